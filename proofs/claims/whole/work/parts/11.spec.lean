/-! WHAT THE RIVER DOES, in the reference's layout of 200 places: 0.. waters, 10.. widths, 20.. flows, 30.. down, 40.. up, 50 hour, 51 logs, 52 seed, 60.. node, 72.. weight, 84.. origin, 96.. toll, 108.. turns, 120.. home, 132.. way -/
abbrev SG : Type := Nat → Int32
/-- the river as told and the plan: nodes, floor, area, toll, rain, tide, orders, hour, gate, width -/
abbrev PR : Type := Nat × SG × SG × SG × SG × SG × Nat × SG × SG × SG
def pn (P : PR) : Nat := P.1
def pfl (P : PR) : SG := P.2.1
def par (P : PR) : SG := P.2.2.1
def pto (P : PR) : SG := P.2.2.2.1
def pra (P : PR) : SG := P.2.2.2.2.1
def pti (P : PR) : SG := P.2.2.2.2.2.1
def pa (P : PR) : Nat := P.2.2.2.2.2.2.1
def poh (P : PR) : SG := P.2.2.2.2.2.2.2.1
def pog (P : PR) : SG := P.2.2.2.2.2.2.2.2.1
def pow (P : PR) : SG := P.2.2.2.2.2.2.2.2.2
def cut (n : Nat) (f : SG) : SG := fun k => if k < n then f k else 0
theorem cut_in {n k : Nat} {f : SG} (h : k < n) : cut n f k = f k := if_pos h
theorem cut_upd {n k : Nat} {f : SG} {v : Int32} (h : k < n) : cut n (upd f k v) = upd (cut n f) k v := by
  funext j
  unfold cut upd
  by_cases hj : j = k
  · subst hj; simp [h]
  · simp [hj]
/-- the class's river and plan: Course c, Orders o -/
def PC (f : Nat → SG) (c o : Nat) : PR := ((f c 0).toNatClampNeg, cut 10 (f (c + 1)), cut 10 (f (c + 2)), cut 9 (f (c + 5)), cut 24 (f (c + 6)), cut 24 (f (c + 7)), (f o 0).toNatClampNeg, cut (f o 0).toNatClampNeg (f (o + 1)), cut (f o 0).toNatClampNeg (f (o + 2)), cut (f o 0).toNatClampNeg (f (o + 3)))
/-- the reference's -/
def PM (f : Nat → SG) : PR := ((f 94 9).toNatClampNeg, cut 10 (f 97), cut 10 (f 98), cut 9 (f 103), cut 24 (f 100), cut 24 (f 101), (f 94 14).toNatClampNeg, cut (f 94 14).toNatClampNeg (f 104), cut (f 94 14).toNatClampNeg (f 105), cut (f 94 14).toNatClampNeg (f 106))
/-- where a State of the class has them: which of its arrays, which place -/
def locl : List (Option (Nat × Nat)) := [some (1, 0), some (1, 1), some (1, 2), some (1, 3), some (1, 4), some (1, 5), some (1, 6), some (1, 7), some (1, 8), some (1, 9), some (3, 0), some (3, 1), some (3, 2), some (3, 3), some (3, 4), some (3, 5), some (3, 6), some (3, 7), some (3, 8), none, some (4, 0), some (4, 1), some (4, 2), some (4, 3), some (4, 4), some (4, 5), some (4, 6), some (4, 7), some (4, 8), none, some (5, 0), some (5, 1), some (5, 2), some (5, 3), some (5, 4), some (5, 5), some (5, 6), some (5, 7), some (5, 8), none, some (6, 0), some (6, 1), some (6, 2), some (6, 3), some (6, 4), some (6, 5), some (6, 6), some (6, 7), some (6, 8), none, some (0, 0), some (7, 0), some (0, 1), none, none, none, none, none, none, none, some (8, 0), some (8, 1), some (8, 2), some (8, 3), some (8, 4), some (8, 5), some (8, 6), some (8, 7), some (8, 8), some (8, 9), some (8, 10), some (8, 11), some (9, 0), some (9, 1), some (9, 2), some (9, 3), some (9, 4), some (9, 5), some (9, 6), some (9, 7), some (9, 8), some (9, 9), some (9, 10), some (9, 11), some (10, 0), some (10, 1), some (10, 2), some (10, 3), some (10, 4), some (10, 5), some (10, 6), some (10, 7), some (10, 8), some (10, 9), some (10, 10), some (10, 11), some (11, 0), some (11, 1), some (11, 2), some (11, 3), some (11, 4), some (11, 5), some (11, 6), some (11, 7), some (11, 8), some (11, 9), some (11, 10), some (11, 11), some (12, 0), some (12, 1), some (12, 2), some (12, 3), some (12, 4), some (12, 5), some (12, 6), some (12, 7), some (12, 8), some (12, 9), some (12, 10), some (12, 11), some (13, 0), some (13, 1), some (13, 2), some (13, 3), some (13, 4), some (13, 5), some (13, 6), some (13, 7), some (13, 8), some (13, 9), some (13, 10), some (13, 11), some (14, 0), some (14, 1), some (14, 2), some (14, 3), some (14, 4), some (14, 5), some (14, 6), some (14, 7), some (14, 8), some (14, 9), some (14, 10), some (14, 11)]
def loc (k : Nat) : Option (Nat × Nat) := locl.getD k none
def cs (f : Nat → SG) (s : Nat) : SG := fun k => match loc k with
  | some q => f (s + q.1) q.2
  | none => 0
theorem loc_lt {k : Nat} {q : Nat × Nat} (h : loc k = some q) : k < 144 := by
  rcases Nat.lt_or_ge k 144 with z | z
  · exact z
  · rw [loc, List.getD_eq_getElem?_getD, List.getElem?_eq_none (by exact z)] at h
    cases h
theorem loc_inj0 : ∀ i, i < 144 → ∀ j, j < 144 → loc i = loc j → (loc i).isSome = true → i = j := by decide +kernel
theorem cs_at {f : Nat → SG} {s k a b : Nat} (h : loc k = some (a, b)) : cs f s k = f (s + a) b := by
  unfold cs
  rw [h]
theorem cs_set {f : Nat → SG} {s k a b : Nat} {v : Int32} (h : loc k = some (a, b)) : cs (hset f (s + a) b v) s = upd (cs f s) k v := by
  funext j
  by_cases hj : j = k
  · subst hj
    rw [cs_at h, hset_eq]
    simp [upd]
  · have e : upd (cs f s) k v j = cs f s j := by simp [upd, hj]
    rw [e]
    unfold cs
    cases hl : loc j with
    | none => rfl
    | some q =>
      obtain ⟨c, d⟩ := q
      show hset f (s + a) b v (s + c) d = f (s + c) d
      by_cases hc : c = a
      · subst hc
        rw [hset_eq]
        have hd : d ≠ b := fun z => hj (loc_inj0 j (loc_lt hl) k (loc_lt h) (by rw [hl, h, z]) (by rw [hl]; rfl))
        simp [upd, hd]
      · rw [hset_ne (by omega)]
/-- what isn't among its places isn't seen -/
theorem loc_2 : ∀ k, k < 144 → ∀ b, loc k ≠ some (2, b) := fun k hk b h => by
  have := (by decide +kernel : ∀ k, k < 144 → (loc k).map (fun q => q.1) ≠ some 2) k hk
  rw [h] at this
  exact this rfl
theorem loc_02 : ∀ k, k < 144 → loc k ≠ some (0, 2) := by decide +kernel
theorem loc_o : ∀ k, k < 144 → ((loc k).map (fun q => q.1)).getD 0 < 15 := by decide +kernel
theorem cs_off {f g : Nat → SG} {s : Nat} (h : ∀ k q, loc k = some q → f (s + q.1) q.2 = g (s + q.1) q.2) : cs f s = cs g s := by
  funext k
  unfold cs
  cases hl : loc k with
  | none => rfl
  | some q => exact h k q hl
theorem loc_w : ∀ g, g < 10 → loc g = some (1, g) := by decide +kernel
theorem loc_10 : ∀ g, g < 9 → loc (10 + g) = some (3, g) := by decide +kernel
theorem loc_20 : ∀ g, g < 9 → loc (20 + g) = some (4, g) := by decide +kernel
theorem loc_30 : ∀ g, g < 9 → loc (30 + g) = some (5, g) := by decide +kernel
theorem loc_40 : ∀ g, g < 9 → loc (40 + g) = some (6, g) := by decide +kernel
theorem loc_60 : ∀ g, g < 12 → loc (60 + g) = some (8, g) := by decide +kernel
theorem loc_72 : ∀ g, g < 12 → loc (72 + g) = some (9, g) := by decide +kernel
theorem loc_84 : ∀ g, g < 12 → loc (84 + g) = some (10, g) := by decide +kernel
theorem loc_96 : ∀ g, g < 12 → loc (96 + g) = some (11, g) := by decide +kernel
theorem loc_108 : ∀ g, g < 12 → loc (108 + g) = some (12, g) := by decide +kernel
theorem loc_120 : ∀ g, g < 12 → loc (120 + g) = some (13, g) := by decide +kernel
theorem loc_132 : ∀ g, g < 12 → loc (132 + g) = some (14, g) := by decide +kernel
def ms (f : Nat → SG) (r : Nat) : SG := fun k => f 95 (r + k)
/-- which places say something, where there are c logs -/
def rel (c k : Nat) : Prop := k < 10 ∨ (10 ≤ k ∧ k < 19) ∨ (20 ≤ k ∧ k < 29) ∨ (30 ≤ k ∧ k < 39) ∨ (40 ≤ k ∧ k < 49) ∨ k = 50 ∨ k = 51 ∨ k = 52 ∨ (60 ≤ k ∧ k < 144 ∧ (k - 60) % 12 < c)
def relD (c k : Nat) : Decidable (rel c k) := by unfold rel; infer_instance
def mk (σ : SG) : SG := fun k => @ite _ (rel (σ 51).toNatClampNeg k) (relD _ k) (σ k) 0
theorem mk_in {σ : SG} {k : Nat} (h : rel (σ 51).toNatClampNeg k) : mk σ k = σ k := if_pos h
theorem mk_out {σ : SG} {k : Nat} (h : ¬ rel (σ 51).toNatClampNeg k) : mk σ k = 0 := if_neg h
theorem rel51 (c : Nat) : rel c 51 := by unfold rel; omega
theorem mk_51 (σ : SG) : mk σ 51 = σ 51 := mk_in (rel51 _)
theorem mk_upd {σ : SG} {k : Nat} {v : Int32} (h : rel (σ 51).toNatClampNeg k) (hk : k ≠ 51) : mk (upd σ k v) = upd (mk σ) k v := by
  funext j
  have e : upd σ k v 51 = σ 51 := by simp [upd, Ne.symm hk]
  by_cases hr : rel (σ 51).toNatClampNeg j
  · rw [mk_in (by rw [e]; exact hr)]
    by_cases hj : j = k
    · subst hj; simp [upd]
    · simp only [upd, hj, if_false]; exact (mk_in hr).symm
  · rw [mk_out (by rw [e]; exact hr)]
    have hj : j ≠ k := fun z => hr (z ▸ h)
    simp only [upd, hj, if_false]; exact (mk_out hr).symm
theorem mk_mk (σ : SG) : mk (mk σ) = mk σ := by
  funext k
  by_cases h : rel (σ 51).toNatClampNeg k
  · rw [mk_in (by rw [mk_51]; exact h)]
  · rw [mk_out (by rw [mk_51]; exact h), mk_out h]
theorem mk_congr {σ τ : SG} (h51 : σ 51 = τ 51) (h : ∀ k, rel (σ 51).toNatClampNeg k → σ k = τ k) : mk σ = mk τ := by
  funext k
  by_cases hr : rel (σ 51).toNatClampNeg k
  · rw [mk_in hr, mk_in (by rw [← h51]; exact hr), h k hr]
  · rw [mk_out hr, mk_out (by rw [← h51]; exact hr)]
/-! the hour -/
def levS (P : PR) (σ : SG) (k : Nat) : Int32 := if k = pn P - 1 then pti P ((σ 50).toNatClampNeg % 24) else pfl P k + σ k / par P k
def planS (P : PR) : Nat → SG → SG
  | 0, σ => σ
  | m + 1, σ => if poh P m = σ 50 then upd (planS P m σ) (10 + (pog P m).toNatClampNeg) (pow P m) else planS P m σ
def heldB (H : Int32) (k : Nat) : Prop := (H >>> (nI k &&& 31)) &&& 1 = 1
def heldD (H : Int32) (k : Nat) : Decidable (heldB H k) := by unfold heldB; infer_instance
def setS (P : PR) (H hw : Int32) (σ : SG) : SG := fun k => if 10 ≤ k ∧ k < 10 + (pn P - 1) then @ite _ (heldB H (k - 10)) (heldD _ _) hw (planS P (pa P) σ k) else planS P (pa P) σ k
def minS (a b : Int32) : Int32 := if a < b then a else b
def flowV (P : PR) (lev : SG) (k : Nat) (σ : SG) : Int32 :=
  let most : Int64 := (lev k - lev (k + 1)).toInt64 * (σ (10 + k)).toInt64
  let below : Int64 := if k + 1 = pn P - 1 then -most else (σ (k + 1)).toInt64
  Int64.toInt32 (if (σ k).toInt64 < most then (σ k).toInt64 else if most < -below then -below else most)
def flow1 (P : PR) (lev : SG) (k : Nat) (σ : SG) : SG :=
  let v := flowV P lev k σ
  upd (upd (upd (upd (upd σ (20 + k) v) k (σ k - v)) (k + 1) (σ (k + 1) + (if k + 1 = pn P - 1 then 0 else v))) (30 + k) (minS 99999999 (σ (30 + k) + (if 0 < v then v else 0)))) (40 + k) (minS 99999999 (σ (40 + k) + (if v < 0 then -v else 0)))
def flowS (P : PR) (lev : SG) : Nat → SG → SG
  | 0, σ => σ
  | m + 1, σ => flow1 P lev m (flowS P lev m σ)
def wayS (P : PR) (σ : SG) (k : Nat) (wt : Int32) : Int32 :=
  let down : Int32 := if k = pn P - 1 then 0 else σ (20 + k)
  let up : Int32 := if k = 0 then 0 else -(σ (20 + k - 1))
  if wt ≤ down ∧ up ≤ down then 1 else if wt ≤ up then -1 else 0
def log1 (P : PR) (l : Nat) (σ : SG) : SG :=
  let k := σ (60 + l)
  let way := wayS P σ k.toNatClampNeg (σ (72 + l))
  if way = 0 then σ else
    let k2 := k + way
    upd (upd (upd (upd (upd σ (96 + l) (σ (96 + l) + way * pto P (if 0 < way then k.toNatClampNeg else (k - 1).toNatClampNeg))) (108 + l) (σ (108 + l) + (if σ (132 + l) = -way then 1 else 0))) (132 + l) way) (60 + l) k2) (120 + l) (σ (120 + l) + (if k2 = σ (84 + l) then 1 else 0))
def logsS (P : PR) : Nat → SG → SG
  | 0, σ => σ
  | m + 1, σ => log1 P m (logsS P m σ)
def rainS (P : PR) (σ : SG) : SG := upd σ 0 (let v := σ 0 + pra P ((σ 50).toNatClampNeg % 24) - 50; if v < 0 then 0 else v)
def hourS (P : PR) (H hw : Int32) (σ : SG) : SG :=
  let σ1 := setS P H hw σ
  let σ2 := flowS P (levS P σ1) (pn P - 1) σ1
  let σ3 := logsS P (σ2 51).toNatClampNeg σ2
  let σ4 := rainS P σ3
  upd σ4 50 (σ4 50 + 1)
def hoursS (P : PR) (H hw : Int32) : Nat → SG → SG
  | 0, σ => σ
  | m + 1, σ => hourS P H hw (hoursS P H hw m σ)
/-! what holds of a river's state -/
def sumW : Nat → SG → Int
  | 0, _ => 0
  | m + 1, σ => sumW m σ + (σ m).toInt
/-- waters are whole parts, at most B in all; the hour is at most T; every log lies in a node -/
def SOK (P : PR) (B : Int) (T : Nat) (σ : SG) : Prop := (∀ k, k < pn P - 1 → 0 ≤ (σ k).toInt) ∧ sumW (pn P - 1) σ ≤ B ∧ (∃ t : Nat, t ≤ T ∧ σ 50 = nI t) ∧ (∃ c : Nat, c ≤ 12 ∧ σ 51 = nI c ∧ ∀ l, l < c → (∃ k : Nat, k < pn P ∧ σ (60 + l) = nI k) ∧ 0 < σ (72 + l)) ∧ (∀ k, k < 9 → ∃ w : Nat, w ≤ 9 ∧ σ (10 + k) = nI w)
/-- the river as told -/
def POK (P : PR) : Prop := (2 ≤ pn P ∧ pn P ≤ 10) ∧ (∀ k, k < pn P - 1 → (∃ a : Nat, 1 ≤ a ∧ a ≤ 99 ∧ par P k = nI a) ∧ ∃ a : Nat, a ≤ 999 ∧ pfl P k = nI a) ∧ (∀ k, k < 24 → (∃ a : Nat, a ≤ 99 ∧ pra P k = nI a) ∧ ∃ a : Nat, a ≤ 999 ∧ pti P k = nI a) ∧ pa P ≤ 30 ∧ ∀ i, i < pa P → (∃ a : Nat, a < pn P - 1 ∧ pog P i = nI a) ∧ ∃ a : Nat, a ≤ 9 ∧ pow P i = nI a
