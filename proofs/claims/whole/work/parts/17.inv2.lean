theorem zi_of {x : Int32} (h : 0 ≤ x.toInt) : x = nI x.toNatClampNeg ∧ x.toInt = (x.toNatClampNeg : Int) ∧ x.toNatClampNeg < 2 ^ 31 := by
  have h1 : x.toInt = (x.toNatClampNeg : Int) := by
    show x.toInt = ((x.toInt.toNat : Nat) : Int)
    omega
  refine ⟨?_, h1, i_cl x⟩
  rw [← Int32.toInt_inj, nI_toInt (i_cl x), h1]
theorem sumW_upd {m j : Nat} {σ : SG} {v : Int32} : sumW m (upd σ j v) = sumW m σ + (if j < m then v.toInt - (σ j).toInt else 0) := by
  induction m with
  | zero => simp [sumW]
  | succ m ih =>
    rw [sumW, ih, sumW]
    by_cases h : j = m
    · subst h
      rw [upd_eq, if_neg (by omega), if_pos (by omega)]
      omega
    · rw [upd_ne (by omega)]
      by_cases h2 : j < m
      · rw [if_pos h2, if_pos (by omega)]; omega
      · rw [if_neg h2, if_neg (by omega)]; omega
theorem sumW_congr {m : Nat} {σ τ : SG} (h : ∀ j, j < m → σ j = τ j) : sumW m σ = sumW m τ := by
  induction m with
  | zero => rfl
  | succ m ih => rw [sumW, sumW, ih (fun j hj => h j (by omega)), h m (by omega)]
theorem sumW_nn {m : Nat} {σ : SG} (h : ∀ k, k < m → 0 ≤ (σ k).toInt) : 0 ≤ sumW m σ := by
  induction m with
  | zero => exact Int.le_refl 0
  | succ m ih => rw [sumW]; have := ih (fun k hk => h k (by omega)); have := h m (by omega); omega
theorem sumW_one {m j : Nat} {σ : SG} (h : ∀ k, k < m → 0 ≤ (σ k).toInt) (hj : j < m) : (σ j).toInt ≤ sumW m σ := by
  have h0 : sumW m (upd σ j 0) = sumW m σ - (σ j).toInt := by rw [sumW_upd, if_pos hj, zi_z]; omega
  have h1 : 0 ≤ sumW m (upd σ j 0) := sumW_nn (fun k hk => by
    by_cases e : k = j
    · subst e; rw [upd_eq]; exact Int.le_refl 0
    · rw [upd_ne e]; exact h k hk)
  omega
theorem sumW_two {m i j : Nat} {σ : SG} (h : ∀ k, k < m → 0 ≤ (σ k).toInt) (hi : i < m) (hj : j < m) (hij : i ≠ j) : (σ i).toInt + (σ j).toInt ≤ sumW m σ := by
  have h0 : sumW m (upd σ j 0) = sumW m σ - (σ j).toInt := by rw [sumW_upd, if_pos hj, zi_z]; omega
  have h1 : (upd σ j 0 i).toInt ≤ sumW m (upd σ j 0) := sumW_one (fun k hk => by
    by_cases e : k = j
    · subst e; rw [upd_eq]; exact Int.le_refl 0
    · rw [upd_ne e]; exact h k hk) hi
  rw [upd_ne hij] at h1
  omega
theorem planS_wid {P : PR} {σ : SG} {m : Nat} (hP : POK P) (hm : m ≤ pa P) (h : ∀ k, k < 9 → ∃ w : Nat, w ≤ 9 ∧ σ (10 + k) = nI w) : ∀ k, k < 9 → ∃ w : Nat, w ≤ 9 ∧ planS P m σ (10 + k) = nI w := by
  induction m with
  | zero => exact h
  | succ m ih =>
    intro k hk
    rw [planS]
    obtain ⟨⟨g, hg, eg⟩, ⟨a, ha, ea⟩⟩ := hP.2.2.2.2 m (by omega)
    have hn := hP.1.2
    split
    · rw [eg, nI_clamp (by omega), ea]
      by_cases e : k = g
      · subst e; exact ⟨a, ha, upd_eq⟩
      · rw [upd_ne (by omega)]; exact ih (by omega) k hk
    · exact ih (by omega) k hk
theorem setS_wid {P : PR} {H hw : Int32} {σ : SG} (hP : POK P) (hh : ∃ w : Nat, w ≤ 9 ∧ hw = nI w) (h : ∀ k, k < 9 → ∃ w : Nat, w ≤ 9 ∧ σ (10 + k) = nI w) : ∀ k, k < 9 → ∃ w : Nat, w ≤ 9 ∧ setS P H hw σ (10 + k) = nI w := by
  intro k hk
  have := planS_wid hP (Nat.le_refl _) h k hk
  unfold setS
  split
  · by_cases hb : heldB H (10 + k - 10)
    · obtain ⟨w, h1, h2⟩ := hh
      exact ⟨w, h1, (if_pos hb).trans h2⟩
    · obtain ⟨w, h1, h2⟩ := this
      exact ⟨w, h1, (if_neg hb).trans h2⟩
  · exact this
/-- levels are whole numbers, not large -/
theorem lev_nn {P : PR} {σ : SG} {B : Int} {t k : Nat} (hP : POK P) (h0 : ∀ k, k < pn P - 1 → 0 ≤ (σ k).toInt) (hs : sumW (pn P - 1) σ ≤ B) (hB : B ≤ 1073741824) (h50 : σ 50 = nI t) (ht : t < 2 ^ 31) (hk : k < pn P) : ∃ y : Nat, y ≤ 1073742823 ∧ levS P σ k = nI y ∧ (k = pn P - 1 → y ≤ 999) := by
  unfold levS
  by_cases c : k = pn P - 1
  · rw [if_pos c, h50, nI_clamp ht]
    obtain ⟨a, ha, ea⟩ := (hP.2.2.1 (t % 24) (Nat.mod_lt _ (by decide))).2
    exact ⟨a, by omega, ea, fun _ => ha⟩
  · rw [if_neg c]
    obtain ⟨⟨a, a1, a2, ea⟩, ⟨f, hf, ef⟩⟩ := hP.2.1 k (by omega)
    obtain ⟨x1, x2, x3⟩ := zi_of (h0 k (by omega))
    have := sumW_one h0 (show k < pn P - 1 by omega)
    rw [ef, ea, x1, pk_div x3 (by omega) (by omega), nI_add]
    have hd : (σ k).toNatClampNeg / a ≤ (σ k).toNatClampNeg := Nat.div_le_self _ _
    exact ⟨_, by omega, rfl, fun z => absurd z c⟩
/-- what a flow's number is -/
theorem flowV_of {P : PR} {lev τ : SG} {k : Nat} {y1 y2 : Nat} {B : Int} (hk : k < pn P - 1) (h1 : lev k = nI y1) (h2 : lev (k + 1) = nI y2) (b1 : y1 ≤ 1073742823) (b2 : y2 ≤ 1073742823) (b3 : k + 1 = pn P - 1 → y2 ≤ 999) (hw : ∃ w : Nat, w ≤ 9 ∧ τ (10 + k) = nI w) (h0 : ∀ j, j < pn P - 1 → 0 ≤ (τ j).toInt) :
    ((lev k - lev (k + 1)).toInt64 * (τ (10 + k)).toInt64).toInt ≥ -9663685407 ∧ (k + 1 = pn P - 1 → -8991 ≤ ((lev k - lev (k + 1)).toInt64 * (τ (10 + k)).toInt64).toInt) := by
  obtain ⟨w, hw9, ew⟩ := hw
  have e1 : (nI y1 - nI y2).toInt = (y1 : Int) - y2 := by rw [zi_sub, nI_toInt (by omega), nI_toInt (by omega)] <;> rw [nI_toInt (by omega), nI_toInt (by omega)] <;> omega
  rw [h1, h2, zi_mulL, e1, ew, nI_toInt (by omega)]
  have hz : ∀ x : Int, ∀ w : Nat, w ≤ 9 → -1073742823 ≤ x → -9663685407 ≤ x * w ∧ (-999 ≤ x → -8991 ≤ x * w) := by
    intro x w hw hx
    rcases (show w = 0 ∨ w = 1 ∨ w = 2 ∨ w = 3 ∨ w = 4 ∨ w = 5 ∨ w = 6 ∨ w = 7 ∨ w = 8 ∨ w = 9 by omega) with rfl | rfl | rfl | rfl | rfl | rfl | rfl | rfl | rfl | rfl <;> omega
  obtain ⟨z1, z2⟩ := hz ((y1 : Int) - y2) w hw9 (by omega)
  exact ⟨z1, fun c => z2 (by have := b3 c; omega)⟩
theorem flow1_w {P : PR} {lev τ : SG} {k j : Nat} (hk : k < pn P - 1) (hn : pn P ≤ 10) (hj : j < pn P - 1) : flow1 P lev k τ j = if j = k then τ k - flowV P lev k τ else if j = k + 1 then τ (k + 1) + flowV P lev k τ else τ j := by
  unfold flow1
  rw [upd_ne (by omega), upd_ne (by omega)]
  by_cases e : j = k
  · subst e; rw [if_pos rfl, upd_ne (by omega), upd_eq]
  · rw [if_neg e]
    by_cases e2 : j = k + 1
    · subst e2; rw [upd_eq, if_pos rfl, if_neg (by omega)]
    · rw [if_neg e2, upd_ne e2, upd_ne e, upd_ne (by omega)]
theorem flow1_ok {P : PR} {lev τ : SG} {k : Nat} {y1 y2 : Nat} {B : Int} (hn : pn P ≤ 10) (hk : k < pn P - 1) (h1 : lev k = nI y1) (h2 : lev (k + 1) = nI y2) (b1 : y1 ≤ 1073742823) (b2 : y2 ≤ 1073742823) (b3 : k + 1 = pn P - 1 → y2 ≤ 999) (hw : ∃ w : Nat, w ≤ 9 ∧ τ (10 + k) = nI w) (h0 : ∀ j, j < pn P - 1 → 0 ≤ (τ j).toInt) (hs : sumW (pn P - 1) τ ≤ B) (hB : B ≤ 1073741824) :
    (∀ j, j < pn P - 1 → 0 ≤ (flow1 P lev k τ j).toInt) ∧ sumW (pn P - 1) (flow1 P lev k τ) ≤ B + (if k + 1 = pn P - 1 then 8991 else 0) := by
  obtain ⟨z1, z2⟩ := flowV_of (B := B) hk h1 h2 b1 b2 b3 hw h0
  obtain ⟨-, -, -, q1, q2, q3⟩ := flow_cls (F := (lev k - lev (k + 1)).toInt64 * (τ (10 + k)).toInt64) (w := τ k) (w1 := τ (k + 1)) (sea := k + 1 = pn P - 1) (V := flowV P lev k τ) (fun c => by have := z2 c; omega) (by omega) (h0 k hk) (fun c => h0 (k + 1) (by omega)) rfl rfl rfl
  have w0 := h0 k hk
  have s0 := sumW_one h0 hk
  generalize hV : flowV P lev k τ = V at q1 q2 q3
  have vr := zi_rng V
  have vlo : -1073750815 ≤ V.toInt := by
    by_cases c : k + 1 = pn P - 1
    · have := q3 c; have := z2 c; omega
    · have := q2 c; have := sumW_one h0 (show k + 1 < pn P - 1 by omega); omega
  have vhi : (τ k).toInt - V.toInt < 2147483648 := by
    by_cases c : k + 1 = pn P - 1
    · have := q3 c; have := z2 c; omega
    · have := q2 c; have := sumW_two h0 hk (show k + 1 < pn P - 1 by omega) (by omega); omega
  have e1 : (τ k - V).toInt = (τ k).toInt - V.toInt := zi_sub (by omega) vhi
  by_cases c : k + 1 = pn P - 1
  · rw [if_pos c]
    have := q3 c
    have := z2 c
    refine ⟨fun j hj => ?_, ?_⟩
    · rw [flow1_w hk hn hj, hV]
      by_cases e : j = k
      · rw [if_pos e, e1]; omega
      · rw [if_neg e, if_neg (by omega)]; exact h0 j hj
    · rw [sumW_congr (τ := upd τ k (τ k - V)) (fun j hj => by
        rw [flow1_w hk hn hj, hV]
        by_cases e : j = k
        · subst e; rw [if_pos rfl, upd_eq]
        · rw [if_neg e, if_neg (by omega), upd_ne e]), sumW_upd, if_pos hk, e1]
      omega
  · rw [if_neg c]
    have hk1 : k + 1 < pn P - 1 := by omega
    have := q2 c
    have w1 := h0 (k + 1) hk1
    have s2 := sumW_two h0 hk hk1 (by omega)
    have e2 : (τ (k + 1) + V).toInt = (τ (k + 1)).toInt + V.toInt := zi_add (by omega) (by omega)
    refine ⟨fun j hj => ?_, ?_⟩
    · rw [flow1_w hk hn hj, hV]
      by_cases e : j = k
      · rw [if_pos e, e1]; omega
      · rw [if_neg e]
        by_cases e' : j = k + 1
        · rw [if_pos e', e2]; omega
        · rw [if_neg e']; exact h0 j hj
    · rw [sumW_congr (τ := upd (upd τ k (τ k - V)) (k + 1) (τ (k + 1) + V)) (fun j hj => by
        rw [flow1_w hk hn hj, hV]
        by_cases e : j = k
        · subst e; rw [if_pos rfl, upd_ne (by omega), upd_eq]
        · rw [if_neg e]
          by_cases e' : j = k + 1
          · subst e'; rw [if_pos rfl, upd_eq]
          · rw [if_neg e', upd_ne e', upd_ne e]), sumW_upd, if_pos hk1, sumW_upd, if_pos hk, upd_ne (by omega), e1, e2]
      omega
theorem flowS_ok {P : PR} {lev σ : SG} {B : Int} {m : Nat} (hn : pn P ≤ 10) (hl : ∀ k, k < pn P → ∃ y : Nat, y ≤ 1073742823 ∧ lev k = nI y ∧ (k = pn P - 1 → y ≤ 999)) (hw : ∀ k, k < 9 → ∃ w : Nat, w ≤ 9 ∧ σ (10 + k) = nI w) (h0 : ∀ j, j < pn P - 1 → 0 ≤ (σ j).toInt) (hs : sumW (pn P - 1) σ ≤ B) (hB : B ≤ 1073741824) (hm : m ≤ pn P - 1) :
    (∀ j, j < pn P - 1 → 0 ≤ (flowS P lev m σ j).toInt) ∧ sumW (pn P - 1) (flowS P lev m σ) ≤ B + (if 0 < m ∧ m = pn P - 1 then 8991 else 0) := by
  induction m with
  | zero => exact ⟨h0, by rw [if_neg (by omega)]; show sumW _ σ ≤ _; omega⟩
  | succ m ih =>
    obtain ⟨i1, i2⟩ := ih (by omega)
    rw [if_neg (by omega)] at i2
    obtain ⟨y1, b1, e1, -⟩ := hl m (by omega)
    obtain ⟨y2, b2, e2, b3⟩ := hl (m + 1) (by omega)
    have hwm : ∃ w : Nat, w ≤ 9 ∧ flowS P lev m σ (10 + m) = nI w := by
      rw [flowS_off (by omega) (by omega)]
      exact hw m (by omega)
    obtain ⟨j1, j2⟩ := flow1_ok hn (show m < pn P - 1 by omega) e1 e2 b1 b2 b3 hwm i1 (show sumW _ _ ≤ B by omega) hB
    refine ⟨j1, ?_⟩
    rw [flowS]
    by_cases c : m + 1 = pn P - 1
    · rw [if_pos c] at j2; rw [if_pos (by omega)]; exact j2
    · rw [if_neg c] at j2; rw [if_neg (by omega)]; exact j2
theorem log1_at {P : PR} {σ : SG} {l q : Nat} (hq : q < pn P) (hn : pn P ≤ 10) (e : σ (60 + l) = nI q) (hw : 0 < σ (72 + l)) : ∃ k : Nat, k < pn P ∧ log1 P l σ (60 + l) = nI k := by
  unfold log1
  dsimp only
  rw [e, nI_clamp (by omega)]
  rcases wayS_cases (P := P) (σ := σ) hw hq with ⟨ew, k1⟩ | ⟨ew, k1⟩ | ew
  · rw [ew, if_neg (by decide), upd_ne (by omega), upd_eq]
    exact ⟨q + 1, by omega, nI_1 q⟩
  · rw [ew, if_neg (by decide), upd_ne (by omega), upd_eq]
    refine ⟨q - 1, by omega, ?_⟩
    obtain ⟨r, rfl⟩ : ∃ r, q = r + 1 := ⟨q - 1, by omega⟩
    rw [Nat.add_sub_cancel]
    exact pk_m1 r
  · rw [ew, if_pos rfl]
    exact ⟨q, hq, e⟩
theorem logsS_at {P : PR} {σ : SG} {c m : Nat} (hn : pn P ≤ 10) (hc : c ≤ 12) (h : ∀ l, l < c → (∃ k : Nat, k < pn P ∧ σ (60 + l) = nI k) ∧ 0 < σ (72 + l)) (hm : m ≤ c) : ∀ l, l < c → ∃ k : Nat, k < pn P ∧ logsS P m σ (60 + l) = nI k := by
  induction m with
  | zero => exact fun l hl => (h l hl).1
  | succ m ih =>
    intro l hl
    rw [logsS]
    by_cases e : l = m
    · subst e
      obtain ⟨q, hq, eq⟩ := ih (by omega) l hl
      exact log1_at hq hn eq (by rw [logsS_off (by omega) (by omega)]; exact (h l hl).2)
    · rw [log1_off (by omega)]
      exact ih (by omega) l hl
theorem hour_SOK {P : PR} {σ : SG} {B : Int} {T : Nat} {H hw : Int32} (hP : POK P) (hS : SOK P B T σ) (hB : B ≤ 1073741824) (hT : T < 2147483646) (hh : ∃ w : Nat, w ≤ 9 ∧ hw = nI w) : SOK P (B + 9040) (T + 1) (hourS P H hw σ) := by
  obtain ⟨h0, hs, ⟨t, ht, h50⟩, ⟨c, hc12, h51, hlog⟩, hwid⟩ := id hS
  have hn := hP.1
  generalize hσ1 : setS P H hw σ = σ1
  have w1 := setS_wid (H := H) hP hh hwid
  rw [hσ1] at w1
  have o1 : ∀ j, j < 10 ∨ 19 ≤ j → σ1 j = σ j := fun j hj => by rw [← hσ1]; exact setS_off hP hj
  have h01 : ∀ k, k < pn P - 1 → 0 ≤ (σ1 k).toInt := fun k hk => by rw [o1 k (by omega)]; exact h0 k hk
  have hs1 : sumW (pn P - 1) σ1 ≤ B := by rw [sumW_congr (fun j hj => o1 j (by omega))]; exact hs
  generalize hσ2 : flowS P (levS P σ1) (pn P - 1) σ1 = σ2
  obtain ⟨h02, hs2⟩ := flowS_ok (m := pn P - 1) hn.2 (fun k hk => lev_nn hP h01 hs1 hB (by rw [o1 50 (by omega)]; exact h50) (by omega) hk) w1 h01 hs1 hB (Nat.le_refl _)
  rw [hσ2, if_pos (by omega)] at hs2
  rw [hσ2] at h02
  have o2 : ∀ j, 49 ≤ j → σ2 j = σ j := fun j hj => by rw [← hσ2, flowS_off (by omega) (by omega)]; exact o1 j (by omega)
  have o2w : ∀ k, k < 9 → σ2 (10 + k) = σ1 (10 + k) := fun k hk => by rw [← hσ2, flowS_off (by omega) (by omega)]
  have hlog2 : ∀ l, l < c → (∃ k : Nat, k < pn P ∧ σ2 (60 + l) = nI k) ∧ 0 < σ2 (72 + l) := fun l hl => by rw [o2 _ (by omega), o2 _ (by omega)]; exact hlog l hl
  have e51 : (σ2 51).toNatClampNeg = c := by rw [o2 51 (by omega), h51, nI_clamp (by omega)]
  generalize hσ3 : logsS P c σ2 = σ3
  have o3 : ∀ j, j < 60 → σ3 j = σ2 j := fun j hj => by rw [← hσ3]; exact logsS_off (by omega) (by omega)
  have hh' : hourS P H hw σ = upd (rainS P σ3) 50 (rainS P σ3 50 + 1) := by
    unfold hourS
    dsimp only
    rw [hσ1, hσ2, e51, hσ3]
  have g50 : σ3 50 = nI t := by rw [o3 50 (by omega), o2 50 (by omega), h50]
  rw [hh']
  have o4 : ∀ j, j ≠ 0 → j ≠ 50 → upd (rainS P σ3) 50 (rainS P σ3 50 + 1) j = σ3 j := fun j h1 h2 => by rw [upd_ne h2]; exact rainS_off h1
  obtain ⟨ra, hra, era⟩ := (hP.2.2.1 (t % 24) (Nat.mod_lt _ (by decide))).1
  have z3 : 0 ≤ (σ3 0).toInt := by rw [o3 0 (by omega)]; exact h02 0 (by omega)
  have s3 : (σ3 0).toInt ≤ B + 8991 := by rw [o3 0 (by omega)]; have := sumW_one h02 (show 0 < pn P - 1 by omega); omega
  have e0 : ∃ x : Int, (upd (rainS P σ3) 50 (rainS P σ3 50 + 1) 0).toInt = x ∧ 0 ≤ x ∧ x ≤ (σ3 0).toInt + 49 := by
    refine ⟨_, rfl, ?_⟩
    rw [upd_ne (by omega)]
    unfold rainS
    rw [upd_eq, g50, nI_clamp (by omega), era]
    dsimp only
    have t1 : (σ3 0 + nI ra).toInt = (σ3 0).toInt + ra := by rw [zi_add, nI_toInt (by omega)] <;> rw [nI_toInt (by omega)] <;> omega
    have k50 : (50 : Int32).toInt = 50 := rfl
    have t2 : (σ3 0 + nI ra - 50).toInt = (σ3 0).toInt + ra - 50 := by
      rw [zi_sub (by rw [t1, k50]; omega) (by rw [t1, k50]; omega), t1, k50]
    split
    · rw [zi_z]; omega
    · next c => rw [Int32.lt_iff_toInt_lt, zi_z, t2] at c; rw [t2]; omega
  obtain ⟨x0, ex0, hx0, hx1⟩ := e0
  refine ⟨fun k hk => ?_, ?_, ⟨t + 1, by omega, ?_⟩, ⟨c, hc12, ?_, fun l hl => ⟨?_, ?_⟩⟩, fun k hk => ?_⟩
  · by_cases e : k = 0
    · subst e; rw [ex0]; exact hx0
    · rw [o4 k e (by omega), o3 k (by omega)]; exact h02 k hk
  · rw [sumW_congr (τ := upd σ3 0 (upd (rainS P σ3) 50 (rainS P σ3 50 + 1) 0)) (fun j hj => by
      by_cases e : j = 0
      · subst e; rw [upd_eq]
      · rw [o4 j e (by omega), upd_ne e]), sumW_upd, if_pos (by omega), ex0, sumW_congr (τ := σ2) (fun j hj => o3 j (by omega))]
    omega
  · rw [upd_eq, rainS_off (by omega), g50]
    exact nI_1 t
  · rw [o4 51 (by omega) (by omega), o3 51 (by omega), o2 51 (by omega), h51]
  · rw [o4 _ (by omega) (by omega), ← hσ3]
    exact logsS_at hn.2 hc12 hlog2 (Nat.le_refl _) l hl
  · rw [o4 _ (by omega) (by omega), ← hσ3, logsS_off (by omega) (by omega)]
    exact (hlog2 l hl).2
  · rw [o4 _ (by omega) (by omega), o3 _ (by omega), o2w k hk]
    exact w1 k hk
theorem hours_SOK {P : PR} {σ : SG} {B : Int} {T : Nat} {H hw : Int32} (hP : POK P) (hS : SOK P B T σ) (hh : ∃ w : Nat, w ≤ 9 ∧ hw = nI w) : ∀ n : Nat, B + 9040 * n ≤ 1073741824 → T + n < 2147483646 → SOK P (B + 9040 * n) (T + n) (hoursS P H hw n σ) := by
  intro n
  induction n with
  | zero =>
    intro _ _
    show SOK P (B + 9040 * ((0 : Nat) : Int)) (T + 0) σ
    simpa using hS
  | succ n ih =>
    intro h1 h2
    have := hour_SOK (H := H) hP (ih (by omega) (by omega)) (by omega) (by omega) hh
    rw [hoursS]
    rw [show B + 9040 * ((n + 1 : Nat) : Int) = B + 9040 * (n : Int) + 9040 by omega]
    exact this
