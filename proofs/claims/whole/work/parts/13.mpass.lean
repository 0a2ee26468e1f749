theorem k_0 : (0 : Int32) = nI 0 := rfl
theorem k_1 : (1 : Int32) = nI 1 := rfl
theorem k_2 : (2 : Int32) = nI 2 := rfl
theorem k_3 : (3 : Int32) = nI 3 := rfl
theorem k_4 : (4 : Int32) = nI 4 := rfl
theorem k_5 : (5 : Int32) = nI 5 := rfl
theorem k_6 : (6 : Int32) = nI 6 := rfl
theorem k_8 : (8 : Int32) = nI 8 := rfl
theorem k_9 : (9 : Int32) = nI 9 := rfl
theorem k_10 : (10 : Int32) = nI 10 := rfl
theorem k_12 : (12 : Int32) = nI 12 := rfl
theorem k_20 : (20 : Int32) = nI 20 := rfl
theorem k_24 : (24 : Int32) = nI 24 := rfl
theorem k_30 : (30 : Int32) = nI 30 := rfl
theorem k_40 : (40 : Int32) = nI 40 := rfl
theorem k_50 : (50 : Int32) = nI 50 := rfl
theorem k_51 : (51 : Int32) = nI 51 := rfl
theorem k_52 : (52 : Int32) = nI 52 := rfl
theorem k_60 : (60 : Int32) = nI 60 := rfl
theorem k_72 : (72 : Int32) = nI 72 := rfl
theorem k_84 : (84 : Int32) = nI 84 := rfl
theorem k_96 : (96 : Int32) = nI 96 := rfl
theorem k_99 : (99 : Int32) = nI 99 := rfl
theorem k_100 : (100 : Int32) = nI 100 := rfl
theorem k_108 : (108 : Int32) = nI 108 := rfl
theorem k_120 : (120 : Int32) = nI 120 := rfl
theorem k_132 : (132 : Int32) = nI 132 := rfl
theorem k_200 : (200 : Int32) = nI 200 := rfl
theorem k_400 : (400 : Int32) = nI 400 := rfl
theorem k_999 : (999 : Int32) = nI 999 := rfl
theorem k_9999 : (9999 : Int32) = nI 9999 := rfl

theorem i_le {x : Int32} {k : Nat} (hk : k < 2 ^ 31) : x ≤ nI k ↔ x.toNatClampNeg ≤ k := by
  rw [Int32.le_iff_toInt_le, nI_toInt hk]
  show x.toInt ≤ (k : Int) ↔ x.toInt.toNat ≤ k
  omega
theorem i_pos {x : Int32} (h : 0 < x.toNatClampNeg) : x = nI x.toNatClampNeg := by
  rw [← Int32.toInt_inj]
  have h1 : x.toNatClampNeg = x.toInt.toNat := rfl
  have h2 : x.toNatClampNeg < 2 ^ 31 := by
    rw [h1]
    have := x.toInt_lt
    omega
  rw [nI_toInt h2, h1]
  omega
theorem i_cl (x : Int32) : x.toNatClampNeg < 2 ^ 31 := by
  show x.toInt.toNat < 2 ^ 31
  have := x.toInt_lt
  omega
theorem ldown {P : Nat → Prop} (N : Nat) (h0 : P N) (hs : ∀ k, k < N → P (k + 1) → P k) : ∀ k, k ≤ N → P k := by
  intro k hk
  obtain ⟨d, rfl⟩ := Nat.exists_eq_add_of_le hk
  clear hk
  induction d generalizing k with
  | zero => exact h0
  | succ d ih =>
    refine hs k (by omega) (ih (k + 1) ?_ ?_)
    · rw [show k + 1 + d = k + (d + 1) by omega]; exact h0
    · rw [show k + 1 + d = k + (d + 1) by omega]; exact hs
theorem i_m24 {t : Nat} (h : t < 2 ^ 31) : nI t - nI t / 24 * 24 = nI (t % 24) := pk_rem (d := 24) h (by decide) (by decide)
/-! the reference's rows -/
theorem ms_set {f : Nat → SG} {ρ k : Nat} {v : Int32} : ms (hset f 95 (ρ + k) v) ρ = upd (ms f ρ) k v := by
  funext j
  unfold ms upd
  rw [hset_eq]
  unfold upd
  by_cases hj : j = k
  · subst hj; simp
  · rw [if_neg hj, if_neg (by omega)]
/-- a row of the reference's states changes, nothing else (but the falls) -/
def FM (ρ : Nat) (h u : AH) : Prop := u.2 = h.2 ∧ (∀ i, i ≠ 95 → i ≠ 108 → u.1 i = h.1 i) ∧ ∀ j, (j < ρ ∨ ρ + 200 ≤ j) → u.1 95 j = h.1 95 j
theorem FM.rf {ρ : Nat} {h : AH} : FM ρ h h := ⟨rfl, fun _ _ _ => rfl, fun _ _ => rfl⟩
theorem FM.tr {ρ : Nat} {h u v : AH} (a : FM ρ h u) (b : FM ρ u v) : FM ρ h v := ⟨b.1.trans a.1, fun i h1 h2 => (b.2.1 i h1 h2).trans (a.2.1 i h1 h2), fun j hj => (b.2.2 j hj).trans (a.2.2 j hj)⟩
theorem FM.set {ρ k : Nat} {h : AH} {v : Int32} (hk : k < 200) : FM ρ h (hset h.1 95 (ρ + k) v, h.2) := by
  refine ⟨rfl, fun i h1 _ => hset_ne h1, fun j hj => ?_⟩
  show hset h.1 95 (ρ + k) v 95 j = _
  rw [hset_eq]
  unfold upd
  rw [if_neg (by omega)]
theorem FM.fall {ρ k : Nat} {h : AH} {v : Int32} : FM ρ h (hset h.1 108 k v, h.2) := ⟨rfl, fun i _ h2 => hset_ne h2, fun j _ => by show hset h.1 108 k v 95 j = _; rw [hset_ne (by decide)]⟩
theorem PM_of {h u : AH} (e : ∀ i, i ≠ 95 → i ≠ 108 → u.1 i = h.1 i) : PM u.1 = PM h.1 := by
  unfold PM
  rw [e 94 (by decide) (by decide), e 97 (by decide) (by decide), e 98 (by decide) (by decide), e 103 (by decide) (by decide), e 100 (by decide) (by decide), e 101 (by decide) (by decide), e 104 (by decide) (by decide), e 105 (by decide) (by decide), e 106 (by decide) (by decide)]
theorem mks {f : Nat → SG} {ρ k : Nat} {v : Int32} (hr : rel (ms f ρ 51).toNatClampNeg k) (hk : k ≠ 51) : mk (ms (hset f 95 (ρ + k) v) ρ) = upd (mk (ms f ρ)) k v := by
  rw [ms_set, mk_upd hr hk]
theorem mk_at {f : Nat → SG} {ρ k : Nat} (hr : rel (ms f ρ 51).toNatClampNeg k) : f 95 (ρ + k) = mk (ms f ρ) k := (mk_in hr).symm
theorem upd_eq {f : SG} {k : Nat} {x : Int32} : upd f k x k = x := by simp [upd]
theorem upd_ne {f : SG} {k j : Nat} {x : Int32} (h : j ≠ k) : upd f k x j = f j := by simp [upd, h]
theorem upd_id {f : SG} {k : Nat} : upd f k (f k) = f := by
  funext j
  by_cases h : j = k
  · subst h; rw [upd_eq]
  · rw [upd_ne h]
/-- the plan's widths leave all but widths -/
theorem planS_off {P : PR} {m k : Nat} {σ : SG} (hm : m ≤ pa P) (hP : POK P) (hk : k < 10 ∨ 19 ≤ k) : planS P m σ k = σ k := by
  induction m with
  | zero => rfl
  | succ m ih =>
    rw [planS]
    obtain ⟨a, ha, e⟩ := (hP.2.2.2.2 m (by omega)).1
    have hn := hP.1.2
    split
    · rw [e, nI_clamp (by omega), upd_ne (by omega)]
      exact ih (by omega)
    · exact ih (by omega)

set_option maxRecDepth 100000 in
set_option maxHeartbeats 4000000 in
theorem sg_X7_setWidths_0 {Z : CX × GX} {post : AH → Prop} {h : AH} {x1 : Int32} (hX : OK Z RX7 cX7_setWidths 3 none 1 21) 
    (w : EX Z 3 (QV Z post) 2 h [some (.ref 94), some (.int x1), some (.int 0)] [])
    : EX Z 3 (QV Z post) 0 h [some (.ref 94), some (.int x1), none] [] := by
  refine ex_iconst (v := 0) hX dX7_setWidths_0 rfl ?_
  refine ex_istore_n (lv' := [some (.ref 94), some (.int x1), some (.int 0)]) hX dX7_setWidths_1 rfl (by decide) rfl ?_
  exact w

set_option maxRecDepth 100000 in
set_option maxHeartbeats 4000000 in
theorem sg_X7_setWidths_2 {Z : CX × GX} {post : AH → Prop} {h : AH} {x1 : Int32} {x2 : Int32} (hX : OK Z RX7 cX7_setWidths 3 none 1 21) 
    (w : (((h.1 94 14) ≤ x2 → EX Z 3 (QV Z post) 58 h [some (.ref 94), some (.int x1), some (.int 0)] []) ∧ (¬ (h.1 94 14) ≤ x2 → (vp_in x2 60) ∧ (vp_in (x1 + 50) 800) ∧ ((¬ (h.1 104 (Int32.toNatClampNeg x2)) = (h.1 95 (Int32.toNatClampNeg (x1 + 50))) → EX Z 3 (QV Z post) 2 h [some (.ref 94), some (.int x1), some (.int (x2 + 1))] []) ∧ ((h.1 104 (Int32.toNatClampNeg x2)) = (h.1 95 (Int32.toNatClampNeg (x1 + 50))) → (vp_in x2 60) ∧ (∀ v6 : Int32, v6 = (x1 + 10) + (h.1 105 (Int32.toNatClampNeg x2)) → (vp_in x2 60) ∧ (vp_in v6 800) ∧ (∀ u9 : AH, u9 = (hset h.1 95 (Int32.toNatClampNeg v6) (h.1 106 (Int32.toNatClampNeg x2)), h.2) → EX Z 3 (QV Z post) 2 u9 [some (.ref 94), some (.int x1), some (.int (x2 + 1))] [])))))))
    : EX Z 3 (QV Z post) 2 h [some (.ref 94), some (.int x1), some (.int x2)] [] := by
  refine ex_iload_n hX dX7_setWidths_2 rfl rfl ?_
  refine ex_aload_n hX dX7_setWidths_3 rfl rfl ?_
  refine ex_get hX (.int (h.1 94 14)) FL_7_164 rfl (fun _ => rfl) dX7_setWidths_4 ?_
  refine ex_icmpge hX 56 dX7_setWidths_7 (by decide) (fun c1 => ?_) (fun c1 => ?_)
  · replace w := w.1 c1
    refine ex_iconst (v := 0) hX dX7_setWidths_56 rfl ?_
    refine ex_istore_n (lv' := [some (.ref 94), some (.int x1), some (.int 0)]) hX dX7_setWidths_57 rfl (by decide) rfl ?_
    exact w
  · replace w := w.2 c1
    refine ex_aload_n hX dX7_setWidths_10 rfl rfl ?_
    refine ex_get hX (.ref 104) FL_7_38 rfl (fun _ => rfl) dX7_setWidths_11 ?_
    refine ex_iload_n hX dX7_setWidths_14 rfl rfl ?_
    obtain ⟨q2, w⟩ := w
    refine ex_iald hX rfl q2 dX7_setWidths_15 ?_
    refine ex_aload_n hX dX7_setWidths_16 rfl rfl ?_
    refine ex_get hX (.ref 95) FL_7_7 rfl (fun _ => rfl) dX7_setWidths_17 ?_
    refine ex_iload_n hX dX7_setWidths_20 rfl rfl ?_
    refine ex_bipush (v := 50) hX dX7_setWidths_21 rfl ?_
    refine ex_iadd hX dX7_setWidths_23 ?_
    obtain ⟨q3, w⟩ := w
    refine ex_iald hX rfl q3 dX7_setWidths_24 ?_
    refine ex_icmpne hX 50 dX7_setWidths_25 (by decide) (fun c4 => ?_) (fun c4 => ?_)
    · replace w := w.1 c4
      refine ex_iinc (v := x2 + 1) (lv' := [some (.ref 94), some (.int x1), some (.int (x2 + 1))]) hX dX7_setWidths_50 rfl rfl (by decide) rfl ?_
      refine ex_goto hX 2 dX7_setWidths_53 (by decide) ?_
      exact w
    · replace w := w.2 c4
      refine ex_aload_n hX dX7_setWidths_28 rfl rfl ?_
      refine ex_get hX (.ref 95) FL_7_7 rfl (fun _ => rfl) dX7_setWidths_29 ?_
      refine ex_iload_n hX dX7_setWidths_32 rfl rfl ?_
      refine ex_bipush (v := 10) hX dX7_setWidths_33 rfl ?_
      refine ex_iadd hX dX7_setWidths_35 ?_
      refine ex_aload_n hX dX7_setWidths_36 rfl rfl ?_
      refine ex_get hX (.ref 105) FL_7_41 rfl (fun _ => rfl) dX7_setWidths_37 ?_
      refine ex_iload_n hX dX7_setWidths_40 rfl rfl ?_
      obtain ⟨q5, w⟩ := w
      refine ex_iald hX rfl q5 dX7_setWidths_41 ?_
      refine ex_iadd hX dX7_setWidths_42 ?_
      refine ex_nameI (fun v6 ev6 => ?_)
      replace w := w v6 ev6
      refine ex_aload_n hX dX7_setWidths_43 rfl rfl ?_
      refine ex_get hX (.ref 106) FL_7_44 rfl (fun _ => rfl) dX7_setWidths_44 ?_
      refine ex_iload_n hX dX7_setWidths_47 rfl rfl ?_
      obtain ⟨q7, w⟩ := w
      refine ex_iald hX rfl q7 dX7_setWidths_48 ?_
      obtain ⟨q8, w⟩ := w
      refine ex_iast hX rfl q8 dX7_setWidths_49 ?_
      refine ex_nameH (fun u9 eu9 => ?_)
      replace w := w u9 eu9
      refine ex_iinc (v := x2 + 1) (lv' := [some (.ref 94), some (.int x1), some (.int (x2 + 1))]) hX dX7_setWidths_50 rfl rfl (by decide) rfl ?_
      refine ex_goto hX 2 dX7_setWidths_53 (by decide) ?_
      exact w

set_option maxRecDepth 100000 in
set_option maxHeartbeats 4000000 in
theorem sg_X7_setWidths_58 {Z : CX × GX} {post : AH → Prop} {h : AH} {x1 : Int32} {x2 : Int32} (hX : OK Z RX7 cX7_setWidths 3 none 1 21) 
    (w : ((((h.1 94 9) - 1) ≤ x2 → post h) ∧ (¬ ((h.1 94 9) - 1) ≤ x2 → ((¬ (((h.1 94 25) >>> (x2 &&& 31)) &&& 1 = 1) → (vp_in ((x1 + 10) + x2) 800) ∧ True) ∧ (∀ v4 : Int32, v4 = (if (((h.1 94 25) >>> (x2 &&& 31)) &&& 1 = 1) then (h.1 94 26 : Int32) else h.1 95 (Int32.toNatClampNeg ((x1 + 10) + x2))) → (vp_in ((x1 + 10) + x2) 800) ∧ (∀ u6 : AH, u6 = (hset h.1 95 (Int32.toNatClampNeg ((x1 + 10) + x2)) v4, h.2) → EX Z 3 (QV Z post) 58 u6 [some (.ref 94), some (.int x1), some (.int (x2 + 1))] []))))))
    : EX Z 3 (QV Z post) 58 h [some (.ref 94), some (.int x1), some (.int x2)] [] := by
  refine ex_iload_n hX dX7_setWidths_58 rfl rfl ?_
  refine ex_aload_n hX dX7_setWidths_59 rfl rfl ?_
  refine ex_get hX (.int (h.1 94 9)) FL_7_161 rfl (fun _ => rfl) dX7_setWidths_60 ?_
  refine ex_iconst (v := 1) hX dX7_setWidths_63 rfl ?_
  refine ex_isub hX dX7_setWidths_64 ?_
  refine ex_icmpge hX 114 dX7_setWidths_65 (by decide) (fun c1 => ?_) (fun c1 => ?_)
  · replace w := w.1 c1
    exact ex_vret hX dX7_setWidths_114 w
  · replace w := w.2 c1
    refine ex_aload_n hX dX7_setWidths_68 rfl rfl ?_
    refine ex_get hX (.ref 95) FL_7_7 rfl (fun _ => rfl) dX7_setWidths_69 ?_
    refine ex_iload_n hX dX7_setWidths_72 rfl rfl ?_
    refine ex_bipush (v := 10) hX dX7_setWidths_73 rfl ?_
    refine ex_iadd hX dX7_setWidths_75 ?_
    refine ex_iload_n hX dX7_setWidths_76 rfl rfl ?_
    refine ex_iadd hX dX7_setWidths_77 ?_
    refine ex_aload_n hX dX7_setWidths_78 rfl rfl ?_
    refine ex_get hX (.int (h.1 94 25)) FL_7_195 rfl (fun _ => rfl) dX7_setWidths_79 ?_
    refine ex_iload_n hX dX7_setWidths_82 rfl rfl ?_
    refine ex_pIs (As := [.int (h.1 94 25), .int x2]) (st := [.int ((x1 + 10) + x2), .ref 95]) hX (c_X7_has (h := h)) CS_7_121 MS_X7_has rfl (by decide) rfl (Nat.le_of_ble_eq_true rfl) dX7_setWidths_83 ?_
    obtain ⟨wac2, w⟩ := w
    have kc2 : EX Z 3 (QV Z post) 107 h [some (.ref 94), some (.int x1), some (.int x2)] [.int (if (((h.1 94 25) >>> (x2 &&& 31)) &&& 1 = 1) then (h.1 94 26 : Int32) else h.1 95 (Int32.toNatClampNeg ((x1 + 10) + x2))), .int ((x1 + 10) + x2), .ref 95] := by
      refine ex_nameI (fun v4 ev4 => ?_)
      replace w := w v4 ev4
      obtain ⟨q5, w⟩ := w
      refine ex_iast hX rfl q5 dX7_setWidths_107 ?_
      refine ex_nameH (fun u6 eu6 => ?_)
      replace w := w u6 eu6
      refine ex_iinc (v := x2 + 1) (lv' := [some (.ref 94), some (.int x1), some (.int (x2 + 1))]) hX dX7_setWidths_108 rfl rfl (by decide) rfl ?_
      refine ex_goto hX 58 dX7_setWidths_111 (by decide) ?_
      exact w
    refine ex_ifeqB hX 96 dX7_setWidths_86 (by decide) (fun c2 => ?_) (fun c2 => ?_)
    · replace w := wac2 c2
      refine ex_aload_n hX dX7_setWidths_96 rfl rfl ?_
      refine ex_get hX (.ref 95) FL_7_7 rfl (fun _ => rfl) dX7_setWidths_97 ?_
      refine ex_iload_n hX dX7_setWidths_100 rfl rfl ?_
      refine ex_bipush (v := 10) hX dX7_setWidths_101 rfl ?_
      refine ex_iadd hX dX7_setWidths_103 ?_
      refine ex_iload_n hX dX7_setWidths_104 rfl rfl ?_
      refine ex_iadd hX dX7_setWidths_105 ?_
      obtain ⟨q3, w⟩ := w
      refine ex_iald hX rfl q3 dX7_setWidths_106 ?_
      rw [show (if (((h.1 94 25) >>> (x2 &&& 31)) &&& 1 = 1) then (h.1 94 26 : Int32) else h.1 95 (Int32.toNatClampNeg ((x1 + 10) + x2))) = h.1 95 (Int32.toNatClampNeg ((x1 + 10) + x2)) from if_neg c2] at kc2
      exact ex_forget [some (.ref 94), some (.int x1), some (.int x2)] ⟨rfl, ⟨rfl, ⟨rfl, trivial⟩⟩⟩ kc2
    · refine ex_aload_n hX dX7_setWidths_89 rfl rfl ?_
      refine ex_get hX (.int (h.1 94 26)) FL_7_198 rfl (fun _ => rfl) dX7_setWidths_90 ?_
      refine ex_goto hX 107 dX7_setWidths_93 (by decide) ?_
      rw [show (if (((h.1 94 25) >>> (x2 &&& 31)) &&& 1 = 1) then (h.1 94 26 : Int32) else h.1 95 (Int32.toNatClampNeg ((x1 + 10) + x2))) = h.1 94 26 from if_pos c2] at kc2
      exact ex_forget [some (.ref 94), some (.int x1), some (.int x2)] ⟨rfl, ⟨rfl, ⟨rfl, trivial⟩⟩⟩ kc2

def setK (P : PR) (H hw : Int32) (k : Nat) (τ : SG) : SG := fun j => if 10 ≤ j ∧ j < 10 + k then @ite _ (heldB H (j - 10)) (heldD _ _) hw (τ j) else τ j
theorem setK_0 {P : PR} {H hw : Int32} {τ : SG} : setK P H hw 0 τ = τ := by
  funext j
  unfold setK
  rw [if_neg (by omega)]
theorem setK_s {P : PR} {H hw : Int32} {τ : SG} {k : Nat} : setK P H hw (k + 1) τ = upd (setK P H hw k τ) (10 + k) (@ite _ (heldB H k) (heldD _ _) hw (τ (10 + k))) := by
  funext j
  by_cases hj : j = 10 + k
  · subst hj
    rw [upd_eq]
    unfold setK
    rw [if_pos (by omega), show 10 + k - 10 = k by omega]
  · rw [upd_ne hj]
    unfold setK
    by_cases h1 : 10 ≤ j ∧ j < 10 + k
    · rw [if_pos h1, if_pos (by omega)]
    · rw [if_neg h1, if_neg (by omega)]

set_option maxRecDepth 100000 in
set_option maxHeartbeats 4000000 in
theorem c_X7_setWidths {h : AH} {a1 : Int32}  {ρ : Nat} (hρ : ρ ≤ 600) (ha : a1 = nI ρ) (hP : POK (PM h.1)) : CV yX7_setWidths cX7_setWidths 3 1 21 [.ref 94, .int a1] h (fun u => FM ρ h u ∧ mk (ms u.1 ρ) = setS (PM h.1) (h.1 94 25) (h.1 94 26) (mk (ms h.1 ρ))) := by
  refine CV.of [some (.ref 94), some (.int a1), none] (by decide +kernel) rfl (Nat.le_of_ble_eq_true rfl) rfl (fun Z hX => ?_)
  subst ha
  obtain ⟨⟨hn2, hn10⟩, -, -, hpa, hpl⟩ := id hP
  have en : h.1 94 9 = nI (pn (PM h.1)) := i_pos (by show 0 < pn (PM h.1); omega)
  refine sg_X7_setWidths_0 hX ?_
  have L2 : ∀ k, k ≤ pn (PM h.1) - 1 → ∀ u : AH, FM ρ h u → mk (ms u.1 ρ) = setK (PM h.1) (h.1 94 25) (h.1 94 26) k (planS (PM h.1) (pa (PM h.1)) (mk (ms h.1 ρ))) → EX Z 3 (QV Z (fun u => FM ρ h u ∧ mk (ms u.1 ρ) = setS (PM h.1) (h.1 94 25) (h.1 94 26) (mk (ms h.1 ρ)))) 58 u [some (.ref 94), some (.int (nI ρ)), some (.int (nI k))] [] := by
    refine ldown _ ?_ ?_
    · intro u hF hu
      refine sg_X7_setWidths_58 hX ⟨fun _ => ⟨hF, ?_⟩, fun c => absurd ?_ c⟩
      · rw [hu]; rfl
      · rw [hF.2.1 94 (by decide) (by decide), en, k_1, pk_sub (by omega)]
        exact nI_le (Nat.le_refl _) (by omega)
    · intro k hk ih u hF hu
      have e94 := hF.2.1 94 (by decide) (by decide)
      refine sg_X7_setWidths_58 hX ⟨fun c => absurd c ?_, fun c => ⟨fun c2 => ⟨?_, trivial⟩, fun v ev => ⟨?_, fun u2 eu => ?_⟩⟩⟩
      · rw [e94, en, k_1, pk_sub (by omega)]
        exact nI_ge hk (by omega)
      · rw [k_10, nI_add, nI_add]; exact vp_in_nI (by omega) (by omega)
      · rw [k_10, nI_add, nI_add]; exact vp_in_nI (by omega) (by omega)
      · have ei : Int32.toNatClampNeg ((nI ρ + 10) + nI k) = ρ + (10 + k) := by rw [k_10, nI_add, nI_add, nI_clamp (by omega)]; omega
        rw [ei] at eu ev
        rw [nI_1]
        have hr : rel (ms u.1 ρ 51).toNatClampNeg (10 + k) := by unfold rel; omega
        have em : mk (ms u2.1 ρ) = upd (mk (ms u.1 ρ)) (10 + k) v := by rw [eu]; exact mks hr (by omega)
        refine ih u2 (hF.tr (by rw [eu]; exact FM.set (by omega))) ?_
        rw [em, setK_s, hu]
        congr 1
        rw [ev, e94, mk_at hr, hu]
        by_cases hb : heldB (h.1 94 25) k
        · rw [if_pos (show ((h.1 94 25) >>> (nI k &&& 31)) &&& 1 = 1 from hb)]
          exact (if_pos hb).symm
        · rw [if_neg (show ¬ ((h.1 94 25) >>> (nI k &&& 31)) &&& 1 = 1 from hb)]
          refine Eq.trans ?_ (if_neg hb).symm
          unfold setK
          rw [if_neg (by omega)]
  have L1 : ∀ k, k ≤ pa (PM h.1) → ∀ u : AH, FM ρ h u → mk (ms u.1 ρ) = planS (PM h.1) k (mk (ms h.1 ρ)) → EX Z 3 (QV Z (fun u => FM ρ h u ∧ mk (ms u.1 ρ) = setS (PM h.1) (h.1 94 25) (h.1 94 26) (mk (ms h.1 ρ)))) 2 u [some (.ref 94), some (.int (nI ρ)), some (.int (nI k))] [] := by
    refine ldown _ ?_ ?_
    · intro u hF hu
      have e94 := hF.2.1 94 (by decide) (by decide)
      refine sg_X7_setWidths_2 hX ⟨fun _ => L2 0 (by omega) u hF (by rw [setK_0]; exact hu), fun c => absurd ?_ c⟩
      rw [e94, i_le (by omega)]
      exact Nat.le_refl _
    · intro k hk ih u hF hu
      have e94 := hF.2.1 94 (by decide) (by decide)
      have e104 := hF.2.1 104 (by decide) (by decide)
      have e105 := hF.2.1 105 (by decide) (by decide)
      have e106 := hF.2.1 106 (by decide) (by decide)
      obtain ⟨⟨g, hg, eg⟩, -⟩ := hpl k hk
      have k1 : h.1 104 k = poh (PM h.1) k := (cut_in hk).symm
      have k2 : h.1 105 k = nI g := by rw [← eg]; exact (cut_in hk).symm
      have k3 : h.1 106 k = pow (PM h.1) k := (cut_in hk).symm
      have hr : rel (ms u.1 ρ 51).toNatClampNeg 50 := by unfold rel; omega
      have e50 : u.1 95 (ρ + 50) = mk (ms h.1 ρ) 50 := by rw [mk_at hr, hu, planS_off (by omega) hP (by omega)]
      have i50 : Int32.toNatClampNeg (nI ρ + 50) = ρ + 50 := by rw [k_50, nI_add, nI_clamp (by omega)]
      refine sg_X7_setWidths_2 hX ⟨fun c => absurd c ?_, fun c => ⟨vp_in_nI (by omega) (by omega), ?_, fun c2 => ?_, fun c2 => ⟨vp_in_nI (by omega) (by omega), fun v ev => ⟨vp_in_nI (by omega) (by omega), ?_, fun u2 eu => ?_⟩⟩⟩⟩
      · rw [e94, i_le (by omega)]
        show ¬ pa (PM h.1) ≤ k
        omega
      · rw [k_50, nI_add]; exact vp_in_nI (by omega) (by omega)
      · rw [nI_clamp (by omega), i50, e104, k1, e50] at c2
        rw [nI_1]
        exact ih u hF (by rw [hu, planS, if_neg c2])
      · rw [ev, nI_clamp (by omega), e105, k2, k_10, nI_add, nI_add]; exact vp_in_nI (by omega) (by omega)
      · rw [nI_clamp (by omega), i50, e104, k1, e50] at c2
        have ei : Int32.toNatClampNeg v = ρ + (10 + g) := by rw [ev, nI_clamp (by omega), e105, k2, k_10, nI_add, nI_add, nI_clamp (by omega)]; omega
        rw [ei, nI_clamp (by omega), e106, k3] at eu
        rw [nI_1]
        refine ih u2 (hF.tr (by rw [eu]; exact FM.set (by omega))) ?_
        have hr : rel (ms u.1 ρ 51).toNatClampNeg (10 + g) := by unfold rel; omega
        rw [eu, mks hr (by omega), hu, planS, if_pos c2, eg, nI_clamp (by omega)]
  exact L1 0 (by omega) h FM.rf rfl

set_option maxRecDepth 100000 in
set_option maxHeartbeats 4000000 in
theorem sg_X7_levelOf_0 {Z : CX × GX} {post : Int32 → AH → Prop} {h : AH} {x1 : Int32} {x2 : Int32} (hX : OK Z RX7 cX7_levelOf 3 (some .int) 1 20) 
    (w : ((¬ x2 = (h.1 94 9 - 1) → (vp_in x2 20) ∧ (vp_in (x1 + x2) 800) ∧ (vp_in x2 20) ∧ (¬ (h.1 98 (Int32.toNatClampNeg x2)) = 0) ∧ (∀ v6 : Int32, v6 = (h.1 95 (Int32.toNatClampNeg (x1 + x2))) / (h.1 98 (Int32.toNatClampNeg x2)) → post ((h.1 97 (Int32.toNatClampNeg x2)) + v6) h)) ∧ (x2 = (h.1 94 9 - 1) → (vp_in (x1 + 50) 800) ∧ (∀ v8 : Int32, v8 = (h.1 95 (Int32.toNatClampNeg (x1 + 50))) - (h.1 95 (Int32.toNatClampNeg (x1 + 50))) / 24 * 24 → (vp_in v8 48) ∧ post (h.1 101 (Int32.toNatClampNeg v8)) h))))
    : EX Z 3 (QI Z post) 0 h [some (.ref 94), some (.int x1), some (.int x2)] [] := by
  refine ex_iload_n hX dX7_levelOf_0 rfl rfl ?_
  refine ex_aload_n hX dX7_levelOf_1 rfl rfl ?_
  refine ex_pIv (ci := 7) (i := 94) (As := []) (st := [.int x2]) hX (c_X7_sea (h := h)) CS_7_174 MS_X7_sea rfl rfl rfl (by decide) rfl (Nat.le_of_ble_eq_true rfl) dX7_levelOf_2 ?_
  refine ex_icmpne hX 28 dX7_levelOf_5 (by decide) (fun c1 => ?_) (fun c1 => ?_)
  · replace w := w.1 c1
    refine ex_aload_n hX dX7_levelOf_28 rfl rfl ?_
    refine ex_get hX (.ref 97) FL_7_17 rfl (fun _ => rfl) dX7_levelOf_29 ?_
    refine ex_iload_n hX dX7_levelOf_32 rfl rfl ?_
    obtain ⟨q2, w⟩ := w
    refine ex_iald hX rfl q2 dX7_levelOf_33 ?_
    refine ex_aload_n hX dX7_levelOf_34 rfl rfl ?_
    refine ex_get hX (.ref 95) FL_7_7 rfl (fun _ => rfl) dX7_levelOf_35 ?_
    refine ex_iload_n hX dX7_levelOf_38 rfl rfl ?_
    refine ex_iload_n hX dX7_levelOf_39 rfl rfl ?_
    refine ex_iadd hX dX7_levelOf_40 ?_
    obtain ⟨q3, w⟩ := w
    refine ex_iald hX rfl q3 dX7_levelOf_41 ?_
    refine ex_aload_n hX dX7_levelOf_42 rfl rfl ?_
    refine ex_get hX (.ref 98) FL_7_20 rfl (fun _ => rfl) dX7_levelOf_43 ?_
    refine ex_iload_n hX dX7_levelOf_46 rfl rfl ?_
    obtain ⟨q4, w⟩ := w
    refine ex_iald hX rfl q4 dX7_levelOf_47 ?_
    obtain ⟨q5, w⟩ := w
    refine ex_idiv hX dX7_levelOf_48 q5 ?_
    refine ex_nameI (fun v6 ev6 => ?_)
    replace w := w v6 ev6
    refine ex_iadd hX dX7_levelOf_49 ?_
    exact ex_iret hX dX7_levelOf_50 rfl w
  · replace w := w.2 c1
    refine ex_aload_n hX dX7_levelOf_8 rfl rfl ?_
    refine ex_get hX (.ref 101) FL_7_29 rfl (fun _ => rfl) dX7_levelOf_9 ?_
    refine ex_aload_n hX dX7_levelOf_12 rfl rfl ?_
    refine ex_get hX (.ref 95) FL_7_7 rfl (fun _ => rfl) dX7_levelOf_13 ?_
    refine ex_iload_n hX dX7_levelOf_16 rfl rfl ?_
    refine ex_bipush (v := 50) hX dX7_levelOf_17 rfl ?_
    refine ex_iadd hX dX7_levelOf_19 ?_
    obtain ⟨q7, w⟩ := w
    refine ex_iald hX rfl q7 dX7_levelOf_20 ?_
    refine ex_bipush (v := 24) hX dX7_levelOf_21 rfl ?_
    refine ex_irem hX dX7_levelOf_23 (by decide) ?_
    refine ex_nameI (fun v8 ev8 => ?_)
    replace w := w v8 ev8
    obtain ⟨q9, w⟩ := w
    refine ex_iald hX rfl q9 dX7_levelOf_24 ?_
    refine ex_goto hX 50 dX7_levelOf_25 (by decide) ?_
    exact ex_iret hX dX7_levelOf_50 rfl w

def lvM (f : Nat → SG) (r k : Int32) : Int32 := if k = f 94 9 - 1 then f 101 (Int32.toNatClampNeg (f 95 (Int32.toNatClampNeg (r + 50)) - f 95 (Int32.toNatClampNeg (r + 50)) / 24 * 24)) else f 97 k.toNatClampNeg + f 95 (Int32.toNatClampNeg (r + k)) / f 98 k.toNatClampNeg
def LPm (f : Nat → SG) (r k : Int32) : Prop := (¬ k = f 94 9 - 1 → vp_in k 20 ∧ vp_in (r + k) 800 ∧ ¬ f 98 k.toNatClampNeg = 0) ∧ (k = f 94 9 - 1 → vp_in (r + 50) 800 ∧ vp_in (f 95 (Int32.toNatClampNeg (r + 50)) - f 95 (Int32.toNatClampNeg (r + 50)) / 24 * 24) 48)

set_option maxRecDepth 100000 in
set_option maxHeartbeats 4000000 in
theorem c_X7_levelOf {h : AH} {a1 : Int32} {a2 : Int32}  (pr0 : LPm h.1 a1 a2) : CI yX7_levelOf cX7_levelOf 3 (some .int) 1 20 [.ref 94, .int a1, .int a2] h (fun r u => r = lvM h.1 a1 a2 ∧ u = h) := by
  refine CI.of [some (.ref 94), some (.int a1), some (.int a2)] (by decide +kernel) rfl (Nat.le_of_ble_eq_true rfl) rfl (fun Z hX => ?_)
  refine sg_X7_levelOf_0 hX ⟨fun c => ?_, fun c => ?_⟩
  · obtain ⟨q1, q2, q3⟩ := pr0.1 c
    exact ⟨q1, q2, q1, q3, fun v ev => ⟨by rw [lvM, if_neg c, ev], rfl⟩⟩
  · obtain ⟨q1, q2⟩ := pr0.2 c
    exact ⟨q1, fun v ev => ⟨by rw [ev]; exact q2, by rw [lvM, if_pos c, ev], rfl⟩⟩

theorem lvM_eq {f : Nat → SG} {ρ k t : Nat} (hρ : ρ ≤ 600) (hP : POK (PM f)) (ht : t < 2 ^ 31) (h50 : mk (ms f ρ) 50 = nI t) (hk : k < pn (PM f)) : LPm f (nI ρ) (nI k) ∧ lvM f (nI ρ) (nI k) = levS (PM f) (mk (ms f ρ)) k := by
  obtain ⟨⟨hn2, hn10⟩, hpa, hpr, -⟩ := id hP
  have en : f 94 9 = nI (pn (PM f)) := i_pos (by show 0 < pn (PM f); omega)
  have es : f 94 9 - 1 = nI (pn (PM f) - 1) := by rw [en, k_1, pk_sub (by omega)]
  have i50 : Int32.toNatClampNeg (nI ρ + 50) = ρ + 50 := by rw [k_50, nI_add, nI_clamp (by omega)]
  have ik : Int32.toNatClampNeg (nI ρ + nI k) = ρ + k := by rw [nI_add, nI_clamp (by omega)]
  have r50 : rel (ms f ρ 51).toNatClampNeg 50 := by unfold rel; omega
  have e50 : f 95 (ρ + 50) = nI t := by rw [mk_at r50, h50]
  have m24 : t % 24 < 24 := Nat.mod_lt _ (by decide)
  unfold LPm lvM levS
  have ek : (nI k = nI (pn (PM f) - 1)) ↔ k = pn (PM f) - 1 := nI_eq (by omega) (by omega)
  rw [es, i50, e50, i_m24 ht, nI_clamp (show k < 2 ^ 31 by omega), nI_clamp (show t % 24 < 2 ^ 31 by omega), ik, h50, nI_clamp ht]
  simp only [ek]
  refine ⟨⟨fun c => ?_, fun c => ?_⟩, ?_⟩
  · obtain ⟨⟨a, a1, a2, ea⟩, -⟩ := hpa k (by omega)
    have e98 : f 98 k = nI a := by rw [← ea]; exact (cut_in (by omega)).symm
    exact ⟨vp_in_nI (by omega) (by omega), by rw [nI_add]; exact vp_in_nI (by omega) (by omega), by rw [e98]; exact nI_ne0 (by omega) (by omega)⟩
  · exact ⟨by rw [k_50, nI_add]; exact vp_in_nI (by omega) (by omega), vp_in_nI (by omega) (by omega)⟩
  · by_cases c : k = pn (PM f) - 1
    · rw [if_pos c, if_pos c]; exact (cut_in m24).symm
    · rw [if_neg c, if_neg c]
      have r0 : rel (ms f ρ 51).toNatClampNeg k := by unfold rel; omega
      rw [mk_at r0, show f 97 k = pfl (PM f) k from (cut_in (by omega)).symm, show f 98 k = par (PM f) k from (cut_in (by omega)).symm]

set_option maxRecDepth 100000 in
set_option maxHeartbeats 4000000 in
theorem sg_X7_flow_0 {Z : CX × GX} {post : AH → Prop} {h : AH} {x1 : Int32} (hX : OK Z RX7 cX7_flow 10 none 2 42) 
    (w : EX Z 10 (QV Z post) 2 h [some (.ref 94), some (.int x1), some (.int 0), none, none, none, none, none, none, none] [])
    : EX Z 10 (QV Z post) 0 h [some (.ref 94), some (.int x1), none, none, none, none, none, none, none, none] [] := by
  refine ex_iconst (v := 0) hX dX7_flow_0 rfl ?_
  refine ex_istore_n (lv' := [some (.ref 94), some (.int x1), some (.int 0), none, none, none, none, none, none, none]) hX dX7_flow_1 rfl (by decide) rfl ?_
  exact w

set_option maxRecDepth 100000 in
set_option maxHeartbeats 4000000 in
theorem sg_X7_flow_2 {Z : CX × GX} {post : AH → Prop} {h : AH} {x1 : Int32} {x2 : Int32} (hX : OK Z RX7 cX7_flow 10 none 2 42) 
    (w : ((((h.1 94 9) - 1) ≤ x2 → EX Z 10 (QV Z post) 41 h [some (.ref 94), some (.int x1), some (.int 0), none, none, none, none, none, none, none] []) ∧ (¬ ((h.1 94 9) - 1) ≤ x2 → (LPm h.1 x1 x2) ∧ (LPm h.1 x1 (x2 + 1)) ∧ (vp_in x2 9) ∧ (∀ u5 : AH, u5 = (hset h.1 108 (Int32.toNatClampNeg x2) ((lvM h.1 x1 x2) - (lvM h.1 x1 (x2 + 1))), h.2) → EX Z 10 (QV Z post) 2 u5 [some (.ref 94), some (.int x1), some (.int (x2 + 1)), none, none, none, none, none, none, none] []))))
    : EX Z 10 (QV Z post) 2 h [some (.ref 94), some (.int x1), some (.int x2), none, none, none, none, none, none, none] [] := by
  refine ex_iload_n hX dX7_flow_2 rfl rfl ?_
  refine ex_aload_n hX dX7_flow_3 rfl rfl ?_
  refine ex_get hX (.int (h.1 94 9)) FL_7_161 rfl (fun _ => rfl) dX7_flow_4 ?_
  refine ex_iconst (v := 1) hX dX7_flow_7 rfl ?_
  refine ex_isub hX dX7_flow_8 ?_
  refine ex_icmpge hX 39 dX7_flow_9 (by decide) (fun c1 => ?_) (fun c1 => ?_)
  · replace w := w.1 c1
    refine ex_iconst (v := 0) hX dX7_flow_39 rfl ?_
    refine ex_istore_n (lv' := [some (.ref 94), some (.int x1), some (.int 0), none, none, none, none, none, none, none]) hX dX7_flow_40 rfl (by decide) rfl ?_
    exact w
  · replace w := w.2 c1
    refine ex_aload_n hX dX7_flow_12 rfl rfl ?_
    refine ex_get hX (.ref 108) FL_7_54 rfl (fun _ => rfl) dX7_flow_13 ?_
    refine ex_iload_n hX dX7_flow_16 rfl rfl ?_
    refine ex_aload_n hX dX7_flow_17 rfl rfl ?_
    refine ex_iload_n hX dX7_flow_18 rfl rfl ?_
    refine ex_iload_n hX dX7_flow_19 rfl rfl ?_
    obtain ⟨q2, w⟩ := w
    refine ex_pIv (ci := 7) (i := 94) (As := [.int x1, .int x2]) (st := [.int x2, .ref 108]) hX (c_X7_levelOf (h := h) q2) CS_7_186 MS_X7_levelOf rfl rfl rfl (by decide) rfl (Nat.le_of_ble_eq_true rfl) dX7_flow_20 ?_
    refine ex_aload_n hX dX7_flow_23 rfl rfl ?_
    refine ex_iload_n hX dX7_flow_24 rfl rfl ?_
    refine ex_iload_n hX dX7_flow_25 rfl rfl ?_
    refine ex_iconst (v := 1) hX dX7_flow_26 rfl ?_
    refine ex_iadd hX dX7_flow_27 ?_
    obtain ⟨q3, w⟩ := w
    refine ex_pIv (ci := 7) (i := 94) (As := [.int x1, .int (x2 + 1)]) (st := [.int (lvM h.1 x1 x2), .int x2, .ref 108]) hX (c_X7_levelOf (h := h) q3) CS_7_186 MS_X7_levelOf rfl rfl rfl (by decide) rfl (Nat.le_of_ble_eq_true rfl) dX7_flow_28 ?_
    refine ex_isub hX dX7_flow_31 ?_
    obtain ⟨q4, w⟩ := w
    refine ex_iast hX rfl q4 dX7_flow_32 ?_
    refine ex_nameH (fun u5 eu5 => ?_)
    replace w := w u5 eu5
    refine ex_iinc (v := x2 + 1) (lv' := [some (.ref 94), some (.int x1), some (.int (x2 + 1)), none, none, none, none, none, none, none]) hX dX7_flow_33 rfl rfl (by decide) rfl ?_
    refine ex_goto hX 2 dX7_flow_36 (by decide) ?_
    exact w

set_option maxRecDepth 100000 in
set_option maxHeartbeats 4000000 in
theorem sg_X7_flow_41 {Z : CX × GX} {post : AH → Prop} {h : AH} {x1 : Int32} {x2 : Int32} (hX : OK Z RX7 cX7_flow 10 none 2 42) 
    (w : ((((h.1 94 9) - 1) ≤ x2 → post h) ∧ (¬ ((h.1 94 9) - 1) ≤ x2 → (vp_in x2 9) ∧ (∀ v3 : Int64, v3 = Int32.toInt64 (h.1 108 (Int32.toNatClampNeg x2)) → (vp_in ((x1 + 10) + x2) 800) ∧ (∀ v5 : Int32, v5 = h.1 95 (Int32.toNatClampNeg ((x1 + 10) + x2)) → (vp_in (x1 + x2) 800) ∧ (∀ v7 : Int64, v7 = Int32.toInt64 (h.1 95 (Int32.toNatClampNeg (x1 + x2))) → ((¬ (x2 + 1) = (h.1 94 9 - 1) → (vp_in ((x1 + x2) + 1) 800) ∧ True) ∧ (∀ v10 : Int64, v10 = (if (x2 + 1) = (h.1 94 9 - 1) then (-(v3 * (Int32.toInt64 v5)) : Int64) else Int32.toInt64 (h.1 95 (Int32.toNatClampNeg ((x1 + x2) + 1)))) → (∀ v13 : Int64, v13 = (if v7 < (v3 * (Int32.toInt64 v5)) then (v7 : Int64) else (if (v3 * (Int32.toInt64 v5)) < (-v10) then (-v10 : Int64) else v3 * (Int32.toInt64 v5))) → (vp_in ((x1 + 20) + x2) 800) ∧ (∀ u15 : AH, u15 = (hset h.1 95 (Int32.toNatClampNeg ((x1 + 20) + x2)) (Int64.toInt32 v13), h.2) → (vp_in (x1 + x2) 800) ∧ (∀ v17 : Int32, v17 = (u15.1 95 (Int32.toNatClampNeg (x1 + x2))) - (Int64.toInt32 v13) → (vp_in (x1 + x2) 800) ∧ (∀ u19 : AH, u19 = (hset u15.1 95 (Int32.toNatClampNeg (x1 + x2)) v17, u15.2) → (vp_in ((x1 + x2) + 1) 800) ∧ (∀ v21 : Int32, v21 = u19.1 95 (Int32.toNatClampNeg ((x1 + x2) + 1)) → (∀ v23 : Int32, v23 = (if (x2 + 1) = (u19.1 94 9 - 1) then (0 : Int32) else Int64.toInt32 v13) → (vp_in ((x1 + x2) + 1) 800) ∧ (∀ u25 : AH, u25 = (hset u19.1 95 (Int32.toNatClampNeg ((x1 + x2) + 1)) (v21 + v23), u19.2) → (vp_in ((x1 + 30) + x2) 800) ∧ (∀ v27 : Int32, v27 = u25.1 95 (Int32.toNatClampNeg ((x1 + 30) + x2)) → (∀ v29 : Int32, v29 = (if (Int64.toInt32 v13) ≤ 0 then (0 : Int32) else Int64.toInt32 v13) → (vp_in ((x1 + 30) + x2) 800) ∧ (∀ u31 : AH, u31 = (hset u25.1 95 (Int32.toNatClampNeg ((x1 + 30) + x2)) (minS 99999999 (v27 + v29)), u25.2) → (vp_in ((x1 + 40) + x2) 800) ∧ (∀ v33 : Int32, v33 = u31.1 95 (Int32.toNatClampNeg ((x1 + 40) + x2)) → (∀ v35 : Int32, v35 = (if 0 ≤ (Int64.toInt32 v13) then (0 : Int32) else -(Int64.toInt32 v13)) → (vp_in ((x1 + 40) + x2) 800) ∧ (∀ u37 : AH, u37 = (hset u31.1 95 (Int32.toNatClampNeg ((x1 + 40) + x2)) (minS 99999999 (v33 + v35)), u31.2) → EX Z 10 (QV Z post) 41 u37 [some (.ref 94), some (.int x1), some (.int (x2 + 1)), none, none, none, none, none, none, none] [])))))))))))))))))))))
    : EX Z 10 (QV Z post) 41 h [some (.ref 94), some (.int x1), some (.int x2), none, none, none, none, none, none, none] [] := by
  refine ex_iload_n hX dX7_flow_41 rfl rfl ?_
  refine ex_aload_n hX dX7_flow_42 rfl rfl ?_
  refine ex_get hX (.int (h.1 94 9)) FL_7_161 rfl (fun _ => rfl) dX7_flow_43 ?_
  refine ex_iconst (v := 1) hX dX7_flow_46 rfl ?_
  refine ex_isub hX dX7_flow_47 ?_
  refine ex_icmpge hX 281 dX7_flow_48 (by decide) (fun c1 => ?_) (fun c1 => ?_)
  · replace w := w.1 c1
    exact ex_vret hX dX7_flow_281 w
  · replace w := w.2 c1
    refine ex_aload_n hX dX7_flow_51 rfl rfl ?_
    refine ex_get hX (.ref 108) FL_7_54 rfl (fun _ => rfl) dX7_flow_52 ?_
    refine ex_iload_n hX dX7_flow_55 rfl rfl ?_
    obtain ⟨q2, w⟩ := w
    refine ex_iald hX rfl q2 dX7_flow_56 ?_
    refine ex_i2l hX dX7_flow_57 ?_
    refine ex_nameL (fun v3 ev3 => ?_)
    replace w := w v3 ev3
    refine ex_aload_n hX dX7_flow_58 rfl rfl ?_
    refine ex_get hX (.ref 95) FL_7_7 rfl (fun _ => rfl) dX7_flow_59 ?_
    refine ex_iload_n hX dX7_flow_62 rfl rfl ?_
    refine ex_bipush (v := 10) hX dX7_flow_63 rfl ?_
    refine ex_iadd hX dX7_flow_65 ?_
    refine ex_iload_n hX dX7_flow_66 rfl rfl ?_
    refine ex_iadd hX dX7_flow_67 ?_
    obtain ⟨q4, w⟩ := w
    refine ex_iald hX rfl q4 dX7_flow_68 ?_
    refine ex_nameI (fun v5 ev5 => ?_)
    replace w := w v5 ev5
    refine ex_i2l hX dX7_flow_69 ?_
    refine ex_lmul hX dX7_flow_70 ?_
    refine ex_lstore_n (lv' := [some (.ref 94), some (.int x1), some (.int x2), some (.long (v3 * (Int32.toInt64 v5))), none, none, none, none, none, none]) hX dX7_flow_71 rfl (by decide) rfl ?_
    refine ex_aload_n hX dX7_flow_72 rfl rfl ?_
    refine ex_get hX (.ref 95) FL_7_7 rfl (fun _ => rfl) dX7_flow_73 ?_
    refine ex_iload_n hX dX7_flow_76 rfl rfl ?_
    refine ex_iload_n hX dX7_flow_77 rfl rfl ?_
    refine ex_iadd hX dX7_flow_78 ?_
    obtain ⟨q6, w⟩ := w
    refine ex_iald hX rfl q6 dX7_flow_79 ?_
    refine ex_i2l hX dX7_flow_80 ?_
    refine ex_nameL (fun v7 ev7 => ?_)
    replace w := w v7 ev7
    refine ex_lstore (lv' := [some (.ref 94), some (.int x1), some (.int x2), some (.long (v3 * (Int32.toInt64 v5))), none, some (.long v7), none, none, none, none]) hX dX7_flow_81 (by decide) rfl ?_
    refine ex_iload_n hX dX7_flow_83 rfl rfl ?_
    refine ex_iconst (v := 1) hX dX7_flow_84 rfl ?_
    refine ex_iadd hX dX7_flow_85 ?_
    refine ex_aload_n hX dX7_flow_86 rfl rfl ?_
    refine ex_pIv (ci := 7) (i := 94) (As := []) (st := [.int (x2 + 1)]) hX (c_X7_sea (h := h)) CS_7_174 MS_X7_sea rfl rfl rfl (by decide) rfl (Nat.le_of_ble_eq_true rfl) dX7_flow_87 ?_
    obtain ⟨wac8, w⟩ := w
    have kc8 : EX Z 10 (QV Z post) 109 h [some (.ref 94), some (.int x1), some (.int x2), some (.long (v3 * (Int32.toInt64 v5))), none, some (.long v7), none, none, none, none] [.long (if (x2 + 1) = (h.1 94 9 - 1) then (-(v3 * (Int32.toInt64 v5)) : Int64) else Int32.toInt64 (h.1 95 (Int32.toNatClampNeg ((x1 + x2) + 1))))] := by
      refine ex_nameL (fun v10 ev10 => ?_)
      replace w := w v10 ev10
      refine ex_lstore (lv' := [some (.ref 94), some (.int x1), some (.int x2), some (.long (v3 * (Int32.toInt64 v5))), none, some (.long v7), none, some (.long v10), none, none]) hX dX7_flow_109 (by decide) rfl ?_
      refine ex_lload_n hX dX7_flow_111 rfl rfl ?_
      refine ex_lload hX dX7_flow_112 rfl ?_
      refine ex_lcmp hX dX7_flow_114 ?_
      have kc11 : EX Z 10 (QV Z post) 138 h [some (.ref 94), some (.int x1), some (.int x2), none, none, none, none, none, none, none] [.long (if v7 < (v3 * (Int32.toInt64 v5)) then (v7 : Int64) else (if (v3 * (Int32.toInt64 v5)) < (-v10) then (-v10 : Int64) else v3 * (Int32.toInt64 v5)))] := by
        refine ex_nameL (fun v13 ev13 => ?_)
        replace w := w v13 ev13
        refine ex_l2i hX dX7_flow_138 ?_
        refine ex_istore (lv' := [some (.ref 94), some (.int x1), some (.int x2), none, none, none, none, none, none, some (.int (Int64.toInt32 v13))]) hX dX7_flow_139 (by decide) rfl ?_
        refine ex_aload_n hX dX7_flow_141 rfl rfl ?_
        refine ex_get hX (.ref 95) FL_7_7 rfl (fun _ => rfl) dX7_flow_142 ?_
        refine ex_iload_n hX dX7_flow_145 rfl rfl ?_
        refine ex_bipush (v := 20) hX dX7_flow_146 rfl ?_
        refine ex_iadd hX dX7_flow_148 ?_
        refine ex_iload_n hX dX7_flow_149 rfl rfl ?_
        refine ex_iadd hX dX7_flow_150 ?_
        refine ex_iload hX dX7_flow_151 rfl ?_
        obtain ⟨q14, w⟩ := w
        refine ex_iast hX rfl q14 dX7_flow_153 ?_
        refine ex_nameH (fun u15 eu15 => ?_)
        replace w := w u15 eu15
        refine ex_aload_n hX dX7_flow_154 rfl rfl ?_
        refine ex_get hX (.ref 95) FL_7_7 rfl (fun _ => rfl) dX7_flow_155 ?_
        refine ex_iload_n hX dX7_flow_158 rfl rfl ?_
        refine ex_iload_n hX dX7_flow_159 rfl rfl ?_
        refine ex_iadd hX dX7_flow_160 ?_
        refine ex_dup2 hX dX7_flow_161 rfl rfl ?_
        obtain ⟨q16, w⟩ := w
        refine ex_iald hX rfl q16 dX7_flow_162 ?_
        refine ex_iload hX dX7_flow_163 rfl ?_
        refine ex_isub hX dX7_flow_165 ?_
        refine ex_nameI (fun v17 ev17 => ?_)
        replace w := w v17 ev17
        obtain ⟨q18, w⟩ := w
        refine ex_iast hX rfl q18 dX7_flow_166 ?_
        refine ex_nameH (fun u19 eu19 => ?_)
        replace w := w u19 eu19
        refine ex_aload_n hX dX7_flow_167 rfl rfl ?_
        refine ex_get hX (.ref 95) FL_7_7 rfl (fun _ => rfl) dX7_flow_168 ?_
        refine ex_iload_n hX dX7_flow_171 rfl rfl ?_
        refine ex_iload_n hX dX7_flow_172 rfl rfl ?_
        refine ex_iadd hX dX7_flow_173 ?_
        refine ex_iconst (v := 1) hX dX7_flow_174 rfl ?_
        refine ex_iadd hX dX7_flow_175 ?_
        refine ex_dup2 hX dX7_flow_176 rfl rfl ?_
        obtain ⟨q20, w⟩ := w
        refine ex_iald hX rfl q20 dX7_flow_177 ?_
        refine ex_nameI (fun v21 ev21 => ?_)
        replace w := w v21 ev21
        refine ex_iload_n hX dX7_flow_178 rfl rfl ?_
        refine ex_iconst (v := 1) hX dX7_flow_179 rfl ?_
        refine ex_iadd hX dX7_flow_180 ?_
        refine ex_aload_n hX dX7_flow_181 rfl rfl ?_
        refine ex_pIv (ci := 7) (i := 94) (As := []) (st := [.int (x2 + 1), .int v21, .int ((x1 + x2) + 1), .ref 95]) hX (c_X7_sea (h := u19)) CS_7_174 MS_X7_sea rfl rfl rfl (by decide) rfl (Nat.le_of_ble_eq_true rfl) dX7_flow_182 ?_
        have kc22 : EX Z 10 (QV Z post) 194 u19 [some (.ref 94), some (.int x1), some (.int x2), none, none, none, none, none, none, some (.int (Int64.toInt32 v13))] [.int (if (x2 + 1) = (u19.1 94 9 - 1) then (0 : Int32) else Int64.toInt32 v13), .int v21, .int ((x1 + x2) + 1), .ref 95] := by
          refine ex_nameI (fun v23 ev23 => ?_)
          replace w := w v23 ev23
          refine ex_iadd hX dX7_flow_194 ?_
          obtain ⟨q24, w⟩ := w
          refine ex_iast hX rfl q24 dX7_flow_195 ?_
          refine ex_nameH (fun u25 eu25 => ?_)
          replace w := w u25 eu25
          refine ex_aload_n hX dX7_flow_196 rfl rfl ?_
          refine ex_get hX (.ref 95) FL_7_7 rfl (fun _ => rfl) dX7_flow_197 ?_
          refine ex_iload_n hX dX7_flow_200 rfl rfl ?_
          refine ex_bipush (v := 30) hX dX7_flow_201 rfl ?_
          refine ex_iadd hX dX7_flow_203 ?_
          refine ex_iload_n hX dX7_flow_204 rfl rfl ?_
          refine ex_iadd hX dX7_flow_205 ?_
          refine ex_ldc hX dX7_flow_206 KC_7_201 ?_
          refine ex_aload_n hX dX7_flow_208 rfl rfl ?_
          refine ex_get hX (.ref 95) FL_7_7 rfl (fun _ => rfl) dX7_flow_209 ?_
          refine ex_iload_n hX dX7_flow_212 rfl rfl ?_
          refine ex_bipush (v := 30) hX dX7_flow_213 rfl ?_
          refine ex_iadd hX dX7_flow_215 ?_
          refine ex_iload_n hX dX7_flow_216 rfl rfl ?_
          refine ex_iadd hX dX7_flow_217 ?_
          obtain ⟨q26, w⟩ := w
          refine ex_iald hX rfl q26 dX7_flow_218 ?_
          refine ex_nameI (fun v27 ev27 => ?_)
          replace w := w v27 ev27
          refine ex_iload hX dX7_flow_219 rfl ?_
          have kc28 : EX Z 10 (QV Z post) 230 u25 [some (.ref 94), some (.int x1), some (.int x2), none, none, none, none, none, none, some (.int (Int64.toInt32 v13))] [.int (if (Int64.toInt32 v13) ≤ 0 then (0 : Int32) else Int64.toInt32 v13), .int v27, .int 99999999, .int ((x1 + 30) + x2), .ref 95] := by
            refine ex_nameI (fun v29 ev29 => ?_)
            replace w := w v29 ev29
            refine ex_iadd hX dX7_flow_230 ?_
            refine ex_pIs (As := [.int 99999999, .int (v27 + v29)]) (st := [.int ((x1 + 30) + x2), .ref 95]) hX (c_X7_least (h := u25)) CS_7_202 MS_X7_least rfl (by decide) rfl (Nat.le_of_ble_eq_true rfl) dX7_flow_231 ?_
            obtain ⟨q30, w⟩ := w
            refine ex_iast hX rfl q30 dX7_flow_234 ?_
            refine ex_nameH (fun u31 eu31 => ?_)
            replace w := w u31 eu31
            refine ex_aload_n hX dX7_flow_235 rfl rfl ?_
            refine ex_get hX (.ref 95) FL_7_7 rfl (fun _ => rfl) dX7_flow_236 ?_
            refine ex_iload_n hX dX7_flow_239 rfl rfl ?_
            refine ex_bipush (v := 40) hX dX7_flow_240 rfl ?_
            refine ex_iadd hX dX7_flow_242 ?_
            refine ex_iload_n hX dX7_flow_243 rfl rfl ?_
            refine ex_iadd hX dX7_flow_244 ?_
            refine ex_ldc hX dX7_flow_245 KC_7_201 ?_
            refine ex_aload_n hX dX7_flow_247 rfl rfl ?_
            refine ex_get hX (.ref 95) FL_7_7 rfl (fun _ => rfl) dX7_flow_248 ?_
            refine ex_iload_n hX dX7_flow_251 rfl rfl ?_
            refine ex_bipush (v := 40) hX dX7_flow_252 rfl ?_
            refine ex_iadd hX dX7_flow_254 ?_
            refine ex_iload_n hX dX7_flow_255 rfl rfl ?_
            refine ex_iadd hX dX7_flow_256 ?_
            obtain ⟨q32, w⟩ := w
            refine ex_iald hX rfl q32 dX7_flow_257 ?_
            refine ex_nameI (fun v33 ev33 => ?_)
            replace w := w v33 ev33
            refine ex_iload hX dX7_flow_258 rfl ?_
            have kc34 : EX Z 10 (QV Z post) 270 u31 [some (.ref 94), some (.int x1), some (.int x2), none, none, none, none, none, none, none] [.int (if 0 ≤ (Int64.toInt32 v13) then (0 : Int32) else -(Int64.toInt32 v13)), .int v33, .int 99999999, .int ((x1 + 40) + x2), .ref 95] := by
              refine ex_nameI (fun v35 ev35 => ?_)
              replace w := w v35 ev35
              refine ex_iadd hX dX7_flow_270 ?_
              refine ex_pIs (As := [.int 99999999, .int (v33 + v35)]) (st := [.int ((x1 + 40) + x2), .ref 95]) hX (c_X7_least (h := u31)) CS_7_202 MS_X7_least rfl (by decide) rfl (Nat.le_of_ble_eq_true rfl) dX7_flow_271 ?_
              obtain ⟨q36, w⟩ := w
              refine ex_iast hX rfl q36 dX7_flow_274 ?_
              refine ex_nameH (fun u37 eu37 => ?_)
              replace w := w u37 eu37
              refine ex_iinc (v := x2 + 1) (lv' := [some (.ref 94), some (.int x1), some (.int (x2 + 1)), none, none, none, none, none, none, none]) hX dX7_flow_275 rfl rfl (by decide) rfl ?_
              refine ex_goto hX 41 dX7_flow_278 (by decide) ?_
              exact w
            refine ex_ifge hX 269 dX7_flow_260 (by decide) (fun c34 => ?_) (fun c34 => ?_)
            · refine ex_iconst (v := 0) hX dX7_flow_269 rfl ?_
              rw [show (if 0 ≤ (Int64.toInt32 v13) then (0 : Int32) else -(Int64.toInt32 v13)) = 0 from if_pos c34] at kc34
              exact ex_forget [some (.ref 94), some (.int x1), some (.int x2), none, none, none, none, none, none, none] ⟨rfl, ⟨rfl, ⟨rfl, trivial⟩⟩⟩ kc34
            · refine ex_iload hX dX7_flow_263 rfl ?_
              refine ex_ineg hX dX7_flow_265 ?_
              refine ex_goto hX 270 dX7_flow_266 (by decide) ?_
              rw [show (if 0 ≤ (Int64.toInt32 v13) then (0 : Int32) else -(Int64.toInt32 v13)) = -(Int64.toInt32 v13) from if_neg c34] at kc34
              exact ex_forget [some (.ref 94), some (.int x1), some (.int x2), none, none, none, none, none, none, none] ⟨rfl, ⟨rfl, ⟨rfl, trivial⟩⟩⟩ kc34
          refine ex_ifle hX 229 dX7_flow_221 (by decide) (fun c28 => ?_) (fun c28 => ?_)
          · refine ex_iconst (v := 0) hX dX7_flow_229 rfl ?_
            rw [show (if (Int64.toInt32 v13) ≤ 0 then (0 : Int32) else Int64.toInt32 v13) = 0 from if_pos c28] at kc28
            exact ex_forget [some (.ref 94), some (.int x1), some (.int x2), none, none, none, none, none, none, some (.int (Int64.toInt32 v13))] ⟨rfl, ⟨rfl, ⟨rfl, ⟨rfl, trivial⟩⟩⟩⟩ kc28
          · refine ex_iload hX dX7_flow_224 rfl ?_
            refine ex_goto hX 230 dX7_flow_226 (by decide) ?_
            rw [show (if (Int64.toInt32 v13) ≤ 0 then (0 : Int32) else Int64.toInt32 v13) = Int64.toInt32 v13 from if_neg c28] at kc28
            exact ex_forget [some (.ref 94), some (.int x1), some (.int x2), none, none, none, none, none, none, some (.int (Int64.toInt32 v13))] ⟨rfl, ⟨rfl, ⟨rfl, ⟨rfl, trivial⟩⟩⟩⟩ kc28
        refine ex_icmpne hX 192 dX7_flow_185 (by decide) (fun c22 => ?_) (fun c22 => ?_)
        · refine ex_iload hX dX7_flow_192 rfl ?_
          rw [show (if (x2 + 1) = (u19.1 94 9 - 1) then (0 : Int32) else Int64.toInt32 v13) = Int64.toInt32 v13 from if_neg c22] at kc22
          exact ex_forget [some (.ref 94), some (.int x1), some (.int x2), none, none, none, none, none, none, some (.int (Int64.toInt32 v13))] ⟨rfl, ⟨rfl, ⟨rfl, ⟨rfl, trivial⟩⟩⟩⟩ kc22
        · refine ex_iconst (v := 0) hX dX7_flow_188 rfl ?_
          refine ex_goto hX 194 dX7_flow_189 (by decide) ?_
          rw [show (if (x2 + 1) = (u19.1 94 9 - 1) then (0 : Int32) else Int64.toInt32 v13) = 0 from if_pos c22] at kc22
          exact ex_forget [some (.ref 94), some (.int x1), some (.int x2), none, none, none, none, none, none, some (.int (Int64.toInt32 v13))] ⟨rfl, ⟨rfl, ⟨rfl, ⟨rfl, trivial⟩⟩⟩⟩ kc22
      refine ex_ifleL hX 123 dX7_flow_115 (by decide) (fun c11 => ?_) (fun c11 => ?_)
      · refine ex_lload_n hX dX7_flow_123 rfl rfl ?_
        refine ex_lload hX dX7_flow_124 rfl ?_
        refine ex_lneg hX dX7_flow_126 ?_
        refine ex_lcmp hX dX7_flow_127 ?_
        have kc12 : EX Z 10 (QV Z post) 138 h [some (.ref 94), some (.int x1), some (.int x2), none, none, none, none, none, none, none] [.long (if (v3 * (Int32.toInt64 v5)) < (-v10) then (-v10 : Int64) else v3 * (Int32.toInt64 v5))] := by
          rw [show (if v7 < (v3 * (Int32.toInt64 v5)) then (v7 : Int64) else (if (v3 * (Int32.toInt64 v5)) < (-v10) then (-v10 : Int64) else v3 * (Int32.toInt64 v5))) = (if (v3 * (Int32.toInt64 v5)) < (-v10) then (-v10 : Int64) else v3 * (Int32.toInt64 v5)) from if_neg c11] at kc11
          exact ex_forget [some (.ref 94), some (.int x1), some (.int x2), none, none, none, none, none, none, none] ⟨rfl, ⟨rfl, ⟨rfl, trivial⟩⟩⟩ kc11
        refine ex_ifgeL hX 137 dX7_flow_128 (by decide) (fun c12 => ?_) (fun c12 => ?_)
        · refine ex_lload_n hX dX7_flow_137 rfl rfl ?_
          rw [show (if (v3 * (Int32.toInt64 v5)) < (-v10) then (-v10 : Int64) else v3 * (Int32.toInt64 v5)) = v3 * (Int32.toInt64 v5) from if_neg c12] at kc12
          exact ex_forget [some (.ref 94), some (.int x1), some (.int x2), none, none, none, none, none, none, none] ⟨rfl, ⟨rfl, ⟨rfl, trivial⟩⟩⟩ kc12
        · refine ex_lload hX dX7_flow_131 rfl ?_
          refine ex_lneg hX dX7_flow_133 ?_
          refine ex_goto hX 138 dX7_flow_134 (by decide) ?_
          rw [show (if (v3 * (Int32.toInt64 v5)) < (-v10) then (-v10 : Int64) else v3 * (Int32.toInt64 v5)) = -v10 from if_pos c12] at kc12
          exact ex_forget [some (.ref 94), some (.int x1), some (.int x2), none, none, none, none, none, none, none] ⟨rfl, ⟨rfl, ⟨rfl, trivial⟩⟩⟩ kc12
      · refine ex_lload hX dX7_flow_118 rfl ?_
        refine ex_goto hX 138 dX7_flow_120 (by decide) ?_
        rw [show (if v7 < (v3 * (Int32.toInt64 v5)) then (v7 : Int64) else (if (v3 * (Int32.toInt64 v5)) < (-v10) then (-v10 : Int64) else v3 * (Int32.toInt64 v5))) = v7 from if_pos c11] at kc11
        exact ex_forget [some (.ref 94), some (.int x1), some (.int x2), none, none, none, none, none, none, none] ⟨rfl, ⟨rfl, ⟨rfl, trivial⟩⟩⟩ kc11
    refine ex_icmpne hX 98 dX7_flow_90 (by decide) (fun c8 => ?_) (fun c8 => ?_)
    · replace w := wac8 c8
      refine ex_aload_n hX dX7_flow_98 rfl rfl ?_
      refine ex_get hX (.ref 95) FL_7_7 rfl (fun _ => rfl) dX7_flow_99 ?_
      refine ex_iload_n hX dX7_flow_102 rfl rfl ?_
      refine ex_iload_n hX dX7_flow_103 rfl rfl ?_
      refine ex_iadd hX dX7_flow_104 ?_
      refine ex_iconst (v := 1) hX dX7_flow_105 rfl ?_
      refine ex_iadd hX dX7_flow_106 ?_
      obtain ⟨q9, w⟩ := w
      refine ex_iald hX rfl q9 dX7_flow_107 ?_
      refine ex_i2l hX dX7_flow_108 ?_
      rw [show (if (x2 + 1) = (h.1 94 9 - 1) then (-(v3 * (Int32.toInt64 v5)) : Int64) else Int32.toInt64 (h.1 95 (Int32.toNatClampNeg ((x1 + x2) + 1)))) = Int32.toInt64 (h.1 95 (Int32.toNatClampNeg ((x1 + x2) + 1))) from if_neg c8] at kc8
      exact ex_forget [some (.ref 94), some (.int x1), some (.int x2), some (.long (v3 * (Int32.toInt64 v5))), none, some (.long v7), none, none, none, none] ⟨rfl, ⟨rfl, ⟨rfl, ⟨rfl, ⟨rfl, trivial⟩⟩⟩⟩⟩ kc8
    · refine ex_lload_n hX dX7_flow_93 rfl rfl ?_
      refine ex_lneg hX dX7_flow_94 ?_
      refine ex_goto hX 109 dX7_flow_95 (by decide) ?_
      rw [show (if (x2 + 1) = (h.1 94 9 - 1) then (-(v3 * (Int32.toInt64 v5)) : Int64) else Int32.toInt64 (h.1 95 (Int32.toNatClampNeg ((x1 + x2) + 1)))) = -(v3 * (Int32.toInt64 v5)) from if_pos c8] at kc8
      exact ex_forget [some (.ref 94), some (.int x1), some (.int x2), some (.long (v3 * (Int32.toInt64 v5))), none, some (.long v7), none, none, none, none] ⟨rfl, ⟨rfl, ⟨rfl, ⟨rfl, ⟨rfl, trivial⟩⟩⟩⟩⟩ kc8

set_option maxRecDepth 100000 in
set_option maxHeartbeats 4000000 in
theorem c_X7_flow {h : AH} {a1 : Int32}  {ρ t : Nat} (hρ : ρ ≤ 600) (ha : a1 = nI ρ) (hP : POK (PM h.1)) (ht : t < 2 ^ 31) (h50 : mk (ms h.1 ρ) 50 = nI t) : CV yX7_flow cX7_flow 10 2 42 [.ref 94, .int a1] h (fun u => FM ρ h u ∧ mk (ms u.1 ρ) = flowS (PM h.1) (levS (PM h.1) (mk (ms h.1 ρ))) (pn (PM h.1) - 1) (mk (ms h.1 ρ))) := by
  refine CV.of [some (.ref 94), some (.int a1), none, none, none, none, none, none, none, none] (by decide +kernel) rfl (Nat.le_of_ble_eq_true rfl) rfl (fun Z hX => ?_)
  subst ha
  obtain ⟨⟨hn2, hn10⟩, -⟩ := id hP
  generalize hpost : (fun u => FM ρ h u ∧ mk (ms u.1 ρ) = flowS (PM h.1) (levS (PM h.1) (mk (ms h.1 ρ))) (pn (PM h.1) - 1) (mk (ms h.1 ρ))) = post
  have en : h.1 94 9 = nI (pn (PM h.1)) := i_pos (by show 0 < pn (PM h.1); omega)
  have es : h.1 94 9 - 1 = nI (pn (PM h.1) - 1) := by rw [en, k_1, pk_sub (by omega)]
  generalize hlev : levS (PM h.1) (mk (ms h.1 ρ)) = lev at hpost
  have L2 : ∀ k, k ≤ pn (PM h.1) - 1 → ∀ u : AH, FM ρ h u → (∀ j, j < pn (PM h.1) - 1 → u.1 108 j = lev j - lev (j + 1)) → mk (ms u.1 ρ) = flowS (PM h.1) lev k (mk (ms h.1 ρ)) → EX Z 10 (QV Z post) 41 u [some (.ref 94), some (.int (nI ρ)), some (.int (nI k)), none, none, none, none, none, none, none] [] := by
    refine ldown _ ?_ ?_
    · intro u hF hf hu
      refine sg_X7_flow_41 hX ⟨fun _ => by rw [← hpost]; exact ⟨hF, hu⟩, fun c => absurd ?_ c⟩
      rw [hF.2.1 94 (by decide) (by decide), es]
      exact nI_le (Nat.le_refl _) (by omega)
    · intro k hk ih u hF hf hu
      have e94 := hF.2.1 94 (by decide) (by decide)
      have ik : Int32.toNatClampNeg (nI ρ + nI k) = ρ + k := by rw [nI_add, nI_clamp (by omega)]
      have ik1 : Int32.toNatClampNeg ((nI ρ + nI k) + 1) = ρ + (k + 1) := by rw [k_1, nI_add, nI_add, nI_clamp (by omega)]; omega
      have i10 : Int32.toNatClampNeg ((nI ρ + 10) + nI k) = ρ + (10 + k) := by rw [k_10, nI_add, nI_add, nI_clamp (by omega)]; omega
      have i20 : Int32.toNatClampNeg ((nI ρ + 20) + nI k) = ρ + (20 + k) := by rw [k_20, nI_add, nI_add, nI_clamp (by omega)]; omega
      have i30 : Int32.toNatClampNeg ((nI ρ + 30) + nI k) = ρ + (30 + k) := by rw [k_30, nI_add, nI_add, nI_clamp (by omega)]; omega
      have i40 : Int32.toNatClampNeg ((nI ρ + 40) + nI k) = ρ + (40 + k) := by rw [k_40, nI_add, nI_add, nI_clamp (by omega)]; omega
      have b0 : vp_in (nI ρ + nI k) 800 := by rw [nI_add]; exact vp_in_nI (by omega) (by omega)
      have b1 : vp_in ((nI ρ + nI k) + 1) 800 := by rw [k_1, nI_add, nI_add]; exact vp_in_nI (by omega) (by omega)
      have b10 : vp_in ((nI ρ + 10) + nI k) 800 := by rw [k_10, nI_add, nI_add]; exact vp_in_nI (by omega) (by omega)
      have b20 : vp_in ((nI ρ + 20) + nI k) 800 := by rw [k_20, nI_add, nI_add]; exact vp_in_nI (by omega) (by omega)
      have b30 : vp_in ((nI ρ + 30) + nI k) 800 := by rw [k_30, nI_add, nI_add]; exact vp_in_nI (by omega) (by omega)
      have b40 : vp_in ((nI ρ + 40) + nI k) 800 := by rw [k_40, nI_add, nI_add]; exact vp_in_nI (by omega) (by omega)
      have ec : (nI k + 1 = u.1 94 9 - 1) ↔ (k + 1 = pn (PM h.1) - 1) := by rw [e94, es, nI_1, nI_eq (by omega) (by omega)]
      have r : ∀ (c j : Nat), (j = k ∨ j = k + 1 ∨ j = 10 + k ∨ j = 20 + k ∨ j = 30 + k ∨ j = 40 + k) → rel c j := by intro c j hj; unfold rel; omega
      have ra : ∀ (f : Nat → SG) (j : Nat), (j = k ∨ j = k + 1 ∨ j = 10 + k ∨ j = 20 + k ∨ j = 30 + k ∨ j = 40 + k) → f 95 (ρ + j) = mk (ms f ρ) j := fun f j hj => mk_at (r _ _ hj)
      refine sg_X7_flow_41 hX ⟨fun c => absurd c (by rw [e94, es]; exact nI_ge hk (by omega)), fun c => ⟨vp_in_nI (by omega) (by omega), fun v3 ev3 => ⟨b10, fun v5 ev5 => ⟨b0, fun v7 ev7 => ⟨fun _ => ⟨b1, trivial⟩, fun v10 ev10 v13 ev13 => ⟨b20, fun u15 eu15 => ⟨b0, fun v17 ev17 => ⟨b0, fun u19 eu19 => ⟨b1, fun v21 ev21 v23 ev23 => ⟨b1, fun u25 eu25 => ⟨b30, fun v27 ev27 v29 ev29 => ⟨b30, fun u31 eu31 => ⟨b40, fun v33 ev33 v35 ev35 => ⟨b40, fun u37 eu37 => ?_⟩⟩⟩⟩⟩⟩⟩⟩⟩⟩⟩⟩⟩⟩
      rw [nI_clamp (by omega), hf k hk] at ev3
      rw [i10, ra u.1 (10 + k) (by omega), hu] at ev5
      rw [ik, ra u.1 k (by omega), hu] at ev7
      rw [ik1, ra u.1 (k + 1) (by omega), hu] at ev10
      rw [i20] at eu15
      rw [ik] at ev17 eu19
      rw [ik1] at ev21 eu25
      rw [i30] at ev27 eu31
      rw [i40] at ev33 eu37
      generalize hτ : flowS (PM h.1) lev k (mk (ms h.1 ρ)) = τ at hu ev5 ev7 ev10
      have hV : Int64.toInt32 v13 = flowV (PM h.1) lev k τ := by
        rw [ev13, ev10, ev7, ev5, ev3]
        unfold flowV
        simp only [ec]
      rw [hV] at eu15 ev17 ev23 ev29 ev35
      have m15 : mk (ms u15.1 ρ) = upd τ (20 + k) (flowV (PM h.1) lev k τ) := by rw [eu15, mks (r _ _ (by omega)) (by omega), hu]
      have f15 : FM ρ u u15 := by rw [eu15]; exact FM.set (by omega)
      rw [ra u15.1 k (by omega), m15, upd_ne (by omega)] at ev17
      have m19 : mk (ms u19.1 ρ) = upd (upd τ (20 + k) (flowV (PM h.1) lev k τ)) k (τ k - flowV (PM h.1) lev k τ) := by rw [eu19, mks (r _ _ (by omega)) (by omega), m15, ev17]
      have f19 : FM ρ u u19 := f15.tr (by rw [eu19]; exact FM.set (by omega))
      rw [ra u19.1 (k + 1) (by omega), m19, upd_ne (by omega), upd_ne (by omega)] at ev21
      rw [f19.2.1 94 (by decide) (by decide)] at ev23
      have m25 : mk (ms u25.1 ρ) = upd (upd (upd τ (20 + k) (flowV (PM h.1) lev k τ)) k (τ k - flowV (PM h.1) lev k τ)) (k + 1) (τ (k + 1) + (if k + 1 = pn (PM h.1) - 1 then 0 else flowV (PM h.1) lev k τ)) := by
        rw [eu25, mks (r _ _ (by omega)) (by omega), m19, ev21, ev23]
        simp only [ec]
      have f25 : FM ρ u u25 := f19.tr (by rw [eu25]; exact FM.set (by omega))
      rw [ra u25.1 (30 + k) (by omega), m25, upd_ne (by omega), upd_ne (by omega), upd_ne (by omega)] at ev27
      have e29 : v29 = (if 0 < flowV (PM h.1) lev k τ then flowV (PM h.1) lev k τ else 0) := by
        rw [ev29]
        by_cases q : 0 < flowV (PM h.1) lev k τ
        · rw [if_pos q, if_neg (fun z => by simp only [Int32.lt_iff_toInt_lt, Int32.le_iff_toInt_le] at *; omega)]
        · rw [if_neg q, if_pos (by simp only [Int32.lt_iff_toInt_lt, Int32.le_iff_toInt_le] at *; omega)]
      have m31 := mks (f := u25.1) (ρ := ρ) (k := 30 + k) (v := minS 99999999 (v27 + v29)) (r _ _ (by omega)) (by omega)
      rw [← show u31.1 = hset u25.1 95 (ρ + (30 + k)) (minS 99999999 (v27 + v29)) by rw [eu31], m25, ev27, e29] at m31
      have f31 : FM ρ u u31 := f25.tr (by rw [eu31]; exact FM.set (by omega))
      rw [ra u31.1 (40 + k) (by omega), m31, upd_ne (by omega), upd_ne (by omega), upd_ne (by omega), upd_ne (by omega)] at ev33
      have e35 : v35 = (if flowV (PM h.1) lev k τ < 0 then -flowV (PM h.1) lev k τ else 0) := by
        rw [ev35]
        by_cases q : flowV (PM h.1) lev k τ < 0
        · rw [if_pos q, if_neg (fun z => by simp only [Int32.lt_iff_toInt_lt, Int32.le_iff_toInt_le] at *; omega)]
        · rw [if_neg q, if_pos (by simp only [Int32.lt_iff_toInt_lt, Int32.le_iff_toInt_le] at *; omega)]
      have m37 := mks (f := u31.1) (ρ := ρ) (k := 40 + k) (v := minS 99999999 (v33 + v35)) (r _ _ (by omega)) (by omega)
      rw [← show u37.1 = hset u31.1 95 (ρ + (40 + k)) (minS 99999999 (v33 + v35)) by rw [eu37], m31, ev33, e35] at m37
      have f37 : FM ρ u u37 := f31.tr (by rw [eu37]; exact FM.set (by omega))
      have h108 : u37.1 108 = u.1 108 := by rw [eu37, eu31, eu25, eu19, eu15]; simp only [hset_ne (show (108 : Nat) ≠ 95 by decide)]
      rw [nI_1]
      refine ih u37 (hF.tr f37) (fun j hj => by rw [h108]; exact hf j hj) ?_
      rw [m37, flowS, hτ]
      rfl
  have L1 : ∀ k, k ≤ pn (PM h.1) - 1 → ∀ u : AH, FM ρ h u → u.1 95 = h.1 95 → (∀ j, j < k → u.1 108 j = lev j - lev (j + 1)) → EX Z 10 (QV Z post) 2 u [some (.ref 94), some (.int (nI ρ)), some (.int (nI k)), none, none, none, none, none, none, none] [] := by
    refine ldown _ ?_ ?_
    · intro u hF h95 hf
      refine sg_X7_flow_2 hX ⟨fun _ => L2 0 (by omega) u hF hf ?_, fun c => absurd ?_ c⟩
      · show mk (ms u.1 ρ) = mk (ms h.1 ρ)
        unfold ms; rw [h95]
      · rw [hF.2.1 94 (by decide) (by decide), es]
        exact nI_le (Nat.le_refl _) (by omega)
    · intro k hk ih u hF h95 hf
      have e94 := hF.2.1 94 (by decide) (by decide)
      have eP : PM u.1 = PM h.1 := PM_of hF.2.1
      have em : ms u.1 ρ = ms h.1 ρ := by unfold ms; rw [h95]
      obtain ⟨l1, l2⟩ := lvM_eq (f := u.1) (k := k) hρ (by rw [eP]; exact hP) ht (by rw [em]; exact h50) (by rw [eP]; omega)
      obtain ⟨l3, l4⟩ := lvM_eq (f := u.1) (k := k + 1) hρ (by rw [eP]; exact hP) ht (by rw [em]; exact h50) (by rw [eP]; omega)
      rw [eP, em, hlev] at l2 l4
      refine sg_X7_flow_2 hX ⟨fun c => absurd c (by rw [e94, es]; exact nI_ge hk (by omega)), fun c => ⟨l1, by rw [nI_1]; exact l3, vp_in_nI (by omega) (by omega), fun u5 eu5 => ?_⟩⟩
      rw [nI_1, l2, l4, nI_clamp (by omega)] at eu5
      rw [nI_1]
      refine ih u5 (hF.tr (by rw [eu5]; exact FM.fall)) (by rw [eu5]; exact (hset_ne (f := u.1) (v := lev k - lev (k + 1)) (k := k) (show (95 : Nat) ≠ 108 by decide)).trans h95) (fun j hj => ?_)
      rw [eu5]
      show hset u.1 108 k (lev k - lev (k + 1)) 108 j = _
      rw [hset_eq]
      by_cases hjk : j = k
      · subst hjk; rw [upd_eq]
      · rw [upd_ne hjk]; exact hf j (by omega)
  exact sg_X7_flow_0 hX (L1 0 (by omega) h FM.rf rfl (fun j hj => absurd hj (by omega)))
