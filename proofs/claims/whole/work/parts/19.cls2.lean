def FD (s : Nat) (h u : AH) : Prop := u.2 = h.2 ∧ ∀ i, (i ≤ s ∨ s + 15 ≤ i) → u.1 i = h.1 i
theorem FD.rf {s : Nat} {h : AH} : FD s h h := ⟨rfl, fun _ _ => rfl⟩
theorem FD.tr {s : Nat} {h u v : AH} (a : FD s h u) (b : FD s u v) : FD s h v := ⟨b.1.trans a.1, fun i hi => (b.2 i hi).trans (a.2 i hi)⟩
theorem FD.set {s a k : Nat} {h : AH} {v : Int32} (ha : 0 < a ∧ a < 15) : FD s h (hset h.1 (s + a) k v, h.2) := ⟨rfl, fun i hi => hset_ne (by omega)⟩
theorem FD.C {s : Nat} {h u : AH} (a : FD s h u) : FC s h u := ⟨a.1, fun i hi => a.2 i (by omega)⟩
theorem upd_comm {f : SG} {a b : Nat} {x y : Int32} (h : a ≠ b) : upd (upd f a x) b y = upd (upd f b y) a x := by
  funext j
  by_cases ha : j = a
  · subst ha; rw [upd_ne h, upd_eq, upd_eq]
  · rw [upd_ne (f := upd f b y) ha]
    by_cases hb : j = b
    · subst hb; rw [upd_eq, upd_eq]
    · rw [upd_ne hb, upd_ne ha, upd_ne hb]
theorem upd_same {f : SG} {k : Nat} {v : Int32} (h : f k = v) : upd f k v = f := by rw [← h]; exact upd_id
theorem min_eq {x M : Int32} : (if x < M then x else M) = minS M x := by
  unfold minS
  by_cases h : x < M
  · rw [if_pos h, if_neg (fun z => by simp only [Int32.lt_iff_toInt_lt] at *; omega)]
  · rw [if_neg h]
    by_cases h2 : M < x
    · rw [if_pos h2]
    · rw [if_neg h2, ← Int32.toInt_inj]
      simp only [Int32.lt_iff_toInt_lt] at *
      omega
def mvS (l : Nat) (W paid : Int32) (σ : SG) : SG := upd (upd (upd (upd (upd σ (96 + l) (σ (96 + l) + W * paid)) (108 + l) (σ (108 + l) + (if σ (132 + l) = -W then 1 else 0))) (132 + l) W) (60 + l) (σ (60 + l) + W)) (120 + l) (σ (120 + l) + (if σ (60 + l) + W = σ (84 + l) then 1 else 0))

set_option maxRecDepth 100000 in
set_option maxHeartbeats 4000000 in
theorem sg_X5_move_0 {Z : CX × GX} {post : AH → Prop} {h : AH} {x0 : Nat} {x1 : Int32} {x2 : Int32} {x3 : Int32} (hX : OK Z RX5 cX5_move 4 none 0 0) (ox0 : oc x0 = some 5)
    (w : (vp_in x1 12) ∧ (∀ v2 : Int32, v2 = (h.1 (x0 + 1) (Int32.toNatClampNeg x1)) + x2 → (vp_in x1 12) ∧ (∀ u4 : AH, u4 = (hset h.1 (x0 + 1) (Int32.toNatClampNeg x1) v2, h.2) → (vp_in x1 12) ∧ (∀ v6 : Int32, v6 = (u4.1 (x0 + 4) (Int32.toNatClampNeg x1)) + (x2 * x3) → (vp_in x1 12) ∧ (∀ u8 : AH, u8 = (hset u4.1 (x0 + 4) (Int32.toNatClampNeg x1) v6, u4.2) → (vp_in x1 12) ∧ ((¬ (u8.1 (x0 + 7) (Int32.toNatClampNeg x1)) = (-x2) → (vp_in x1 12) ∧ (∀ u12 : AH, u12 = (hset u8.1 (x0 + 7) (Int32.toNatClampNeg x1) x2, u8.2) → (vp_in x1 12) ∧ (vp_in x1 12) ∧ ((¬ (u12.1 (x0 + 1) (Int32.toNatClampNeg x1)) = (u12.1 (x0 + 3) (Int32.toNatClampNeg x1)) → post u12) ∧ ((u12.1 (x0 + 1) (Int32.toNatClampNeg x1)) = (u12.1 (x0 + 3) (Int32.toNatClampNeg x1)) → (vp_in x1 12) ∧ (∀ v17 : Int32, v17 = (u12.1 (x0 + 6) (Int32.toNatClampNeg x1)) + 1 → (vp_in x1 12) ∧ (∀ u19 : AH, u19 = (hset u12.1 (x0 + 6) (Int32.toNatClampNeg x1) v17, u12.2) → post u19)))))) ∧ ((u8.1 (x0 + 7) (Int32.toNatClampNeg x1)) = (-x2) → (vp_in x1 12) ∧ (∀ v21 : Int32, v21 = (u8.1 (x0 + 5) (Int32.toNatClampNeg x1)) + 1 → (vp_in x1 12) ∧ (∀ u23 : AH, u23 = (hset u8.1 (x0 + 5) (Int32.toNatClampNeg x1) v21, u8.2) → (vp_in x1 12) ∧ (∀ u25 : AH, u25 = (hset u23.1 (x0 + 7) (Int32.toNatClampNeg x1) x2, u23.2) → (vp_in x1 12) ∧ (vp_in x1 12) ∧ ((¬ (u25.1 (x0 + 1) (Int32.toNatClampNeg x1)) = (u25.1 (x0 + 3) (Int32.toNatClampNeg x1)) → post u25) ∧ ((u25.1 (x0 + 1) (Int32.toNatClampNeg x1)) = (u25.1 (x0 + 3) (Int32.toNatClampNeg x1)) → (vp_in x1 12) ∧ (∀ v30 : Int32, v30 = (u25.1 (x0 + 6) (Int32.toNatClampNeg x1)) + 1 → (vp_in x1 12) ∧ (∀ u32 : AH, u32 = (hset u25.1 (x0 + 6) (Int32.toNatClampNeg x1) v30, u25.2) → post u32))))))))))))))
    : EX Z 4 (QV Z post) 0 h [some (.ref x0), some (.int x1), some (.int x2), some (.int x3)] [] := by
  refine ex_aload_n hX dX5_move_0 rfl rfl ?_
  refine ex_get hX (.ref (x0 + 1)) FL_5_9 ox0 (fun _ => rfl) dX5_move_1 ?_
  refine ex_iload_n hX dX5_move_4 rfl rfl ?_
  refine ex_dup2 hX dX5_move_5 rfl rfl ?_
  obtain ⟨q1, w⟩ := w
  refine ex_iald hX (sh_5_1 ox0) q1 dX5_move_6 ?_
  refine ex_iload_n hX dX5_move_7 rfl rfl ?_
  refine ex_iadd hX dX5_move_8 ?_
  refine ex_nameI (fun v2 ev2 => ?_)
  replace w := w v2 ev2
  obtain ⟨q3, w⟩ := w
  refine ex_iast hX (sh_5_1 ox0) q3 dX5_move_9 ?_
  refine ex_nameH (fun u4 eu4 => ?_)
  replace w := w u4 eu4
  refine ex_aload_n hX dX5_move_10 rfl rfl ?_
  refine ex_get hX (.ref (x0 + 4)) FL_5_21 ox0 (fun _ => rfl) dX5_move_11 ?_
  refine ex_iload_n hX dX5_move_14 rfl rfl ?_
  refine ex_dup2 hX dX5_move_15 rfl rfl ?_
  obtain ⟨q5, w⟩ := w
  refine ex_iald hX (sh_5_4 ox0) q5 dX5_move_16 ?_
  refine ex_iload_n hX dX5_move_17 rfl rfl ?_
  refine ex_iload_n hX dX5_move_18 rfl rfl ?_
  refine ex_imul hX dX5_move_19 ?_
  refine ex_iadd hX dX5_move_20 ?_
  refine ex_nameI (fun v6 ev6 => ?_)
  replace w := w v6 ev6
  obtain ⟨q7, w⟩ := w
  refine ex_iast hX (sh_5_4 ox0) q7 dX5_move_21 ?_
  refine ex_nameH (fun u8 eu8 => ?_)
  replace w := w u8 eu8
  refine ex_aload_n hX dX5_move_22 rfl rfl ?_
  refine ex_get hX (.ref (x0 + 7)) FL_5_30 ox0 (fun _ => rfl) dX5_move_23 ?_
  refine ex_iload_n hX dX5_move_26 rfl rfl ?_
  obtain ⟨q9, w⟩ := w
  refine ex_iald hX (sh_5_7 ox0) q9 dX5_move_27 ?_
  refine ex_iload_n hX dX5_move_28 rfl rfl ?_
  refine ex_ineg hX dX5_move_29 ?_
  refine ex_icmpne hX 43 dX5_move_30 (by decide) (fun c10 => ?_) (fun c10 => ?_)
  · replace w := w.1 c10
    refine ex_aload_n hX dX5_move_43 rfl rfl ?_
    refine ex_get hX (.ref (x0 + 7)) FL_5_30 ox0 (fun _ => rfl) dX5_move_44 ?_
    refine ex_iload_n hX dX5_move_47 rfl rfl ?_
    refine ex_iload_n hX dX5_move_48 rfl rfl ?_
    obtain ⟨q11, w⟩ := w
    refine ex_iast hX (sh_5_7 ox0) q11 dX5_move_49 ?_
    refine ex_nameH (fun u12 eu12 => ?_)
    replace w := w u12 eu12
    refine ex_aload_n hX dX5_move_50 rfl rfl ?_
    refine ex_get hX (.ref (x0 + 1)) FL_5_9 ox0 (fun _ => rfl) dX5_move_51 ?_
    refine ex_iload_n hX dX5_move_54 rfl rfl ?_
    obtain ⟨q13, w⟩ := w
    refine ex_iald hX (sh_5_1 ox0) q13 dX5_move_55 ?_
    refine ex_aload_n hX dX5_move_56 rfl rfl ?_
    refine ex_get hX (.ref (x0 + 3)) FL_5_18 ox0 (fun _ => rfl) dX5_move_57 ?_
    refine ex_iload_n hX dX5_move_60 rfl rfl ?_
    obtain ⟨q14, w⟩ := w
    refine ex_iald hX (sh_5_3 ox0) q14 dX5_move_61 ?_
    refine ex_icmpne hX 75 dX5_move_62 (by decide) (fun c15 => ?_) (fun c15 => ?_)
    · replace w := w.1 c15
      exact ex_vret hX dX5_move_75 w
    · replace w := w.2 c15
      refine ex_aload_n hX dX5_move_65 rfl rfl ?_
      refine ex_get hX (.ref (x0 + 6)) FL_5_27 ox0 (fun _ => rfl) dX5_move_66 ?_
      refine ex_iload_n hX dX5_move_69 rfl rfl ?_
      refine ex_dup2 hX dX5_move_70 rfl rfl ?_
      obtain ⟨q16, w⟩ := w
      refine ex_iald hX (sh_5_6 ox0) q16 dX5_move_71 ?_
      refine ex_iconst (v := 1) hX dX5_move_72 rfl ?_
      refine ex_iadd hX dX5_move_73 ?_
      refine ex_nameI (fun v17 ev17 => ?_)
      replace w := w v17 ev17
      obtain ⟨q18, w⟩ := w
      refine ex_iast hX (sh_5_6 ox0) q18 dX5_move_74 ?_
      refine ex_nameH (fun u19 eu19 => ?_)
      replace w := w u19 eu19
      exact ex_vret hX dX5_move_75 w
  · replace w := w.2 c10
    refine ex_aload_n hX dX5_move_33 rfl rfl ?_
    refine ex_get hX (.ref (x0 + 5)) FL_5_24 ox0 (fun _ => rfl) dX5_move_34 ?_
    refine ex_iload_n hX dX5_move_37 rfl rfl ?_
    refine ex_dup2 hX dX5_move_38 rfl rfl ?_
    obtain ⟨q20, w⟩ := w
    refine ex_iald hX (sh_5_5 ox0) q20 dX5_move_39 ?_
    refine ex_iconst (v := 1) hX dX5_move_40 rfl ?_
    refine ex_iadd hX dX5_move_41 ?_
    refine ex_nameI (fun v21 ev21 => ?_)
    replace w := w v21 ev21
    obtain ⟨q22, w⟩ := w
    refine ex_iast hX (sh_5_5 ox0) q22 dX5_move_42 ?_
    refine ex_nameH (fun u23 eu23 => ?_)
    replace w := w u23 eu23
    refine ex_aload_n hX dX5_move_43 rfl rfl ?_
    refine ex_get hX (.ref (x0 + 7)) FL_5_30 ox0 (fun _ => rfl) dX5_move_44 ?_
    refine ex_iload_n hX dX5_move_47 rfl rfl ?_
    refine ex_iload_n hX dX5_move_48 rfl rfl ?_
    obtain ⟨q24, w⟩ := w
    refine ex_iast hX (sh_5_7 ox0) q24 dX5_move_49 ?_
    refine ex_nameH (fun u25 eu25 => ?_)
    replace w := w u25 eu25
    refine ex_aload_n hX dX5_move_50 rfl rfl ?_
    refine ex_get hX (.ref (x0 + 1)) FL_5_9 ox0 (fun _ => rfl) dX5_move_51 ?_
    refine ex_iload_n hX dX5_move_54 rfl rfl ?_
    obtain ⟨q26, w⟩ := w
    refine ex_iald hX (sh_5_1 ox0) q26 dX5_move_55 ?_
    refine ex_aload_n hX dX5_move_56 rfl rfl ?_
    refine ex_get hX (.ref (x0 + 3)) FL_5_18 ox0 (fun _ => rfl) dX5_move_57 ?_
    refine ex_iload_n hX dX5_move_60 rfl rfl ?_
    obtain ⟨q27, w⟩ := w
    refine ex_iald hX (sh_5_3 ox0) q27 dX5_move_61 ?_
    refine ex_icmpne hX 75 dX5_move_62 (by decide) (fun c28 => ?_) (fun c28 => ?_)
    · replace w := w.1 c28
      exact ex_vret hX dX5_move_75 w
    · replace w := w.2 c28
      refine ex_aload_n hX dX5_move_65 rfl rfl ?_
      refine ex_get hX (.ref (x0 + 6)) FL_5_27 ox0 (fun _ => rfl) dX5_move_66 ?_
      refine ex_iload_n hX dX5_move_69 rfl rfl ?_
      refine ex_dup2 hX dX5_move_70 rfl rfl ?_
      obtain ⟨q29, w⟩ := w
      refine ex_iald hX (sh_5_6 ox0) q29 dX5_move_71 ?_
      refine ex_iconst (v := 1) hX dX5_move_72 rfl ?_
      refine ex_iadd hX dX5_move_73 ?_
      refine ex_nameI (fun v30 ev30 => ?_)
      replace w := w v30 ev30
      obtain ⟨q31, w⟩ := w
      refine ex_iast hX (sh_5_6 ox0) q31 dX5_move_74 ?_
      refine ex_nameH (fun u32 eu32 => ?_)
      replace w := w u32 eu32
      exact ex_vret hX dX5_move_75 w

set_option maxRecDepth 100000 in
set_option maxHeartbeats 4000000 in
theorem sg_X3_letGo_0 {Z : CX × GX} {post : AH → Prop} {h : AH} {x0 : Nat} {x1 : Nat} {x2 : Int32} (hX : OK Z RX3 cX3_letGo 5 none 2 46) (ox0 : oc x0 = some 3) (ox1 : oc x1 = some 0)
    (w : (vp_in x2 12) ∧ (∀ v2 : Int32, v2 = h.1 (x0 + 7 + 1) (Int32.toNatClampNeg x2) → (vp_in x2 12) ∧ (∀ v4 : Int32, v4 = h.1 (x0 + 7 + 2) (Int32.toNatClampNeg x2) → (WPc h.1 x1 v2) ∧ (((wfC h.1 x0 x1 v2 v4) ≤ 0 → ((0 ≤ (wfC h.1 x0 x1 v2 v4) → post h) ∧ (¬ 0 ≤ (wfC h.1 x0 x1 v2 v4) → (vp_in (v2 - 1) 9) ∧ (∀ v9 : Int32, v9 = h.1 (x1 + 5) (Int32.toNatClampNeg (v2 - 1)) → (∃ PP : AH → Prop, CV yX5_move cX5_move 4 0 0 [.ref (x0 + 7), .int x2, .int (wfC h.1 x0 x1 v2 v4), .int v9] h PP ∧ ∀ u : AH, PP u → EX Z 5 (QV Z post) 74 u [none, none, none, none, none] []))))) ∧ (¬ (wfC h.1 x0 x1 v2 v4) ≤ 0 → (vp_in v2 9) ∧ (∃ PP : AH → Prop, CV yX5_move cX5_move 4 0 0 [.ref (x0 + 7), .int x2, .int (wfC h.1 x0 x1 v2 v4), .int (h.1 (x1 + 5) (Int32.toNatClampNeg v2))] h PP ∧ ∀ u : AH, PP u → EX Z 5 (QV Z post) 48 u [none, none, none, none, none] []))))))
    : EX Z 5 (QV Z post) 0 h [some (.ref x0), some (.ref x1), some (.int x2), none, none] [] := by
  refine ex_aload_n hX dX3_letGo_0 rfl rfl ?_
  refine ex_get hX (.ref (x0 + 7)) FL_3_33 ox0 (fun _ => rfl) dX3_letGo_1 ?_
  refine ex_get hX (.ref (x0 + 7 + 1)) FL_3_125 (sh_3_7 ox0) (fun _ => rfl) dX3_letGo_4 ?_
  refine ex_iload_n hX dX3_letGo_7 rfl rfl ?_
  obtain ⟨q1, w⟩ := w
  refine ex_iald hX (sh_5_1 (sh_3_7 ox0)) q1 dX3_letGo_8 ?_
  refine ex_nameI (fun v2 ev2 => ?_)
  replace w := w v2 ev2
  refine ex_istore_n (lv' := [some (.ref x0), some (.ref x1), some (.int x2), some (.int v2), none]) hX dX3_letGo_9 rfl (by decide) rfl ?_
  refine ex_aload_n hX dX3_letGo_10 rfl rfl ?_
  refine ex_aload_n hX dX3_letGo_11 rfl rfl ?_
  refine ex_iload_n hX dX3_letGo_12 rfl rfl ?_
  refine ex_aload_n hX dX3_letGo_13 rfl rfl ?_
  refine ex_get hX (.ref (x0 + 7)) FL_3_33 ox0 (fun _ => rfl) dX3_letGo_14 ?_
  refine ex_get hX (.ref (x0 + 7 + 2)) FL_3_128 (sh_3_7 ox0) (fun _ => rfl) dX3_letGo_17 ?_
  refine ex_iload_n hX dX3_letGo_20 rfl rfl ?_
  obtain ⟨q3, w⟩ := w
  refine ex_iald hX (sh_5_2 (sh_3_7 ox0)) q3 dX3_letGo_21 ?_
  refine ex_nameI (fun v4 ev4 => ?_)
  replace w := w v4 ev4
  obtain ⟨q5, w⟩ := w
  refine ex_pIv (ci := 3) (i := x0) (As := [.ref x1, .int v2, .int v4]) (st := []) hX (c_X3_wayFrom (h := h) ox0 ox1 q5) CS_3_131 MS_X3_wayFrom rfl ox0 rfl (by decide) rfl (Nat.le_of_ble_eq_true rfl) dX3_letGo_22 ?_
  refine ex_istore (lv' := [some (.ref x0), some (.ref x1), some (.int x2), some (.int v2), some (.int (wfC h.1 x0 x1 v2 v4))]) hX dX3_letGo_25 (by decide) rfl ?_
  refine ex_iload hX dX3_letGo_27 rfl ?_
  refine ex_ifle hX 51 dX3_letGo_29 (by decide) (fun c6 => ?_) (fun c6 => ?_)
  · replace w := w.1 c6
    refine ex_iload hX dX3_letGo_51 rfl ?_
    refine ex_ifge hX 74 dX3_letGo_53 (by decide) (fun c7 => ?_) (fun c7 => ?_)
    · replace w := w.1 c7
      exact ex_vret hX dX3_letGo_74 w
    · replace w := w.2 c7
      refine ex_aload_n hX dX3_letGo_56 rfl rfl ?_
      refine ex_get hX (.ref (x0 + 7)) FL_3_33 ox0 (fun _ => rfl) dX3_letGo_57 ?_
      refine ex_iload_n hX dX3_letGo_60 rfl rfl ?_
      refine ex_iload hX dX3_letGo_61 rfl ?_
      refine ex_aload_n hX dX3_letGo_63 rfl rfl ?_
      refine ex_get hX (.ref (x1 + 5)) FL_3_135 ox1 (fun _ => rfl) dX3_letGo_64 ?_
      refine ex_iload_n hX dX3_letGo_67 rfl rfl ?_
      refine ex_iconst (v := 1) hX dX3_letGo_68 rfl ?_
      refine ex_isub hX dX3_letGo_69 ?_
      obtain ⟨q8, w⟩ := w
      refine ex_iald hX (sh_0_5 ox1) q8 dX3_letGo_70 ?_
      refine ex_nameI (fun v9 ev9 => ?_)
      replace w := w v9 ev9
      obtain ⟨PP, pM, pK⟩ := w
      exact ex_callVv (ci := 5) (i := x0 + 7) (As := [.int x2, .int (wfC h.1 x0 x1 v2 v4), .int v9]) (st := []) hX pM CS_3_138 MS_X5_move rfl (sh_3_7 ox0) rfl (by decide) rfl (Nat.le_of_ble_eq_true rfl) dX3_letGo_71 (fun u hp => ex_forget [none, none, none, none, none] trivial (pK u hp))
  · replace w := w.2 c6
    refine ex_aload_n hX dX3_letGo_32 rfl rfl ?_
    refine ex_get hX (.ref (x0 + 7)) FL_3_33 ox0 (fun _ => rfl) dX3_letGo_33 ?_
    refine ex_iload_n hX dX3_letGo_36 rfl rfl ?_
    refine ex_iload hX dX3_letGo_37 rfl ?_
    refine ex_aload_n hX dX3_letGo_39 rfl rfl ?_
    refine ex_get hX (.ref (x1 + 5)) FL_3_135 ox1 (fun _ => rfl) dX3_letGo_40 ?_
    refine ex_iload_n hX dX3_letGo_43 rfl rfl ?_
    obtain ⟨q10, w⟩ := w
    refine ex_iald hX (sh_0_5 ox1) q10 dX3_letGo_44 ?_
    obtain ⟨PP, pM, pK⟩ := w
    exact ex_callVv (ci := 5) (i := x0 + 7) (As := [.int x2, .int (wfC h.1 x0 x1 v2 v4), .int (h.1 (x1 + 5) (Int32.toNatClampNeg v2))]) (st := []) hX pM CS_3_138 MS_X5_move rfl (sh_3_7 ox0) rfl (by decide) rfl (Nat.le_of_ble_eq_true rfl) dX3_letGo_45 (fun u hp => ex_forget [none, none, none, none, none] trivial (pK u hp))

set_option maxRecDepth 100000 in
set_option maxHeartbeats 4000000 in
theorem sg_X3_letGo_48 {Z : CX × GX} {post : AH → Prop} {h : AH}  (hX : OK Z RX3 cX3_letGo 5 none 2 46) 
    (w : post h)
    : EX Z 5 (QV Z post) 48 h [none, none, none, none, none] [] := by
  refine ex_goto hX 74 dX3_letGo_48 (by decide) ?_
  exact ex_vret hX dX3_letGo_74 w

set_option maxRecDepth 100000 in
set_option maxHeartbeats 4000000 in
theorem sg_X3_letGo_74 {Z : CX × GX} {post : AH → Prop} {h : AH}  (hX : OK Z RX3 cX3_letGo 5 none 2 46) 
    (w : post h)
    : EX Z 5 (QV Z post) 74 h [none, none, none, none, none] [] := by
  exact ex_vret hX dX3_letGo_74 w

set_option maxRecDepth 100000 in
set_option maxHeartbeats 4000000 in
theorem c_X5_move {h : AH} {a0 : Nat} {a1 : Int32} {a2 : Int32} {a3 : Int32} (ha0 : oc a0 = some 5) {s l : Nat} (e0 : a0 = s + 7) (e1 : a1 = nI l) (hl12 : l < 12) (hl : l < (cs h.1 s 51).toNatClampNeg) : CV yX5_move cX5_move 4 0 0 [.ref a0, .int a1, .int a2, .int a3] h (fun u => FD s h u ∧ mk (cs u.1 s) = mvS l a2 a3 (mk (cs h.1 s))) := by
  refine CV.of [some (.ref a0), some (.int a1), some (.int a2), some (.int a3)] (by decide +kernel) rfl (Nat.le_of_ble_eq_true rfl) rfl (fun Z hX => ?_)
  subst e0; subst e1
  generalize hpost : (fun u => FD s h u ∧ mk (cs u.1 s) = mvS l a2 a3 (mk (cs h.1 s))) = post
  generalize hσ : mk (cs h.1 s) = σ at hpost
  have q51 : (cs h.1 s 51) = σ 51 := by rw [← hσ, mk_51]
  have bl : vp_in (nI l) 12 := vp_in_nI hl12 (by omega)
  have cl : Int32.toNatClampNeg (nI l) = l := nI_clamp (by omega)
  have r : ∀ (n c : Nat), l < n → (c = 60 ∨ c = 72 ∨ c = 84 ∨ c = 96 ∨ c = 108 ∨ c = 120 ∨ c = 132) → rel n (c + l) := by intro n c hn hc; unfold rel; omega
  have lc : ∀ (c a : Nat), (c = 60 ∧ a = 8 ∨ c = 84 ∧ a = 10 ∨ c = 96 ∧ a = 11 ∨ c = 108 ∧ a = 12 ∨ c = 120 ∧ a = 13 ∨ c = 132 ∧ a = 14) → loc (c + l) = some (a, l) := by
    intro c a h
    rcases h with ⟨rfl, rfl⟩ | ⟨rfl, rfl⟩ | ⟨rfl, rfl⟩ | ⟨rfl, rfl⟩ | ⟨rfl, rfl⟩ | ⟨rfl, rfl⟩
    · exact loc_60 l hl12
    · exact loc_84 l hl12
    · exact loc_96 l hl12
    · exact loc_108 l hl12
    · exact loc_120 l hl12
    · exact loc_132 l hl12
  have ra : ∀ (f : Nat → SG) (τ : SG) (c a : Nat), mk (cs f s) = τ → τ 51 = σ 51 → (c = 60 ∧ a = 8 ∨ c = 84 ∧ a = 10 ∨ c = 96 ∧ a = 11 ∨ c = 108 ∧ a = 12 ∨ c = 120 ∧ a = 13 ∨ c = 132 ∧ a = 14) → f (s + a) l = τ (c + l) := by
    intro f τ c a e1 e2 hc
    rw [← e1]
    refine mkc_at (lc c a hc) (r _ _ ?_ (by omega))
    rw [← mk_51 (cs f s), e1, e2, ← q51]
    exact hl
  have wa : ∀ (u u2 : AH) (τ : SG) (c a : Nat) (v : Int32), mk (cs u.1 s) = τ → τ 51 = σ 51 → (c = 60 ∧ a = 8 ∨ c = 84 ∧ a = 10 ∨ c = 96 ∧ a = 11 ∨ c = 108 ∧ a = 12 ∨ c = 120 ∧ a = 13 ∨ c = 132 ∧ a = 14) → u2 = (hset u.1 (s + a) l v, u.2) → mk (cs u2.1 s) = upd τ (c + l) v ∧ upd τ (c + l) v 51 = σ 51 ∧ FD s u u2 := by
    intro u u2 τ c a v e1 e2 hc e3
    refine ⟨?_, ?_, ?_⟩
    · rw [e3, mkc (lc c a hc) (r _ _ ?_ (by omega)) (by omega), e1]
      rw [← mk_51 (cs u.1 s), e1, e2, ← q51]
      exact hl
    · rw [upd_ne (by omega), e2]
    · rw [e3]; exact FD.set (by omega)
  refine sg_X5_move_0 hX ha0 ⟨bl, fun v2 e2 => ⟨bl, fun u4 e4 => ⟨bl, fun v6 e6 => ⟨bl, fun u8 e8 => ⟨bl, ?_⟩⟩⟩⟩⟩
  rw [cl] at e2 e4 e6 e8
  rw [ra h.1 σ 60 8 hσ rfl (by omega)] at e2
  obtain ⟨m4, q4, f4⟩ := wa h u4 σ 60 8 _ hσ rfl (by omega) e4
  rw [ra u4.1 _ 96 11 m4 q4 (by omega), upd_ne (by omega)] at e6
  obtain ⟨m8, q8, f8⟩ := wa u4 u8 _ 96 11 _ m4 q4 (by omega) e8
  have f48 := f4.tr f8
  have w8 : u8.1 (s + 7 + 7) l = σ (132 + l) := by
    have := ra u8.1 _ 132 14 m8 q8 (by omega)
    rw [upd_ne (by omega), upd_ne (by omega)] at this
    exact this
  rw [cl, w8]
  have fin : ∀ (u : AH) (τ : SG), FD s h u → mk (cs u.1 s) = τ → τ 51 = σ 51 → τ (60 + l) = σ (60 + l) + a2 → τ (84 + l) = σ (84 + l) → τ (120 + l) = σ (120 + l) → (∀ y : Int32, y = σ (120 + l) + (if σ (60 + l) + a2 = σ (84 + l) then 1 else 0) → upd τ (120 + l) y = mvS l a2 a3 σ) → (vp_in (nI l) 12) ∧ (vp_in (nI l) 12) ∧ ((¬ (u.1 (s + 7 + 1) l) = (u.1 (s + 7 + 3) l) → post u) ∧ ((u.1 (s + 7 + 1) l) = (u.1 (s + 7 + 3) l) → (vp_in (nI l) 12) ∧ (∀ v17 : Int32, v17 = (u.1 (s + 7 + 6) l) + 1 → (vp_in (nI l) 12) ∧ (∀ u19 : AH, u19 = (hset u.1 (s + 7 + 6) l v17, u.2) → post u19)))) := by
    intro u τ hF hm h51 h60 h84 h120 hy
    have k1 : u.1 (s + 7 + 1) l = σ (60 + l) + a2 := (ra u.1 τ 60 8 hm h51 (by omega)).trans h60
    have k3 : u.1 (s + 7 + 3) l = σ (84 + l) := (ra u.1 τ 84 10 hm h51 (by omega)).trans h84
    have k6 : u.1 (s + 7 + 6) l = σ (120 + l) := (ra u.1 τ 120 13 hm h51 (by omega)).trans h120
    rw [k1, k3, k6]
    refine ⟨bl, bl, fun c => ?_, fun c => ⟨bl, fun v17 e17 => ⟨bl, fun u19 e19 => ?_⟩⟩⟩
    · rw [← hpost]
      refine ⟨hF, ?_⟩
      rw [hm, ← hy _ rfl, if_neg c]
      exact (upd_same (by rw [h120, k_0]; exact (Int32.add_zero _).symm)).symm
    · obtain ⟨m19, -, f19⟩ := wa u u19 τ 120 13 v17 hm h51 (by omega) e19
      rw [← hpost]
      refine ⟨hF.tr f19, ?_⟩
      rw [m19]
      exact hy _ (by rw [e17, if_pos c])
  refine ⟨fun c => ⟨bl, fun u12 e12 => ?_⟩, fun c => ⟨bl, fun v21 e21 => ⟨bl, fun u23 e23 => ⟨bl, fun u25 e25 => ?_⟩⟩⟩⟩
  · obtain ⟨m12, q12, f12⟩ := wa u8 u12 _ 132 14 _ m8 q8 (by omega) e12
    refine fin u12 _ (f48.tr f12) m12 q12 ?_ ?_ ?_ ?_
    · rw [upd_ne (by omega), upd_ne (by omega), upd_eq, e2]
    · rw [upd_ne (by omega), upd_ne (by omega), upd_ne (by omega)]
    · rw [upd_ne (by omega), upd_ne (by omega), upd_ne (by omega)]
    · intro y ey
      unfold mvS
      rw [if_neg c, ey, e6, e2, upd_comm (a := 60 + l) (b := 96 + l) (by omega), upd_comm (a := 60 + l) (b := 132 + l) (by omega)]
      rw [upd_same (f := upd σ (96 + l) (σ (96 + l) + a2 * a3)) (k := 108 + l) (by rw [upd_ne (by omega), k_0]; exact (Int32.add_zero _).symm)]
  · have w5 : u8.1 (s + 7 + 5) l = σ (108 + l) := by
      have := ra u8.1 _ 108 12 m8 q8 (by omega)
      rw [upd_ne (by omega), upd_ne (by omega)] at this
      exact this
    rw [w5] at e21
    obtain ⟨m23, q23, f23⟩ := wa u8 u23 _ 108 12 _ m8 q8 (by omega) e23
    obtain ⟨m25, q25, f25⟩ := wa u23 u25 _ 132 14 _ m23 q23 (by omega) e25
    refine fin u25 _ ((f48.tr f23).tr f25) m25 q25 ?_ ?_ ?_ ?_
    · rw [upd_ne (by omega), upd_ne (by omega), upd_ne (by omega), upd_eq, e2]
    · rw [upd_ne (by omega), upd_ne (by omega), upd_ne (by omega), upd_ne (by omega)]
    · rw [upd_ne (by omega), upd_ne (by omega), upd_ne (by omega), upd_ne (by omega)]
    · intro y ey
      unfold mvS
      rw [if_pos c, ey, e6, e2, e21, upd_comm (a := 60 + l) (b := 96 + l) (by omega), upd_comm (a := 60 + l) (b := 108 + l) (by omega), upd_comm (a := 60 + l) (b := 132 + l) (by omega)]

set_option maxRecDepth 100000 in
set_option maxHeartbeats 4000000 in
theorem c_X3_letGo {h : AH} {a0 : Nat} {a1 : Nat} {a2 : Int32} (ha0 : oc a0 = some 3) (ha1 : oc a1 = some 0) {o l q : Nat} (e2 : a2 = nI l) (hP : 2 ≤ pn (PC h.1 a1 o) ∧ pn (PC h.1 a1 o) ≤ 10) (hl12 : l < 12) (hl : l < (cs h.1 a0 51).toNatClampNeg) (hq : q < pn (PC h.1 a1 o)) (eq : mk (cs h.1 a0) (60 + l) = nI q) (hw : 0 < mk (cs h.1 a0) (72 + l)) : CV yX3_letGo cX3_letGo 5 2 46 [.ref a0, .ref a1, .int a2] h (fun u => FD a0 h u ∧ mk (cs u.1 a0) = log1 (PC h.1 a1 o) l (mk (cs h.1 a0))) := by
  refine CV.of [some (.ref a0), some (.ref a1), some (.int a2), none, none] (by decide +kernel) rfl (Nat.le_of_ble_eq_true rfl) rfl (fun Z hX => ?_)
  subst e2
  generalize hpost : (fun u => FD a0 h u ∧ mk (cs u.1 a0) = log1 (PC h.1 a1 o) l (mk (cs h.1 a0))) = post
  have bl : vp_in (nI l) 12 := vp_in_nI hl12 (by omega)
  have cl : Int32.toNatClampNeg (nI l) = l := nI_clamp (by omega)
  have r60 : h.1 (a0 + 7 + 1) l = mk (cs h.1 a0) (60 + l) := mkc_at (a := 8) (loc_60 l hl12) (by unfold rel; omega)
  have r72 : h.1 (a0 + 7 + 2) l = mk (cs h.1 a0) (72 + l) := mkc_at (a := 9) (loc_72 l hl12) (by unfold rel; omega)
  obtain ⟨w1, w2⟩ := wfC_eq (f := h.1) (s := a0) (c := a1) (o := o) (k := q) (wt := mk (cs h.1 a0) (72 + l)) hP hq
  refine sg_X3_letGo_0 hX ha0 ha1 ⟨bl, fun v2 e2 => ⟨bl, fun v4 e4 => ?_⟩⟩
  rw [cl, r60, eq] at e2
  rw [cl, r72] at e4
  subst e2; subst e4
  generalize hσ : mk (cs h.1 a0) = σ at *
  generalize hW : wfC h.1 a0 a1 (nI q) (σ (72 + l)) = W at w2
  have elog : log1 (PC h.1 a1 o) l σ = if W = 0 then σ else mvS l W (pto (PC h.1 a1 o) (if 0 < W then q else (nI q - 1).toNatClampNeg)) σ := by
    unfold log1 mvS
    dsimp only
    rw [eq, nI_clamp (by omega), ← w2]
  have cs3 := wayS_cases (P := PC h.1 a1 o) (σ := σ) hw hq
  rw [← w2] at cs3
  have s7 : oc (a0 + 7) = some 5 := sh_3_7 ha0
  refine ⟨w1, fun c => ⟨fun c2 => ?_, fun c2 => ?_⟩, fun c => ?_⟩
  · have e0 : W = 0 := by
      rw [← Int32.toInt_inj]
      simp only [Int32.le_iff_toInt_le, zi_z] at *
      omega
    rw [← hpost]
    exact ⟨FD.rf, by rw [hσ, elog, if_pos e0]⟩
  · have em : W = -1 ∧ 0 < q := by
      rcases cs3 with ⟨e, -⟩ | ⟨e, k⟩ | e
      · rw [e] at c; exact absurd c (by decide)
      · exact ⟨e, k⟩
      · rw [e] at c2; exact absurd (by decide) c2
    have eq1 : nI q - 1 = nI (q - 1) := by rw [k_1, pk_sub (by omega)]
    refine ⟨by rw [eq1]; exact vp_in_nI (by omega) (by omega), fun v9 e9 => ⟨_, c_X5_move s7 rfl rfl hl12 hl, fun u hu => sg_X3_letGo_74 hX ?_⟩⟩
    rw [← hpost]
    refine ⟨hu.1, ?_⟩
    rw [hu.2, hσ, elog, if_neg (by rw [em.1]; decide), e9, eq1, nI_clamp (by omega)]
    congr 1
    rw [if_neg (by rw [em.1]; decide)]
    exact (cut_in (show q - 1 < 9 by omega)).symm
  · have em : W = 1 ∧ q < pn (PC h.1 a1 o) - 1 := by
      rcases cs3 with ⟨e, k⟩ | ⟨e, -⟩ | e
      · exact ⟨e, k⟩
      · rw [e] at c; exact absurd (by decide) c
      · rw [e] at c; exact absurd (by decide) c
    refine ⟨vp_in_nI (by omega) (by omega), ⟨_, c_X5_move s7 rfl rfl hl12 hl, fun u hu => sg_X3_letGo_48 hX ?_⟩⟩
    rw [← hpost]
    refine ⟨hu.1, ?_⟩
    rw [hu.2, hσ, elog, if_neg (by rw [em.1]; decide), nI_clamp (by omega)]
    congr 1
    rw [if_pos (by rw [em.1]; decide)]
    exact (cut_in (show q < 9 by omega)).symm

set_option maxRecDepth 100000 in
set_option maxHeartbeats 4000000 in
theorem sg_X3_letFlow_0 {Z : CX × GX} {post : AH → Prop} {h : AH} {x0 : Nat} {x1 : Nat} {x2 : Int32} (hX : OK Z RX3 cX3_letFlow 10 none 1 40) (ox0 : oc x0 = some 3) (ox1 : oc x1 = some 0)
    (w : (vp_in x2 10) ∧ (vp_in (x2 + 1) 10) ∧ (∀ v3 : Int32, v3 = h.1 (x0 + 2) (Int32.toNatClampNeg (x2 + 1)) → (∀ v4 : Int32, v4 = (h.1 (x0 + 2) (Int32.toNatClampNeg x2)) - v3 → (vp_in x2 9) ∧ (∀ v6 : Int64, v6 = Int32.toInt64 (h.1 (x0 + 3) (Int32.toNatClampNeg x2)) → (∀ v7 : Int64, v7 = (if 0 < ((Int32.toInt64 v4) * v6) then ((Int32.toInt64 v4) * v6) else 0) → (vp_in x2 10) ∧ (∀ v9 : Int64, v9 = Int32.toInt64 (h.1 (x0 + 1) (Int32.toNatClampNeg x2)) → (∀ v10 : Int32, v10 = Int64.toInt32 (if v9 < v7 then v9 else v7) → (∀ v11 : Int64, v11 = (if 0 < (-((Int32.toInt64 v4) * v6)) then (-((Int32.toInt64 v4) * v6)) else 0) → ((¬ ((x2 + 1) = h.1 x1 0 - 1) → (vp_in (x2 + 1) 10) ∧ True) ∧ (∀ v14 : Int64, v14 = (if ((x2 + 1) = h.1 x1 0 - 1) then (v11 : Int64) else (if (Int32.toInt64 (h.1 (x0 + 1) (Int32.toNatClampNeg (x2 + 1)))) < v11 then (Int32.toInt64 (h.1 (x0 + 1) (Int32.toNatClampNeg (x2 + 1)))) else v11)) → (vp_in x2 9) ∧ (∀ u16 : AH, u16 = (hset h.1 (x0 + 4) (Int32.toNatClampNeg x2) (v10 - (Int64.toInt32 v14)), h.2) → (vp_in x2 10) ∧ (vp_in x2 9) ∧ (∀ v19 : Int32, v19 = (u16.1 (x0 + 1) (Int32.toNatClampNeg x2)) - (u16.1 (x0 + 4) (Int32.toNatClampNeg x2)) → (vp_in x2 10) ∧ (∀ u21 : AH, u21 = (hset u16.1 (x0 + 1) (Int32.toNatClampNeg x2) v19, u16.2) → ((((x2 + 1) = h.1 x1 0 - 1) → (vp_in x2 9) ∧ (∀ v24 : Int32, v24 = (u21.1 (x0 + 5) (Int32.toNatClampNeg x2)) + v10 → (∀ v25 : Int32, v25 = (if v24 < 99999999 then v24 else 99999999) → (vp_in x2 9) ∧ (∀ u27 : AH, u27 = (hset u21.1 (x0 + 5) (Int32.toNatClampNeg x2) v25, u21.2) → (vp_in x2 9) ∧ (∀ v29 : Int32, v29 = (u27.1 (x0 + 6) (Int32.toNatClampNeg x2)) + (Int64.toInt32 v14) → (∀ v30 : Int32, v30 = (if v29 < 99999999 then v29 else 99999999) → (vp_in x2 9) ∧ (∀ u32 : AH, u32 = (hset u27.1 (x0 + 6) (Int32.toNatClampNeg x2) v30, u27.2) → post u32))))))) ∧ (¬ ((x2 + 1) = h.1 x1 0 - 1) → (vp_in (x2 + 1) 10) ∧ (∀ v34 : Int32, v34 = u21.1 (x0 + 1) (Int32.toNatClampNeg (x2 + 1)) → (vp_in x2 9) ∧ (∀ v36 : Int32, v36 = v34 + (u21.1 (x0 + 4) (Int32.toNatClampNeg x2)) → (vp_in (x2 + 1) 10) ∧ (∀ u38 : AH, u38 = (hset u21.1 (x0 + 1) (Int32.toNatClampNeg (x2 + 1)) v36, u21.2) → (vp_in x2 9) ∧ (∀ v40 : Int32, v40 = (u38.1 (x0 + 5) (Int32.toNatClampNeg x2)) + v10 → (∀ v41 : Int32, v41 = (if v40 < 99999999 then v40 else 99999999) → (vp_in x2 9) ∧ (∀ u43 : AH, u43 = (hset u38.1 (x0 + 5) (Int32.toNatClampNeg x2) v41, u38.2) → (vp_in x2 9) ∧ (∀ v45 : Int32, v45 = (u43.1 (x0 + 6) (Int32.toNatClampNeg x2)) + (Int64.toInt32 v14) → (∀ v46 : Int32, v46 = (if v45 < 99999999 then v45 else 99999999) → (vp_in x2 9) ∧ (∀ u48 : AH, u48 = (hset u43.1 (x0 + 6) (Int32.toNatClampNeg x2) v46, u43.2) → post u48))))))))))))))))))))))))
    : EX Z 10 (QV Z post) 0 h [some (.ref x0), some (.ref x1), some (.int x2), none, none, none, none, none, none, none] [] := by
  refine ex_aload_n hX dX3_letFlow_0 rfl rfl ?_
  refine ex_get hX (.ref (x0 + 2)) FL_3_15 ox0 (fun _ => rfl) dX3_letFlow_1 ?_
  refine ex_iload_n hX dX3_letFlow_4 rfl rfl ?_
  obtain ⟨q1, w⟩ := w
  refine ex_iald hX (sh_3_2 ox0) q1 dX3_letFlow_5 ?_
  refine ex_aload_n hX dX3_letFlow_6 rfl rfl ?_
  refine ex_get hX (.ref (x0 + 2)) FL_3_15 ox0 (fun _ => rfl) dX3_letFlow_7 ?_
  refine ex_iload_n hX dX3_letFlow_10 rfl rfl ?_
  refine ex_iconst (v := 1) hX dX3_letFlow_11 rfl ?_
  refine ex_iadd hX dX3_letFlow_12 ?_
  obtain ⟨q2, w⟩ := w
  refine ex_iald hX (sh_3_2 ox0) q2 dX3_letFlow_13 ?_
  refine ex_nameI (fun v3 ev3 => ?_)
  replace w := w v3 ev3
  refine ex_isub hX dX3_letFlow_14 ?_
  refine ex_nameI (fun v4 ev4 => ?_)
  replace w := w v4 ev4
  refine ex_i2l hX dX3_letFlow_15 ?_
  refine ex_aload_n hX dX3_letFlow_16 rfl rfl ?_
  refine ex_get hX (.ref (x0 + 3)) FL_3_18 ox0 (fun _ => rfl) dX3_letFlow_17 ?_
  refine ex_iload_n hX dX3_letFlow_20 rfl rfl ?_
  obtain ⟨q5, w⟩ := w
  refine ex_iald hX (sh_3_3 ox0) q5 dX3_letFlow_21 ?_
  refine ex_i2l hX dX3_letFlow_22 ?_
  refine ex_nameL (fun v6 ev6 => ?_)
  replace w := w v6 ev6
  refine ex_lmul hX dX3_letFlow_23 ?_
  refine ex_lstore_n (lv' := [some (.ref x0), some (.ref x1), some (.int x2), some (.long ((Int32.toInt64 v4) * v6)), none, none, none, none, none, none]) hX dX3_letFlow_24 rfl (by decide) rfl ?_
  refine ex_aload_n hX dX3_letFlow_25 rfl rfl ?_
  refine ex_iload_n hX dX3_letFlow_26 rfl rfl ?_
  refine ex_iconst (v := 1) hX dX3_letFlow_27 rfl ?_
  refine ex_iadd hX dX3_letFlow_28 ?_
  refine ex_pIv (ci := 0) (i := x1) (As := [.int (x2 + 1)]) (st := []) hX (c_X0_isSea (h := h) ox1) CS_3_69 MS_X0_isSea rfl ox1 rfl (by decide) rfl (Nat.le_of_ble_eq_true rfl) dX3_letFlow_29 ?_
  refine ex_istore (lv' := [some (.ref x0), some (.ref x1), some (.int x2), some (.long ((Int32.toInt64 v4) * v6)), none, some (.int (bI ((x2 + 1) = h.1 x1 0 - 1))), none, none, none, none]) hX dX3_letFlow_32 (by decide) rfl ?_
  refine ex_lload_n hX dX3_letFlow_34 rfl rfl ?_
  refine ex_lconst (v := 0) hX dX3_letFlow_35 rfl ?_
  refine ex_mmaxL hX ML_3_116 JS_maxL JI_Math JC_maxL ⟨Nat.le_of_ble_eq_true rfl, Nat.le_of_ble_eq_true rfl⟩ dX3_letFlow_36 ?_
  refine ex_nameL (fun v7 ev7 => ?_)
  replace w := w v7 ev7
  refine ex_aload_n hX dX3_letFlow_39 rfl rfl ?_
  refine ex_get hX (.ref (x0 + 1)) FL_3_9 ox0 (fun _ => rfl) dX3_letFlow_40 ?_
  refine ex_iload_n hX dX3_letFlow_43 rfl rfl ?_
  obtain ⟨q8, w⟩ := w
  refine ex_iald hX (sh_3_1 ox0) q8 dX3_letFlow_44 ?_
  refine ex_i2l hX dX3_letFlow_45 ?_
  refine ex_nameL (fun v9 ev9 => ?_)
  replace w := w v9 ev9
  refine ex_mminL hX ML_3_119 JS_minL JI_Math JC_minL ⟨Nat.le_of_ble_eq_true rfl, Nat.le_of_ble_eq_true rfl⟩ dX3_letFlow_46 ?_
  refine ex_l2i hX dX3_letFlow_49 ?_
  refine ex_nameI (fun v10 ev10 => ?_)
  replace w := w v10 ev10
  refine ex_istore (lv' := [some (.ref x0), some (.ref x1), some (.int x2), some (.long ((Int32.toInt64 v4) * v6)), none, some (.int (bI ((x2 + 1) = h.1 x1 0 - 1))), some (.int v10), none, none, none]) hX dX3_letFlow_50 (by decide) rfl ?_
  refine ex_lload_n hX dX3_letFlow_52 rfl rfl ?_
  refine ex_lneg hX dX3_letFlow_53 ?_
  refine ex_lconst (v := 0) hX dX3_letFlow_54 rfl ?_
  refine ex_mmaxL hX ML_3_116 JS_maxL JI_Math JC_maxL ⟨Nat.le_of_ble_eq_true rfl, Nat.le_of_ble_eq_true rfl⟩ dX3_letFlow_55 ?_
  refine ex_nameL (fun v11 ev11 => ?_)
  replace w := w v11 ev11
  refine ex_lstore (lv' := [some (.ref x0), some (.ref x1), some (.int x2), some (.long ((Int32.toInt64 v4) * v6)), none, some (.int (bI ((x2 + 1) = h.1 x1 0 - 1))), some (.int v10), some (.long v11), none, none]) hX dX3_letFlow_58 (by decide) rfl ?_
  refine ex_iload hX dX3_letFlow_60 rfl ?_
  obtain ⟨wac12, w⟩ := w
  have kc12 : EX Z 10 (QV Z post) 84 h [some (.ref x0), none, some (.int x2), none, none, some (.int (bI ((x2 + 1) = h.1 x1 0 - 1))), some (.int v10), none, none, none] [.long (if ((x2 + 1) = h.1 x1 0 - 1) then (v11 : Int64) else (if (Int32.toInt64 (h.1 (x0 + 1) (Int32.toNatClampNeg (x2 + 1)))) < v11 then (Int32.toInt64 (h.1 (x0 + 1) (Int32.toNatClampNeg (x2 + 1)))) else v11))] := by
    refine ex_nameL (fun v14 ev14 => ?_)
    replace w := w v14 ev14
    refine ex_l2i hX dX3_letFlow_84 ?_
    refine ex_istore (lv' := [some (.ref x0), none, some (.int x2), none, none, some (.int (bI ((x2 + 1) = h.1 x1 0 - 1))), some (.int v10), none, none, some (.int (Int64.toInt32 v14))]) hX dX3_letFlow_85 (by decide) rfl ?_
    refine ex_aload_n hX dX3_letFlow_87 rfl rfl ?_
    refine ex_get hX (.ref (x0 + 4)) FL_3_21 ox0 (fun _ => rfl) dX3_letFlow_88 ?_
    refine ex_iload_n hX dX3_letFlow_91 rfl rfl ?_
    refine ex_iload hX dX3_letFlow_92 rfl ?_
    refine ex_iload hX dX3_letFlow_94 rfl ?_
    refine ex_isub hX dX3_letFlow_96 ?_
    obtain ⟨q15, w⟩ := w
    refine ex_iast hX (sh_3_4 ox0) q15 dX3_letFlow_97 ?_
    refine ex_nameH (fun u16 eu16 => ?_)
    replace w := w u16 eu16
    refine ex_aload_n hX dX3_letFlow_98 rfl rfl ?_
    refine ex_get hX (.ref (x0 + 1)) FL_3_9 ox0 (fun _ => rfl) dX3_letFlow_99 ?_
    refine ex_iload_n hX dX3_letFlow_102 rfl rfl ?_
    refine ex_dup2 hX dX3_letFlow_103 rfl rfl ?_
    obtain ⟨q17, w⟩ := w
    refine ex_iald hX (sh_3_1 ox0) q17 dX3_letFlow_104 ?_
    refine ex_aload_n hX dX3_letFlow_105 rfl rfl ?_
    refine ex_get hX (.ref (x0 + 4)) FL_3_21 ox0 (fun _ => rfl) dX3_letFlow_106 ?_
    refine ex_iload_n hX dX3_letFlow_109 rfl rfl ?_
    obtain ⟨q18, w⟩ := w
    refine ex_iald hX (sh_3_4 ox0) q18 dX3_letFlow_110 ?_
    refine ex_isub hX dX3_letFlow_111 ?_
    refine ex_nameI (fun v19 ev19 => ?_)
    replace w := w v19 ev19
    obtain ⟨q20, w⟩ := w
    refine ex_iast hX (sh_3_1 ox0) q20 dX3_letFlow_112 ?_
    refine ex_nameH (fun u21 eu21 => ?_)
    replace w := w u21 eu21
    refine ex_iload hX dX3_letFlow_113 rfl ?_
    refine ex_ifneB hX 135 dX3_letFlow_115 (by decide) (fun c22 => ?_) (fun c22 => ?_)
    · replace w := w.1 c22
      refine ex_aload_n hX dX3_letFlow_135 rfl rfl ?_
      refine ex_get hX (.ref (x0 + 5)) FL_3_24 ox0 (fun _ => rfl) dX3_letFlow_136 ?_
      refine ex_iload_n hX dX3_letFlow_139 rfl rfl ?_
      refine ex_ldc hX dX3_letFlow_140 KC_3_122 ?_
      refine ex_aload_n hX dX3_letFlow_142 rfl rfl ?_
      refine ex_get hX (.ref (x0 + 5)) FL_3_24 ox0 (fun _ => rfl) dX3_letFlow_143 ?_
      refine ex_iload_n hX dX3_letFlow_146 rfl rfl ?_
      obtain ⟨q23, w⟩ := w
      refine ex_iald hX (sh_3_5 ox0) q23 dX3_letFlow_147 ?_
      refine ex_iload hX dX3_letFlow_148 rfl ?_
      refine ex_iadd hX dX3_letFlow_150 ?_
      refine ex_nameI (fun v24 ev24 => ?_)
      replace w := w v24 ev24
      refine ex_mmin hX ML_3_123 JS_min JI_Math JC_min ⟨Nat.le_of_ble_eq_true rfl, Nat.le_of_ble_eq_true rfl⟩ dX3_letFlow_151 ?_
      refine ex_nameI (fun v25 ev25 => ?_)
      replace w := w v25 ev25
      obtain ⟨q26, w⟩ := w
      refine ex_iast hX (sh_3_5 ox0) q26 dX3_letFlow_154 ?_
      refine ex_nameH (fun u27 eu27 => ?_)
      replace w := w u27 eu27
      refine ex_aload_n hX dX3_letFlow_155 rfl rfl ?_
      refine ex_get hX (.ref (x0 + 6)) FL_3_27 ox0 (fun _ => rfl) dX3_letFlow_156 ?_
      refine ex_iload_n hX dX3_letFlow_159 rfl rfl ?_
      refine ex_ldc hX dX3_letFlow_160 KC_3_122 ?_
      refine ex_aload_n hX dX3_letFlow_162 rfl rfl ?_
      refine ex_get hX (.ref (x0 + 6)) FL_3_27 ox0 (fun _ => rfl) dX3_letFlow_163 ?_
      refine ex_iload_n hX dX3_letFlow_166 rfl rfl ?_
      obtain ⟨q28, w⟩ := w
      refine ex_iald hX (sh_3_6 ox0) q28 dX3_letFlow_167 ?_
      refine ex_iload hX dX3_letFlow_168 rfl ?_
      refine ex_iadd hX dX3_letFlow_170 ?_
      refine ex_nameI (fun v29 ev29 => ?_)
      replace w := w v29 ev29
      refine ex_mmin hX ML_3_123 JS_min JI_Math JC_min ⟨Nat.le_of_ble_eq_true rfl, Nat.le_of_ble_eq_true rfl⟩ dX3_letFlow_171 ?_
      refine ex_nameI (fun v30 ev30 => ?_)
      replace w := w v30 ev30
      obtain ⟨q31, w⟩ := w
      refine ex_iast hX (sh_3_6 ox0) q31 dX3_letFlow_174 ?_
      refine ex_nameH (fun u32 eu32 => ?_)
      replace w := w u32 eu32
      exact ex_vret hX dX3_letFlow_175 w
    · replace w := w.2 c22
      refine ex_aload_n hX dX3_letFlow_118 rfl rfl ?_
      refine ex_get hX (.ref (x0 + 1)) FL_3_9 ox0 (fun _ => rfl) dX3_letFlow_119 ?_
      refine ex_iload_n hX dX3_letFlow_122 rfl rfl ?_
      refine ex_iconst (v := 1) hX dX3_letFlow_123 rfl ?_
      refine ex_iadd hX dX3_letFlow_124 ?_
      refine ex_dup2 hX dX3_letFlow_125 rfl rfl ?_
      obtain ⟨q33, w⟩ := w
      refine ex_iald hX (sh_3_1 ox0) q33 dX3_letFlow_126 ?_
      refine ex_nameI (fun v34 ev34 => ?_)
      replace w := w v34 ev34
      refine ex_aload_n hX dX3_letFlow_127 rfl rfl ?_
      refine ex_get hX (.ref (x0 + 4)) FL_3_21 ox0 (fun _ => rfl) dX3_letFlow_128 ?_
      refine ex_iload_n hX dX3_letFlow_131 rfl rfl ?_
      obtain ⟨q35, w⟩ := w
      refine ex_iald hX (sh_3_4 ox0) q35 dX3_letFlow_132 ?_
      refine ex_iadd hX dX3_letFlow_133 ?_
      refine ex_nameI (fun v36 ev36 => ?_)
      replace w := w v36 ev36
      obtain ⟨q37, w⟩ := w
      refine ex_iast hX (sh_3_1 ox0) q37 dX3_letFlow_134 ?_
      refine ex_nameH (fun u38 eu38 => ?_)
      replace w := w u38 eu38
      refine ex_aload_n hX dX3_letFlow_135 rfl rfl ?_
      refine ex_get hX (.ref (x0 + 5)) FL_3_24 ox0 (fun _ => rfl) dX3_letFlow_136 ?_
      refine ex_iload_n hX dX3_letFlow_139 rfl rfl ?_
      refine ex_ldc hX dX3_letFlow_140 KC_3_122 ?_
      refine ex_aload_n hX dX3_letFlow_142 rfl rfl ?_
      refine ex_get hX (.ref (x0 + 5)) FL_3_24 ox0 (fun _ => rfl) dX3_letFlow_143 ?_
      refine ex_iload_n hX dX3_letFlow_146 rfl rfl ?_
      obtain ⟨q39, w⟩ := w
      refine ex_iald hX (sh_3_5 ox0) q39 dX3_letFlow_147 ?_
      refine ex_iload hX dX3_letFlow_148 rfl ?_
      refine ex_iadd hX dX3_letFlow_150 ?_
      refine ex_nameI (fun v40 ev40 => ?_)
      replace w := w v40 ev40
      refine ex_mmin hX ML_3_123 JS_min JI_Math JC_min ⟨Nat.le_of_ble_eq_true rfl, Nat.le_of_ble_eq_true rfl⟩ dX3_letFlow_151 ?_
      refine ex_nameI (fun v41 ev41 => ?_)
      replace w := w v41 ev41
      obtain ⟨q42, w⟩ := w
      refine ex_iast hX (sh_3_5 ox0) q42 dX3_letFlow_154 ?_
      refine ex_nameH (fun u43 eu43 => ?_)
      replace w := w u43 eu43
      refine ex_aload_n hX dX3_letFlow_155 rfl rfl ?_
      refine ex_get hX (.ref (x0 + 6)) FL_3_27 ox0 (fun _ => rfl) dX3_letFlow_156 ?_
      refine ex_iload_n hX dX3_letFlow_159 rfl rfl ?_
      refine ex_ldc hX dX3_letFlow_160 KC_3_122 ?_
      refine ex_aload_n hX dX3_letFlow_162 rfl rfl ?_
      refine ex_get hX (.ref (x0 + 6)) FL_3_27 ox0 (fun _ => rfl) dX3_letFlow_163 ?_
      refine ex_iload_n hX dX3_letFlow_166 rfl rfl ?_
      obtain ⟨q44, w⟩ := w
      refine ex_iald hX (sh_3_6 ox0) q44 dX3_letFlow_167 ?_
      refine ex_iload hX dX3_letFlow_168 rfl ?_
      refine ex_iadd hX dX3_letFlow_170 ?_
      refine ex_nameI (fun v45 ev45 => ?_)
      replace w := w v45 ev45
      refine ex_mmin hX ML_3_123 JS_min JI_Math JC_min ⟨Nat.le_of_ble_eq_true rfl, Nat.le_of_ble_eq_true rfl⟩ dX3_letFlow_171 ?_
      refine ex_nameI (fun v46 ev46 => ?_)
      replace w := w v46 ev46
      obtain ⟨q47, w⟩ := w
      refine ex_iast hX (sh_3_6 ox0) q47 dX3_letFlow_174 ?_
      refine ex_nameH (fun u48 eu48 => ?_)
      replace w := w u48 eu48
      exact ex_vret hX dX3_letFlow_175 w
  refine ex_ifeqB hX 70 dX3_letFlow_62 (by decide) (fun c12 => ?_) (fun c12 => ?_)
  · replace w := wac12 c12
    refine ex_lload hX dX3_letFlow_70 rfl ?_
    refine ex_aload_n hX dX3_letFlow_72 rfl rfl ?_
    refine ex_get hX (.ref (x0 + 1)) FL_3_9 ox0 (fun _ => rfl) dX3_letFlow_73 ?_
    refine ex_iload_n hX dX3_letFlow_76 rfl rfl ?_
    refine ex_iconst (v := 1) hX dX3_letFlow_77 rfl ?_
    refine ex_iadd hX dX3_letFlow_78 ?_
    obtain ⟨q13, w⟩ := w
    refine ex_iald hX (sh_3_1 ox0) q13 dX3_letFlow_79 ?_
    refine ex_i2l hX dX3_letFlow_80 ?_
    refine ex_mminL hX ML_3_119 JS_minL JI_Math JC_minL ⟨Nat.le_of_ble_eq_true rfl, Nat.le_of_ble_eq_true rfl⟩ dX3_letFlow_81 ?_
    rw [show (if ((x2 + 1) = h.1 x1 0 - 1) then (v11 : Int64) else (if (Int32.toInt64 (h.1 (x0 + 1) (Int32.toNatClampNeg (x2 + 1)))) < v11 then (Int32.toInt64 (h.1 (x0 + 1) (Int32.toNatClampNeg (x2 + 1)))) else v11)) = (if (Int32.toInt64 (h.1 (x0 + 1) (Int32.toNatClampNeg (x2 + 1)))) < v11 then (Int32.toInt64 (h.1 (x0 + 1) (Int32.toNatClampNeg (x2 + 1)))) else v11) from if_neg c12] at kc12
    exact ex_forget [some (.ref x0), none, some (.int x2), none, none, some (.int (bI ((x2 + 1) = h.1 x1 0 - 1))), some (.int v10), none, none, none] ⟨rfl, ⟨rfl, ⟨rfl, ⟨rfl, trivial⟩⟩⟩⟩ kc12
  · refine ex_lload hX dX3_letFlow_65 rfl ?_
    refine ex_goto hX 84 dX3_letFlow_67 (by decide) ?_
    rw [show (if ((x2 + 1) = h.1 x1 0 - 1) then (v11 : Int64) else (if (Int32.toInt64 (h.1 (x0 + 1) (Int32.toNatClampNeg (x2 + 1)))) < v11 then (Int32.toInt64 (h.1 (x0 + 1) (Int32.toNatClampNeg (x2 + 1)))) else v11)) = v11 from if_pos c12] at kc12
    exact ex_forget [some (.ref x0), none, some (.int x2), none, none, some (.int (bI ((x2 + 1) = h.1 x1 0 - 1))), some (.int v10), none, none, none] ⟨rfl, ⟨rfl, ⟨rfl, ⟨rfl, trivial⟩⟩⟩⟩ kc12

set_option maxRecDepth 100000 in
set_option maxHeartbeats 4000000 in
theorem c_X3_letFlow {h : AH} {a0 : Nat} {a1 : Nat} {a2 : Int32} (ha0 : oc a0 = some 3) (ha1 : oc a1 = some 0) {o k : Nat} {lev : SG} (e2 : a2 = nI k) (hP : 2 ≤ pn (PC h.1 a1 o) ∧ pn (PC h.1 a1 o) ≤ 10) (hk : k < pn (PC h.1 a1 o) - 1) (hl1 : h.1 (a0 + 2) k = lev k) (hl2 : h.1 (a0 + 2) (k + 1) = lev (k + 1)) (hF : k + 1 = pn (PC h.1 a1 o) - 1 → -2147483647 ≤ ((lev k - lev (k + 1)).toInt64 * (mk (cs h.1 a0) (10 + k)).toInt64).toInt) (hf : -9223372036854775807 ≤ ((lev k - lev (k + 1)).toInt64 * (mk (cs h.1 a0) (10 + k)).toInt64).toInt) (hw : 0 ≤ (mk (cs h.1 a0) k).toInt) (hw1 : ¬ k + 1 = pn (PC h.1 a1 o) - 1 → 0 ≤ (mk (cs h.1 a0) (k + 1)).toInt) : CV yX3_letFlow cX3_letFlow 10 1 40 [.ref a0, .ref a1, .int a2] h (fun u => FD a0 h u ∧ u.1 (a0 + 2) = h.1 (a0 + 2) ∧ mk (cs u.1 a0) = flow1 (PC h.1 a1 o) lev k (mk (cs h.1 a0))) := by
  refine CV.of [some (.ref a0), some (.ref a1), some (.int a2), none, none, none, none, none, none, none] (by decide +kernel) rfl (Nat.le_of_ble_eq_true rfl) rfl (fun Z hX => ?_)
  subst e2
  generalize hpost : (fun u => FD a0 h u ∧ u.1 (a0 + 2) = h.1 (a0 + 2) ∧ mk (cs u.1 a0) = flow1 (PC h.1 a1 o) lev k (mk (cs h.1 a0))) = post
  have en : h.1 a1 0 = nI (pn (PC h.1 a1 o)) := i_pos (by show 0 < pn (PC h.1 a1 o); omega)
  have es : h.1 a1 0 - 1 = nI (pn (PC h.1 a1 o) - 1) := by rw [en, k_1, pk_sub (by omega)]
  have ec : (nI k + 1 = h.1 a1 0 - 1) ↔ (k + 1 = pn (PC h.1 a1 o) - 1) := by rw [es, nI_1, nI_eq (by omega) (by omega)]
  have b10 : vp_in (nI k) 10 := vp_in_nI (by omega) (by omega)
  have b9 : vp_in (nI k) 9 := vp_in_nI (by omega) (by omega)
  have c10 : vp_in (nI k + 1) 10 := by rw [nI_1]; exact vp_in_nI (by omega) (by omega)
  have ck : Int32.toNatClampNeg (nI k) = k := nI_clamp (by omega)
  have ck1 : Int32.toNatClampNeg (nI k + 1) = k + 1 := by rw [nI_1, nI_clamp (by omega)]
  have r : ∀ (n j : Nat), (j = k ∨ j = k + 1 ∨ j = 10 + k ∨ j = 20 + k ∨ j = 30 + k ∨ j = 40 + k) → rel n j := by intro n j hj; unfold rel; omega
  have lc : ∀ (j a b : Nat), (j = k ∧ a = 1 ∧ b = k ∨ j = k + 1 ∧ a = 1 ∧ b = k + 1 ∨ j = 10 + k ∧ a = 3 ∧ b = k ∨ j = 20 + k ∧ a = 4 ∧ b = k ∨ j = 30 + k ∧ a = 5 ∧ b = k ∨ j = 40 + k ∧ a = 6 ∧ b = k) → loc j = some (a, b) := by
    intro j a b h
    rcases h with ⟨rfl, rfl, rfl⟩ | ⟨rfl, rfl, rfl⟩ | ⟨rfl, rfl, rfl⟩ | ⟨rfl, rfl, rfl⟩ | ⟨rfl, rfl, rfl⟩ | ⟨rfl, rfl, rfl⟩
    · exact loc_w _ (by omega)
    · exact loc_w _ (by omega)
    · exact loc_10 _ (by omega)
    · exact loc_20 _ (by omega)
    · exact loc_30 _ (by omega)
    · exact loc_40 _ (by omega)
  generalize hσ : mk (cs h.1 a0) = σ at *
  have ra : ∀ (f : Nat → SG) (τ : SG) (j a b : Nat), mk (cs f a0) = τ → (j = k ∧ a = 1 ∧ b = k ∨ j = k + 1 ∧ a = 1 ∧ b = k + 1 ∨ j = 10 + k ∧ a = 3 ∧ b = k ∨ j = 20 + k ∧ a = 4 ∧ b = k ∨ j = 30 + k ∧ a = 5 ∧ b = k ∨ j = 40 + k ∧ a = 6 ∧ b = k) → f (a0 + a) b = τ j := by
    intro f τ j a b e1 hc
    rw [← e1]
    exact mkc_at (lc j a b hc) (r _ _ (by omega))
  have wa : ∀ (u u2 : AH) (τ : SG) (j a b : Nat) (v : Int32), mk (cs u.1 a0) = τ → (j = k ∧ a = 1 ∧ b = k ∨ j = k + 1 ∧ a = 1 ∧ b = k + 1 ∨ j = 10 + k ∧ a = 3 ∧ b = k ∨ j = 20 + k ∧ a = 4 ∧ b = k ∨ j = 30 + k ∧ a = 5 ∧ b = k ∨ j = 40 + k ∧ a = 6 ∧ b = k) → u2 = (hset u.1 (a0 + a) b v, u.2) → mk (cs u2.1 a0) = upd τ j v ∧ FD a0 u u2 ∧ u2.1 (a0 + 2) = u.1 (a0 + 2) := by
    intro u u2 τ j a b v e1 hc e3
    refine ⟨?_, ?_, ?_⟩
    · rw [e3, mkc (lc j a b hc) (r _ _ (by omega)) (by omega), e1]
    · rw [e3]; exact FD.set (by omega)
    · rw [e3]; exact hset_ne (by omega)
  refine sg_X3_letFlow_0 hX ha0 ha1 ⟨b10, c10, fun v3 e3 v4 e4 => ⟨b9, fun v6 e6 v7 e7 => ⟨b10, fun v9 e9 v10 e10 v11 e11 => ⟨fun _ => ⟨c10, trivial⟩, fun v14 e14 => ⟨b9, fun u16 e16 => ⟨b10, b9, fun v19 e19 => ⟨b10, fun u21 e21 => ?_⟩⟩⟩⟩⟩⟩⟩
  rw [ck1, hl2] at e3
  rw [ck, hl1, e3] at e4
  rw [ck, ra h.1 σ (10 + k) 3 k hσ (by omega)] at e6
  rw [ck, ra h.1 σ k 1 k hσ (by omega)] at e9
  rw [ck1, ra h.1 σ (k + 1) 1 (k + 1) hσ (by omega)] at e14
  rw [e4, e6] at e7 e11
  rw [e7, e9] at e10
  rw [e11] at e14
  obtain ⟨t1, t2, t3, -⟩ := flow_cls (F := (lev k - lev (k + 1)).toInt64 * (σ (10 + k)).toInt64) (w := σ k) (w1 := σ (k + 1)) (sea := k + 1 = pn (PC h.1 a1 o) - 1) (D := if (σ k).toInt64 < (if 0 < (lev k - lev (k + 1)).toInt64 * (σ (10 + k)).toInt64 then (lev k - lev (k + 1)).toInt64 * (σ (10 + k)).toInt64 else 0) then (σ k).toInt64 else (if 0 < (lev k - lev (k + 1)).toInt64 * (σ (10 + k)).toInt64 then (lev k - lev (k + 1)).toInt64 * (σ (10 + k)).toInt64 else 0)) (U := v14) (V := flowV (PC h.1 a1 o) lev k σ) hF hf hw hw1 rfl (by rw [e14]; simp only [ec]) rfl
  rw [← e10] at t1 t2
  generalize hV : flowV (PC h.1 a1 o) lev k σ = V at *
  rw [ck, t1] at e16
  obtain ⟨m16, f16, l16⟩ := wa h u16 σ (20 + k) 4 k V hσ (by omega) e16
  rw [ck, ra u16.1 _ k 1 k m16 (by omega), ra u16.1 _ (20 + k) 4 k m16 (by omega), upd_ne (by omega), upd_eq] at e19
  rw [ck] at e21
  obtain ⟨m21, f21, l21⟩ := wa u16 u21 _ k 1 k v19 m16 (by omega) e21
  have g30 : ∀ (u : AH) (τ : SG), FD a0 h u → u.1 (a0 + 2) = h.1 (a0 + 2) → mk (cs u.1 a0) = τ → τ (30 + k) = σ (30 + k) → τ (40 + k) = σ (40 + k) → (∀ x y : Int32, x = minS 99999999 (σ (30 + k) + (if 0 < V then V else 0)) → y = minS 99999999 (σ (40 + k) + (if V < 0 then -V else 0)) → upd (upd τ (30 + k) x) (40 + k) y = flow1 (PC h.1 a1 o) lev k σ) → (vp_in (nI k) 9) ∧ (∀ v24 : Int32, v24 = (u.1 (a0 + 5) k) + v10 → (∀ v25 : Int32, v25 = (if v24 < 99999999 then v24 else 99999999) → (vp_in (nI k) 9) ∧ (∀ u27 : AH, u27 = (hset u.1 (a0 + 5) k v25, u.2) → (vp_in (nI k) 9) ∧ (∀ v29 : Int32, v29 = (u27.1 (a0 + 6) k) + (Int64.toInt32 v14) → (∀ v30 : Int32, v30 = (if v29 < 99999999 then v29 else 99999999) → (vp_in (nI k) 9) ∧ (∀ u32 : AH, u32 = (hset u27.1 (a0 + 6) k v30, u27.2) → post u32)))))) := by
    intro u τ hFu hlu hm h30 h40 hy
    refine ⟨b9, fun v24 e24 v25 e25 => ⟨b9, fun u27 e27 => ⟨b9, fun v29 e29 v30 e30 => ⟨b9, fun u32 e32 => ?_⟩⟩⟩⟩
    rw [ra u.1 τ (30 + k) 5 k hm (by omega), h30, t2] at e24
    obtain ⟨m27, f27, l27⟩ := wa u u27 τ (30 + k) 5 k v25 hm (by omega) e27
    rw [ra u27.1 _ (40 + k) 6 k m27 (by omega), upd_ne (by omega), h40, t3] at e29
    obtain ⟨m32, f32, l32⟩ := wa u27 u32 _ (40 + k) 6 k v30 m27 (by omega) e32
    rw [← hpost]
    refine ⟨(hFu.tr f27).tr f32, by rw [l32, l27, hlu], ?_⟩
    rw [m32]
    exact hy _ _ (by rw [e25, min_eq, e24]) (by rw [e30, min_eq, e29])
  rw [ck, ck1]
  refine ⟨fun c => ?_, fun c => ⟨c10, fun v34 e34 => ⟨b9, fun v36 e36 => ⟨c10, fun u38 e38 => ?_⟩⟩⟩⟩
  · rw [ec] at c
    refine g30 u21 _ (f16.tr f21) (by rw [l21, l16]) m21 ?_ ?_ ?_
    · rw [upd_ne (by omega), upd_ne (by omega)]
    · rw [upd_ne (by omega), upd_ne (by omega)]
    · intro x y ex ey
      unfold flow1
      dsimp only
      rw [hV, if_pos c, ex, ey, e19, upd_same (f := upd (upd σ (20 + k) V) k (σ k - V)) (k := k + 1) (by rw [upd_ne (by omega), upd_ne (by omega), k_0]; exact (Int32.add_zero _).symm)]
  · rw [ec] at c
    rw [ra u21.1 _ (k + 1) 1 (k + 1) m21 (by omega), upd_ne (by omega), upd_ne (by omega)] at e34
    rw [ra u21.1 _ (20 + k) 4 k m21 (by omega), upd_ne (by omega), upd_eq] at e36
    obtain ⟨m38, f38, l38⟩ := wa u21 u38 _ (k + 1) 1 (k + 1) v36 m21 (by omega) e38
    refine g30 u38 _ ((f16.tr f21).tr f38) (by rw [l38, l21, l16]) m38 ?_ ?_ ?_
    · rw [upd_ne (by omega), upd_ne (by omega), upd_ne (by omega)]
    · rw [upd_ne (by omega), upd_ne (by omega), upd_ne (by omega)]
    · intro x y ex ey
      unfold flow1
      dsimp only
      rw [hV, if_neg c, ex, ey, e19, e36, e34]
