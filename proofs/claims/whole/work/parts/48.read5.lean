set_option maxRecDepth 100000 in
set_option maxHeartbeats 4000000 in
theorem sg_X2_begin_0 {Z : CX × GX} {post : AH → Prop} {h : AH}  (hX : OK Z RX2 cX2_begin 1 none 0 0) 
    (w : (∀ u1 : AH, u1 = (hset h.1 1 2 0, h.2) → (∀ u2 : AH, u2 = (hset u1.1 1 3 0, u1.2) → (∀ u3 : AH, u3 = (hset u2.1 1 6 0, u2.2) → (∀ u4 : AH, u4 = (hset u3.1 1 8 0, u3.2) → (∀ u5 : AH, u5 = (hset u4.1 1 9 0, u4.2) → (∀ u6 : AH, u6 = (hset u5.1 1 10 0, u5.2) → post u6)))))))
    : EX Z 1 (QV Z post) 0 h [some (.ref 1)] [] := by
  refine ex_aload_n hX dX2_begin_0 rfl rfl ?_
  refine ex_iconst (v := 0) hX dX2_begin_1 rfl ?_
  refine ex_put hX .int FL_2_19 tyX2 tyX2_ok nmX2 rfl rfl rfl rfl rfl (fun _ => (by decide : 2 < 11)) (fun _ => fs_2_2) dX2_begin_2 ?_
  refine ex_nameH (fun u1 eu1 => ?_)
  replace w := w u1 eu1
  refine ex_aload_n hX dX2_begin_5 rfl rfl ?_
  refine ex_iconst (v := 0) hX dX2_begin_6 rfl ?_
  refine ex_put hX .int FL_2_22 tyX2 tyX2_ok nmX2 rfl rfl rfl rfl rfl (fun _ => (by decide : 3 < 11)) (fun _ => fs_2_3) dX2_begin_7 ?_
  refine ex_nameH (fun u2 eu2 => ?_)
  replace w := w u2 eu2
  refine ex_aload_n hX dX2_begin_10 rfl rfl ?_
  refine ex_iconst (v := 0) hX dX2_begin_11 rfl ?_
  refine ex_put hX .int FL_2_65 tyX2 tyX2_ok nmX2 rfl rfl rfl rfl rfl (fun _ => (by decide : 6 < 11)) (fun _ => fs_2_6) dX2_begin_12 ?_
  refine ex_nameH (fun u3 eu3 => ?_)
  replace w := w u3 eu3
  refine ex_aload_n hX dX2_begin_15 rfl rfl ?_
  refine ex_iconst (v := 0) hX dX2_begin_16 rfl ?_
  refine ex_put hX .boolean FL_2_68 tyX2 tyX2_ok nmX2 rfl rfl rfl rfl rfl (fun _ => (by decide : 8 < 11)) (fun _ => fs_2_8) dX2_begin_17 ?_
  refine ex_nameH (fun u4 eu4 => ?_)
  replace w := w u4 eu4
  refine ex_aload_n hX dX2_begin_20 rfl rfl ?_
  refine ex_iconst (v := 0) hX dX2_begin_21 rfl ?_
  refine ex_put hX .boolean FL_2_72 tyX2 tyX2_ok nmX2 rfl rfl rfl rfl rfl (fun _ => (by decide : 9 < 11)) (fun _ => fs_2_9) dX2_begin_22 ?_
  refine ex_nameH (fun u5 eu5 => ?_)
  replace w := w u5 eu5
  refine ex_aload_n hX dX2_begin_25 rfl rfl ?_
  refine ex_iconst (v := 0) hX dX2_begin_26 rfl ?_
  refine ex_put hX .int FL_2_75 tyX2 tyX2_ok nmX2 rfl rfl rfl rfl rfl (fun _ => (by decide : 10 < 11)) (fun _ => fs_2_10) dX2_begin_27 ?_
  refine ex_nameH (fun u6 eu6 => ?_)
  replace w := w u6 eu6
  exact ex_vret hX dX2_begin_30 w

set_option maxRecDepth 100000 in
set_option maxHeartbeats 4000000 in
theorem sg_X0_forgetAll_0 {Z : CX × GX} {post : AH → Prop} {h : AH} {x0 : Nat} (hX : OK Z RX0 cX0_forgetAll 2 none 0 0) (ox0 : oc x0 = some 0)
    (w : (∀ u1 : AH, u1 = (hset h.1 x0 0 0, h.2) → EX Z 2 (QV Z post) 7 u1 [some (.ref x0), some (.int 0)] []))
    : EX Z 2 (QV Z post) 0 h [some (.ref x0), none] [] := by
  refine ex_aload_n hX dX0_forgetAll_0 rfl rfl ?_
  refine ex_iconst (v := 0) hX dX0_forgetAll_1 rfl ?_
  refine ex_put hX .int FL_0_33 tyX0 tyX0_ok nmX0 rfl rfl rfl rfl ox0 (fun _ => (by decide : 0 < 8)) (fun _ => fs_0_0) dX0_forgetAll_2 ?_
  refine ex_nameH (fun u1 eu1 => ?_)
  replace w := w u1 eu1
  refine ex_iconst (v := 0) hX dX0_forgetAll_5 rfl ?_
  refine ex_istore_n (lv' := [some (.ref x0), some (.int 0)]) hX dX0_forgetAll_6 rfl (by decide) rfl ?_
  exact w

set_option maxRecDepth 100000 in
set_option maxHeartbeats 4000000 in
theorem sg_X0_forgetAll_7 {Z : CX × GX} {post : AH → Prop} {h : AH} {x0 : Nat} {x1 : Int32} (hX : OK Z RX0 cX0_forgetAll 2 none 0 0) (ox0 : oc x0 = some 0)
    (w : ((10 ≤ x1 → EX Z 2 (QV Z post) 42 h [some (.ref x0), some (.int 0)] []) ∧ (¬ 10 ≤ x1 → (vp_in x1 10) ∧ (∀ u3 : AH, u3 = (hset h.1 (x0 + 1) (Int32.toNatClampNeg x1) 0, h.2) → (vp_in x1 10) ∧ (∀ u5 : AH, u5 = (hset u3.1 (x0 + 2) (Int32.toNatClampNeg x1) 0, u3.2) → (vp_in x1 10) ∧ (∀ u7 : AH, u7 = (hset u5.1 (x0 + 3) (Int32.toNatClampNeg x1) 0, u5.2) → EX Z 2 (QV Z post) 7 u7 [some (.ref x0), some (.int (x1 + 1))] []))))))
    : EX Z 2 (QV Z post) 7 h [some (.ref x0), some (.int x1)] [] := by
  refine ex_iload_n hX dX0_forgetAll_7 rfl rfl ?_
  refine ex_bipush (v := 10) hX dX0_forgetAll_8 rfl ?_
  refine ex_icmpge hX 40 dX0_forgetAll_10 (by decide) (fun c1 => ?_) (fun c1 => ?_)
  · replace w := w.1 c1
    refine ex_iconst (v := 0) hX dX0_forgetAll_40 rfl ?_
    refine ex_istore_n (lv' := [some (.ref x0), some (.int 0)]) hX dX0_forgetAll_41 rfl (by decide) rfl ?_
    exact w
  · replace w := w.2 c1
    refine ex_aload_n hX dX0_forgetAll_13 rfl rfl ?_
    refine ex_get hX (.ref (x0 + 1)) FL_0_9 ox0 (fun _ => rfl) dX0_forgetAll_14 ?_
    refine ex_iload_n hX dX0_forgetAll_17 rfl rfl ?_
    refine ex_iconst (v := 0) hX dX0_forgetAll_18 rfl ?_
    obtain ⟨q2, w⟩ := w
    refine ex_iast hX (sh_0_1 ox0) q2 dX0_forgetAll_19 ?_
    refine ex_nameH (fun u3 eu3 => ?_)
    replace w := w u3 eu3
    refine ex_aload_n hX dX0_forgetAll_20 rfl rfl ?_
    refine ex_get hX (.ref (x0 + 2)) FL_0_15 ox0 (fun _ => rfl) dX0_forgetAll_21 ?_
    refine ex_iload_n hX dX0_forgetAll_24 rfl rfl ?_
    refine ex_iconst (v := 0) hX dX0_forgetAll_25 rfl ?_
    obtain ⟨q4, w⟩ := w
    refine ex_iast hX (sh_0_2 ox0) q4 dX0_forgetAll_26 ?_
    refine ex_nameH (fun u5 eu5 => ?_)
    replace w := w u5 eu5
    refine ex_aload_n hX dX0_forgetAll_27 rfl rfl ?_
    refine ex_get hX (.ref (x0 + 3)) FL_0_18 ox0 (fun _ => rfl) dX0_forgetAll_28 ?_
    refine ex_iload_n hX dX0_forgetAll_31 rfl rfl ?_
    refine ex_iconst (v := 0) hX dX0_forgetAll_32 rfl ?_
    obtain ⟨q6, w⟩ := w
    refine ex_iast hX (sh_0_3 ox0) q6 dX0_forgetAll_33 ?_
    refine ex_nameH (fun u7 eu7 => ?_)
    replace w := w u7 eu7
    refine ex_iinc (v := x1 + 1) (lv' := [some (.ref x0), some (.int (x1 + 1))]) hX dX0_forgetAll_34 rfl rfl (by decide) rfl ?_
    refine ex_goto hX 7 dX0_forgetAll_37 (by decide) ?_
    exact w

set_option maxRecDepth 100000 in
set_option maxHeartbeats 4000000 in
theorem sg_X0_forgetAll_42 {Z : CX × GX} {post : AH → Prop} {h : AH} {x0 : Nat} {x1 : Int32} (hX : OK Z RX0 cX0_forgetAll 2 none 0 0) (ox0 : oc x0 = some 0)
    (w : ((9 ≤ x1 → EX Z 2 (QV Z post) 70 h [some (.ref x0), some (.int 0)] []) ∧ (¬ 9 ≤ x1 → (vp_in x1 9) ∧ (∀ u3 : AH, u3 = (hset h.1 (x0 + 4) (Int32.toNatClampNeg x1) 5, h.2) → (vp_in x1 9) ∧ (∀ u5 : AH, u5 = (hset u3.1 (x0 + 5) (Int32.toNatClampNeg x1) 1, u3.2) → EX Z 2 (QV Z post) 42 u5 [some (.ref x0), some (.int (x1 + 1))] [])))))
    : EX Z 2 (QV Z post) 42 h [some (.ref x0), some (.int x1)] [] := by
  refine ex_iload_n hX dX0_forgetAll_42 rfl rfl ?_
  refine ex_bipush (v := 9) hX dX0_forgetAll_43 rfl ?_
  refine ex_icmpge hX 68 dX0_forgetAll_45 (by decide) (fun c1 => ?_) (fun c1 => ?_)
  · replace w := w.1 c1
    refine ex_iconst (v := 0) hX dX0_forgetAll_68 rfl ?_
    refine ex_istore_n (lv' := [some (.ref x0), some (.int 0)]) hX dX0_forgetAll_69 rfl (by decide) rfl ?_
    exact w
  · replace w := w.2 c1
    refine ex_aload_n hX dX0_forgetAll_48 rfl rfl ?_
    refine ex_get hX (.ref (x0 + 4)) FL_0_21 ox0 (fun _ => rfl) dX0_forgetAll_49 ?_
    refine ex_iload_n hX dX0_forgetAll_52 rfl rfl ?_
    refine ex_iconst (v := 5) hX dX0_forgetAll_53 rfl ?_
    obtain ⟨q2, w⟩ := w
    refine ex_iast hX (sh_0_4 ox0) q2 dX0_forgetAll_54 ?_
    refine ex_nameH (fun u3 eu3 => ?_)
    replace w := w u3 eu3
    refine ex_aload_n hX dX0_forgetAll_55 rfl rfl ?_
    refine ex_get hX (.ref (x0 + 5)) FL_0_24 ox0 (fun _ => rfl) dX0_forgetAll_56 ?_
    refine ex_iload_n hX dX0_forgetAll_59 rfl rfl ?_
    refine ex_iconst (v := 1) hX dX0_forgetAll_60 rfl ?_
    obtain ⟨q4, w⟩ := w
    refine ex_iast hX (sh_0_5 ox0) q4 dX0_forgetAll_61 ?_
    refine ex_nameH (fun u5 eu5 => ?_)
    replace w := w u5 eu5
    refine ex_iinc (v := x1 + 1) (lv' := [some (.ref x0), some (.int (x1 + 1))]) hX dX0_forgetAll_62 rfl rfl (by decide) rfl ?_
    refine ex_goto hX 42 dX0_forgetAll_65 (by decide) ?_
    exact w

set_option maxRecDepth 100000 in
set_option maxHeartbeats 4000000 in
theorem sg_X0_forgetAll_70 {Z : CX × GX} {post : AH → Prop} {h : AH} {x0 : Nat} {x1 : Int32} (hX : OK Z RX0 cX0_forgetAll 2 none 0 0) (ox0 : oc x0 = some 0)
    (w : ((24 ≤ x1 → post h) ∧ (¬ 24 ≤ x1 → (vp_in x1 24) ∧ (∀ u3 : AH, u3 = (hset h.1 (x0 + 6) (Int32.toNatClampNeg x1) 50, h.2) → (vp_in x1 24) ∧ (∀ u5 : AH, u5 = (hset u3.1 (x0 + 7) (Int32.toNatClampNeg x1) 0, u3.2) → EX Z 2 (QV Z post) 70 u5 [some (.ref x0), some (.int (x1 + 1))] [])))))
    : EX Z 2 (QV Z post) 70 h [some (.ref x0), some (.int x1)] [] := by
  refine ex_iload_n hX dX0_forgetAll_70 rfl rfl ?_
  refine ex_bipush (v := 24) hX dX0_forgetAll_71 rfl ?_
  refine ex_icmpge hX 97 dX0_forgetAll_73 (by decide) (fun c1 => ?_) (fun c1 => ?_)
  · replace w := w.1 c1
    exact ex_vret hX dX0_forgetAll_97 w
  · replace w := w.2 c1
    refine ex_aload_n hX dX0_forgetAll_76 rfl rfl ?_
    refine ex_get hX (.ref (x0 + 6)) FL_0_27 ox0 (fun _ => rfl) dX0_forgetAll_77 ?_
    refine ex_iload_n hX dX0_forgetAll_80 rfl rfl ?_
    refine ex_bipush (v := 50) hX dX0_forgetAll_81 rfl ?_
    obtain ⟨q2, w⟩ := w
    refine ex_iast hX (sh_0_6 ox0) q2 dX0_forgetAll_83 ?_
    refine ex_nameH (fun u3 eu3 => ?_)
    replace w := w u3 eu3
    refine ex_aload_n hX dX0_forgetAll_84 rfl rfl ?_
    refine ex_get hX (.ref (x0 + 7)) FL_0_30 ox0 (fun _ => rfl) dX0_forgetAll_85 ?_
    refine ex_iload_n hX dX0_forgetAll_88 rfl rfl ?_
    refine ex_iconst (v := 0) hX dX0_forgetAll_89 rfl ?_
    obtain ⟨q4, w⟩ := w
    refine ex_iast hX (sh_0_7 ox0) q4 dX0_forgetAll_90 ?_
    refine ex_nameH (fun u5 eu5 => ?_)
    replace w := w u5 eu5
    refine ex_iinc (v := x1 + 1) (lv' := [some (.ref x0), some (.int (x1 + 1))]) hX dX0_forgetAll_91 rfl rfl (by decide) rfl ?_
    refine ex_goto hX 70 dX0_forgetAll_94 (by decide) ?_
    exact w

set_option maxRecDepth 100000 in
set_option maxHeartbeats 4000000 in
theorem sg_X2_readCourse_0 {Z : CX × GX} {post : AH → Prop} {h : AH} {x1 : Nat} (hX : OK Z RX2 cX2_readCourse 3 none 6 143) (ox1 : oc x1 = some 0)
    (w : (∃ PP : AH → Prop, CV yX2_begin cX2_begin 1 0 0 [.ref 1] h PP ∧ ∀ u : AH, PP u → EX Z 3 (QV Z post) 4 u [some (.ref 1), some (.ref x1), none] []))
    : EX Z 3 (QV Z post) 0 h [some (.ref 1), some (.ref x1), none] [] := by
  refine ex_aload_n hX dX2_readCourse_0 rfl rfl ?_
  obtain ⟨PP, pM, pK⟩ := w
  exact ex_callVv (ci := 2) (i := 1) (As := []) (st := []) hX pM CS_2_25 MS_X2_begin rfl rfl rfl (by decide) rfl (Nat.le_of_ble_eq_true rfl) dX2_readCourse_1 (fun u hp => pK u hp)

set_option maxRecDepth 100000 in
set_option maxHeartbeats 4000000 in
theorem sg_X2_readCourse_4 {Z : CX × GX} {post : AH → Prop} {h : AH} {x1 : Nat} (hX : OK Z RX2 cX2_readCourse 3 none 6 143) (ox1 : oc x1 = some 0)
    (w : (∃ PP : AH → Prop, CV yX0_forgetAll cX0_forgetAll 2 0 0 [.ref x1] h PP ∧ ∀ u : AH, PP u → EX Z 3 (QV Z post) 8 u [some (.ref 1), some (.ref x1), none] []))
    : EX Z 3 (QV Z post) 4 h [some (.ref 1), some (.ref x1), none] [] := by
  refine ex_aload_n hX dX2_readCourse_4 rfl rfl ?_
  obtain ⟨PP, pM, pK⟩ := w
  exact ex_callVv (ci := 0) (i := x1) (As := []) (st := []) hX pM CS_2_28 MS_X0_forgetAll rfl ox1 rfl (by decide) rfl (Nat.le_of_ble_eq_true rfl) dX2_readCourse_5 (fun u hp => pK u hp)

set_option maxRecDepth 100000 in
set_option maxHeartbeats 4000000 in
theorem sg_X2_readCourse_8 {Z : CX × GX} {post : AH → Prop} {h : AH} {x1 : Nat} (hX : OK Z RX2 cX2_readCourse 3 none 6 143) (ox1 : oc x1 = some 0)
    (w : EX Z 3 (QV Z post) 10 h [some (.ref 1), some (.ref x1), some (.int 0)] [])
    : EX Z 3 (QV Z post) 8 h [some (.ref 1), some (.ref x1), none] [] := by
  refine ex_iconst (v := 0) hX dX2_readCourse_8 rfl ?_
  refine ex_istore_n (lv' := [some (.ref 1), some (.ref x1), some (.int 0)]) hX dX2_readCourse_9 rfl (by decide) rfl ?_
  exact w

set_option maxRecDepth 100000 in
set_option maxHeartbeats 4000000 in
theorem sg_X2_readCourse_10 {Z : CX × GX} {post : AH → Prop} {h : AH} {x1 : Nat} {x2 : Int32} (hX : OK Z RX2 cX2_readCourse 3 none 6 143) (ox1 : oc x1 = some 0)
    (w : ((400 < x2 → (((h.1 x1 0) ≤ 0 → (∀ u3 : AH, u3 = (hset h.1 1 1 0, h.2) → post u3)) ∧ (¬ (h.1 x1 0) ≤ 0 → (∀ u4 : AH, u4 = (hset h.1 x1 0 ((h.1 x1 0) + 1), h.2) → (∀ u5 : AH, u5 = (hset u4.1 1 1 0, u4.2) → post u5))))) ∧ (¬ 400 < x2 → ((¬ (h.1 1 2) = 0 → (((h.1 x1 0) ≤ 0 → (∀ u8 : AH, u8 = (hset h.1 1 1 0, h.2) → post u8)) ∧ (¬ (h.1 x1 0) ≤ 0 → (∀ u9 : AH, u9 = (hset h.1 x1 0 ((h.1 x1 0) + 1), h.2) → (∀ u10 : AH, u10 = (hset u9.1 1 1 0, u9.2) → post u10))))) ∧ ((h.1 1 2) = 0 → (∃ PP : AH → Prop, CV yX2_step cX2_step 1 1 21 [.ref 1] h PP ∧ ∀ u : AH, PP u → EX Z 3 (QV Z post) 28 u [some (.ref 1), some (.ref x1), some (.int x2)] []))))))
    : EX Z 3 (QV Z post) 10 h [some (.ref 1), some (.ref x1), some (.int x2)] [] := by
  refine ex_iload_n hX dX2_readCourse_10 rfl rfl ?_
  refine ex_sipush (v := 400) hX dX2_readCourse_11 rfl ?_
  refine ex_icmpgt hX 49 dX2_readCourse_14 (by decide) (fun c1 => ?_) (fun c1 => ?_)
  · replace w := w.1 c1
    refine ex_aload_n hX dX2_readCourse_49 rfl rfl ?_
    refine ex_get hX (.int (h.1 x1 0)) FL_2_43 ox1 (fun _ => rfl) dX2_readCourse_50 ?_
    refine ex_ifle hX 66 dX2_readCourse_53 (by decide) (fun c2 => ?_) (fun c2 => ?_)
    · replace w := w.1 c2
      refine ex_aload_n hX dX2_readCourse_66 rfl rfl ?_
      refine ex_iconst (v := 0) hX dX2_readCourse_67 rfl ?_
      refine ex_put hX .int FL_2_15 tyX2 tyX2_ok nmX2 rfl rfl rfl rfl rfl (fun _ => (by decide : 1 < 11)) (fun _ => fs_2_1) dX2_readCourse_68 ?_
      refine ex_nameH (fun u3 eu3 => ?_)
      replace w := w u3 eu3
      exact ex_vret hX dX2_readCourse_71 w
    · replace w := w.2 c2
      refine ex_aload_n hX dX2_readCourse_56 rfl rfl ?_
      refine ex_dup hX dX2_readCourse_57 rfl ?_
      refine ex_get hX (.int (h.1 x1 0)) FL_2_43 ox1 (fun _ => rfl) dX2_readCourse_58 ?_
      refine ex_iconst (v := 1) hX dX2_readCourse_61 rfl ?_
      refine ex_iadd hX dX2_readCourse_62 ?_
      refine ex_put hX .int FL_2_43 tyX0 tyX0_ok nmX0 rfl rfl rfl rfl ox1 (fun _ => (by decide : 0 < 8)) (fun _ => fs_0_0) dX2_readCourse_63 ?_
      refine ex_nameH (fun u4 eu4 => ?_)
      replace w := w u4 eu4
      refine ex_aload_n hX dX2_readCourse_66 rfl rfl ?_
      refine ex_iconst (v := 0) hX dX2_readCourse_67 rfl ?_
      refine ex_put hX .int FL_2_15 tyX2 tyX2_ok nmX2 rfl rfl rfl rfl rfl (fun _ => (by decide : 1 < 11)) (fun _ => fs_2_1) dX2_readCourse_68 ?_
      refine ex_nameH (fun u5 eu5 => ?_)
      replace w := w u5 eu5
      exact ex_vret hX dX2_readCourse_71 w
  · replace w := w.2 c1
    refine ex_aload_n hX dX2_readCourse_17 rfl rfl ?_
    refine ex_get hX (.int (h.1 1 2)) FL_2_19 rfl (fun _ => rfl) dX2_readCourse_18 ?_
    refine ex_ifne hX 49 dX2_readCourse_21 (by decide) (fun c6 => ?_) (fun c6 => ?_)
    · replace w := w.1 c6
      refine ex_aload_n hX dX2_readCourse_49 rfl rfl ?_
      refine ex_get hX (.int (h.1 x1 0)) FL_2_43 ox1 (fun _ => rfl) dX2_readCourse_50 ?_
      refine ex_ifle hX 66 dX2_readCourse_53 (by decide) (fun c7 => ?_) (fun c7 => ?_)
      · replace w := w.1 c7
        refine ex_aload_n hX dX2_readCourse_66 rfl rfl ?_
        refine ex_iconst (v := 0) hX dX2_readCourse_67 rfl ?_
        refine ex_put hX .int FL_2_15 tyX2 tyX2_ok nmX2 rfl rfl rfl rfl rfl (fun _ => (by decide : 1 < 11)) (fun _ => fs_2_1) dX2_readCourse_68 ?_
        refine ex_nameH (fun u8 eu8 => ?_)
        replace w := w u8 eu8
        exact ex_vret hX dX2_readCourse_71 w
      · replace w := w.2 c7
        refine ex_aload_n hX dX2_readCourse_56 rfl rfl ?_
        refine ex_dup hX dX2_readCourse_57 rfl ?_
        refine ex_get hX (.int (h.1 x1 0)) FL_2_43 ox1 (fun _ => rfl) dX2_readCourse_58 ?_
        refine ex_iconst (v := 1) hX dX2_readCourse_61 rfl ?_
        refine ex_iadd hX dX2_readCourse_62 ?_
        refine ex_put hX .int FL_2_43 tyX0 tyX0_ok nmX0 rfl rfl rfl rfl ox1 (fun _ => (by decide : 0 < 8)) (fun _ => fs_0_0) dX2_readCourse_63 ?_
        refine ex_nameH (fun u9 eu9 => ?_)
        replace w := w u9 eu9
        refine ex_aload_n hX dX2_readCourse_66 rfl rfl ?_
        refine ex_iconst (v := 0) hX dX2_readCourse_67 rfl ?_
        refine ex_put hX .int FL_2_15 tyX2 tyX2_ok nmX2 rfl rfl rfl rfl rfl (fun _ => (by decide : 1 < 11)) (fun _ => fs_2_1) dX2_readCourse_68 ?_
        refine ex_nameH (fun u10 eu10 => ?_)
        replace w := w u10 eu10
        exact ex_vret hX dX2_readCourse_71 w
    · replace w := w.2 c6
      refine ex_aload_n hX dX2_readCourse_24 rfl rfl ?_
      obtain ⟨PP, pM, pK⟩ := w
      exact ex_callVv (ci := 2) (i := 1) (As := []) (st := []) hX pM CS_2_33 MS_X2_step rfl rfl rfl (by decide) rfl (Nat.le_of_ble_eq_true rfl) dX2_readCourse_25 (fun u hp => pK u hp)

set_option maxRecDepth 100000 in
set_option maxHeartbeats 4000000 in
theorem sg_X2_readCourse_28 {Z : CX × GX} {post : AH → Prop} {h : AH} {x1 : Nat} {x2 : Int32} (hX : OK Z RX2 cX2_readCourse 3 none 6 143) (ox1 : oc x1 = some 0)
    (w : ((¬ (h.1 1 4) = 0 → (∃ PP : AH → Prop, CV yX2_readClause cX2_readClause 2 5 122 [.ref 1, .ref x1] h PP ∧ ∀ u : AH, PP u → EX Z 3 (QV Z post) 43 u [some (.ref 1), some (.ref x1), some (.int x2)] [])) ∧ ((h.1 1 4) = 0 → (((h.1 x1 0) ≤ 0 → (∀ u3 : AH, u3 = (hset h.1 1 1 0, h.2) → post u3)) ∧ (¬ (h.1 x1 0) ≤ 0 → (∀ u4 : AH, u4 = (hset h.1 x1 0 ((h.1 x1 0) + 1), h.2) → (∀ u5 : AH, u5 = (hset u4.1 1 1 0, u4.2) → post u5)))))))
    : EX Z 3 (QV Z post) 28 h [some (.ref 1), some (.ref x1), some (.int x2)] [] := by
  refine ex_aload_n hX dX2_readCourse_28 rfl rfl ?_
  refine ex_get hX (.int (h.1 1 4)) FL_2_36 rfl (fun _ => rfl) dX2_readCourse_29 ?_
  refine ex_ifne hX 38 dX2_readCourse_32 (by decide) (fun c1 => ?_) (fun c1 => ?_)
  · replace w := w.1 c1
    refine ex_aload_n hX dX2_readCourse_38 rfl rfl ?_
    refine ex_aload_n hX dX2_readCourse_39 rfl rfl ?_
    obtain ⟨PP, pM, pK⟩ := w
    exact ex_callVv (ci := 2) (i := 1) (As := [.ref x1]) (st := []) hX pM CS_2_39 MS_X2_readClause rfl rfl rfl (by decide) rfl (Nat.le_of_ble_eq_true rfl) dX2_readCourse_40 (fun u hp => pK u hp)
  · replace w := w.2 c1
    refine ex_goto hX 49 dX2_readCourse_35 (by decide) ?_
    refine ex_aload_n hX dX2_readCourse_49 rfl rfl ?_
    refine ex_get hX (.int (h.1 x1 0)) FL_2_43 ox1 (fun _ => rfl) dX2_readCourse_50 ?_
    refine ex_ifle hX 66 dX2_readCourse_53 (by decide) (fun c2 => ?_) (fun c2 => ?_)
    · replace w := w.1 c2
      refine ex_aload_n hX dX2_readCourse_66 rfl rfl ?_
      refine ex_iconst (v := 0) hX dX2_readCourse_67 rfl ?_
      refine ex_put hX .int FL_2_15 tyX2 tyX2_ok nmX2 rfl rfl rfl rfl rfl (fun _ => (by decide : 1 < 11)) (fun _ => fs_2_1) dX2_readCourse_68 ?_
      refine ex_nameH (fun u3 eu3 => ?_)
      replace w := w u3 eu3
      exact ex_vret hX dX2_readCourse_71 w
    · replace w := w.2 c2
      refine ex_aload_n hX dX2_readCourse_56 rfl rfl ?_
      refine ex_dup hX dX2_readCourse_57 rfl ?_
      refine ex_get hX (.int (h.1 x1 0)) FL_2_43 ox1 (fun _ => rfl) dX2_readCourse_58 ?_
      refine ex_iconst (v := 1) hX dX2_readCourse_61 rfl ?_
      refine ex_iadd hX dX2_readCourse_62 ?_
      refine ex_put hX .int FL_2_43 tyX0 tyX0_ok nmX0 rfl rfl rfl rfl ox1 (fun _ => (by decide : 0 < 8)) (fun _ => fs_0_0) dX2_readCourse_63 ?_
      refine ex_nameH (fun u4 eu4 => ?_)
      replace w := w u4 eu4
      refine ex_aload_n hX dX2_readCourse_66 rfl rfl ?_
      refine ex_iconst (v := 0) hX dX2_readCourse_67 rfl ?_
      refine ex_put hX .int FL_2_15 tyX2 tyX2_ok nmX2 rfl rfl rfl rfl rfl (fun _ => (by decide : 1 < 11)) (fun _ => fs_2_1) dX2_readCourse_68 ?_
      refine ex_nameH (fun u5 eu5 => ?_)
      replace w := w u5 eu5
      exact ex_vret hX dX2_readCourse_71 w

set_option maxRecDepth 100000 in
set_option maxHeartbeats 4000000 in
theorem sg_X2_readCourse_43 {Z : CX × GX} {post : AH → Prop} {h : AH} {x1 : Nat} {x2 : Int32} (hX : OK Z RX2 cX2_readCourse 3 none 6 143) (ox1 : oc x1 = some 0)
    (w : EX Z 3 (QV Z post) 10 h [some (.ref 1), some (.ref x1), some (.int (x2 + 1))] [])
    : EX Z 3 (QV Z post) 43 h [some (.ref 1), some (.ref x1), some (.int x2)] [] := by
  refine ex_iinc (v := x2 + 1) (lv' := [some (.ref 1), some (.ref x1), some (.int (x2 + 1))]) hX dX2_readCourse_43 rfl rfl (by decide) rfl ?_
  refine ex_goto hX 10 dX2_readCourse_46 (by decide) ?_
  exact w

set_option maxRecDepth 100000 in
set_option maxHeartbeats 4000000 in
theorem sg_X1_addOrder_0 {Z : CX × GX} {post : AH → Prop} {h : AH} {x0 : Nat} {x1 : Int32} {x2 : Int32} {x3 : Int32} (hX : OK Z RX1 cX1_addOrder 4 none 0 0) (ox0 : oc x0 = some 1)
    (w : ((30 ≤ (h.1 x0 0) → post h) ∧ (¬ 30 ≤ (h.1 x0 0) → (vp_in (h.1 x0 0) 30) ∧ (∀ u3 : AH, u3 = (hset h.1 (x0 + 1) (Int32.toNatClampNeg (h.1 x0 0)) x1, h.2) → (vp_in (u3.1 x0 0) 30) ∧ (∀ u5 : AH, u5 = (hset u3.1 (x0 + 2) (Int32.toNatClampNeg (u3.1 x0 0)) x2, u3.2) → (vp_in (u5.1 x0 0) 30) ∧ (∀ u7 : AH, u7 = (hset u5.1 (x0 + 3) (Int32.toNatClampNeg (u5.1 x0 0)) x3, u5.2) → (∀ u8 : AH, u8 = (hset u7.1 x0 0 ((u7.1 x0 0) + 1), u7.2) → post u8)))))))
    : EX Z 4 (QV Z post) 0 h [some (.ref x0), some (.int x1), some (.int x2), some (.int x3)] [] := by
  refine ex_aload_n hX dX1_addOrder_0 rfl rfl ?_
  refine ex_get hX (.int (h.1 x0 0)) FL_1_21 ox0 (fun _ => rfl) dX1_addOrder_1 ?_
  refine ex_bipush (v := 30) hX dX1_addOrder_4 rfl ?_
  refine ex_icmpge hX 49 dX1_addOrder_6 (by decide) (fun c1 => ?_) (fun c1 => ?_)
  · replace w := w.1 c1
    exact ex_vret hX dX1_addOrder_49 w
  · replace w := w.2 c1
    refine ex_aload_n hX dX1_addOrder_9 rfl rfl ?_
    refine ex_get hX (.ref (x0 + 1)) FL_1_9 ox0 (fun _ => rfl) dX1_addOrder_10 ?_
    refine ex_aload_n hX dX1_addOrder_13 rfl rfl ?_
    refine ex_get hX (.int (h.1 x0 0)) FL_1_21 ox0 (fun _ => rfl) dX1_addOrder_14 ?_
    refine ex_iload_n hX dX1_addOrder_17 rfl rfl ?_
    obtain ⟨q2, w⟩ := w
    refine ex_iast hX (sh_1_1 ox0) q2 dX1_addOrder_18 ?_
    refine ex_nameH (fun u3 eu3 => ?_)
    replace w := w u3 eu3
    refine ex_aload_n hX dX1_addOrder_19 rfl rfl ?_
    refine ex_get hX (.ref (x0 + 2)) FL_1_15 ox0 (fun _ => rfl) dX1_addOrder_20 ?_
    refine ex_aload_n hX dX1_addOrder_23 rfl rfl ?_
    refine ex_get hX (.int (u3.1 x0 0)) FL_1_21 ox0 (fun _ => rfl) dX1_addOrder_24 ?_
    refine ex_iload_n hX dX1_addOrder_27 rfl rfl ?_
    obtain ⟨q4, w⟩ := w
    refine ex_iast hX (sh_1_2 ox0) q4 dX1_addOrder_28 ?_
    refine ex_nameH (fun u5 eu5 => ?_)
    replace w := w u5 eu5
    refine ex_aload_n hX dX1_addOrder_29 rfl rfl ?_
    refine ex_get hX (.ref (x0 + 3)) FL_1_18 ox0 (fun _ => rfl) dX1_addOrder_30 ?_
    refine ex_aload_n hX dX1_addOrder_33 rfl rfl ?_
    refine ex_get hX (.int (u5.1 x0 0)) FL_1_21 ox0 (fun _ => rfl) dX1_addOrder_34 ?_
    refine ex_iload_n hX dX1_addOrder_37 rfl rfl ?_
    obtain ⟨q6, w⟩ := w
    refine ex_iast hX (sh_1_3 ox0) q6 dX1_addOrder_38 ?_
    refine ex_nameH (fun u7 eu7 => ?_)
    replace w := w u7 eu7
    refine ex_aload_n hX dX1_addOrder_39 rfl rfl ?_
    refine ex_dup hX dX1_addOrder_40 rfl ?_
    refine ex_get hX (.int (u7.1 x0 0)) FL_1_21 ox0 (fun _ => rfl) dX1_addOrder_41 ?_
    refine ex_iconst (v := 1) hX dX1_addOrder_44 rfl ?_
    refine ex_iadd hX dX1_addOrder_45 ?_
    refine ex_put hX .int FL_1_21 tyX1 tyX1_ok nmX1 rfl rfl rfl rfl ox0 (fun _ => (by decide : 0 < 4)) (fun _ => fs_1_0) dX1_addOrder_46 ?_
    refine ex_nameH (fun u8 eu8 => ?_)
    replace w := w u8 eu8
    exact ex_vret hX dX1_addOrder_49 w

set_option maxRecDepth 100000 in
set_option maxHeartbeats 4000000 in
theorem sg_X2_readOrder_0 {Z : CX × GX} {post : Int32 → AH → Prop} {h : AH} {x1 : Nat} {x2 : Int32} {x3 : Int32} (hX : OK Z RX2 cX2_readOrder 7 (some .int) 3 63) (ox1 : oc x1 = some 1)
    (w : (∃ PP : Int32 → AH → Prop, CI yX2_takeNumber cX2_takeNumber 3 (some .int) 2 41 [.ref 1, .int 0, .int 999] h PP ∧ ∀ (r : Int32) (u : AH), PP r u → EX Z 7 (QI Z post) 8 u [some (.ref 1), some (.ref x1), some (.int x2), some (.int x3), none, none, none] (.int r :: [])))
    : EX Z 7 (QI Z post) 0 h [some (.ref 1), some (.ref x1), some (.int x2), some (.int x3), none, none, none] [] := by
  refine ex_aload_n hX dX2_readOrder_0 rfl rfl ?_
  refine ex_iconst (v := 0) hX dX2_readOrder_1 rfl ?_
  refine ex_sipush (v := 999) hX dX2_readOrder_2 rfl ?_
  obtain ⟨PP, pM, pK⟩ := w
  exact ex_callIv (ci := 2) (i := 1) (As := [.int 0, .int 999]) (st := []) hX pM CS_2_110 MS_X2_takeNumber rfl rfl rfl (by decide) rfl (Nat.le_of_ble_eq_true rfl) dX2_readOrder_5 (fun r u hp => pK r u hp)

set_option maxRecDepth 100000 in
set_option maxHeartbeats 4000000 in
theorem sg_X2_readOrder_8 {Z : CX × GX} {post : Int32 → AH → Prop} {h : AH} {x1 : Nat} {x2 : Int32} {x3 : Int32} {s0 : Int32} (hX : OK Z RX2 cX2_readOrder 7 (some .int) 3 63) (ox1 : oc x1 = some 1)
    (w : ((x3 ≤ s0 → (∃ PP : Int32 → AH → Prop, CI yX2_takeNumber cX2_takeNumber 3 (some .int) 2 41 [.ref 1, .int 0, .int (x2 - 1)] h PP ∧ ∀ (r : Int32) (u : AH), PP r u → EX Z 7 (QI Z post) 29 u [some (.ref 1), some (.ref x1), none, none, some (.int s0), none, none] (.int r :: []))) ∧ (¬ x3 ≤ s0 → (∃ PP : AH → Prop, CV yX2_find cX2_find 2 0 0 [.ref 1, .int 4] h PP ∧ ∀ u : AH, PP u → EX Z 7 (QI Z post) 21 u [some (.ref 1), some (.ref x1), some (.int x2), none, some (.int s0), none, none] []))))
    : EX Z 7 (QI Z post) 8 h [some (.ref 1), some (.ref x1), some (.int x2), some (.int x3), none, none, none] [.int s0] := by
  refine ex_istore (lv' := [some (.ref 1), some (.ref x1), some (.int x2), some (.int x3), some (.int s0), none, none]) hX dX2_readOrder_8 (by decide) rfl ?_
  refine ex_iload hX dX2_readOrder_10 rfl ?_
  refine ex_iload_n hX dX2_readOrder_12 rfl rfl ?_
  refine ex_icmpge hX 21 dX2_readOrder_13 (by decide) (fun c1 => ?_) (fun c1 => ?_)
  · replace w := w.1 c1
    refine ex_aload_n hX dX2_readOrder_21 rfl rfl ?_
    refine ex_iconst (v := 0) hX dX2_readOrder_22 rfl ?_
    refine ex_iload_n hX dX2_readOrder_23 rfl rfl ?_
    refine ex_iconst (v := 1) hX dX2_readOrder_24 rfl ?_
    refine ex_isub hX dX2_readOrder_25 ?_
    obtain ⟨PP, pM, pK⟩ := w
    exact ex_callIv (ci := 2) (i := 1) (As := [.int 0, .int (x2 - 1)]) (st := []) hX pM CS_2_110 MS_X2_takeNumber rfl rfl rfl (by decide) rfl (Nat.le_of_ble_eq_true rfl) dX2_readOrder_26 (fun r u hp => ex_forget [some (.ref 1), some (.ref x1), none, none, some (.int s0), none, none] ⟨rfl, ⟨rfl, ⟨rfl, trivial⟩⟩⟩ (pK r u hp))
  · replace w := w.2 c1
    refine ex_aload_n hX dX2_readOrder_16 rfl rfl ?_
    refine ex_iconst (v := 4) hX dX2_readOrder_17 rfl ?_
    obtain ⟨PP, pM, pK⟩ := w
    exact ex_callVv (ci := 2) (i := 1) (As := [.int 4]) (st := []) hX pM CS_2_57 MS_X2_find rfl rfl rfl (by decide) rfl (Nat.le_of_ble_eq_true rfl) dX2_readOrder_18 (fun u hp => ex_forget [some (.ref 1), some (.ref x1), some (.int x2), none, some (.int s0), none, none] ⟨rfl, ⟨rfl, ⟨rfl, ⟨rfl, trivial⟩⟩⟩⟩ (pK u hp))

set_option maxRecDepth 100000 in
set_option maxHeartbeats 4000000 in
theorem sg_X2_readOrder_21 {Z : CX × GX} {post : Int32 → AH → Prop} {h : AH} {x1 : Nat} {x2 : Int32} {x4 : Int32} (hX : OK Z RX2 cX2_readOrder 7 (some .int) 3 63) (ox1 : oc x1 = some 1)
    (w : (∃ PP : Int32 → AH → Prop, CI yX2_takeNumber cX2_takeNumber 3 (some .int) 2 41 [.ref 1, .int 0, .int (x2 - 1)] h PP ∧ ∀ (r : Int32) (u : AH), PP r u → EX Z 7 (QI Z post) 29 u [some (.ref 1), some (.ref x1), none, none, some (.int x4), none, none] (.int r :: [])))
    : EX Z 7 (QI Z post) 21 h [some (.ref 1), some (.ref x1), some (.int x2), none, some (.int x4), none, none] [] := by
  refine ex_aload_n hX dX2_readOrder_21 rfl rfl ?_
  refine ex_iconst (v := 0) hX dX2_readOrder_22 rfl ?_
  refine ex_iload_n hX dX2_readOrder_23 rfl rfl ?_
  refine ex_iconst (v := 1) hX dX2_readOrder_24 rfl ?_
  refine ex_isub hX dX2_readOrder_25 ?_
  obtain ⟨PP, pM, pK⟩ := w
  exact ex_callIv (ci := 2) (i := 1) (As := [.int 0, .int (x2 - 1)]) (st := []) hX pM CS_2_110 MS_X2_takeNumber rfl rfl rfl (by decide) rfl (Nat.le_of_ble_eq_true rfl) dX2_readOrder_26 (fun r u hp => ex_forget [some (.ref 1), some (.ref x1), none, none, some (.int x4), none, none] ⟨rfl, ⟨rfl, ⟨rfl, trivial⟩⟩⟩ (pK r u hp))

set_option maxRecDepth 100000 in
set_option maxHeartbeats 4000000 in
theorem sg_X2_readOrder_29 {Z : CX × GX} {post : Int32 → AH → Prop} {h : AH} {x1 : Nat} {x4 : Int32} {s0 : Int32} (hX : OK Z RX2 cX2_readOrder 7 (some .int) 3 63) (ox1 : oc x1 = some 1)
    (w : (∃ PP : Int32 → AH → Prop, CI yX2_takeNumber cX2_takeNumber 3 (some .int) 2 41 [.ref 1, .int 0, .int 9] h PP ∧ ∀ (r : Int32) (u : AH), PP r u → EX Z 7 (QI Z post) 38 u [some (.ref 1), some (.ref x1), none, none, some (.int x4), some (.int s0), none] (.int r :: [])))
    : EX Z 7 (QI Z post) 29 h [some (.ref 1), some (.ref x1), none, none, some (.int x4), none, none] [.int s0] := by
  refine ex_istore (lv' := [some (.ref 1), some (.ref x1), none, none, some (.int x4), some (.int s0), none]) hX dX2_readOrder_29 (by decide) rfl ?_
  refine ex_aload_n hX dX2_readOrder_31 rfl rfl ?_
  refine ex_iconst (v := 0) hX dX2_readOrder_32 rfl ?_
  refine ex_bipush (v := 9) hX dX2_readOrder_33 rfl ?_
  obtain ⟨PP, pM, pK⟩ := w
  exact ex_callIv (ci := 2) (i := 1) (As := [.int 0, .int 9]) (st := []) hX pM CS_2_110 MS_X2_takeNumber rfl rfl rfl (by decide) rfl (Nat.le_of_ble_eq_true rfl) dX2_readOrder_35 (fun r u hp => pK r u hp)

set_option maxRecDepth 100000 in
set_option maxHeartbeats 4000000 in
theorem sg_X2_readOrder_38 {Z : CX × GX} {post : Int32 → AH → Prop} {h : AH} {x1 : Nat} {x4 : Int32} {x5 : Int32} {s0 : Int32} (hX : OK Z RX2 cX2_readOrder 7 (some .int) 3 63) (ox1 : oc x1 = some 1)
    (w : (∃ PP : AH → Prop, CV yX2_takeSign cX2_takeSign 2 2 41 [.ref 1, .int 59] h PP ∧ ∀ u : AH, PP u → EX Z 7 (QI Z post) 46 u [some (.ref 1), some (.ref x1), none, none, some (.int x4), some (.int x5), some (.int s0)] []))
    : EX Z 7 (QI Z post) 38 h [some (.ref 1), some (.ref x1), none, none, some (.int x4), some (.int x5), none] [.int s0] := by
  refine ex_istore (lv' := [some (.ref 1), some (.ref x1), none, none, some (.int x4), some (.int x5), some (.int s0)]) hX dX2_readOrder_38 (by decide) rfl ?_
  refine ex_aload_n hX dX2_readOrder_40 rfl rfl ?_
  refine ex_bipush (v := 59) hX dX2_readOrder_41 rfl ?_
  obtain ⟨PP, pM, pK⟩ := w
  exact ex_callVv (ci := 2) (i := 1) (As := [.int 59]) (st := []) hX pM CS_2_114 MS_X2_takeSign rfl rfl rfl (by decide) rfl (Nat.le_of_ble_eq_true rfl) dX2_readOrder_43 (fun u hp => pK u hp)

set_option maxRecDepth 100000 in
set_option maxHeartbeats 4000000 in
theorem sg_X2_readOrder_46 {Z : CX × GX} {post : Int32 → AH → Prop} {h : AH} {x1 : Nat} {x4 : Int32} {x5 : Int32} {x6 : Int32} (hX : OK Z RX2 cX2_readOrder 7 (some .int) 3 63) (ox1 : oc x1 = some 1)
    (w : ((¬ (h.1 1 2) = 0 → post x4 h) ∧ ((h.1 1 2) = 0 → (∃ PP : AH → Prop, CV yX1_addOrder cX1_addOrder 4 0 0 [.ref x1, .int x4, .int x5, .int x6] h PP ∧ ∀ u : AH, PP u → EX Z 7 (QI Z post) 63 u [none, none, none, none, some (.int x4), none, none] []))))
    : EX Z 7 (QI Z post) 46 h [some (.ref 1), some (.ref x1), none, none, some (.int x4), some (.int x5), some (.int x6)] [] := by
  refine ex_aload_n hX dX2_readOrder_46 rfl rfl ?_
  refine ex_get hX (.int (h.1 1 2)) FL_2_19 rfl (fun _ => rfl) dX2_readOrder_47 ?_
  refine ex_ifne hX 63 dX2_readOrder_50 (by decide) (fun c1 => ?_) (fun c1 => ?_)
  · replace w := w.1 c1
    refine ex_iload hX dX2_readOrder_63 rfl ?_
    exact ex_iret hX dX2_readOrder_65 rfl w
  · replace w := w.2 c1
    refine ex_aload_n hX dX2_readOrder_53 rfl rfl ?_
    refine ex_iload hX dX2_readOrder_54 rfl ?_
    refine ex_iload hX dX2_readOrder_56 rfl ?_
    refine ex_iload hX dX2_readOrder_58 rfl ?_
    obtain ⟨PP, pM, pK⟩ := w
    exact ex_callVv (ci := 1) (i := x1) (As := [.int x4, .int x5, .int x6]) (st := []) hX pM CS_2_132 MS_X1_addOrder rfl ox1 rfl (by decide) rfl (Nat.le_of_ble_eq_true rfl) dX2_readOrder_60 (fun u hp => ex_forget [none, none, none, none, some (.int x4), none, none] ⟨rfl, trivial⟩ (pK u hp))

set_option maxRecDepth 100000 in
set_option maxHeartbeats 4000000 in
theorem sg_X2_readOrder_63 {Z : CX × GX} {post : Int32 → AH → Prop} {h : AH} {x4 : Int32} (hX : OK Z RX2 cX2_readOrder 7 (some .int) 3 63) 
    (w : post x4 h)
    : EX Z 7 (QI Z post) 63 h [none, none, none, none, some (.int x4), none, none] [] := by
  refine ex_iload hX dX2_readOrder_63 rfl ?_
  exact ex_iret hX dX2_readOrder_65 rfl w

set_option maxRecDepth 100000 in
set_option maxHeartbeats 4000000 in
theorem sg_X2_readOrders_0 {Z : CX × GX} {post : AH → Prop} {h : AH} {x1 : Nat} {x2 : Int32} (hX : OK Z RX2 cX2_readOrders 5 none 5 122) (ox1 : oc x1 = some 1)
    (w : (∃ PP : AH → Prop, CV yX2_begin cX2_begin 1 0 0 [.ref 1] h PP ∧ ∀ u : AH, PP u → EX Z 5 (QV Z post) 4 u [some (.ref 1), some (.ref x1), some (.int x2), none, none] []))
    : EX Z 5 (QV Z post) 0 h [some (.ref 1), some (.ref x1), some (.int x2), none, none] [] := by
  refine ex_aload_n hX dX2_readOrders_0 rfl rfl ?_
  obtain ⟨PP, pM, pK⟩ := w
  exact ex_callVv (ci := 2) (i := 1) (As := []) (st := []) hX pM CS_2_25 MS_X2_begin rfl rfl rfl (by decide) rfl (Nat.le_of_ble_eq_true rfl) dX2_readOrders_1 (fun u hp => pK u hp)

set_option maxRecDepth 100000 in
set_option maxHeartbeats 4000000 in
theorem sg_X2_readOrders_4 {Z : CX × GX} {post : AH → Prop} {h : AH} {x1 : Nat} {x2 : Int32} (hX : OK Z RX2 cX2_readOrders 5 none 5 122) (ox1 : oc x1 = some 1)
    (w : (∀ u1 : AH, u1 = (hset h.1 x1 0 0, h.2) → EX Z 5 (QV Z post) 14 u1 [some (.ref 1), some (.ref x1), some (.int x2), some (.int 0), some (.int 0)] []))
    : EX Z 5 (QV Z post) 4 h [some (.ref 1), some (.ref x1), some (.int x2), none, none] [] := by
  refine ex_aload_n hX dX2_readOrders_4 rfl rfl ?_
  refine ex_iconst (v := 0) hX dX2_readOrders_5 rfl ?_
  refine ex_put hX .int FL_2_46 tyX1 tyX1_ok nmX1 rfl rfl rfl rfl ox1 (fun _ => (by decide : 0 < 4)) (fun _ => fs_1_0) dX2_readOrders_6 ?_
  refine ex_nameH (fun u1 eu1 => ?_)
  replace w := w u1 eu1
  refine ex_iconst (v := 0) hX dX2_readOrders_9 rfl ?_
  refine ex_istore_n (lv' := [some (.ref 1), some (.ref x1), some (.int x2), some (.int 0), none]) hX dX2_readOrders_10 rfl (by decide) rfl ?_
  refine ex_iconst (v := 0) hX dX2_readOrders_11 rfl ?_
  refine ex_istore (lv' := [some (.ref 1), some (.ref x1), some (.int x2), some (.int 0), some (.int 0)]) hX dX2_readOrders_12 (by decide) rfl ?_
  exact w

set_option maxRecDepth 100000 in
set_option maxHeartbeats 4000000 in
theorem sg_X2_readOrders_14 {Z : CX × GX} {post : AH → Prop} {h : AH} {x1 : Nat} {x2 : Int32} {x3 : Int32} {x4 : Int32} (hX : OK Z RX2 cX2_readOrders 5 none 5 122) (ox1 : oc x1 = some 1)
    (w : ((30 < x4 → (∀ u2 : AH, u2 = (hset h.1 1 1 0, h.2) → post u2)) ∧ (¬ 30 < x4 → ((¬ (h.1 1 2) = 0 → (∀ u4 : AH, u4 = (hset h.1 1 1 0, h.2) → post u4)) ∧ ((h.1 1 2) = 0 → (∃ PP : AH → Prop, CV yX2_step cX2_step 1 1 21 [.ref 1] h PP ∧ ∀ u : AH, PP u → EX Z 5 (QV Z post) 32 u [some (.ref 1), some (.ref x1), some (.int x2), some (.int x3), some (.int x4)] []))))))
    : EX Z 5 (QV Z post) 14 h [some (.ref 1), some (.ref x1), some (.int x2), some (.int x3), some (.int x4)] [] := by
  refine ex_iload hX dX2_readOrders_14 rfl ?_
  refine ex_bipush (v := 30) hX dX2_readOrders_16 rfl ?_
  refine ex_icmpgt hX 82 dX2_readOrders_18 (by decide) (fun c1 => ?_) (fun c1 => ?_)
  · replace w := w.1 c1
    refine ex_aload_n hX dX2_readOrders_82 rfl rfl ?_
    refine ex_iconst (v := 0) hX dX2_readOrders_83 rfl ?_
    refine ex_put hX .int FL_2_15 tyX2 tyX2_ok nmX2 rfl rfl rfl rfl rfl (fun _ => (by decide : 1 < 11)) (fun _ => fs_2_1) dX2_readOrders_84 ?_
    refine ex_nameH (fun u2 eu2 => ?_)
    replace w := w u2 eu2
    exact ex_vret hX dX2_readOrders_87 w
  · replace w := w.2 c1
    refine ex_aload_n hX dX2_readOrders_21 rfl rfl ?_
    refine ex_get hX (.int (h.1 1 2)) FL_2_19 rfl (fun _ => rfl) dX2_readOrders_22 ?_
    refine ex_ifne hX 82 dX2_readOrders_25 (by decide) (fun c3 => ?_) (fun c3 => ?_)
    · replace w := w.1 c3
      refine ex_aload_n hX dX2_readOrders_82 rfl rfl ?_
      refine ex_iconst (v := 0) hX dX2_readOrders_83 rfl ?_
      refine ex_put hX .int FL_2_15 tyX2 tyX2_ok nmX2 rfl rfl rfl rfl rfl (fun _ => (by decide : 1 < 11)) (fun _ => fs_2_1) dX2_readOrders_84 ?_
      refine ex_nameH (fun u4 eu4 => ?_)
      replace w := w u4 eu4
      exact ex_vret hX dX2_readOrders_87 w
    · replace w := w.2 c3
      refine ex_aload_n hX dX2_readOrders_28 rfl rfl ?_
      obtain ⟨PP, pM, pK⟩ := w
      exact ex_callVv (ci := 2) (i := 1) (As := []) (st := []) hX pM CS_2_33 MS_X2_step rfl rfl rfl (by decide) rfl (Nat.le_of_ble_eq_true rfl) dX2_readOrders_29 (fun u hp => pK u hp)

set_option maxRecDepth 100000 in
set_option maxHeartbeats 4000000 in
theorem sg_X2_readOrders_32 {Z : CX × GX} {post : AH → Prop} {h : AH} {x1 : Nat} {x2 : Int32} {x3 : Int32} {x4 : Int32} (hX : OK Z RX2 cX2_readOrders 5 none 5 122) (ox1 : oc x1 = some 1)
    (w : ((¬ (h.1 1 4) = 0 → (∃ PP : Int32 → AH → Prop, CI yX2_isWord cX2_isWord 3 (some .boolean) 4 100 [.ref 1, .ref (200 + 5)] h PP ∧ ∀ (r : Int32) (u : AH), PP r u → EX Z 5 (QV Z post) 48 u [some (.ref 1), some (.ref x1), some (.int x2), some (.int x3), some (.int x4)] (.int r :: []))) ∧ ((h.1 1 4) = 0 → (∀ u2 : AH, u2 = (hset h.1 1 1 0, h.2) → post u2))))
    : EX Z 5 (QV Z post) 32 h [some (.ref 1), some (.ref x1), some (.int x2), some (.int x3), some (.int x4)] [] := by
  refine ex_aload_n hX dX2_readOrders_32 rfl rfl ?_
  refine ex_get hX (.int (h.1 1 4)) FL_2_36 rfl (fun _ => rfl) dX2_readOrders_33 ?_
  refine ex_ifne hX 42 dX2_readOrders_36 (by decide) (fun c1 => ?_) (fun c1 => ?_)
  · replace w := w.1 c1
    refine ex_aload_n hX dX2_readOrders_42 rfl rfl ?_
    refine ex_ldcS (j := 5) hX dX2_readOrders_43 (by decide) rfl ?_
    obtain ⟨PP, pM, pK⟩ := w
    exact ex_callIv (ci := 2) (i := 1) (As := [.ref (200 + 5)]) (st := []) hX pM CS_2_53 MS_X2_isWord rfl rfl rfl (by decide) rfl (Nat.le_of_ble_eq_true rfl) dX2_readOrders_45 (fun r u hp => pK r u hp)
  · replace w := w.2 c1
    refine ex_goto hX 82 dX2_readOrders_39 (by decide) ?_
    refine ex_aload_n hX dX2_readOrders_82 rfl rfl ?_
    refine ex_iconst (v := 0) hX dX2_readOrders_83 rfl ?_
    refine ex_put hX .int FL_2_15 tyX2 tyX2_ok nmX2 rfl rfl rfl rfl rfl (fun _ => (by decide : 1 < 11)) (fun _ => fs_2_1) dX2_readOrders_84 ?_
    refine ex_nameH (fun u2 eu2 => ?_)
    replace w := w u2 eu2
    exact ex_vret hX dX2_readOrders_87 w

set_option maxRecDepth 100000 in
set_option maxHeartbeats 4000000 in
theorem sg_X2_readOrders_48 {Z : CX × GX} {post : AH → Prop} {h : AH} {x1 : Nat} {x2 : Int32} {x3 : Int32} {x4 : Int32} {s0 : Int32} (hX : OK Z RX2 cX2_readOrders 5 none 5 122) (ox1 : oc x1 = some 1)
    (w : ((¬ s0 = 0 → ((¬ x4 = 30 → (∃ PP : Int32 → AH → Prop, CI yX2_readOrder cX2_readOrder 7 (some .int) 3 63 [.ref 1, .ref x1, .int x2, .int x3] h PP ∧ ∀ (r : Int32) (u : AH), PP r u → EX Z 5 (QV Z post) 75 u [some (.ref 1), some (.ref x1), some (.int x2), none, some (.int x4)] (.int r :: []))) ∧ (x4 = 30 → (∃ PP : AH → Prop, CV yX2_find cX2_find 2 0 0 [.ref 1, .int 3] h PP ∧ ∀ u : AH, PP u → EX Z 5 (QV Z post) 68 u [some (.ref 1), some (.ref x1), some (.int x2), some (.int x3), some (.int x4)] [])))) ∧ (s0 = 0 → (∃ PP : AH → Prop, CV yX2_find cX2_find 2 0 0 [.ref 1, .int 1] h PP ∧ ∀ u : AH, PP u → EX Z 5 (QV Z post) 56 u [some (.ref 1), some (.ref x1), some (.int x2), some (.int x3), some (.int x4)] []))))
    : EX Z 5 (QV Z post) 48 h [some (.ref 1), some (.ref x1), some (.int x2), some (.int x3), some (.int x4)] [.int s0] := by
  refine ex_ifne hX 56 dX2_readOrders_48 (by decide) (fun c1 => ?_) (fun c1 => ?_)
  · replace w := w.1 c1
    refine ex_iload hX dX2_readOrders_56 rfl ?_
    refine ex_bipush (v := 30) hX dX2_readOrders_58 rfl ?_
    refine ex_icmpne hX 68 dX2_readOrders_60 (by decide) (fun c2 => ?_) (fun c2 => ?_)
    · replace w := w.1 c2
      refine ex_aload_n hX dX2_readOrders_68 rfl rfl ?_
      refine ex_aload_n hX dX2_readOrders_69 rfl rfl ?_
      refine ex_iload_n hX dX2_readOrders_70 rfl rfl ?_
      refine ex_iload_n hX dX2_readOrders_71 rfl rfl ?_
      obtain ⟨PP, pM, pK⟩ := w
      exact ex_callIv (ci := 2) (i := 1) (As := [.ref x1, .int x2, .int x3]) (st := []) hX pM CS_2_61 MS_X2_readOrder rfl rfl rfl (by decide) rfl (Nat.le_of_ble_eq_true rfl) dX2_readOrders_72 (fun r u hp => ex_forget [some (.ref 1), some (.ref x1), some (.int x2), none, some (.int x4)] ⟨rfl, ⟨rfl, ⟨rfl, ⟨rfl, trivial⟩⟩⟩⟩ (pK r u hp))
    · replace w := w.2 c2
      refine ex_aload_n hX dX2_readOrders_63 rfl rfl ?_
      refine ex_iconst (v := 3) hX dX2_readOrders_64 rfl ?_
      obtain ⟨PP, pM, pK⟩ := w
      exact ex_callVv (ci := 2) (i := 1) (As := [.int 3]) (st := []) hX pM CS_2_57 MS_X2_find rfl rfl rfl (by decide) rfl (Nat.le_of_ble_eq_true rfl) dX2_readOrders_65 (fun u hp => pK u hp)
  · replace w := w.2 c1
    refine ex_aload_n hX dX2_readOrders_51 rfl rfl ?_
    refine ex_iconst (v := 1) hX dX2_readOrders_52 rfl ?_
    obtain ⟨PP, pM, pK⟩ := w
    exact ex_callVv (ci := 2) (i := 1) (As := [.int 1]) (st := []) hX pM CS_2_57 MS_X2_find rfl rfl rfl (by decide) rfl (Nat.le_of_ble_eq_true rfl) dX2_readOrders_53 (fun u hp => pK u hp)

set_option maxRecDepth 100000 in
set_option maxHeartbeats 4000000 in
theorem sg_X2_readOrders_56 {Z : CX × GX} {post : AH → Prop} {h : AH} {x1 : Nat} {x2 : Int32} {x3 : Int32} {x4 : Int32} (hX : OK Z RX2 cX2_readOrders 5 none 5 122) (ox1 : oc x1 = some 1)
    (w : ((¬ x4 = 30 → (∃ PP : Int32 → AH → Prop, CI yX2_readOrder cX2_readOrder 7 (some .int) 3 63 [.ref 1, .ref x1, .int x2, .int x3] h PP ∧ ∀ (r : Int32) (u : AH), PP r u → EX Z 5 (QV Z post) 75 u [some (.ref 1), some (.ref x1), some (.int x2), none, some (.int x4)] (.int r :: []))) ∧ (x4 = 30 → (∃ PP : AH → Prop, CV yX2_find cX2_find 2 0 0 [.ref 1, .int 3] h PP ∧ ∀ u : AH, PP u → EX Z 5 (QV Z post) 68 u [some (.ref 1), some (.ref x1), some (.int x2), some (.int x3), some (.int x4)] []))))
    : EX Z 5 (QV Z post) 56 h [some (.ref 1), some (.ref x1), some (.int x2), some (.int x3), some (.int x4)] [] := by
  refine ex_iload hX dX2_readOrders_56 rfl ?_
  refine ex_bipush (v := 30) hX dX2_readOrders_58 rfl ?_
  refine ex_icmpne hX 68 dX2_readOrders_60 (by decide) (fun c1 => ?_) (fun c1 => ?_)
  · replace w := w.1 c1
    refine ex_aload_n hX dX2_readOrders_68 rfl rfl ?_
    refine ex_aload_n hX dX2_readOrders_69 rfl rfl ?_
    refine ex_iload_n hX dX2_readOrders_70 rfl rfl ?_
    refine ex_iload_n hX dX2_readOrders_71 rfl rfl ?_
    obtain ⟨PP, pM, pK⟩ := w
    exact ex_callIv (ci := 2) (i := 1) (As := [.ref x1, .int x2, .int x3]) (st := []) hX pM CS_2_61 MS_X2_readOrder rfl rfl rfl (by decide) rfl (Nat.le_of_ble_eq_true rfl) dX2_readOrders_72 (fun r u hp => ex_forget [some (.ref 1), some (.ref x1), some (.int x2), none, some (.int x4)] ⟨rfl, ⟨rfl, ⟨rfl, ⟨rfl, trivial⟩⟩⟩⟩ (pK r u hp))
  · replace w := w.2 c1
    refine ex_aload_n hX dX2_readOrders_63 rfl rfl ?_
    refine ex_iconst (v := 3) hX dX2_readOrders_64 rfl ?_
    obtain ⟨PP, pM, pK⟩ := w
    exact ex_callVv (ci := 2) (i := 1) (As := [.int 3]) (st := []) hX pM CS_2_57 MS_X2_find rfl rfl rfl (by decide) rfl (Nat.le_of_ble_eq_true rfl) dX2_readOrders_65 (fun u hp => pK u hp)

set_option maxRecDepth 100000 in
set_option maxHeartbeats 4000000 in
theorem sg_X2_readOrders_68 {Z : CX × GX} {post : AH → Prop} {h : AH} {x1 : Nat} {x2 : Int32} {x3 : Int32} {x4 : Int32} (hX : OK Z RX2 cX2_readOrders 5 none 5 122) (ox1 : oc x1 = some 1)
    (w : (∃ PP : Int32 → AH → Prop, CI yX2_readOrder cX2_readOrder 7 (some .int) 3 63 [.ref 1, .ref x1, .int x2, .int x3] h PP ∧ ∀ (r : Int32) (u : AH), PP r u → EX Z 5 (QV Z post) 75 u [some (.ref 1), some (.ref x1), some (.int x2), none, some (.int x4)] (.int r :: [])))
    : EX Z 5 (QV Z post) 68 h [some (.ref 1), some (.ref x1), some (.int x2), some (.int x3), some (.int x4)] [] := by
  refine ex_aload_n hX dX2_readOrders_68 rfl rfl ?_
  refine ex_aload_n hX dX2_readOrders_69 rfl rfl ?_
  refine ex_iload_n hX dX2_readOrders_70 rfl rfl ?_
  refine ex_iload_n hX dX2_readOrders_71 rfl rfl ?_
  obtain ⟨PP, pM, pK⟩ := w
  exact ex_callIv (ci := 2) (i := 1) (As := [.ref x1, .int x2, .int x3]) (st := []) hX pM CS_2_61 MS_X2_readOrder rfl rfl rfl (by decide) rfl (Nat.le_of_ble_eq_true rfl) dX2_readOrders_72 (fun r u hp => ex_forget [some (.ref 1), some (.ref x1), some (.int x2), none, some (.int x4)] ⟨rfl, ⟨rfl, ⟨rfl, ⟨rfl, trivial⟩⟩⟩⟩ (pK r u hp))

set_option maxRecDepth 100000 in
set_option maxHeartbeats 4000000 in
theorem sg_X2_readOrders_75 {Z : CX × GX} {post : AH → Prop} {h : AH} {x1 : Nat} {x2 : Int32} {x4 : Int32} {s0 : Int32} (hX : OK Z RX2 cX2_readOrders 5 none 5 122) (ox1 : oc x1 = some 1)
    (w : EX Z 5 (QV Z post) 14 h [some (.ref 1), some (.ref x1), some (.int x2), some (.int s0), some (.int (x4 + 1))] [])
    : EX Z 5 (QV Z post) 75 h [some (.ref 1), some (.ref x1), some (.int x2), none, some (.int x4)] [.int s0] := by
  refine ex_istore_n (lv' := [some (.ref 1), some (.ref x1), some (.int x2), some (.int s0), some (.int x4)]) hX dX2_readOrders_75 rfl (by decide) rfl ?_
  refine ex_iinc (v := x4 + 1) (lv' := [some (.ref 1), some (.ref x1), some (.int x2), some (.int s0), some (.int (x4 + 1))]) hX dX2_readOrders_76 rfl rfl (by decide) rfl ?_
  refine ex_goto hX 14 dX2_readOrders_79 (by decide) ?_
  exact w

set_option maxRecDepth 100000 in
set_option maxHeartbeats 4000000 in
theorem sg_X2_faultByte_0 {Z : CX × GX} {post : Int32 → AH → Prop} {h : AH}  (hX : OK Z RX2 cX2_faultByte 1 (some .int) 0 0) 
    (w : ((¬ (h.1 1 2) = 0 → post (h.1 1 3) h) ∧ ((h.1 1 2) = 0 → post (-1) h)))
    : EX Z 1 (QI Z post) 0 h [some (.ref 1)] [] := by
  refine ex_aload_n hX dX2_faultByte_0 rfl rfl ?_
  refine ex_get hX (.int (h.1 1 2)) FL_2_19 rfl (fun _ => rfl) dX2_faultByte_1 ?_
  refine ex_ifne hX 11 dX2_faultByte_4 (by decide) (fun c1 => ?_) (fun c1 => ?_)
  · replace w := w.1 c1
    refine ex_aload_n hX dX2_faultByte_11 rfl rfl ?_
    refine ex_get hX (.int (h.1 1 3)) FL_2_22 rfl (fun _ => rfl) dX2_faultByte_12 ?_
    exact ex_iret hX dX2_faultByte_15 rfl w
  · replace w := w.2 c1
    refine ex_iconst (v := (-1)) hX dX2_faultByte_7 rfl ?_
    refine ex_goto hX 15 dX2_faultByte_8 (by decide) ?_
    exact ex_iret hX dX2_faultByte_15 rfl w

set_option maxRecDepth 100000 in
set_option maxHeartbeats 4000000 in
theorem c_X2_begin {h : AH}   {cc w L : Nat} : CV yX2_begin cX2_begin 1 0 0 [.ref 1] h (fun u => FRd cc w h u ∧ CR L u (0, 0, 0) ∧ u.1 1 8 = 0 ∧ u.1 1 9 = 0 ∧ u.1 1 10 = 0) := by
  refine CV.of [some (.ref 1)] (by decide +kernel) rfl (Nat.le_of_ble_eq_true rfl) rfl (fun Z hX => ?_)
  refine sg_X2_begin_0 hX (fun u1 e1 u2 e2 u3 e3 u4 e4 u5 e5 u6 e6 => ?_)
  have f6 : FRd cc w h u6 := (((((FRd.rf.set (by unfold chC; omega) e1).set (by unfold chC; omega) e2).set (by unfold chC; omega) e3).set (by unfold chC; omega) e4).set (by unfold chC; omega) e5).set (by unfold chC; omega) e6
  refine ⟨f6, ⟨?_, Nat.zero_le _, fun z => absurd rfl z, fun _ => ⟨Nat.zero_le _, ?_⟩⟩, ?_, ?_, ?_⟩
  · rw [e6, hs_i (by omega), e5, hs_i (by omega), e4, hs_i (by omega), e3, hs_i (by omega), e2, hs_i (by omega), e1, hs_s]; rfl
  · rw [e6, hs_i (by omega), e5, hs_i (by omega), e4, hs_i (by omega), e3, hs_s]; rfl
  · rw [e6, hs_i (by omega), e5, hs_i (by omega), e4, hs_s]
  · rw [e6, hs_i (by omega), e5, hs_s]
  · rw [e6, hs_s]

set_option maxRecDepth 100000 in
set_option maxHeartbeats 4000000 in
theorem c_X2_faultByte {h : AH}    : CI yX2_faultByte cX2_faultByte 1 (some .int) 0 0 [.ref 1] h (fun r u => r = (if h.1 1 2 = 0 then -1 else h.1 1 3) ∧ u = h) := by
  refine CI.of [some (.ref 1)] (by decide +kernel) rfl (Nat.le_of_ble_eq_true rfl) rfl (fun Z hX => ?_)
  exact sg_X2_faultByte_0 hX ⟨fun z => ⟨by rw [if_neg z], rfl⟩, fun z => ⟨by rw [if_pos z], rfl⟩⟩

def FO (c w : Nat) (h u : AH) : Prop := u.2 = h.2 ∧ ∀ i, (i < c ∨ c + w ≤ i) → u.1 i = h.1 i
theorem FO.set {c w i k : Nat} {h u u2 : AH} {v : Int32} (a : FO c w h u) (hk : c ≤ i ∧ i < c + w) (e : u2 = (hset u.1 i k v, u.2)) : FO c w h u2 := ⟨by rw [e]; exact a.1, fun j hj => by rw [e, hs_o (by omega)]; exact a.2 j hj⟩
theorem FO.d {c w : Nat} {h u : AH} (a : FO c w h u) : FRd c w h u := ⟨a.1, fun i k z => by unfold chC at z; rw [a.2 i (by omega)]⟩

set_option maxRecDepth 100000 in
set_option maxHeartbeats 4000000 in
theorem c_X0_forgetAll {h : AH} {a0 : Nat} (ha0 : oc a0 = some 0)  : CV yX0_forgetAll cX0_forgetAll 2 0 0 [.ref a0] h (fun u => FO a0 8 h u ∧ ∀ p, plc p → p < 800 → u.1 (lcc a0 p).1 (lcc a0 p).2 = nI (d0S p)) := by
  refine CV.of [some (.ref a0), none] (by decide +kernel) rfl (Nat.le_of_ble_eq_true rfl) rfl (fun Z hX => ?_)
  generalize hpost : (fun (u : AH) => FO a0 8 h u ∧ ∀ p, plc p → p < 800 → u.1 (lcc a0 p).1 (lcc a0 p).2 = nI (d0S p)) = post
  have L3 : ∀ i, i ≤ 24 → ∀ u : AH, FO a0 8 h u → u.1 a0 0 = 0 → (∀ k, k < 10 → u.1 (a0 + 1) k = 0 ∧ u.1 (a0 + 2) k = 0 ∧ u.1 (a0 + 3) k = 0) → (∀ k, k < 9 → u.1 (a0 + 4) k = 5 ∧ u.1 (a0 + 5) k = 1) → (∀ k, k < i → u.1 (a0 + 6) k = 50 ∧ u.1 (a0 + 7) k = 0) → EX Z 2 (QV Z post) 70 u [some (.ref a0), some (.int (nI i))] [] := by
    refine ldown _ ?_ ?_
    · intro u f a b c d
      refine sg_X0_forgetAll_70 hX ha0 ⟨fun _ => ?_, fun z => absurd (by rw [k_24]; exact nI_le (Nat.le_refl _) (by omega)) z⟩
      rw [← hpost]
      refine ⟨f, fun p hp h8 => ?_⟩
      unfold plc at hp
      have es : ∀ a k, p = 100 * a + k → k < 100 → a < 8 → u.1 (lcc a0 p).1 (lcc a0 p).2 = u.1 (a0 + a) k := fun a k h1 h2 h3 => by rw [lcc_c h1 h2 h3]
      rcases hp with z | z | z | z | z | z | z | z | z
      · rw [es 0 0 (by omega) (by omega) (by omega), Nat.add_zero, a, z]; rfl
      · rw [es 1 (p - 100) (by omega) (by omega) (by omega), (b (p - 100) (by omega)).1, d0S, if_neg (by omega), if_neg (by omega), if_neg (by omega)]; rfl
      · rw [es 2 (p - 200) (by omega) (by omega) (by omega), (b (p - 200) (by omega)).2.1, d0S, if_neg (by omega), if_neg (by omega), if_neg (by omega)]; rfl
      · rw [es 3 (p - 300) (by omega) (by omega) (by omega), (b (p - 300) (by omega)).2.2, d0S, if_neg (by omega), if_neg (by omega), if_neg (by omega)]; rfl
      · rw [es 4 (p - 400) (by omega) (by omega) (by omega), (c (p - 400) (by omega)).1, d0S, if_pos (by omega)]; rfl
      · rw [es 5 (p - 500) (by omega) (by omega) (by omega), (c (p - 500) (by omega)).2, d0S, if_neg (by omega), if_pos (by omega)]; rfl
      · rw [es 6 (p - 600) (by omega) (by omega) (by omega), (d (p - 600) (by omega)).1, d0S, if_neg (by omega), if_neg (by omega), if_pos (by omega)]; rfl
      · rw [es 7 (p - 700) (by omega) (by omega) (by omega), (d (p - 700) (by omega)).2, d0S, if_neg (by omega), if_neg (by omega), if_neg (by omega)]; rfl
      · omega
    · intro i hi ih u f a b c d
      refine sg_X0_forgetAll_70 hX ha0 ⟨fun z => absurd z (by rw [k_24]; exact nI_ge hi (by omega)), fun _ => ⟨vp_in_nI hi (by omega), fun u3 e3 => ⟨vp_in_nI hi (by omega), fun u5 e5 => ?_⟩⟩⟩
      rw [nI_clamp (by omega)] at e3 e5
      rw [nI_1]
      have o : ∀ j, j ≠ a0 + 6 → j ≠ a0 + 7 → u5.1 j = u.1 j := fun j h1 h2 => by rw [e5, hs_o h2, e3, hs_o h1]
      refine ih u5 ((f.set (by omega) e3).set (by omega) e5) (by rw [o _ (by omega) (by omega)]; exact a) (fun k hk => by rw [o _ (by omega) (by omega), o _ (by omega) (by omega), o _ (by omega) (by omega)]; exact b k hk) (fun k hk => by rw [o _ (by omega) (by omega), o _ (by omega) (by omega)]; exact c k hk) (fun k hk => ?_)
      by_cases z : k = i
      · subst z
        exact ⟨by rw [e5, hs_o (by omega), e3, hs_s], by rw [e5, hs_s]⟩
      · have := d k (by omega)
        exact ⟨by rw [e5, hs_o (by omega), e3, hs_i z]; exact this.1, by rw [e5, hs_i z, e3, hs_o (by omega)]; exact this.2⟩
  have L2 : ∀ i, i ≤ 9 → ∀ u : AH, FO a0 8 h u → u.1 a0 0 = 0 → (∀ k, k < 10 → u.1 (a0 + 1) k = 0 ∧ u.1 (a0 + 2) k = 0 ∧ u.1 (a0 + 3) k = 0) → (∀ k, k < i → u.1 (a0 + 4) k = 5 ∧ u.1 (a0 + 5) k = 1) → EX Z 2 (QV Z post) 42 u [some (.ref a0), some (.int (nI i))] [] := by
    refine ldown _ ?_ ?_
    · intro u f a b c
      exact sg_X0_forgetAll_42 hX ha0 ⟨fun _ => L3 0 (by omega) u f a b c (fun k hk => absurd hk (by omega)), fun z => absurd (by rw [k_9]; exact nI_le (Nat.le_refl _) (by omega)) z⟩
    · intro i hi ih u f a b c
      refine sg_X0_forgetAll_42 hX ha0 ⟨fun z => absurd z (by rw [k_9]; exact nI_ge hi (by omega)), fun _ => ⟨vp_in_nI hi (by omega), fun u3 e3 => ⟨vp_in_nI hi (by omega), fun u5 e5 => ?_⟩⟩⟩
      rw [nI_clamp (by omega)] at e3 e5
      rw [nI_1]
      have o : ∀ j, j ≠ a0 + 4 → j ≠ a0 + 5 → u5.1 j = u.1 j := fun j h1 h2 => by rw [e5, hs_o h2, e3, hs_o h1]
      refine ih u5 ((f.set (by omega) e3).set (by omega) e5) (by rw [o _ (by omega) (by omega)]; exact a) (fun k hk => by rw [o _ (by omega) (by omega), o _ (by omega) (by omega), o _ (by omega) (by omega)]; exact b k hk) (fun k hk => ?_)
      by_cases z : k = i
      · subst z
        exact ⟨by rw [e5, hs_o (by omega), e3, hs_s], by rw [e5, hs_s]⟩
      · have := c k (by omega)
        exact ⟨by rw [e5, hs_o (by omega), e3, hs_i z]; exact this.1, by rw [e5, hs_i z, e3, hs_o (by omega)]; exact this.2⟩
  have L1 : ∀ i, i ≤ 10 → ∀ u : AH, FO a0 8 h u → u.1 a0 0 = 0 → (∀ k, k < i → u.1 (a0 + 1) k = 0 ∧ u.1 (a0 + 2) k = 0 ∧ u.1 (a0 + 3) k = 0) → EX Z 2 (QV Z post) 7 u [some (.ref a0), some (.int (nI i))] [] := by
    refine ldown _ ?_ ?_
    · intro u f a b
      exact sg_X0_forgetAll_7 hX ha0 ⟨fun _ => L2 0 (by omega) u f a b (fun k hk => absurd hk (by omega)), fun z => absurd (by rw [k_10]; exact nI_le (Nat.le_refl _) (by omega)) z⟩
    · intro i hi ih u f a b
      refine sg_X0_forgetAll_7 hX ha0 ⟨fun z => absurd z (by rw [k_10]; exact nI_ge hi (by omega)), fun _ => ⟨vp_in_nI hi (by omega), fun u3 e3 => ⟨vp_in_nI hi (by omega), fun u5 e5 => ⟨vp_in_nI hi (by omega), fun u7 e7 => ?_⟩⟩⟩⟩
      rw [nI_clamp (by omega)] at e3 e5 e7
      rw [nI_1]
      refine ih u7 (((f.set (by omega) e3).set (by omega) e5).set (by omega) e7) (by rw [e7, hs_o (by omega), e5, hs_o (by omega), e3, hs_o (by omega)]; exact a) (fun k hk => ?_)
      by_cases z : k = i
      · subst z
        exact ⟨by rw [e7, hs_o (by omega), e5, hs_o (by omega), e3, hs_s], by rw [e7, hs_o (by omega), e5, hs_s], by rw [e7, hs_s]⟩
      · have := b k (by omega)
        exact ⟨by rw [e7, hs_o (by omega), e5, hs_o (by omega), e3, hs_i z]; exact this.1, by rw [e7, hs_o (by omega), e5, hs_i z, e3, hs_o (by omega)]; exact this.2.1, by rw [e7, hs_i z, e5, hs_o (by omega), e3, hs_o (by omega)]; exact this.2.2⟩
  exact sg_X0_forgetAll_0 hX ha0 (fun u e => L1 0 (by omega) u (FO.set (u := h) ⟨rfl, fun _ _ => rfl⟩ (by omega) e) (by rw [e, hs_s]) (fun k hk => absurd hk (by omega)))

theorem KD_0 {T : Nat → Nat} {L q : Nat} {u : AH} (hq : q ≤ L) (k : KD T L q u) : (u.1 1 4 = 0) ↔ ¬ q < L := by
  rcases k with ⟨k1, k2, -⟩ | ⟨k1, -, k3, -⟩ | ⟨k1, -, k3, -, -⟩ | ⟨k1, -, -, k4, -⟩
  · exact ⟨fun _ => by omega, fun _ => k2⟩
  · rw [k3]; exact ⟨fun z => absurd z (by decide), fun z => absurd k1 z⟩
  · rw [k3]; exact ⟨fun z => absurd z (by decide), fun z => absurd k1 z⟩
  · rw [k4]; exact ⟨fun z => absurd z (by decide), fun z => absurd k1 z⟩
def RCo (L a1 : Nat) (R : Cur × (Nat → Nat)) (h u : AH) : Prop := u.2 = h.2 ∧ (∀ i k, i ≠ 1 → (i < a1 ∨ a1 + 8 ≤ i) → u.1 i k = h.1 i k) ∧ u.1 1 1 = 0 ∧ u.1 1 2 = nI R.1.1 ∧ R.1.1 ≤ 4 ∧ (¬ R.1.1 = 0 → u.1 1 3 = nI R.1.2.1 ∧ R.1.2.1 ≤ L) ∧ (R.1.1 = 0 → RCd a1 (dset R.2 0 (if R.2 0 = 0 then 0 else R.2 0 + 1)) u ∧ WFd R.2)

set_option maxRecDepth 100000 in
set_option maxHeartbeats 4000000 in
theorem c_X2_readCourse {h : AH} {a1 : Nat} (ha1 : oc a1 = some 0) {T : Nat → Nat} {L : Nat} (hT : TXc T L h) (hc : 3 ≤ a1) : CV yX2_readCourse cX2_readCourse 3 6 143 [.ref 1, .ref a1] h (RCo L a1 (riverS T L 401 (0, 0, 0) d0S) h) := by
  refine CV.of [some (.ref 1), some (.ref a1), none] (by decide +kernel) rfl (Nat.le_of_ble_eq_true rfl) rfl (fun Z hX => ?_)
  have hL := hT.1
  generalize hR : riverS T L 401 (0, 0, 0) d0S = R
  -- the end
  have TL : ∀ u : AH, FRd a1 8 h u → u.1 1 2 = nI R.1.1 → R.1.1 ≤ 4 → (¬ R.1.1 = 0 → u.1 1 3 = nI R.1.2.1 ∧ R.1.2.1 ≤ L) → (R.1.1 = 0 → RCd a1 R.2 u ∧ WFd R.2) → (((u.1 a1 0) ≤ 0 → (∀ u3 : AH, u3 = (hset u.1 1 1 0, u.2) → RCo L a1 R h u3)) ∧ (¬ (u.1 a1 0) ≤ 0 → (∀ u4 : AH, u4 = (hset u.1 a1 0 ((u.1 a1 0) + 1), u.2) → (∀ u5 : AH, u5 = (hset u4.1 1 1 0, u4.2) → RCo L a1 R h u5)))) := by
    intro u f e1 e2 e3 e4
    have rs : ∀ (v v2 : AH) (d : Nat → Nat), RCd a1 d v → v2 = (hset v.1 1 1 0, v.2) → RCd a1 d v2 := fun v v2 d hd he p hp => by
      rw [he]
      show hset v.1 1 1 0 (lcc a1 p).1 (lcc a1 p).2 = _
      rw [hset_at]
      · exact hd p hp
      · unfold plc at hp
        unfold lcc
        dsimp only
        intro y
        split at y <;> omega
    have d9 : R.1.1 = 0 → R.2 0 ≤ 9 := fun z => (e4 z).2.1
    refine ⟨fun z u3 g3 => ?_, fun z u4 g4 u5 g5 => ?_⟩
    · refine ⟨by rw [g3]; exact f.1, fun i k h1 h2 => by rw [g3, hs_o h1]; exact f.2 i k (by unfold chC; omega), by rw [g3, hs_s], by rw [g3, hs_i (by omega)]; exact e1, e2, fun y => by rw [g3, hs_i (by omega)]; exact e3 y, fun y => ⟨?_, (e4 y).2⟩⟩
      have := (e4 y).1.n
      rw [this, k_0, nI_leI (by have := d9 y; omega) (by omega)] at z
      have z0 : R.2 0 = 0 := by omega
      rw [if_pos z0]
      have : dset R.2 0 0 = R.2 := by
        funext j
        by_cases hj : j = 0
        · subst hj; rw [ds_eq, z0]
        · rw [ds_ne hj]
      rw [this]
      exact rs u u3 _ (e4 y).1 g3
    · have o4 : ∀ k, u4.1 1 k = u.1 1 k := fun k => by rw [g4, hs_o (by omega)]
      refine ⟨by rw [g5, g4]; exact f.1, fun i k h1 h2 => by rw [g5, hs_o h1, g4, hs_o (by omega)]; exact f.2 i k (by unfold chC; omega), by rw [g5, hs_s], by rw [g5, hs_i (by omega), o4]; exact e1, e2, fun y => by rw [g5, hs_i (by omega), o4]; exact e3 y, fun y => ⟨?_, (e4 y).2⟩⟩
      have := (e4 y).1.n
      rw [this, k_0, nI_leI (by have := d9 y; omega) (by omega)] at z
      rw [if_neg (by omega)]
      rw [this, nI_1] at g4
      exact rs u4 u5 _ ((e4 y).1.set hc (p := 0) (Or.inl rfl) (lcc_c (a := 0) (k := 0) rfl (by omega) (by omega)) g4) g5
  have LP : ∀ m i, i + m = 401 → ∀ (c : Cur) (d : Nat → Nat) (u : AH), FRd a1 8 h u → CR L u c → (c.1 = 0 → RCd a1 d u ∧ WFd d) → riverS T L m c d = R → EX Z 3 (QV Z (RCo L a1 R h)) 10 u [some (.ref 1), some (.ref a1), some (.int (nI i))] [] := by
    intro m
    induction m with
    | zero =>
      intro i hi c d u f cu r eR
      have eR : (c, d) = R := eR
      refine sg_X2_readCourse_10 hX ha1 ⟨fun _ => TL u f ?_ ?_ ?_ ?_, fun z => absurd (by rw [k_400]; exact nI_lt (by omega) (by omega)) z⟩ <;> rw [← eR]
      · exact cu.1
      · exact cu.2.1
      · exact fun y => ⟨(cu.2.2.1 y).2.1, (cu.2.2.1 y).1⟩
      · exact r
    | succ m ih =>
      intro i hi c d u f cu r eR
      refine sg_X2_readCourse_10 hX ha1 ⟨fun z => absurd z (by rw [k_400]; exact nI_nlt (by omega) (by omega)), fun _ => ⟨fun z => ?_, fun z => ?_⟩⟩
      · have c0 : ¬ c.1 = 0 := fun y => z ((CR_f cu).mpr y)
        rw [riverS, if_neg (fun y => c0 y.1)] at eR
        refine TL u f ?_ ?_ ?_ ?_ <;> rw [← eR]
        · exact cu.1
        · exact cu.2.1
        · exact fun y => ⟨(cu.2.2.1 y).2.1, (cu.2.2.1 y).1⟩
        · exact r
      · have c0 := (CR_f cu).mp z
        obtain ⟨rd, wd⟩ := r c0
        have tu := hT.fd f hc
        refine ⟨_, c_X2_step tu cu, fun u1 p1 => ?_⟩
        obtain ⟨g1, g2, g3, g4⟩ := p1.2 c0
        have f1 : FRd a1 8 h u1 := f.tr (FRd.of g1)
        have t1 := hT.fd f1 hc
        have hq := (sp_le (T := T) (cu.pos c0)).2
        have z2 : u1.1 1 2 = 0 := by rw [g2]; exact z
        rw [riverS] at eR
        refine sg_X2_readCourse_28 hX ha1 ⟨fun y => ?_, fun y => ?_⟩
        · rw [KD_0 hq g4, Decidable.not_not] at y
          rw [if_pos ⟨c0, y⟩] at eR
          refine ⟨_, c_X2_readClause ha1 t1 hc y z2 g3 g4 (rd.fr g1 hc) wd, fun u2 p2 => sg_X2_readCourse_43 hX ha1 ?_⟩
          rw [nI_1]
          exact ih (i + 1) (by omega) _ _ u2 (f1.tr p2.1) p2.2.1 (fun x => ⟨p2.2.2 x, (clause_ok hq wd x).2.2⟩) eR
        · rw [KD_0 hq g4] at y
          rw [if_neg (fun x => y x.2)] at eR
          refine TL u1 f1 ?_ ?_ ?_ ?_ <;> rw [← eR]
          · rw [z2]; show _ = nI c.1; rw [c0]; rfl
          · exact cu.2.1
          · exact fun x => absurd c0 x
          · exact fun _ => ⟨rd.fr g1 hc, wd⟩
  refine sg_X2_readCourse_0 hX ha1 ⟨_, c_X2_begin (cc := a1) (w := 8) (L := L), fun u1 p1 => sg_X2_readCourse_4 hX ha1 ⟨_, c_X0_forgetAll ha1, fun u2 p2 => sg_X2_readCourse_8 hX ha1 ?_⟩⟩
  have f2 := p1.1.tr p2.1.d
  have o : ∀ k, u2.1 1 k = u1.1 1 k := fun k => by rw [p2.1.2 1 (by omega)]
  refine LP 401 0 rfl (0, 0, 0) d0S u2 f2 (p1.2.1.same o) (fun _ => ⟨fun p hp => ?_, WF_0⟩) hR
  by_cases h8 : p < 800
  · exact p2.2 p hp h8
  · unfold plc at hp
    have : p = 808 ∨ p = 809 ∨ p = 810 := by omega
    rcases this with z | z | z
    · rw [z, lcc_r (k := 8) rfl (by omega)]; show u2.1 1 8 = _; rw [o]; exact p1.2.2.1
    · rw [z, lcc_r (k := 9) rfl (by omega)]; show u2.1 1 9 = _; rw [o]; exact p1.2.2.2.1
    · rw [z, lcc_r (k := 10) rfl (by omega)]; show u2.1 1 10 = _; rw [o]; exact p1.2.2.2.2
