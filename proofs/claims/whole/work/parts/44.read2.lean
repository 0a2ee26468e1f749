set_option maxRecDepth 100000 in
set_option maxHeartbeats 4000000 in
theorem sg_X2_isLetter_0 {Z : CX × GX} {post : Int32 → AH → Prop} {h : AH} {x1 : Int32} (hX : OK Z RX2 cX2_isLetter 2 (some .boolean) 0 0) 
    (w : ((x1 < 0 → post 0 h) ∧ (¬ x1 < 0 → (((h.1 1 1) ≤ x1 → post 0 h) ∧ (¬ (h.1 1 1) ≤ x1 → (vp_in x1 400) ∧ (((h.1 2 (Int32.toNatClampNeg x1)) < 97 → post 0 h) ∧ (¬ (h.1 2 (Int32.toNatClampNeg x1)) < 97 → (vp_in x1 400) ∧ ((122 < (h.1 2 (Int32.toNatClampNeg x1)) → post 0 h) ∧ (¬ 122 < (h.1 2 (Int32.toNatClampNeg x1)) → post 1 h)))))))))
    : EX Z 2 (QI Z post) 0 h [some (.ref 1), some (.int x1)] [] := by
  refine ex_iload_n hX dX2_isLetter_0 rfl rfl ?_
  refine ex_iflt hX 38 dX2_isLetter_1 (by decide) (fun c1 => ?_) (fun c1 => ?_)
  · replace w := w.1 c1
    refine ex_iconst (v := 0) hX dX2_isLetter_38 rfl ?_
    exact ex_iret hX dX2_isLetter_39 rfl w
  · replace w := w.2 c1
    refine ex_iload_n hX dX2_isLetter_4 rfl rfl ?_
    refine ex_aload_n hX dX2_isLetter_5 rfl rfl ?_
    refine ex_get hX (.int (h.1 1 1)) FL_2_15 rfl (fun _ => rfl) dX2_isLetter_6 ?_
    refine ex_icmpge hX 38 dX2_isLetter_9 (by decide) (fun c2 => ?_) (fun c2 => ?_)
    · replace w := w.1 c2
      refine ex_iconst (v := 0) hX dX2_isLetter_38 rfl ?_
      exact ex_iret hX dX2_isLetter_39 rfl w
    · replace w := w.2 c2
      refine ex_aload_n hX dX2_isLetter_12 rfl rfl ?_
      refine ex_get hX (.ref 2) FL_2_9 rfl (fun _ => rfl) dX2_isLetter_13 ?_
      refine ex_iload_n hX dX2_isLetter_16 rfl rfl ?_
      obtain ⟨q3, w⟩ := w
      refine ex_bald hX rfl q3 dX2_isLetter_17 ?_
      refine ex_bipush (v := 97) hX dX2_isLetter_18 rfl ?_
      refine ex_icmplt hX 38 dX2_isLetter_20 (by decide) (fun c4 => ?_) (fun c4 => ?_)
      · replace w := w.1 c4
        refine ex_iconst (v := 0) hX dX2_isLetter_38 rfl ?_
        exact ex_iret hX dX2_isLetter_39 rfl w
      · replace w := w.2 c4
        refine ex_aload_n hX dX2_isLetter_23 rfl rfl ?_
        refine ex_get hX (.ref 2) FL_2_9 rfl (fun _ => rfl) dX2_isLetter_24 ?_
        refine ex_iload_n hX dX2_isLetter_27 rfl rfl ?_
        obtain ⟨q5, w⟩ := w
        refine ex_bald hX rfl q5 dX2_isLetter_28 ?_
        refine ex_bipush (v := 122) hX dX2_isLetter_29 rfl ?_
        refine ex_icmpgt hX 38 dX2_isLetter_31 (by decide) (fun c6 => ?_) (fun c6 => ?_)
        · replace w := w.1 c6
          refine ex_iconst (v := 0) hX dX2_isLetter_38 rfl ?_
          exact ex_iret hX dX2_isLetter_39 rfl w
        · replace w := w.2 c6
          refine ex_iconst (v := 1) hX dX2_isLetter_34 rfl ?_
          refine ex_goto hX 39 dX2_isLetter_35 (by decide) ?_
          exact ex_iret hX dX2_isLetter_39 rfl w

set_option maxRecDepth 100000 in
set_option maxHeartbeats 4000000 in
theorem sg_X2_isFigure_0 {Z : CX × GX} {post : Int32 → AH → Prop} {h : AH} {x1 : Int32} (hX : OK Z RX2 cX2_isFigure 2 (some .boolean) 0 0) 
    (w : ((x1 < 0 → post 0 h) ∧ (¬ x1 < 0 → (((h.1 1 1) ≤ x1 → post 0 h) ∧ (¬ (h.1 1 1) ≤ x1 → (vp_in x1 400) ∧ (((h.1 2 (Int32.toNatClampNeg x1)) < 48 → post 0 h) ∧ (¬ (h.1 2 (Int32.toNatClampNeg x1)) < 48 → (vp_in x1 400) ∧ ((57 < (h.1 2 (Int32.toNatClampNeg x1)) → post 0 h) ∧ (¬ 57 < (h.1 2 (Int32.toNatClampNeg x1)) → post 1 h)))))))))
    : EX Z 2 (QI Z post) 0 h [some (.ref 1), some (.int x1)] [] := by
  refine ex_iload_n hX dX2_isFigure_0 rfl rfl ?_
  refine ex_iflt hX 38 dX2_isFigure_1 (by decide) (fun c1 => ?_) (fun c1 => ?_)
  · replace w := w.1 c1
    refine ex_iconst (v := 0) hX dX2_isFigure_38 rfl ?_
    exact ex_iret hX dX2_isFigure_39 rfl w
  · replace w := w.2 c1
    refine ex_iload_n hX dX2_isFigure_4 rfl rfl ?_
    refine ex_aload_n hX dX2_isFigure_5 rfl rfl ?_
    refine ex_get hX (.int (h.1 1 1)) FL_2_15 rfl (fun _ => rfl) dX2_isFigure_6 ?_
    refine ex_icmpge hX 38 dX2_isFigure_9 (by decide) (fun c2 => ?_) (fun c2 => ?_)
    · replace w := w.1 c2
      refine ex_iconst (v := 0) hX dX2_isFigure_38 rfl ?_
      exact ex_iret hX dX2_isFigure_39 rfl w
    · replace w := w.2 c2
      refine ex_aload_n hX dX2_isFigure_12 rfl rfl ?_
      refine ex_get hX (.ref 2) FL_2_9 rfl (fun _ => rfl) dX2_isFigure_13 ?_
      refine ex_iload_n hX dX2_isFigure_16 rfl rfl ?_
      obtain ⟨q3, w⟩ := w
      refine ex_bald hX rfl q3 dX2_isFigure_17 ?_
      refine ex_bipush (v := 48) hX dX2_isFigure_18 rfl ?_
      refine ex_icmplt hX 38 dX2_isFigure_20 (by decide) (fun c4 => ?_) (fun c4 => ?_)
      · replace w := w.1 c4
        refine ex_iconst (v := 0) hX dX2_isFigure_38 rfl ?_
        exact ex_iret hX dX2_isFigure_39 rfl w
      · replace w := w.2 c4
        refine ex_aload_n hX dX2_isFigure_23 rfl rfl ?_
        refine ex_get hX (.ref 2) FL_2_9 rfl (fun _ => rfl) dX2_isFigure_24 ?_
        refine ex_iload_n hX dX2_isFigure_27 rfl rfl ?_
        obtain ⟨q5, w⟩ := w
        refine ex_bald hX rfl q5 dX2_isFigure_28 ?_
        refine ex_bipush (v := 57) hX dX2_isFigure_29 rfl ?_
        refine ex_icmpgt hX 38 dX2_isFigure_31 (by decide) (fun c6 => ?_) (fun c6 => ?_)
        · replace w := w.1 c6
          refine ex_iconst (v := 0) hX dX2_isFigure_38 rfl ?_
          exact ex_iret hX dX2_isFigure_39 rfl w
        · replace w := w.2 c6
          refine ex_iconst (v := 1) hX dX2_isFigure_34 rfl ?_
          refine ex_goto hX 39 dX2_isFigure_35 (by decide) ?_
          exact ex_iret hX dX2_isFigure_39 rfl w

set_option maxRecDepth 100000 in
set_option maxHeartbeats 4000000 in
theorem sg_X2_isSign_0 {Z : CX × GX} {post : Int32 → AH → Prop} {h : AH} {x1 : Int32} (hX : OK Z RX2 cX2_isSign 2 (some .boolean) 0 0) 
    (w : ((¬ (h.1 1 4) = 3 → post 0 h) ∧ ((h.1 1 4) = 3 → (((h.1 1 1) ≤ (h.1 1 5) → post 0 h) ∧ (¬ (h.1 1 1) ≤ (h.1 1 5) → (vp_in (h.1 1 5) 400) ∧ ((¬ (h.1 2 (Int32.toNatClampNeg (h.1 1 5))) = x1 → post 0 h) ∧ ((h.1 2 (Int32.toNatClampNeg (h.1 1 5))) = x1 → post 1 h)))))))
    : EX Z 2 (QI Z post) 0 h [some (.ref 1), some (.int x1)] [] := by
  refine ex_aload_n hX dX2_isSign_0 rfl rfl ?_
  refine ex_get hX (.int (h.1 1 4)) FL_2_36 rfl (fun _ => rfl) dX2_isSign_1 ?_
  refine ex_iconst (v := 3) hX dX2_isSign_4 rfl ?_
  refine ex_icmpne hX 36 dX2_isSign_5 (by decide) (fun c1 => ?_) (fun c1 => ?_)
  · replace w := w.1 c1
    refine ex_iconst (v := 0) hX dX2_isSign_36 rfl ?_
    exact ex_iret hX dX2_isSign_37 rfl w
  · replace w := w.2 c1
    refine ex_aload_n hX dX2_isSign_8 rfl rfl ?_
    refine ex_get hX (.int (h.1 1 5)) FL_2_135 rfl (fun _ => rfl) dX2_isSign_9 ?_
    refine ex_aload_n hX dX2_isSign_12 rfl rfl ?_
    refine ex_get hX (.int (h.1 1 1)) FL_2_15 rfl (fun _ => rfl) dX2_isSign_13 ?_
    refine ex_icmpge hX 36 dX2_isSign_16 (by decide) (fun c2 => ?_) (fun c2 => ?_)
    · replace w := w.1 c2
      refine ex_iconst (v := 0) hX dX2_isSign_36 rfl ?_
      exact ex_iret hX dX2_isSign_37 rfl w
    · replace w := w.2 c2
      refine ex_aload_n hX dX2_isSign_19 rfl rfl ?_
      refine ex_get hX (.ref 2) FL_2_9 rfl (fun _ => rfl) dX2_isSign_20 ?_
      refine ex_aload_n hX dX2_isSign_23 rfl rfl ?_
      refine ex_get hX (.int (h.1 1 5)) FL_2_135 rfl (fun _ => rfl) dX2_isSign_24 ?_
      obtain ⟨q3, w⟩ := w
      refine ex_bald hX rfl q3 dX2_isSign_27 ?_
      refine ex_iload_n hX dX2_isSign_28 rfl rfl ?_
      refine ex_icmpne hX 36 dX2_isSign_29 (by decide) (fun c4 => ?_) (fun c4 => ?_)
      · replace w := w.1 c4
        refine ex_iconst (v := 0) hX dX2_isSign_36 rfl ?_
        exact ex_iret hX dX2_isSign_37 rfl w
      · replace w := w.2 c4
        refine ex_iconst (v := 1) hX dX2_isSign_32 rfl ?_
        refine ex_goto hX 37 dX2_isSign_33 (by decide) ?_
        exact ex_iret hX dX2_isSign_37 rfl w

set_option maxRecDepth 100000 in
set_option maxHeartbeats 4000000 in
theorem sg_X2_find_0 {Z : CX × GX} {post : AH → Prop} {h : AH} {x1 : Int32} (hX : OK Z RX2 cX2_find 2 none 0 0) 
    (w : ((¬ (h.1 1 2) = 0 → post h) ∧ ((h.1 1 2) = 0 → (∀ u2 : AH, u2 = (hset h.1 1 2 x1, h.2) → (∀ u3 : AH, u3 = (hset u2.1 1 3 (u2.1 1 5), u2.2) → post u3)))))
    : EX Z 2 (QV Z post) 0 h [some (.ref 1), some (.int x1)] [] := by
  refine ex_aload_n hX dX2_find_0 rfl rfl ?_
  refine ex_get hX (.int (h.1 1 2)) FL_2_19 rfl (fun _ => rfl) dX2_find_1 ?_
  refine ex_ifne hX 20 dX2_find_4 (by decide) (fun c1 => ?_) (fun c1 => ?_)
  · replace w := w.1 c1
    exact ex_vret hX dX2_find_20 w
  · replace w := w.2 c1
    refine ex_aload_n hX dX2_find_7 rfl rfl ?_
    refine ex_iload_n hX dX2_find_8 rfl rfl ?_
    refine ex_put hX .int FL_2_19 tyX2 tyX2_ok nmX2 rfl rfl rfl rfl rfl (fun _ => (by decide : 2 < 11)) (fun _ => fs_2_2) dX2_find_9 ?_
    refine ex_nameH (fun u2 eu2 => ?_)
    replace w := w u2 eu2
    refine ex_aload_n hX dX2_find_12 rfl rfl ?_
    refine ex_aload_n hX dX2_find_13 rfl rfl ?_
    refine ex_get hX (.int (u2.1 1 5)) FL_2_135 rfl (fun _ => rfl) dX2_find_14 ?_
    refine ex_put hX .int FL_2_22 tyX2 tyX2_ok nmX2 rfl rfl rfl rfl rfl (fun _ => (by decide : 3 < 11)) (fun _ => fs_2_3) dX2_find_17 ?_
    refine ex_nameH (fun u3 eu3 => ?_)
    replace w := w u3 eu3
    exact ex_vret hX dX2_find_20 w

set_option maxRecDepth 100000 in
set_option maxHeartbeats 4000000 in
theorem sg_X2_step_0 {Z : CX × GX} {post : AH → Prop} {h : AH}  (hX : OK Z RX2 cX2_step 1 none 1 21) 
    (w : (((h.1 1 2) = 0 → EX Z 1 (QV Z post) 16 (hset h.1 1 5 (h.1 1 6), h.2) [some (.ref 1)] []) ∧ (¬ (h.1 1 2) = 0 → post h)))
    : EX Z 1 (QV Z post) 0 h [some (.ref 1)] [] := by
  refine ex_aload_n hX dX2_step_0 rfl rfl ?_
  refine ex_get hX (.int (h.1 1 2)) FL_2_19 rfl (fun _ => rfl) dX2_step_1 ?_
  refine ex_ifeq hX 8 dX2_step_4 (by decide) (fun c1 => ?_) (fun c1 => ?_)
  · replace w := w.1 c1
    refine ex_aload_n hX dX2_step_8 rfl rfl ?_
    refine ex_aload_n hX dX2_step_9 rfl rfl ?_
    refine ex_get hX (.int (h.1 1 6)) FL_2_65 rfl (fun _ => rfl) dX2_step_10 ?_
    refine ex_put hX .int FL_2_135 tyX2 tyX2_ok nmX2 rfl rfl rfl rfl rfl (fun _ => (by decide : 5 < 11)) (fun _ => fs_2_5) dX2_step_13 ?_
    exact w
  · replace w := w.2 c1
    exact ex_vret hX dX2_step_7 w

set_option maxRecDepth 100000 in
set_option maxHeartbeats 4000000 in
theorem sg_X2_step_16 {Z : CX × GX} {post : AH → Prop} {h : AH}  (hX : OK Z RX2 cX2_step 1 none 1 21) 
    (w : (((h.1 1 1) ≤ (h.1 1 5) → (∀ u2 : AH, u2 = (hset h.1 1 6 (h.1 1 5), h.2) → (((u2.1 1 5) < (u2.1 1 1) → (∃ PP : Int32 → AH → Prop, CI yX2_isLetter cX2_isLetter 2 (some .boolean) 0 0 [.ref 1, .int (u2.1 1 5)] u2 PP ∧ ∀ (r : Int32) (u : AH), PP r u → EX Z 1 (QV Z post) 89 u [some (.ref 1)] (.int r :: []))) ∧ (¬ (u2.1 1 5) < (u2.1 1 1) → (∀ u4 : AH, u4 = (hset u2.1 1 4 0, u2.2) → post u4))))) ∧ (¬ (h.1 1 1) ≤ (h.1 1 5) → (vp_in (h.1 1 5) 400) ∧ ((¬ (h.1 2 (Int32.toNatClampNeg (h.1 1 5))) = 32 → (∀ u7 : AH, u7 = (hset h.1 1 6 (h.1 1 5), h.2) → (((u7.1 1 5) < (u7.1 1 1) → (∃ PP : Int32 → AH → Prop, CI yX2_isLetter cX2_isLetter 2 (some .boolean) 0 0 [.ref 1, .int (u7.1 1 5)] u7 PP ∧ ∀ (r : Int32) (u : AH), PP r u → EX Z 1 (QV Z post) 89 u [some (.ref 1)] (.int r :: []))) ∧ (¬ (u7.1 1 5) < (u7.1 1 1) → (∀ u9 : AH, u9 = (hset u7.1 1 4 0, u7.2) → post u9))))) ∧ ((h.1 2 (Int32.toNatClampNeg (h.1 1 5))) = 32 → (∀ u10 : AH, u10 = (hset h.1 1 5 ((h.1 1 5) + 1), h.2) → EX Z 1 (QV Z post) 16 u10 [some (.ref 1)] []))))))
    : EX Z 1 (QV Z post) 16 h [some (.ref 1)] [] := by
  refine ex_aload_n hX dX2_step_16 rfl rfl ?_
  refine ex_get hX (.int (h.1 1 5)) FL_2_135 rfl (fun _ => rfl) dX2_step_17 ?_
  refine ex_aload_n hX dX2_step_20 rfl rfl ?_
  refine ex_get hX (.int (h.1 1 1)) FL_2_15 rfl (fun _ => rfl) dX2_step_21 ?_
  refine ex_icmpge hX 54 dX2_step_24 (by decide) (fun c1 => ?_) (fun c1 => ?_)
  · replace w := w.1 c1
    refine ex_aload_n hX dX2_step_54 rfl rfl ?_
    refine ex_aload_n hX dX2_step_55 rfl rfl ?_
    refine ex_get hX (.int (h.1 1 5)) FL_2_135 rfl (fun _ => rfl) dX2_step_56 ?_
    refine ex_put hX .int FL_2_65 tyX2 tyX2_ok nmX2 rfl rfl rfl rfl rfl (fun _ => (by decide : 6 < 11)) (fun _ => fs_2_6) dX2_step_59 ?_
    refine ex_nameH (fun u2 eu2 => ?_)
    replace w := w u2 eu2
    refine ex_aload_n hX dX2_step_62 rfl rfl ?_
    refine ex_get hX (.int (u2.1 1 5)) FL_2_135 rfl (fun _ => rfl) dX2_step_63 ?_
    refine ex_aload_n hX dX2_step_66 rfl rfl ?_
    refine ex_get hX (.int (u2.1 1 1)) FL_2_15 rfl (fun _ => rfl) dX2_step_67 ?_
    refine ex_icmplt hX 81 dX2_step_70 (by decide) (fun c3 => ?_) (fun c3 => ?_)
    · replace w := w.1 c3
      refine ex_aload_n hX dX2_step_81 rfl rfl ?_
      refine ex_aload_n hX dX2_step_82 rfl rfl ?_
      refine ex_get hX (.int (u2.1 1 5)) FL_2_135 rfl (fun _ => rfl) dX2_step_83 ?_
      obtain ⟨PP, pM, pK⟩ := w
      exact ex_callIv (ci := 2) (i := 1) (As := [.int (u2.1 1 5)]) (st := []) hX pM CS_2_141 MS_X2_isLetter rfl rfl rfl (by decide) rfl (Nat.le_of_ble_eq_true rfl) dX2_step_86 (fun r u hp => pK r u hp)
    · replace w := w.2 c3
      refine ex_aload_n hX dX2_step_73 rfl rfl ?_
      refine ex_iconst (v := 0) hX dX2_step_74 rfl ?_
      refine ex_put hX .int FL_2_36 tyX2 tyX2_ok nmX2 rfl rfl rfl rfl rfl (fun _ => (by decide : 4 < 11)) (fun _ => fs_2_4) dX2_step_75 ?_
      refine ex_nameH (fun u4 eu4 => ?_)
      replace w := w u4 eu4
      refine ex_goto hX 246 dX2_step_78 (by decide) ?_
      exact ex_vret hX dX2_step_246 w
  · replace w := w.2 c1
    refine ex_aload_n hX dX2_step_27 rfl rfl ?_
    refine ex_get hX (.ref 2) FL_2_9 rfl (fun _ => rfl) dX2_step_28 ?_
    refine ex_aload_n hX dX2_step_31 rfl rfl ?_
    refine ex_get hX (.int (h.1 1 5)) FL_2_135 rfl (fun _ => rfl) dX2_step_32 ?_
    obtain ⟨q5, w⟩ := w
    refine ex_bald hX rfl q5 dX2_step_35 ?_
    refine ex_bipush (v := 32) hX dX2_step_36 rfl ?_
    refine ex_icmpne hX 54 dX2_step_38 (by decide) (fun c6 => ?_) (fun c6 => ?_)
    · replace w := w.1 c6
      refine ex_aload_n hX dX2_step_54 rfl rfl ?_
      refine ex_aload_n hX dX2_step_55 rfl rfl ?_
      refine ex_get hX (.int (h.1 1 5)) FL_2_135 rfl (fun _ => rfl) dX2_step_56 ?_
      refine ex_put hX .int FL_2_65 tyX2 tyX2_ok nmX2 rfl rfl rfl rfl rfl (fun _ => (by decide : 6 < 11)) (fun _ => fs_2_6) dX2_step_59 ?_
      refine ex_nameH (fun u7 eu7 => ?_)
      replace w := w u7 eu7
      refine ex_aload_n hX dX2_step_62 rfl rfl ?_
      refine ex_get hX (.int (u7.1 1 5)) FL_2_135 rfl (fun _ => rfl) dX2_step_63 ?_
      refine ex_aload_n hX dX2_step_66 rfl rfl ?_
      refine ex_get hX (.int (u7.1 1 1)) FL_2_15 rfl (fun _ => rfl) dX2_step_67 ?_
      refine ex_icmplt hX 81 dX2_step_70 (by decide) (fun c8 => ?_) (fun c8 => ?_)
      · replace w := w.1 c8
        refine ex_aload_n hX dX2_step_81 rfl rfl ?_
        refine ex_aload_n hX dX2_step_82 rfl rfl ?_
        refine ex_get hX (.int (u7.1 1 5)) FL_2_135 rfl (fun _ => rfl) dX2_step_83 ?_
        obtain ⟨PP, pM, pK⟩ := w
        exact ex_callIv (ci := 2) (i := 1) (As := [.int (u7.1 1 5)]) (st := []) hX pM CS_2_141 MS_X2_isLetter rfl rfl rfl (by decide) rfl (Nat.le_of_ble_eq_true rfl) dX2_step_86 (fun r u hp => pK r u hp)
      · replace w := w.2 c8
        refine ex_aload_n hX dX2_step_73 rfl rfl ?_
        refine ex_iconst (v := 0) hX dX2_step_74 rfl ?_
        refine ex_put hX .int FL_2_36 tyX2 tyX2_ok nmX2 rfl rfl rfl rfl rfl (fun _ => (by decide : 4 < 11)) (fun _ => fs_2_4) dX2_step_75 ?_
        refine ex_nameH (fun u9 eu9 => ?_)
        replace w := w u9 eu9
        refine ex_goto hX 246 dX2_step_78 (by decide) ?_
        exact ex_vret hX dX2_step_246 w
    · replace w := w.2 c6
      refine ex_aload_n hX dX2_step_41 rfl rfl ?_
      refine ex_dup hX dX2_step_42 rfl ?_
      refine ex_get hX (.int (h.1 1 5)) FL_2_135 rfl (fun _ => rfl) dX2_step_43 ?_
      refine ex_iconst (v := 1) hX dX2_step_46 rfl ?_
      refine ex_iadd hX dX2_step_47 ?_
      refine ex_put hX .int FL_2_135 tyX2 tyX2_ok nmX2 rfl rfl rfl rfl rfl (fun _ => (by decide : 5 < 11)) (fun _ => fs_2_5) dX2_step_48 ?_
      refine ex_nameH (fun u10 eu10 => ?_)
      replace w := w u10 eu10
      refine ex_goto hX 16 dX2_step_51 (by decide) ?_
      exact w

set_option maxRecDepth 100000 in
set_option maxHeartbeats 4000000 in
theorem sg_X2_step_89 {Z : CX × GX} {post : AH → Prop} {h : AH} {s0 : Int32} (hX : OK Z RX2 cX2_step 1 none 1 21) 
    (w : ((s0 = 0 → (∃ PP : Int32 → AH → Prop, CI yX2_isFigure cX2_isFigure 2 (some .boolean) 0 0 [.ref 1, .int (h.1 1 5)] h PP ∧ ∀ (r : Int32) (u : AH), PP r u → EX Z 1 (QV Z post) 140 u [some (.ref 1)] (.int r :: []))) ∧ (¬ s0 = 0 → EX Z 1 (QV Z post) 97 (hset h.1 1 4 1, h.2) [some (.ref 1)] [])))
    : EX Z 1 (QV Z post) 89 h [some (.ref 1)] [.int s0] := by
  refine ex_ifeq hX 132 dX2_step_89 (by decide) (fun c1 => ?_) (fun c1 => ?_)
  · replace w := w.1 c1
    refine ex_aload_n hX dX2_step_132 rfl rfl ?_
    refine ex_aload_n hX dX2_step_133 rfl rfl ?_
    refine ex_get hX (.int (h.1 1 5)) FL_2_135 rfl (fun _ => rfl) dX2_step_134 ?_
    obtain ⟨PP, pM, pK⟩ := w
    exact ex_callIv (ci := 2) (i := 1) (As := [.int (h.1 1 5)]) (st := []) hX pM CS_2_145 MS_X2_isFigure rfl rfl rfl (by decide) rfl (Nat.le_of_ble_eq_true rfl) dX2_step_137 (fun r u hp => pK r u hp)
  · replace w := w.2 c1
    refine ex_aload_n hX dX2_step_92 rfl rfl ?_
    refine ex_iconst (v := 1) hX dX2_step_93 rfl ?_
    refine ex_put hX .int FL_2_36 tyX2 tyX2_ok nmX2 rfl rfl rfl rfl rfl (fun _ => (by decide : 4 < 11)) (fun _ => fs_2_4) dX2_step_94 ?_
    exact w

set_option maxRecDepth 100000 in
set_option maxHeartbeats 4000000 in
theorem sg_X2_step_97 {Z : CX × GX} {post : AH → Prop} {h : AH}  (hX : OK Z RX2 cX2_step 1 none 1 21) 
    (w : (((h.1 1 1) ≤ (h.1 1 6) → post h) ∧ (¬ (h.1 1 1) ≤ (h.1 1 6) → (∃ PP : Int32 → AH → Prop, CI yX2_isLetter cX2_isLetter 2 (some .boolean) 0 0 [.ref 1, .int (h.1 1 6)] h PP ∧ ∀ (r : Int32) (u : AH), PP r u → EX Z 1 (QV Z post) 116 u [some (.ref 1)] (.int r :: [])))))
    : EX Z 1 (QV Z post) 97 h [some (.ref 1)] [] := by
  refine ex_aload_n hX dX2_step_97 rfl rfl ?_
  refine ex_get hX (.int (h.1 1 6)) FL_2_65 rfl (fun _ => rfl) dX2_step_98 ?_
  refine ex_aload_n hX dX2_step_101 rfl rfl ?_
  refine ex_get hX (.int (h.1 1 1)) FL_2_15 rfl (fun _ => rfl) dX2_step_102 ?_
  refine ex_icmpge hX 246 dX2_step_105 (by decide) (fun c1 => ?_) (fun c1 => ?_)
  · replace w := w.1 c1
    exact ex_vret hX dX2_step_246 w
  · replace w := w.2 c1
    refine ex_aload_n hX dX2_step_108 rfl rfl ?_
    refine ex_aload_n hX dX2_step_109 rfl rfl ?_
    refine ex_get hX (.int (h.1 1 6)) FL_2_65 rfl (fun _ => rfl) dX2_step_110 ?_
    obtain ⟨PP, pM, pK⟩ := w
    exact ex_callIv (ci := 2) (i := 1) (As := [.int (h.1 1 6)]) (st := []) hX pM CS_2_141 MS_X2_isLetter rfl rfl rfl (by decide) rfl (Nat.le_of_ble_eq_true rfl) dX2_step_113 (fun r u hp => pK r u hp)

set_option maxRecDepth 100000 in
set_option maxHeartbeats 4000000 in
theorem sg_X2_step_116 {Z : CX × GX} {post : AH → Prop} {h : AH} {s0 : Int32} (hX : OK Z RX2 cX2_step 1 none 1 21) 
    (w : ((s0 = 0 → post h) ∧ (¬ s0 = 0 → (∀ u2 : AH, u2 = (hset h.1 1 6 ((h.1 1 6) + 1), h.2) → EX Z 1 (QV Z post) 97 u2 [some (.ref 1)] []))))
    : EX Z 1 (QV Z post) 116 h [some (.ref 1)] [.int s0] := by
  refine ex_ifeq hX 246 dX2_step_116 (by decide) (fun c1 => ?_) (fun c1 => ?_)
  · replace w := w.1 c1
    exact ex_vret hX dX2_step_246 w
  · replace w := w.2 c1
    refine ex_aload_n hX dX2_step_119 rfl rfl ?_
    refine ex_dup hX dX2_step_120 rfl ?_
    refine ex_get hX (.int (h.1 1 6)) FL_2_65 rfl (fun _ => rfl) dX2_step_121 ?_
    refine ex_iconst (v := 1) hX dX2_step_124 rfl ?_
    refine ex_iadd hX dX2_step_125 ?_
    refine ex_put hX .int FL_2_65 tyX2 tyX2_ok nmX2 rfl rfl rfl rfl rfl (fun _ => (by decide : 6 < 11)) (fun _ => fs_2_6) dX2_step_126 ?_
    refine ex_nameH (fun u2 eu2 => ?_)
    replace w := w u2 eu2
    refine ex_goto hX 97 dX2_step_129 (by decide) ?_
    exact w

set_option maxRecDepth 100000 in
set_option maxHeartbeats 4000000 in
theorem sg_X2_step_140 {Z : CX × GX} {post : AH → Prop} {h : AH} {s0 : Int32} (hX : OK Z RX2 cX2_step 1 none 1 21) 
    (w : ((s0 = 0 → (∀ u2 : AH, u2 = (hset h.1 1 4 3, h.2) → (∀ u3 : AH, u3 = (hset u2.1 1 6 ((u2.1 1 6) + 1), u2.2) → post u3))) ∧ (¬ s0 = 0 → (∀ u4 : AH, u4 = (hset h.1 1 4 2, h.2) → EX Z 1 (QV Z post) 153 (hset u4.1 1 7 0, u4.2) [some (.ref 1)] []))))
    : EX Z 1 (QV Z post) 140 h [some (.ref 1)] [.int s0] := by
  refine ex_ifeq hX 231 dX2_step_140 (by decide) (fun c1 => ?_) (fun c1 => ?_)
  · replace w := w.1 c1
    refine ex_aload_n hX dX2_step_231 rfl rfl ?_
    refine ex_iconst (v := 3) hX dX2_step_232 rfl ?_
    refine ex_put hX .int FL_2_36 tyX2 tyX2_ok nmX2 rfl rfl rfl rfl rfl (fun _ => (by decide : 4 < 11)) (fun _ => fs_2_4) dX2_step_233 ?_
    refine ex_nameH (fun u2 eu2 => ?_)
    replace w := w u2 eu2
    refine ex_aload_n hX dX2_step_236 rfl rfl ?_
    refine ex_dup hX dX2_step_237 rfl ?_
    refine ex_get hX (.int (u2.1 1 6)) FL_2_65 rfl (fun _ => rfl) dX2_step_238 ?_
    refine ex_iconst (v := 1) hX dX2_step_241 rfl ?_
    refine ex_iadd hX dX2_step_242 ?_
    refine ex_put hX .int FL_2_65 tyX2 tyX2_ok nmX2 rfl rfl rfl rfl rfl (fun _ => (by decide : 6 < 11)) (fun _ => fs_2_6) dX2_step_243 ?_
    refine ex_nameH (fun u3 eu3 => ?_)
    replace w := w u3 eu3
    exact ex_vret hX dX2_step_246 w
  · replace w := w.2 c1
    refine ex_aload_n hX dX2_step_143 rfl rfl ?_
    refine ex_iconst (v := 2) hX dX2_step_144 rfl ?_
    refine ex_put hX .int FL_2_36 tyX2 tyX2_ok nmX2 rfl rfl rfl rfl rfl (fun _ => (by decide : 4 < 11)) (fun _ => fs_2_4) dX2_step_145 ?_
    refine ex_nameH (fun u4 eu4 => ?_)
    replace w := w u4 eu4
    refine ex_aload_n hX dX2_step_148 rfl rfl ?_
    refine ex_iconst (v := 0) hX dX2_step_149 rfl ?_
    refine ex_put hX .int FL_2_138 tyX2 tyX2_ok nmX2 rfl rfl rfl rfl rfl (fun _ => (by decide : 7 < 11)) (fun _ => fs_2_7) dX2_step_150 ?_
    exact w

set_option maxRecDepth 100000 in
set_option maxHeartbeats 4000000 in
theorem sg_X2_step_153 {Z : CX × GX} {post : AH → Prop} {h : AH}  (hX : OK Z RX2 cX2_step 1 none 1 21) 
    (w : (((h.1 1 1) ≤ (h.1 1 6) → post h) ∧ (¬ (h.1 1 1) ≤ (h.1 1 6) → (∃ PP : Int32 → AH → Prop, CI yX2_isFigure cX2_isFigure 2 (some .boolean) 0 0 [.ref 1, .int (h.1 1 6)] h PP ∧ ∀ (r : Int32) (u : AH), PP r u → EX Z 1 (QV Z post) 172 u [some (.ref 1)] (.int r :: [])))))
    : EX Z 1 (QV Z post) 153 h [some (.ref 1)] [] := by
  refine ex_aload_n hX dX2_step_153 rfl rfl ?_
  refine ex_get hX (.int (h.1 1 6)) FL_2_65 rfl (fun _ => rfl) dX2_step_154 ?_
  refine ex_aload_n hX dX2_step_157 rfl rfl ?_
  refine ex_get hX (.int (h.1 1 1)) FL_2_15 rfl (fun _ => rfl) dX2_step_158 ?_
  refine ex_icmpge hX 246 dX2_step_161 (by decide) (fun c1 => ?_) (fun c1 => ?_)
  · replace w := w.1 c1
    exact ex_vret hX dX2_step_246 w
  · replace w := w.2 c1
    refine ex_aload_n hX dX2_step_164 rfl rfl ?_
    refine ex_aload_n hX dX2_step_165 rfl rfl ?_
    refine ex_get hX (.int (h.1 1 6)) FL_2_65 rfl (fun _ => rfl) dX2_step_166 ?_
    obtain ⟨PP, pM, pK⟩ := w
    exact ex_callIv (ci := 2) (i := 1) (As := [.int (h.1 1 6)]) (st := []) hX pM CS_2_145 MS_X2_isFigure rfl rfl rfl (by decide) rfl (Nat.le_of_ble_eq_true rfl) dX2_step_169 (fun r u hp => pK r u hp)

set_option maxRecDepth 100000 in
set_option maxHeartbeats 4000000 in
theorem sg_X2_step_172 {Z : CX × GX} {post : AH → Prop} {h : AH} {s0 : Int32} (hX : OK Z RX2 cX2_step 1 none 1 21) 
    (w : ((s0 = 0 → post h) ∧ (¬ s0 = 0 → ((¬ 4 ≤ ((h.1 1 6) - (h.1 1 5)) → (vp_in (h.1 1 6) 400) ∧ True) ∧ (∀ v4 : Int32, v4 = (if 4 ≤ ((h.1 1 6) - (h.1 1 5)) then (10000 : Int32) else (((h.1 1 7) * 10) + (h.1 2 (Int32.toNatClampNeg (h.1 1 6)))) - 48) → (∀ u5 : AH, u5 = (hset h.1 1 7 v4, h.2) → (∀ u6 : AH, u6 = (hset u5.1 1 6 ((u5.1 1 6) + 1), u5.2) → EX Z 1 (QV Z post) 153 u6 [some (.ref 1)] [])))))))
    : EX Z 1 (QV Z post) 172 h [some (.ref 1)] [.int s0] := by
  refine ex_ifeq hX 246 dX2_step_172 (by decide) (fun c1 => ?_) (fun c1 => ?_)
  · replace w := w.1 c1
    exact ex_vret hX dX2_step_246 w
  · replace w := w.2 c1
    refine ex_aload_n hX dX2_step_175 rfl rfl ?_
    refine ex_aload_n hX dX2_step_176 rfl rfl ?_
    refine ex_get hX (.int (h.1 1 6)) FL_2_65 rfl (fun _ => rfl) dX2_step_177 ?_
    refine ex_aload_n hX dX2_step_180 rfl rfl ?_
    refine ex_get hX (.int (h.1 1 5)) FL_2_135 rfl (fun _ => rfl) dX2_step_181 ?_
    refine ex_isub hX dX2_step_184 ?_
    refine ex_iconst (v := 4) hX dX2_step_185 rfl ?_
    obtain ⟨wbc2, w⟩ := w
    have kc2 : EX Z 1 (QV Z post) 215 h [some (.ref 1)] [.int (if 4 ≤ ((h.1 1 6) - (h.1 1 5)) then (10000 : Int32) else (((h.1 1 7) * 10) + (h.1 2 (Int32.toNatClampNeg (h.1 1 6)))) - 48), .ref 1] := by
      refine ex_nameI (fun v4 ev4 => ?_)
      replace w := w v4 ev4
      refine ex_put hX .int FL_2_138 tyX2 tyX2_ok nmX2 rfl rfl rfl rfl rfl (fun _ => (by decide : 7 < 11)) (fun _ => fs_2_7) dX2_step_215 ?_
      refine ex_nameH (fun u5 eu5 => ?_)
      replace w := w u5 eu5
      refine ex_aload_n hX dX2_step_218 rfl rfl ?_
      refine ex_dup hX dX2_step_219 rfl ?_
      refine ex_get hX (.int (u5.1 1 6)) FL_2_65 rfl (fun _ => rfl) dX2_step_220 ?_
      refine ex_iconst (v := 1) hX dX2_step_223 rfl ?_
      refine ex_iadd hX dX2_step_224 ?_
      refine ex_put hX .int FL_2_65 tyX2 tyX2_ok nmX2 rfl rfl rfl rfl rfl (fun _ => (by decide : 6 < 11)) (fun _ => fs_2_6) dX2_step_225 ?_
      refine ex_nameH (fun u6 eu6 => ?_)
      replace w := w u6 eu6
      refine ex_goto hX 153 dX2_step_228 (by decide) ?_
      exact w
    refine ex_icmpge hX 212 dX2_step_186 (by decide) (fun c2 => ?_) (fun c2 => ?_)
    · refine ex_sipush (v := 10000) hX dX2_step_212 rfl ?_
      rw [show (if 4 ≤ ((h.1 1 6) - (h.1 1 5)) then (10000 : Int32) else (((h.1 1 7) * 10) + (h.1 2 (Int32.toNatClampNeg (h.1 1 6)))) - 48) = 10000 from if_pos c2] at kc2
      exact ex_forget [some (.ref 1)] ⟨rfl, trivial⟩ kc2
    · replace w := wbc2 c2
      refine ex_aload_n hX dX2_step_189 rfl rfl ?_
      refine ex_get hX (.int (h.1 1 7)) FL_2_138 rfl (fun _ => rfl) dX2_step_190 ?_
      refine ex_bipush (v := 10) hX dX2_step_193 rfl ?_
      refine ex_imul hX dX2_step_195 ?_
      refine ex_aload_n hX dX2_step_196 rfl rfl ?_
      refine ex_get hX (.ref 2) FL_2_9 rfl (fun _ => rfl) dX2_step_197 ?_
      refine ex_aload_n hX dX2_step_200 rfl rfl ?_
      refine ex_get hX (.int (h.1 1 6)) FL_2_65 rfl (fun _ => rfl) dX2_step_201 ?_
      obtain ⟨q3, w⟩ := w
      refine ex_bald hX rfl q3 dX2_step_204 ?_
      refine ex_iadd hX dX2_step_205 ?_
      refine ex_bipush (v := 48) hX dX2_step_206 rfl ?_
      refine ex_isub hX dX2_step_208 ?_
      refine ex_goto hX 215 dX2_step_209 (by decide) ?_
      rw [show (if 4 ≤ ((h.1 1 6) - (h.1 1 5)) then (10000 : Int32) else (((h.1 1 7) * 10) + (h.1 2 (Int32.toNatClampNeg (h.1 1 6)))) - 48) = (((h.1 1 7) * 10) + (h.1 2 (Int32.toNatClampNeg (h.1 1 6)))) - 48 from if_neg c2] at kc2
      exact ex_forget [some (.ref 1)] ⟨rfl, trivial⟩ kc2

set_option maxRecDepth 100000 in
set_option maxHeartbeats 4000000 in
theorem sg_X2_takeNumber_0 {Z : CX × GX} {post : Int32 → AH → Prop} {h : AH} {x1 : Int32} {x2 : Int32} (hX : OK Z RX2 cX2_takeNumber 3 (some .int) 2 41) 
    (w : (∃ PP : AH → Prop, CV yX2_step cX2_step 1 1 21 [.ref 1] h PP ∧ ∀ u : AH, PP u → EX Z 3 (QI Z post) 4 u [some (.ref 1), some (.int x1), some (.int x2)] []))
    : EX Z 3 (QI Z post) 0 h [some (.ref 1), some (.int x1), some (.int x2)] [] := by
  refine ex_aload_n hX dX2_takeNumber_0 rfl rfl ?_
  obtain ⟨PP, pM, pK⟩ := w
  exact ex_callVv (ci := 2) (i := 1) (As := []) (st := []) hX pM CS_2_33 MS_X2_step rfl rfl rfl (by decide) rfl (Nat.le_of_ble_eq_true rfl) dX2_takeNumber_1 (fun u hp => pK u hp)

set_option maxRecDepth 100000 in
set_option maxHeartbeats 4000000 in
theorem sg_X2_takeNumber_4 {Z : CX × GX} {post : Int32 → AH → Prop} {h : AH} {x1 : Int32} {x2 : Int32} (hX : OK Z RX2 cX2_takeNumber 3 (some .int) 2 41) 
    (w : (((h.1 1 4) = 2 → (((h.1 1 7) < x1 → (∃ PP : AH → Prop, CV yX2_find cX2_find 2 0 0 [.ref 1, .int 2] h PP ∧ ∀ u : AH, PP u → EX Z 3 (QI Z post) 41 u [some (.ref 1), none, none] [])) ∧ (¬ (h.1 1 7) < x1 → (((h.1 1 7) ≤ x2 → post (h.1 1 7) h) ∧ (¬ (h.1 1 7) ≤ x2 → (∃ PP : AH → Prop, CV yX2_find cX2_find 2 0 0 [.ref 1, .int 2] h PP ∧ ∀ u : AH, PP u → EX Z 3 (QI Z post) 41 u [some (.ref 1), none, none] [])))))) ∧ (¬ (h.1 1 4) = 2 → (∃ PP : AH → Prop, CV yX2_find cX2_find 2 0 0 [.ref 1, .int 1] h PP ∧ ∀ u : AH, PP u → EX Z 3 (QI Z post) 17 u [some (.ref 1), none, none] []))))
    : EX Z 3 (QI Z post) 4 h [some (.ref 1), some (.int x1), some (.int x2)] [] := by
  refine ex_aload_n hX dX2_takeNumber_4 rfl rfl ?_
  refine ex_get hX (.int (h.1 1 4)) FL_2_36 rfl (fun _ => rfl) dX2_takeNumber_5 ?_
  refine ex_iconst (v := 2) hX dX2_takeNumber_8 rfl ?_
  refine ex_icmpeq hX 20 dX2_takeNumber_9 (by decide) (fun c1 => ?_) (fun c1 => ?_)
  · replace w := w.1 c1
    refine ex_aload_n hX dX2_takeNumber_20 rfl rfl ?_
    refine ex_get hX (.int (h.1 1 7)) FL_2_138 rfl (fun _ => rfl) dX2_takeNumber_21 ?_
    refine ex_iload_n hX dX2_takeNumber_24 rfl rfl ?_
    refine ex_icmplt hX 36 dX2_takeNumber_25 (by decide) (fun c2 => ?_) (fun c2 => ?_)
    · replace w := w.1 c2
      refine ex_aload_n hX dX2_takeNumber_36 rfl rfl ?_
      refine ex_iconst (v := 2) hX dX2_takeNumber_37 rfl ?_
      obtain ⟨PP, pM, pK⟩ := w
      exact ex_callVv (ci := 2) (i := 1) (As := [.int 2]) (st := []) hX pM CS_2_57 MS_X2_find rfl rfl rfl (by decide) rfl (Nat.le_of_ble_eq_true rfl) dX2_takeNumber_38 (fun u hp => ex_forget [some (.ref 1), none, none] ⟨rfl, trivial⟩ (pK u hp))
    · replace w := w.2 c2
      refine ex_aload_n hX dX2_takeNumber_28 rfl rfl ?_
      refine ex_get hX (.int (h.1 1 7)) FL_2_138 rfl (fun _ => rfl) dX2_takeNumber_29 ?_
      refine ex_iload_n hX dX2_takeNumber_32 rfl rfl ?_
      refine ex_icmple hX 41 dX2_takeNumber_33 (by decide) (fun c3 => ?_) (fun c3 => ?_)
      · replace w := w.1 c3
        refine ex_aload_n hX dX2_takeNumber_41 rfl rfl ?_
        refine ex_get hX (.int (h.1 1 7)) FL_2_138 rfl (fun _ => rfl) dX2_takeNumber_42 ?_
        exact ex_iret hX dX2_takeNumber_45 rfl w
      · replace w := w.2 c3
        refine ex_aload_n hX dX2_takeNumber_36 rfl rfl ?_
        refine ex_iconst (v := 2) hX dX2_takeNumber_37 rfl ?_
        obtain ⟨PP, pM, pK⟩ := w
        exact ex_callVv (ci := 2) (i := 1) (As := [.int 2]) (st := []) hX pM CS_2_57 MS_X2_find rfl rfl rfl (by decide) rfl (Nat.le_of_ble_eq_true rfl) dX2_takeNumber_38 (fun u hp => ex_forget [some (.ref 1), none, none] ⟨rfl, trivial⟩ (pK u hp))
  · replace w := w.2 c1
    refine ex_aload_n hX dX2_takeNumber_12 rfl rfl ?_
    refine ex_iconst (v := 1) hX dX2_takeNumber_13 rfl ?_
    obtain ⟨PP, pM, pK⟩ := w
    exact ex_callVv (ci := 2) (i := 1) (As := [.int 1]) (st := []) hX pM CS_2_57 MS_X2_find rfl rfl rfl (by decide) rfl (Nat.le_of_ble_eq_true rfl) dX2_takeNumber_14 (fun u hp => ex_forget [some (.ref 1), none, none] ⟨rfl, trivial⟩ (pK u hp))

set_option maxRecDepth 100000 in
set_option maxHeartbeats 4000000 in
theorem sg_X2_takeNumber_17 {Z : CX × GX} {post : Int32 → AH → Prop} {h : AH}  (hX : OK Z RX2 cX2_takeNumber 3 (some .int) 2 41) 
    (w : post (h.1 1 7) h)
    : EX Z 3 (QI Z post) 17 h [some (.ref 1), none, none] [] := by
  refine ex_goto hX 41 dX2_takeNumber_17 (by decide) ?_
  refine ex_aload_n hX dX2_takeNumber_41 rfl rfl ?_
  refine ex_get hX (.int (h.1 1 7)) FL_2_138 rfl (fun _ => rfl) dX2_takeNumber_42 ?_
  exact ex_iret hX dX2_takeNumber_45 rfl w

set_option maxRecDepth 100000 in
set_option maxHeartbeats 4000000 in
theorem sg_X2_takeNumber_41 {Z : CX × GX} {post : Int32 → AH → Prop} {h : AH}  (hX : OK Z RX2 cX2_takeNumber 3 (some .int) 2 41) 
    (w : post (h.1 1 7) h)
    : EX Z 3 (QI Z post) 41 h [some (.ref 1), none, none] [] := by
  refine ex_aload_n hX dX2_takeNumber_41 rfl rfl ?_
  refine ex_get hX (.int (h.1 1 7)) FL_2_138 rfl (fun _ => rfl) dX2_takeNumber_42 ?_
  exact ex_iret hX dX2_takeNumber_45 rfl w

set_option maxRecDepth 100000 in
set_option maxHeartbeats 4000000 in
theorem sg_X2_takeSign_0 {Z : CX × GX} {post : AH → Prop} {h : AH} {x1 : Int32} (hX : OK Z RX2 cX2_takeSign 2 none 2 41) 
    (w : (∃ PP : AH → Prop, CV yX2_step cX2_step 1 1 21 [.ref 1] h PP ∧ ∀ u : AH, PP u → EX Z 2 (QV Z post) 4 u [some (.ref 1), some (.int x1)] []))
    : EX Z 2 (QV Z post) 0 h [some (.ref 1), some (.int x1)] [] := by
  refine ex_aload_n hX dX2_takeSign_0 rfl rfl ?_
  obtain ⟨PP, pM, pK⟩ := w
  exact ex_callVv (ci := 2) (i := 1) (As := []) (st := []) hX pM CS_2_33 MS_X2_step rfl rfl rfl (by decide) rfl (Nat.le_of_ble_eq_true rfl) dX2_takeSign_1 (fun u hp => pK u hp)

set_option maxRecDepth 100000 in
set_option maxHeartbeats 4000000 in
theorem sg_X2_takeSign_4 {Z : CX × GX} {post : AH → Prop} {h : AH} {x1 : Int32} (hX : OK Z RX2 cX2_takeSign 2 none 2 41) 
    (w : (∃ PP : Int32 → AH → Prop, CI yX2_isSign cX2_isSign 2 (some .boolean) 0 0 [.ref 1, .int x1] h PP ∧ ∀ (r : Int32) (u : AH), PP r u → EX Z 2 (QV Z post) 9 u [some (.ref 1), none] (.int r :: [])))
    : EX Z 2 (QV Z post) 4 h [some (.ref 1), some (.int x1)] [] := by
  refine ex_aload_n hX dX2_takeSign_4 rfl rfl ?_
  refine ex_iload_n hX dX2_takeSign_5 rfl rfl ?_
  obtain ⟨PP, pM, pK⟩ := w
  exact ex_callIv (ci := 2) (i := 1) (As := [.int x1]) (st := []) hX pM CS_2_128 MS_X2_isSign rfl rfl rfl (by decide) rfl (Nat.le_of_ble_eq_true rfl) dX2_takeSign_6 (fun r u hp => ex_forget [some (.ref 1), none] ⟨rfl, trivial⟩ (pK r u hp))

set_option maxRecDepth 100000 in
set_option maxHeartbeats 4000000 in
theorem sg_X2_takeSign_9 {Z : CX × GX} {post : AH → Prop} {h : AH} {s0 : Int32} (hX : OK Z RX2 cX2_takeSign 2 none 2 41) 
    (w : ((¬ s0 = 0 → post h) ∧ (s0 = 0 → (∃ PP : AH → Prop, CV yX2_find cX2_find 2 0 0 [.ref 1, .int 1] h PP ∧ ∀ u : AH, PP u → EX Z 2 (QV Z post) 17 u [none, none] []))))
    : EX Z 2 (QV Z post) 9 h [some (.ref 1), none] [.int s0] := by
  refine ex_ifne hX 17 dX2_takeSign_9 (by decide) (fun c1 => ?_) (fun c1 => ?_)
  · replace w := w.1 c1
    exact ex_vret hX dX2_takeSign_17 w
  · replace w := w.2 c1
    refine ex_aload_n hX dX2_takeSign_12 rfl rfl ?_
    refine ex_iconst (v := 1) hX dX2_takeSign_13 rfl ?_
    obtain ⟨PP, pM, pK⟩ := w
    exact ex_callVv (ci := 2) (i := 1) (As := [.int 1]) (st := []) hX pM CS_2_57 MS_X2_find rfl rfl rfl (by decide) rfl (Nat.le_of_ble_eq_true rfl) dX2_takeSign_14 (fun u hp => ex_forget [none, none] trivial (pK u hp))

set_option maxRecDepth 100000 in
set_option maxHeartbeats 4000000 in
theorem sg_X2_takeSign_17 {Z : CX × GX} {post : AH → Prop} {h : AH}  (hX : OK Z RX2 cX2_takeSign 2 none 2 41) 
    (w : post h)
    : EX Z 2 (QV Z post) 17 h [none, none] [] := by
  exact ex_vret hX dX2_takeSign_17 w

/-! READING: what the tokens of a text are -/
def isLt (b : Nat) : Bool := decide (97 ≤ b ∧ b ≤ 122)
def isFg (b : Nat) : Bool := decide (48 ≤ b ∧ b ≤ 57)
def scN (q : Nat → Bool) (L p : Nat) : Nat := fstS (fun j => !(q j)) (L - p) p
theorem sc_yes {q : Nat → Bool} {L p : Nat} (h : p < L) (hq : q p = true) : scN q L p = scN q L (p + 1) := by
  unfold scN
  rw [show L - p = (L - (p + 1)) + 1 by omega, fstS, hq, if_neg (by decide)]
theorem sc_no {q : Nat → Bool} {L p : Nat} (h : L ≤ p ∨ q p = false) : scN q L p = p := by
  unfold scN
  by_cases c : L ≤ p
  · rw [show L - p = 0 by omega]; rfl
  · rw [show L - p = (L - (p + 1)) + 1 by omega, fstS, h.resolve_left c, if_pos (by decide)]
theorem sc_le {q : Nat → Bool} {L p : Nat} (h : p ≤ L) : p ≤ scN q L p ∧ scN q L p ≤ L := by
  obtain ⟨a, b, -, -⟩ := fst_spec (q := fun j => !(q j)) (L - p) p
  unfold scN
  omega
theorem sc_end {q : Nat → Bool} {L p : Nat} (h : p ≤ L) (hl : scN q L p < L) : q (scN q L p) = false := by
  obtain ⟨a, b, -, d⟩ := fst_spec (q := fun j => !(q j)) (L - p) p
  have := d.resolve_left (by unfold scN at hl; omega)
  unfold scN
  simpa using this
theorem sc_in {q : Nat → Bool} {L p t : Nat} (h1 : p ≤ t) (h2 : t < scN q L p) : q t = true := by
  obtain ⟨-, -, c, -⟩ := fst_spec (q := fun j => !(q j)) (L - p) p
  have := c t h1 h2
  simpa using this
abbrev Cur : Type := Nat × Nat × Nat
def spN (T : Nat → Nat) (L p : Nat) : Nat := scN (fun j => decide (T j = 32)) L p
def leN (T : Nat → Nat) (L p : Nat) : Nat := scN (fun j => isLt (T j)) L p
def feN (T : Nat → Nat) (L p : Nat) : Nat := scN (fun j => isFg (T j)) L p
def decN (T : Nat → Nat) (q : Nat) : Nat → Nat
  | 0 => 0
  | n + 1 => decN T q n * 10 + (T (q + n) - 48)
def numQ (T : Nat → Nat) (L lo hi q : Nat) : Cur × Nat × Nat := if q < L ∧ isFg (T q) = true then (if feN T L q - q ≤ 4 ∧ lo ≤ decN T q (feN T L q - q) ∧ decN T q (feN T L q - q) ≤ hi then ((0, 0, feN T L q), decN T q (feN T L q - q), q) else ((2, q, 0), 0, q)) else ((1, q, 0), 0, q)
def numC (T : Nat → Nat) (L lo hi : Nat) (c : Cur) : Cur × Nat × Nat := if c.1 = 0 then numQ T L lo hi (spN T L c.2.2) else (c, 0, 0)
def signQ (T : Nat → Nat) (L ch q : Nat) : Cur := if q < L ∧ T q = ch then (0, 0, q + 1) else (1, q, 0)
def signC (T : Nat → Nat) (L ch : Nat) (c : Cur) : Cur := if c.1 = 0 then signQ T L ch (spN T L c.2.2) else c
def findC (n q : Nat) (c : Cur) : Cur := if c.1 = 0 then (n, q, 0) else c
theorem dec_lt {T : Nat → Nat} {q : Nat} : ∀ n, (∀ j, j < n → isFg (T (q + j)) = true) → decN T q n < 10 ^ n := by
  intro n
  induction n with
  | zero => intro _; exact Nat.zero_lt_one
  | succ n ih =>
    intro h
    have := ih (fun j hj => h j (by omega))
    have := of_decide_eq_true (h n (by omega))
    rw [decN, Nat.pow_succ]
    omega
/-- the bytes of the class -/
def byS (b : Nat) : Int32 := (nI b).toInt8.toInt32
theorem by_32 : ∀ b, b < 256 → (byS b = 32 ↔ b = 32) := by unfold byS; decide +kernel
theorem by_59 : ∀ b, b < 256 → (byS b = 59 ↔ b = 59) := by unfold byS; decide +kernel
theorem by_44 : ∀ b, b < 256 → (byS b = 44 ↔ b = 44) := by unfold byS; decide +kernel
theorem by_lt : ∀ b, b < 256 → ((¬ byS b < 97 ∧ ¬ 122 < byS b) ↔ isLt b = true) := by unfold byS; decide +kernel
theorem by_fg : ∀ b, b < 256 → ((¬ byS b < 48 ∧ ¬ 57 < byS b) ↔ isFg b = true) := by unfold byS; decide +kernel
theorem by_id : ∀ b, b < 128 → byS b = nI b := by unfold byS; decide +kernel
def TXc (T : Nat → Nat) (L : Nat) (u : AH) : Prop := L ≤ 400 ∧ u.1 1 1 = nI L ∧ ∀ j, j < L → T j < 256 ∧ u.1 2 j = byS (T j)
def FRc (h u : AH) : Prop := u.2 = h.2 ∧ (∀ i, i ≠ 1 → u.1 i = h.1 i) ∧ ∀ k, (k < 2 ∨ 8 ≤ k) → u.1 1 k = h.1 1 k
theorem FRc.rf {h : AH} : FRc h h := ⟨rfl, fun _ _ => rfl, fun _ _ => rfl⟩
theorem FRc.tr {h u v : AH} (a : FRc h u) (b : FRc u v) : FRc h v := ⟨b.1.trans a.1, fun i hi => (b.2.1 i hi).trans (a.2.1 i hi), fun k hk => (b.2.2 k hk).trans (a.2.2 k hk)⟩
theorem FRc.set {h u u2 : AH} {k : Nat} {v : Int32} (a : FRc h u) (hk : 2 ≤ k ∧ k < 8) (e : u2 = (hset u.1 1 k v, u.2)) : FRc h u2 := ⟨by rw [e]; exact a.1, fun i hi => by rw [e, hs_o hi]; exact a.2.1 i hi, fun j hj => by rw [e, hs_i (by omega)]; exact a.2.2 j hj⟩
theorem TXc.of {T : Nat → Nat} {L : Nat} {h u : AH} (a : TXc T L h) (f : FRc h u) : TXc T L u := ⟨a.1, by rw [f.2.2 1 (by omega)]; exact a.2.1, by rw [f.2.1 2 (by omega)]; exact a.2.2⟩
def CR (L : Nat) (u : AH) (c : Cur) : Prop := u.1 1 2 = nI c.1 ∧ c.1 ≤ 4 ∧ (c.1 ≠ 0 → c.2.1 ≤ L ∧ u.1 1 3 = nI c.2.1 ∧ u.1 1 5 = nI c.2.1) ∧ (c.1 = 0 → c.2.2 ≤ L ∧ u.1 1 6 = nI c.2.2)
theorem CR_f {L : Nat} {u : AH} {c : Cur} (h : CR L u c) : (u.1 1 2 = 0) ↔ c.1 = 0 := by rw [h.1, k_0, nI_eq (by have := h.2.1; omega) (by omega)]
/-- the token that was read -/
def KD (T : Nat → Nat) (L q : Nat) (u : AH) : Prop := (q = L ∧ u.1 1 4 = 0 ∧ u.1 1 6 = nI q) ∨ (q < L ∧ isLt (T q) = true ∧ u.1 1 4 = 1 ∧ u.1 1 6 = nI (leN T L q)) ∨ (q < L ∧ isFg (T q) = true ∧ u.1 1 4 = 2 ∧ u.1 1 6 = nI (feN T L q) ∧ u.1 1 7 = if feN T L q - q ≤ 4 then nI (decN T q (feN T L q - q)) else 10000) ∨ (q < L ∧ isLt (T q) = false ∧ isFg (T q) = false ∧ u.1 1 4 = 3 ∧ u.1 1 6 = nI (q + 1))

set_option maxRecDepth 100000 in
set_option maxHeartbeats 4000000 in
theorem c_X2_isLetter {h : AH} {a1 : Int32}  {T : Nat → Nat} {L a : Nat} (hT : TXc T L h) (ha : a ≤ L) (e1 : a1 = nI a) : CI yX2_isLetter cX2_isLetter 2 (some .boolean) 0 0 [.ref 1, .int a1] h (fun r u => r = bI (a < L ∧ isLt (T a) = true) ∧ u = h) := by
  refine CI.of [some (.ref 1), some (.int a1)] (by decide +kernel) rfl (Nat.le_of_ble_eq_true rfl) rfl (fun Z hX => ?_)
  subst e1
  have hL := hT.1
  refine sg_X2_isLetter_0 hX ⟨fun z => absurd z (nI_pos (by omega)), fun _ => ⟨fun z => ?_, fun z => ?_⟩⟩
  · rw [hT.2.1, nI_leI (by omega) (by omega)] at z
    exact ⟨by rw [bI_f (fun y => absurd y.1 (by omega))], rfl⟩
  · rw [hT.2.1, nI_leI (by omega) (by omega)] at z
    obtain ⟨b, e⟩ := hT.2.2 a (by omega)
    have q := by_lt (T a) b
    rw [nI_clamp (by omega), e]
    refine ⟨vp_in_nI (by omega) (by omega), fun y => ⟨by rw [bI_f (fun w => (q.mpr w.2).1 y)], rfl⟩, fun y => ⟨vp_in_nI (by omega) (by omega), fun x => ⟨by rw [bI_f (fun w => (q.mpr w.2).2 x)], rfl⟩, fun x => ⟨by rw [bI_t ⟨by omega, q.mp ⟨y, x⟩⟩], rfl⟩⟩⟩

set_option maxRecDepth 100000 in
set_option maxHeartbeats 4000000 in
theorem c_X2_isFigure {h : AH} {a1 : Int32}  {T : Nat → Nat} {L a : Nat} (hT : TXc T L h) (ha : a ≤ L) (e1 : a1 = nI a) : CI yX2_isFigure cX2_isFigure 2 (some .boolean) 0 0 [.ref 1, .int a1] h (fun r u => r = bI (a < L ∧ isFg (T a) = true) ∧ u = h) := by
  refine CI.of [some (.ref 1), some (.int a1)] (by decide +kernel) rfl (Nat.le_of_ble_eq_true rfl) rfl (fun Z hX => ?_)
  subst e1
  have hL := hT.1
  refine sg_X2_isFigure_0 hX ⟨fun z => absurd z (nI_pos (by omega)), fun _ => ⟨fun z => ?_, fun z => ?_⟩⟩
  · rw [hT.2.1, nI_leI (by omega) (by omega)] at z
    exact ⟨by rw [bI_f (fun y => absurd y.1 (by omega))], rfl⟩
  · rw [hT.2.1, nI_leI (by omega) (by omega)] at z
    obtain ⟨b, e⟩ := hT.2.2 a (by omega)
    have q := by_fg (T a) b
    rw [nI_clamp (by omega), e]
    refine ⟨vp_in_nI (by omega) (by omega), fun y => ⟨by rw [bI_f (fun w => (q.mpr w.2).1 y)], rfl⟩, fun y => ⟨vp_in_nI (by omega) (by omega), fun x => ⟨by rw [bI_f (fun w => (q.mpr w.2).2 x)], rfl⟩, fun x => ⟨by rw [bI_t ⟨by omega, q.mp ⟨y, x⟩⟩], rfl⟩⟩⟩

set_option maxRecDepth 100000 in
set_option maxHeartbeats 4000000 in
theorem c_X2_find {h : AH} {a1 : Int32}  {L n q : Nat} {c : Cur} (hC : CR L h c) (hn : 1 ≤ n ∧ n ≤ 4) (hq : q ≤ L) (hs : c.1 = 0 → h.1 1 5 = nI q) (e1 : a1 = nI n) : CV yX2_find cX2_find 2 0 0 [.ref 1, .int a1] h (fun u => FRc h u ∧ u.1 1 4 = h.1 1 4 ∧ u.1 1 5 = h.1 1 5 ∧ CR L u (findC n q c)) := by
  refine CV.of [some (.ref 1), some (.int a1)] (by decide +kernel) rfl (Nat.le_of_ble_eq_true rfl) rfl (fun Z hX => ?_)
  subst e1
  refine sg_X2_find_0 hX ⟨fun z => ⟨FRc.rf, rfl, rfl, ?_⟩, fun z u2 e2 u3 e3 => ?_⟩
  · have : ¬ c.1 = 0 := fun y => z ((CR_f hC).mpr y)
    rw [findC, if_neg this]; exact hC
  · have c0 := (CR_f hC).mp z
    have es : u2.1 1 5 = nI q := by rw [e2, hs_i (by omega)]; exact hs c0
    rw [es] at e3
    have f2 : FRc h u2 := FRc.rf.set (by omega) e2
    have f3 := f2.set (by omega) e3
    refine ⟨f3, by rw [e3, hs_i (by omega), e2, hs_i (by omega)], by rw [e3, hs_i (by omega), e2, hs_i (by omega)], ?_⟩
    rw [findC, if_pos c0]
    exact ⟨by rw [e3, hs_i (by omega), e2, hs_s], hn.2, fun _ => ⟨hq, by rw [e3, hs_s], by rw [e3, hs_i (by omega)]; exact es⟩, fun y => absurd y (by show ¬ n = 0; omega)⟩

set_option maxRecDepth 100000 in
set_option maxHeartbeats 4000000 in
theorem c_X2_isSign {h : AH} {a1 : Int32}  {T : Nat → Nat} {L s ch : Nat} (hT : TXc T L h) (hs : s ≤ L) (es : h.1 1 5 = nI s) (hc : ch = 59 ∨ ch = 44) (e1 : a1 = nI ch) : CI yX2_isSign cX2_isSign 2 (some .boolean) 0 0 [.ref 1, .int a1] h (fun r u => r = bI (h.1 1 4 = 3 ∧ s < L ∧ T s = ch) ∧ u = h) := by
  refine CI.of [some (.ref 1), some (.int a1)] (by decide +kernel) rfl (Nat.le_of_ble_eq_true rfl) rfl (fun Z hX => ?_)
  subst e1
  have hL := hT.1
  refine sg_X2_isSign_0 hX ⟨fun z => ⟨by rw [bI_f (fun y => z y.1)], rfl⟩, fun z => ⟨fun y => ?_, fun y => ?_⟩⟩
  · rw [hT.2.1, es, nI_leI (by omega) (by omega)] at y
    exact ⟨by rw [bI_f (fun w => absurd w.2.1 (by omega))], rfl⟩
  · rw [hT.2.1, es, nI_leI (by omega) (by omega)] at y
    obtain ⟨b, e⟩ := hT.2.2 s (by omega)
    have q : byS (T s) = nI ch ↔ T s = ch := by
      rcases hc with rfl | rfl
      · exact by_59 _ b
      · exact by_44 _ b
    rw [es, nI_clamp (by omega), e]
    exact ⟨vp_in_nI (by omega) (by omega), fun w => ⟨by rw [bI_f (fun v => w (q.mpr v.2.2))], rfl⟩, fun w => ⟨by rw [bI_t ⟨z, by omega, q.mp w⟩], rfl⟩⟩

set_option maxRecDepth 100000 in
set_option maxHeartbeats 4000000 in
theorem c_X2_step {h : AH}   {T : Nat → Nat} {L : Nat} {c : Cur} (hT : TXc T L h) (hC : CR L h c) : CV yX2_step cX2_step 1 1 21 [.ref 1] h (fun u => (c.1 ≠ 0 → u = h) ∧ (c.1 = 0 → FRc h u ∧ u.1 1 2 = h.1 1 2 ∧ u.1 1 5 = nI (spN T L c.2.2) ∧ KD T L (spN T L c.2.2) u)) := by
  refine CV.of [some (.ref 1)] (by decide +kernel) rfl (Nat.le_of_ble_eq_true rfl) rfl (fun Z hX => ?_)
  have hL := hT.1
  refine sg_X2_step_0 hX ⟨fun z => ?_, fun z => ⟨fun _ => rfl, fun y => absurd ((CR_f hC).mpr y) z⟩⟩
  have c0 := (CR_f hC).mp z
  obtain ⟨cp, e6⟩ := hC.2.2.2 c0
  have hq := sc_le (q := fun j => decide (T j = 32)) cp
  have hqe := sc_end (q := fun j => decide (T j = 32)) cp
  have hqd : scN (fun j => decide (T j = 32)) L c.2.2 = spN T L c.2.2 := rfl
  rw [hqd] at hq hqe
  generalize hq0 : spN T L c.2.2 = q at *
  generalize hpost : (fun (u : AH) => (c.1 ≠ 0 → u = h) ∧ (c.1 = 0 → FRc h u ∧ u.1 1 2 = h.1 1 2 ∧ u.1 1 5 = nI q ∧ KD T L q u)) = post
  have ok : ∀ u : AH, FRc h u → u.1 1 2 = h.1 1 2 → u.1 1 5 = nI q → KD T L q u → post u := fun u a b d e => by rw [← hpost]; exact ⟨fun y => absurd c0 y, fun _ => ⟨a, b, d, e⟩⟩
  -- letters
  have LL : q < L → isLt (T q) = true → ∀ e, e ≤ L → ∀ u : AH, FRc h u → u.1 1 2 = h.1 1 2 → u.1 1 5 = nI q → u.1 1 4 = 1 → u.1 1 6 = nI e → leN T L e = leN T L q → EX Z 1 (QV Z post) 97 u [some (.ref 1)] [] := by
    intro q1 q2
    refine ldown _ ?_ ?_
    · intro u f a b d e l
      refine sg_X2_step_97 hX ⟨fun _ => ok u f a b (Or.inr (Or.inl ⟨q1, q2, d, ?_⟩)), fun y => absurd (by rw [(hT.of f).2.1, e]; exact nI_le (Nat.le_refl _) (by omega)) y⟩
      rw [e, ← l, leN, sc_no (Or.inl (Nat.le_refl _))]
    · intro k hk ih u f a b d e l
      refine sg_X2_step_97 hX ⟨fun y => absurd y (by rw [(hT.of f).2.1, e]; exact nI_ge hk (by omega)), fun _ => ⟨_, c_X2_isLetter (hT.of f) (by omega) e, fun r v hv => ?_⟩⟩
      rw [hv.2]
      refine sg_X2_step_116 hX ⟨fun y => ok u f a b (Or.inr (Or.inl ⟨q1, q2, d, ?_⟩)), fun y u2 e2 => ?_⟩
      · rw [hv.1, bI_0] at y
        have : isLt (T k) = false := Bool.eq_false_iff.mpr (fun w => y ⟨hk, w⟩)
        rw [e, ← l, leN, sc_no (q := fun j => isLt (T j)) (Or.inr this)]
      · rw [hv.1, bI_n0] at y
        rw [e, nI_1] at e2
        exact ih u2 (f.set (by omega) e2) (by rw [e2, hs_i (by omega)]; exact a) (by rw [e2, hs_i (by omega)]; exact b) (by rw [e2, hs_i (by omega)]; exact d) (by rw [e2, hs_s]) (by rw [← l]; exact (sc_yes hk y.2).symm)
  -- figures
  have LF : q < L → isFg (T q) = true → ∀ e, e ≤ L → ∀ u : AH, q ≤ e → FRc h u → u.1 1 2 = h.1 1 2 → u.1 1 5 = nI q → u.1 1 4 = 2 → u.1 1 6 = nI e → feN T L e = feN T L q → u.1 1 7 = (if e - q ≤ 4 then nI (decN T q (e - q)) else 10000) → EX Z 1 (QV Z post) 153 u [some (.ref 1)] [] := by
    intro q1 q2
    refine ldown _ ?_ ?_
    · intro u hqe f a b d e l v7
      have el : feN T L q = L := by rw [← l, feN, sc_no (Or.inl (Nat.le_refl _))]
      refine sg_X2_step_153 hX ⟨fun _ => ok u f a b (Or.inr (Or.inr (Or.inl ⟨q1, q2, d, by rw [e, el], by rw [el]; exact v7⟩))), fun y => absurd (by rw [(hT.of f).2.1, e]; exact nI_le (Nat.le_refl _) (by omega)) y⟩
    · intro k hk ih u hqe f a b d e l v7
      refine sg_X2_step_153 hX ⟨fun y => absurd y (by rw [(hT.of f).2.1, e]; exact nI_ge hk (by omega)), fun _ => ⟨_, c_X2_isFigure (hT.of f) (by omega) e, fun r v hv => ?_⟩⟩
      rw [hv.2]
      refine sg_X2_step_172 hX ⟨fun y => ?_, fun y => ?_⟩
      · rw [hv.1, bI_0] at y
        have : isFg (T k) = false := Bool.eq_false_iff.mpr (fun w => y ⟨hk, w⟩)
        have el : feN T L q = k := by rw [← l, feN, sc_no (q := fun j => isFg (T j)) (Or.inr this)]
        exact ok u f a b (Or.inr (Or.inr (Or.inl ⟨q1, q2, d, by rw [e, el], by rw [el]; exact v7⟩)))
      · rw [hv.1, bI_n0] at y
        obtain ⟨bk, ek⟩ := (hT.of f).2.2 k hk
        have fk := of_decide_eq_true y.2
        have nk : (4 ≤ u.1 1 6 - u.1 1 5) ↔ 4 ≤ k - q := by rw [e, b, pk_sub hqe, k_4, nI_leI (by omega) (by omega)]
        refine ⟨fun _ => ⟨by rw [e]; exact vp_in_nI (by omega) (by omega), trivial⟩, fun v4 e4 u5 e5 u6 e6 => ?_⟩
        have g5 : u5.1 1 6 = nI k := by rw [e5, hs_i (by omega)]; exact e
        rw [g5, nI_1] at e6
        refine ih u6 (by omega) ((f.set (by omega) e5).set (by omega) e6) (by rw [e6, hs_i (by omega), e5, hs_i (by omega)]; exact a) (by rw [e6, hs_i (by omega), e5, hs_i (by omega)]; exact b) (by rw [e6, hs_i (by omega), e5, hs_i (by omega)]; exact d) (by rw [e6, hs_s]) (by rw [← l]; exact (sc_yes hk y.2).symm) ?_
        rw [e6, hs_i (by omega), e5, hs_s, e4]
        by_cases n4 : 4 ≤ k - q
        · rw [if_pos (nk.mpr n4), if_neg (by omega)]
        · rw [if_neg (fun w => n4 (nk.mp w)), if_pos (by omega), v7, if_pos (by omega), e, nI_clamp (by omega), ek, by_id _ (by omega), show (10 : Int32) = nI 10 from rfl, pk_mul, nI_add, show (48 : Int32) = nI 48 from rfl, pk_sub (by omega), show k + 1 - q = (k - q) + 1 by omega, decN, show q + (k - q) = k by omega]
          congr 1
          omega
  -- the token at q
  have TK : ∀ u2 : AH, q < L → FRc h u2 → u2.1 1 2 = h.1 1 2 → u2.1 1 5 = nI q → u2.1 1 6 = nI q → ∃ PP : Int32 → AH → Prop, CI yX2_isLetter cX2_isLetter 2 (some .boolean) 0 0 [.ref 1, .int (u2.1 1 5)] u2 PP ∧ ∀ (r : Int32) (u : AH), PP r u → EX Z 1 (QV Z post) 89 u [some (.ref 1)] (.int r :: []) := by
    intro u2 q1 f a b e
    refine ⟨_, c_X2_isLetter (hT.of f) (by omega) b, fun r v hv => ?_⟩
    rw [hv.2]
    refine sg_X2_step_89 hX ⟨fun y => ⟨_, c_X2_isFigure (hT.of f) (by omega) b, fun r3 v3 hv3 => ?_⟩, fun y => ?_⟩
    · rw [hv.1, bI_0] at y
      have nl : isLt (T q) = false := Bool.eq_false_iff.mpr (fun w => y ⟨q1, w⟩)
      rw [hv3.2]
      refine sg_X2_step_140 hX ⟨fun x u4 e4 u5 e5 => ?_, fun x u4 e4 => ?_⟩
      · rw [hv3.1, bI_0] at x
        have nf : isFg (T q) = false := Bool.eq_false_iff.mpr (fun w => x ⟨q1, w⟩)
        have g4 : u4.1 1 6 = nI q := by rw [e4, hs_i (by omega)]; exact e
        rw [g4, nI_1] at e5
        exact ok u5 ((f.set (by omega) e4).set (by omega) e5) (by rw [e5, hs_i (by omega), e4, hs_i (by omega)]; exact a) (by rw [e5, hs_i (by omega), e4, hs_i (by omega)]; exact b) (Or.inr (Or.inr (Or.inr ⟨q1, nl, nf, by rw [e5, hs_i (by omega), e4, hs_s], by rw [e5, hs_s]⟩)))
      · rw [hv3.1, bI_n0] at x
        refine LF q1 x.2 q (by omega) _ (Nat.le_refl _) ((f.set (by omega) e4).set (by omega) rfl) ?_ ?_ ?_ ?_ rfl ?_
        · rw [hs_i (by omega), e4, hs_i (by omega)]; exact a
        · rw [hs_i (by omega), e4, hs_i (by omega)]; exact b
        · rw [hs_i (by omega), e4, hs_s]
        · rw [hs_i (by omega), e4, hs_i (by omega)]; exact e
        · rw [hs_s, Nat.sub_self, if_pos (by omega)]; rfl
    · rw [hv.1, bI_n0] at y
      refine LL q1 y.2 q (by omega) _ (f.set (by omega) rfl) ?_ ?_ ?_ ?_ rfl
      · rw [hs_i (by omega)]; exact a
      · rw [hs_i (by omega)]; exact b
      · rw [hs_s]
      · rw [hs_i (by omega)]; exact e
  -- spaces
  have LS : ∀ s, s ≤ L → ∀ u : AH, FRc h u → u.1 1 2 = h.1 1 2 → u.1 1 5 = nI s → spN T L s = q → EX Z 1 (QV Z post) 16 u [some (.ref 1)] [] := by
    refine ldown _ ?_ ?_
    · intro u f a b l
      have el : q = L := by rw [← l, spN, sc_no (Or.inl (Nat.le_refl _))]
      refine sg_X2_step_16 hX ⟨fun _ u2 e2 => ⟨fun y => absurd y ?_, fun y u4 e4 => ?_⟩, fun y => absurd (by rw [(hT.of f).2.1, b]; exact nI_le (Nat.le_refl _) (by omega)) y⟩
      · rw [e2, hs_i (by omega), hs_i (by omega), (hT.of f).2.1, b]; exact nI_nlt (Nat.le_refl _) (by omega)
      · exact ok u4 ((f.set (by omega) e2).set (by omega) e4) (by rw [e4, hs_i (by omega), e2, hs_i (by omega)]; exact a) (by rw [e4, hs_i (by omega), e2, hs_i (by omega), b, el]) (Or.inl ⟨el, by rw [e4, hs_s], by rw [e4, hs_i (by omega), e2, hs_s, b, el]⟩)
    · intro s hs ih u f a b l
      obtain ⟨bk, ek⟩ := (hT.of f).2.2 s hs
      refine sg_X2_step_16 hX ⟨fun y => absurd y (by rw [(hT.of f).2.1, b]; exact nI_ge hs (by omega)), fun _ => ?_⟩
      rw [b, nI_clamp (by omega), ek, nI_1]
      refine ⟨vp_in_nI (by omega) (by omega), fun y u7 e7 => ?_, fun y u10 e10 => ?_⟩
      · have ns : ¬ T s = 32 := fun w => y ((by_32 _ bk).mpr w)
        have el : q = s := by rw [← l, spN, sc_no (Or.inr (decide_eq_false ns))]
        have g5 : u7.1 1 5 = nI q := by rw [e7, hs_i (by omega), b, el]
        refine ⟨fun x => TK u7 (by omega) (f.set (by omega) e7) (by rw [e7, hs_i (by omega)]; exact a) g5 (by rw [e7, hs_s, el]), fun x => absurd ?_ x⟩
        rw [g5, e7, hs_i (by omega), (hT.of f).2.1]; exact nI_lt (by omega) (by omega)
      · have ns : T s = 32 := (by_32 _ bk).mp y
        exact ih u10 (f.set (by omega) e10) (by rw [e10, hs_i (by omega)]; exact a) (by rw [e10, hs_s]) (by rw [← l]; exact (sc_yes hs (decide_eq_true ns)).symm)
  refine LS c.2.2 cp _ (FRc.rf.set (by omega) rfl) ?_ ?_ hq0
  · rw [hs_i (by omega)]
  · rw [hs_s]; exact e6

theorem lt_fg {b : Nat} (h : isLt b = true) : isFg b = false := by
  have := of_decide_eq_true h
  exact decide_eq_false (by omega)
theorem KD_b {T : Nat → Nat} {L q : Nat} {u : AH} (hq : q ≤ L) (h : KD T L q u) : ∃ b, b ≤ L ∧ u.1 1 6 = nI b := by
  rcases h with ⟨-, -, a⟩ | ⟨a, -, -, b⟩ | ⟨a, -, -, b, -⟩ | ⟨a, -, -, -, b⟩
  · exact ⟨q, hq, a⟩
  · exact ⟨_, (sc_le hq).2, b⟩
  · exact ⟨_, (sc_le hq).2, b⟩
  · exact ⟨q + 1, a, b⟩
theorem KD_CR {T : Nat → Nat} {L q : Nat} {h u : AH} {c : Cur} (hC : CR L h c) (c0 : c.1 = 0) (hq : q ≤ L) (e2 : u.1 1 2 = h.1 1 2) (hk : KD T L q u) : ∃ b, CR L u (0, 0, b) := by
  obtain ⟨b, h1, h2⟩ := KD_b hq hk
  exact ⟨b, by rw [e2, hC.1, c0], Nat.zero_le _, fun z => absurd rfl z, fun _ => ⟨h1, h2⟩⟩

set_option maxRecDepth 100000 in
set_option maxHeartbeats 4000000 in
theorem c_X2_takeNumber {h : AH} {a1 : Int32} {a2 : Int32}  {T : Nat → Nat} {L lo hi : Nat} {c : Cur} (hT : TXc T L h) (hC : CR L h c) (hlo : lo ≤ 1) (hhi : hi ≤ 9999) (e1 : a1 = nI lo) (e2 : a2 = nI hi) : CI yX2_takeNumber cX2_takeNumber 3 (some .int) 2 41 [.ref 1, .int a1, .int a2] h (fun r u => FRc h u ∧ CR L u (numC T L lo hi c).1 ∧ ((numC T L lo hi c).1.1 = 0 → r = nI (numC T L lo hi c).2.1 ∧ u.1 1 5 = nI (numC T L lo hi c).2.2 ∧ (numC T L lo hi c).2.2 ≤ L)) := by
  refine CI.of [some (.ref 1), some (.int a1), some (.int a2)] (by decide +kernel) rfl (Nat.le_of_ble_eq_true rfl) rfl (fun Z hX => ?_)
  subst e1 e2
  have hL := hT.1
  refine sg_X2_takeNumber_0 hX ⟨_, c_X2_step hT hC, fun u hu => ?_⟩
  by_cases c0 : c.1 = 0
  · obtain ⟨f, a, b, k⟩ := hu.2 c0
    have en : numC T L lo hi c = numQ T L lo hi (spN T L c.2.2) := by rw [numC, if_pos c0]
    rw [en]
    have hq := (sc_le (q := fun j => decide (T j = 32)) (hC.2.2.2 c0).1).2
    have hqd : scN (fun j => decide (T j = 32)) L c.2.2 = spN T L c.2.2 := rfl
    rw [hqd] at hq
    generalize spN T L c.2.2 = q at *
    obtain ⟨bb, hCu⟩ := KD_CR hC c0 hq a k
    have FI : ∀ n, 1 ≤ n ∧ n ≤ 4 → ∃ PP : AH → Prop, CV yX2_find cX2_find 2 0 0 [.ref 1, .int (nI n)] u PP ∧ ∀ v, PP v → FRc h v ∧ CR L v (n, q, 0) := fun n hn => ⟨_, c_X2_find hCu hn hq (fun _ => b) rfl, fun v hv => ⟨f.tr hv.1, hv.2.2.2⟩⟩
    have bad : ¬ (q < L ∧ isFg (T q) = true) → ¬ u.1 1 4 = 2 → EX Z 3 (QI Z (fun r u => FRc h u ∧ CR L u (numQ T L lo hi q).1 ∧ ((numQ T L lo hi q).1.1 = 0 → r = nI (numQ T L lo hi q).2.1 ∧ u.1 1 5 = nI (numQ T L lo hi q).2.2 ∧ (numQ T L lo hi q).2.2 ≤ L))) 4 u [some (.ref 1), some (.int (nI lo)), some (.int (nI hi))] [] := by
      intro n1 n2
      rw [numQ, if_neg n1]
      obtain ⟨PP, g1, g2⟩ := FI 1 (by omega)
      exact sg_X2_takeNumber_4 hX ⟨fun z => absurd z n2, fun _ => ⟨PP, g1, fun v hv => sg_X2_takeNumber_17 hX ⟨(g2 v hv).1, (g2 v hv).2, fun z => absurd z (by show ¬ (1 : Nat) = 0; omega)⟩⟩⟩
    rcases k with ⟨k1, k2, k3⟩ | ⟨k1, k2, k3, k4⟩ | ⟨k1, k2, k3, k4, k5⟩ | ⟨k1, k2, k3, k4, k5⟩
    · exact bad (fun z => absurd z.1 (by omega)) (by rw [k2]; decide)
    · exact bad (fun z => by rw [lt_fg k2] at z; exact absurd z.2 (by decide)) (by rw [k3]; decide)
    · rw [numQ, if_pos ⟨k1, k2⟩]
      obtain ⟨PP, g1, g2⟩ := FI 2 (by omega)
      by_cases d : feN T L q - q ≤ 4 ∧ lo ≤ decN T q (feN T L q - q) ∧ decN T q (feN T L q - q) ≤ hi
      · rw [if_pos d]
        rw [if_pos d.1] at k5
        refine sg_X2_takeNumber_4 hX ⟨fun _ => ?_, fun z => absurd k3 z⟩
        rw [k5]
        refine ⟨fun z => absurd z (nI_nlt d.2.1 (by omega)), fun _ => ⟨fun _ => ⟨f, ⟨by rw [a, hC.1, c0], Nat.zero_le _, fun z => absurd rfl z, fun _ => ⟨(sc_le hq).2, k4⟩⟩, fun _ => ⟨rfl, b, hq⟩⟩, fun z => absurd (nI_le d.2.2 (by omega)) z⟩⟩
      · rw [if_neg d]
        have fin : ∀ v, PP v → EX Z 3 (QI Z (fun r u => FRc h u ∧ CR L u ((2, q, 0) : Cur) ∧ (((2, q, 0) : Cur).1 = 0 → r = nI 0 ∧ u.1 1 5 = nI q ∧ q ≤ L))) 41 v [some (.ref 1), none, none] [] := fun v hv => sg_X2_takeNumber_41 hX ⟨(g2 v hv).1, (g2 v hv).2, fun z => absurd z (by show ¬ (2 : Nat) = 0; omega)⟩
        refine sg_X2_takeNumber_4 hX ⟨fun _ => ⟨fun z => ⟨PP, g1, fin⟩, fun z => ⟨fun y => ?_, fun y => ⟨PP, g1, fin⟩⟩⟩, fun z => absurd k3 z⟩
        exfalso
        by_cases n4 : feN T L q - q ≤ 4
        · rw [if_pos n4] at k5
          have dl := dec_lt (T := T) (q := q) (feN T L q - q) (fun j hj => sc_in (q := fun j => isFg (T j)) (L := L) (p := q) (t := q + j) (by omega) (by have : scN (fun j => isFg (T j)) L q = feN T L q := rfl; omega))
          have d4 : (10 : Nat) ^ (feN T L q - q) ≤ 10 ^ 4 := Nat.pow_le_pow_right (by decide) n4
          rw [k5, nI_ltI (by omega) (by omega)] at z
          rw [k5, nI_leI (by omega) (by omega)] at y
          exact d ⟨n4, by omega, y⟩
        · rw [if_neg n4] at k5
          rw [k5, show (10000 : Int32) = nI 10000 from rfl, nI_leI (by omega) (by omega)] at y
          omega
    · exact bad (fun z => by rw [k3] at z; exact absurd z.2 (by decide)) (by rw [k4]; decide)
  · have eu := hu.1 c0
    subst eu
    have en : numC T L lo hi c = (c, 0, 0) := by rw [numC, if_neg c0]
    rw [en]
    have FI : ∀ n, 1 ≤ n ∧ n ≤ 4 → ∃ PP : AH → Prop, CV yX2_find cX2_find 2 0 0 [.ref 1, .int (nI n)] u PP ∧ ∀ v, PP v → FRc u v ∧ CR L v c := fun n hn => ⟨_, c_X2_find (q := 0) hC hn (Nat.zero_le _) (fun z => absurd z c0) rfl, fun v hv => ⟨hv.1, by have := hv.2.2.2; rw [findC, if_neg c0] at this; exact this⟩⟩
    obtain ⟨P1, g1, g2⟩ := FI 1 (by omega)
    obtain ⟨P2, h1, h2⟩ := FI 2 (by omega)
    refine sg_X2_takeNumber_4 hX ⟨fun _ => ⟨fun _ => ⟨P2, h1, fun v hv => sg_X2_takeNumber_41 hX ⟨(h2 v hv).1, (h2 v hv).2, fun z => absurd z c0⟩⟩, fun _ => ⟨fun _ => ⟨FRc.rf, hC, fun z => absurd z c0⟩, fun _ => ⟨P2, h1, fun v hv => sg_X2_takeNumber_41 hX ⟨(h2 v hv).1, (h2 v hv).2, fun z => absurd z c0⟩⟩⟩⟩, fun _ => ⟨P1, g1, fun v hv => sg_X2_takeNumber_17 hX ⟨(g2 v hv).1, (g2 v hv).2, fun z => absurd z c0⟩⟩⟩

set_option maxRecDepth 100000 in
set_option maxHeartbeats 4000000 in
theorem c_X2_takeSign {h : AH} {a1 : Int32}  {T : Nat → Nat} {L ch : Nat} {c : Cur} (hT : TXc T L h) (hC : CR L h c) (hc : ch = 59 ∨ ch = 44) (e1 : a1 = nI ch) : CV yX2_takeSign cX2_takeSign 2 2 41 [.ref 1, .int a1] h (fun u => FRc h u ∧ CR L u (signC T L ch c)) := by
  refine CV.of [some (.ref 1), some (.int a1)] (by decide +kernel) rfl (Nat.le_of_ble_eq_true rfl) rfl (fun Z hX => ?_)
  subst e1
  have hL := hT.1
  refine sg_X2_takeSign_0 hX ⟨_, c_X2_step hT hC, fun u hu => ?_⟩
  by_cases c0 : c.1 = 0
  · obtain ⟨f, a, b, k⟩ := hu.2 c0
    have en : signC T L ch c = signQ T L ch (spN T L c.2.2) := by rw [signC, if_pos c0]
    rw [en]
    have hq := (sc_le (q := fun j => decide (T j = 32)) (hC.2.2.2 c0).1).2
    have hqd : scN (fun j => decide (T j = 32)) L c.2.2 = spN T L c.2.2 := rfl
    rw [hqd] at hq
    generalize spN T L c.2.2 = q at *
    obtain ⟨bb, hCu⟩ := KD_CR hC c0 hq a k
    refine sg_X2_takeSign_4 hX ⟨_, c_X2_isSign (hT.of f) hq b hc rfl, fun r v hv => ?_⟩
    rw [hv.2]
    have key : (u.1 1 4 = 3 ∧ q < L ∧ T q = ch) ↔ (q < L ∧ T q = ch) := by
      refine ⟨fun z => z.2, fun z => ⟨?_, z⟩⟩
      have n1 : isLt (T q) = false := by rw [z.2]; rcases hc with rfl | rfl <;> decide
      have n2 : isFg (T q) = false := by rw [z.2]; rcases hc with rfl | rfl <;> decide
      rcases k with ⟨k1, -, -⟩ | ⟨k1, k2, -, -⟩ | ⟨k1, k2, -, -, -⟩ | ⟨-, -, -, k4, -⟩
      · omega
      · rw [n1] at k2; cases k2
      · rw [n2] at k2; cases k2
      · exact k4
    refine sg_X2_takeSign_9 hX ⟨fun z => ?_, fun z => ⟨_, c_X2_find (n := 1) hCu (by omega) hq (fun _ => b) rfl, fun w hw => sg_X2_takeSign_17 hX ?_⟩⟩
    · rw [hv.1, bI_n0, key] at z
      rw [signQ, if_pos z]
      refine ⟨f, by rw [a, hC.1, c0], Nat.zero_le _, fun y => absurd rfl y, fun _ => ⟨z.1, ?_⟩⟩
      have z4 := (key.mpr z).1
      rcases k with ⟨-, k2, -⟩ | ⟨-, -, k3, -⟩ | ⟨-, -, k3, -, -⟩ | ⟨-, -, -, -, k5⟩
      · rw [k2] at z4; exact absurd z4 (by decide)
      · rw [k3] at z4; exact absurd z4 (by decide)
      · rw [k3] at z4; exact absurd z4 (by decide)
      · exact k5
    · rw [hv.1, bI_0, key] at z
      rw [signQ, if_neg z]
      exact ⟨f.tr hw.1, hw.2.2.2⟩
  · have eu := hu.1 c0
    subst eu
    have en : signC T L ch c = c := by rw [signC, if_neg c0]
    rw [en]
    obtain ⟨q1, q2, q3⟩ := hC.2.2.1 c0
    refine sg_X2_takeSign_4 hX ⟨_, c_X2_isSign hT q1 q3 hc rfl, fun r v hv => ?_⟩
    rw [hv.2]
    exact sg_X2_takeSign_9 hX ⟨fun _ => ⟨FRc.rf, hC⟩, fun _ => ⟨_, c_X2_find (n := 1) (q := 0) hC (by omega) (Nat.zero_le _) (fun z => absurd z c0) rfl, fun w hw => sg_X2_takeSign_17 hX ⟨hw.1, by have := hw.2.2.2; rw [findC, if_neg c0] at this; exact this⟩⟩⟩
