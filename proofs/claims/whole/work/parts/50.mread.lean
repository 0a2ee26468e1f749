set_option maxRecDepth 100000 in
set_option maxHeartbeats 4000000 in
theorem sg_X7_here_0 {Z : CX × GX} {post : Int32 → AH → Prop} {h : AH}  (hX : OK Z RX7 cX7_here 1 (some .int) 0 0) 
    (w : (((h.1 94 17) ≤ (h.1 94 18) → (((h.1 94 17) ≤ (h.1 94 18) → post (-1) h) ∧ (¬ (h.1 94 17) ≤ (h.1 94 18) → (vp_in (h.1 94 18) 400) ∧ (∀ v4 : Int32, v4 = h.1 107 (Int32.toNatClampNeg (h.1 94 18)) → post v4 h)))) ∧ (¬ (h.1 94 17) ≤ (h.1 94 18) → (vp_in (h.1 94 18) 400) ∧ (∀ v6 : Int32, v6 = h.1 107 (Int32.toNatClampNeg (h.1 94 18)) → ((¬ v6 = 32 → (((h.1 94 17) ≤ (h.1 94 18) → post (-1) h) ∧ (¬ (h.1 94 17) ≤ (h.1 94 18) → (vp_in (h.1 94 18) 400) ∧ (∀ v10 : Int32, v10 = h.1 107 (Int32.toNatClampNeg (h.1 94 18)) → post v10 h)))) ∧ (v6 = 32 → (∀ u11 : AH, u11 = (hset h.1 94 18 ((h.1 94 18) + 1), h.2) → EX Z 1 (QI Z post) 0 u11 [some (.ref 94)] [])))))))
    : EX Z 1 (QI Z post) 0 h [some (.ref 94)] [] := by
  refine ex_aload_n hX dX7_here_0 rfl rfl ?_
  refine ex_get hX (.int (h.1 94 18)) FL_7_82 rfl (fun _ => rfl) dX7_here_1 ?_
  refine ex_aload_n hX dX7_here_4 rfl rfl ?_
  refine ex_get hX (.int (h.1 94 17)) FL_7_76 rfl (fun _ => rfl) dX7_here_5 ?_
  refine ex_icmpge hX 38 dX7_here_8 (by decide) (fun c1 => ?_) (fun c1 => ?_)
  · replace w := w.1 c1
    refine ex_aload_n hX dX7_here_38 rfl rfl ?_
    refine ex_get hX (.int (h.1 94 18)) FL_7_82 rfl (fun _ => rfl) dX7_here_39 ?_
    refine ex_aload_n hX dX7_here_42 rfl rfl ?_
    refine ex_get hX (.int (h.1 94 17)) FL_7_76 rfl (fun _ => rfl) dX7_here_43 ?_
    refine ex_icmpge hX 61 dX7_here_46 (by decide) (fun c2 => ?_) (fun c2 => ?_)
    · replace w := w.1 c2
      refine ex_iconst (v := (-1)) hX dX7_here_61 rfl ?_
      exact ex_iret hX dX7_here_62 rfl w
    · replace w := w.2 c2
      refine ex_aload_n hX dX7_here_49 rfl rfl ?_
      refine ex_get hX (.ref 107) FL_7_47 rfl (fun _ => rfl) dX7_here_50 ?_
      refine ex_aload_n hX dX7_here_53 rfl rfl ?_
      refine ex_get hX (.int (h.1 94 18)) FL_7_82 rfl (fun _ => rfl) dX7_here_54 ?_
      obtain ⟨q3, w⟩ := w
      refine ex_iald hX rfl q3 dX7_here_57 ?_
      refine ex_nameI (fun v4 ev4 => ?_)
      replace w := w v4 ev4
      refine ex_goto hX 62 dX7_here_58 (by decide) ?_
      exact ex_iret hX dX7_here_62 rfl w
  · replace w := w.2 c1
    refine ex_aload_n hX dX7_here_11 rfl rfl ?_
    refine ex_get hX (.ref 107) FL_7_47 rfl (fun _ => rfl) dX7_here_12 ?_
    refine ex_aload_n hX dX7_here_15 rfl rfl ?_
    refine ex_get hX (.int (h.1 94 18)) FL_7_82 rfl (fun _ => rfl) dX7_here_16 ?_
    obtain ⟨q5, w⟩ := w
    refine ex_iald hX rfl q5 dX7_here_19 ?_
    refine ex_nameI (fun v6 ev6 => ?_)
    replace w := w v6 ev6
    refine ex_bipush (v := 32) hX dX7_here_20 rfl ?_
    refine ex_icmpne hX 38 dX7_here_22 (by decide) (fun c7 => ?_) (fun c7 => ?_)
    · replace w := w.1 c7
      refine ex_aload_n hX dX7_here_38 rfl rfl ?_
      refine ex_get hX (.int (h.1 94 18)) FL_7_82 rfl (fun _ => rfl) dX7_here_39 ?_
      refine ex_aload_n hX dX7_here_42 rfl rfl ?_
      refine ex_get hX (.int (h.1 94 17)) FL_7_76 rfl (fun _ => rfl) dX7_here_43 ?_
      refine ex_icmpge hX 61 dX7_here_46 (by decide) (fun c8 => ?_) (fun c8 => ?_)
      · replace w := w.1 c8
        refine ex_iconst (v := (-1)) hX dX7_here_61 rfl ?_
        exact ex_iret hX dX7_here_62 rfl w
      · replace w := w.2 c8
        refine ex_aload_n hX dX7_here_49 rfl rfl ?_
        refine ex_get hX (.ref 107) FL_7_47 rfl (fun _ => rfl) dX7_here_50 ?_
        refine ex_aload_n hX dX7_here_53 rfl rfl ?_
        refine ex_get hX (.int (h.1 94 18)) FL_7_82 rfl (fun _ => rfl) dX7_here_54 ?_
        obtain ⟨q9, w⟩ := w
        refine ex_iald hX rfl q9 dX7_here_57 ?_
        refine ex_nameI (fun v10 ev10 => ?_)
        replace w := w v10 ev10
        refine ex_goto hX 62 dX7_here_58 (by decide) ?_
        exact ex_iret hX dX7_here_62 rfl w
    · replace w := w.2 c7
      refine ex_aload_n hX dX7_here_25 rfl rfl ?_
      refine ex_dup hX dX7_here_26 rfl ?_
      refine ex_get hX (.int (h.1 94 18)) FL_7_82 rfl (fun _ => rfl) dX7_here_27 ?_
      refine ex_iconst (v := 1) hX dX7_here_30 rfl ?_
      refine ex_iadd hX dX7_here_31 ?_
      refine ex_put hX .int FL_7_82 tyX7 tyX7_ok nmX7 rfl rfl rfl rfl rfl (fun _ => (by decide : 18 < 33)) (fun _ => fs_7_18) dX7_here_32 ?_
      refine ex_nameH (fun u11 eu11 => ?_)
      replace w := w u11 eu11
      refine ex_goto hX 0 dX7_here_35 (by decide) ?_
      exact w

set_option maxRecDepth 100000 in
set_option maxHeartbeats 4000000 in
theorem sg_X7_want_0 {Z : CX × GX} {post : Int32 → AH → Prop} {h : AH} {x1 : Int32} {x2 : Int32} {x3 : Int32} (hX : OK Z RX7 cX7_want 4 (some .boolean) 0 0) 
    (w : ((¬ x1 = 0 → ((¬ (h.1 94 21) = 0 → post 0 h) ∧ ((h.1 94 21) = 0 → post 1 h))) ∧ (x1 = 0 → ((¬ (h.1 94 21) = 0 → ((¬ (h.1 94 21) = 0 → post 0 h) ∧ ((h.1 94 21) = 0 → post 1 h))) ∧ ((h.1 94 21) = 0 → (∀ u5 : AH, u5 = (hset h.1 94 21 x2, h.2) → (∀ u6 : AH, u6 = (hset u5.1 94 22 x3, u5.2) → ((¬ (u6.1 94 21) = 0 → post 0 u6) ∧ ((u6.1 94 21) = 0 → post 1 u6)))))))))
    : EX Z 4 (QI Z post) 0 h [some (.ref 94), some (.int x1), some (.int x2), some (.int x3)] [] := by
  refine ex_iload_n hX dX7_want_0 rfl rfl ?_
  refine ex_ifne hX 21 dX7_want_1 (by decide) (fun c1 => ?_) (fun c1 => ?_)
  · replace w := w.1 c1
    refine ex_aload_n hX dX7_want_21 rfl rfl ?_
    refine ex_get hX (.int (h.1 94 21)) FL_7_85 rfl (fun _ => rfl) dX7_want_22 ?_
    refine ex_ifne hX 32 dX7_want_25 (by decide) (fun c2 => ?_) (fun c2 => ?_)
    · replace w := w.1 c2
      refine ex_iconst (v := 0) hX dX7_want_32 rfl ?_
      exact ex_iret hX dX7_want_33 rfl w
    · replace w := w.2 c2
      refine ex_iconst (v := 1) hX dX7_want_28 rfl ?_
      refine ex_goto hX 33 dX7_want_29 (by decide) ?_
      exact ex_iret hX dX7_want_33 rfl w
  · replace w := w.2 c1
    refine ex_aload_n hX dX7_want_4 rfl rfl ?_
    refine ex_get hX (.int (h.1 94 21)) FL_7_85 rfl (fun _ => rfl) dX7_want_5 ?_
    refine ex_ifne hX 21 dX7_want_8 (by decide) (fun c3 => ?_) (fun c3 => ?_)
    · replace w := w.1 c3
      refine ex_aload_n hX dX7_want_21 rfl rfl ?_
      refine ex_get hX (.int (h.1 94 21)) FL_7_85 rfl (fun _ => rfl) dX7_want_22 ?_
      refine ex_ifne hX 32 dX7_want_25 (by decide) (fun c4 => ?_) (fun c4 => ?_)
      · replace w := w.1 c4
        refine ex_iconst (v := 0) hX dX7_want_32 rfl ?_
        exact ex_iret hX dX7_want_33 rfl w
      · replace w := w.2 c4
        refine ex_iconst (v := 1) hX dX7_want_28 rfl ?_
        refine ex_goto hX 33 dX7_want_29 (by decide) ?_
        exact ex_iret hX dX7_want_33 rfl w
    · replace w := w.2 c3
      refine ex_aload_n hX dX7_want_11 rfl rfl ?_
      refine ex_iload_n hX dX7_want_12 rfl rfl ?_
      refine ex_put hX .int FL_7_85 tyX7 tyX7_ok nmX7 rfl rfl rfl rfl rfl (fun _ => (by decide : 21 < 33)) (fun _ => fs_7_21) dX7_want_13 ?_
      refine ex_nameH (fun u5 eu5 => ?_)
      replace w := w u5 eu5
      refine ex_aload_n hX dX7_want_16 rfl rfl ?_
      refine ex_iload_n hX dX7_want_17 rfl rfl ?_
      refine ex_put hX .int FL_7_50 tyX7 tyX7_ok nmX7 rfl rfl rfl rfl rfl (fun _ => (by decide : 22 < 33)) (fun _ => fs_7_22) dX7_want_18 ?_
      refine ex_nameH (fun u6 eu6 => ?_)
      replace w := w u6 eu6
      refine ex_aload_n hX dX7_want_21 rfl rfl ?_
      refine ex_get hX (.int (u6.1 94 21)) FL_7_85 rfl (fun _ => rfl) dX7_want_22 ?_
      refine ex_ifne hX 32 dX7_want_25 (by decide) (fun c7 => ?_) (fun c7 => ?_)
      · replace w := w.1 c7
        refine ex_iconst (v := 0) hX dX7_want_32 rfl ?_
        exact ex_iret hX dX7_want_33 rfl w
      · replace w := w.2 c7
        refine ex_iconst (v := 1) hX dX7_want_28 rfl ?_
        refine ex_goto hX 33 dX7_want_29 (by decide) ?_
        exact ex_iret hX dX7_want_33 rfl w

set_option maxRecDepth 100000 in
set_option maxHeartbeats 4000000 in
theorem sg_X7_takeWord_0 {Z : CX × GX} {post : AH → Prop} {h : AH}  (hX : OK Z RX7 cX7_takeWord 2 none 1 25) 
    (w : (∃ PP : Int32 → AH → Prop, CI yX7_here cX7_here 1 (some .int) 0 0 [.ref 94] h PP ∧ ∀ (r : Int32) (u : AH), PP r u → EX Z 2 (QV Z post) 4 u [some (.ref 94), none] (.int r :: [])))
    : EX Z 2 (QV Z post) 0 h [some (.ref 94), none] [] := by
  refine ex_aload_n hX dX7_takeWord_0 rfl rfl ?_
  obtain ⟨PP, pM, pK⟩ := w
  exact ex_callIv (ci := 7) (i := 94) (As := []) (st := []) hX pM CS_7_88 MS_X7_here rfl rfl rfl (by decide) rfl (Nat.le_of_ble_eq_true rfl) dX7_takeWord_1 (fun r u hp => pK r u hp)

set_option maxRecDepth 100000 in
set_option maxHeartbeats 4000000 in
theorem sg_X7_takeWord_4 {Z : CX × GX} {post : AH → Prop} {h : AH} {s0 : Int32} (hX : OK Z RX7 cX7_takeWord 2 none 1 25) 
    (w : EX Z 2 (QV Z post) 13 (hset h.1 94 19 (h.1 94 18), h.2) [some (.ref 94), none] [])
    : EX Z 2 (QV Z post) 4 h [some (.ref 94), none] [.int s0] := by
  refine ex_istore_n (lv' := [some (.ref 94), some (.int s0)]) hX dX7_takeWord_4 rfl (by decide) rfl ?_
  refine ex_aload_n hX dX7_takeWord_5 rfl rfl ?_
  refine ex_aload_n hX dX7_takeWord_6 rfl rfl ?_
  refine ex_get hX (.int (h.1 94 18)) FL_7_82 rfl (fun _ => rfl) dX7_takeWord_7 ?_
  refine ex_put hX .int FL_7_92 tyX7 tyX7_ok nmX7 rfl rfl rfl rfl rfl (fun _ => (by decide : 19 < 33)) (fun _ => fs_7_19) dX7_takeWord_10 ?_
  exact ex_forget [some (.ref 94), none] ⟨rfl, trivial⟩ w

set_option maxRecDepth 100000 in
set_option maxHeartbeats 4000000 in
theorem sg_X7_takeWord_13 {Z : CX × GX} {post : AH → Prop} {h : AH}  (hX : OK Z RX7 cX7_takeWord 2 none 1 25) 
    (w : (((h.1 94 17) ≤ (h.1 94 18) → (∀ u2 : AH, u2 = (hset h.1 94 20 ((h.1 94 18) - (h.1 94 19)), h.2) → post u2)) ∧ (¬ (h.1 94 17) ≤ (h.1 94 18) → (vp_in (h.1 94 18) 400) ∧ (∀ v4 : Int32, v4 = h.1 107 (Int32.toNatClampNeg (h.1 94 18)) → ((¬ (97 ≤ (Int32.toInt64 v4) ∧ (Int32.toInt64 v4) ≤ 122) → (∀ u6 : AH, u6 = (hset h.1 94 20 ((h.1 94 18) - (h.1 94 19)), h.2) → post u6)) ∧ ((97 ≤ (Int32.toInt64 v4) ∧ (Int32.toInt64 v4) ≤ 122) → (∀ u7 : AH, u7 = (hset h.1 94 18 ((h.1 94 18) + 1), h.2) → EX Z 2 (QV Z post) 13 u7 [some (.ref 94), none] [])))))))
    : EX Z 2 (QV Z post) 13 h [some (.ref 94), none] [] := by
  refine ex_aload_n hX dX7_takeWord_13 rfl rfl ?_
  refine ex_get hX (.int (h.1 94 18)) FL_7_82 rfl (fun _ => rfl) dX7_takeWord_14 ?_
  refine ex_aload_n hX dX7_takeWord_17 rfl rfl ?_
  refine ex_get hX (.int (h.1 94 17)) FL_7_76 rfl (fun _ => rfl) dX7_takeWord_18 ?_
  refine ex_icmpge hX 59 dX7_takeWord_21 (by decide) (fun c1 => ?_) (fun c1 => ?_)
  · replace w := w.1 c1
    refine ex_aload_n hX dX7_takeWord_59 rfl rfl ?_
    refine ex_aload_n hX dX7_takeWord_60 rfl rfl ?_
    refine ex_get hX (.int (h.1 94 18)) FL_7_82 rfl (fun _ => rfl) dX7_takeWord_61 ?_
    refine ex_aload_n hX dX7_takeWord_64 rfl rfl ?_
    refine ex_get hX (.int (h.1 94 19)) FL_7_92 rfl (fun _ => rfl) dX7_takeWord_65 ?_
    refine ex_isub hX dX7_takeWord_68 ?_
    refine ex_put hX .int FL_7_99 tyX7 tyX7_ok nmX7 rfl rfl rfl rfl rfl (fun _ => (by decide : 20 < 33)) (fun _ => fs_7_20) dX7_takeWord_69 ?_
    refine ex_nameH (fun u2 eu2 => ?_)
    replace w := w u2 eu2
    exact ex_vret hX dX7_takeWord_72 w
  · replace w := w.2 c1
    refine ex_aload_n hX dX7_takeWord_24 rfl rfl ?_
    refine ex_get hX (.ref 107) FL_7_47 rfl (fun _ => rfl) dX7_takeWord_25 ?_
    refine ex_aload_n hX dX7_takeWord_28 rfl rfl ?_
    refine ex_get hX (.int (h.1 94 18)) FL_7_82 rfl (fun _ => rfl) dX7_takeWord_29 ?_
    obtain ⟨q3, w⟩ := w
    refine ex_iald hX rfl q3 dX7_takeWord_32 ?_
    refine ex_nameI (fun v4 ev4 => ?_)
    replace w := w v4 ev4
    refine ex_i2l hX dX7_takeWord_33 ?_
    refine ex_ldc2 hX dX7_takeWord_34 KL_7_95 ?_
    refine ex_ldc2 hX dX7_takeWord_37 KL_7_97 ?_
    refine ex_pIs (As := [.long (Int32.toInt64 v4), .long 97, .long 122]) (st := []) hX (c_X7_in (h := h)) CS_7_71 MS_X7_in rfl (by decide) rfl (Nat.le_of_ble_eq_true rfl) dX7_takeWord_40 ?_
    refine ex_ifeqB hX 59 dX7_takeWord_43 (by decide) (fun c5 => ?_) (fun c5 => ?_)
    · replace w := w.1 c5
      refine ex_aload_n hX dX7_takeWord_59 rfl rfl ?_
      refine ex_aload_n hX dX7_takeWord_60 rfl rfl ?_
      refine ex_get hX (.int (h.1 94 18)) FL_7_82 rfl (fun _ => rfl) dX7_takeWord_61 ?_
      refine ex_aload_n hX dX7_takeWord_64 rfl rfl ?_
      refine ex_get hX (.int (h.1 94 19)) FL_7_92 rfl (fun _ => rfl) dX7_takeWord_65 ?_
      refine ex_isub hX dX7_takeWord_68 ?_
      refine ex_put hX .int FL_7_99 tyX7 tyX7_ok nmX7 rfl rfl rfl rfl rfl (fun _ => (by decide : 20 < 33)) (fun _ => fs_7_20) dX7_takeWord_69 ?_
      refine ex_nameH (fun u6 eu6 => ?_)
      replace w := w u6 eu6
      exact ex_vret hX dX7_takeWord_72 w
    · replace w := w.2 c5
      refine ex_aload_n hX dX7_takeWord_46 rfl rfl ?_
      refine ex_dup hX dX7_takeWord_47 rfl ?_
      refine ex_get hX (.int (h.1 94 18)) FL_7_82 rfl (fun _ => rfl) dX7_takeWord_48 ?_
      refine ex_iconst (v := 1) hX dX7_takeWord_51 rfl ?_
      refine ex_iadd hX dX7_takeWord_52 ?_
      refine ex_put hX .int FL_7_82 tyX7 tyX7_ok nmX7 rfl rfl rfl rfl rfl (fun _ => (by decide : 18 < 33)) (fun _ => fs_7_18) dX7_takeWord_53 ?_
      refine ex_nameH (fun u7 eu7 => ?_)
      replace w := w u7 eu7
      refine ex_goto hX 13 dX7_takeWord_56 (by decide) ?_
      exact w

set_option maxRecDepth 100000 in
set_option maxHeartbeats 4000000 in
theorem sg_X7_isWord_0 {Z : CX × GX} {post : Int32 → AH → Prop} {h : AH} {x1 : Int32} {x2 : Int32} {x3 : Int32} {x4 : Int32} {x5 : Int32} (hX : OK Z RX7 cX7_isWord 8 (some .boolean) 0 0) 
    (w : EX Z 8 (QI Z post) 18 h [some (.ref 94), some (.int x1), some (.int x2), some (.int x3), some (.int x4), some (.int x5), some (.int (bI ((h.1 94 20) = x1))), some (.int 0)] [])
    : EX Z 8 (QI Z post) 0 h [some (.ref 94), some (.int x1), some (.int x2), some (.int x3), some (.int x4), some (.int x5), none, none] [] := by
  refine ex_aload_n hX dX7_isWord_0 rfl rfl ?_
  refine ex_get hX (.int (h.1 94 20)) FL_7_99 rfl (fun _ => rfl) dX7_isWord_1 ?_
  refine ex_iload_n hX dX7_isWord_4 rfl rfl ?_
  have kc1 : EX Z 8 (QI Z post) 13 h [some (.ref 94), some (.int x1), some (.int x2), some (.int x3), some (.int x4), some (.int x5), none, none] [.int (bI ((h.1 94 20) = x1))] := by
    refine ex_istore (lv' := [some (.ref 94), some (.int x1), some (.int x2), some (.int x3), some (.int x4), some (.int x5), some (.int (bI ((h.1 94 20) = x1))), none]) hX dX7_isWord_13 (by decide) rfl ?_
    refine ex_iconst (v := 0) hX dX7_isWord_15 rfl ?_
    refine ex_istore (lv' := [some (.ref 94), some (.int x1), some (.int x2), some (.int x3), some (.int x4), some (.int x5), some (.int (bI ((h.1 94 20) = x1))), some (.int 0)]) hX dX7_isWord_16 (by decide) rfl ?_
    exact w
  refine ex_icmpne hX 12 dX7_isWord_5 (by decide) (fun c1 => ?_) (fun c1 => ?_)
  · refine ex_iconst (v := 0) hX dX7_isWord_12 rfl ?_
    rw [show (bI ((h.1 94 20) = x1)) = 0 from bI_f c1] at kc1
    exact ex_forget [some (.ref 94), some (.int x1), some (.int x2), some (.int x3), some (.int x4), some (.int x5), none, none] ⟨rfl, ⟨rfl, ⟨rfl, ⟨rfl, ⟨rfl, ⟨rfl, trivial⟩⟩⟩⟩⟩⟩ kc1
  · refine ex_iconst (v := 1) hX dX7_isWord_8 rfl ?_
    refine ex_goto hX 13 dX7_isWord_9 (by decide) ?_
    rw [show (bI ((h.1 94 20) = x1)) = 1 from bI_t c1] at kc1
    exact ex_forget [some (.ref 94), some (.int x1), some (.int x2), some (.int x3), some (.int x4), some (.int x5), none, none] ⟨rfl, ⟨rfl, ⟨rfl, ⟨rfl, ⟨rfl, ⟨rfl, trivial⟩⟩⟩⟩⟩⟩ kc1

set_option maxRecDepth 100000 in
set_option maxHeartbeats 4000000 in
theorem sg_X7_isWord_18 {Z : CX × GX} {post : Int32 → AH → Prop} {h : AH} {x1 : Int32} {x2 : Int32} {x3 : Int32} {x4 : Int32} {x5 : Int32} {x6 : Int32} {x7 : Int32} (hX : OK Z RX7 cX7_isWord 8 (some .boolean) 0 0) 
    (w : ((x1 ≤ x7 → (narrow .boolean (.int x6) = .int x6) ∧ post x6 h) ∧ (¬ x1 ≤ x7 → ((x6 = 0 → (narrow .boolean (.int x6) = .int x6) ∧ post x6 h) ∧ (¬ x6 = 0 → (vp_in ((h.1 94 19) + x7) 400) ∧ (∀ v6 : Int32, v6 = h.1 107 (Int32.toNatClampNeg ((h.1 94 19) + x7)) → (∀ v10 : Int32, v10 = (if x7 = 0 then (x2 : Int32) else (if x7 = 1 then (x3 : Int32) else (if x7 = 2 then (x4 : Int32) else x5))) → EX Z 8 (QI Z post) 18 h [some (.ref 94), some (.int x1), some (.int x2), some (.int x3), some (.int x4), some (.int x5), some (.int (bI (v6 = v10))), some (.int (x7 + 1))] [])))))))
    : EX Z 8 (QI Z post) 18 h [some (.ref 94), some (.int x1), some (.int x2), some (.int x3), some (.int x4), some (.int x5), some (.int x6), some (.int x7)] [] := by
  refine ex_iload hX dX7_isWord_18 rfl ?_
  refine ex_iload_n hX dX7_isWord_20 rfl rfl ?_
  refine ex_icmpge hX 89 dX7_isWord_21 (by decide) (fun c1 => ?_) (fun c1 => ?_)
  · replace w := w.1 c1
    refine ex_iload hX dX7_isWord_89 rfl ?_
    obtain ⟨q2, w⟩ := w
    exact ex_iret hX dX7_isWord_91 q2 w
  · replace w := w.2 c1
    refine ex_iload hX dX7_isWord_24 rfl ?_
    refine ex_ifeq hX 89 dX7_isWord_26 (by decide) (fun c3 => ?_) (fun c3 => ?_)
    · replace w := w.1 c3
      refine ex_iload hX dX7_isWord_89 rfl ?_
      obtain ⟨q4, w⟩ := w
      exact ex_iret hX dX7_isWord_91 q4 w
    · replace w := w.2 c3
      refine ex_aload_n hX dX7_isWord_29 rfl rfl ?_
      refine ex_get hX (.ref 107) FL_7_47 rfl (fun _ => rfl) dX7_isWord_30 ?_
      refine ex_aload_n hX dX7_isWord_33 rfl rfl ?_
      refine ex_get hX (.int (h.1 94 19)) FL_7_92 rfl (fun _ => rfl) dX7_isWord_34 ?_
      refine ex_iload hX dX7_isWord_37 rfl ?_
      refine ex_iadd hX dX7_isWord_39 ?_
      obtain ⟨q5, w⟩ := w
      refine ex_iald hX rfl q5 dX7_isWord_40 ?_
      refine ex_nameI (fun v6 ev6 => ?_)
      replace w := w v6 ev6
      refine ex_iload hX dX7_isWord_41 rfl ?_
      have kc7 : EX Z 8 (QI Z post) 73 h [some (.ref 94), some (.int x1), some (.int x2), some (.int x3), some (.int x4), some (.int x5), none, some (.int x7)] [.int (if x7 = 0 then (x2 : Int32) else (if x7 = 1 then (x3 : Int32) else (if x7 = 2 then (x4 : Int32) else x5))), .int v6] := by
        refine ex_nameI (fun v10 ev10 => ?_)
        replace w := w v10 ev10
        have kc11 : EX Z 8 (QI Z post) 81 h [some (.ref 94), some (.int x1), some (.int x2), some (.int x3), some (.int x4), some (.int x5), none, some (.int x7)] [.int (bI (v6 = v10))] := by
          refine ex_istore (lv' := [some (.ref 94), some (.int x1), some (.int x2), some (.int x3), some (.int x4), some (.int x5), some (.int (bI (v6 = v10))), some (.int x7)]) hX dX7_isWord_81 (by decide) rfl ?_
          refine ex_iinc (v := x7 + 1) (lv' := [some (.ref 94), some (.int x1), some (.int x2), some (.int x3), some (.int x4), some (.int x5), some (.int (bI (v6 = v10))), some (.int (x7 + 1))]) hX dX7_isWord_83 rfl rfl (by decide) rfl ?_
          refine ex_goto hX 18 dX7_isWord_86 (by decide) ?_
          exact w
        refine ex_icmpne hX 80 dX7_isWord_73 (by decide) (fun c11 => ?_) (fun c11 => ?_)
        · refine ex_iconst (v := 0) hX dX7_isWord_80 rfl ?_
          rw [show (bI (v6 = v10)) = 0 from bI_f c11] at kc11
          exact ex_forget [some (.ref 94), some (.int x1), some (.int x2), some (.int x3), some (.int x4), some (.int x5), none, some (.int x7)] ⟨rfl, ⟨rfl, ⟨rfl, ⟨rfl, ⟨rfl, ⟨rfl, ⟨rfl, trivial⟩⟩⟩⟩⟩⟩⟩ kc11
        · refine ex_iconst (v := 1) hX dX7_isWord_76 rfl ?_
          refine ex_goto hX 81 dX7_isWord_77 (by decide) ?_
          rw [show (bI (v6 = v10)) = 1 from bI_t c11] at kc11
          exact ex_forget [some (.ref 94), some (.int x1), some (.int x2), some (.int x3), some (.int x4), some (.int x5), none, some (.int x7)] ⟨rfl, ⟨rfl, ⟨rfl, ⟨rfl, ⟨rfl, ⟨rfl, ⟨rfl, trivial⟩⟩⟩⟩⟩⟩⟩ kc11
      refine ex_ifne hX 50 dX7_isWord_43 (by decide) (fun c7 => ?_) (fun c7 => ?_)
      · refine ex_iload hX dX7_isWord_50 rfl ?_
        refine ex_iconst (v := 1) hX dX7_isWord_52 rfl ?_
        have kc8 : EX Z 8 (QI Z post) 73 h [some (.ref 94), some (.int x1), some (.int x2), some (.int x3), some (.int x4), some (.int x5), none, some (.int x7)] [.int (if x7 = 1 then (x3 : Int32) else (if x7 = 2 then (x4 : Int32) else x5)), .int v6] := by
          rw [show (if x7 = 0 then (x2 : Int32) else (if x7 = 1 then (x3 : Int32) else (if x7 = 2 then (x4 : Int32) else x5))) = (if x7 = 1 then (x3 : Int32) else (if x7 = 2 then (x4 : Int32) else x5)) from if_neg c7] at kc7
          exact ex_forget [some (.ref 94), some (.int x1), some (.int x2), some (.int x3), some (.int x4), some (.int x5), none, some (.int x7)] ⟨rfl, ⟨rfl, ⟨rfl, ⟨rfl, ⟨rfl, ⟨rfl, ⟨rfl, trivial⟩⟩⟩⟩⟩⟩⟩ kc7
        refine ex_icmpne hX 60 dX7_isWord_53 (by decide) (fun c8 => ?_) (fun c8 => ?_)
        · refine ex_iload hX dX7_isWord_60 rfl ?_
          refine ex_iconst (v := 2) hX dX7_isWord_62 rfl ?_
          have kc9 : EX Z 8 (QI Z post) 73 h [some (.ref 94), some (.int x1), some (.int x2), some (.int x3), some (.int x4), some (.int x5), none, some (.int x7)] [.int (if x7 = 2 then (x4 : Int32) else x5), .int v6] := by
            rw [show (if x7 = 1 then (x3 : Int32) else (if x7 = 2 then (x4 : Int32) else x5)) = (if x7 = 2 then (x4 : Int32) else x5) from if_neg c8] at kc8
            exact ex_forget [some (.ref 94), some (.int x1), some (.int x2), some (.int x3), some (.int x4), some (.int x5), none, some (.int x7)] ⟨rfl, ⟨rfl, ⟨rfl, ⟨rfl, ⟨rfl, ⟨rfl, ⟨rfl, trivial⟩⟩⟩⟩⟩⟩⟩ kc8
          refine ex_icmpne hX 71 dX7_isWord_63 (by decide) (fun c9 => ?_) (fun c9 => ?_)
          · refine ex_iload hX dX7_isWord_71 rfl ?_
            rw [show (if x7 = 2 then (x4 : Int32) else x5) = x5 from if_neg c9] at kc9
            exact ex_forget [some (.ref 94), some (.int x1), some (.int x2), some (.int x3), some (.int x4), some (.int x5), none, some (.int x7)] ⟨rfl, ⟨rfl, ⟨rfl, ⟨rfl, ⟨rfl, ⟨rfl, ⟨rfl, trivial⟩⟩⟩⟩⟩⟩⟩ kc9
          · refine ex_iload hX dX7_isWord_66 rfl ?_
            refine ex_goto hX 73 dX7_isWord_68 (by decide) ?_
            rw [show (if x7 = 2 then (x4 : Int32) else x5) = x4 from if_pos c9] at kc9
            exact ex_forget [some (.ref 94), some (.int x1), some (.int x2), some (.int x3), some (.int x4), some (.int x5), none, some (.int x7)] ⟨rfl, ⟨rfl, ⟨rfl, ⟨rfl, ⟨rfl, ⟨rfl, ⟨rfl, trivial⟩⟩⟩⟩⟩⟩⟩ kc9
        · refine ex_iload_n hX dX7_isWord_56 rfl rfl ?_
          refine ex_goto hX 73 dX7_isWord_57 (by decide) ?_
          rw [show (if x7 = 1 then (x3 : Int32) else (if x7 = 2 then (x4 : Int32) else x5)) = x3 from if_pos c8] at kc8
          exact ex_forget [some (.ref 94), some (.int x1), some (.int x2), some (.int x3), some (.int x4), some (.int x5), none, some (.int x7)] ⟨rfl, ⟨rfl, ⟨rfl, ⟨rfl, ⟨rfl, ⟨rfl, ⟨rfl, trivial⟩⟩⟩⟩⟩⟩⟩ kc8
      · refine ex_iload_n hX dX7_isWord_46 rfl rfl ?_
        refine ex_goto hX 73 dX7_isWord_47 (by decide) ?_
        rw [show (if x7 = 0 then (x2 : Int32) else (if x7 = 1 then (x3 : Int32) else (if x7 = 2 then (x4 : Int32) else x5))) = x2 from if_pos c7] at kc7
        exact ex_forget [some (.ref 94), some (.int x1), some (.int x2), some (.int x3), some (.int x4), some (.int x5), none, some (.int x7)] ⟨rfl, ⟨rfl, ⟨rfl, ⟨rfl, ⟨rfl, ⟨rfl, ⟨rfl, trivial⟩⟩⟩⟩⟩⟩⟩ kc7

set_option maxRecDepth 100000 in
set_option maxHeartbeats 4000000 in
theorem sg_X7_takeNumber_0 {Z : CX × GX} {post : Int32 → AH → Prop} {h : AH} {x1 : Int32} {x2 : Int32} (hX : OK Z RX7 cX7_takeNumber 6 (some .int) 1 25) 
    (w : (((h.1 94 21) ≤ 0 → (∃ PP : Int32 → AH → Prop, CI yX7_here cX7_here 1 (some .int) 0 0 [.ref 94] h PP ∧ ∀ (r : Int32) (u : AH), PP r u → EX Z 6 (QI Z post) 13 u [some (.ref 94), some (.int x1), some (.int x2), none, none, none] (.int r :: []))) ∧ (¬ (h.1 94 21) ≤ 0 → post 0 h)))
    : EX Z 6 (QI Z post) 0 h [some (.ref 94), some (.int x1), some (.int x2), none, none, none] [] := by
  refine ex_aload_n hX dX7_takeNumber_0 rfl rfl ?_
  refine ex_get hX (.int (h.1 94 21)) FL_7_85 rfl (fun _ => rfl) dX7_takeNumber_1 ?_
  refine ex_ifle hX 9 dX7_takeNumber_4 (by decide) (fun c1 => ?_) (fun c1 => ?_)
  · replace w := w.1 c1
    refine ex_aload_n hX dX7_takeNumber_9 rfl rfl ?_
    obtain ⟨PP, pM, pK⟩ := w
    exact ex_callIv (ci := 7) (i := 94) (As := []) (st := []) hX pM CS_7_88 MS_X7_here rfl rfl rfl (by decide) rfl (Nat.le_of_ble_eq_true rfl) dX7_takeNumber_10 (fun r u hp => pK r u hp)
  · replace w := w.2 c1
    refine ex_iconst (v := 0) hX dX7_takeNumber_7 rfl ?_
    exact ex_iret hX dX7_takeNumber_8 rfl w

set_option maxRecDepth 100000 in
set_option maxHeartbeats 4000000 in
theorem sg_X7_takeNumber_13 {Z : CX × GX} {post : Int32 → AH → Prop} {h : AH} {x1 : Int32} {x2 : Int32} {s0 : Int32} (hX : OK Z RX7 cX7_takeNumber 6 (some .int) 1 25) 
    (w : (∀ u1 : AH, u1 = (hset h.1 94 19 (h.1 94 18), h.2) → (∃ PP : Int32 → AH → Prop, CI yX7_want cX7_want 4 (some .boolean) 0 0 [.ref 94, .int (bI (48 ≤ (Int32.toInt64 s0) ∧ (Int32.toInt64 s0) ≤ 57)), .int 1, .int (u1.1 94 18)] u1 PP ∧ ∀ (r : Int32) (u : AH), PP r u → EX Z 6 (QI Z post) 42 u [some (.ref 94), some (.int x1), some (.int x2), none, none, none] (.int r :: []))))
    : EX Z 6 (QI Z post) 13 h [some (.ref 94), some (.int x1), some (.int x2), none, none, none] [.int s0] := by
  refine ex_istore_n (lv' := [some (.ref 94), some (.int x1), some (.int x2), some (.int s0), none, none]) hX dX7_takeNumber_13 rfl (by decide) rfl ?_
  refine ex_aload_n hX dX7_takeNumber_14 rfl rfl ?_
  refine ex_aload_n hX dX7_takeNumber_15 rfl rfl ?_
  refine ex_get hX (.int (h.1 94 18)) FL_7_82 rfl (fun _ => rfl) dX7_takeNumber_16 ?_
  refine ex_put hX .int FL_7_92 tyX7 tyX7_ok nmX7 rfl rfl rfl rfl rfl (fun _ => (by decide : 19 < 33)) (fun _ => fs_7_19) dX7_takeNumber_19 ?_
  refine ex_nameH (fun u1 eu1 => ?_)
  replace w := w u1 eu1
  refine ex_aload_n hX dX7_takeNumber_22 rfl rfl ?_
  refine ex_iload_n hX dX7_takeNumber_23 rfl rfl ?_
  refine ex_i2l hX dX7_takeNumber_24 ?_
  refine ex_ldc2 hX dX7_takeNumber_25 KL_7_102 ?_
  refine ex_ldc2 hX dX7_takeNumber_28 KL_7_104 ?_
  refine ex_pIs (As := [.long (Int32.toInt64 s0), .long 48, .long 57]) (st := [.ref 94]) hX (c_X7_in (h := u1)) CS_7_71 MS_X7_in rfl (by decide) rfl (Nat.le_of_ble_eq_true rfl) dX7_takeNumber_31 ?_
  refine ex_iconst (v := 1) hX dX7_takeNumber_34 rfl ?_
  refine ex_aload_n hX dX7_takeNumber_35 rfl rfl ?_
  refine ex_get hX (.int (u1.1 94 18)) FL_7_82 rfl (fun _ => rfl) dX7_takeNumber_36 ?_
  obtain ⟨PP, pM, pK⟩ := w
  exact ex_callIv (ci := 7) (i := 94) (As := [.int (bI (48 ≤ (Int32.toInt64 s0) ∧ (Int32.toInt64 s0) ≤ 57)), .int 1, .int (u1.1 94 18)]) (st := []) hX pM CS_7_106 MS_X7_want rfl rfl rfl (by decide) rfl (Nat.le_of_ble_eq_true rfl) dX7_takeNumber_39 (fun r u hp => ex_forget [some (.ref 94), some (.int x1), some (.int x2), none, none, none] ⟨rfl, ⟨rfl, ⟨rfl, trivial⟩⟩⟩ (pK r u hp))

set_option maxRecDepth 100000 in
set_option maxHeartbeats 4000000 in
theorem sg_X7_takeNumber_42 {Z : CX × GX} {post : Int32 → AH → Prop} {h : AH} {x1 : Int32} {x2 : Int32} {s0 : Int32} (hX : OK Z RX7 cX7_takeNumber 6 (some .int) 1 25) 
    (w : ((¬ s0 = 0 → EX Z 6 (QI Z post) 50 h [some (.ref 94), some (.int x1), some (.int x2), none, some (.int 0), none] []) ∧ (s0 = 0 → post 0 h)))
    : EX Z 6 (QI Z post) 42 h [some (.ref 94), some (.int x1), some (.int x2), none, none, none] [.int s0] := by
  refine ex_ifne hX 47 dX7_takeNumber_42 (by decide) (fun c1 => ?_) (fun c1 => ?_)
  · replace w := w.1 c1
    refine ex_iconst (v := 0) hX dX7_takeNumber_47 rfl ?_
    refine ex_istore (lv' := [some (.ref 94), some (.int x1), some (.int x2), none, some (.int 0), none]) hX dX7_takeNumber_48 (by decide) rfl ?_
    exact w
  · replace w := w.2 c1
    refine ex_iconst (v := 0) hX dX7_takeNumber_45 rfl ?_
    exact ex_iret hX dX7_takeNumber_46 rfl w

set_option maxRecDepth 100000 in
set_option maxHeartbeats 4000000 in
theorem sg_X7_takeNumber_50 {Z : CX × GX} {post : Int32 → AH → Prop} {h : AH} {x1 : Int32} {x2 : Int32} {x4 : Int32} (hX : OK Z RX7 cX7_takeNumber 6 (some .int) 1 25) 
    (w : (((h.1 94 17) ≤ (h.1 94 18) → (∀ v4 : Int32, v4 = (if 5 ≤ ((h.1 94 18) - (h.1 94 19)) then (0 : Int32) else (bI (((Int32.toInt64 x1) ≤ (Int32.toInt64 x4) ∧ (Int32.toInt64 x4) ≤ (Int32.toInt64 x2))))) → (∃ PP : Int32 → AH → Prop, CI yX7_want cX7_want 4 (some .boolean) 0 0 [.ref 94, .int v4, .int 2, .int (h.1 94 19)] h PP ∧ ∀ (r : Int32) (u : AH), PP r u → EX Z 6 (QI Z post) 168 u [none, none, none, none, some (.int x4), none] (.int r :: [])))) ∧ (¬ (h.1 94 17) ≤ (h.1 94 18) → (vp_in (h.1 94 18) 400) ∧ (∀ v6 : Int32, v6 = h.1 107 (Int32.toNatClampNeg (h.1 94 18)) → ((¬ (48 ≤ (Int32.toInt64 v6) ∧ (Int32.toInt64 v6) ≤ 57) → (∀ v10 : Int32, v10 = (if 5 ≤ ((h.1 94 18) - (h.1 94 19)) then (0 : Int32) else (bI (((Int32.toInt64 x1) ≤ (Int32.toInt64 x4) ∧ (Int32.toInt64 x4) ≤ (Int32.toInt64 x2))))) → (∃ PP : Int32 → AH → Prop, CI yX7_want cX7_want 4 (some .boolean) 0 0 [.ref 94, .int v10, .int 2, .int (h.1 94 19)] h PP ∧ ∀ (r : Int32) (u : AH), PP r u → EX Z 6 (QI Z post) 168 u [none, none, none, none, some (.int x4), none] (.int r :: [])))) ∧ ((48 ≤ (Int32.toInt64 v6) ∧ (Int32.toInt64 v6) ≤ 57) → ((x4 ≤ 999999 → (vp_in (h.1 94 18) 400) ∧ True) ∧ (∀ v13 : Int32, v13 = (if x4 ≤ 999999 then (((10 * x4) + (h.1 107 (Int32.toNatClampNeg (h.1 94 18)))) - 48 : Int32) else x4) → (∀ u14 : AH, u14 = (hset h.1 94 18 ((h.1 94 18) + 1), h.2) → EX Z 6 (QI Z post) 50 u14 [some (.ref 94), some (.int x1), some (.int x2), none, some (.int v13), none] [])))))))))
    : EX Z 6 (QI Z post) 50 h [some (.ref 94), some (.int x1), some (.int x2), none, some (.int x4), none] [] := by
  refine ex_aload_n hX dX7_takeNumber_50 rfl rfl ?_
  refine ex_get hX (.int (h.1 94 18)) FL_7_82 rfl (fun _ => rfl) dX7_takeNumber_51 ?_
  refine ex_aload_n hX dX7_takeNumber_54 rfl rfl ?_
  refine ex_get hX (.int (h.1 94 17)) FL_7_76 rfl (fun _ => rfl) dX7_takeNumber_55 ?_
  refine ex_icmpge hX 128 dX7_takeNumber_58 (by decide) (fun c1 => ?_) (fun c1 => ?_)
  · replace w := w.1 c1
    refine ex_aload_n hX dX7_takeNumber_128 rfl rfl ?_
    refine ex_aload_n hX dX7_takeNumber_129 rfl rfl ?_
    refine ex_get hX (.int (h.1 94 18)) FL_7_82 rfl (fun _ => rfl) dX7_takeNumber_130 ?_
    refine ex_aload_n hX dX7_takeNumber_133 rfl rfl ?_
    refine ex_get hX (.int (h.1 94 19)) FL_7_92 rfl (fun _ => rfl) dX7_takeNumber_134 ?_
    refine ex_isub hX dX7_takeNumber_137 ?_
    refine ex_iconst (v := 5) hX dX7_takeNumber_138 rfl ?_
    have kc2 : EX Z 6 (QI Z post) 160 h [some (.ref 94), none, none, none, some (.int x4), none] [.int (if 5 ≤ ((h.1 94 18) - (h.1 94 19)) then (0 : Int32) else (bI (((Int32.toInt64 x1) ≤ (Int32.toInt64 x4) ∧ (Int32.toInt64 x4) ≤ (Int32.toInt64 x2))))), .ref 94] := by
      refine ex_nameI (fun v4 ev4 => ?_)
      replace w := w v4 ev4
      refine ex_iconst (v := 2) hX dX7_takeNumber_160 rfl ?_
      refine ex_aload_n hX dX7_takeNumber_161 rfl rfl ?_
      refine ex_get hX (.int (h.1 94 19)) FL_7_92 rfl (fun _ => rfl) dX7_takeNumber_162 ?_
      obtain ⟨PP, pM, pK⟩ := w
      exact ex_callIv (ci := 7) (i := 94) (As := [.int v4, .int 2, .int (h.1 94 19)]) (st := []) hX pM CS_7_106 MS_X7_want rfl rfl rfl (by decide) rfl (Nat.le_of_ble_eq_true rfl) dX7_takeNumber_165 (fun r u hp => ex_forget [none, none, none, none, some (.int x4), none] ⟨rfl, trivial⟩ (pK r u hp))
    refine ex_icmpge hX 159 dX7_takeNumber_139 (by decide) (fun c2 => ?_) (fun c2 => ?_)
    · refine ex_iconst (v := 0) hX dX7_takeNumber_159 rfl ?_
      rw [show (if 5 ≤ ((h.1 94 18) - (h.1 94 19)) then (0 : Int32) else (bI (((Int32.toInt64 x1) ≤ (Int32.toInt64 x4) ∧ (Int32.toInt64 x4) ≤ (Int32.toInt64 x2))))) = 0 from if_pos c2] at kc2
      exact ex_forget [some (.ref 94), none, none, none, some (.int x4), none] ⟨rfl, ⟨rfl, trivial⟩⟩ kc2
    · refine ex_iload hX dX7_takeNumber_142 rfl ?_
      refine ex_i2l hX dX7_takeNumber_144 ?_
      refine ex_iload_n hX dX7_takeNumber_145 rfl rfl ?_
      refine ex_i2l hX dX7_takeNumber_146 ?_
      refine ex_iload_n hX dX7_takeNumber_147 rfl rfl ?_
      refine ex_i2l hX dX7_takeNumber_148 ?_
      refine ex_pIs (As := [.long (Int32.toInt64 x4), .long (Int32.toInt64 x1), .long (Int32.toInt64 x2)]) (st := [.ref 94]) hX (c_X7_in (h := h)) CS_7_71 MS_X7_in rfl (by decide) rfl (Nat.le_of_ble_eq_true rfl) dX7_takeNumber_149 ?_
      have kc3 : EX Z 6 (QI Z post) 160 h [some (.ref 94), none, none, none, some (.int x4), none] [.int (bI (((Int32.toInt64 x1) ≤ (Int32.toInt64 x4) ∧ (Int32.toInt64 x4) ≤ (Int32.toInt64 x2)))), .ref 94] := by
        rw [show (if 5 ≤ ((h.1 94 18) - (h.1 94 19)) then (0 : Int32) else (bI (((Int32.toInt64 x1) ≤ (Int32.toInt64 x4) ∧ (Int32.toInt64 x4) ≤ (Int32.toInt64 x2))))) = (bI (((Int32.toInt64 x1) ≤ (Int32.toInt64 x4) ∧ (Int32.toInt64 x4) ≤ (Int32.toInt64 x2)))) from if_neg c2] at kc2
        exact ex_forget [some (.ref 94), none, none, none, some (.int x4), none] ⟨rfl, ⟨rfl, trivial⟩⟩ kc2
      refine ex_ifeqB hX 159 dX7_takeNumber_152 (by decide) (fun c3 => ?_) (fun c3 => ?_)
      · refine ex_iconst (v := 0) hX dX7_takeNumber_159 rfl ?_
        rw [show (bI (((Int32.toInt64 x1) ≤ (Int32.toInt64 x4) ∧ (Int32.toInt64 x4) ≤ (Int32.toInt64 x2)))) = 0 from bI_f c3] at kc3
        exact ex_forget [some (.ref 94), none, none, none, some (.int x4), none] ⟨rfl, ⟨rfl, trivial⟩⟩ kc3
      · refine ex_iconst (v := 1) hX dX7_takeNumber_155 rfl ?_
        refine ex_goto hX 160 dX7_takeNumber_156 (by decide) ?_
        rw [show (bI (((Int32.toInt64 x1) ≤ (Int32.toInt64 x4) ∧ (Int32.toInt64 x4) ≤ (Int32.toInt64 x2)))) = 1 from bI_t c3] at kc3
        exact ex_forget [some (.ref 94), none, none, none, some (.int x4), none] ⟨rfl, ⟨rfl, trivial⟩⟩ kc3
  · replace w := w.2 c1
    refine ex_aload_n hX dX7_takeNumber_61 rfl rfl ?_
    refine ex_get hX (.ref 107) FL_7_47 rfl (fun _ => rfl) dX7_takeNumber_62 ?_
    refine ex_aload_n hX dX7_takeNumber_65 rfl rfl ?_
    refine ex_get hX (.int (h.1 94 18)) FL_7_82 rfl (fun _ => rfl) dX7_takeNumber_66 ?_
    obtain ⟨q5, w⟩ := w
    refine ex_iald hX rfl q5 dX7_takeNumber_69 ?_
    refine ex_nameI (fun v6 ev6 => ?_)
    replace w := w v6 ev6
    refine ex_i2l hX dX7_takeNumber_70 ?_
    refine ex_ldc2 hX dX7_takeNumber_71 KL_7_102 ?_
    refine ex_ldc2 hX dX7_takeNumber_74 KL_7_104 ?_
    refine ex_pIs (As := [.long (Int32.toInt64 v6), .long 48, .long 57]) (st := []) hX (c_X7_in (h := h)) CS_7_71 MS_X7_in rfl (by decide) rfl (Nat.le_of_ble_eq_true rfl) dX7_takeNumber_77 ?_
    refine ex_ifeqB hX 128 dX7_takeNumber_80 (by decide) (fun c7 => ?_) (fun c7 => ?_)
    · replace w := w.1 c7
      refine ex_aload_n hX dX7_takeNumber_128 rfl rfl ?_
      refine ex_aload_n hX dX7_takeNumber_129 rfl rfl ?_
      refine ex_get hX (.int (h.1 94 18)) FL_7_82 rfl (fun _ => rfl) dX7_takeNumber_130 ?_
      refine ex_aload_n hX dX7_takeNumber_133 rfl rfl ?_
      refine ex_get hX (.int (h.1 94 19)) FL_7_92 rfl (fun _ => rfl) dX7_takeNumber_134 ?_
      refine ex_isub hX dX7_takeNumber_137 ?_
      refine ex_iconst (v := 5) hX dX7_takeNumber_138 rfl ?_
      have kc8 : EX Z 6 (QI Z post) 160 h [some (.ref 94), none, none, none, some (.int x4), none] [.int (if 5 ≤ ((h.1 94 18) - (h.1 94 19)) then (0 : Int32) else (bI (((Int32.toInt64 x1) ≤ (Int32.toInt64 x4) ∧ (Int32.toInt64 x4) ≤ (Int32.toInt64 x2))))), .ref 94] := by
        refine ex_nameI (fun v10 ev10 => ?_)
        replace w := w v10 ev10
        refine ex_iconst (v := 2) hX dX7_takeNumber_160 rfl ?_
        refine ex_aload_n hX dX7_takeNumber_161 rfl rfl ?_
        refine ex_get hX (.int (h.1 94 19)) FL_7_92 rfl (fun _ => rfl) dX7_takeNumber_162 ?_
        obtain ⟨PP, pM, pK⟩ := w
        exact ex_callIv (ci := 7) (i := 94) (As := [.int v10, .int 2, .int (h.1 94 19)]) (st := []) hX pM CS_7_106 MS_X7_want rfl rfl rfl (by decide) rfl (Nat.le_of_ble_eq_true rfl) dX7_takeNumber_165 (fun r u hp => ex_forget [none, none, none, none, some (.int x4), none] ⟨rfl, trivial⟩ (pK r u hp))
      refine ex_icmpge hX 159 dX7_takeNumber_139 (by decide) (fun c8 => ?_) (fun c8 => ?_)
      · refine ex_iconst (v := 0) hX dX7_takeNumber_159 rfl ?_
        rw [show (if 5 ≤ ((h.1 94 18) - (h.1 94 19)) then (0 : Int32) else (bI (((Int32.toInt64 x1) ≤ (Int32.toInt64 x4) ∧ (Int32.toInt64 x4) ≤ (Int32.toInt64 x2))))) = 0 from if_pos c8] at kc8
        exact ex_forget [some (.ref 94), none, none, none, some (.int x4), none] ⟨rfl, ⟨rfl, trivial⟩⟩ kc8
      · refine ex_iload hX dX7_takeNumber_142 rfl ?_
        refine ex_i2l hX dX7_takeNumber_144 ?_
        refine ex_iload_n hX dX7_takeNumber_145 rfl rfl ?_
        refine ex_i2l hX dX7_takeNumber_146 ?_
        refine ex_iload_n hX dX7_takeNumber_147 rfl rfl ?_
        refine ex_i2l hX dX7_takeNumber_148 ?_
        refine ex_pIs (As := [.long (Int32.toInt64 x4), .long (Int32.toInt64 x1), .long (Int32.toInt64 x2)]) (st := [.ref 94]) hX (c_X7_in (h := h)) CS_7_71 MS_X7_in rfl (by decide) rfl (Nat.le_of_ble_eq_true rfl) dX7_takeNumber_149 ?_
        have kc9 : EX Z 6 (QI Z post) 160 h [some (.ref 94), none, none, none, some (.int x4), none] [.int (bI (((Int32.toInt64 x1) ≤ (Int32.toInt64 x4) ∧ (Int32.toInt64 x4) ≤ (Int32.toInt64 x2)))), .ref 94] := by
          rw [show (if 5 ≤ ((h.1 94 18) - (h.1 94 19)) then (0 : Int32) else (bI (((Int32.toInt64 x1) ≤ (Int32.toInt64 x4) ∧ (Int32.toInt64 x4) ≤ (Int32.toInt64 x2))))) = (bI (((Int32.toInt64 x1) ≤ (Int32.toInt64 x4) ∧ (Int32.toInt64 x4) ≤ (Int32.toInt64 x2)))) from if_neg c8] at kc8
          exact ex_forget [some (.ref 94), none, none, none, some (.int x4), none] ⟨rfl, ⟨rfl, trivial⟩⟩ kc8
        refine ex_ifeqB hX 159 dX7_takeNumber_152 (by decide) (fun c9 => ?_) (fun c9 => ?_)
        · refine ex_iconst (v := 0) hX dX7_takeNumber_159 rfl ?_
          rw [show (bI (((Int32.toInt64 x1) ≤ (Int32.toInt64 x4) ∧ (Int32.toInt64 x4) ≤ (Int32.toInt64 x2)))) = 0 from bI_f c9] at kc9
          exact ex_forget [some (.ref 94), none, none, none, some (.int x4), none] ⟨rfl, ⟨rfl, trivial⟩⟩ kc9
        · refine ex_iconst (v := 1) hX dX7_takeNumber_155 rfl ?_
          refine ex_goto hX 160 dX7_takeNumber_156 (by decide) ?_
          rw [show (bI (((Int32.toInt64 x1) ≤ (Int32.toInt64 x4) ∧ (Int32.toInt64 x4) ≤ (Int32.toInt64 x2)))) = 1 from bI_t c9] at kc9
          exact ex_forget [some (.ref 94), none, none, none, some (.int x4), none] ⟨rfl, ⟨rfl, trivial⟩⟩ kc9
    · replace w := w.2 c7
      refine ex_iload hX dX7_takeNumber_83 rfl ?_
      refine ex_ldc hX dX7_takeNumber_85 KC_7_110 ?_
      obtain ⟨wac11, w⟩ := w
      have kc11 : EX Z 6 (QI Z post) 113 h [some (.ref 94), some (.int x1), some (.int x2), none, none, none] [.int (if x4 ≤ 999999 then (((10 * x4) + (h.1 107 (Int32.toNatClampNeg (h.1 94 18)))) - 48 : Int32) else x4)] := by
        refine ex_nameI (fun v13 ev13 => ?_)
        replace w := w v13 ev13
        refine ex_istore (lv' := [some (.ref 94), some (.int x1), some (.int x2), none, some (.int v13), none]) hX dX7_takeNumber_113 (by decide) rfl ?_
        refine ex_aload_n hX dX7_takeNumber_115 rfl rfl ?_
        refine ex_dup hX dX7_takeNumber_116 rfl ?_
        refine ex_get hX (.int (h.1 94 18)) FL_7_82 rfl (fun _ => rfl) dX7_takeNumber_117 ?_
        refine ex_iconst (v := 1) hX dX7_takeNumber_120 rfl ?_
        refine ex_iadd hX dX7_takeNumber_121 ?_
        refine ex_put hX .int FL_7_82 tyX7 tyX7_ok nmX7 rfl rfl rfl rfl rfl (fun _ => (by decide : 18 < 33)) (fun _ => fs_7_18) dX7_takeNumber_122 ?_
        refine ex_nameH (fun u14 eu14 => ?_)
        replace w := w u14 eu14
        refine ex_goto hX 50 dX7_takeNumber_125 (by decide) ?_
        exact w
      refine ex_icmple hX 95 dX7_takeNumber_87 (by decide) (fun c11 => ?_) (fun c11 => ?_)
      · replace w := wac11 c11
        refine ex_bipush (v := 10) hX dX7_takeNumber_95 rfl ?_
        refine ex_iload hX dX7_takeNumber_97 rfl ?_
        refine ex_imul hX dX7_takeNumber_99 ?_
        refine ex_aload_n hX dX7_takeNumber_100 rfl rfl ?_
        refine ex_get hX (.ref 107) FL_7_47 rfl (fun _ => rfl) dX7_takeNumber_101 ?_
        refine ex_aload_n hX dX7_takeNumber_104 rfl rfl ?_
        refine ex_get hX (.int (h.1 94 18)) FL_7_82 rfl (fun _ => rfl) dX7_takeNumber_105 ?_
        obtain ⟨q12, w⟩ := w
        refine ex_iald hX rfl q12 dX7_takeNumber_108 ?_
        refine ex_iadd hX dX7_takeNumber_109 ?_
        refine ex_bipush (v := 48) hX dX7_takeNumber_110 rfl ?_
        refine ex_isub hX dX7_takeNumber_112 ?_
        rw [show (if x4 ≤ 999999 then (((10 * x4) + (h.1 107 (Int32.toNatClampNeg (h.1 94 18)))) - 48 : Int32) else x4) = ((10 * x4) + (h.1 107 (Int32.toNatClampNeg (h.1 94 18)))) - 48 from if_pos c11] at kc11
        exact ex_forget [some (.ref 94), some (.int x1), some (.int x2), none, none, none] ⟨rfl, ⟨rfl, ⟨rfl, trivial⟩⟩⟩ kc11
      · refine ex_iload hX dX7_takeNumber_90 rfl ?_
        refine ex_goto hX 113 dX7_takeNumber_92 (by decide) ?_
        rw [show (if x4 ≤ 999999 then (((10 * x4) + (h.1 107 (Int32.toNatClampNeg (h.1 94 18)))) - 48 : Int32) else x4) = x4 from if_neg c11] at kc11
        exact ex_forget [some (.ref 94), some (.int x1), some (.int x2), none, none, none] ⟨rfl, ⟨rfl, ⟨rfl, trivial⟩⟩⟩ kc11

set_option maxRecDepth 100000 in
set_option maxHeartbeats 4000000 in
theorem sg_X7_takeNumber_168 {Z : CX × GX} {post : Int32 → AH → Prop} {h : AH} {x4 : Int32} {s0 : Int32} (hX : OK Z RX7 cX7_takeNumber 6 (some .int) 1 25) 
    (w : post x4 h)
    : EX Z 6 (QI Z post) 168 h [none, none, none, none, some (.int x4), none] [.int s0] := by
  refine ex_istore (lv' := [none, none, none, none, some (.int x4), some (.int s0)]) hX dX7_takeNumber_168 (by decide) rfl ?_
  refine ex_iload hX dX7_takeNumber_170 rfl ?_
  exact ex_iret hX dX7_takeNumber_172 rfl w

set_option maxRecDepth 100000 in
set_option maxHeartbeats 4000000 in
theorem sg_X7_takeEnd_0 {Z : CX × GX} {post : AH → Prop} {h : AH}  (hX : OK Z RX7 cX7_takeEnd 1 none 1 23) 
    (w : ((¬ (h.1 94 21) = 0 → post h) ∧ ((h.1 94 21) = 0 → (∃ PP : Int32 → AH → Prop, CI yX7_here cX7_here 1 (some .int) 0 0 [.ref 94] h PP ∧ ∀ (r : Int32) (u : AH), PP r u → EX Z 1 (QV Z post) 12 u [some (.ref 94)] (.int r :: [.ref 94])))))
    : EX Z 1 (QV Z post) 0 h [some (.ref 94)] [] := by
  refine ex_aload_n hX dX7_takeEnd_0 rfl rfl ?_
  refine ex_get hX (.int (h.1 94 21)) FL_7_85 rfl (fun _ => rfl) dX7_takeEnd_1 ?_
  refine ex_ifne hX 43 dX7_takeEnd_4 (by decide) (fun c1 => ?_) (fun c1 => ?_)
  · replace w := w.1 c1
    exact ex_vret hX dX7_takeEnd_43 w
  · replace w := w.2 c1
    refine ex_aload_n hX dX7_takeEnd_7 rfl rfl ?_
    refine ex_aload_n hX dX7_takeEnd_8 rfl rfl ?_
    obtain ⟨PP, pM, pK⟩ := w
    exact ex_callIv (ci := 7) (i := 94) (As := []) (st := [.ref 94]) hX pM CS_7_88 MS_X7_here rfl rfl rfl (by decide) rfl (Nat.le_of_ble_eq_true rfl) dX7_takeEnd_9 (fun r u hp => pK r u hp)

set_option maxRecDepth 100000 in
set_option maxHeartbeats 4000000 in
theorem sg_X7_takeEnd_12 {Z : CX × GX} {post : AH → Prop} {h : AH} {s0 : Int32} (hX : OK Z RX7 cX7_takeEnd 1 none 1 23) 
    (w : (∃ PP : Int32 → AH → Prop, CI yX7_want cX7_want 4 (some .boolean) 0 0 [.ref 94, .int (bI (s0 = 59)), .int 1, .int (h.1 94 18)] h PP ∧ ∀ (r : Int32) (u : AH), PP r u → EX Z 1 (QV Z post) 30 u [some (.ref 94)] (.int r :: [])))
    : EX Z 1 (QV Z post) 12 h [some (.ref 94)] [.int s0, .ref 94] := by
  refine ex_bipush (v := 59) hX dX7_takeEnd_12 rfl ?_
  have kc1 : EX Z 1 (QV Z post) 22 h [some (.ref 94)] [.int (bI (s0 = 59)), .ref 94] := by
    refine ex_iconst (v := 1) hX dX7_takeEnd_22 rfl ?_
    refine ex_aload_n hX dX7_takeEnd_23 rfl rfl ?_
    refine ex_get hX (.int (h.1 94 18)) FL_7_82 rfl (fun _ => rfl) dX7_takeEnd_24 ?_
    obtain ⟨PP, pM, pK⟩ := w
    exact ex_callIv (ci := 7) (i := 94) (As := [.int (bI (s0 = 59)), .int 1, .int (h.1 94 18)]) (st := []) hX pM CS_7_106 MS_X7_want rfl rfl rfl (by decide) rfl (Nat.le_of_ble_eq_true rfl) dX7_takeEnd_27 (fun r u hp => pK r u hp)
  refine ex_icmpne hX 21 dX7_takeEnd_14 (by decide) (fun c1 => ?_) (fun c1 => ?_)
  · refine ex_iconst (v := 0) hX dX7_takeEnd_21 rfl ?_
    rw [show (bI (s0 = 59)) = 0 from bI_f c1] at kc1
    exact ex_forget [some (.ref 94)] ⟨rfl, trivial⟩ kc1
  · refine ex_iconst (v := 1) hX dX7_takeEnd_17 rfl ?_
    refine ex_goto hX 22 dX7_takeEnd_18 (by decide) ?_
    rw [show (bI (s0 = 59)) = 1 from bI_t c1] at kc1
    exact ex_forget [some (.ref 94)] ⟨rfl, trivial⟩ kc1

set_option maxRecDepth 100000 in
set_option maxHeartbeats 4000000 in
theorem sg_X7_takeEnd_30 {Z : CX × GX} {post : AH → Prop} {h : AH} {s0 : Int32} (hX : OK Z RX7 cX7_takeEnd 1 none 1 23) 
    (w : ((s0 = 0 → post h) ∧ (¬ s0 = 0 → (∀ u2 : AH, u2 = (hset h.1 94 18 ((h.1 94 18) + 1), h.2) → post u2))))
    : EX Z 1 (QV Z post) 30 h [some (.ref 94)] [.int s0] := by
  refine ex_ifeq hX 43 dX7_takeEnd_30 (by decide) (fun c1 => ?_) (fun c1 => ?_)
  · replace w := w.1 c1
    exact ex_vret hX dX7_takeEnd_43 w
  · replace w := w.2 c1
    refine ex_aload_n hX dX7_takeEnd_33 rfl rfl ?_
    refine ex_dup hX dX7_takeEnd_34 rfl ?_
    refine ex_get hX (.int (h.1 94 18)) FL_7_82 rfl (fun _ => rfl) dX7_takeEnd_35 ?_
    refine ex_iconst (v := 1) hX dX7_takeEnd_38 rfl ?_
    refine ex_iadd hX dX7_takeEnd_39 ?_
    refine ex_put hX .int FL_7_82 tyX7 tyX7_ok nmX7 rfl rfl rfl rfl rfl (fun _ => (by decide : 18 < 33)) (fun _ => fs_7_18) dX7_takeEnd_40 ?_
    refine ex_nameH (fun u2 eu2 => ?_)
    replace w := w u2 eu2
    exact ex_vret hX dX7_takeEnd_43 w

set_option maxRecDepth 100000 in
set_option maxHeartbeats 4000000 in
theorem sg_X7_beginReading_0 {Z : CX × GX} {post : AH → Prop} {h : AH}  (hX : OK Z RX7 cX7_beginReading 1 none 0 0) 
    (w : (∀ u1 : AH, u1 = (hset h.1 94 18 0, h.2) → (∀ u2 : AH, u2 = (hset u1.1 94 21 0, u1.2) → (∀ u3 : AH, u3 = (hset u2.1 94 22 (-1), u2.2) → post u3))))
    : EX Z 1 (QV Z post) 0 h [some (.ref 94)] [] := by
  refine ex_aload_n hX dX7_beginReading_0 rfl rfl ?_
  refine ex_iconst (v := 0) hX dX7_beginReading_1 rfl ?_
  refine ex_put hX .int FL_7_82 tyX7 tyX7_ok nmX7 rfl rfl rfl rfl rfl (fun _ => (by decide : 18 < 33)) (fun _ => fs_7_18) dX7_beginReading_2 ?_
  refine ex_nameH (fun u1 eu1 => ?_)
  replace w := w u1 eu1
  refine ex_aload_n hX dX7_beginReading_5 rfl rfl ?_
  refine ex_iconst (v := 0) hX dX7_beginReading_6 rfl ?_
  refine ex_put hX .int FL_7_85 tyX7 tyX7_ok nmX7 rfl rfl rfl rfl rfl (fun _ => (by decide : 21 < 33)) (fun _ => fs_7_21) dX7_beginReading_7 ?_
  refine ex_nameH (fun u2 eu2 => ?_)
  replace w := w u2 eu2
  refine ex_aload_n hX dX7_beginReading_10 rfl rfl ?_
  refine ex_iconst (v := (-1)) hX dX7_beginReading_11 rfl ?_
  refine ex_put hX .int FL_7_50 tyX7 tyX7_ok nmX7 rfl rfl rfl rfl rfl (fun _ => (by decide : 22 < 33)) (fun _ => fs_7_22) dX7_beginReading_12 ?_
  refine ex_nameH (fun u3 eu3 => ?_)
  replace w := w u3 eu3
  exact ex_vret hX dX7_beginReading_15 w

/-! the reference reads -/
def TXm (T : Nat → Nat) (L : Nat) (u : AH) : Prop := L ≤ 400 ∧ u.1 94 17 = nI L ∧ ∀ j, j < L → T j < 256 ∧ u.1 107 j = nI (T j)
def FRt (h u : AH) : Prop := u.2 = h.2 ∧ (∀ i, i ≠ 94 → u.1 i = h.1 i) ∧ ∀ k, (k < 18 ∨ 23 ≤ k) → u.1 94 k = h.1 94 k
theorem FRt.rf {h : AH} : FRt h h := ⟨rfl, fun _ _ => rfl, fun _ _ => rfl⟩
theorem FRt.tr {h u v : AH} (a : FRt h u) (b : FRt u v) : FRt h v := ⟨b.1.trans a.1, fun i hi => (b.2.1 i hi).trans (a.2.1 i hi), fun k hk => (b.2.2 k hk).trans (a.2.2 k hk)⟩
theorem FRt.set {h u u2 : AH} {k : Nat} {v : Int32} (a : FRt h u) (hk : 18 ≤ k ∧ k < 23) (e : u2 = (hset u.1 94 k v, u.2)) : FRt h u2 := ⟨by rw [e]; exact a.1, fun i hi => by rw [e, hs_o hi]; exact a.2.1 i hi, fun j hj => by rw [e, hs_i (by omega)]; exact a.2.2 j hj⟩
theorem TXm.of {T : Nat → Nat} {L : Nat} {h u : AH} (a : TXm T L h) (f : FRt h u) : TXm T L u := ⟨a.1, by rw [f.2.2 17 (by omega)]; exact a.2.1, by rw [f.2.1 107 (by omega)]; exact a.2.2⟩
def CM (T : Nat → Nat) (L : Nat) (u : AH) (c : Cur) : Prop := u.1 94 21 = nI c.1 ∧ c.1 ≤ 4 ∧ (¬ c.1 = 0 → c.2.1 ≤ L ∧ u.1 94 22 = nI c.2.1) ∧ (c.1 = 0 → c.2.2 ≤ L ∧ u.1 94 22 = -1 ∧ ∃ p, p ≤ L ∧ u.1 94 18 = nI p ∧ spN T L p = spN T L c.2.2)
theorem CM_f {T : Nat → Nat} {L : Nat} {u : AH} {c : Cur} (h : CM T L u c) : (u.1 94 21 = 0) ↔ c.1 = 0 := by rw [h.1, k_0, nI_eq (by have := h.2.1; omega) (by omega)]
theorem CM_f2 {T : Nat → Nat} {L : Nat} {u : AH} {c : Cur} (h : CM T L u c) : (u.1 94 21 ≤ 0) ↔ c.1 = 0 := by rw [h.1, k_0, nI_leI (by have := h.2.1; omega) (by omega)]; omega
theorem CM.pos {T : Nat → Nat} {L : Nat} {u : AH} {c : Cur} (h : CM T L u c) : c.1 = 0 → c.2.2 ≤ L := fun z => (h.2.2.2 z).1
theorem CM.same {T : Nat → Nat} {L : Nat} {h u : AH} {c : Cur} (a : CM T L h c) (e : ∀ k, (k = 18 ∨ k = 21 ∨ k = 22) → u.1 94 k = h.1 94 k) : CM T L u c := by
  unfold CM
  rw [e 18 (by omega), e 21 (by omega), e 22 (by omega)]
  exact a
theorem w64 {b lo hi : Nat} {l64 h64 : Int64} (e1 : l64 = (nI lo).toInt64) (e2 : h64 = (nI hi).toInt64) (hb : b < 2 ^ 31) (hl : lo < 2 ^ 31) (hh : hi < 2 ^ 31) : (l64 ≤ (nI b).toInt64 ∧ (nI b).toInt64 ≤ h64) ↔ (lo ≤ b ∧ b ≤ hi) := by
  rw [e1, e2, fa_wide_le, fa_wide_le, nI_leI hl hb, nI_leI hb hh]

set_option maxRecDepth 100000 in
set_option maxHeartbeats 4000000 in
theorem c_X7_here {h : AH}   {T : Nat → Nat} {L pp : Nat} (hT : TXm T L h) (hp : pp ≤ L) (e : h.1 94 18 = nI pp) : CI yX7_here cX7_here 1 (some .int) 0 0 [.ref 94] h (fun r u => FRt h u ∧ (∀ k, k ≠ 18 → u.1 94 k = h.1 94 k) ∧ u.1 94 18 = nI (spN T L pp) ∧ r = (if spN T L pp < L then nI (T (spN T L pp)) else -1)) := by
  refine CI.of [some (.ref 94)] (by decide +kernel) rfl (Nat.le_of_ble_eq_true rfl) rfl (fun Z hX => ?_)
  have hL := hT.1
  generalize hq : spN T L pp = q
  have LP : ∀ s, s ≤ L → ∀ u : AH, FRt h u → (∀ k, k ≠ 18 → u.1 94 k = h.1 94 k) → u.1 94 18 = nI s → spN T L s = q → EX Z 1 (QI Z (fun r u => FRt h u ∧ (∀ k, k ≠ 18 → u.1 94 k = h.1 94 k) ∧ u.1 94 18 = nI q ∧ r = (if q < L then nI (T q) else -1))) 0 u [some (.ref 94)] [] := by
    refine ldown _ ?_ ?_
    · intro u f o b l
      have el : q = L := by rw [← l, spN, sc_no (Or.inl (Nat.le_refl _))]
      have le : u.1 94 17 ≤ u.1 94 18 := by rw [(hT.of f).2.1, b]; exact nI_le (Nat.le_refl _) (by omega)
      refine sg_X7_here_0 hX ⟨fun _ => ⟨fun _ => ⟨f, o, by rw [b, el], by rw [if_neg (by omega)]⟩, fun z => absurd le z⟩, fun z => absurd le z⟩
    · intro s hs ih u f o b l
      obtain ⟨bk, ek⟩ := (hT.of f).2.2 s hs
      have nle : ¬ u.1 94 17 ≤ u.1 94 18 := by rw [(hT.of f).2.1, b]; exact nI_ge hs (by omega)
      refine sg_X7_here_0 hX ⟨fun z => absurd z nle, fun _ => ?_⟩
      rw [b, nI_clamp (by omega), ek, nI_1]
      refine ⟨vp_in_nI (by omega) (by omega), fun v6 e6 => ⟨fun y => ⟨fun z => absurd (by rw [b]; exact z) nle, fun _ => ⟨vp_in_nI (by omega) (by omega), fun v10 e10 => ?_⟩⟩, fun y u11 e11 => ?_⟩⟩
      · have ns : ¬ T s = 32 := fun w => y (by rw [e6, w]; rfl)
        have el : q = s := by rw [← l, spN, sc_no (Or.inr (decide_eq_false ns))]
        exact ⟨f, o, by rw [el], by rw [e10, el, if_pos hs]⟩
      · have ns : T s = 32 := by
          rw [e6, show (32 : Int32) = nI 32 from rfl, nI_eq (by omega) (by omega)] at y
          exact y
        exact ih u11 (f.set (by omega) e11) (fun k hk => by rw [e11, hs_i hk]; exact o k hk) (by rw [e11, hs_s]) (by rw [← l]; exact (sc_yes hs (decide_eq_true ns)).symm)
  exact LP pp hp h FRt.rf (fun _ _ => rfl) e hq

set_option maxRecDepth 100000 in
set_option maxHeartbeats 4000000 in
theorem c_X7_want {h : AH} {a1 : Int32} {a2 : Int32} {a3 : Int32}  {T : Nat → Nat} {L n w : Nat} {c : Cur} {good : Prop} [Decidable good] (hC : CM T L h c) (hn : 1 ≤ n ∧ n ≤ 4) (hg : a1 = 0 ↔ ¬ good) (e2 : a2 = nI n) (hw : c.1 = 0 → w ≤ L ∧ a3 = nI w) : CI yX7_want cX7_want 4 (some .boolean) 0 0 [.ref 94, .int a1, .int a2, .int a3] h (fun r u => FRt h u ∧ (∀ k, k ≠ 21 → k ≠ 22 → u.1 94 k = h.1 94 k) ∧ CM T L u (if good then c else findC n w c) ∧ r = bI ((if good then c else findC n w c).1 = 0)) := by
  refine CI.of [some (.ref 94), some (.int a1), some (.int a2), some (.int a3)] (by decide +kernel) rfl (Nat.le_of_ble_eq_true rfl) rfl (fun Z hX => ?_)
  subst e2
  refine sg_X7_want_0 hX ⟨fun z => ?_, fun z => ?_⟩
  · have g : good := Decidable.not_not.mp (fun y => z (hg.mpr y))
    rw [if_pos g]
    exact ⟨fun y => ⟨FRt.rf, fun _ _ _ => rfl, hC, by rw [bI_f (fun x => y ((CM_f hC).mpr x))]⟩, fun y => ⟨FRt.rf, fun _ _ _ => rfl, hC, by rw [bI_t ((CM_f hC).mp y)]⟩⟩
  · have g := hg.mp z
    rw [if_neg g]
    refine ⟨fun y => ?_, fun y u5 e5 u6 e6 => ?_⟩
    · have n0 : ¬ c.1 = 0 := fun x => y ((CM_f hC).mpr x)
      rw [findC, if_neg n0]
      exact ⟨fun _ => ⟨FRt.rf, fun _ _ _ => rfl, hC, by rw [bI_f n0]⟩, fun x => absurd x y⟩
    · have c0 := (CM_f hC).mp y
      obtain ⟨w1, w2⟩ := hw c0
      rw [findC, if_pos c0]
      have z21 : u6.1 94 21 = nI n := by rw [e6, hs_i (by omega), e5, hs_s]
      have f6 : FRt h u6 := (FRt.rf.set (by omega) e5).set (by omega) e6
      have o6 : ∀ k, k ≠ 21 → k ≠ 22 → u6.1 94 k = h.1 94 k := fun k h1 h2 => by rw [e6, hs_i h2, e5, hs_i h1]
      refine ⟨fun _ => ⟨f6, o6, ⟨z21, hn.2, fun _ => ⟨w1, by rw [e6, hs_s, w2]⟩, fun x => absurd x (by show ¬ n = 0; omega)⟩, by rw [bI_f (by show ¬ n = 0; omega)]⟩, fun x => absurd x ?_⟩
      rw [z21]
      exact nI_ne0 (by omega) (by omega)

set_option maxRecDepth 100000 in
set_option maxHeartbeats 4000000 in
theorem c_X7_takeWord {h : AH}   {T : Nat → Nat} {L : Nat} {c : Cur} (hT : TXm T L h) (hC : CM T L h c) (c0 : c.1 = 0) : CV yX7_takeWord cX7_takeWord 2 1 25 [.ref 94] h (fun u => FRt h u ∧ u.1 94 19 = nI (spN T L c.2.2) ∧ u.1 94 20 = nI (leN T L (spN T L c.2.2) - spN T L c.2.2) ∧ u.1 94 18 = nI (leN T L (spN T L c.2.2)) ∧ CM T L u (0, 0, leN T L (spN T L c.2.2))) := by
  refine CV.of [some (.ref 94), none] (by decide +kernel) rfl (Nat.le_of_ble_eq_true rfl) rfl (fun Z hX => ?_)
  have hL := hT.1
  obtain ⟨cp, c22, p0, hp0, e18, esp⟩ := hC.2.2.2 c0
  have hq := (sp_le (T := T) cp).2
  generalize hq0 : spN T L c.2.2 = q at *
  have ql := le_le (T := T) hq
  have z21 : h.1 94 21 = 0 := (CM_f hC).mpr c0
  have LP : ∀ e, e ≤ L → ∀ u : AH, q ≤ e → FRt h u → u.1 94 19 = nI q → u.1 94 18 = nI e → u.1 94 21 = 0 → u.1 94 22 = -1 → leN T L e = leN T L q → EX Z 2 (QV Z (fun u => FRt h u ∧ u.1 94 19 = nI q ∧ u.1 94 20 = nI (leN T L q - q) ∧ u.1 94 18 = nI (leN T L q) ∧ CM T L u (0, 0, leN T L q))) 13 u [some (.ref 94), none] [] := by
    have END : ∀ (u u2 : AH) (e : Nat), q ≤ e → e ≤ L → FRt h u → u.1 94 19 = nI q → u.1 94 18 = nI e → u.1 94 21 = 0 → u.1 94 22 = -1 → leN T L q = e → u2 = (hset u.1 94 20 ((u.1 94 18) - (u.1 94 19)), u.2) → FRt h u2 ∧ u2.1 94 19 = nI q ∧ u2.1 94 20 = nI (leN T L q - q) ∧ u2.1 94 18 = nI (leN T L q) ∧ CM T L u2 (0, 0, leN T L q) := by
      intro u u2 e hqe hel f a b d1 d2 l e2
      rw [a, b, pk_sub hqe] at e2
      refine ⟨f.set (by omega) e2, by rw [e2, hs_i (by omega)]; exact a, by rw [e2, hs_s, l], by rw [e2, hs_i (by omega), l]; exact b, by rw [e2, hs_i (by omega)]; exact d1, Nat.zero_le _, fun z => absurd rfl z, fun _ => ⟨by show leN T L q ≤ L; omega, by rw [e2, hs_i (by omega)]; exact d2, e, hel, by rw [e2, hs_i (by omega)]; exact b, by rw [l]⟩⟩
    refine ldown _ ?_ ?_
    · intro u hqe f a b d1 d2 l
      have el : leN T L q = L := by rw [← l, leN, sc_no (Or.inl (Nat.le_refl _))]
      exact sg_X7_takeWord_13 hX ⟨fun _ u2 e2 => END u u2 L hqe (Nat.le_refl _) f a b d1 d2 el e2, fun z => absurd (by rw [(hT.of f).2.1, b]; exact nI_le (Nat.le_refl _) (by omega)) z⟩
    · intro k hk ih u hqe f a b d1 d2 l
      obtain ⟨bk, ek⟩ := (hT.of f).2.2 k hk
      refine sg_X7_takeWord_13 hX ⟨fun z => absurd z (by rw [(hT.of f).2.1, b]; exact nI_ge hk (by omega)), fun _ => ?_⟩
      have lt : (97 ≤ (nI (T k)).toInt64 ∧ (nI (T k)).toInt64 ≤ 122) ↔ isLt (T k) = true := by
        rw [w64 (lo := 97) (hi := 122) (by decide) (by decide) (by omega) (by omega) (by omega)]
        exact ⟨fun z => decide_eq_true z, fun z => of_decide_eq_true z⟩
      refine ⟨by rw [b]; exact vp_in_nI (by omega) (by omega), fun v4 e4 => ?_⟩
      rw [b, nI_clamp (by omega), ek] at e4
      rw [e4, lt]
      refine ⟨fun y u2 e2 => ?_, fun y u2 e2 => ?_⟩
      · have el : leN T L q = k := by rw [← l, leN, sc_no (q := fun j => isLt (T j)) (Or.inr (Bool.eq_false_iff.mpr y))]
        exact END u u2 k hqe (by omega) f a b d1 d2 el e2
      · rw [b, nI_1] at e2
        exact ih u2 (by omega) (f.set (by omega) e2) (by rw [e2, hs_i (by omega)]; exact a) (by rw [e2, hs_s]) (by rw [e2, hs_i (by omega)]; exact d1) (by rw [e2, hs_i (by omega)]; exact d2) (by rw [← l]; exact (sc_yes hk y).symm)
  refine sg_X7_takeWord_0 hX ⟨_, c_X7_here hT hp0 e18, fun r u hu => sg_X7_takeWord_4 hX ?_⟩
  obtain ⟨f, o, b, -⟩ := hu
  rw [esp] at b
  refine LP q hq _ (Nat.le_refl _) (f.set (by omega) rfl) ?_ ?_ ?_ ?_ rfl
  · rw [hs_s]; exact b
  · rw [hs_i (by omega)]; exact b
  · rw [hs_i (by omega), o 21 (by omega)]; exact z21
  · rw [hs_i (by omega), o 22 (by omega)]; exact c22

set_option maxRecDepth 100000 in
set_option maxHeartbeats 4000000 in
theorem c_X7_isWord {h : AH} {a1 : Int32} {a2 : Int32} {a3 : Int32} {a4 : Int32} {a5 : Int32}  {T : Nat → Nat} {L q i : Nat} (hi : i < 6) (hT : TXm T L h) (hq : q ≤ L) (e19 : h.1 94 19 = nI q) (e20 : h.1 94 20 = nI (leN T L q - q)) (e1 : a1 = nI (sL.getD i 0)) (e2 : a2 = nI (wB i 0)) (e3 : a3 = nI (wB i 1)) (e4 : a4 = nI (wB i 2)) (e5 : a5 = nI (wB i 3)) : CI yX7_isWord cX7_isWord 8 (some .boolean) 0 0 [.ref 94, .int a1, .int a2, .int a3, .int a4, .int a5] h (fun r u => r = bI (isW T L q i = true) ∧ u = h) := by
  refine CI.of [some (.ref 94), some (.int a1), some (.int a2), some (.int a3), some (.int a4), some (.int a5), none, none] (by decide +kernel) rfl (Nat.le_of_ble_eq_true rfl) rfl (fun Z hX => ?_)
  have hL := hT.1
  have h4 := sL_lt i hi
  have ll := le_le (T := T) hq
  have LP : ∀ n, n ≤ sL.getD i 0 → ∀ x6 : Int32, x6 = bI (leN T L q - q = sL.getD i 0 ∧ ∀ j, j < n → T (q + j) = wB i j) → EX Z 8 (QI Z (fun r u => r = bI (isW T L q i = true) ∧ u = h)) 18 h [some (.ref 94), some (.int a1), some (.int a2), some (.int a3), some (.int a4), some (.int a5), some (.int x6), some (.int (nI n))] [] := by
    refine ldown _ ?_ ?_
    · intro x6 e6
      refine sg_X7_isWord_18 hX ⟨fun _ => ⟨by rw [e6]; exact bI_nar, ?_, rfl⟩, fun z => absurd (by rw [e1]; exact nI_le (Nat.le_refl _) (by omega)) z⟩
      rw [e6]
      exact bI_congr ⟨fun z => decide_eq_true z, fun z => of_decide_eq_true z⟩
    · intro n hn ih x6 e6
      refine sg_X7_isWord_18 hX ⟨fun z => absurd z (by rw [e1]; exact nI_ge hn (by omega)), fun _ => ⟨fun z => ⟨by rw [e6]; exact bI_nar, ?_, rfl⟩, fun z => ?_⟩⟩
      · rw [z]
        rw [e6, bI_0] at z
        rw [bI_f (fun y => z ⟨(of_decide_eq_true y).1, fun j hj => (of_decide_eq_true y).2 j (by omega)⟩)]
      · rw [e6, bI_n0] at z
        obtain ⟨b, eb⟩ := hT.2.2 (q + n) (by omega)
        obtain ⟨-, w2⟩ := chS_w i hi n hn
        rw [e19, nI_add, nI_clamp (by omega), eb, nI_1]
        refine ⟨vp_in_nI (by omega) (by omega), fun v6 g6 v10 g10 => ih _ ?_⟩
        have e10 : v10 = nI (wB i n) := by
          have ne : ∀ m : Nat, m ≤ 2 → ¬ n = m → ¬ nI n = nI m := fun m hm hne w => hne ((nI_eq (by omega) (by omega)).mp w)
          rw [g10]
          by_cases n0 : n = 0
          · rw [if_pos (show nI n = 0 by rw [n0]; rfl), n0, e2]
          · rw [if_neg (show ¬ nI n = 0 from ne 0 (by omega) n0)]
            by_cases n1 : n = 1
            · rw [if_pos (show nI n = 1 by rw [n1]; rfl), n1, e3]
            · rw [if_neg (show ¬ nI n = 1 from ne 1 (by omega) n1)]
              by_cases n2 : n = 2
              · rw [if_pos (show nI n = 2 by rw [n2]; rfl), n2, e4]
              · rw [if_neg (show ¬ nI n = 2 from ne 2 (by omega) n2), show n = 3 by omega, e5]
        rw [g6, e10]
        refine bI_congr ?_
        rw [nI_eq (by omega) (by omega)]
        constructor
        · intro y
          refine ⟨z.1, fun j hj => ?_⟩
          by_cases c : j = n
          · rw [c]; exact y
          · exact z.2 j (by omega)
        · intro y
          exact y.2 n (by omega)
  refine sg_X7_isWord_0 hX (LP 0 (by omega) _ (bI_congr ?_))
  rw [e20, e1, nI_eq (by omega) (by omega)]
  exact ⟨fun z => ⟨z, fun j hj => absurd hj (by omega)⟩, fun z => z.1⟩

set_option maxRecDepth 100000 in
set_option maxHeartbeats 4000000 in
theorem c_X7_takeNumber {h : AH} {a1 : Int32} {a2 : Int32}  {T : Nat → Nat} {L lo hi : Nat} {c : Cur} (hT : TXm T L h) (hC : CM T L h c) (hlo : lo ≤ 1) (hhi : hi ≤ 9999) (e1 : a1 = nI lo) (e2 : a2 = nI hi) : CI yX7_takeNumber cX7_takeNumber 6 (some .int) 1 25 [.ref 94, .int a1, .int a2] h (fun r u => FRt h u ∧ CM T L u (numC T L lo hi c).1 ∧ ((numC T L lo hi c).1.1 = 0 → r = nI (numC T L lo hi c).2.1 ∧ u.1 94 19 = nI (numC T L lo hi c).2.2 ∧ (numC T L lo hi c).2.2 ≤ L)) := by
  refine CI.of [some (.ref 94), some (.int a1), some (.int a2), none, none, none] (by decide +kernel) rfl (Nat.le_of_ble_eq_true rfl) rfl (fun Z hX => ?_)
  subst e1 e2
  have hL := hT.1
  refine sg_X7_takeNumber_0 hX ⟨fun z => ?_, fun z => ?_⟩
  case refine_2 =>
    have n0 : ¬ c.1 = 0 := fun y => z ((CM_f2 hC).mpr y)
    rw [num_f n0]
    exact ⟨FRt.rf, hC, fun y => absurd y n0⟩
  have c0 := (CM_f2 hC).mp z
  obtain ⟨cp, c22, p0, hp0, e18, esp⟩ := hC.2.2.2 c0
  have hq := (sp_le (T := T) cp).2
  have en : numC T L lo hi c = numQ T L lo hi (spN T L c.2.2) := by rw [numC, if_pos c0]
  rw [en]
  have z21 : h.1 94 21 = 0 := (CM_f hC).mpr c0
  refine ⟨_, c_X7_here hT hp0 e18, fun r u hu => ?_⟩
  obtain ⟨f, o, b, er⟩ := hu
  rw [esp] at b er
  have sp2 := sp_sp (T := T) cp
  generalize spN T L c.2.2 = q at *
  refine sg_X7_takeNumber_13 hX (fun u1 g1 => ?_)
  rw [b] at g1
  have f1 : FRt h u1 := f.set (by omega) g1
  have b1 : u1.1 94 18 = nI q := by rw [g1, hs_i (by omega)]; exact b
  have s1 : u1.1 94 19 = nI q := by rw [g1, hs_s]
  have m1 : CM T L u1 (0, 0, q) := ⟨by rw [g1, hs_i (by omega), o 21 (by omega)]; exact z21, Nat.zero_le _, fun y => absurd rfl y, fun _ => ⟨hq, by rw [g1, hs_i (by omega), o 22 (by omega)]; exact c22, q, hq, b1, rfl⟩⟩
  have gd : (bI (48 ≤ (Int32.toInt64 r) ∧ (Int32.toInt64 r) ≤ 57) = 0) ↔ ¬ (q < L ∧ isFg (T q) = true) := by
    rw [bI_0]
    refine not_congr ?_
    rw [er]
    by_cases ql : q < L
    · have := (hT.2.2 q ql).1
      rw [if_pos ql, w64 (lo := 48) (hi := 57) (by decide) (by decide) (by omega) (by omega) (by omega)]
      exact ⟨fun y => ⟨ql, decide_eq_true y⟩, fun y => of_decide_eq_true y.2⟩
    · rw [if_neg ql]
      exact ⟨fun y => absurd y.1 (by decide), fun y => absurd y.1 ql⟩
  refine ⟨_, c_X7_want (n := 1) (w := q) m1 (by omega) gd rfl (fun _ => ⟨hq, b1⟩), fun r2 u2 p2 => ?_⟩
  obtain ⟨f2, o2, m2, er2⟩ := p2
  refine sg_X7_takeNumber_42 hX ⟨fun y => ?_, fun y => ?_⟩
  case refine_2 =>
    rw [er2, bI_0] at y
    by_cases g : q < L ∧ isFg (T q) = true
    · rw [if_pos g] at y; exact absurd rfl y
    · rw [if_neg g] at m2
      rw [numQ, if_neg g]
      exact ⟨f1.tr f2, m2, fun x => absurd x (by show ¬ (1 : Nat) = 0; omega)⟩
  rw [er2, bI_n0] at y
  have g : q < L ∧ isFg (T q) = true := by
    by_cases g : q < L ∧ isFg (T q) = true
    · exact g
    · rw [if_neg g] at y
      exact absurd y (by show ¬ (1 : Nat) = 0; omega)
  rw [if_pos g] at m2
  rw [numQ, if_pos g]
  have fe := fe_le (T := T) hq
  -- the figures
  generalize hpost : (fun (r : Int32) (u : AH) => FRt h u ∧ CM T L u (if feN T L q - q ≤ 4 ∧ lo ≤ decN T q (feN T L q - q) ∧ decN T q (feN T L q - q) ≤ hi then (((0, 0, feN T L q) : Cur), decN T q (feN T L q - q), q) else (((2, q, 0) : Cur), 0, q)).1 ∧ ((if feN T L q - q ≤ 4 ∧ lo ≤ decN T q (feN T L q - q) ∧ decN T q (feN T L q - q) ≤ hi then (((0, 0, feN T L q) : Cur), decN T q (feN T L q - q), q) else (((2, q, 0) : Cur), 0, q)).1.1 = 0 → r = nI (if feN T L q - q ≤ 4 ∧ lo ≤ decN T q (feN T L q - q) ∧ decN T q (feN T L q - q) ≤ hi then (((0, 0, feN T L q) : Cur), decN T q (feN T L q - q), q) else (((2, q, 0) : Cur), 0, q)).2.1 ∧ u.1 94 19 = nI (if feN T L q - q ≤ 4 ∧ lo ≤ decN T q (feN T L q - q) ∧ decN T q (feN T L q - q) ≤ hi then (((0, 0, feN T L q) : Cur), decN T q (feN T L q - q), q) else (((2, q, 0) : Cur), 0, q)).2.2 ∧ (if feN T L q - q ≤ 4 ∧ lo ≤ decN T q (feN T L q - q) ∧ decN T q (feN T L q - q) ≤ hi then (((0, 0, feN T L q) : Cur), decN T q (feN T L q - q), q) else (((2, q, 0) : Cur), 0, q)).2.2 ≤ L)) = post
  have dl : feN T L q - q ≤ 4 → decN T q (feN T L q - q) < 10000 := fun n4 => by
    have dl := dec_lt (T := T) (q := q) (feN T L q - q) (fun j hj => sc_in (q := fun j => isFg (T j)) (L := L) (p := q) (t := q + j) (by omega) (by have : scN (fun j => isFg (T j)) L q = feN T L q := rfl; omega))
    have d4 : (10 : Nat) ^ (feN T L q - q) ≤ 10 ^ 4 := Nat.pow_le_pow_right (by decide) n4
    omega
  have END : ∀ (u : AH) (x4 v4 : Int32), FRt h u → u.1 94 19 = nI q → u.1 94 18 = nI (feN T L q) → u.1 94 21 = 0 → u.1 94 22 = -1 → (feN T L q - q ≤ 4 → x4 = nI (decN T q (feN T L q - q))) → v4 = (if 5 ≤ ((u.1 94 18) - (u.1 94 19)) then (0 : Int32) else (bI (((Int32.toInt64 (nI lo)) ≤ (Int32.toInt64 x4) ∧ (Int32.toInt64 x4) ≤ (Int32.toInt64 (nI hi)))))) → ∃ PP : Int32 → AH → Prop, CI yX7_want cX7_want 4 (some .boolean) 0 0 [.ref 94, .int v4, .int 2, .int (u.1 94 19)] u PP ∧ ∀ (r : Int32) (u : AH), PP r u → EX Z 6 (QI Z post) 168 u [none, none, none, none, some (.int x4), none] (.int r :: []) := by
    intro u x4 v4 fu a b d1 d2 hv e4
    have mu : CM T L u (0, 0, feN T L q) := ⟨d1, Nat.zero_le _, fun y => absurd rfl y, fun _ => ⟨fe.2, d2, _, fe.2, b, rfl⟩⟩
    have gd : v4 = 0 ↔ ¬ (feN T L q - q ≤ 4 ∧ lo ≤ decN T q (feN T L q - q) ∧ decN T q (feN T L q - q) ≤ hi) := by
      have c5 : (5 ≤ nI (feN T L q - q)) ↔ 5 ≤ feN T L q - q := by rw [k_5, nI_leI (by omega) (by omega)]
      rw [e4, a, b, pk_sub fe.1]
      by_cases n4 : feN T L q - q ≤ 4
      · have := dl n4
        rw [if_neg (fun w => absurd (c5.mp w) (by omega)), hv n4, bI_0, w64 (lo := lo) (hi := hi) rfl rfl (by omega) (by omega) (by omega)]
        exact ⟨fun y x => y x.2, fun y x => y ⟨n4, x⟩⟩
      · rw [if_pos (c5.mpr (by omega))]
        exact ⟨fun _ y => n4 y.1, fun _ => rfl⟩
    refine ⟨_, c_X7_want (n := 2) (w := q) mu (by omega) gd rfl (fun _ => ⟨hq, a⟩), fun r3 u3 p3 => sg_X7_takeNumber_168 hX ?_⟩
    obtain ⟨f3, o3, m3, er3⟩ := p3
    rw [← hpost]
    by_cases g : feN T L q - q ≤ 4 ∧ lo ≤ decN T q (feN T L q - q) ∧ decN T q (feN T L q - q) ≤ hi
    · rw [if_pos g] at m3
      rw [if_pos g]
      exact ⟨fu.tr f3, m3, fun _ => ⟨hv g.1, by rw [o3 19 (by omega) (by omega)]; exact a, hq⟩⟩
    · rw [if_neg g] at m3
      rw [if_neg g]
      exact ⟨fu.tr f3, m3, fun y => absurd y (by show ¬ (2 : Nat) = 0; omega)⟩
  have LP : ∀ e, e ≤ L → ∀ (u : AH) (x4 : Int32), q ≤ e → FRt h u → u.1 94 19 = nI q → u.1 94 18 = nI e → u.1 94 21 = 0 → u.1 94 22 = -1 → feN T L e = feN T L q → (e - q ≤ 4 → x4 = nI (decN T q (e - q)) ∧ decN T q (e - q) < 10000) → EX Z 6 (QI Z post) 50 u [some (.ref 94), some (.int (nI lo)), some (.int (nI hi)), none, some (.int x4), none] [] := by
    refine ldown _ ?_ ?_
    · intro u x4 hqe fu a b d1 d2 l v
      have el : feN T L q = L := by rw [← l, feN, sc_no (Or.inl (Nat.le_refl _))]
      exact sg_X7_takeNumber_50 hX ⟨fun _ v4 e4 => END u x4 v4 fu a (by rw [el]; exact b) d1 d2 (fun w => by rw [el] at w ⊢; exact (v w).1) e4, fun y => absurd (by rw [(hT.of fu).2.1, b]; exact nI_le (Nat.le_refl _) (by omega)) y⟩
    · intro k hk ih u x4 hqe fu a b d1 d2 l v
      obtain ⟨bk, ek⟩ := (hT.of fu).2.2 k hk
      have lt : (48 ≤ (nI (T k)).toInt64 ∧ (nI (T k)).toInt64 ≤ 57) ↔ isFg (T k) = true := by
        rw [w64 (lo := 48) (hi := 57) (by decide) (by decide) (by omega) (by omega) (by omega)]
        exact ⟨fun z => decide_eq_true z, fun z => of_decide_eq_true z⟩
      refine sg_X7_takeNumber_50 hX ⟨fun y => absurd y (by rw [(hT.of fu).2.1, b]; exact nI_ge hk (by omega)), fun _ => ⟨by rw [b]; exact vp_in_nI (by omega) (by omega), fun v6 e6 => ?_⟩⟩
      have e6' : v6 = nI (T k) := by rw [e6, b, nI_clamp (by omega), ek]
      rw [e6', lt]
      refine ⟨fun y v10 e10 => ?_, fun y => ⟨fun _ => ⟨by rw [b]; exact vp_in_nI (by omega) (by omega), trivial⟩, fun v13 e13 u14 e14 => ?_⟩⟩
      · have el : feN T L q = k := by rw [← l, feN, sc_no (q := fun j => isFg (T j)) (Or.inr (Bool.eq_false_iff.mpr y))]
        exact END u x4 v10 fu a (by rw [el]; exact b) d1 d2 (fun w => by rw [el] at w ⊢; exact (v w).1) e10
      · have fk := of_decide_eq_true y
        rw [b, nI_1] at e14
        refine ih u14 v13 (by omega) (fu.set (by omega) e14) (by rw [e14, hs_i (by omega)]; exact a) (by rw [e14, hs_s]) (by rw [e14, hs_i (by omega)]; exact d1) (by rw [e14, hs_i (by omega)]; exact d2) (by rw [← l]; exact (sc_yes hk y).symm) (fun n4 => ?_)
        obtain ⟨v1, v2⟩ := v (by omega)
        have dd : decN T q (k + 1 - q) = decN T q (k - q) * 10 + (T k - 48) := by rw [show k + 1 - q = (k - q) + 1 by omega, decN, show q + (k - q) = k by omega]
        have qk : ∀ j, j < k - q → isFg (T (q + j)) = true := fun j hj => sc_in (q := fun j => isFg (T j)) (L := L) (p := q) (t := q + j) (by omega) (by have : scN (fun j => isFg (T j)) L q = feN T L q := rfl; have := (fe_le (T := T) (L := L) (p := k) (by omega)).1; omega)
        have d3 := dec_lt (T := T) (q := q) (k - q) qk
        have d4 : (10 : Nat) ^ (k - q) ≤ 10 ^ 3 := Nat.pow_le_pow_right (by decide) (by omega)
        rw [dd]
        refine ⟨?_, by omega⟩
        rw [e13, v1, if_pos (by rw [show (999999 : Int32) = nI 999999 from rfl]; exact nI_le (by omega) (by omega)), b, nI_clamp (by omega), ek, show (10 : Int32) = nI 10 from rfl, pk_mul, nI_add, show (48 : Int32) = nI 48 from rfl, pk_sub (by omega)]
        congr 1
        omega
  refine LP q hq u2 0 (Nat.le_refl _) (f1.tr f2) (by rw [o2 19 (by omega) (by omega)]; exact s1) (by rw [o2 18 (by omega) (by omega)]; exact b1) ((CM_f m2).mpr rfl) ((m2.2.2.2 rfl).2.1) rfl (fun _ => ?_)
  rw [Nat.sub_self]
  exact ⟨rfl, by show (0 : Nat) < 10000; omega⟩

set_option maxRecDepth 100000 in
set_option maxHeartbeats 4000000 in
theorem c_X7_takeEnd {h : AH}   {T : Nat → Nat} {L : Nat} {c : Cur} (hT : TXm T L h) (hC : CM T L h c) : CV yX7_takeEnd cX7_takeEnd 1 1 23 [.ref 94] h (fun u => FRt h u ∧ CM T L u (signC T L 59 c)) := by
  refine CV.of [some (.ref 94)] (by decide +kernel) rfl (Nat.le_of_ble_eq_true rfl) rfl (fun Z hX => ?_)
  have hL := hT.1
  refine sg_X7_takeEnd_0 hX ⟨fun z => ?_, fun z => ?_⟩
  · have n0 : ¬ c.1 = 0 := fun y => z ((CM_f hC).mpr y)
    rw [sign_f n0]
    exact ⟨FRt.rf, hC⟩
  have c0 := (CM_f hC).mp z
  obtain ⟨cp, c22, p0, hp0, e18, esp⟩ := hC.2.2.2 c0
  have hq := (sp_le (T := T) cp).2
  have en : signC T L 59 c = signQ T L 59 (spN T L c.2.2) := by rw [signC, if_pos c0]
  rw [en]
  refine ⟨_, c_X7_here hT hp0 e18, fun r u hu => ?_⟩
  obtain ⟨f, o, b, er⟩ := hu
  rw [esp] at b er
  generalize spN T L c.2.2 = q at *
  have m1 : CM T L u (0, 0, q) := ⟨by rw [o 21 (by omega)]; exact z, Nat.zero_le _, fun y => absurd rfl y, fun _ => ⟨hq, by rw [o 22 (by omega)]; exact c22, q, hq, b, rfl⟩⟩
  have gd : (bI (r = 59) = 0) ↔ ¬ (q < L ∧ T q = 59) := by
    rw [bI_0]
    refine not_congr ?_
    rw [er]
    by_cases ql : q < L
    · have := (hT.2.2 q ql).1
      rw [if_pos ql, show (59 : Int32) = nI 59 from rfl, nI_eq (by omega) (by omega)]
      exact ⟨fun y => ⟨ql, y⟩, fun y => y.2⟩
    · rw [if_neg ql]
      exact ⟨fun y => absurd y (by decide), fun y => absurd y.1 ql⟩
  refine sg_X7_takeEnd_12 hX ⟨_, c_X7_want (n := 1) (w := q) m1 (by omega) gd rfl (fun _ => ⟨hq, b⟩), fun r2 u2 p2 => ?_⟩
  obtain ⟨f2, o2, m2, er2⟩ := p2
  unfold signQ
  refine sg_X7_takeEnd_30 hX ⟨fun y => ?_, fun y u3 e3 => ?_⟩
  · rw [er2, bI_0] at y
    by_cases g : q < L ∧ T q = 59
    · rw [if_pos g] at y; exact absurd rfl y
    · rw [if_neg g] at m2 ⊢
      exact ⟨f.tr f2, m2⟩
  · rw [er2, bI_n0] at y
    by_cases g : q < L ∧ T q = 59
    · rw [if_pos g] at m2 ⊢
      rw [o2 18 (by omega) (by omega), b, nI_1] at e3
      exact ⟨(f.tr f2).set (by omega) e3, by rw [e3, hs_i (by omega)]; exact m2.1, Nat.zero_le _, fun x => absurd rfl x, fun _ => ⟨g.1, by rw [e3, hs_i (by omega)]; exact (m2.2.2.2 rfl).2.1, q + 1, g.1, by rw [e3, hs_s], rfl⟩⟩
    · rw [if_neg g] at y
      exact absurd y (by show ¬ (1 : Nat) = 0; omega)

set_option maxRecDepth 100000 in
set_option maxHeartbeats 4000000 in
theorem c_X7_beginReading {h : AH}   {T : Nat → Nat} {L : Nat} : CV yX7_beginReading cX7_beginReading 1 0 0 [.ref 94] h (fun u => FRt h u ∧ CM T L u (0, 0, 0)) := by
  refine CV.of [some (.ref 94)] (by decide +kernel) rfl (Nat.le_of_ble_eq_true rfl) rfl (fun Z hX => ?_)
  refine sg_X7_beginReading_0 hX (fun u1 e1 u2 e2 u3 e3 => ?_)
  refine ⟨((FRt.rf.set (by omega) e1).set (by omega) e2).set (by omega) e3, by rw [e3, hs_i (by omega), e2, hs_s]; rfl, Nat.zero_le _, fun x => absurd rfl x, fun _ => ⟨Nat.zero_le _, by rw [e3, hs_s], 0, Nat.zero_le _, by rw [e3, hs_i (by omega), e2, hs_i (by omega), e1, hs_s]; rfl, rfl⟩⟩
