set_option maxRecDepth 100000 in
set_option maxHeartbeats 4000000 in
theorem sg_X3_obey_0 {Z : CX × GX} {post : AH → Prop} {h : AH} {x0 : Nat} {x1 : Nat} (hX : OK Z RX3 cX3_obey 4 none 0 0) (ox0 : oc x0 = some 3) (ox1 : oc x1 = some 1)
    (w : EX Z 4 (QV Z post) 2 h [some (.ref x0), some (.ref x1), some (.int 0), none] [])
    : EX Z 4 (QV Z post) 0 h [some (.ref x0), some (.ref x1), none, none] [] := by
  refine ex_iconst (v := 0) hX dX3_obey_0 rfl ?_
  refine ex_istore_n (lv' := [some (.ref x0), some (.ref x1), some (.int 0), none]) hX dX3_obey_1 rfl (by decide) rfl ?_
  exact w

set_option maxRecDepth 100000 in
set_option maxHeartbeats 4000000 in
theorem sg_X3_obey_2 {Z : CX × GX} {post : AH → Prop} {h : AH} {x0 : Nat} {x1 : Nat} {x2 : Int32} (hX : OK Z RX3 cX3_obey 4 none 0 0) (ox0 : oc x0 = some 3) (ox1 : oc x1 = some 1)
    (w : (((h.1 x1 0) ≤ x2 → post h) ∧ (¬ (h.1 x1 0) ≤ x2 → (vp_in x2 30) ∧ (vp_in x2 30) ∧ ((¬ (h.1 (x1 + 1) (Int32.toNatClampNeg x2)) = (h.1 x0 0) → EX Z 4 (QV Z post) 2 h [some (.ref x0), some (.ref x1), some (.int (x2 + 1)), none] []) ∧ ((h.1 (x1 + 1) (Int32.toNatClampNeg x2)) = (h.1 x0 0) → (∀ v5 : Int32, v5 = (h.1 x0 2) >>> ((h.1 (x1 + 2) (Int32.toNatClampNeg x2)) &&& 31) → ((¬ (v5 &&& 1) = 0 → EX Z 4 (QV Z post) 2 h [some (.ref x0), some (.ref x1), some (.int (x2 + 1)), none] []) ∧ ((v5 &&& 1) = 0 → (vp_in x2 30) ∧ (vp_in (h.1 (x1 + 2) (Int32.toNatClampNeg x2)) 9) ∧ (∀ u9 : AH, u9 = (hset h.1 (x0 + 3) (Int32.toNatClampNeg (h.1 (x1 + 2) (Int32.toNatClampNeg x2))) (h.1 (x1 + 3) (Int32.toNatClampNeg x2)), h.2) → EX Z 4 (QV Z post) 2 u9 [some (.ref x0), some (.ref x1), some (.int (x2 + 1)), none] [])))))))))
    : EX Z 4 (QV Z post) 2 h [some (.ref x0), some (.ref x1), some (.int x2), none] [] := by
  refine ex_iload_n hX dX3_obey_2 rfl rfl ?_
  refine ex_aload_n hX dX3_obey_3 rfl rfl ?_
  refine ex_get hX (.int (h.1 x1 0)) FL_3_107 ox1 (fun _ => rfl) dX3_obey_4 ?_
  refine ex_icmpge hX 59 dX3_obey_7 (by decide) (fun c1 => ?_) (fun c1 => ?_)
  · replace w := w.1 c1
    exact ex_vret hX dX3_obey_59 w
  · replace w := w.2 c1
    refine ex_aload_n hX dX3_obey_10 rfl rfl ?_
    refine ex_get hX (.ref (x1 + 2)) FL_3_110 ox1 (fun _ => rfl) dX3_obey_11 ?_
    refine ex_iload_n hX dX3_obey_14 rfl rfl ?_
    obtain ⟨q2, w⟩ := w
    refine ex_iald hX (sh_1_2 ox1) q2 dX3_obey_15 ?_
    refine ex_istore_n (lv' := [some (.ref x0), some (.ref x1), some (.int x2), some (.int (h.1 (x1 + 2) (Int32.toNatClampNeg x2)))]) hX dX3_obey_16 rfl (by decide) rfl ?_
    refine ex_aload_n hX dX3_obey_17 rfl rfl ?_
    refine ex_get hX (.ref (x1 + 1)) FL_3_113 ox1 (fun _ => rfl) dX3_obey_18 ?_
    refine ex_iload_n hX dX3_obey_21 rfl rfl ?_
    obtain ⟨q3, w⟩ := w
    refine ex_iald hX (sh_1_1 ox1) q3 dX3_obey_22 ?_
    refine ex_aload_n hX dX3_obey_23 rfl rfl ?_
    refine ex_get hX (.int (h.1 x0 0)) FL_3_37 ox0 (fun _ => rfl) dX3_obey_24 ?_
    refine ex_icmpne hX 53 dX3_obey_27 (by decide) (fun c4 => ?_) (fun c4 => ?_)
    · replace w := w.1 c4
      refine ex_iinc (v := x2 + 1) (lv' := [some (.ref x0), some (.ref x1), some (.int (x2 + 1)), some (.int (h.1 (x1 + 2) (Int32.toNatClampNeg x2)))]) hX dX3_obey_53 rfl rfl (by decide) rfl ?_
      refine ex_goto hX 2 dX3_obey_56 (by decide) ?_
      exact ex_forget [some (.ref x0), some (.ref x1), some (.int (x2 + 1)), none] ⟨rfl, ⟨rfl, ⟨rfl, trivial⟩⟩⟩ w
    · replace w := w.2 c4
      refine ex_aload_n hX dX3_obey_30 rfl rfl ?_
      refine ex_get hX (.int (h.1 x0 2)) FL_3_59 ox0 (fun _ => rfl) dX3_obey_31 ?_
      refine ex_iload_n hX dX3_obey_34 rfl rfl ?_
      refine ex_ishr hX dX3_obey_35 ?_
      refine ex_nameI (fun v5 ev5 => ?_)
      replace w := w v5 ev5
      refine ex_iconst (v := 1) hX dX3_obey_36 rfl ?_
      refine ex_iand hX dX3_obey_37 ?_
      refine ex_ifne hX 53 dX3_obey_38 (by decide) (fun c6 => ?_) (fun c6 => ?_)
      · replace w := w.1 c6
        refine ex_iinc (v := x2 + 1) (lv' := [some (.ref x0), some (.ref x1), some (.int (x2 + 1)), some (.int (h.1 (x1 + 2) (Int32.toNatClampNeg x2)))]) hX dX3_obey_53 rfl rfl (by decide) rfl ?_
        refine ex_goto hX 2 dX3_obey_56 (by decide) ?_
        exact ex_forget [some (.ref x0), some (.ref x1), some (.int (x2 + 1)), none] ⟨rfl, ⟨rfl, ⟨rfl, trivial⟩⟩⟩ w
      · replace w := w.2 c6
        refine ex_aload_n hX dX3_obey_41 rfl rfl ?_
        refine ex_get hX (.ref (x0 + 3)) FL_3_18 ox0 (fun _ => rfl) dX3_obey_42 ?_
        refine ex_iload_n hX dX3_obey_45 rfl rfl ?_
        refine ex_aload_n hX dX3_obey_46 rfl rfl ?_
        refine ex_get hX (.ref (x1 + 3)) FL_3_115 ox1 (fun _ => rfl) dX3_obey_47 ?_
        refine ex_iload_n hX dX3_obey_50 rfl rfl ?_
        obtain ⟨q7, w⟩ := w
        refine ex_iald hX (sh_1_3 ox1) q7 dX3_obey_51 ?_
        obtain ⟨q8, w⟩ := w
        refine ex_iast hX (sh_3_3 ox0) q8 dX3_obey_52 ?_
        refine ex_nameH (fun u9 eu9 => ?_)
        replace w := w u9 eu9
        refine ex_iinc (v := x2 + 1) (lv' := [some (.ref x0), some (.ref x1), some (.int (x2 + 1)), some (.int (h.1 (x1 + 2) (Int32.toNatClampNeg x2)))]) hX dX3_obey_53 rfl rfl (by decide) rfl ?_
        refine ex_goto hX 2 dX3_obey_56 (by decide) ?_
        exact ex_forget [some (.ref x0), some (.ref x1), some (.int (x2 + 1)), none] ⟨rfl, ⟨rfl, ⟨rfl, trivial⟩⟩⟩ w

set_option maxRecDepth 100000 in
set_option maxHeartbeats 4000000 in
theorem sg_X3_passHour_0 {Z : CX × GX} {post : AH → Prop} {h : AH} {x0 : Nat} {x1 : Nat} {x2 : Nat} (hX : OK Z RX3 cX3_passHour 4 none 3 70) (ox0 : oc x0 = some 3) (ox1 : oc x1 = some 0) (ox2 : oc x2 = some 1)
    (w : (∃ PP : AH → Prop, CV yX3_obey cX3_obey 4 0 0 [.ref x0, .ref x2] h PP ∧ ∀ u : AH, PP u → EX Z 4 (QV Z post) 5 u [some (.ref x0), some (.ref x1), none, none] []))
    : EX Z 4 (QV Z post) 0 h [some (.ref x0), some (.ref x1), some (.ref x2), none] [] := by
  refine ex_aload_n hX dX3_passHour_0 rfl rfl ?_
  refine ex_aload_n hX dX3_passHour_1 rfl rfl ?_
  obtain ⟨PP, pM, pK⟩ := w
  exact ex_callVv (ci := 3) (i := x0) (As := [.ref x2]) (st := []) hX pM CS_3_83 MS_X3_obey rfl ox0 rfl (by decide) rfl (Nat.le_of_ble_eq_true rfl) dX3_passHour_2 (fun u hp => ex_forget [some (.ref x0), some (.ref x1), none, none] ⟨rfl, ⟨rfl, trivial⟩⟩ (pK u hp))

set_option maxRecDepth 100000 in
set_option maxHeartbeats 4000000 in
theorem sg_X3_passHour_5 {Z : CX × GX} {post : AH → Prop} {h : AH} {x0 : Nat} {x1 : Nat} (hX : OK Z RX3 cX3_passHour 4 none 3 70) (ox0 : oc x0 = some 3) (ox1 : oc x1 = some 0)
    (w : EX Z 4 (QV Z post) 7 h [some (.ref x0), some (.ref x1), none, some (.int 0)] [])
    : EX Z 4 (QV Z post) 5 h [some (.ref x0), some (.ref x1), none, none] [] := by
  refine ex_iconst (v := 0) hX dX3_passHour_5 rfl ?_
  refine ex_istore_n (lv' := [some (.ref x0), some (.ref x1), none, some (.int 0)]) hX dX3_passHour_6 rfl (by decide) rfl ?_
  exact w

set_option maxRecDepth 100000 in
set_option maxHeartbeats 4000000 in
theorem sg_X3_passHour_7 {Z : CX × GX} {post : AH → Prop} {h : AH} {x0 : Nat} {x1 : Nat} {x3 : Int32} (hX : OK Z RX3 cX3_passHour 4 none 3 70) (ox0 : oc x0 = some 3) (ox1 : oc x1 = some 0)
    (w : (((h.1 x1 0) ≤ x3 → EX Z 4 (QV Z post) 35 h [some (.ref x0), some (.ref x1), none, some (.int 0)] []) ∧ (¬ (h.1 x1 0) ≤ x3 → (LPc h.1 x0 x1 x3) ∧ (vp_in x3 10) ∧ (∀ u4 : AH, u4 = (hset h.1 (x0 + 2) (Int32.toNatClampNeg x3) (lvC h.1 x0 x1 x3), h.2) → EX Z 4 (QV Z post) 7 u4 [some (.ref x0), some (.ref x1), none, some (.int (x3 + 1))] []))))
    : EX Z 4 (QV Z post) 7 h [some (.ref x0), some (.ref x1), none, some (.int x3)] [] := by
  refine ex_iload_n hX dX3_passHour_7 rfl rfl ?_
  refine ex_aload_n hX dX3_passHour_8 rfl rfl ?_
  refine ex_get hX (.int (h.1 x1 0)) FL_3_80 ox1 (fun _ => rfl) dX3_passHour_9 ?_
  refine ex_icmpge hX 33 dX3_passHour_12 (by decide) (fun c1 => ?_) (fun c1 => ?_)
  · replace w := w.1 c1
    refine ex_iconst (v := 0) hX dX3_passHour_33 rfl ?_
    refine ex_istore_n (lv' := [some (.ref x0), some (.ref x1), none, some (.int 0)]) hX dX3_passHour_34 rfl (by decide) rfl ?_
    exact w
  · replace w := w.2 c1
    refine ex_aload_n hX dX3_passHour_15 rfl rfl ?_
    refine ex_get hX (.ref (x0 + 2)) FL_3_15 ox0 (fun _ => rfl) dX3_passHour_16 ?_
    refine ex_iload_n hX dX3_passHour_19 rfl rfl ?_
    refine ex_aload_n hX dX3_passHour_20 rfl rfl ?_
    refine ex_aload_n hX dX3_passHour_21 rfl rfl ?_
    refine ex_iload_n hX dX3_passHour_22 rfl rfl ?_
    obtain ⟨q2, w⟩ := w
    refine ex_pIv (ci := 3) (i := x0) (As := [.ref x1, .int x3]) (st := [.int x3, .ref (x0 + 2)]) hX (c_X3_levelOf (h := h) ox0 ox1 q2) CS_3_87 MS_X3_levelOf rfl ox0 rfl (by decide) rfl (Nat.le_of_ble_eq_true rfl) dX3_passHour_23 ?_
    obtain ⟨q3, w⟩ := w
    refine ex_iast hX (sh_3_2 ox0) q3 dX3_passHour_26 ?_
    refine ex_nameH (fun u4 eu4 => ?_)
    replace w := w u4 eu4
    refine ex_iinc (v := x3 + 1) (lv' := [some (.ref x0), some (.ref x1), none, some (.int (x3 + 1))]) hX dX3_passHour_27 rfl rfl (by decide) rfl ?_
    refine ex_goto hX 7 dX3_passHour_30 (by decide) ?_
    exact w

set_option maxRecDepth 100000 in
set_option maxHeartbeats 4000000 in
theorem sg_X3_passHour_35 {Z : CX × GX} {post : AH → Prop} {h : AH} {x0 : Nat} {x1 : Nat} {x3 : Int32} (hX : OK Z RX3 cX3_passHour 4 none 3 70) (ox0 : oc x0 = some 3) (ox1 : oc x1 = some 0)
    (w : ((((h.1 x1 0) - 1) ≤ x3 → EX Z 4 (QV Z post) 59 h [some (.ref x0), some (.ref x1), none, some (.int 0)] []) ∧ (¬ ((h.1 x1 0) - 1) ≤ x3 → (∃ PP : AH → Prop, CV yX3_letFlow cX3_letFlow 10 1 40 [.ref x0, .ref x1, .int x3] h PP ∧ ∀ u : AH, PP u → EX Z 4 (QV Z post) 51 u [some (.ref x0), some (.ref x1), none, some (.int x3)] []))))
    : EX Z 4 (QV Z post) 35 h [some (.ref x0), some (.ref x1), none, some (.int x3)] [] := by
  refine ex_iload_n hX dX3_passHour_35 rfl rfl ?_
  refine ex_aload_n hX dX3_passHour_36 rfl rfl ?_
  refine ex_get hX (.int (h.1 x1 0)) FL_3_80 ox1 (fun _ => rfl) dX3_passHour_37 ?_
  refine ex_iconst (v := 1) hX dX3_passHour_40 rfl ?_
  refine ex_isub hX dX3_passHour_41 ?_
  refine ex_icmpge hX 57 dX3_passHour_42 (by decide) (fun c1 => ?_) (fun c1 => ?_)
  · replace w := w.1 c1
    refine ex_iconst (v := 0) hX dX3_passHour_57 rfl ?_
    refine ex_istore_n (lv' := [some (.ref x0), some (.ref x1), none, some (.int 0)]) hX dX3_passHour_58 rfl (by decide) rfl ?_
    exact w
  · replace w := w.2 c1
    refine ex_aload_n hX dX3_passHour_45 rfl rfl ?_
    refine ex_aload_n hX dX3_passHour_46 rfl rfl ?_
    refine ex_iload_n hX dX3_passHour_47 rfl rfl ?_
    obtain ⟨PP, pM, pK⟩ := w
    exact ex_callVv (ci := 3) (i := x0) (As := [.ref x1, .int x3]) (st := []) hX pM CS_3_91 MS_X3_letFlow rfl ox0 rfl (by decide) rfl (Nat.le_of_ble_eq_true rfl) dX3_passHour_48 (fun u hp => pK u hp)

set_option maxRecDepth 100000 in
set_option maxHeartbeats 4000000 in
theorem sg_X3_passHour_51 {Z : CX × GX} {post : AH → Prop} {h : AH} {x0 : Nat} {x1 : Nat} {x3 : Int32} (hX : OK Z RX3 cX3_passHour 4 none 3 70) (ox0 : oc x0 = some 3) (ox1 : oc x1 = some 0)
    (w : EX Z 4 (QV Z post) 35 h [some (.ref x0), some (.ref x1), none, some (.int (x3 + 1))] [])
    : EX Z 4 (QV Z post) 51 h [some (.ref x0), some (.ref x1), none, some (.int x3)] [] := by
  refine ex_iinc (v := x3 + 1) (lv' := [some (.ref x0), some (.ref x1), none, some (.int (x3 + 1))]) hX dX3_passHour_51 rfl rfl (by decide) rfl ?_
  refine ex_goto hX 35 dX3_passHour_54 (by decide) ?_
  exact w

set_option maxRecDepth 100000 in
set_option maxHeartbeats 4000000 in
theorem sg_X3_passHour_59 {Z : CX × GX} {post : AH → Prop} {h : AH} {x0 : Nat} {x1 : Nat} {x3 : Int32} (hX : OK Z RX3 cX3_passHour 4 none 3 70) (ox0 : oc x0 = some 3) (ox1 : oc x1 = some 0)
    (w : (((h.1 (x0 + 7) 0) ≤ x3 → (vp_in (jfm (h.1 x0 0) 24) 24) ∧ (∀ v3 : Int32, v3 = (h.1 (x1 + 6) (Int32.toNatClampNeg (jfm (h.1 x0 0) 24)) - 50) → (∀ v4 : Int32, v4 = (h.1 (x0 + 1) (Int32.toNatClampNeg 0)) + v3 → (∀ u5 : AH, u5 = (hset h.1 (x0 + 1) (Int32.toNatClampNeg 0) (if 0 < v4 then v4 else 0), h.2) → (∀ u6 : AH, u6 = (hset u5.1 x0 0 ((u5.1 x0 0) + 1), u5.2) → post u6))))) ∧ (¬ (h.1 (x0 + 7) 0) ≤ x3 → (∃ PP : AH → Prop, CV yX3_letGo cX3_letGo 5 2 46 [.ref x0, .ref x1, .int x3] h PP ∧ ∀ u : AH, PP u → EX Z 4 (QV Z post) 76 u [some (.ref x0), some (.ref x1), none, some (.int x3)] []))))
    : EX Z 4 (QV Z post) 59 h [some (.ref x0), some (.ref x1), none, some (.int x3)] [] := by
  refine ex_iload_n hX dX3_passHour_59 rfl rfl ?_
  refine ex_aload_n hX dX3_passHour_60 rfl rfl ?_
  refine ex_get hX (.ref (x0 + 7)) FL_3_33 ox0 (fun _ => rfl) dX3_passHour_61 ?_
  refine ex_get hX (.int (h.1 (x0 + 7) 0)) FL_3_41 (sh_3_7 ox0) (fun _ => rfl) dX3_passHour_64 ?_
  refine ex_icmpge hX 82 dX3_passHour_67 (by decide) (fun c1 => ?_) (fun c1 => ?_)
  · replace w := w.1 c1
    refine ex_aload_n hX dX3_passHour_82 rfl rfl ?_
    refine ex_get hX (.ref (x0 + 1)) FL_3_9 ox0 (fun _ => rfl) dX3_passHour_83 ?_
    refine ex_iconst (v := 0) hX dX3_passHour_86 rfl ?_
    refine ex_iconst (v := 0) hX dX3_passHour_87 rfl ?_
    refine ex_aload_n hX dX3_passHour_88 rfl rfl ?_
    refine ex_get hX (.ref (x0 + 1)) FL_3_9 ox0 (fun _ => rfl) dX3_passHour_89 ?_
    refine ex_iconst (v := 0) hX dX3_passHour_92 rfl ?_
    refine ex_iald hX (sh_3_1 ox0) (show ¬ ((0 : Int32) < 0 ∨ 10 ≤ (0 : Int32).toNatClampNeg) from by decide) dX3_passHour_93 ?_
    refine ex_aload_n hX dX3_passHour_94 rfl rfl ?_
    refine ex_aload_n hX dX3_passHour_95 rfl rfl ?_
    refine ex_get hX (.int (h.1 x0 0)) FL_3_37 ox0 (fun _ => rfl) dX3_passHour_96 ?_
    obtain ⟨q2, w⟩ := w
    refine ex_pIv (ci := 0) (i := x1) (As := [.int (h.1 x0 0)]) (st := [.int (h.1 (x0 + 1) (Int32.toNatClampNeg 0)), .int 0, .int 0, .ref (x0 + 1)]) hX (c_X0_rainAt (h := h) ox1 q2) CS_3_98 MS_X0_rainAt rfl ox1 rfl (by decide) rfl (Nat.le_of_ble_eq_true rfl) dX3_passHour_99 ?_
    refine ex_nameI (fun v3 ev3 => ?_)
    replace w := w v3 ev3
    refine ex_iadd hX dX3_passHour_102 ?_
    refine ex_nameI (fun v4 ev4 => ?_)
    replace w := w v4 ev4
    refine ex_mmax hX ML_3_101 JS_max JI_Math JC_max ⟨Nat.le_of_ble_eq_true rfl, Nat.le_of_ble_eq_true rfl⟩ dX3_passHour_103 ?_
    refine ex_iast hX (sh_3_1 ox0) (show ¬ ((0 : Int32) < 0 ∨ 10 ≤ (0 : Int32).toNatClampNeg) from by decide) dX3_passHour_106 ?_
    refine ex_nameH (fun u5 eu5 => ?_)
    replace w := w u5 eu5
    refine ex_aload_n hX dX3_passHour_107 rfl rfl ?_
    refine ex_dup hX dX3_passHour_108 rfl ?_
    refine ex_get hX (.int (u5.1 x0 0)) FL_3_37 ox0 (fun _ => rfl) dX3_passHour_109 ?_
    refine ex_iconst (v := 1) hX dX3_passHour_112 rfl ?_
    refine ex_iadd hX dX3_passHour_113 ?_
    refine ex_put hX .int FL_3_37 tyX3 tyX3_ok nmX3 rfl rfl rfl rfl ox0 (fun _ => (by decide : 0 < 10)) (fun _ => fs_3_0) dX3_passHour_114 ?_
    refine ex_nameH (fun u6 eu6 => ?_)
    replace w := w u6 eu6
    exact ex_vret hX dX3_passHour_117 w
  · replace w := w.2 c1
    refine ex_aload_n hX dX3_passHour_70 rfl rfl ?_
    refine ex_aload_n hX dX3_passHour_71 rfl rfl ?_
    refine ex_iload_n hX dX3_passHour_72 rfl rfl ?_
    obtain ⟨PP, pM, pK⟩ := w
    exact ex_callVv (ci := 3) (i := x0) (As := [.ref x1, .int x3]) (st := []) hX pM CS_3_95 MS_X3_letGo rfl ox0 rfl (by decide) rfl (Nat.le_of_ble_eq_true rfl) dX3_passHour_73 (fun u hp => pK u hp)

set_option maxRecDepth 100000 in
set_option maxHeartbeats 4000000 in
theorem sg_X3_passHour_76 {Z : CX × GX} {post : AH → Prop} {h : AH} {x0 : Nat} {x1 : Nat} {x3 : Int32} (hX : OK Z RX3 cX3_passHour 4 none 3 70) (ox0 : oc x0 = some 3) (ox1 : oc x1 = some 0)
    (w : EX Z 4 (QV Z post) 59 h [some (.ref x0), some (.ref x1), none, some (.int (x3 + 1))] [])
    : EX Z 4 (QV Z post) 76 h [some (.ref x0), some (.ref x1), none, some (.int x3)] [] := by
  refine ex_iinc (v := x3 + 1) (lv' := [some (.ref x0), some (.ref x1), none, some (.int (x3 + 1))]) hX dX3_passHour_76 rfl rfl (by decide) rfl ?_
  refine ex_goto hX 59 dX3_passHour_79 (by decide) ?_
  exact w

theorem and1 (x : Int32) : x &&& 1 = 0 ∨ x &&& 1 = 1 := by
  have h := pk_and x (m := 1) 1 (by decide)
  rcases (show x.toBitVec.toNat % 2 ^ 1 = 0 ∨ x.toBitVec.toNat % 2 ^ 1 = 1 by omega) with e | e
  · rw [e] at h; exact Or.inl h
  · rw [e] at h; exact Or.inr h
theorem nheld {H : Int32} {k : Nat} : ((H >>> (nI k &&& 31)) &&& 1 = 0) ↔ ¬ heldB H k := by
  unfold heldB
  rcases and1 (H >>> (nI k &&& 31)) with e | e
  · rw [e]; exact ⟨fun _ => by decide, fun _ => rfl⟩
  · rw [e]; exact ⟨fun z => absurd z (by decide), fun z => absurd rfl z⟩
def obK (P : PR) (H : Int32) (m : Nat) (σ : SG) : SG := fun j => if 10 ≤ j ∧ j < 19 then @ite _ (heldB H (j - 10)) (heldD _ _) (σ j) (planS P m σ j) else planS P m σ j
theorem planS_hi {P : PR} {m k : Nat} {σ : SG} (hm : m ≤ pa P) (hP : POK P) (hk : pn P - 1 ≤ k) : planS P m σ (10 + k) = σ (10 + k) := by
  induction m with
  | zero => rfl
  | succ m ih =>
    rw [planS]
    obtain ⟨a, ha, e⟩ := (hP.2.2.2.2 m (by omega)).1
    have hn := hP.1.2
    split
    · rw [e, nI_clamp (by omega), upd_ne (by omega)]
      exact ih (by omega)
    · exact ih (by omega)
theorem obK_set {P : PR} {H hw : Int32} {σ : SG} (hP : POK P) (hh : ∀ k, k < pn P - 1 → heldB H k → σ (10 + k) = hw) : obK P H (pa P) σ = setS P H hw σ := by
  funext j
  unfold obK setS
  have hn := hP.1.2
  by_cases c : 10 ≤ j ∧ j < 19
  · rw [if_pos c]
    obtain ⟨k, rfl⟩ : ∃ k, j = 10 + k := ⟨j - 10, by omega⟩
    rw [show 10 + k - 10 = k by omega]
    by_cases c2 : k < pn P - 1
    · rw [if_pos (show 10 ≤ 10 + k ∧ 10 + k < 10 + (pn P - 1) by omega)]
      by_cases hb : heldB H k
      · exact (if_pos hb).trans ((hh k c2 hb).trans (if_pos hb).symm)
      · exact (if_neg hb).trans (if_neg hb).symm
    · rw [if_neg (show ¬ (10 ≤ 10 + k ∧ 10 + k < 10 + (pn P - 1)) by omega), planS_hi (Nat.le_refl _) hP (by omega)]
      by_cases hb : heldB H k
      · exact if_pos hb
      · exact if_neg hb
  · rw [if_neg c, if_neg (by omega)]

set_option maxRecDepth 100000 in
set_option maxHeartbeats 4000000 in
theorem c_X3_obey {h : AH} {a0 : Nat} {a1 : Nat} (ha0 : oc a0 = some 3) (ha1 : oc a1 = some 1) {c : Nat} {hw : Int32} (hc : oc c = some 0) (hP : POK (PC h.1 c a1)) (hh : ∀ k, k < pn (PC h.1 c a1) - 1 → heldB (h.1 a0 2) k → mk (cs h.1 a0) (10 + k) = hw) : CV yX3_obey cX3_obey 4 0 0 [.ref a0, .ref a1] h (fun u => FC a0 h u ∧ u.1 (a0 + 7) = h.1 (a0 + 7) ∧ u.1 a0 = h.1 a0 ∧ mk (cs u.1 a0) = setS (PC h.1 c a1) (h.1 a0 2) hw (mk (cs h.1 a0))) := by
  refine CV.of [some (.ref a0), some (.ref a1), none, none] (by decide +kernel) rfl (Nat.le_of_ble_eq_true rfl) rfl (fun Z hX => ?_)
  generalize hpost : (fun u => FC a0 h u ∧ u.1 (a0 + 7) = h.1 (a0 + 7) ∧ u.1 a0 = h.1 a0 ∧ mk (cs u.1 a0) = setS (PC h.1 c a1) (h.1 a0 2) hw (mk (cs h.1 a0))) = post
  obtain ⟨⟨hn2, hn10⟩, -, -, hpa, hpl⟩ := id hP
  generalize hσ : mk (cs h.1 a0) = σ at *
  have hs3 := oc3 ha0
  have ho1 := oc1 ha1
  have L : ∀ k, k ≤ pa (PC h.1 c a1) → ∀ u : AH, FC a0 h u → u.1 (a0 + 7) = h.1 (a0 + 7) → u.1 a0 = h.1 a0 → mk (cs u.1 a0) = obK (PC h.1 c a1) (h.1 a0 2) k σ → EX Z 4 (QV Z post) 2 u [some (.ref a0), some (.ref a1), some (.int (nI k)), none] [] := by
    refine ldown _ ?_ ?_
    · intro u hF h7 h0 hu
      refine sg_X3_obey_2 hX ha0 ha1 ⟨fun _ => ?_, fun z => absurd ?_ z⟩
      · rw [← hpost]
        exact ⟨hF, h7, h0, by rw [hu]; exact obK_set hP hh⟩
      · rw [hF.2 a1 (by omega), i_le (by omega)]
        exact Nat.le_refl _
    · intro k hk ih u hF h7 h0 hu
      have e0 := hF.2 a1 (by omega)
      have e1 := hF.2 (a1 + 1) (by omega)
      have e2 := hF.2 (a1 + 2) (by omega)
      have e3 := hF.2 (a1 + 3) (by omega)
      have bk : vp_in (nI k) 30 := vp_in_nI (by omega) (by omega)
      have ck : Int32.toNatClampNeg (nI k) = k := nI_clamp (by omega)
      obtain ⟨⟨g, hg, eg⟩, -⟩ := hpl k hk
      have k1 : h.1 (a1 + 1) k = poh (PC h.1 c a1) k := (cut_in hk).symm
      have k2 : h.1 (a1 + 2) k = nI g := by rw [← eg]; exact (cut_in hk).symm
      have k3 : h.1 (a1 + 3) k = pow (PC h.1 c a1) k := (cut_in hk).symm
      have s50 : h.1 a0 0 = σ 50 := by rw [← hσ, c50]
      refine sg_X3_obey_2 hX ha0 ha1 ⟨fun z => absurd z ?_, fun _ => ⟨bk, bk, fun c2 => ?_, fun c2 v5 e5 => ⟨fun c3 => ?_, fun c3 => ⟨bk, ?_, fun u9 e9 => ?_⟩⟩⟩⟩
      · rw [e0, i_le (by omega)]
        show ¬ pa (PC h.1 c a1) ≤ k
        omega
      · rw [ck, e1, k1, h0, s50] at c2
        rw [nI_1]
        refine ih u hF h7 h0 ?_
        rw [hu]
        unfold obK
        rw [planS, if_neg c2]
      · rw [ck, e1, k1, h0, s50] at c2
        rw [ck, e2, k2, h0] at e5
        rw [e5, nheld] at c3
        have hb : heldB (h.1 a0 2) g := Classical.byContradiction c3
        rw [nI_1]
        refine ih u hF h7 h0 ?_
        rw [hu]
        funext j
        unfold obK
        rw [planS, if_pos c2, eg, nI_clamp (by omega)]
        by_cases ej : j = 10 + g
        · subst ej
          rw [if_pos (show 10 ≤ 10 + g ∧ 10 + g < 19 by omega), if_pos (show 10 ≤ 10 + g ∧ 10 + g < 19 by omega), show 10 + g - 10 = g by omega]
          exact (if_pos hb).trans (if_pos hb).symm
        · rw [upd_ne ej]
      · rw [ck, e2, k2]; exact vp_in_nI (by omega) (by omega)
      · rw [ck, e1, k1, h0, s50] at c2
        rw [ck, e2, k2, h0] at e5
        rw [e5, nheld] at c3
        rw [ck, e2, k2, nI_clamp (by omega), e3, k3] at e9
        rw [nI_1]
        have hr : rel (cs u.1 a0 51).toNatClampNeg (10 + g) := by unfold rel; omega
        refine ih u9 (hF.tr (by rw [e9]; exact FC.set (by omega))) (by rw [e9]; exact (hset_ne (by omega)).trans h7) (by rw [e9]; exact (hset_ne (by omega)).trans h0) ?_
        rw [e9]
        refine (mkc (loc_10 g (by omega)) hr (by omega)).trans ?_
        rw [hu]
        funext j
        by_cases ej : j = 10 + g
        · subst ej
          rw [upd_eq]
          unfold obK
          rw [if_pos (by omega), show 10 + g - 10 = g by omega]
          refine Eq.trans ?_ (if_neg c3).symm
          rw [planS, if_pos c2, eg, nI_clamp (by omega), upd_eq]
        · rw [upd_ne ej]
          unfold obK
          rw [planS, if_pos c2, eg, nI_clamp (by omega), upd_ne ej]
  refine sg_X3_obey_0 hX ha0 ha1 (L 0 (by omega) h FC.rf rfl rfl ?_)
  rw [hσ]
  funext j
  unfold obK
  by_cases c1 : 10 ≤ j ∧ j < 19
  · rw [if_pos c1]
    by_cases hb : heldB (h.1 a0 2) (j - 10)
    · exact (if_pos hb).symm
    · exact (if_neg hb).symm
  · rw [if_neg c1]; rfl

set_option maxRecDepth 100000 in
set_option maxHeartbeats 4000000 in
theorem c_X3_passHour {h : AH} {a0 : Nat} {a1 : Nat} {a2 : Nat} (ha0 : oc a0 = some 3) (ha1 : oc a1 = some 0) (ha2 : oc a2 = some 1) {T : Nat} {B : Int} {hw : Int32} (hP : POK (PC h.1 a1 a2)) (hT : T < 2147483646) (hB : B ≤ 1073741824) (hS : SOK (PC h.1 a1 a2) B T (mk (cs h.1 a0))) (hwd : ∃ w : Nat, w ≤ 9 ∧ hw = nI w) (hh : ∀ k, k < pn (PC h.1 a1 a2) - 1 → heldB (h.1 a0 2) k → mk (cs h.1 a0) (10 + k) = hw) : CV yX3_passHour cX3_passHour 4 3 70 [.ref a0, .ref a1, .ref a2] h (fun u => FC a0 h u ∧ u.1 a0 2 = h.1 a0 2 ∧ mk (cs u.1 a0) = hourS (PC h.1 a1 a2) (h.1 a0 2) hw (mk (cs h.1 a0))) := by
  refine CV.of [some (.ref a0), some (.ref a1), some (.ref a2), none] (by decide +kernel) rfl (Nat.le_of_ble_eq_true rfl) rfl (fun Z hX => ?_)
  generalize hpost : (fun u => FC a0 h u ∧ u.1 a0 2 = h.1 a0 2 ∧ mk (cs u.1 a0) = hourS (PC h.1 a1 a2) (h.1 a0 2) hw (mk (cs h.1 a0))) = post
  obtain ⟨h0, hs, ⟨t, ht, h50⟩, ⟨c, hc12, h51, hlog⟩, hwid⟩ := id hS
  have hn := hP.1
  have hs3 := oc3 ha0
  have hc0 := oc0 ha1
  have ho1 := oc1 ha2
  generalize hσ : mk (cs h.1 a0) = σ at *
  have w1 := setS_wid (H := h.1 a0 2) hP hwd hwid
  generalize hσ1 : setS (PC h.1 a1 a2) (h.1 a0 2) hw σ = σ1 at w1
  have o1 : ∀ j, j < 10 ∨ 19 ≤ j → σ1 j = σ j := fun j hj => by rw [← hσ1]; exact setS_off hP hj
  have h01 : ∀ k, k < pn (PC h.1 a1 a2) - 1 → 0 ≤ (σ1 k).toInt := fun k hk => by rw [o1 k (by omega)]; exact h0 k hk
  have hs1 : sumW (pn (PC h.1 a1 a2) - 1) σ1 ≤ B := by rw [sumW_congr (fun j hj => o1 j (by omega))]; exact hs
  generalize hlev : levS (PC h.1 a1 a2) σ1 = lev
  have hl : ∀ k, k < pn (PC h.1 a1 a2) → ∃ y : Nat, y ≤ 1073742823 ∧ lev k = nI y ∧ (k = pn (PC h.1 a1 a2) - 1 → y ≤ 999) := fun k hk => by rw [← hlev]; exact lev_nn hP h01 hs1 hB (by rw [o1 50 (by omega)]; exact h50) (by omega) hk
  generalize hσ2 : flowS (PC h.1 a1 a2) lev (pn (PC h.1 a1 a2) - 1) σ1 = σ2
  have o2 : ∀ j, 49 ≤ j → σ2 j = σ j := fun j hj => by rw [← hσ2, flowS_off (by omega) (by omega)]; exact o1 j (by omega)
  have en : h.1 a1 0 = nI (pn (PC h.1 a1 a2)) := i_pos (by show 0 < pn (PC h.1 a1 a2); omega)
  have es : h.1 a1 0 - 1 = nI (pn (PC h.1 a1 a2) - 1) := by rw [en, k_1, pk_sub (by omega)]
  have L3 : ∀ l, l ≤ c → ∀ u : AH, FC a0 h u → u.1 a0 2 = h.1 a0 2 → mk (cs u.1 a0) = logsS (PC h.1 a1 a2) l σ2 → EX Z 4 (QV Z post) 59 u [some (.ref a0), some (.ref a1), none, some (.int (nI l))] [] := by
    have e51 : ∀ (u : AH) (l : Nat), l ≤ c → mk (cs u.1 a0) = logsS (PC h.1 a1 a2) l σ2 → u.1 (a0 + 7) 0 = nI c := by
      intro u l hl hu
      rw [← c51 (f := u.1) (s := a0), hu, logsS_off (by omega) (by omega), o2 51 (by omega), h51]
    refine ldown _ ?_ ?_
    · intro u hF hh2 hu
      have eP : PC u.1 a1 a2 = PC h.1 a1 a2 := PC_of hF ha0 ha1 ha2
      have g50 : u.1 a0 0 = nI t := by rw [← c50 (f := u.1) (s := a0), hu, logsS_off (by omega) (by omega), o2 50 (by omega), h50]
      have m24 : t % 24 < 24 := Nat.mod_lt _ (by decide)
      refine sg_X3_passHour_59 hX ha0 ha1 ⟨fun _ => ⟨by rw [g50, jfm_24 (by omega)]; exact vp_in_nI (by omega) (by omega), fun v3 e3 v4 e4 u5 e5 u6 e6 => ?_⟩, fun z => absurd (by rw [e51 u c (Nat.le_refl _) hu]; exact nI_le (Nat.le_refl _) (by omega)) z⟩
      rw [g50, jfm_24 (by omega), nI_clamp (by omega), hF.2 (a1 + 6) (by omega), show h.1 (a1 + 6) (t % 24) = pra (PC h.1 a1 a2) (t % 24) from (cut_in m24).symm] at e3
      have cz : Int32.toNatClampNeg 0 = 0 := by decide
      rw [cz] at e4 e5
      have r0 : ∀ n, rel n 0 := fun n => by unfold rel; omega
      have r50 : ∀ n, rel n 50 := fun n => by unfold rel; omega
      rw [mkc_at (f := u.1) (s := a0) (k := 0) (a := 1) (b := 0) (by decide) (r0 _), hu] at e4
      have m5 : mk (cs u5.1 a0) = upd (logsS (PC h.1 a1 a2) c σ2) 0 (if 0 < v4 then v4 else 0) := by
        rw [e5]
        refine (mkc (k := 0) (a := 1) (b := 0) (by decide) (r0 _) (by omega)).trans ?_
        rw [hu]
      have q50 : u5.1 a0 0 = nI t := by rw [e5]; show hset u.1 (a0 + 1) 0 _ a0 0 = _; rw [hset_ne (by omega)]; exact g50
      rw [q50] at e6
      have m6 : mk (cs u6.1 a0) = upd (mk (cs u5.1 a0)) 50 (nI t + 1) := by
        rw [e6]
        exact mkc (s := a0) (k := 50) (a := 0) (b := 0) (by decide) (r50 _) (by omega)
      have F5 : FC a0 u u5 := by rw [e5]; exact FC.set (by omega)
      have F6 : FC a0 u5 u6 := by rw [e6]; exact FC.set0
      rw [← hpost]
      refine ⟨(hF.tr F5).tr F6, ?_, ?_⟩
      · rw [e6]
        show hset u5.1 a0 0 (nI t + 1) a0 2 = _
        rw [hset_eq, upd_ne (by omega), e5]
        show hset u.1 (a0 + 1) 0 _ a0 2 = _
        rw [hset_ne (by omega)]
        exact hh2
      · rw [m6, m5]
        unfold hourS
        dsimp only
        rw [hσ1, hlev, hσ2, o2 51 (by omega), h51, nI_clamp (by omega)]
        have g3 : logsS (PC h.1 a1 a2) c σ2 50 = nI t := by rw [logsS_off (by omega) (by omega), o2 50 (by omega), h50]
        rw [rainS_off (by omega), g3]
        congr 1
        unfold rainS
        rw [g3, nI_clamp (by omega)]
        congr 1
        have e34 : v4 = logsS (PC h.1 a1 a2) c σ2 0 + pra (PC h.1 a1 a2) (t % 24) - 50 := by
          rw [e4, e3, Int32.sub_eq_add_neg, Int32.sub_eq_add_neg, Int32.add_assoc]
        rw [← e34]
        by_cases q : v4 < 0
        · rw [if_neg (fun z => by simp only [Int32.lt_iff_toInt_lt] at *; omega)]
          exact (if_pos q).symm
        · refine Eq.trans ?_ (if_neg q).symm
          by_cases q2 : 0 < v4
          · rw [if_pos q2]
          · rw [if_neg q2, ← Int32.toInt_inj]
            simp only [Int32.lt_iff_toInt_lt, zi_z] at *
            omega
    · intro l hl' ih u hF hh2 hu
      have eP : PC u.1 a1 a2 = PC h.1 a1 a2 := PC_of hF ha0 ha1 ha2
      obtain ⟨⟨q, hq, eq⟩, hw0⟩ := hlog l hl'
      refine sg_X3_passHour_59 hX ha0 ha1 ⟨fun z => absurd z (by rw [e51 u l (by omega) hu]; exact nI_ge hl' (by omega)), fun _ => ?_⟩
      refine ⟨_, c_X3_letGo (o := a2) (l := l) (q := q) ha0 ha1 rfl (by rw [eP]; exact hn) (by omega) (by rw [(mk_51 (cs u.1 a0)).symm.trans c51, e51 u l (by omega) hu, nI_clamp (by omega)]; exact hl') (by rw [eP]; exact hq) ?_ ?_, fun u2 hu2 => ?_⟩
      · rw [hu, logsS_off (by omega) (Or.inr (Or.inr ⟨60, l, rfl, Nat.le_refl _, by omega, by omega⟩)), o2 _ (by omega), eq]
      · rw [hu, logsS_off (by omega) (Or.inr (Or.inr ⟨72, l, rfl, Nat.le_refl _, by omega, by omega⟩)), o2 _ (by omega)]; exact hw0
      · obtain ⟨F2, m2⟩ := hu2
        refine sg_X3_passHour_76 hX ha0 ha1 ?_
        rw [nI_1]
        exact ih u2 (hF.tr F2.C) (by rw [F2.2 a0 (by omega)]; exact hh2) (by rw [m2, eP, hu, logsS])
  have L2 : ∀ k, k ≤ pn (PC h.1 a1 a2) - 1 → ∀ u : AH, FC a0 h u → u.1 a0 2 = h.1 a0 2 → (∀ j, j < pn (PC h.1 a1 a2) → u.1 (a0 + 2) j = lev j) → mk (cs u.1 a0) = flowS (PC h.1 a1 a2) lev k σ1 → EX Z 4 (QV Z post) 35 u [some (.ref a0), some (.ref a1), none, some (.int (nI k))] [] := by
    refine ldown _ ?_ ?_
    · intro u hF hh2 hlv hu
      refine sg_X3_passHour_35 hX ha0 ha1 ⟨fun _ => L3 0 (by omega) u hF hh2 (by rw [hu, hσ2]; rfl), fun z => absurd ?_ z⟩
      rw [hF.2 a1 (by omega), es]
      exact nI_le (Nat.le_refl _) (by omega)
    · intro k hk ih u hF hh2 hlv hu
      have eP : PC u.1 a1 a2 = PC h.1 a1 a2 := PC_of hF ha0 ha1 ha2
      obtain ⟨i1, -⟩ := flowS_ok (m := k) hn.2 hl w1 h01 hs1 hB (by omega)
      obtain ⟨y1, b1, ey1, -⟩ := hl k (by omega)
      obtain ⟨y2, b2, ey2, b3⟩ := hl (k + 1) (by omega)
      have hwk : ∃ w : Nat, w ≤ 9 ∧ flowS (PC h.1 a1 a2) lev k σ1 (10 + k) = nI w := by
        rw [flowS_off (by omega) (by omega)]
        exact w1 k (by omega)
      obtain ⟨z1, z2⟩ := flowV_of (B := B) hk ey1 ey2 b1 b2 b3 hwk i1
      refine sg_X3_passHour_35 hX ha0 ha1 ⟨fun z => absurd z (by rw [hF.2 a1 (by omega), es]; exact nI_ge hk (by omega)), fun _ => ?_⟩
      refine ⟨_, c_X3_letFlow (o := a2) (k := k) (lev := lev) ha0 ha1 rfl (by rw [eP]; exact hn) (by rw [eP]; exact hk) (hlv k (by omega)) (hlv (k + 1) (by omega)) ?_ ?_ ?_ ?_, fun u2 hu2 => ?_⟩
      · rw [eP, hu]; exact fun q => by have := z2 q; omega
      · rw [hu]; omega
      · rw [hu]; exact i1 k hk
      · rw [eP, hu]; exact fun q => i1 (k + 1) (by omega)
      · obtain ⟨F2, l2, m2⟩ := hu2
        refine sg_X3_passHour_51 hX ha0 ha1 ?_
        rw [nI_1]
        exact ih u2 (hF.tr F2.C) (by rw [F2.2 a0 (by omega)]; exact hh2) (fun j hj => by rw [l2]; exact hlv j hj) (by rw [m2, eP, hu, flowS])
  have L1 : ∀ k, k ≤ pn (PC h.1 a1 a2) → ∀ u : AH, FC a0 h u → u.1 a0 2 = h.1 a0 2 → (∀ j, j < k → u.1 (a0 + 2) j = lev j) → mk (cs u.1 a0) = σ1 → EX Z 4 (QV Z post) 7 u [some (.ref a0), some (.ref a1), none, some (.int (nI k))] [] := by
    refine ldown _ ?_ ?_
    · intro u hF hh2 hlv hu
      refine sg_X3_passHour_7 hX ha0 ha1 ⟨fun _ => L2 0 (by omega) u hF hh2 hlv hu, fun z => absurd ?_ z⟩
      rw [hF.2 a1 (by omega), en]
      exact nI_le (Nat.le_refl _) (by omega)
    · intro k hk ih u hF hh2 hlv hu
      have eP : PC u.1 a1 a2 = PC h.1 a1 a2 := PC_of hF ha0 ha1 ha2
      obtain ⟨l1, l2⟩ := lvC_eq (f := u.1) (s := a0) (c := a1) (o := a2) (k := k) (t := t) (by rw [eP]; exact hP) (by omega) (by rw [hu, o1 50 (by omega), h50]) (by rw [eP]; exact hk)
      rw [eP, hu, hlev] at l2
      refine sg_X3_passHour_7 hX ha0 ha1 ⟨fun z => absurd z (by rw [hF.2 a1 (by omega), en]; exact nI_ge hk (by omega)), fun _ => ⟨l1, vp_in_nI (by omega) (by omega), fun u4 e4 => ?_⟩⟩
      rw [l2, nI_clamp (by omega)] at e4
      rw [nI_1]
      refine ih u4 (hF.tr (by rw [e4]; exact FC.set (by omega))) ?_ (fun j hj => ?_) ?_
      · rw [e4]
        show hset u.1 (a0 + 2) k (lev k) a0 2 = _
        rw [hset_ne (by omega)]
        exact hh2
      · rw [e4]
        show hset u.1 (a0 + 2) k (lev k) (a0 + 2) j = _
        rw [hset_eq]
        by_cases hjk : j = k
        · subst hjk; rw [upd_eq]
        · rw [upd_ne hjk]; exact hlv j (by omega)
      · rw [← hu]
        congr 1
        refine cs_off (fun j q hq => ?_)
        rw [e4]
        show hset u.1 (a0 + 2) k (lev k) (a0 + q.1) q.2 = _
        rw [hset_ne]
        intro z
        exact loc_2 j (loc_lt hq) q.2 (by rw [hq]; exact congrArg some (Prod.ext (show q.1 = 2 by omega) rfl))
  refine sg_X3_passHour_0 hX ha0 ha1 ha2 ⟨_, c_X3_obey (c := a1) (hw := hw) ha0 ha2 ha1 hP (by rw [hσ]; exact hh), fun u hu => ?_⟩
  obtain ⟨F1, -, q0, m1⟩ := hu
  rw [hσ, hσ1] at m1
  exact sg_X3_passHour_5 hX ha0 ha1 (L1 0 (by omega) u F1 (by rw [q0]) (fun j hj => absurd hj (by omega)) m1)
