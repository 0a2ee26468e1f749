set_option maxRecDepth 100000 in
set_option maxHeartbeats 4000000 in
theorem sg_X6_plan_0 {Z : CX × GX} {post : Int32 → AH → Prop} {h : AH}  (hX : OK Z RX6 cX6_plan 2 (some .int) 6 146) 
    (w : ((¬ (h.1 (h.2 1) 0) = 0 → (∃ PP : AH → Prop, CV yX2_readOrders cX2_readOrders 5 5 122 [.ref 1, .ref (h.2 4), .int ((h.1 (h.2 1) 0) - 1)] h PP ∧ ∀ u : AH, PP u → EX Z 2 (QI Z post) 33 u [some (.ref 0), none] [])) ∧ ((h.1 (h.2 1) 0) = 0 → post (-100000003) h)))
    : EX Z 2 (QI Z post) 0 h [some (.ref 0), none] [] := by
  refine ex_aload_n hX dX6_plan_0 rfl rfl ?_
  refine ex_gg (fun c1 => ?_)
  refine ex_get hX (.ref (h.2 1)) FL_6_19 rfl (fun _ => rfl) dX6_plan_1 ?_
  refine ex_get hX (.int (h.1 (h.2 1) 0)) FL_6_100 c1.1 (fun _ => rfl) dX6_plan_4 ?_
  refine ex_ifne hX 13 dX6_plan_7 (by decide) (fun c2 => ?_) (fun c2 => ?_)
  · replace w := w.1 c2
    refine ex_aload_n hX dX6_plan_13 rfl rfl ?_
    refine ex_get hX (.ref 1) FL_6_10 rfl (fun _ => rfl) dX6_plan_14 ?_
    refine ex_aload_n hX dX6_plan_17 rfl rfl ?_
    refine ex_gg (fun c3 => ?_)
    refine ex_get hX (.ref (h.2 4)) FL_6_33 rfl (fun _ => rfl) dX6_plan_18 ?_
    refine ex_aload_n hX dX6_plan_21 rfl rfl ?_
    refine ex_gg (fun c4 => ?_)
    refine ex_get hX (.ref (h.2 1)) FL_6_19 rfl (fun _ => rfl) dX6_plan_22 ?_
    refine ex_get hX (.int (h.1 (h.2 1) 0)) FL_6_100 c4.1 (fun _ => rfl) dX6_plan_25 ?_
    refine ex_iconst (v := 1) hX dX6_plan_28 rfl ?_
    refine ex_isub hX dX6_plan_29 ?_
    obtain ⟨PP, pM, pK⟩ := w
    exact ex_callVv (ci := 2) (i := 1) (As := [.ref (h.2 4), .int ((h.1 (h.2 1) 0) - 1)]) (st := []) hX pM CS_6_104 MS_X2_readOrders rfl rfl rfl (by decide) rfl (Nat.le_of_ble_eq_true rfl) dX6_plan_30 (fun u hp => pK u hp)
  · replace w := w.2 c2
    refine ex_ldc hX dX6_plan_10 KC_6_103 ?_
    exact ex_iret hX dX6_plan_12 rfl w

set_option maxRecDepth 100000 in
set_option maxHeartbeats 4000000 in
theorem sg_X6_plan_33 {Z : CX × GX} {post : Int32 → AH → Prop} {h : AH}  (hX : OK Z RX6 cX6_plan 2 (some .int) 6 146) 
    (w : (∃ PP : Int32 → AH → Prop, CI yX2_faultByte cX2_faultByte 1 (some .int) 0 0 [.ref 1] h PP ∧ ∀ (r : Int32) (u : AH), PP r u → EX Z 2 (QI Z post) 41 u [some (.ref 0), none] (.int r :: [.ref 0])))
    : EX Z 2 (QI Z post) 33 h [some (.ref 0), none] [] := by
  refine ex_aload_n hX dX6_plan_33 rfl rfl ?_
  refine ex_aload_n hX dX6_plan_34 rfl rfl ?_
  refine ex_get hX (.ref 1) FL_6_10 rfl (fun _ => rfl) dX6_plan_35 ?_
  obtain ⟨PP, pM, pK⟩ := w
  exact ex_callIv (ci := 2) (i := 1) (As := []) (st := [.ref 0]) hX pM CS_6_85 MS_X2_faultByte rfl rfl rfl (by decide) rfl (Nat.le_of_ble_eq_true rfl) dX6_plan_38 (fun r u hp => pK r u hp)

set_option maxRecDepth 100000 in
set_option maxHeartbeats 4000000 in
theorem sg_X6_plan_41 {Z : CX × GX} {post : Int32 → AH → Prop} {h : AH} {s0 : Int32} (hX : OK Z RX6 cX6_plan 2 (some .int) 6 146) 
    (w : (∀ u1 : AH, u1 = (hset h.1 0 13 s0, h.2) → (((u1.1 1 2) = 0 → (∀ u5 : AH, u5 = (u1.1, gup u1.2 3 (u1.2 4)) → (∀ u6 : AH, u6 = (u5.1, gup u5.2 4 (u1.2 3)) → post (u6.1 (u6.2 3) 0) u6))) ∧ (¬ (u1.1 1 2) = 0 → post ((-10) - (u1.1 1 2)) u1))))
    : EX Z 2 (QI Z post) 41 h [some (.ref 0), none] [.int s0, .ref 0] := by
  refine ex_put hX .int FL_6_68 tyX6 tyX6_ok nmX6 rfl rfl rfl rfl rfl (fun _ => (by decide : 13 < 14)) (fun _ => fs_6_13) dX6_plan_41 ?_
  refine ex_nameH (fun u1 eu1 => ?_)
  replace w := w u1 eu1
  refine ex_aload_n hX dX6_plan_44 rfl rfl ?_
  refine ex_get hX (.ref 1) FL_6_10 rfl (fun _ => rfl) dX6_plan_45 ?_
  refine ex_get hX (.int (u1.1 1 2)) FL_6_88 rfl (fun _ => rfl) dX6_plan_48 ?_
  refine ex_ifeq hX 65 dX6_plan_51 (by decide) (fun c2 => ?_) (fun c2 => ?_)
  · replace w := w.1 c2
    refine ex_aload_n hX dX6_plan_65 rfl rfl ?_
    refine ex_gg (fun c3 => ?_)
    refine ex_get hX (.ref (u1.2 3)) FL_6_29 rfl (fun _ => rfl) dX6_plan_66 ?_
    refine ex_astore_n (lv' := [some (.ref 0), some (.ref (u1.2 3))]) hX dX6_plan_69 rfl (by decide) rfl ?_
    refine ex_aload_n hX dX6_plan_70 rfl rfl ?_
    refine ex_aload_n hX dX6_plan_71 rfl rfl ?_
    refine ex_gg (fun c4 => ?_)
    refine ex_get hX (.ref (u1.2 4)) FL_6_33 rfl (fun _ => rfl) dX6_plan_72 ?_
    refine ex_putg (c := 1) hX (.object "TurnedRiver$Orders") FL_6_29 rfl rfl (fun _ => ⟨rfl, rfl⟩) (by decide) c4.2.2.2 dX6_plan_75 ?_
    refine ex_nameH (fun u5 eu5 => ?_)
    replace w := w u5 eu5
    refine ex_aload_n hX dX6_plan_78 rfl rfl ?_
    refine ex_aload_n hX dX6_plan_79 rfl rfl ?_
    refine ex_putg (c := 1) hX (.object "TurnedRiver$Orders") FL_6_33 rfl rfl (fun _ => ⟨rfl, rfl⟩) (by decide) c3.2.2.1 dX6_plan_80 ?_
    refine ex_nameH (fun u6 eu6 => ?_)
    replace w := w u6 eu6
    refine ex_aload_n hX dX6_plan_83 rfl rfl ?_
    refine ex_gg (fun c7 => ?_)
    refine ex_get hX (.ref (u6.2 3)) FL_6_29 rfl (fun _ => rfl) dX6_plan_84 ?_
    refine ex_get hX (.int (u6.1 (u6.2 3) 0)) FL_6_91 c7.2.2.1 (fun _ => rfl) dX6_plan_87 ?_
    exact ex_iret hX dX6_plan_90 rfl w
  · replace w := w.2 c2
    refine ex_bipush (v := (-10)) hX dX6_plan_54 rfl ?_
    refine ex_aload_n hX dX6_plan_56 rfl rfl ?_
    refine ex_get hX (.ref 1) FL_6_10 rfl (fun _ => rfl) dX6_plan_57 ?_
    refine ex_get hX (.int (u1.1 1 2)) FL_6_88 rfl (fun _ => rfl) dX6_plan_60 ?_
    refine ex_isub hX dX6_plan_63 ?_
    exact ex_iret hX dX6_plan_64 rfl w

set_option maxRecDepth 100000 in
set_option maxHeartbeats 4000000 in
theorem sg_X2_takeBytes_0 {Z : CX × GX} {post : Int32 → AH → Prop} {h : AH} {x1 : Int32} {x2 : Int64} (hX : OK Z RX2 cX2_takeBytes 5 (some .boolean) 0 0) 
    (w : ((x1 ≤ (400 - (h.1 1 1)) → EX Z 5 (QI Z post) 19 h [some (.ref 1), none, some (.long x2), none, some (.int (x1 - 1))] []) ∧ (¬ x1 ≤ (400 - (h.1 1 1)) → post 0 h)))
    : EX Z 5 (QI Z post) 0 h [some (.ref 1), some (.int x1), some (.long x2), none, none] [] := by
  refine ex_iload_n hX dX2_takeBytes_0 rfl rfl ?_
  refine ex_sipush (v := 400) hX dX2_takeBytes_1 rfl ?_
  refine ex_aload_n hX dX2_takeBytes_4 rfl rfl ?_
  refine ex_get hX (.int (h.1 1 1)) FL_2_15 rfl (fun _ => rfl) dX2_takeBytes_5 ?_
  refine ex_isub hX dX2_takeBytes_8 ?_
  refine ex_icmple hX 14 dX2_takeBytes_9 (by decide) (fun c1 => ?_) (fun c1 => ?_)
  · replace w := w.1 c1
    refine ex_iload_n hX dX2_takeBytes_14 rfl rfl ?_
    refine ex_iconst (v := 1) hX dX2_takeBytes_15 rfl ?_
    refine ex_isub hX dX2_takeBytes_16 ?_
    refine ex_istore (lv' := [some (.ref 1), some (.int x1), some (.long x2), none, some (.int (x1 - 1))]) hX dX2_takeBytes_17 (by decide) rfl ?_
    exact ex_forget [some (.ref 1), none, some (.long x2), none, some (.int (x1 - 1))] ⟨rfl, ⟨rfl, ⟨rfl, trivial⟩⟩⟩ w
  · replace w := w.2 c1
    refine ex_iconst (v := 0) hX dX2_takeBytes_12 rfl ?_
    exact ex_iret hX dX2_takeBytes_13 rfl w

set_option maxRecDepth 100000 in
set_option maxHeartbeats 4000000 in
theorem sg_X2_takeBytes_19 {Z : CX × GX} {post : Int32 → AH → Prop} {h : AH} {x2 : Int64} {x4 : Int32} (hX : OK Z RX2 cX2_takeBytes 5 (some .boolean) 0 0) 
    (w : ((x4 < 0 → post 1 h) ∧ (¬ x4 < 0 → (∀ v2 : Int32, v2 = Int64.toInt32 (x2 >>> (Int32.toInt64 (8 * x4) &&& 63)) → (vp_in (h.1 1 1) 400) ∧ (∀ u4 : AH, u4 = (hset h.1 2 (Int32.toNatClampNeg (h.1 1 1)) (vp_nar .byte (Int8.toInt32 (Int32.toInt8 v2))), h.2) → (∀ u5 : AH, u5 = (hset u4.1 1 1 ((u4.1 1 1) + 1), u4.2) → EX Z 5 (QI Z post) 19 u5 [some (.ref 1), none, some (.long x2), none, some (.int (x4 + (-1)))] []))))))
    : EX Z 5 (QI Z post) 19 h [some (.ref 1), none, some (.long x2), none, some (.int x4)] [] := by
  refine ex_iload hX dX2_takeBytes_19 rfl ?_
  refine ex_iflt hX 58 dX2_takeBytes_21 (by decide) (fun c1 => ?_) (fun c1 => ?_)
  · replace w := w.1 c1
    refine ex_iconst (v := 1) hX dX2_takeBytes_58 rfl ?_
    exact ex_iret hX dX2_takeBytes_59 rfl w
  · replace w := w.2 c1
    refine ex_aload_n hX dX2_takeBytes_24 rfl rfl ?_
    refine ex_get hX (.ref 2) FL_2_9 rfl (fun _ => rfl) dX2_takeBytes_25 ?_
    refine ex_aload_n hX dX2_takeBytes_28 rfl rfl ?_
    refine ex_get hX (.int (h.1 1 1)) FL_2_15 rfl (fun _ => rfl) dX2_takeBytes_29 ?_
    refine ex_lload_n hX dX2_takeBytes_32 rfl rfl ?_
    refine ex_bipush (v := 8) hX dX2_takeBytes_33 rfl ?_
    refine ex_iload hX dX2_takeBytes_35 rfl ?_
    refine ex_imul hX dX2_takeBytes_37 ?_
    refine ex_lshr hX dX2_takeBytes_38 ?_
    refine ex_l2i hX dX2_takeBytes_39 ?_
    refine ex_nameI (fun v2 ev2 => ?_)
    replace w := w v2 ev2
    refine ex_i2b hX dX2_takeBytes_40 ?_
    obtain ⟨q3, w⟩ := w
    refine ex_bast hX rfl q3 dX2_takeBytes_41 ?_
    refine ex_nameH (fun u4 eu4 => ?_)
    replace w := w u4 eu4
    refine ex_aload_n hX dX2_takeBytes_42 rfl rfl ?_
    refine ex_dup hX dX2_takeBytes_43 rfl ?_
    refine ex_get hX (.int (u4.1 1 1)) FL_2_15 rfl (fun _ => rfl) dX2_takeBytes_44 ?_
    refine ex_iconst (v := 1) hX dX2_takeBytes_47 rfl ?_
    refine ex_iadd hX dX2_takeBytes_48 ?_
    refine ex_put hX .int FL_2_15 tyX2 tyX2_ok nmX2 rfl rfl rfl rfl rfl (fun _ => (by decide : 1 < 11)) (fun _ => fs_2_1) dX2_takeBytes_49 ?_
    refine ex_nameH (fun u5 eu5 => ?_)
    replace w := w u5 eu5
    refine ex_iinc (v := x4 + (-1)) (lv' := [some (.ref 1), none, some (.long x2), none, some (.int (x4 + (-1)))]) hX dX2_takeBytes_52 rfl rfl (by decide) rfl ?_
    refine ex_goto hX 19 dX2_takeBytes_55 (by decide) ?_
    exact w

set_option maxRecDepth 100000 in
set_option maxHeartbeats 4000000 in
theorem sg_X6_feed_0 {Z : CX × GX} {post : Int32 → AH → Prop} {h : AH} {x1 : Int32} {x2 : Int64} (hX : OK Z RX6 cX6_feed 4 (some .int) 1 24) 
    (w : ((x1 < 1 → post (-100000002) h) ∧ (¬ x1 < 1 → ((x1 ≤ 8 → (∃ PP : Int32 → AH → Prop, CI yX2_takeBytes cX2_takeBytes 5 (some .boolean) 0 0 [.ref 1, .int x1, .long x2] h PP ∧ ∀ (r : Int32) (u : AH), PP r u → EX Z 4 (QI Z post) 23 u [some (.ref 0), none, none, none] (.int r :: []))) ∧ (¬ x1 ≤ 8 → post (-100000002) h)))))
    : EX Z 4 (QI Z post) 0 h [some (.ref 0), some (.int x1), some (.long x2), none] [] := by
  refine ex_iload_n hX dX6_feed_0 rfl rfl ?_
  refine ex_iconst (v := 1) hX dX6_feed_1 rfl ?_
  refine ex_icmplt hX 11 dX6_feed_2 (by decide) (fun c1 => ?_) (fun c1 => ?_)
  · replace w := w.1 c1
    refine ex_ldc hX dX6_feed_11 KC_6_72 ?_
    exact ex_iret hX dX6_feed_13 rfl w
  · replace w := w.2 c1
    refine ex_iload_n hX dX6_feed_5 rfl rfl ?_
    refine ex_bipush (v := 8) hX dX6_feed_6 rfl ?_
    refine ex_icmple hX 14 dX6_feed_8 (by decide) (fun c2 => ?_) (fun c2 => ?_)
    · replace w := w.1 c2
      refine ex_aload_n hX dX6_feed_14 rfl rfl ?_
      refine ex_get hX (.ref 1) FL_6_10 rfl (fun _ => rfl) dX6_feed_15 ?_
      refine ex_iload_n hX dX6_feed_18 rfl rfl ?_
      refine ex_lload_n hX dX6_feed_19 rfl rfl ?_
      obtain ⟨PP, pM, pK⟩ := w
      exact ex_callIv (ci := 2) (i := 1) (As := [.int x1, .long x2]) (st := []) hX pM CS_6_73 MS_X2_takeBytes rfl rfl rfl (by decide) rfl (Nat.le_of_ble_eq_true rfl) dX6_feed_20 (fun r u hp => ex_forget [some (.ref 0), none, none, none] ⟨rfl, trivial⟩ (pK r u hp))
    · replace w := w.2 c2
      refine ex_ldc hX dX6_feed_11 KC_6_72 ?_
      exact ex_iret hX dX6_feed_13 rfl w

set_option maxRecDepth 100000 in
set_option maxHeartbeats 4000000 in
theorem sg_X6_feed_23 {Z : CX × GX} {post : Int32 → AH → Prop} {h : AH} {s0 : Int32} (hX : OK Z RX6 cX6_feed 4 (some .int) 1 24) 
    (w : ((s0 = 0 → post (-100000004) h) ∧ (¬ s0 = 0 → post (h.1 1 1) h)))
    : EX Z 4 (QI Z post) 23 h [some (.ref 0), none, none, none] [.int s0] := by
  refine ex_ifeq hX 36 dX6_feed_23 (by decide) (fun c1 => ?_) (fun c1 => ?_)
  · replace w := w.1 c1
    refine ex_ldc hX dX6_feed_36 KC_6_80 ?_
    exact ex_iret hX dX6_feed_38 rfl w
  · replace w := w.2 c1
    refine ex_aload_n hX dX6_feed_26 rfl rfl ?_
    refine ex_get hX (.ref 1) FL_6_10 rfl (fun _ => rfl) dX6_feed_27 ?_
    refine ex_get hX (.int (h.1 1 1)) FL_6_77 rfl (fun _ => rfl) dX6_feed_30 ?_
    refine ex_goto hX 38 dX6_feed_33 (by decide) ?_
    exact ex_iret hX dX6_feed_38 rfl w

set_option maxRecDepth 100000 in
set_option maxHeartbeats 4000000 in
theorem sg_X7_feed_0 {Z : CX × GX} {post : Int32 → AH → Prop} {h : AH} {x1 : Int32} {x2 : Int64} (hX : OK Z RX7 cX7_feed 5 (some .int) 1 25) 
    (w : (((1 ≤ (Int32.toInt64 x1) ∧ (Int32.toInt64 x1) ≤ 8) → ((((h.1 94 17) + x1) ≤ 400 → EX Z 5 (QI Z post) 35 h [some (.ref 94), none, some (.long x2), none, some (.int (x1 - 1))] []) ∧ (¬ ((h.1 94 17) + x1) ≤ 400 → post (-100000004) h))) ∧ (¬ (1 ≤ (Int32.toInt64 x1) ∧ (Int32.toInt64 x1) ≤ 8) → post (-100000002) h)))
    : EX Z 5 (QI Z post) 0 h [some (.ref 94), some (.int x1), some (.long x2), none, none] [] := by
  refine ex_iload_n hX dX7_feed_0 rfl rfl ?_
  refine ex_i2l hX dX7_feed_1 ?_
  refine ex_lconst (v := 1) hX dX7_feed_2 rfl ?_
  refine ex_ldc2 hX dX7_feed_3 KL_7_69 ?_
  refine ex_pIs (As := [.long (Int32.toInt64 x1), .long 1, .long 8]) (st := []) hX (c_X7_in (h := h)) CS_7_71 MS_X7_in rfl (by decide) rfl (Nat.le_of_ble_eq_true rfl) dX7_feed_6 ?_
  refine ex_ifneB hX 15 dX7_feed_9 (by decide) (fun c1 => ?_) (fun c1 => ?_)
  · replace w := w.1 c1
    refine ex_aload_n hX dX7_feed_15 rfl rfl ?_
    refine ex_get hX (.int (h.1 94 17)) FL_7_76 rfl (fun _ => rfl) dX7_feed_16 ?_
    refine ex_iload_n hX dX7_feed_19 rfl rfl ?_
    refine ex_iadd hX dX7_feed_20 ?_
    refine ex_sipush (v := 400) hX dX7_feed_21 rfl ?_
    refine ex_icmple hX 30 dX7_feed_24 (by decide) (fun c2 => ?_) (fun c2 => ?_)
    · replace w := w.1 c2
      refine ex_iload_n hX dX7_feed_30 rfl rfl ?_
      refine ex_iconst (v := 1) hX dX7_feed_31 rfl ?_
      refine ex_isub hX dX7_feed_32 ?_
      refine ex_istore (lv' := [some (.ref 94), some (.int x1), some (.long x2), none, some (.int (x1 - 1))]) hX dX7_feed_33 (by decide) rfl ?_
      exact ex_forget [some (.ref 94), none, some (.long x2), none, some (.int (x1 - 1))] ⟨rfl, ⟨rfl, ⟨rfl, trivial⟩⟩⟩ w
    · replace w := w.2 c2
      refine ex_ldc hX dX7_feed_27 KC_7_79 ?_
      exact ex_iret hX dX7_feed_29 rfl w
  · replace w := w.2 c1
    refine ex_ldc hX dX7_feed_12 KC_7_75 ?_
    exact ex_iret hX dX7_feed_14 rfl w

set_option maxRecDepth 100000 in
set_option maxHeartbeats 4000000 in
theorem sg_X7_feed_35 {Z : CX × GX} {post : Int32 → AH → Prop} {h : AH} {x2 : Int64} {x4 : Int32} (hX : OK Z RX7 cX7_feed 5 (some .int) 1 25) 
    (w : ((x4 < 0 → post (h.1 94 17) h) ∧ (¬ x4 < 0 → (∀ v2 : Int64, v2 = (x2 >>> (Int32.toInt64 (8 * x4) &&& 63)) &&& 255 → (vp_in (h.1 94 17) 400) ∧ (∀ u4 : AH, u4 = (hset h.1 107 (Int32.toNatClampNeg (h.1 94 17)) (Int64.toInt32 v2), h.2) → (∀ u5 : AH, u5 = (hset u4.1 94 17 ((u4.1 94 17) + 1), u4.2) → EX Z 5 (QI Z post) 35 u5 [some (.ref 94), none, some (.long x2), none, some (.int (x4 + (-1)))] []))))))
    : EX Z 5 (QI Z post) 35 h [some (.ref 94), none, some (.long x2), none, some (.int x4)] [] := by
  refine ex_iload hX dX7_feed_35 rfl ?_
  refine ex_iflt hX 77 dX7_feed_37 (by decide) (fun c1 => ?_) (fun c1 => ?_)
  · replace w := w.1 c1
    refine ex_aload_n hX dX7_feed_77 rfl rfl ?_
    refine ex_get hX (.int (h.1 94 17)) FL_7_76 rfl (fun _ => rfl) dX7_feed_78 ?_
    exact ex_iret hX dX7_feed_81 rfl w
  · replace w := w.2 c1
    refine ex_aload_n hX dX7_feed_40 rfl rfl ?_
    refine ex_get hX (.ref 107) FL_7_47 rfl (fun _ => rfl) dX7_feed_41 ?_
    refine ex_aload_n hX dX7_feed_44 rfl rfl ?_
    refine ex_get hX (.int (h.1 94 17)) FL_7_76 rfl (fun _ => rfl) dX7_feed_45 ?_
    refine ex_lload_n hX dX7_feed_48 rfl rfl ?_
    refine ex_bipush (v := 8) hX dX7_feed_49 rfl ?_
    refine ex_iload hX dX7_feed_51 rfl ?_
    refine ex_imul hX dX7_feed_53 ?_
    refine ex_lshr hX dX7_feed_54 ?_
    refine ex_ldc2 hX dX7_feed_55 KL_7_80 ?_
    refine ex_land hX dX7_feed_58 ?_
    refine ex_nameL (fun v2 ev2 => ?_)
    replace w := w v2 ev2
    refine ex_l2i hX dX7_feed_59 ?_
    obtain ⟨q3, w⟩ := w
    refine ex_iast hX rfl q3 dX7_feed_60 ?_
    refine ex_nameH (fun u4 eu4 => ?_)
    replace w := w u4 eu4
    refine ex_aload_n hX dX7_feed_61 rfl rfl ?_
    refine ex_dup hX dX7_feed_62 rfl ?_
    refine ex_get hX (.int (u4.1 94 17)) FL_7_76 rfl (fun _ => rfl) dX7_feed_63 ?_
    refine ex_iconst (v := 1) hX dX7_feed_66 rfl ?_
    refine ex_iadd hX dX7_feed_67 ?_
    refine ex_put hX .int FL_7_76 tyX7 tyX7_ok nmX7 rfl rfl rfl rfl rfl (fun _ => (by decide : 17 < 33)) (fun _ => fs_7_17) dX7_feed_68 ?_
    refine ex_nameH (fun u5 eu5 => ?_)
    replace w := w u5 eu5
    refine ex_iinc (v := x4 + (-1)) (lv' := [some (.ref 94), none, some (.long x2), none, some (.int (x4 + (-1)))]) hX dX7_feed_71 rfl rfl (by decide) rfl ?_
    refine ex_goto hX 35 dX7_feed_74 (by decide) ?_
    exact w

def RPc (R : Cur × (Nat → Nat)) (g : Nat) (h : AH) (r : Int32) (u : AH) : Prop := u.1 1 1 = 0 ∧ (∀ i k, i ≠ 0 → i ≠ 1 → (i < h.2 4 ∨ h.2 4 + 4 ≤ i) → u.1 i k = h.1 i k) ∧ u.1 0 12 = h.1 0 12 ∧ (¬ R.1.1 = 0 → r = (-10) - nI R.1.1 ∧ u.2 = h.2 ∧ u.1 0 13 = nI R.1.2.1) ∧ (R.1.1 = 0 → r = nI (R.2 0) ∧ u.2 = gup (gup h.2 3 (h.2 4)) 4 (h.2 3) ∧ u.1 0 13 = -1 ∧ ROd (h.2 4) R.2 u ∧ WFo g R.2)

set_option maxRecDepth 100000 in
set_option maxHeartbeats 4000000 in
theorem c_X6_plan {h : AH}   {T : Nat → Nat} {L nn : Nat} (hT : TXc T L h) (hG : GV h) (h9 : h.1 (h.2 1) 0 = nI nn) (hn : nn = 0 ∨ 2 ≤ nn ∧ nn ≤ 10) : CI yX6_plan cX6_plan 2 (some .int) 6 146 [.ref 0] h (fun r u => (nn = 0 → r = -100000003 ∧ u = h) ∧ (¬ nn = 0 → RPc (plansS T L (nn - 1) 31 (0, 0, 0) (fun _ => 0)) (nn - 1) h r u)) := by
  refine CI.of [some (.ref 0), none] (by decide +kernel) rfl (Nat.le_of_ble_eq_true rfl) rfl (fun Z hX => ?_)
  obtain ⟨g1, g2, g3, g4, g5, g6⟩ := hG
  have b1 := oc0 g1
  have b3 := oc1 g3
  have b4 := oc1 g4
  by_cases n0 : nn = 0
  · exact sg_X6_plan_0 hX ⟨fun z => absurd (by rw [h9, n0]; rfl) z, fun _ => ⟨fun _ => ⟨rfl, rfl⟩, fun y => absurd n0 y⟩⟩
  refine sg_X6_plan_0 hX ⟨fun _ => ?_, fun z => absurd z (by rw [h9]; exact nI_ne0 (by omega) (by omega))⟩
  rw [h9, k_1, pk_sub (by omega)]
  refine ⟨_, c_X2_readOrders (g := nn - 1) g4 hT (by omega) (by omega) rfl, fun u p => ?_⟩
  generalize plansS T L (nn - 1) 31 (0, 0, 0) (fun _ => 0) = R at *
  obtain ⟨p1, p2, p3, p4, p5, p6, p7⟩ := p
  refine sg_X6_plan_33 hX ⟨_, c_X2_faultByte, fun s v hv => ?_⟩
  rw [hv.2]
  have es := hv.1
  refine sg_X6_plan_41 hX (fun u1 e1 => ?_)
  have o1 : ∀ i, i ≠ 0 → u1.1 i = u.1 i := fun i hi => by rw [e1, hs_o hi]
  have z2 : (u1.1 1 2 = 0) ↔ R.1.1 = 0 := by rw [o1 1 (by omega), p4, k_0, nI_eq (by omega) (by omega)]
  have k12 : u1.1 0 12 = h.1 0 12 := by rw [e1, hs_i (by omega)]; exact p2 0 12 (by omega) (by omega)
  refine ⟨fun z u5 e5 u6 e6 => ⟨fun y => absurd y n0, fun _ => ?_⟩, fun z => ⟨fun y => absurd y n0, fun _ => ?_⟩⟩
  · have r0 := z2.mp z
    obtain ⟨ro, wf⟩ := p7 r0
    have h2 : u1.2 = h.2 := by rw [e1]; exact p1
    have h6 : u6.2 = gup (gup h.2 3 (h.2 4)) 4 (h.2 3) := by rw [e6, e5, h2]
    have f6 : u6.1 = u1.1 := by rw [e6, e5]
    have i3 : u6.2 3 = h.2 4 := by rw [h6]; rfl
    have ro6 : ROd (h.2 4) R.2 u6 := by
      unfold ROd
      rw [f6, o1 _ (by omega), o1 _ (by omega), o1 _ (by omega), o1 _ (by omega)]
      exact ro
    refine ⟨by rw [f6, o1 1 (by omega)]; exact p3, fun i k a b c => by rw [f6, o1 i a]; exact p2 i k b c, by rw [f6]; exact k12, fun y => absurd r0 y, fun _ => ⟨by rw [i3]; exact ro6.1, h6, ?_, ro6, wf⟩⟩
    rw [f6, e1, hs_s, es, if_pos (by rw [p4, r0]; rfl)]
  · have r0 : ¬ R.1.1 = 0 := fun y => z (z2.mpr y)
    have e12 : u1.1 1 2 = nI R.1.1 := by rw [o1 1 (by omega)]; exact p4
    rw [e12]
    obtain ⟨q1, q2⟩ := p6 r0
    refine ⟨by rw [o1 1 (by omega)]; exact p3, fun i k a b c => by rw [o1 i a]; exact p2 i k b c, k12, fun _ => ⟨rfl, by rw [e1]; exact p1, ?_⟩, fun y => absurd y r0⟩
    rw [e1, hs_s, es, if_neg (by rw [p4]; exact nI_ne0 (by omega) (by omega))]
    exact q1

theorem op_plan {N : Nat} {h : AH} (hI : INV N h) : OPP yX6_plan cX6_plan 2 6 146 yX7_plan cX7_plan 2 2 50 [] N h := by
  obtain ⟨T, L, tc, tm⟩ := TV_T hI.2.2.2.2.1
  have hG := hI.1
  obtain ⟨g1, g2, g3, g4, g5, g6⟩ := hG
  have b1 := oc0 g1
  have b2 := oc0 g2
  have b3 := oc1 g3
  have b4 := oc1 g4
  obtain ⟨r1, ⟨nn, rn, ra, rb, rc⟩, ⟨mm, sm, sa, sb⟩, rd, re, rf⟩ := hI.2.1
  have pnM : pn (PM h.1) = nn := pn_M rb rn
  have hn : nn = 0 ∨ 2 ≤ nn ∧ nn ≤ 10 := by
    rcases rc with z | z
    · exact Or.inl z
    · have := z.1
      rw [pnM] at this
      exact Or.inr this
  refine ⟨_, c_X6_plan tc hI.1 ra hn, fun r u hp => ?_⟩
  have h94 : ∀ i k, 94 ≤ i → u.1 i k = h.1 i k := fun i k hi => by
    by_cases n0 : nn = 0
    · rw [(hp.1 n0).2]
    · exact (hp.2 n0).2.1 i k (by omega) (by omega) (by omega)
  refine ⟨_, c_X7_plan (h := u) (T := T) (L := L) (nn := nn) ⟨tm.1, by rw [h94 94 17 (by omega)]; exact tm.2.1, fun j hj => by rw [h94 107 j (by omega)]; exact tm.2.2 j hj⟩ (by rw [h94 94 9 (by omega)]; exact rb) hn, fun r2 u2 hq => ?_⟩
  by_cases n0 : nn = 0
  · obtain ⟨x1, x2⟩ := hp.1 n0
    obtain ⟨y1, y2⟩ := hq.1 n0
    exact ⟨by rw [y1, x1], by rw [y2, x2]; exact INV_mono hI (by omega)⟩
  obtain ⟨p1, p2, p3, p4, p5⟩ := hp.2 n0
  obtain ⟨q1, q2, q3, q4, q5⟩ := hq.2 n0
  have P0 : POK (PM h.1) := rc.resolve_left n0
  generalize hg : nn - 1 = g at *
  generalize plansS T L g 31 (0, 0, 0) (fun _ => 0) = R at *
  have lo : ∀ i, i < 94 → u2.1 i = u.1 i := fun i hi => funext fun k => q3 i k (by unfold chM; omega) (by omega) (by omega)
  by_cases r0 : R.1.1 = 0
  · obtain ⟨s1, s2, s3, s4, s5⟩ := p5 r0
    obtain ⟨t1, t2, t3, t4⟩ := q5 r0
    refine ⟨by rw [t1, s1], ?_⟩
    have i1 : u2.2 1 = h.2 1 := by rw [q1, s2]; rfl
    have i2 : u2.2 2 = h.2 2 := by rw [q1, s2]; rfl
    have i3 : u2.2 3 = h.2 4 := by rw [q1, s2]; rfl
    have i4 : u2.2 4 = h.2 3 := by rw [q1, s2]; rfl
    have fC : ∀ i, i ≠ 0 → i ≠ 1 → (i < h.2 4 ∨ h.2 4 + 4 ≤ i) → i < 94 → u2.1 i = h.1 i := fun i a b c d => by
      rw [lo i d]
      exact funext fun k => p2 i k a b c
    have fM : ∀ i k, 94 ≤ i → ¬ chM i k → ¬ (i = 94 ∧ (k = 17 ∨ k = 14)) → ¬ (i = 104 ∨ i = 105 ∨ i = 106) → u2.1 i k = h.1 i k := fun i k a b c d => by rw [q3 i k b c d, h94 i k a]
    have k9 : u2.1 94 9 = h.1 94 9 := fM 94 9 (by omega) (by unfold chM; omega) (by omega) (by omega)
    have f95 : u2.1 95 = h.1 95 := funext fun k => fM 95 k (by omega) (by unfold chM; omega) (by omega) (by omega)
    have ro2 : ROd (h.2 4) R.2 u2 := by
      unfold ROd
      rw [lo _ (by omega), lo _ (by omega), lo _ (by omega), lo _ (by omega)]
      exact s4
    have w30 := s5.1
    have cl : (nI (R.2 0)).toNatClampNeg = R.2 0 := nI_clamp (by omega)
    have c10 : cut 10 (u2.1 97) = cut 10 (h.1 97) := cut_cg (fun k hk => fM 97 k (by omega) (by unfold chM; omega) (by omega) (by omega))
    have c11 : cut 10 (u2.1 98) = cut 10 (h.1 98) := cut_cg (fun k hk => fM 98 k (by omega) (by unfold chM; omega) (by omega) (by omega))
    have c12 : cut 9 (u2.1 103) = cut 9 (h.1 103) := cut_cg (fun k hk => fM 103 k (by omega) (by unfold chM; omega) (by omega) (by omega))
    have c13 : cut 24 (u2.1 100) = cut 24 (h.1 100) := cut_cg (fun k hk => fM 100 k (by omega) (by unfold chM; omega) (by omega) (by omega))
    have c14 : cut 24 (u2.1 101) = cut 24 (h.1 101) := cut_cg (fun k hk => fM 101 k (by omega) (by unfold chM; omega) (by omega) (by omega))
    have eP : PC u2.1 (h.2 1) (h.2 4) = PM u2.1 := by
      have e := r1
      unfold PC PM at e ⊢
      simp only [Prod.mk.injEq] at e ⊢
      obtain ⟨x1, x2, x3, x4, x5, x6, -⟩ := e
      rw [k9, c10, c11, c12, c13, c14, t2, ro2.1, cl, fC (h.2 1) (by omega) (by omega) (by omega) (by omega), fC (h.2 1 + 1) (by omega) (by omega) (by omega) (by omega), fC (h.2 1 + 2) (by omega) (by omega) (by omega) (by omega), fC (h.2 1 + 5) (by omega) (by omega) (by omega) (by omega), fC (h.2 1 + 6) (by omega) (by omega) (by omega) (by omega), fC (h.2 1 + 7) (by omega) (by omega) (by omega) (by omega)]
      exact ⟨x1, x2, x3, x4, x5, x6, rfl, cut_cg (fun k hk => by rw [(ro2.2 k hk).1, (t4 k hk).1]), cut_cg (fun k hk => by rw [(ro2.2 k hk).2.1, (t4 k hk).2.1]), cut_cg (fun k hk => by rw [(ro2.2 k hk).2.2, (t4 k hk).2.2])⟩
    have pnU : pn (PM u2.1) = nn := pn_M (by rw [k9]; exact rb) rn
    have ePn : pn (PM h.1) = pn (PM u2.1) := by rw [pnM, pnU]
    have efl : pfl (PM u2.1) = pfl (PM h.1) := c10
    have ear : par (PM u2.1) = par (PM h.1) := c11
    have eto : pto (PM u2.1) = pto (PM h.1) := c12
    have era : pra (PM u2.1) = pra (PM h.1) := c13
    have eti : pti (PM u2.1) = pti (PM h.1) := c14
    have epa : pa (PM u2.1) = R.2 0 := by show (u2.1 94 14).toNatClampNeg = _; rw [t2, cl]
    refine ⟨⟨by rw [i1]; exact g1, by rw [i2]; exact g2, by rw [i3]; exact g4, by rw [i4]; exact g3, by rw [i1, i2]; exact g5, by rw [i3, i4]; exact fun z => g6 z.symm⟩, ?_, ?_, ?_, ?_, ?_, ?_, ?_⟩
    · unfold RV
      rw [i1, i3, efl, ear, eto, ← ePn]
      refine ⟨eP, ⟨nn, rn, by rw [fC (h.2 1) (by omega) (by omega) (by omega) (by omega)]; exact ra, by rw [k9]; exact rb, Or.inr ?_⟩, ⟨R.2 0, w30, ro2.1, t2⟩, rd, re, rf⟩
      obtain ⟨y1, y2, y3, -, -⟩ := P0
      unfold POK
      rw [← ePn, efl, ear, era, eti, epa]
      refine ⟨y1, y2, y3, w30, fun i hi => ?_⟩
      have wi := s5.2 i hi
      have ii : i < (u2.1 94 14).toNatClampNeg := by rw [t2, cl]; exact hi
      refine ⟨⟨R.2 (200 + i), by rw [pnM]; omega, ?_⟩, ⟨R.2 (300 + i), wi.2.2, ?_⟩⟩
      · show cut (u2.1 94 14).toNatClampNeg (u2.1 105) i = _
        rw [cut_in ii]; exact (t4 i hi).2.1
      · show cut (u2.1 94 14).toNatClampNeg (u2.1 106) i = _
        rw [cut_in ii]; exact (t4 i hi).2.2
    · obtain ⟨n1, n2, n3⟩ := hI.2.2.1
      refine ⟨?_, by rw [fC 27 (by omega) (by omega) (by omega) (by omega)]; exact n2, ?_⟩
      · rw [cs_same (g := h.1) (s := 27) (fun i h1 h2 => fC i (by omega) (by omega) (by omega) (by omega)), show ms u2.1 0 = ms h.1 0 by unfold ms; rw [f95]]
        exact n1
      · rw [show ms u2.1 0 = ms h.1 0 by unfold ms; rw [f95]]
        exact SV_pn ePn (SV_mono n3 (by omega))
    · intro j hj
      have k96 : u2.1 96 j = h.1 96 j := fM 96 j (by omega) (by unfold chM; omega) (by omega) (by omega)
      rw [k96, fC 88 (by omega) (by omega) (by omega) (by omega), cs_same (g := h.1) (s := 57 + 15 * j) (fun i h1 h2 => fC i (by omega) (by omega) (by omega) (by omega)), show ms u2.1 (400 + 200 * j) = ms h.1 (400 + 200 * j) by unfold ms; rw [f95], fC (57 + 15 * j) (by omega) (by omega) (by omega) (by omega)]
      obtain ⟨z1, z2⟩ := IV_mono (M := N + 1) hI.2.2.2.1 (by omega) j hj
      refine ⟨z1, ?_⟩
      rcases z2 with z2 | ⟨z2, z3, z4, z5⟩
      · exact Or.inl z2
      · exact Or.inr ⟨z2, z3, z4, SV_pn ePn z5⟩
    · exact ⟨0, by omega, by rw [lo 1 (by omega)]; exact p1, q2, fun j hj => absurd hj (by omega)⟩
    · show u2.1 0 13 = u2.1 94 22
      rw [lo 0 (by omega), t3]; exact s3
    · have k32 : u2.1 94 32 = h.1 94 32 := fM 94 32 (by omega) (by unfold chM; omega) (by omega) (by omega)
      obtain ⟨E, ea, eb, ec, ed⟩ := hI.2.2.2.2.2.2.1
      refine ⟨E, ea, by rw [lo 0 (by omega), p3]; exact eb, by rw [k32]; exact ec, ?_⟩
      rw [fC 93 (by omega) (by omega) (by omega) (by omega), show u2.1 112 = h.1 112 from funext fun k => fM 112 k (by omega) (by unfold chM; omega) (by omega) (by omega)]
      exact ed
    · unfold HV
      rw [fM 94 25 (by omega) (by unfold chM; omega) (by omega) (by omega), fM 94 26 (by omega) (by unfold chM; omega) (by omega) (by omega)]
      exact hI.2.2.2.2.2.2.2
  · obtain ⟨s1, s2, s3⟩ := p4 r0
    obtain ⟨t1, t2, t3, t4⟩ := q4 r0
    refine ⟨by rw [t1, s1], INV_flt hI (by rw [q1, s2]) (fun i k h1 h2 h3 h4 h5 => ?_) (by rw [lo 0 (by omega)]; exact p3) (fun i k h1 h2 h3 => ?_) (by rw [lo 1 (by omega)]; exact p1) q2 (by rw [lo 0 (by omega), t2]; exact s3)⟩
    · rw [lo i h5]; exact p2 i k h1 h2 h4
    · rw [← h94 i k h1]
      by_cases z : i = 104 ∨ i = 105 ∨ i = 106
      · refine t4 i k z ?_
        unfold chM at h2
        omega
      · by_cases z2 : i = 94 ∧ k = 14
        · obtain ⟨rfl, rfl⟩ := z2
          exact t3
        · exact q3 i k h2 (by omega) z
