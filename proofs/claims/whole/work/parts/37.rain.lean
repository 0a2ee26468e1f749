set_option maxRecDepth 100000 in
set_option maxHeartbeats 4000000 in
theorem sg_X3_takeShower_0 {Z : CX × GX} {post : Int32 → AH → Prop} {h : AH} {x0 : Nat} {x1 : Nat} {x2 : Int32} (hX : OK Z RX3 cX3_takeShower 5 (some .int) 1 21) (ox0 : oc x0 = some 3) (ox1 : oc x1 = some 0)
    (w : (∃ PP : Int32 → AH → Prop, CI yX3_draw cX3_draw 2 (some .int) 0 0 [.ref x0, .int x2] h PP ∧ ∀ (r : Int32) (u : AH), PP r u → EX Z 5 (QI Z post) 5 u [some (.ref x0), some (.ref x1), none, none, none] (.int r :: [])))
    : EX Z 5 (QI Z post) 0 h [some (.ref x0), some (.ref x1), some (.int x2), none, none] [] := by
  refine ex_aload_n hX dX3_takeShower_0 rfl rfl ?_
  refine ex_iload_n hX dX3_takeShower_1 rfl rfl ?_
  obtain ⟨PP, pM, pK⟩ := w
  exact ex_callIv (ci := 3) (i := x0) (As := [.int x2]) (st := []) hX pM CS_3_145 MS_X3_draw rfl ox0 rfl (by decide) rfl (Nat.le_of_ble_eq_true rfl) dX3_takeShower_2 (fun r u hp => ex_forget [some (.ref x0), some (.ref x1), none, none, none] ⟨rfl, ⟨rfl, trivial⟩⟩ (pK r u hp))

set_option maxRecDepth 100000 in
set_option maxHeartbeats 4000000 in
theorem sg_X3_takeShower_5 {Z : CX × GX} {post : Int32 → AH → Prop} {h : AH} {x0 : Nat} {x1 : Nat} {s0 : Int32} (hX : OK Z RX3 cX3_takeShower 5 (some .int) 1 21) (ox0 : oc x0 = some 3) (ox1 : oc x1 = some 0)
    (w : (∃ PP : Int32 → AH → Prop, CI yX3_draw cX3_draw 2 (some .int) 0 0 [.ref x0, .int (h.1 x1 0)] h PP ∧ ∀ (r : Int32) (u : AH), PP r u → EX Z 5 (QI Z post) 14 u [some (.ref x0), some (.ref x1), none, some (.int s0), none] (.int r :: [])))
    : EX Z 5 (QI Z post) 5 h [some (.ref x0), some (.ref x1), none, none, none] [.int s0] := by
  refine ex_istore_n (lv' := [some (.ref x0), some (.ref x1), none, some (.int s0), none]) hX dX3_takeShower_5 rfl (by decide) rfl ?_
  refine ex_aload_n hX dX3_takeShower_6 rfl rfl ?_
  refine ex_aload_n hX dX3_takeShower_7 rfl rfl ?_
  refine ex_get hX (.int (h.1 x1 0)) FL_3_80 ox1 (fun _ => rfl) dX3_takeShower_8 ?_
  obtain ⟨PP, pM, pK⟩ := w
  exact ex_callIv (ci := 3) (i := x0) (As := [.int (h.1 x1 0)]) (st := []) hX pM CS_3_145 MS_X3_draw rfl ox0 rfl (by decide) rfl (Nat.le_of_ble_eq_true rfl) dX3_takeShower_11 (fun r u hp => pK r u hp)

set_option maxRecDepth 100000 in
set_option maxHeartbeats 4000000 in
theorem sg_X3_takeShower_14 {Z : CX × GX} {post : Int32 → AH → Prop} {h : AH} {x0 : Nat} {x1 : Nat} {x3 : Int32} {s0 : Int32} (hX : OK Z RX3 cX3_takeShower 5 (some .int) 1 21) (ox0 : oc x0 = some 3) (ox1 : oc x1 = some 0)
    (w : ((¬ (s0 = h.1 x1 0 - 1) → (vp_in s0 10) ∧ (∀ v3 : Int32, v3 = (h.1 (x0 + 1) (Int32.toNatClampNeg s0)) + x3 → (vp_in s0 10) ∧ (∀ u5 : AH, u5 = (hset h.1 (x0 + 1) (Int32.toNatClampNeg s0) v3, h.2) → post x3 u5))) ∧ ((s0 = h.1 x1 0 - 1) → post 0 h)))
    : EX Z 5 (QI Z post) 14 h [some (.ref x0), some (.ref x1), none, some (.int x3), none] [.int s0] := by
  refine ex_istore (lv' := [some (.ref x0), some (.ref x1), none, some (.int x3), some (.int s0)]) hX dX3_takeShower_14 (by decide) rfl ?_
  refine ex_aload_n hX dX3_takeShower_16 rfl rfl ?_
  refine ex_iload hX dX3_takeShower_17 rfl ?_
  refine ex_pIv (ci := 0) (i := x1) (As := [.int s0]) (st := []) hX (c_X0_isSea (h := h) ox1) CS_3_69 MS_X0_isSea rfl ox1 rfl (by decide) rfl (Nat.le_of_ble_eq_true rfl) dX3_takeShower_19 ?_
  refine ex_ifeqB hX 27 dX3_takeShower_22 (by decide) (fun c1 => ?_) (fun c1 => ?_)
  · replace w := w.1 c1
    refine ex_aload_n hX dX3_takeShower_27 rfl rfl ?_
    refine ex_get hX (.ref (x0 + 1)) FL_3_9 ox0 (fun _ => rfl) dX3_takeShower_28 ?_
    refine ex_iload hX dX3_takeShower_31 rfl ?_
    refine ex_dup2 hX dX3_takeShower_33 rfl rfl ?_
    obtain ⟨q2, w⟩ := w
    refine ex_iald hX (sh_3_1 ox0) q2 dX3_takeShower_34 ?_
    refine ex_iload_n hX dX3_takeShower_35 rfl rfl ?_
    refine ex_iadd hX dX3_takeShower_36 ?_
    refine ex_nameI (fun v3 ev3 => ?_)
    replace w := w v3 ev3
    obtain ⟨q4, w⟩ := w
    refine ex_iast hX (sh_3_1 ox0) q4 dX3_takeShower_37 ?_
    refine ex_nameH (fun u5 eu5 => ?_)
    replace w := w u5 eu5
    refine ex_iload_n hX dX3_takeShower_38 rfl rfl ?_
    exact ex_iret hX dX3_takeShower_39 rfl w
  · replace w := w.2 c1
    refine ex_iconst (v := 0) hX dX3_takeShower_25 rfl ?_
    exact ex_iret hX dX3_takeShower_26 rfl w

set_option maxRecDepth 100000 in
set_option maxHeartbeats 4000000 in
theorem sg_X6_showers_0 {Z : CX × GX} {post : Int32 → AH → Prop} {h : AH} {x1 : Int32} {x2 : Int32} (hX : OK Z RX6 cX6_showers 5 (some .int) 4 93) 
    (w : ((x1 < 1 → post (-100000002) h) ∧ (¬ x1 < 1 → ((100 < x1 → post (-100000002) h) ∧ (¬ 100 < x1 → ((x2 < 1 → post (-100000002) h) ∧ (¬ x2 < 1 → ((x2 ≤ 99 → ((¬ (h.1 (h.2 1) 0) = 0 → EX Z 5 (QI Z post) 43 h [some (.ref 0), some (.int x1), some (.int x2), some (.int 0), some (.int 0)] []) ∧ ((h.1 (h.2 1) 0) = 0 → post (-100000003) h))) ∧ (¬ x2 ≤ 99 → post (-100000002) h)))))))))
    : EX Z 5 (QI Z post) 0 h [some (.ref 0), some (.int x1), some (.int x2), none, none] [] := by
  refine ex_iload_n hX dX6_showers_0 rfl rfl ?_
  refine ex_iconst (v := 1) hX dX6_showers_1 rfl ?_
  refine ex_icmplt hX 22 dX6_showers_2 (by decide) (fun c1 => ?_) (fun c1 => ?_)
  · replace w := w.1 c1
    refine ex_ldc hX dX6_showers_22 KC_6_72 ?_
    exact ex_iret hX dX6_showers_24 rfl w
  · replace w := w.2 c1
    refine ex_iload_n hX dX6_showers_5 rfl rfl ?_
    refine ex_bipush (v := 100) hX dX6_showers_6 rfl ?_
    refine ex_icmpgt hX 22 dX6_showers_8 (by decide) (fun c2 => ?_) (fun c2 => ?_)
    · replace w := w.1 c2
      refine ex_ldc hX dX6_showers_22 KC_6_72 ?_
      exact ex_iret hX dX6_showers_24 rfl w
    · replace w := w.2 c2
      refine ex_iload_n hX dX6_showers_11 rfl rfl ?_
      refine ex_iconst (v := 1) hX dX6_showers_12 rfl ?_
      refine ex_icmplt hX 22 dX6_showers_13 (by decide) (fun c3 => ?_) (fun c3 => ?_)
      · replace w := w.1 c3
        refine ex_ldc hX dX6_showers_22 KC_6_72 ?_
        exact ex_iret hX dX6_showers_24 rfl w
      · replace w := w.2 c3
        refine ex_iload_n hX dX6_showers_16 rfl rfl ?_
        refine ex_bipush (v := 99) hX dX6_showers_17 rfl ?_
        refine ex_icmple hX 25 dX6_showers_19 (by decide) (fun c4 => ?_) (fun c4 => ?_)
        · replace w := w.1 c4
          refine ex_aload_n hX dX6_showers_25 rfl rfl ?_
          refine ex_gg (fun c5 => ?_)
          refine ex_get hX (.ref (h.2 1)) FL_6_19 rfl (fun _ => rfl) dX6_showers_26 ?_
          refine ex_get hX (.int (h.1 (h.2 1) 0)) FL_6_100 c5.1 (fun _ => rfl) dX6_showers_29 ?_
          refine ex_ifne hX 38 dX6_showers_32 (by decide) (fun c6 => ?_) (fun c6 => ?_)
          · replace w := w.1 c6
            refine ex_iconst (v := 0) hX dX6_showers_38 rfl ?_
            refine ex_istore_n (lv' := [some (.ref 0), some (.int x1), some (.int x2), some (.int 0), none]) hX dX6_showers_39 rfl (by decide) rfl ?_
            refine ex_iconst (v := 0) hX dX6_showers_40 rfl ?_
            refine ex_istore (lv' := [some (.ref 0), some (.int x1), some (.int x2), some (.int 0), some (.int 0)]) hX dX6_showers_41 (by decide) rfl ?_
            exact w
          · replace w := w.2 c6
            refine ex_ldc hX dX6_showers_35 KC_6_103 ?_
            exact ex_iret hX dX6_showers_37 rfl w
        · replace w := w.2 c4
          refine ex_ldc hX dX6_showers_22 KC_6_72 ?_
          exact ex_iret hX dX6_showers_24 rfl w

set_option maxRecDepth 100000 in
set_option maxHeartbeats 4000000 in
theorem sg_X6_showers_43 {Z : CX × GX} {post : Int32 → AH → Prop} {h : AH} {x1 : Int32} {x2 : Int32} {x3 : Int32} {x4 : Int32} (hX : OK Z RX6 cX6_showers 5 (some .int) 4 93) 
    (w : ((x1 ≤ x4 → post x3 h) ∧ (¬ x1 ≤ x4 → (∃ PP : AH → Prop, CV yX3_passHour cX3_passHour 4 3 70 [.ref 27, .ref (h.2 1), .ref (h.2 3)] h PP ∧ ∀ u : AH, PP u → EX Z 5 (QI Z post) 64 u [some (.ref 0), some (.int x1), some (.int x2), some (.int x3), some (.int x4)] []))))
    : EX Z 5 (QI Z post) 43 h [some (.ref 0), some (.int x1), some (.int x2), some (.int x3), some (.int x4)] [] := by
  refine ex_iload hX dX6_showers_43 rfl ?_
  refine ex_iload_n hX dX6_showers_45 rfl rfl ?_
  refine ex_icmpge hX 85 dX6_showers_46 (by decide) (fun c1 => ?_) (fun c1 => ?_)
  · replace w := w.1 c1
    refine ex_iload_n hX dX6_showers_85 rfl rfl ?_
    exact ex_iret hX dX6_showers_86 rfl w
  · replace w := w.2 c1
    refine ex_aload_n hX dX6_showers_49 rfl rfl ?_
    refine ex_get hX (.ref 27) FL_6_39 rfl (fun _ => rfl) dX6_showers_50 ?_
    refine ex_aload_n hX dX6_showers_53 rfl rfl ?_
    refine ex_gg (fun c2 => ?_)
    refine ex_get hX (.ref (h.2 1)) FL_6_19 rfl (fun _ => rfl) dX6_showers_54 ?_
    refine ex_aload_n hX dX6_showers_57 rfl rfl ?_
    refine ex_gg (fun c3 => ?_)
    refine ex_get hX (.ref (h.2 3)) FL_6_29 rfl (fun _ => rfl) dX6_showers_58 ?_
    obtain ⟨PP, pM, pK⟩ := w
    exact ex_callVv (ci := 3) (i := 27) (As := [.ref (h.2 1), .ref (h.2 3)]) (st := []) hX pM CS_6_162 MS_X3_passHour rfl rfl rfl (by decide) rfl (Nat.le_of_ble_eq_true rfl) dX6_showers_61 (fun u hp => pK u hp)

set_option maxRecDepth 100000 in
set_option maxHeartbeats 4000000 in
theorem sg_X6_showers_64 {Z : CX × GX} {post : Int32 → AH → Prop} {h : AH} {x1 : Int32} {x2 : Int32} {x3 : Int32} {x4 : Int32} (hX : OK Z RX6 cX6_showers 5 (some .int) 4 93) 
    (w : (∃ PP : Int32 → AH → Prop, CI yX3_takeShower cX3_takeShower 5 (some .int) 1 21 [.ref 27, .ref (h.2 1), .int x2] h PP ∧ ∀ (r : Int32) (u : AH), PP r u → EX Z 5 (QI Z post) 77 u [some (.ref 0), some (.int x1), some (.int x2), none, some (.int x4)] (.int r :: [.int x3])))
    : EX Z 5 (QI Z post) 64 h [some (.ref 0), some (.int x1), some (.int x2), some (.int x3), some (.int x4)] [] := by
  refine ex_iload_n hX dX6_showers_64 rfl rfl ?_
  refine ex_aload_n hX dX6_showers_65 rfl rfl ?_
  refine ex_get hX (.ref 27) FL_6_39 rfl (fun _ => rfl) dX6_showers_66 ?_
  refine ex_aload_n hX dX6_showers_69 rfl rfl ?_
  refine ex_gg (fun c1 => ?_)
  refine ex_get hX (.ref (h.2 1)) FL_6_19 rfl (fun _ => rfl) dX6_showers_70 ?_
  refine ex_iload_n hX dX6_showers_73 rfl rfl ?_
  obtain ⟨PP, pM, pK⟩ := w
  exact ex_callIv (ci := 3) (i := 27) (As := [.ref (h.2 1), .int x2]) (st := [.int x3]) hX pM CS_6_169 MS_X3_takeShower rfl rfl rfl (by decide) rfl (Nat.le_of_ble_eq_true rfl) dX6_showers_74 (fun r u hp => ex_forget [some (.ref 0), some (.int x1), some (.int x2), none, some (.int x4)] ⟨rfl, ⟨rfl, ⟨rfl, ⟨rfl, trivial⟩⟩⟩⟩ (pK r u hp))

set_option maxRecDepth 100000 in
set_option maxHeartbeats 4000000 in
theorem sg_X6_showers_77 {Z : CX × GX} {post : Int32 → AH → Prop} {h : AH} {x1 : Int32} {x2 : Int32} {x4 : Int32} {s0 : Int32} {s1 : Int32} (hX : OK Z RX6 cX6_showers 5 (some .int) 4 93) 
    (w : EX Z 5 (QI Z post) 43 h [some (.ref 0), some (.int x1), some (.int x2), some (.int (s1 + s0)), some (.int (x4 + 1))] [])
    : EX Z 5 (QI Z post) 77 h [some (.ref 0), some (.int x1), some (.int x2), none, some (.int x4)] [.int s0, .int s1] := by
  refine ex_iadd hX dX6_showers_77 ?_
  refine ex_istore_n (lv' := [some (.ref 0), some (.int x1), some (.int x2), some (.int (s1 + s0)), some (.int x4)]) hX dX6_showers_78 rfl (by decide) rfl ?_
  refine ex_iinc (v := x4 + 1) (lv' := [some (.ref 0), some (.int x1), some (.int x2), some (.int (s1 + s0)), some (.int (x4 + 1))]) hX dX6_showers_79 rfl rfl (by decide) rfl ?_
  refine ex_goto hX 43 dX6_showers_82 (by decide) ?_
  exact w

set_option maxRecDepth 100000 in
set_option maxHeartbeats 4000000 in
theorem sg_X7_draw_0 {Z : CX × GX} {post : Int32 → AH → Prop} {h : AH} {x1 : Int32} (hX : OK Z RX7 cX7_draw 2 (some .int) 0 0) 
    (w : (∀ v1 : Int64, v1 = Int32.toInt64 (h.1 95 (Int32.toNatClampNeg 52)) → (∀ v2 : Int64, v2 = ((v1 * 1103515245) + 12345) - ((v1 * 1103515245) + 12345) / 2147483648 * 2147483648 → (∀ u3 : AH, u3 = (hset h.1 95 (Int32.toNatClampNeg 52) (Int64.toInt32 v2), h.2) → (∀ v4 : Int32, v4 = (u3.1 95 (Int32.toNatClampNeg 52)) / 65536 → (¬ x1 = 0) ∧ post (v4 - v4 / x1 * x1) u3)))))
    : EX Z 2 (QI Z post) 0 h [some (.ref 94), some (.int x1)] [] := by
  refine ex_aload_n hX dX7_draw_0 rfl rfl ?_
  refine ex_get hX (.ref 95) FL_7_7 rfl (fun _ => rfl) dX7_draw_1 ?_
  refine ex_bipush (v := 52) hX dX7_draw_4 rfl ?_
  refine ex_aload_n hX dX7_draw_6 rfl rfl ?_
  refine ex_get hX (.ref 95) FL_7_7 rfl (fun _ => rfl) dX7_draw_7 ?_
  refine ex_bipush (v := 52) hX dX7_draw_10 rfl ?_
  refine ex_iald hX rfl (show ¬ ((52 : Int32) < 0 ∨ 800 ≤ (52 : Int32).toNatClampNeg) from by decide) dX7_draw_12 ?_
  refine ex_i2l hX dX7_draw_13 ?_
  refine ex_nameL (fun v1 ev1 => ?_)
  replace w := w v1 ev1
  refine ex_ldc2 hX dX7_draw_14 KL_7_232 ?_
  refine ex_lmul hX dX7_draw_17 ?_
  refine ex_ldc2 hX dX7_draw_18 KL_7_234 ?_
  refine ex_ladd hX dX7_draw_21 ?_
  refine ex_ldc2 hX dX7_draw_22 KL_7_236 ?_
  refine ex_lrem hX dX7_draw_25 (by decide) ?_
  refine ex_nameL (fun v2 ev2 => ?_)
  replace w := w v2 ev2
  refine ex_l2i hX dX7_draw_26 ?_
  refine ex_iast hX rfl (show ¬ ((52 : Int32) < 0 ∨ 800 ≤ (52 : Int32).toNatClampNeg) from by decide) dX7_draw_27 ?_
  refine ex_nameH (fun u3 eu3 => ?_)
  replace w := w u3 eu3
  refine ex_aload_n hX dX7_draw_28 rfl rfl ?_
  refine ex_get hX (.ref 95) FL_7_7 rfl (fun _ => rfl) dX7_draw_29 ?_
  refine ex_bipush (v := 52) hX dX7_draw_32 rfl ?_
  refine ex_iald hX rfl (show ¬ ((52 : Int32) < 0 ∨ 800 ≤ (52 : Int32).toNatClampNeg) from by decide) dX7_draw_34 ?_
  refine ex_ldc hX dX7_draw_35 KC_7_238 ?_
  refine ex_idiv hX dX7_draw_37 (by decide) ?_
  refine ex_nameI (fun v4 ev4 => ?_)
  replace w := w v4 ev4
  refine ex_iload_n hX dX7_draw_38 rfl rfl ?_
  obtain ⟨q5, w⟩ := w
  refine ex_irem hX dX7_draw_39 q5 ?_
  exact ex_iret hX dX7_draw_40 rfl w

set_option maxRecDepth 100000 in
set_option maxHeartbeats 4000000 in
theorem sg_X7_showers_0 {Z : CX × GX} {post : Int32 → AH → Prop} {h : AH} {x1 : Int32} {x2 : Int32} (hX : OK Z RX7 cX7_showers 7 (some .int) 4 93) 
    (w : ((¬ (1 ≤ (Int32.toInt64 x1) ∧ (Int32.toInt64 x1) ≤ 100) → post (-100000002) h) ∧ ((1 ≤ (Int32.toInt64 x1) ∧ (Int32.toInt64 x1) ≤ 100) → (((1 ≤ (Int32.toInt64 x2) ∧ (Int32.toInt64 x2) ≤ 99) → ((¬ (h.1 94 9) = 0 → (∀ u4 : AH, u4 = (hset h.1 94 25 0, h.2) → EX Z 7 (QI Z post) 47 u4 [some (.ref 94), some (.int x1), some (.int x2), some (.int 0), some (.int 0), none, none] [])) ∧ ((h.1 94 9) = 0 → post (-100000003) h))) ∧ (¬ (1 ≤ (Int32.toInt64 x2) ∧ (Int32.toInt64 x2) ≤ 99) → post (-100000002) h)))))
    : EX Z 7 (QI Z post) 0 h [some (.ref 94), some (.int x1), some (.int x2), none, none, none, none] [] := by
  refine ex_iload_n hX dX7_showers_0 rfl rfl ?_
  refine ex_i2l hX dX7_showers_1 ?_
  refine ex_lconst (v := 1) hX dX7_showers_2 rfl ?_
  refine ex_ldc2 hX dX7_showers_3 KL_7_239 ?_
  refine ex_pIs (As := [.long (Int32.toInt64 x1), .long 1, .long 100]) (st := []) hX (c_X7_in (h := h)) CS_7_71 MS_X7_in rfl (by decide) rfl (Nat.le_of_ble_eq_true rfl) dX7_showers_6 ?_
  refine ex_ifeqB hX 24 dX7_showers_9 (by decide) (fun c1 => ?_) (fun c1 => ?_)
  · replace w := w.1 c1
    refine ex_ldc hX dX7_showers_24 KC_7_75 ?_
    exact ex_iret hX dX7_showers_26 rfl w
  · replace w := w.2 c1
    refine ex_iload_n hX dX7_showers_12 rfl rfl ?_
    refine ex_i2l hX dX7_showers_13 ?_
    refine ex_lconst (v := 1) hX dX7_showers_14 rfl ?_
    refine ex_ldc2 hX dX7_showers_15 KL_7_241 ?_
    refine ex_pIs (As := [.long (Int32.toInt64 x2), .long 1, .long 99]) (st := []) hX (c_X7_in (h := h)) CS_7_71 MS_X7_in rfl (by decide) rfl (Nat.le_of_ble_eq_true rfl) dX7_showers_18 ?_
    refine ex_ifneB hX 27 dX7_showers_21 (by decide) (fun c2 => ?_) (fun c2 => ?_)
    · replace w := w.1 c2
      refine ex_aload_n hX dX7_showers_27 rfl rfl ?_
      refine ex_get hX (.int (h.1 94 9)) FL_7_161 rfl (fun _ => rfl) dX7_showers_28 ?_
      refine ex_ifne hX 37 dX7_showers_31 (by decide) (fun c3 => ?_) (fun c3 => ?_)
      · replace w := w.1 c3
        refine ex_aload_n hX dX7_showers_37 rfl rfl ?_
        refine ex_iconst (v := 0) hX dX7_showers_38 rfl ?_
        refine ex_put hX .int FL_7_195 tyX7 tyX7_ok nmX7 rfl rfl rfl rfl rfl (fun _ => (by decide : 25 < 33)) (fun _ => fs_7_25) dX7_showers_39 ?_
        refine ex_nameH (fun u4 eu4 => ?_)
        replace w := w u4 eu4
        refine ex_iconst (v := 0) hX dX7_showers_42 rfl ?_
        refine ex_istore_n (lv' := [some (.ref 94), some (.int x1), some (.int x2), some (.int 0), none, none, none]) hX dX7_showers_43 rfl (by decide) rfl ?_
        refine ex_iconst (v := 0) hX dX7_showers_44 rfl ?_
        refine ex_istore (lv' := [some (.ref 94), some (.int x1), some (.int x2), some (.int 0), some (.int 0), none, none]) hX dX7_showers_45 (by decide) rfl ?_
        exact w
      · replace w := w.2 c3
        refine ex_ldc hX dX7_showers_34 KC_7_170 ?_
        exact ex_iret hX dX7_showers_36 rfl w
    · replace w := w.2 c2
      refine ex_ldc hX dX7_showers_24 KC_7_75 ?_
      exact ex_iret hX dX7_showers_26 rfl w

set_option maxRecDepth 100000 in
set_option maxHeartbeats 4000000 in
theorem sg_X7_showers_47 {Z : CX × GX} {post : Int32 → AH → Prop} {h : AH} {x1 : Int32} {x2 : Int32} {x3 : Int32} {x4 : Int32} (hX : OK Z RX7 cX7_showers 7 (some .int) 4 93) 
    (w : ((x1 ≤ x4 → post x3 h) ∧ (¬ x1 ≤ x4 → (∃ PP : AH → Prop, CV yX7_pass cX7_pass 3 3 71 [.ref 94, .int 0] h PP ∧ ∀ u : AH, PP u → EX Z 7 (QI Z post) 58 u [some (.ref 94), some (.int x1), some (.int x2), some (.int x3), some (.int x4), none, none] []))))
    : EX Z 7 (QI Z post) 47 h [some (.ref 94), some (.int x1), some (.int x2), some (.int x3), some (.int x4), none, none] [] := by
  refine ex_iload hX dX7_showers_47 rfl ?_
  refine ex_iload_n hX dX7_showers_49 rfl rfl ?_
  refine ex_icmpge hX 107 dX7_showers_50 (by decide) (fun c1 => ?_) (fun c1 => ?_)
  · replace w := w.1 c1
    refine ex_iload_n hX dX7_showers_107 rfl rfl ?_
    exact ex_iret hX dX7_showers_108 rfl w
  · replace w := w.2 c1
    refine ex_aload_n hX dX7_showers_53 rfl rfl ?_
    refine ex_iconst (v := 0) hX dX7_showers_54 rfl ?_
    obtain ⟨PP, pM, pK⟩ := w
    exact ex_callVv (ci := 7) (i := 94) (As := [.int 0]) (st := []) hX pM CS_7_225 MS_X7_pass rfl rfl rfl (by decide) rfl (Nat.le_of_ble_eq_true rfl) dX7_showers_55 (fun u hp => pK u hp)

set_option maxRecDepth 100000 in
set_option maxHeartbeats 4000000 in
theorem sg_X7_showers_58 {Z : CX × GX} {post : Int32 → AH → Prop} {h : AH} {x1 : Int32} {x2 : Int32} {x3 : Int32} {x4 : Int32} (hX : OK Z RX7 cX7_showers 7 (some .int) 4 93) 
    (w : (∃ PP : Int32 → AH → Prop, CI yX7_draw cX7_draw 2 (some .int) 0 0 [.ref 94, .int x2] h PP ∧ ∀ (r : Int32) (u : AH), PP r u → EX Z 7 (QI Z post) 63 u [some (.ref 94), some (.int x1), some (.int x2), some (.int x3), some (.int x4), none, none] (.int r :: [])))
    : EX Z 7 (QI Z post) 58 h [some (.ref 94), some (.int x1), some (.int x2), some (.int x3), some (.int x4), none, none] [] := by
  refine ex_aload_n hX dX7_showers_58 rfl rfl ?_
  refine ex_iload_n hX dX7_showers_59 rfl rfl ?_
  obtain ⟨PP, pM, pK⟩ := w
  exact ex_callIv (ci := 7) (i := 94) (As := [.int x2]) (st := []) hX pM CS_7_243 MS_X7_draw rfl rfl rfl (by decide) rfl (Nat.le_of_ble_eq_true rfl) dX7_showers_60 (fun r u hp => pK r u hp)

set_option maxRecDepth 100000 in
set_option maxHeartbeats 4000000 in
theorem sg_X7_showers_63 {Z : CX × GX} {post : Int32 → AH → Prop} {h : AH} {x1 : Int32} {x2 : Int32} {x3 : Int32} {x4 : Int32} {s0 : Int32} (hX : OK Z RX7 cX7_showers 7 (some .int) 4 93) 
    (w : (∃ PP : Int32 → AH → Prop, CI yX7_draw cX7_draw 2 (some .int) 0 0 [.ref 94, .int (h.1 94 9)] h PP ∧ ∀ (r : Int32) (u : AH), PP r u → EX Z 7 (QI Z post) 73 u [some (.ref 94), some (.int x1), some (.int x2), some (.int x3), some (.int x4), some (.int s0), none] (.int r :: [])))
    : EX Z 7 (QI Z post) 63 h [some (.ref 94), some (.int x1), some (.int x2), some (.int x3), some (.int x4), none, none] [.int s0] := by
  refine ex_istore (lv' := [some (.ref 94), some (.int x1), some (.int x2), some (.int x3), some (.int x4), some (.int s0), none]) hX dX7_showers_63 (by decide) rfl ?_
  refine ex_aload_n hX dX7_showers_65 rfl rfl ?_
  refine ex_aload_n hX dX7_showers_66 rfl rfl ?_
  refine ex_get hX (.int (h.1 94 9)) FL_7_161 rfl (fun _ => rfl) dX7_showers_67 ?_
  obtain ⟨PP, pM, pK⟩ := w
  exact ex_callIv (ci := 7) (i := 94) (As := [.int (h.1 94 9)]) (st := []) hX pM CS_7_243 MS_X7_draw rfl rfl rfl (by decide) rfl (Nat.le_of_ble_eq_true rfl) dX7_showers_70 (fun r u hp => pK r u hp)

set_option maxRecDepth 100000 in
set_option maxHeartbeats 4000000 in
theorem sg_X7_showers_73 {Z : CX × GX} {post : Int32 → AH → Prop} {h : AH} {x1 : Int32} {x2 : Int32} {x3 : Int32} {x4 : Int32} {x5 : Int32} {s0 : Int32} (hX : OK Z RX7 cX7_showers 7 (some .int) 4 93) 
    (w : ((s0 = (h.1 94 9 - 1) → EX Z 7 (QI Z post) 47 h [some (.ref 94), some (.int x1), some (.int x2), some (.int x3), some (.int (x4 + 1)), none, none] []) ∧ (¬ s0 = (h.1 94 9 - 1) → (vp_in s0 800) ∧ (vp_in s0 800) ∧ (∀ u4 : AH, u4 = (hset h.1 95 (Int32.toNatClampNeg s0) ((h.1 95 (Int32.toNatClampNeg s0)) + x5), h.2) → EX Z 7 (QI Z post) 47 u4 [some (.ref 94), some (.int x1), some (.int x2), some (.int (x3 + x5)), some (.int (x4 + 1)), none, none] []))))
    : EX Z 7 (QI Z post) 73 h [some (.ref 94), some (.int x1), some (.int x2), some (.int x3), some (.int x4), some (.int x5), none] [.int s0] := by
  refine ex_istore (lv' := [some (.ref 94), some (.int x1), some (.int x2), some (.int x3), some (.int x4), some (.int x5), some (.int s0)]) hX dX7_showers_73 (by decide) rfl ?_
  refine ex_iload hX dX7_showers_75 rfl ?_
  refine ex_aload_n hX dX7_showers_77 rfl rfl ?_
  refine ex_pIv (ci := 7) (i := 94) (As := []) (st := [.int s0]) hX (c_X7_sea (h := h)) CS_7_174 MS_X7_sea rfl rfl rfl (by decide) rfl (Nat.le_of_ble_eq_true rfl) dX7_showers_78 ?_
  refine ex_icmpeq hX 101 dX7_showers_81 (by decide) (fun c1 => ?_) (fun c1 => ?_)
  · replace w := w.1 c1
    refine ex_iinc (v := x4 + 1) (lv' := [some (.ref 94), some (.int x1), some (.int x2), some (.int x3), some (.int (x4 + 1)), some (.int x5), some (.int s0)]) hX dX7_showers_101 rfl rfl (by decide) rfl ?_
    refine ex_goto hX 47 dX7_showers_104 (by decide) ?_
    exact ex_forget [some (.ref 94), some (.int x1), some (.int x2), some (.int x3), some (.int (x4 + 1)), none, none] ⟨rfl, ⟨rfl, ⟨rfl, ⟨rfl, ⟨rfl, trivial⟩⟩⟩⟩⟩ w
  · replace w := w.2 c1
    refine ex_aload_n hX dX7_showers_84 rfl rfl ?_
    refine ex_get hX (.ref 95) FL_7_7 rfl (fun _ => rfl) dX7_showers_85 ?_
    refine ex_iload hX dX7_showers_88 rfl ?_
    refine ex_dup2 hX dX7_showers_90 rfl rfl ?_
    obtain ⟨q2, w⟩ := w
    refine ex_iald hX rfl q2 dX7_showers_91 ?_
    refine ex_iload hX dX7_showers_92 rfl ?_
    refine ex_iadd hX dX7_showers_94 ?_
    obtain ⟨q3, w⟩ := w
    refine ex_iast hX rfl q3 dX7_showers_95 ?_
    refine ex_nameH (fun u4 eu4 => ?_)
    replace w := w u4 eu4
    refine ex_iload_n hX dX7_showers_96 rfl rfl ?_
    refine ex_iload hX dX7_showers_97 rfl ?_
    refine ex_iadd hX dX7_showers_99 ?_
    refine ex_istore_n (lv' := [some (.ref 94), some (.int x1), some (.int x2), some (.int (x3 + x5)), some (.int x4), some (.int x5), some (.int s0)]) hX dX7_showers_100 rfl (by decide) rfl ?_
    refine ex_iinc (v := x4 + 1) (lv' := [some (.ref 94), some (.int x1), some (.int x2), some (.int (x3 + x5)), some (.int (x4 + 1)), some (.int x5), some (.int s0)]) hX dX7_showers_101 rfl rfl (by decide) rfl ?_
    refine ex_goto hX 47 dX7_showers_104 (by decide) ?_
    exact ex_forget [some (.ref 94), some (.int x1), some (.int x2), some (.int (x3 + x5)), some (.int (x4 + 1)), none, none] ⟨rfl, ⟨rfl, ⟨rfl, ⟨rfl, ⟨rfl, trivial⟩⟩⟩⟩⟩ w

theorem wb_tb (n : Nat) : (lN n).toBitVec = BitVec.ofNat 64 n := rfl
theorem wb_inj {a b : Int64} (h : a.toBitVec = b.toBitVec) : a = b := Int64.toBitVec_inj.mp h
theorem wb_tn {n : Nat} (h : n < 2 ^ 64) : (lN n).toBitVec.toNat = n := by rw [wb_tb, BitVec.toNat_ofNat, Nat.mod_eq_of_lt h]
theorem wb_lt2 {a b : Nat} (h : a < b) : 2 ^ a < 2 ^ b := Nat.pow_lt_pow_right (by decide) h
theorem wb_and {a b : Nat} (ha : a < 2 ^ 64) (hb : b < 2 ^ 64) : lN a &&& lN b = lN (a &&& b) := by
  apply wb_inj
  rw [Int64.toBitVec_and, wb_tb, wb_tb, wb_tb]
  apply BitVec.eq_of_toNat_eq
  rw [BitVec.toNat_and, BitVec.toNat_ofNat, BitVec.toNat_ofNat, BitVec.toNat_ofNat, Nat.mod_eq_of_lt ha, Nat.mod_eq_of_lt hb, Nat.mod_eq_of_lt (Nat.and_lt_two_pow _ hb)]
theorem wb_mask {n k : Nat} (hn : n < 2 ^ 64) (hk : k < 64) : lN n &&& lN (2 ^ k - 1) = lN (n % 2 ^ k) := by
  rw [wb_and hn (by have := wb_lt2 hk; omega), Nat.and_two_pow_sub_one_eq_mod]
def drw (s : Nat) : Nat := (s * 1103515245 + 12345) % 2147483648
theorem drw_lt (s : Nat) : drw s < 2147483648 := Nat.mod_lt _ (by decide)
theorem drwC {s : Nat} (hs : s < 2147483648) : Int64.toInt32 ((((nI s).toInt64 * 1103515245) + 12345) &&& 2147483647) = nI (drw s) := by
  rw [nI_l (by omega), show (1103515245 : Int64) = lN 1103515245 from rfl, show (12345 : Int64) = lN 12345 from rfl, lN_mul, lN_add, show (2147483647 : Int64) = lN (2 ^ 31 - 1) from rfl, wb_mask (by omega) (by decide), lN_i]
  rfl
theorem drwM {s : Nat} (hs : s < 2147483648) : Int64.toInt32 ((((nI s).toInt64 * 1103515245) + 12345) - (((nI s).toInt64 * 1103515245) + 12345) / 2147483648 * 2147483648) = nI (drw s) := by
  rw [nI_l (by omega), show (1103515245 : Int64) = lN 1103515245 from rfl, show (12345 : Int64) = lN 12345 from rfl, lN_mul, lN_add, show (2147483648 : Int64) = lN 2147483648 from rfl, pk_lRem (by omega) (by decide) (by decide), lN_i]
  rfl
theorem drwR {s d : Nat} (hs : s < 2147483648) (h0 : 0 < d) (hd : d < 2147483648) : nI s / 65536 - nI s / 65536 / nI d * nI d = nI (s / 65536 % d) := by
  have e : nI s / 65536 = nI (s / 65536) := by rw [show (65536 : Int32) = nI 65536 from rfl, pk_div (by omega) (by decide) (by decide)]
  rw [e, pk_rem (by omega) h0 (by omega)]

set_option maxRecDepth 100000 in
set_option maxHeartbeats 4000000 in
theorem c_X3_draw {h : AH} {a0 : Nat} {a1 : Int32} (ha0 : oc a0 = some 3) {s d : Nat} (hs : s < 2147483648) (es : h.1 a0 1 = nI s) (hd : 1 ≤ d ∧ d < 2147483648) (e1 : a1 = nI d) : CI yX3_draw cX3_draw 2 (some .int) 0 0 [.ref a0, .int a1] h (fun r u => r = nI (drw s / 65536 % d) ∧ u = (hset h.1 a0 1 (nI (drw s)), h.2)) := by
  refine CI.of [some (.ref a0), some (.int a1)] (by decide +kernel) rfl (Nat.le_of_ble_eq_true rfl) rfl (fun Z hX => ?_)
  subst e1
  refine sg_X3_draw_0 hX ha0 (fun v1 e1 u2 e2 => ?_)
  rw [e1, es, drwC hs] at e2
  have eu : u2.1 a0 1 = nI (drw s) := by rw [e2, hs_s]
  refine ⟨fun _ => ⟨nI_ne0 (by omega) (by omega), fun v5 e5 => ⟨?_, e2⟩⟩, fun z => absurd (by rw [k_1]; exact nI_le hd.1 (by omega)) z⟩
  rw [e5, eu, drwR (drw_lt s) (by omega) (by omega)]

set_option maxRecDepth 100000 in
set_option maxHeartbeats 4000000 in
theorem c_X7_draw {h : AH} {a1 : Int32}  {s d : Nat} (hs : s < 2147483648) (es : h.1 95 52 = nI s) (hd : 1 ≤ d ∧ d < 2147483648) (e1 : a1 = nI d) : CI yX7_draw cX7_draw 2 (some .int) 0 0 [.ref 94, .int a1] h (fun r u => r = nI (drw s / 65536 % d) ∧ u = (hset h.1 95 52 (nI (drw s)), h.2)) := by
  refine CI.of [some (.ref 94), some (.int a1)] (by decide +kernel) rfl (Nat.le_of_ble_eq_true rfl) rfl (fun Z hX => ?_)
  subst e1
  refine sg_X7_draw_0 hX (fun v1 e1 v2 e2 u3 e3 v4 e4 => ?_)
  have e52 : Int32.toNatClampNeg 52 = 52 := rfl
  rw [e52] at e1 e3 e4
  rw [e2, e1, es, drwM hs] at e3
  have eu : u3.1 95 52 = nI (drw s) := by rw [e3, hs_s]
  refine ⟨nI_ne0 (by omega) (by omega), ?_, e3⟩
  rw [e4, eu, drwR (drw_lt s) (by omega) (by omega)]

def sdN (τ : SG) : Nat := (τ 52).toNatClampNeg
def toN (P : PR) (τ : SG) : Nat := drw (drw (sdN τ)) / 65536 % pn P
def drN (m : Nat) (τ : SG) : Nat := drw (sdN τ) / 65536 % m
def showS (P : PR) (m : Nat) (τ : SG) : SG := if toN P τ = pn P - 1 then upd τ 52 (nI (drw (drw (sdN τ)))) else upd (upd τ 52 (nI (drw (drw (sdN τ))))) (toN P τ) (τ (toN P τ) + nI (drN m τ))
def cameS (P : PR) (m : Nat) (τ : SG) : Int32 := if toN P τ = pn P - 1 then 0 else nI (drN m τ)
def rnS (P : PR) (hw : Int32) (m : Nat) : Nat → SG → SG × Int32
  | 0, σ => (σ, 0)
  | j + 1, σ => (showS P m (hourS P 0 hw (rnS P hw m j σ).1), (rnS P hw m j σ).2 + cameS P m (hourS P 0 hw (rnS P hw m j σ).1))
theorem sdN_of {τ : SG} (h : 0 ≤ (τ 52).toInt) : τ 52 = nI (sdN τ) ∧ sdN τ < 2147483648 := by
  obtain ⟨a, b, c⟩ := zi_of h
  exact ⟨a, c⟩
theorem show_SOK {P : PR} {B : Int} {T m : Nat} {τ : SG} (hP : POK P) (hm : 1 ≤ m ∧ m ≤ 99) (hB : B ≤ 2000000000) (hS : SOK P B T τ) (h0 : τ (pn P - 1) = 0) : SOK P (B + 99) T (showS P m τ) ∧ showS P m τ (pn P - 1) = 0 ∧ 0 ≤ (showS P m τ 52).toInt := by
  have hn := hP.1
  have hd := drw_lt (drw (sdN τ))
  have ht : toN P τ < pn P := Nat.mod_lt _ (by omega)
  have hr : drN m τ < m := Nat.mod_lt _ (by omega)
  have o1 : ∀ i, i ≠ 52 → upd τ 52 (nI (drw (drw (sdN τ)))) i = τ i := fun i hi => upd_ne hi
  have S1 : SOK P B T (upd τ 52 (nI (drw (drw (sdN τ))))) := by
    obtain ⟨s1, s2, s3, s4, s5⟩ := hS
    refine ⟨fun i hi => by rw [o1 i (by omega)]; exact s1 i hi, ?_, by rw [o1 50 (by omega)]; exact s3, ?_, fun i hi => by rw [o1 _ (by omega)]; exact s5 i hi⟩
    · rw [sumW_congr (fun i hi => o1 i (by omega))]; exact s2
    · obtain ⟨cc, c1, c2, c3⟩ := s4
      exact ⟨cc, c1, by rw [o1 51 (by omega)]; exact c2, fun l hl => by rw [o1 _ (by omega), o1 _ (by omega)]; exact c3 l hl⟩
  unfold showS
  by_cases c : toN P τ = pn P - 1
  · rw [if_pos c]
    exact ⟨SOK_mono S1 (by omega) (Nat.le_refl _), by rw [o1 _ (by omega)]; exact h0, by rw [upd_eq, nI_toInt (by omega)]; omega⟩
  · rw [if_neg c]
    obtain ⟨w1, w2⟩ := SOK_w (k := toN P τ) hS (by omega)
    have ev : (τ (toN P τ) + nI (drN m τ)).toInt = (τ (toN P τ)).toInt + drN m τ := by
      rw [zi_add, nI_toInt (by omega)] <;> rw [nI_toInt (by omega)] <;> omega
    generalize hv : τ (toN P τ) + nI (drN m τ) = v at ev
    have o2 : ∀ i, i ≠ toN P τ → upd (upd τ 52 (nI (drw (drw (sdN τ))))) (toN P τ) v i = upd τ 52 (nI (drw (drw (sdN τ)))) i := fun i hi => upd_ne hi
    refine ⟨?_, by rw [o2 _ (by omega), o1 _ (by omega)]; exact h0, by rw [o2 52 (by omega), upd_eq, nI_toInt (by omega)]; omega⟩
    obtain ⟨s1, s2, s3, s4, s5⟩ := S1
    refine ⟨fun i hi => ?_, ?_, by rw [o2 50 (by omega)]; exact s3, ?_, fun i hi => by rw [o2 _ (by omega)]; exact s5 i hi⟩
    · by_cases d : i = toN P τ
      · rw [d, upd_eq]; omega
      · rw [o2 i d]; exact s1 i hi
    · rw [sumW_upd, if_pos (by omega), o1 _ (by omega)]; omega
    · obtain ⟨cc, c1, c2, c3⟩ := s4
      exact ⟨cc, c1, by rw [o2 51 (by omega)]; exact c2, fun l hl => by rw [o2 _ (by omega), o2 _ (by omega)]; exact c3 l hl⟩
theorem rn_SOK {P : PR} {N m : Nat} {hw : Int32} {σ : SG} (hP : POK P) (hm : 1 ≤ m ∧ m ≤ 99) (hN : N ≤ 511) (hh : ∃ w : Nat, w ≤ 9 ∧ hw = nI w) (hS : SV N P σ) : ∀ j : Nat, j ≤ 100 → SOK P (2000000 * (N : Int) + 9139 * j) (200 * N + j) (rnS P hw m j σ).1 ∧ (rnS P hw m j σ).1 (pn P - 1) = 0 ∧ 0 ≤ ((rnS P hw m j σ).1 52).toInt := by
  intro j
  induction j with
  | zero => intro _; exact ⟨SOK_mono hS.1 (by omega) (by omega), hS.2.1, hS.2.2⟩
  | succ j ih =>
    intro hj
    obtain ⟨a, b, c⟩ := ih (by omega)
    have s1 := hour_SOK (H := 0) hP a (by omega) (by omega) hh
    have s2 := hour_sea (H := 0) (hw := hw) hP a
    obtain ⟨x, y, z⟩ := show_SOK hP hm (by omega) s1 (by rw [s2]; exact b)
    exact ⟨SOK_mono x (by omega) (by omega), y, z⟩
theorem rn_hour {P : PR} {N m : Nat} {hw : Int32} {σ : SG} (hP : POK P) (hm : 1 ≤ m ∧ m ≤ 99) (hN : N ≤ 511) (hh : ∃ w : Nat, w ≤ 9 ∧ hw = nI w) (hS : SV N P σ) {j : Nat} (hj : j < 100) : 0 ≤ (hourS P 0 hw (rnS P hw m j σ).1 52).toInt ∧ SOK P (2000000 * (N : Int) + 9139 * j + 9040) (200 * N + j + 1) (hourS P 0 hw (rnS P hw m j σ).1) := by
  obtain ⟨a, b, c⟩ := rn_SOK hP hm hN hh hS j (by omega)
  exact ⟨by rw [hour_seed hP a]; exact c, hour_SOK (H := 0) hP a (by omega) (by omega) hh⟩
/-- j hours with showers, of the class -/
def CS (P : PR) (σ : SG) (hw : Int32) (m : Nat) (h v : AH) (j : Nat) : Prop := FC 27 h v ∧ v.1 27 2 = 0 ∧ mk (cs v.1 27) = (rnS P hw m j σ).1

set_option maxRecDepth 100000 in
set_option maxHeartbeats 4000000 in
theorem c_X3_takeShower {h : AH} {a0 : Nat} {a1 : Nat} {a2 : Int32} (ha0 : oc a0 = some 3) (ha1 : oc a1 = some 0) {P : PR} {m : Nat} {τ : SG} (e0 : a0 = 27) (hn : 2 ≤ pn P ∧ pn P ≤ 10) (en : h.1 a1 0 = nI (pn P)) (hm : 1 ≤ m ∧ m ≤ 99) (e2 : a2 = nI m) (et : mk (cs h.1 27) = τ) (h0 : 0 ≤ (τ 52).toInt) : CI yX3_takeShower cX3_takeShower 5 (some .int) 1 21 [.ref a0, .ref a1, .int a2] h (fun r u => r = cameS P m τ ∧ FC 27 h u ∧ u.1 27 2 = h.1 27 2 ∧ mk (cs u.1 27) = showS P m τ) := by
  refine CI.of [some (.ref a0), some (.ref a1), some (.int a2), none, none] (by decide +kernel) rfl (Nat.le_of_ble_eq_true rfl) rfl (fun Z hX => ?_)
  subst e0
  have b1 := oc0 ha1
  obtain ⟨s1, s2⟩ := sdN_of h0
  have es : h.1 27 1 = nI (sdN τ) := by
    rw [← s1, ← et]
    exact mkc_at (f := h.1) (s := 27) (a := 0) (b := 1) (by decide) (by unfold rel; omega)
  refine sg_X3_takeShower_0 hX rfl ha1 ⟨_, c_X3_draw rfl s2 es ⟨hm.1, by omega⟩ e2, fun r u hu => sg_X3_takeShower_5 hX rfl ha1 ?_⟩
  obtain ⟨u1, u2⟩ := hu
  have eu : u.1 27 1 = nI (drw (sdN τ)) := by rw [u2, hs_s]
  have eu9 : u.1 a1 0 = nI (pn P) := by rw [u2, hs_o (by omega)]; exact en
  rw [eu9]
  refine ⟨_, c_X3_draw rfl (drw_lt _) eu ⟨by omega, by omega⟩ rfl, fun r2 v hv => sg_X3_takeShower_14 hX rfl ha1 ?_⟩
  obtain ⟨v1, v2⟩ := hv
  have v1' : r2 = nI (toN P τ) := v1
  have ht : toN P τ < pn P := Nat.mod_lt _ (by omega)
  have ev9 : v.1 a1 0 = nI (pn P) := by rw [v2, hs_o (by omega)]; exact eu9
  have sea : (r2 = v.1 a1 0 - 1) ↔ toN P τ = pn P - 1 := by rw [v1', ev9, k_1, pk_sub (by omega), nI_eq (by omega) (by omega)]
  have fu : FC 27 h u := by rw [u2]; exact FC.set0
  have fv : FC 27 h v := fu.tr (by rw [v2]; exact FC.set0)
  have hv2 : v.1 27 2 = h.1 27 2 := by rw [v2, hs_i (by omega), u2, hs_i (by omega)]
  have mv : mk (cs v.1 27) = upd τ 52 (nI (drw (drw (sdN τ)))) := by
    have a1 : mk (cs u.1 27) = upd τ 52 (nI (drw (sdN τ))) := by
      rw [u2, ← et]
      exact mkc (f := h.1) (s := 27) (a := 0) (b := 1) (by decide) (by unfold rel; omega) (by omega)
    have a2 : mk (cs v.1 27) = upd (mk (cs u.1 27)) 52 (nI (drw (drw (sdN τ)))) := by
      rw [v2]
      exact mkc (f := u.1) (s := 27) (a := 0) (b := 1) (by decide) (by unfold rel; omega) (by omega)
    rw [a2, a1]
    funext i
    unfold upd
    by_cases d : i = 52
    · rw [if_pos d, if_pos d]
    · rw [if_neg d, if_neg d, if_neg d]
  refine ⟨fun c => ?_, fun c => ⟨by rw [cameS, if_pos (sea.mp c)], fv, hv2, by rw [showS, if_pos (sea.mp c)]; exact mv⟩⟩
  have c' : ¬ toN P τ = pn P - 1 := fun z => c (sea.mpr z)
  rw [v1', nI_clamp (by omega), u1]
  refine ⟨vp_in_nI (by omega) (by omega), fun v3 e3 => ⟨vp_in_nI (by omega) (by omega), fun u5 e5 => ⟨by rw [cameS, if_neg c']; rfl, fv.tr (by rw [e5]; exact FC.set (by omega)), by rw [e5, hs_o (by omega)]; exact hv2, ?_⟩⟩⟩
  have ew : v.1 (27 + 1) (toN P τ) = τ (toN P τ) := by
    have := mkc_at (f := v.1) (s := 27) (loc_w (toN P τ) (by omega)) (by unfold rel; omega)
    rw [mv, upd_ne (by omega)] at this
    exact this
  rw [e5]
  show mk (cs (hset v.1 (27 + 1) (toN P τ) v3) 27) = _
  rw [mkc (loc_w (toN P τ) (by omega)) (by unfold rel; omega) (by omega), mv, e3, ew, showS, if_neg c']
  rfl

set_option maxRecDepth 100000 in
set_option maxHeartbeats 4000000 in
theorem c_X6_showers {h : AH} {a1 : Int32} {a2 : Int32}  {n N : Nat} (hn : n ≤ 10) (hI : INV N h) (hN : N ≤ 511) (en : h.1 (h.2 1) 0 = nI n) (hP : n = 0 ∨ POK (PM h.1)) : CI yX6_showers cX6_showers 5 (some .int) 4 93 [.ref 0, .int a1, .int a2] h (fun r u => T3 (rN 1 100 a1 ∧ rN 1 99 a2) (¬ n = 0) (-100000002) (-100000003) (rnS (PM h.1) (h.1 94 26) a2.toNatClampNeg a1.toNatClampNeg (mk (ms h.1 0))).2 r ∧ ((rN 1 100 a1 ∧ rN 1 99 a2 ∧ ¬ n = 0) → CS (PM h.1) (mk (ms h.1 0)) (h.1 94 26) a2.toNatClampNeg h u a1.toNatClampNeg) ∧ (¬ (rN 1 100 a1 ∧ rN 1 99 a2 ∧ ¬ n = 0) → u = h)) := by
  refine CI.of [some (.ref 0), some (.int a1), some (.int a2), none, none] (by decide +kernel) rfl (Nat.le_of_ble_eq_true rfl) rfl (fun Z hX => ?_)
  have r1 := rnC (x := a1) (lo := 1) (hi := 100) (L := 1) (M := 100) rfl rfl (by decide)
  have r2 := rnC (x := a2) (lo := 1) (hi := 99) (L := 1) (M := 99) rfl rfl (by decide)
  have en0 : (h.1 (h.2 1) 0 = 0) ↔ n = 0 := by rw [en, k_0, nI_eq (by omega) (by omega)]
  have bd : ∀ {r : Int32}, (¬ (rN 1 100 a1 ∧ rN 1 99 a2 ∧ ¬ n = 0)) → T3 (rN 1 100 a1 ∧ rN 1 99 a2) (¬ n = 0) (-100000002) (-100000003) (rnS (PM h.1) (h.1 94 26) a2.toNatClampNeg a1.toNatClampNeg (mk (ms h.1 0))).2 r → T3 (rN 1 100 a1 ∧ rN 1 99 a2) (¬ n = 0) (-100000002) (-100000003) (rnS (PM h.1) (h.1 94 26) a2.toNatClampNeg a1.toNatClampNeg (mk (ms h.1 0))).2 r ∧ ((rN 1 100 a1 ∧ rN 1 99 a2 ∧ ¬ n = 0) → CS (PM h.1) (mk (ms h.1 0)) (h.1 94 26) a2.toNatClampNeg h h a1.toNatClampNeg) ∧ (¬ (rN 1 100 a1 ∧ rN 1 99 a2 ∧ ¬ n = 0) → h = h) := fun a b => ⟨b, fun z => absurd z a, fun _ => rfl⟩
  have ba : ¬ (rN 1 100 a1 ∧ rN 1 99 a2) → ¬ (rN 1 100 a1 ∧ rN 1 99 a2 ∧ ¬ n = 0) := fun z y => z ⟨y.1, y.2.1⟩
  refine sg_X6_showers_0 hX ⟨fun c => bd (ba (fun z => (r1.mpr z.1).1 c)) (T3.a (fun z => (r1.mpr z.1).1 c)), fun c => ⟨fun c2 => bd (ba (fun z => Int32.not_lt.mpr (r1.mpr z.1).2 c2)) (T3.a (fun z => Int32.not_lt.mpr (r1.mpr z.1).2 c2)), fun c2 => ⟨fun c3 => bd (ba (fun z => (r2.mpr z.2).1 c3)) (T3.a (fun z => (r2.mpr z.2).1 c3)), fun c3 => ⟨fun c4 => ⟨fun c5 => ?_, fun c5 => bd (fun z => z.2.2 (en0.mp c5)) (T3.b ⟨r1.mp ⟨c, Int32.not_lt.mp c2⟩, r2.mp ⟨c3, c4⟩⟩ (fun z => z (en0.mp c5)))⟩, fun c4 => bd (ba (fun z => c4 (r2.mpr z.2).2)) (T3.a (fun z => c4 (r2.mpr z.2).2))⟩⟩⟩⟩
  have hA : rN 1 100 a1 ∧ rN 1 99 a2 := ⟨r1.mp ⟨c, Int32.not_lt.mp c2⟩, r2.mp ⟨c3, c4⟩⟩
  have hB : ¬ n = 0 := fun z => c5 (en0.mpr z)
  have hP' := hP.resolve_left hB
  have ep : pn (PM h.1) = n := by rw [← hI.2.1.1]; exact pn_C en hn
  clear bd ba
  obtain ⟨⟨q, q1, q2, rfl⟩, ⟨m, m1, m2, rfl⟩⟩ := hA
  rw [nI_clamp (by omega), nI_clamp (by omega)]
  have hh := hI.2.2.2.2.2.2.2.2
  have g := hI.1
  have b1 := oc0 g.1
  have hS := hI.2.2.1.2.2
  have L : ∀ j, j ≤ q → ∀ u : AH, CS (PM h.1) (mk (ms h.1 0)) (h.1 94 26) m h u j → EX Z 5 (QI Z (fun r u => T3 (rN 1 100 (nI q) ∧ rN 1 99 (nI m)) (¬ n = 0) (-100000002) (-100000003) (rnS (PM h.1) (h.1 94 26) m q (mk (ms h.1 0))).2 r ∧ ((rN 1 100 (nI q) ∧ rN 1 99 (nI m) ∧ ¬ n = 0) → CS (PM h.1) (mk (ms h.1 0)) (h.1 94 26) m h u q) ∧ (¬ (rN 1 100 (nI q) ∧ rN 1 99 (nI m) ∧ ¬ n = 0) → u = h))) 43 u [some (.ref 0), some (.int (nI q)), some (.int (nI m)), some (.int (rnS (PM h.1) (h.1 94 26) m j (mk (ms h.1 0))).2), some (.int (nI j))] [] := by
    refine ldown _ ?_ ?_
    · intro u hu
      exact sg_X6_showers_43 hX ⟨fun _ => ⟨T3.c ⟨⟨q, q1, q2, rfl⟩, ⟨m, m1, m2, rfl⟩⟩ hB rfl, fun _ => hu, fun z => absurd ⟨⟨q, q1, q2, rfl⟩, ⟨m, m1, m2, rfl⟩, hB⟩ z⟩, fun z => absurd (nI_le (Nat.le_refl _) (by omega)) z⟩
    · intro j hj ih u hu
      obtain ⟨f1, f2, f3⟩ := hu
      obtain ⟨sk, -, -⟩ := rn_SOK hP' ⟨m1, m2⟩ hN hh hS j (by omega)
      obtain ⟨sd, sk2⟩ := rn_hour hP' ⟨m1, m2⟩ hN hh hS (j := j) (by omega)
      have eQ : PC u.1 (h.2 1) (h.2 3) = PM h.1 := by rw [PC_eq g.1 g.2.2.1 (fun i hi => f1.2 i (by omega)), hI.2.1.1]
      refine sg_X6_showers_43 hX ⟨fun z => absurd z (nI_ge hj (by omega)), fun _ => ?_⟩
      rw [f1.1]
      refine ⟨_, c_X3_passHour (T := 200 * N + j) (B := 2000000 * (N : Int) + 9139 * j) (hw := h.1 94 26) rfl g.1 g.2.2.1 (by rw [eQ]; exact hP') (by omega) (by omega) (by rw [eQ, f3]; exact sk) hh (fun k hk hb => absurd (by rw [f2] at hb; exact hb) (held0 (by rw [eQ] at hk; have := hP'.1.2; omega))), fun u2 hu2 => sg_X6_showers_64 hX ?_⟩
      obtain ⟨w1, w2, w3⟩ := hu2
      rw [eQ, f2, f3] at w3
      have fw := f1.tr w1
      have e9 : u2.1 (h.2 1) 0 = nI (pn (PM h.1)) := by rw [fw.2 (h.2 1) (by omega), en, ep]
      rw [fw.1]
      refine ⟨_, c_X3_takeShower (P := PM h.1) (m := m) rfl g.1 rfl hP'.1 e9 ⟨m1, m2⟩ rfl w3 sd, fun r u3 hu3 => sg_X6_showers_77 hX ?_⟩
      obtain ⟨x1, x2, x3, x4⟩ := hu3
      rw [nI_1, x1]
      exact ih u3 ⟨fw.tr x2, by rw [x3, w2]; exact f2, x4⟩
  exact L 0 (by omega) h ⟨FC.rf, hI.2.2.1.2.1, hI.2.2.1.1⟩

def MSR (P : PR) (σ : SG) (hw : Int32) (m : Nat) (h v : AH) (j : Nat) : Prop := FM 0 h v ∧ mk (ms v.1 0) = (rnS P hw m j σ).1
theorem h25 {h u : AH} (hH : HV h) (e : u = (hset h.1 94 25 0, h.2)) : u = h := by
  rw [e]
  refine Prod.ext ?_ rfl
  funext i
  show hset h.1 94 25 0 i = h.1 i
  by_cases e : i = 94
  · subst e; rw [hset_eq]; exact upd_same hH.1
  · exact hset_ne e
theorem FM.set' {k : Nat} {h : AH} {v : Int32} (hk : k < 200) : FM 0 h (hset h.1 95 k v, h.2) := by
  have := FM.set (ρ := 0) (h := h) (v := v) hk
  rw [Nat.zero_add] at this
  exact this
theorem mks' {f : Nat → SG} {k : Nat} {v : Int32} (hr : rel (ms f 0 51).toNatClampNeg k) (hk : k ≠ 51) : mk (ms (hset f 95 k v) 0) = upd (mk (ms f 0)) k v := by
  have := mks (f := f) (ρ := 0) (k := k) (v := v) hr hk
  rw [Nat.zero_add] at this
  exact this

set_option maxRecDepth 100000 in
set_option maxHeartbeats 4000000 in
theorem c_X7_showers {h : AH} {a1 : Int32} {a2 : Int32}  {n N : Nat} (hn : n ≤ 10) (hH : HV h) (hS : SV N (PM h.1) (mk (ms h.1 0))) (hN : N ≤ 511) (en : h.1 94 9 = nI n) (hP : n = 0 ∨ POK (PM h.1)) : CI yX7_showers cX7_showers 7 (some .int) 4 93 [.ref 94, .int a1, .int a2] h (fun r u => T3 (rN 1 100 a1 ∧ rN 1 99 a2) (¬ n = 0) (-100000002) (-100000003) (rnS (PM h.1) (h.1 94 26) a2.toNatClampNeg a1.toNatClampNeg (mk (ms h.1 0))).2 r ∧ ((rN 1 100 a1 ∧ rN 1 99 a2 ∧ ¬ n = 0) → MSR (PM h.1) (mk (ms h.1 0)) (h.1 94 26) a2.toNatClampNeg h u a1.toNatClampNeg) ∧ (¬ (rN 1 100 a1 ∧ rN 1 99 a2 ∧ ¬ n = 0) → u = h)) := by
  refine CI.of [some (.ref 94), some (.int a1), some (.int a2), none, none, none, none] (by decide +kernel) rfl (Nat.le_of_ble_eq_true rfl) rfl (fun Z hX => ?_)
  have r1 := rnM (x := a1) (lo := 1) (hi := 100) (L := 1) (M := 100) rfl rfl (by decide)
  have r2 := rnM (x := a2) (lo := 1) (hi := 99) (L := 1) (M := 99) rfl rfl (by decide)
  have en0 : (h.1 94 9 = 0) ↔ n = 0 := by rw [en, k_0, nI_eq (by omega) (by omega)]
  have bd : ∀ {r : Int32}, (¬ (rN 1 100 a1 ∧ rN 1 99 a2 ∧ ¬ n = 0)) → T3 (rN 1 100 a1 ∧ rN 1 99 a2) (¬ n = 0) (-100000002) (-100000003) (rnS (PM h.1) (h.1 94 26) a2.toNatClampNeg a1.toNatClampNeg (mk (ms h.1 0))).2 r → T3 (rN 1 100 a1 ∧ rN 1 99 a2) (¬ n = 0) (-100000002) (-100000003) (rnS (PM h.1) (h.1 94 26) a2.toNatClampNeg a1.toNatClampNeg (mk (ms h.1 0))).2 r ∧ ((rN 1 100 a1 ∧ rN 1 99 a2 ∧ ¬ n = 0) → MSR (PM h.1) (mk (ms h.1 0)) (h.1 94 26) a2.toNatClampNeg h h a1.toNatClampNeg) ∧ (¬ (rN 1 100 a1 ∧ rN 1 99 a2 ∧ ¬ n = 0) → h = h) := fun a b => ⟨b, fun z => absurd z a, fun _ => rfl⟩
  have ba : ¬ (rN 1 100 a1 ∧ rN 1 99 a2) → ¬ (rN 1 100 a1 ∧ rN 1 99 a2 ∧ ¬ n = 0) := fun z y => z ⟨y.1, y.2.1⟩
  refine sg_X7_showers_0 hX ⟨fun c => bd (ba (fun z => c (r1.mpr z.1))) (T3.a (fun z => c (r1.mpr z.1))), fun c => ⟨fun c2 => ⟨fun c5 u4 e4 => ?_, fun c5 => bd (fun z => z.2.2 (en0.mp c5)) (T3.b ⟨r1.mp c, r2.mp c2⟩ (fun z => z (en0.mp c5)))⟩, fun c2 => bd (ba (fun z => c2 (r2.mpr z.2))) (T3.a (fun z => c2 (r2.mpr z.2)))⟩⟩
  rw [h25 hH e4]
  have hA : rN 1 100 a1 ∧ rN 1 99 a2 := ⟨r1.mp c, r2.mp c2⟩
  have hB : ¬ n = 0 := fun z => c5 (en0.mpr z)
  have hP' := hP.resolve_left hB
  have ep : pn (PM h.1) = n := pn_M en hn
  clear bd ba
  obtain ⟨⟨q, q1, q2, rfl⟩, ⟨m, m1, m2, rfl⟩⟩ := hA
  rw [nI_clamp (by omega), nI_clamp (by omega)]
  have hh := hH.2
  have L : ∀ j, j ≤ q → ∀ u : AH, MSR (PM h.1) (mk (ms h.1 0)) (h.1 94 26) m h u j → EX Z 7 (QI Z (fun r u => T3 (rN 1 100 (nI q) ∧ rN 1 99 (nI m)) (¬ n = 0) (-100000002) (-100000003) (rnS (PM h.1) (h.1 94 26) m q (mk (ms h.1 0))).2 r ∧ ((rN 1 100 (nI q) ∧ rN 1 99 (nI m) ∧ ¬ n = 0) → MSR (PM h.1) (mk (ms h.1 0)) (h.1 94 26) m h u q) ∧ (¬ (rN 1 100 (nI q) ∧ rN 1 99 (nI m) ∧ ¬ n = 0) → u = h))) 47 u [some (.ref 94), some (.int (nI q)), some (.int (nI m)), some (.int (rnS (PM h.1) (h.1 94 26) m j (mk (ms h.1 0))).2), some (.int (nI j)), none, none] [] := by
    refine ldown _ ?_ ?_
    · intro u hu
      exact sg_X7_showers_47 hX ⟨fun _ => ⟨T3.c ⟨⟨q, q1, q2, rfl⟩, ⟨m, m1, m2, rfl⟩⟩ hB rfl, fun _ => hu, fun z => absurd ⟨⟨q, q1, q2, rfl⟩, ⟨m, m1, m2, rfl⟩, hB⟩ z⟩, fun z => absurd (nI_le (Nat.le_refl _) (by omega)) z⟩
    · intro j hj ih u hu
      obtain ⟨f1, f3⟩ := hu
      obtain ⟨sk, -, -⟩ := rn_SOK hP' ⟨m1, m2⟩ hN hh hS j (by omega)
      obtain ⟨sd, sk2⟩ := rn_hour hP' ⟨m1, m2⟩ hN hh hS (j := j) (by omega)
      have eQ : PM u.1 = PM h.1 := PM_of f1.2.1
      refine sg_X7_showers_47 hX ⟨fun z => absurd z (nI_ge hj (by omega)), fun _ => ⟨_, c_X7_pass (ρ := 0) (T := 200 * N + j) (B := 2000000 * (N : Int) + 9139 * j) (by omega) rfl (by rw [eQ]; exact hP') (by omega) (by rw [eQ, f3]; exact sk), fun u2 hu2 => sg_X7_showers_58 hX ?_⟩⟩
      obtain ⟨w1, w3⟩ := hu2
      rw [eQ, f1.2.1 94 (by omega) (by omega), hH.1, f3] at w3
      generalize hτ : hourS (PM h.1) 0 (h.1 94 26) (rnS (PM h.1) (h.1 94 26) m j (mk (ms h.1 0))).1 = τ at *
      have fw := f1.tr w1
      obtain ⟨s1, s2⟩ := sdN_of sd
      have es : u2.1 95 52 = nI (sdN τ) := by rw [← s1, ← w3]; exact m0_at (f := u2.1) (k := 52) (by unfold rel; omega)
      refine ⟨_, c_X7_draw s2 es ⟨m1, by omega⟩ rfl, fun r v hv => sg_X7_showers_63 hX ?_⟩
      obtain ⟨v1, v2⟩ := hv
      have fv : FM 0 h v := fw.tr (by rw [v2]; exact FM.set' (by omega))
      have e9 : v.1 94 9 = nI (pn (PM h.1)) := by rw [fv.2.1 94 (by omega) (by omega), en, ep]
      have ev : v.1 95 52 = nI (drw (sdN τ)) := by rw [v2, hs_s]
      rw [e9]
      refine ⟨_, c_X7_draw (drw_lt _) ev ⟨by have := hP'.1.1; omega, by have := hP'.1.2; omega⟩ rfl, fun r2 w hw => sg_X7_showers_73 hX ?_⟩
      obtain ⟨x1, x2⟩ := hw
      have x1' : r2 = nI (toN (PM h.1) τ) := x1
      have hn2 := hP'.1
      have ht : toN (PM h.1) τ < pn (PM h.1) := Nat.mod_lt _ (by omega)
      have fx : FM 0 h w := fv.tr (by rw [x2]; exact FM.set' (by omega))
      have e9w : w.1 94 9 = nI (pn (PM h.1)) := by rw [fx.2.1 94 (by omega) (by omega), en, ep]
      have sea : (r2 = w.1 94 9 - 1) ↔ toN (PM h.1) τ = pn (PM h.1) - 1 := by rw [x1', e9w, k_1, pk_sub (by omega), nI_eq (by omega) (by omega)]
      have mv : mk (ms w.1 0) = upd τ 52 (nI (drw (drw (sdN τ)))) := by
        have a1 : mk (ms v.1 0) = upd τ 52 (nI (drw (sdN τ))) := by
          rw [v2, ← w3]
          exact mks' (f := u2.1) (by unfold rel; omega) (by omega)
        have a2 : mk (ms w.1 0) = upd (mk (ms v.1 0)) 52 (nI (drw (drw (sdN τ)))) := by
          rw [x2]
          exact mks' (f := v.1) (by unfold rel; omega) (by omega)
        rw [a2, a1]
        funext i
        unfold upd
        by_cases d : i = 52
        · rw [if_pos d, if_pos d]
        · rw [if_neg d, if_neg d, if_neg d]
      have r1' : (rnS (PM h.1) (h.1 94 26) m (j + 1) (mk (ms h.1 0))).1 = showS (PM h.1) m τ := by rw [rnS, hτ]
      have r2' : (rnS (PM h.1) (h.1 94 26) m (j + 1) (mk (ms h.1 0))).2 = (rnS (PM h.1) (h.1 94 26) m j (mk (ms h.1 0))).2 + cameS (PM h.1) m τ := by rw [rnS, hτ]
      rw [nI_1]
      refine ⟨fun c => ?_, fun c => ?_⟩
      · have := ih w ⟨fx, by rw [r1', showS, if_pos (sea.mp c)]; exact mv⟩
        rw [r2', cameS, if_pos (sea.mp c), Int32.add_zero] at this
        exact this
      · have c' : ¬ toN (PM h.1) τ = pn (PM h.1) - 1 := fun z => c (sea.mpr z)
        rw [x1', nI_clamp (by omega), v1]
        refine ⟨vp_in_nI (by omega) (by omega), vp_in_nI (by omega) (by omega), fun u4 e4 => ?_⟩
        have ew : w.1 95 (toN (PM h.1) τ) = τ (toN (PM h.1) τ) := by
          have := m0_at (f := w.1) (k := toN (PM h.1) τ) (by unfold rel; omega)
          rw [mv, upd_ne (by omega)] at this
          exact this
        have := ih u4 ⟨fx.tr (by rw [e4]; exact FM.set' (by omega)), by
          rw [r1', showS, if_neg c', e4]
          show mk (ms (hset w.1 95 (toN (PM h.1) τ) _) 0) = _
          rw [mks' (by unfold rel; omega) (by omega), mv, ew]; rfl⟩
        rw [r2', cameS, if_neg c'] at this
        exact this
  exact L 0 (by omega) h ⟨FM.rf, rfl⟩

theorem op_showers {N : Nat} {h : AH} {x y : Int32} (hI : INV N h) (hNN : N ≤ 511) : OPP yX6_showers cX6_showers 5 4 93 yX7_showers cX7_showers 7 4 93 [.int x, .int y] N h := by
  obtain ⟨n, hn, e1, e2, hP⟩ := hI.2.1.2.1
  have hH := hI.2.2.2.2.2.2.2
  have hS := hI.2.2.1.2.2
  refine ⟨_, c_X6_showers hn hI hNN e1 hP, fun r u hp => ?_⟩
  obtain ⟨p1, p2, p3⟩ := hp
  by_cases d : rN 1 100 x ∧ rN 1 99 y ∧ ¬ n = 0
  · have f2 := p2 d
    have k94 : u.1 94 = h.1 94 := f2.1.2 94 (by omega)
    have k95 : u.1 95 = h.1 95 := f2.1.2 95 (by omega)
    have mu : ms u.1 0 = ms h.1 0 := by unfold ms; rw [k95]
    have pu : PM u.1 = PM h.1 := PM_eq (by rw [k94]) (by rw [k94]) (fun i hi => f2.1.2 i (by omega))
    have hHu : HV u := by unfold HV; rw [k94]; exact hH
    refine ⟨_, c_X7_showers (h := u) (N := N) hn hHu (by rw [pu, mu]; exact hS) hNN (by rw [k94]; exact e2) (by rw [pu]; exact hP), fun r2 u2 hq => ?_⟩
    rw [pu, mu, k94] at hq
    obtain ⟨q1, q2, -⟩ := hq
    have g2 := q2 d
    have eo : ∀ i, i ≠ 95 → i ≠ 108 → (i < 27 ∨ 42 ≤ i) → u2.1 i = h.1 i := fun i a b c => by rw [g2.1.2.1 i a b]; exact f2.1.2 i (by omega)
    have es : ∀ i, 27 ≤ i → i < 42 → u2.1 i = u.1 i := fun i a b => g2.1.2.1 i (by omega) (by omega)
    have pu2 : PM u2.1 = PM h.1 := by rw [PM_of g2.1.2.1, pu]
    obtain ⟨⟨q, w1, w2, rfl⟩, ⟨m, m1, m2, rfl⟩, d0⟩ := d
    rw [nI_clamp (by omega), nI_clamp (by omega)] at f2 g2
    have sk := rn_SOK (hP.resolve_left d0) ⟨m1, m2⟩ hNN hH.2 hS q w2
    refine ⟨T3.det p1 q1, INV_of hI (by rw [g2.1.1, f2.1.1]) (fun i hi => eo i (by omega) (by omega) (by omega)) (fun k _ _ => by rw [eo 94 (by omega) (by omega) (by omega)]) (fun j hj => by rw [g2.1.2.2 j (by omega), k95]) ?_ ⟨?_, ?_, ?_⟩⟩
    · unfold HV; rw [eo 94 (by omega) (by omega) (by omega)]; exact hH
    · rw [cs_same (fun i a b => es i a (by omega)), f2.2.2, g2.2]
    · rw [es 27 (by omega) (by omega)]; exact f2.2.1
    · rw [pu2, g2.2]; exact ⟨SOK_mono sk.1 (by omega) (by omega), sk.2⟩
  · have f2 := p3 d
    subst f2
    refine ⟨_, c_X7_showers (N := N) hn hH hS hNN e2 hP, fun r2 u2 hq => ?_⟩
    obtain ⟨q1, -, q3⟩ := hq
    exact ⟨T3.det p1 q1, by rw [q3 d]; exact INV_mono hI (by omega)⟩
