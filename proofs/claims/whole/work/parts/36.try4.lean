set_option maxRecDepth 100000 in
set_option maxHeartbeats 4000000 in
theorem sg_X6_ring_0 {Z : CX × GX} {post : Int32 → AH → Prop} {h : AH} {x1 : Int32} {x2 : Int32} (hX : OK Z RX6 cX6_ring 6 (some .int) 4 123) 
    (w : (((0 ≤ x1 ∧ x1 < h.1 (h.2 1) 0) → (((1 ≤ x2 ∧ x2 ≤ 999) → (∃ PP : AH → Prop, CV yX3_becomeAs cX3_becomeAs 2 3 102 [.ref 42, .ref 27] h PP ∧ ∀ u : AH, PP u → EX Z 6 (QI Z post) 35 u [some (.ref 0), some (.int x1), some (.int x2), none, none, none] [])) ∧ (¬ (1 ≤ x2 ∧ x2 ≤ 999) → post (-100000002) h))) ∧ (¬ (0 ≤ x1 ∧ x1 < h.1 (h.2 1) 0) → post (-100000001) h)))
    : EX Z 6 (QI Z post) 0 h [some (.ref 0), some (.int x1), some (.int x2), none, none, none] [] := by
  refine ex_aload_n hX dX6_ring_0 rfl rfl ?_
  refine ex_gg (fun c1 => ?_)
  refine ex_get hX (.ref (h.2 1)) FL_6_19 rfl (fun _ => rfl) dX6_ring_1 ?_
  refine ex_iload_n hX dX6_ring_4 rfl rfl ?_
  refine ex_pIv (ci := 0) (i := h.2 1) (As := [.int x1]) (st := []) hX (c_X0_isNode (h := h) c1.1) CS_6_122 MS_X0_isNode rfl c1.1 rfl (by decide) rfl (Nat.le_of_ble_eq_true rfl) dX6_ring_5 ?_
  refine ex_ifneB hX 14 dX6_ring_8 (by decide) (fun c2 => ?_) (fun c2 => ?_)
  · replace w := w.1 c2
    refine ex_iload_n hX dX6_ring_14 rfl rfl ?_
    refine ex_pIs (As := [.int x2]) (st := []) hX (c_X6_isWeight (h := h)) CS_6_172 MS_X6_isWeight rfl (by decide) rfl (Nat.le_of_ble_eq_true rfl) dX6_ring_15 ?_
    refine ex_ifneB hX 24 dX6_ring_18 (by decide) (fun c3 => ?_) (fun c3 => ?_)
    · replace w := w.1 c3
      refine ex_aload_n hX dX6_ring_24 rfl rfl ?_
      refine ex_get hX (.ref 42) FL_6_43 rfl (fun _ => rfl) dX6_ring_25 ?_
      refine ex_aload_n hX dX6_ring_28 rfl rfl ?_
      refine ex_get hX (.ref 27) FL_6_39 rfl (fun _ => rfl) dX6_ring_29 ?_
      obtain ⟨PP, pM, pK⟩ := w
      exact ex_callVv (ci := 3) (i := 42) (As := [.ref 27]) (st := []) hX pM CS_6_198 MS_X3_becomeAs rfl rfl rfl (by decide) rfl (Nat.le_of_ble_eq_true rfl) dX6_ring_32 (fun u hp => pK u hp)
    · replace w := w.2 c3
      refine ex_ldc hX dX6_ring_21 KC_6_72 ?_
      exact ex_iret hX dX6_ring_23 rfl w
  · replace w := w.2 c2
    refine ex_ldc hX dX6_ring_11 KC_6_126 ?_
    exact ex_iret hX dX6_ring_13 rfl w

set_option maxRecDepth 100000 in
set_option maxHeartbeats 4000000 in
theorem sg_X6_ring_35 {Z : CX × GX} {post : Int32 → AH → Prop} {h : AH} {x1 : Int32} {x2 : Int32} (hX : OK Z RX6 cX6_ring 6 (some .int) 4 123) 
    (w : EX Z 6 (QI Z post) 40 h [some (.ref 0), some (.int x1), some (.int x2), some (.int x1), some (.int 1), none] [])
    : EX Z 6 (QI Z post) 35 h [some (.ref 0), some (.int x1), some (.int x2), none, none, none] [] := by
  refine ex_iload_n hX dX6_ring_35 rfl rfl ?_
  refine ex_istore_n (lv' := [some (.ref 0), some (.int x1), some (.int x2), some (.int x1), none, none]) hX dX6_ring_36 rfl (by decide) rfl ?_
  refine ex_iconst (v := 1) hX dX6_ring_37 rfl ?_
  refine ex_istore (lv' := [some (.ref 0), some (.int x1), some (.int x2), some (.int x1), some (.int 1), none]) hX dX6_ring_38 (by decide) rfl ?_
  exact w

set_option maxRecDepth 100000 in
set_option maxHeartbeats 4000000 in
theorem sg_X6_ring_40 {Z : CX × GX} {post : Int32 → AH → Prop} {h : AH} {x1 : Int32} {x2 : Int32} {x3 : Int32} {x4 : Int32} (hX : OK Z RX6 cX6_ring 6 (some .int) 4 123) 
    (w : ((200 < x4 → post (-1) h) ∧ (¬ 200 < x4 → (∃ PP : AH → Prop, CV yX3_passHour cX3_passHour 4 3 70 [.ref 42, .ref (h.2 1), .ref (h.2 3)] h PP ∧ ∀ u : AH, PP u → EX Z 6 (QI Z post) 63 u [some (.ref 0), some (.int x1), some (.int x2), some (.int x3), some (.int x4), none] []))))
    : EX Z 6 (QI Z post) 40 h [some (.ref 0), some (.int x1), some (.int x2), some (.int x3), some (.int x4), none] [] := by
  refine ex_iload hX dX6_ring_40 rfl ?_
  refine ex_sipush (v := 200) hX dX6_ring_42 rfl ?_
  refine ex_icmpgt hX 102 dX6_ring_45 (by decide) (fun c1 => ?_) (fun c1 => ?_)
  · replace w := w.1 c1
    refine ex_iconst (v := (-1)) hX dX6_ring_102 rfl ?_
    exact ex_iret hX dX6_ring_103 rfl w
  · replace w := w.2 c1
    refine ex_aload_n hX dX6_ring_48 rfl rfl ?_
    refine ex_get hX (.ref 42) FL_6_43 rfl (fun _ => rfl) dX6_ring_49 ?_
    refine ex_aload_n hX dX6_ring_52 rfl rfl ?_
    refine ex_gg (fun c2 => ?_)
    refine ex_get hX (.ref (h.2 1)) FL_6_19 rfl (fun _ => rfl) dX6_ring_53 ?_
    refine ex_aload_n hX dX6_ring_56 rfl rfl ?_
    refine ex_gg (fun c3 => ?_)
    refine ex_get hX (.ref (h.2 3)) FL_6_29 rfl (fun _ => rfl) dX6_ring_57 ?_
    obtain ⟨PP, pM, pK⟩ := w
    exact ex_callVv (ci := 3) (i := 42) (As := [.ref (h.2 1), .ref (h.2 3)]) (st := []) hX pM CS_6_162 MS_X3_passHour rfl rfl rfl (by decide) rfl (Nat.le_of_ble_eq_true rfl) dX6_ring_60 (fun u hp => pK u hp)

set_option maxRecDepth 100000 in
set_option maxHeartbeats 4000000 in
theorem sg_X6_ring_63 {Z : CX × GX} {post : Int32 → AH → Prop} {h : AH} {x1 : Int32} {x2 : Int32} {x3 : Int32} {x4 : Int32} (hX : OK Z RX6 cX6_ring 6 (some .int) 4 123) 
    (w : (WPc h.1 (h.2 1) x3) ∧ (((wfC h.1 42 (h.2 1) x3 x2) = 0 → EX Z 6 (QI Z post) 40 h [some (.ref 0), some (.int x1), some (.int x2), some (.int (x3 + (wfC h.1 42 (h.2 1) x3 x2))), some (.int (x4 + 1)), none] []) ∧ (¬ (wfC h.1 42 (h.2 1) x3 x2) = 0 → ((¬ (x3 + (wfC h.1 42 (h.2 1) x3 x2)) = x1 → EX Z 6 (QI Z post) 40 h [some (.ref 0), some (.int x1), some (.int x2), some (.int (x3 + (wfC h.1 42 (h.2 1) x3 x2))), some (.int (x4 + 1)), none] []) ∧ ((x3 + (wfC h.1 42 (h.2 1) x3 x2)) = x1 → post x4 h)))))
    : EX Z 6 (QI Z post) 63 h [some (.ref 0), some (.int x1), some (.int x2), some (.int x3), some (.int x4), none] [] := by
  refine ex_aload_n hX dX6_ring_63 rfl rfl ?_
  refine ex_get hX (.ref 42) FL_6_43 rfl (fun _ => rfl) dX6_ring_64 ?_
  refine ex_aload_n hX dX6_ring_67 rfl rfl ?_
  refine ex_gg (fun c1 => ?_)
  refine ex_get hX (.ref (h.2 1)) FL_6_19 rfl (fun _ => rfl) dX6_ring_68 ?_
  refine ex_iload_n hX dX6_ring_71 rfl rfl ?_
  refine ex_iload_n hX dX6_ring_72 rfl rfl ?_
  obtain ⟨q2, w⟩ := w
  refine ex_pIv (ci := 3) (i := 42) (As := [.ref (h.2 1), .int x3, .int x2]) (st := []) hX (c_X3_wayFrom (h := h) rfl c1.1 q2) CS_6_219 MS_X3_wayFrom rfl rfl rfl (by decide) rfl (Nat.le_of_ble_eq_true rfl) dX6_ring_73 ?_
  refine ex_istore (lv' := [some (.ref 0), some (.int x1), some (.int x2), some (.int x3), some (.int x4), some (.int (wfC h.1 42 (h.2 1) x3 x2))]) hX dX6_ring_76 (by decide) rfl ?_
  refine ex_iload_n hX dX6_ring_78 rfl rfl ?_
  refine ex_iload hX dX6_ring_79 rfl ?_
  refine ex_iadd hX dX6_ring_81 ?_
  refine ex_istore_n (lv' := [some (.ref 0), some (.int x1), some (.int x2), some (.int (x3 + (wfC h.1 42 (h.2 1) x3 x2))), some (.int x4), some (.int (wfC h.1 42 (h.2 1) x3 x2))]) hX dX6_ring_82 rfl (by decide) rfl ?_
  refine ex_iload hX dX6_ring_83 rfl ?_
  refine ex_ifeq hX 96 dX6_ring_85 (by decide) (fun c3 => ?_) (fun c3 => ?_)
  · replace w := w.1 c3
    refine ex_iinc (v := x4 + 1) (lv' := [some (.ref 0), some (.int x1), some (.int x2), some (.int (x3 + (wfC h.1 42 (h.2 1) x3 x2))), some (.int (x4 + 1)), some (.int (wfC h.1 42 (h.2 1) x3 x2))]) hX dX6_ring_96 rfl rfl (by decide) rfl ?_
    refine ex_goto hX 40 dX6_ring_99 (by decide) ?_
    exact ex_forget [some (.ref 0), some (.int x1), some (.int x2), some (.int (x3 + (wfC h.1 42 (h.2 1) x3 x2))), some (.int (x4 + 1)), none] ⟨rfl, ⟨rfl, ⟨rfl, ⟨rfl, ⟨rfl, trivial⟩⟩⟩⟩⟩ w
  · replace w := w.2 c3
    refine ex_iload_n hX dX6_ring_88 rfl rfl ?_
    refine ex_iload_n hX dX6_ring_89 rfl rfl ?_
    refine ex_icmpne hX 96 dX6_ring_90 (by decide) (fun c4 => ?_) (fun c4 => ?_)
    · replace w := w.1 c4
      refine ex_iinc (v := x4 + 1) (lv' := [some (.ref 0), some (.int x1), some (.int x2), some (.int (x3 + (wfC h.1 42 (h.2 1) x3 x2))), some (.int (x4 + 1)), some (.int (wfC h.1 42 (h.2 1) x3 x2))]) hX dX6_ring_96 rfl rfl (by decide) rfl ?_
      refine ex_goto hX 40 dX6_ring_99 (by decide) ?_
      exact ex_forget [some (.ref 0), some (.int x1), some (.int x2), some (.int (x3 + (wfC h.1 42 (h.2 1) x3 x2))), some (.int (x4 + 1)), none] ⟨rfl, ⟨rfl, ⟨rfl, ⟨rfl, ⟨rfl, trivial⟩⟩⟩⟩⟩ w
    · replace w := w.2 c4
      refine ex_iload hX dX6_ring_93 rfl ?_
      exact ex_iret hX dX6_ring_95 rfl w

set_option maxRecDepth 100000 in
set_option maxHeartbeats 4000000 in
theorem sg_X7_ring_0 {Z : CX × GX} {post : Int32 → AH → Prop} {h : AH} {x1 : Int32} {x2 : Int32} (hX : OK Z RX7 cX7_ring 6 (some .int) 5 118) 
    (w : (((0 ≤ x1 ∧ x1 ≤ h.1 94 9 - 1) → (((1 ≤ (Int32.toInt64 x2) ∧ (Int32.toInt64 x2) ≤ 999) → (∃ PP : AH → Prop, CV yX7_tryHours cX7_tryHours 6 4 93 [.ref 94, .int 200, .int 0, .int 0] h PP ∧ ∀ u : AH, PP u → EX Z 6 (QI Z post) 35 u [some (.ref 94), some (.int x1), some (.int x2), none, none, none] [])) ∧ (¬ (1 ≤ (Int32.toInt64 x2) ∧ (Int32.toInt64 x2) ≤ 999) → post (-100000002) h))) ∧ (¬ (0 ≤ x1 ∧ x1 ≤ h.1 94 9 - 1) → post (-100000001) h)))
    : EX Z 6 (QI Z post) 0 h [some (.ref 94), some (.int x1), some (.int x2), none, none, none] [] := by
  refine ex_aload_n hX dX7_ring_0 rfl rfl ?_
  refine ex_iload_n hX dX7_ring_1 rfl rfl ?_
  refine ex_pIv (ci := 7) (i := 94) (As := [.int x1]) (st := []) hX (c_X7_isNode (h := h)) CS_7_181 MS_X7_isNode rfl rfl rfl (by decide) rfl (Nat.le_of_ble_eq_true rfl) dX7_ring_2 ?_
  refine ex_ifneB hX 11 dX7_ring_5 (by decide) (fun c1 => ?_) (fun c1 => ?_)
  · replace w := w.1 c1
    refine ex_iload_n hX dX7_ring_11 rfl rfl ?_
    refine ex_i2l hX dX7_ring_12 ?_
    refine ex_lconst (v := 1) hX dX7_ring_13 rfl ?_
    refine ex_ldc2 hX dX7_ring_14 KL_7_246 ?_
    refine ex_pIs (As := [.long (Int32.toInt64 x2), .long 1, .long 999]) (st := []) hX (c_X7_in (h := h)) CS_7_71 MS_X7_in rfl (by decide) rfl (Nat.le_of_ble_eq_true rfl) dX7_ring_17 ?_
    refine ex_ifneB hX 26 dX7_ring_20 (by decide) (fun c2 => ?_) (fun c2 => ?_)
    · replace w := w.1 c2
      refine ex_aload_n hX dX7_ring_26 rfl rfl ?_
      refine ex_sipush (v := 200) hX dX7_ring_27 rfl ?_
      refine ex_iconst (v := 0) hX dX7_ring_30 rfl ?_
      refine ex_iconst (v := 0) hX dX7_ring_31 rfl ?_
      obtain ⟨PP, pM, pK⟩ := w
      exact ex_callVv (ci := 7) (i := 94) (As := [.int 200, .int 0, .int 0]) (st := []) hX pM CS_7_253 MS_X7_tryHours rfl rfl rfl (by decide) rfl (Nat.le_of_ble_eq_true rfl) dX7_ring_32 (fun u hp => pK u hp)
    · replace w := w.2 c2
      refine ex_ldc hX dX7_ring_23 KC_7_75 ?_
      exact ex_iret hX dX7_ring_25 rfl w
  · replace w := w.2 c1
    refine ex_ldc hX dX7_ring_8 KC_7_185 ?_
    exact ex_iret hX dX7_ring_10 rfl w

set_option maxRecDepth 100000 in
set_option maxHeartbeats 4000000 in
theorem sg_X7_ring_35 {Z : CX × GX} {post : Int32 → AH → Prop} {h : AH} {x1 : Int32} {x2 : Int32} (hX : OK Z RX7 cX7_ring 6 (some .int) 5 118) 
    (w : EX Z 6 (QI Z post) 43 h [some (.ref 94), some (.int x1), some (.int x2), some (.int x1), some (.int 0), some (.int 0)] [])
    : EX Z 6 (QI Z post) 35 h [some (.ref 94), some (.int x1), some (.int x2), none, none, none] [] := by
  refine ex_iload_n hX dX7_ring_35 rfl rfl ?_
  refine ex_istore_n (lv' := [some (.ref 94), some (.int x1), some (.int x2), some (.int x1), none, none]) hX dX7_ring_36 rfl (by decide) rfl ?_
  refine ex_iconst (v := 0) hX dX7_ring_37 rfl ?_
  refine ex_istore (lv' := [some (.ref 94), some (.int x1), some (.int x2), some (.int x1), some (.int 0), none]) hX dX7_ring_38 (by decide) rfl ?_
  refine ex_iconst (v := 0) hX dX7_ring_40 rfl ?_
  refine ex_istore (lv' := [some (.ref 94), some (.int x1), some (.int x2), some (.int x1), some (.int 0), some (.int 0)]) hX dX7_ring_41 (by decide) rfl ?_
  exact w

set_option maxRecDepth 100000 in
set_option maxHeartbeats 4000000 in
theorem sg_X7_ring_43 {Z : CX × GX} {post : Int32 → AH → Prop} {h : AH} {x1 : Int32} {x2 : Int32} {x3 : Int32} {x4 : Int32} {x5 : Int32} (hX : OK Z RX7 cX7_ring 6 (some .int) 5 118) 
    (w : ((200 ≤ x5 → post (-1) h) ∧ (¬ 200 ≤ x5 → (∃ PP : Int32 → AH → Prop, CI yX7_goesIn cX7_goesIn 6 (some .int) 1 20 [.ref 94, .int x5, .int x3, .int x2] h PP ∧ ∀ (r : Int32) (u : AH), PP r u → EX Z 6 (QI Z post) 59 u [some (.ref 94), some (.int x1), some (.int x2), none, some (.int x4), some (.int x5)] (.int r :: [])))))
    : EX Z 6 (QI Z post) 43 h [some (.ref 94), some (.int x1), some (.int x2), some (.int x3), some (.int x4), some (.int x5)] [] := by
  refine ex_iload hX dX7_ring_43 rfl ?_
  refine ex_sipush (v := 200) hX dX7_ring_45 rfl ?_
  refine ex_icmpge hX 98 dX7_ring_48 (by decide) (fun c1 => ?_) (fun c1 => ?_)
  · replace w := w.1 c1
    refine ex_iconst (v := (-1)) hX dX7_ring_98 rfl ?_
    exact ex_iret hX dX7_ring_99 rfl w
  · replace w := w.2 c1
    refine ex_aload_n hX dX7_ring_51 rfl rfl ?_
    refine ex_iload hX dX7_ring_52 rfl ?_
    refine ex_iload_n hX dX7_ring_54 rfl rfl ?_
    refine ex_iload_n hX dX7_ring_55 rfl rfl ?_
    obtain ⟨PP, pM, pK⟩ := w
    exact ex_callIv (ci := 7) (i := 94) (As := [.int x5, .int x3, .int x2]) (st := []) hX pM CS_7_269 MS_X7_goesIn rfl rfl rfl (by decide) rfl (Nat.le_of_ble_eq_true rfl) dX7_ring_56 (fun r u hp => ex_forget [some (.ref 94), some (.int x1), some (.int x2), none, some (.int x4), some (.int x5)] ⟨rfl, ⟨rfl, ⟨rfl, ⟨rfl, ⟨rfl, trivial⟩⟩⟩⟩⟩ (pK r u hp))

set_option maxRecDepth 100000 in
set_option maxHeartbeats 4000000 in
theorem sg_X7_ring_59 {Z : CX × GX} {post : Int32 → AH → Prop} {h : AH} {x1 : Int32} {x2 : Int32} {x4 : Int32} {x5 : Int32} {s0 : Int32} (hX : OK Z RX7 cX7_ring 6 (some .int) 5 118) 
    (w : ((x4 = 0 → (∀ v4 : Int32, v4 = (if x4 = 0 then ((bI (¬ (s0 = x1))) : Int32) else 1) → EX Z 6 (QI Z post) 43 h [some (.ref 94), some (.int x1), some (.int x2), some (.int s0), some (.int v4), some (.int (x5 + 1))] [])) ∧ (¬ x4 = 0 → ((¬ s0 = x1 → (∀ v8 : Int32, v8 = (if x4 = 0 then ((bI (¬ (s0 = x1))) : Int32) else 1) → EX Z 6 (QI Z post) 43 h [some (.ref 94), some (.int x1), some (.int x2), some (.int s0), some (.int v8), some (.int (x5 + 1))] [])) ∧ (s0 = x1 → post (x5 + 1) h)))))
    : EX Z 6 (QI Z post) 59 h [some (.ref 94), some (.int x1), some (.int x2), none, some (.int x4), some (.int x5)] [.int s0] := by
  refine ex_istore_n (lv' := [some (.ref 94), some (.int x1), some (.int x2), some (.int s0), some (.int x4), some (.int x5)]) hX dX7_ring_59 rfl (by decide) rfl ?_
  refine ex_iload hX dX7_ring_60 rfl ?_
  refine ex_ifeq hX 75 dX7_ring_62 (by decide) (fun c1 => ?_) (fun c1 => ?_)
  · replace w := w.1 c1
    refine ex_iload hX dX7_ring_75 rfl ?_
    have kc2 : EX Z 6 (QI Z post) 90 h [some (.ref 94), some (.int x1), some (.int x2), some (.int s0), none, some (.int x5)] [.int (if x4 = 0 then ((bI (¬ (s0 = x1))) : Int32) else 1)] := by
      refine ex_nameI (fun v4 ev4 => ?_)
      replace w := w v4 ev4
      refine ex_istore (lv' := [some (.ref 94), some (.int x1), some (.int x2), some (.int s0), some (.int v4), some (.int x5)]) hX dX7_ring_90 (by decide) rfl ?_
      refine ex_iinc (v := x5 + 1) (lv' := [some (.ref 94), some (.int x1), some (.int x2), some (.int s0), some (.int v4), some (.int (x5 + 1))]) hX dX7_ring_92 rfl rfl (by decide) rfl ?_
      refine ex_goto hX 43 dX7_ring_95 (by decide) ?_
      exact w
    refine ex_ifne hX 85 dX7_ring_77 (by decide) (fun c2 => ?_) (fun c2 => ?_)
    · refine ex_iconst (v := 1) hX dX7_ring_85 rfl ?_
      refine ex_goto hX 90 dX7_ring_86 (by decide) ?_
      rw [show (if x4 = 0 then ((bI (¬ (s0 = x1))) : Int32) else 1) = 1 from if_neg c2] at kc2
      exact ex_forget [some (.ref 94), some (.int x1), some (.int x2), some (.int s0), none, some (.int x5)] ⟨rfl, ⟨rfl, ⟨rfl, ⟨rfl, ⟨rfl, trivial⟩⟩⟩⟩⟩ kc2
    · refine ex_iload_n hX dX7_ring_80 rfl rfl ?_
      refine ex_iload_n hX dX7_ring_81 rfl rfl ?_
      have kc3 : EX Z 6 (QI Z post) 90 h [some (.ref 94), some (.int x1), some (.int x2), some (.int s0), none, some (.int x5)] [.int (bI (¬ (s0 = x1)))] := by
        rw [show (if x4 = 0 then ((bI (¬ (s0 = x1))) : Int32) else 1) = (bI (¬ (s0 = x1))) from if_pos c2] at kc2
        exact ex_forget [some (.ref 94), some (.int x1), some (.int x2), some (.int s0), none, some (.int x5)] ⟨rfl, ⟨rfl, ⟨rfl, ⟨rfl, ⟨rfl, trivial⟩⟩⟩⟩⟩ kc2
      refine ex_icmpeq hX 89 dX7_ring_82 (by decide) (fun c3 => ?_) (fun c3 => ?_)
      · refine ex_iconst (v := 0) hX dX7_ring_89 rfl ?_
        rw [show (bI (¬ (s0 = x1))) = 0 from bI_f (fun z => z c3)] at kc3
        exact ex_forget [some (.ref 94), some (.int x1), some (.int x2), some (.int s0), none, some (.int x5)] ⟨rfl, ⟨rfl, ⟨rfl, ⟨rfl, ⟨rfl, trivial⟩⟩⟩⟩⟩ kc3
      · refine ex_iconst (v := 1) hX dX7_ring_85 rfl ?_
        refine ex_goto hX 90 dX7_ring_86 (by decide) ?_
        rw [show (bI (¬ (s0 = x1))) = 1 from bI_t c3] at kc3
        exact ex_forget [some (.ref 94), some (.int x1), some (.int x2), some (.int s0), none, some (.int x5)] ⟨rfl, ⟨rfl, ⟨rfl, ⟨rfl, ⟨rfl, trivial⟩⟩⟩⟩⟩ kc3
  · replace w := w.2 c1
    refine ex_iload_n hX dX7_ring_65 rfl rfl ?_
    refine ex_iload_n hX dX7_ring_66 rfl rfl ?_
    refine ex_icmpne hX 75 dX7_ring_67 (by decide) (fun c5 => ?_) (fun c5 => ?_)
    · replace w := w.1 c5
      refine ex_iload hX dX7_ring_75 rfl ?_
      have kc6 : EX Z 6 (QI Z post) 90 h [some (.ref 94), some (.int x1), some (.int x2), some (.int s0), none, some (.int x5)] [.int (if x4 = 0 then ((bI (¬ (s0 = x1))) : Int32) else 1)] := by
        refine ex_nameI (fun v8 ev8 => ?_)
        replace w := w v8 ev8
        refine ex_istore (lv' := [some (.ref 94), some (.int x1), some (.int x2), some (.int s0), some (.int v8), some (.int x5)]) hX dX7_ring_90 (by decide) rfl ?_
        refine ex_iinc (v := x5 + 1) (lv' := [some (.ref 94), some (.int x1), some (.int x2), some (.int s0), some (.int v8), some (.int (x5 + 1))]) hX dX7_ring_92 rfl rfl (by decide) rfl ?_
        refine ex_goto hX 43 dX7_ring_95 (by decide) ?_
        exact w
      refine ex_ifne hX 85 dX7_ring_77 (by decide) (fun c6 => ?_) (fun c6 => ?_)
      · refine ex_iconst (v := 1) hX dX7_ring_85 rfl ?_
        refine ex_goto hX 90 dX7_ring_86 (by decide) ?_
        rw [show (if x4 = 0 then ((bI (¬ (s0 = x1))) : Int32) else 1) = 1 from if_neg c6] at kc6
        exact ex_forget [some (.ref 94), some (.int x1), some (.int x2), some (.int s0), none, some (.int x5)] ⟨rfl, ⟨rfl, ⟨rfl, ⟨rfl, ⟨rfl, trivial⟩⟩⟩⟩⟩ kc6
      · refine ex_iload_n hX dX7_ring_80 rfl rfl ?_
        refine ex_iload_n hX dX7_ring_81 rfl rfl ?_
        have kc7 : EX Z 6 (QI Z post) 90 h [some (.ref 94), some (.int x1), some (.int x2), some (.int s0), none, some (.int x5)] [.int (bI (¬ (s0 = x1)))] := by
          rw [show (if x4 = 0 then ((bI (¬ (s0 = x1))) : Int32) else 1) = (bI (¬ (s0 = x1))) from if_pos c6] at kc6
          exact ex_forget [some (.ref 94), some (.int x1), some (.int x2), some (.int s0), none, some (.int x5)] ⟨rfl, ⟨rfl, ⟨rfl, ⟨rfl, ⟨rfl, trivial⟩⟩⟩⟩⟩ kc6
        refine ex_icmpeq hX 89 dX7_ring_82 (by decide) (fun c7 => ?_) (fun c7 => ?_)
        · refine ex_iconst (v := 0) hX dX7_ring_89 rfl ?_
          rw [show (bI (¬ (s0 = x1))) = 0 from bI_f (fun z => z c7)] at kc7
          exact ex_forget [some (.ref 94), some (.int x1), some (.int x2), some (.int s0), none, some (.int x5)] ⟨rfl, ⟨rfl, ⟨rfl, ⟨rfl, ⟨rfl, trivial⟩⟩⟩⟩⟩ kc7
        · refine ex_iconst (v := 1) hX dX7_ring_85 rfl ?_
          refine ex_goto hX 90 dX7_ring_86 (by decide) ?_
          rw [show (bI (¬ (s0 = x1))) = 1 from bI_t c7] at kc7
          exact ex_forget [some (.ref 94), some (.int x1), some (.int x2), some (.int s0), none, some (.int x5)] ⟨rfl, ⟨rfl, ⟨rfl, ⟨rfl, ⟨rfl, trivial⟩⟩⟩⟩⟩ kc7
    · replace w := w.2 c5
      refine ex_iload hX dX7_ring_70 rfl ?_
      refine ex_iconst (v := 1) hX dX7_ring_72 rfl ?_
      refine ex_iadd hX dX7_ring_73 ?_
      exact ex_iret hX dX7_ring_74 rfl w

set_option maxRecDepth 100000 in
set_option maxHeartbeats 4000000 in
theorem sg_X6_driftPlaces_0 {Z : CX × GX} {post : AH → Prop} {h : AH} {x1 : Int32} (hX : OK Z RX6 cX6_driftPlaces 3 none 2 46) 
    (w : EX Z 3 (QV Z post) 2 h [some (.ref 0), some (.int x1), some (.int 0)] [])
    : EX Z 3 (QV Z post) 0 h [some (.ref 0), some (.int x1), none] [] := by
  refine ex_iconst (v := 0) hX dX6_driftPlaces_0 rfl ?_
  refine ex_istore_n (lv' := [some (.ref 0), some (.int x1), some (.int 0)]) hX dX6_driftPlaces_1 rfl (by decide) rfl ?_
  exact w

set_option maxRecDepth 100000 in
set_option maxHeartbeats 4000000 in
theorem sg_X6_driftPlaces_2 {Z : CX × GX} {post : AH → Prop} {h : AH} {x1 : Int32} {x2 : Int32} (hX : OK Z RX6 cX6_driftPlaces 3 none 2 46) 
    (w : (((h.1 (h.2 1) 0) ≤ x2 → post h) ∧ (¬ (h.1 (h.2 1) 0) ≤ x2 → (vp_in x2 10) ∧ (vp_in x2 10) ∧ (WPc h.1 (h.2 1) (h.1 92 (Int32.toNatClampNeg x2))) ∧ (∀ v7 : Int32, v7 = wfC h.1 42 (h.2 1) (h.1 92 (Int32.toNatClampNeg x2)) x1 → (vp_in x2 10) ∧ (∀ u9 : AH, u9 = (hset h.1 92 (Int32.toNatClampNeg x2) ((h.1 92 (Int32.toNatClampNeg x2)) + v7), h.2) → EX Z 3 (QV Z post) 2 u9 [some (.ref 0), some (.int x1), some (.int (x2 + 1))] [])))))
    : EX Z 3 (QV Z post) 2 h [some (.ref 0), some (.int x1), some (.int x2)] [] := by
  refine ex_iload_n hX dX6_driftPlaces_2 rfl rfl ?_
  refine ex_aload_n hX dX6_driftPlaces_3 rfl rfl ?_
  refine ex_gg (fun c1 => ?_)
  refine ex_get hX (.ref (h.2 1)) FL_6_19 rfl (fun _ => rfl) dX6_driftPlaces_4 ?_
  refine ex_get hX (.int (h.1 (h.2 1) 0)) FL_6_100 c1.1 (fun _ => rfl) dX6_driftPlaces_7 ?_
  refine ex_icmpge hX 46 dX6_driftPlaces_10 (by decide) (fun c2 => ?_) (fun c2 => ?_)
  · replace w := w.1 c2
    exact ex_vret hX dX6_driftPlaces_46 w
  · replace w := w.2 c2
    refine ex_aload_n hX dX6_driftPlaces_13 rfl rfl ?_
    refine ex_get hX (.ref 92) FL_6_61 rfl (fun _ => rfl) dX6_driftPlaces_14 ?_
    refine ex_iload_n hX dX6_driftPlaces_17 rfl rfl ?_
    refine ex_dup2 hX dX6_driftPlaces_18 rfl rfl ?_
    obtain ⟨q3, w⟩ := w
    refine ex_iald hX rfl q3 dX6_driftPlaces_19 ?_
    refine ex_aload_n hX dX6_driftPlaces_20 rfl rfl ?_
    refine ex_get hX (.ref 42) FL_6_43 rfl (fun _ => rfl) dX6_driftPlaces_21 ?_
    refine ex_aload_n hX dX6_driftPlaces_24 rfl rfl ?_
    refine ex_gg (fun c4 => ?_)
    refine ex_get hX (.ref (h.2 1)) FL_6_19 rfl (fun _ => rfl) dX6_driftPlaces_25 ?_
    refine ex_aload_n hX dX6_driftPlaces_28 rfl rfl ?_
    refine ex_get hX (.ref 92) FL_6_61 rfl (fun _ => rfl) dX6_driftPlaces_29 ?_
    refine ex_iload_n hX dX6_driftPlaces_32 rfl rfl ?_
    obtain ⟨q5, w⟩ := w
    refine ex_iald hX rfl q5 dX6_driftPlaces_33 ?_
    refine ex_iload_n hX dX6_driftPlaces_34 rfl rfl ?_
    obtain ⟨q6, w⟩ := w
    refine ex_pIv (ci := 3) (i := 42) (As := [.ref (h.2 1), .int (h.1 92 (Int32.toNatClampNeg x2)), .int x1]) (st := [.int (h.1 92 (Int32.toNatClampNeg x2)), .int x2, .ref 92]) hX (c_X3_wayFrom (h := h) rfl c4.1 q6) CS_6_219 MS_X3_wayFrom rfl rfl rfl (by decide) rfl (Nat.le_of_ble_eq_true rfl) dX6_driftPlaces_35 ?_
    refine ex_nameI (fun v7 ev7 => ?_)
    replace w := w v7 ev7
    refine ex_iadd hX dX6_driftPlaces_38 ?_
    obtain ⟨q8, w⟩ := w
    refine ex_iast hX rfl q8 dX6_driftPlaces_39 ?_
    refine ex_nameH (fun u9 eu9 => ?_)
    replace w := w u9 eu9
    refine ex_iinc (v := x2 + 1) (lv' := [some (.ref 0), some (.int x1), some (.int (x2 + 1))]) hX dX6_driftPlaces_40 rfl rfl (by decide) rfl ?_
    refine ex_goto hX 2 dX6_driftPlaces_43 (by decide) ?_
    exact w

set_option maxRecDepth 100000 in
set_option maxHeartbeats 4000000 in
theorem sg_X7_goesIn_0 {Z : CX × GX} {post : Int32 → AH → Prop} {h : AH} {x1 : Int32} {x2 : Int32} {x3 : Int32} (hX : OK Z RX7 cX7_goesIn 6 (some .int) 1 20) 
    (w : ((¬ x2 = (h.1 94 9 - 1) → (vp_in ((9 * x1) + x2) 1800) ∧ True) ∧ (∀ v3 : Int32, v3 = (if x2 = (h.1 94 9 - 1) then (0 : Int32) else h.1 109 (Int32.toNatClampNeg ((9 * x1) + x2))) → ((¬ x2 = 0 → (vp_in (((9 * x1) + x2) - 1) 1800) ∧ True) ∧ (∀ v6 : Int32, v6 = (if x2 = 0 then (0 : Int32) else -(h.1 109 (Int32.toNatClampNeg (((9 * x1) + x2) - 1)))) → ((v3 < x3 → ((v6 < x3 → post x2 h) ∧ (¬ v6 < x3 → post (x2 - 1) h))) ∧ (¬ v3 < x3 → ((v3 < v6 → ((v6 < x3 → post x2 h) ∧ (¬ v6 < x3 → post (x2 - 1) h))) ∧ (¬ v3 < v6 → post (x2 + 1) h)))))))))
    : EX Z 6 (QI Z post) 0 h [some (.ref 94), some (.int x1), some (.int x2), some (.int x3), none, none] [] := by
  refine ex_iload_n hX dX7_goesIn_0 rfl rfl ?_
  refine ex_aload_n hX dX7_goesIn_1 rfl rfl ?_
  refine ex_pIv (ci := 7) (i := 94) (As := []) (st := [.int x2]) hX (c_X7_sea (h := h)) CS_7_174 MS_X7_sea rfl rfl rfl (by decide) rfl (Nat.le_of_ble_eq_true rfl) dX7_goesIn_2 ?_
  obtain ⟨wac1, w⟩ := w
  have kc1 : EX Z 6 (QI Z post) 23 h [some (.ref 94), some (.int x1), some (.int x2), some (.int x3), none, none] [.int (if x2 = (h.1 94 9 - 1) then (0 : Int32) else h.1 109 (Int32.toNatClampNeg ((9 * x1) + x2)))] := by
    refine ex_nameI (fun v3 ev3 => ?_)
    replace w := w v3 ev3
    refine ex_istore (lv' := [some (.ref 94), some (.int x1), some (.int x2), some (.int x3), some (.int v3), none]) hX dX7_goesIn_23 (by decide) rfl ?_
    refine ex_iload_n hX dX7_goesIn_25 rfl rfl ?_
    obtain ⟨wac4, w⟩ := w
    have kc4 : EX Z 6 (QI Z post) 47 h [none, none, some (.int x2), some (.int x3), some (.int v3), none] [.int (if x2 = 0 then (0 : Int32) else -(h.1 109 (Int32.toNatClampNeg (((9 * x1) + x2) - 1))))] := by
      refine ex_nameI (fun v6 ev6 => ?_)
      replace w := w v6 ev6
      refine ex_istore (lv' := [none, none, some (.int x2), some (.int x3), some (.int v3), some (.int v6)]) hX dX7_goesIn_47 (by decide) rfl ?_
      refine ex_iload hX dX7_goesIn_49 rfl ?_
      refine ex_iload_n hX dX7_goesIn_51 rfl rfl ?_
      refine ex_icmplt hX 66 dX7_goesIn_52 (by decide) (fun c7 => ?_) (fun c7 => ?_)
      · replace w := w.1 c7
        refine ex_iload hX dX7_goesIn_66 rfl ?_
        refine ex_iload_n hX dX7_goesIn_68 rfl rfl ?_
        refine ex_icmplt hX 78 dX7_goesIn_69 (by decide) (fun c8 => ?_) (fun c8 => ?_)
        · replace w := w.1 c8
          refine ex_iload_n hX dX7_goesIn_78 rfl rfl ?_
          exact ex_iret hX dX7_goesIn_79 rfl w
        · replace w := w.2 c8
          refine ex_iload_n hX dX7_goesIn_72 rfl rfl ?_
          refine ex_iconst (v := 1) hX dX7_goesIn_73 rfl ?_
          refine ex_isub hX dX7_goesIn_74 ?_
          refine ex_goto hX 79 dX7_goesIn_75 (by decide) ?_
          exact ex_iret hX dX7_goesIn_79 rfl w
      · replace w := w.2 c7
        refine ex_iload hX dX7_goesIn_55 rfl ?_
        refine ex_iload hX dX7_goesIn_57 rfl ?_
        refine ex_icmplt hX 66 dX7_goesIn_59 (by decide) (fun c9 => ?_) (fun c9 => ?_)
        · replace w := w.1 c9
          refine ex_iload hX dX7_goesIn_66 rfl ?_
          refine ex_iload_n hX dX7_goesIn_68 rfl rfl ?_
          refine ex_icmplt hX 78 dX7_goesIn_69 (by decide) (fun c10 => ?_) (fun c10 => ?_)
          · replace w := w.1 c10
            refine ex_iload_n hX dX7_goesIn_78 rfl rfl ?_
            exact ex_iret hX dX7_goesIn_79 rfl w
          · replace w := w.2 c10
            refine ex_iload_n hX dX7_goesIn_72 rfl rfl ?_
            refine ex_iconst (v := 1) hX dX7_goesIn_73 rfl ?_
            refine ex_isub hX dX7_goesIn_74 ?_
            refine ex_goto hX 79 dX7_goesIn_75 (by decide) ?_
            exact ex_iret hX dX7_goesIn_79 rfl w
        · replace w := w.2 c9
          refine ex_iload_n hX dX7_goesIn_62 rfl rfl ?_
          refine ex_iconst (v := 1) hX dX7_goesIn_63 rfl ?_
          refine ex_iadd hX dX7_goesIn_64 ?_
          exact ex_iret hX dX7_goesIn_65 rfl w
    refine ex_ifne hX 33 dX7_goesIn_26 (by decide) (fun c4 => ?_) (fun c4 => ?_)
    · replace w := wac4 c4
      refine ex_aload_n hX dX7_goesIn_33 rfl rfl ?_
      refine ex_get hX (.ref 109) FL_7_57 rfl (fun _ => rfl) dX7_goesIn_34 ?_
      refine ex_bipush (v := 9) hX dX7_goesIn_37 rfl ?_
      refine ex_iload_n hX dX7_goesIn_39 rfl rfl ?_
      refine ex_imul hX dX7_goesIn_40 ?_
      refine ex_iload_n hX dX7_goesIn_41 rfl rfl ?_
      refine ex_iadd hX dX7_goesIn_42 ?_
      refine ex_iconst (v := 1) hX dX7_goesIn_43 rfl ?_
      refine ex_isub hX dX7_goesIn_44 ?_
      obtain ⟨q5, w⟩ := w
      refine ex_iald hX rfl q5 dX7_goesIn_45 ?_
      refine ex_ineg hX dX7_goesIn_46 ?_
      rw [show (if x2 = 0 then (0 : Int32) else -(h.1 109 (Int32.toNatClampNeg (((9 * x1) + x2) - 1)))) = -(h.1 109 (Int32.toNatClampNeg (((9 * x1) + x2) - 1))) from if_neg c4] at kc4
      exact ex_forget [none, none, some (.int x2), some (.int x3), some (.int v3), none] ⟨rfl, ⟨rfl, ⟨rfl, trivial⟩⟩⟩ kc4
    · refine ex_iconst (v := 0) hX dX7_goesIn_29 rfl ?_
      refine ex_goto hX 47 dX7_goesIn_30 (by decide) ?_
      rw [show (if x2 = 0 then (0 : Int32) else -(h.1 109 (Int32.toNatClampNeg (((9 * x1) + x2) - 1)))) = 0 from if_pos c4] at kc4
      exact ex_forget [none, none, some (.int x2), some (.int x3), some (.int v3), none] ⟨rfl, ⟨rfl, ⟨rfl, trivial⟩⟩⟩ kc4
  refine ex_icmpne hX 12 dX7_goesIn_5 (by decide) (fun c1 => ?_) (fun c1 => ?_)
  · replace w := wac1 c1
    refine ex_aload_n hX dX7_goesIn_12 rfl rfl ?_
    refine ex_get hX (.ref 109) FL_7_57 rfl (fun _ => rfl) dX7_goesIn_13 ?_
    refine ex_bipush (v := 9) hX dX7_goesIn_16 rfl ?_
    refine ex_iload_n hX dX7_goesIn_18 rfl rfl ?_
    refine ex_imul hX dX7_goesIn_19 ?_
    refine ex_iload_n hX dX7_goesIn_20 rfl rfl ?_
    refine ex_iadd hX dX7_goesIn_21 ?_
    obtain ⟨q2, w⟩ := w
    refine ex_iald hX rfl q2 dX7_goesIn_22 ?_
    rw [show (if x2 = (h.1 94 9 - 1) then (0 : Int32) else h.1 109 (Int32.toNatClampNeg ((9 * x1) + x2))) = h.1 109 (Int32.toNatClampNeg ((9 * x1) + x2)) from if_neg c1] at kc1
    exact ex_forget [some (.ref 94), some (.int x1), some (.int x2), some (.int x3), none, none] ⟨rfl, ⟨rfl, ⟨rfl, ⟨rfl, trivial⟩⟩⟩⟩ kc1
  · refine ex_iconst (v := 0) hX dX7_goesIn_8 rfl ?_
    refine ex_goto hX 23 dX7_goesIn_9 (by decide) ?_
    rw [show (if x2 = (h.1 94 9 - 1) then (0 : Int32) else h.1 109 (Int32.toNatClampNeg ((9 * x1) + x2))) = 0 from if_pos c1] at kc1
    exact ex_forget [some (.ref 94), some (.int x1), some (.int x2), some (.int x3), none, none] ⟨rfl, ⟨rfl, ⟨rfl, ⟨rfl, trivial⟩⟩⟩⟩ kc1

set_option maxRecDepth 100000 in
set_option maxHeartbeats 4000000 in
theorem sg_X6_sent_0 {Z : CX × GX} {post : Int32 → AH → Prop} {h : AH} {x1 : Int32} {x2 : Int32} {x3 : Int32} {x4 : Int32} (hX : OK Z RX6 cX6_sent 7 (some .int) 4 123) 
    (w : (((0 ≤ x1 ∧ x1 < h.1 (h.2 1) 0) → ((x2 < 0 → post (-100000002) h) ∧ (¬ x2 < 0 → ((100 < x2 → post (-100000002) h) ∧ (¬ 100 < x2 → ((x3 < 0 → post (-100000002) h) ∧ (¬ x3 < 0 → ((x2 < x3 → post (-100000002) h) ∧ (¬ x2 < x3 → (((1 ≤ x4 ∧ x4 ≤ 999) → EX Z 7 (QI Z post) 47 h [some (.ref 0), some (.int x1), some (.int x2), some (.int x3), some (.int x4), some (.int 0), none] []) ∧ (¬ (1 ≤ x4 ∧ x4 ≤ 999) → post (-100000002) h))))))))))) ∧ (¬ (0 ≤ x1 ∧ x1 < h.1 (h.2 1) 0) → post (-100000001) h)))
    : EX Z 7 (QI Z post) 0 h [some (.ref 0), some (.int x1), some (.int x2), some (.int x3), some (.int x4), none, none] [] := by
  refine ex_aload_n hX dX6_sent_0 rfl rfl ?_
  refine ex_gg (fun c1 => ?_)
  refine ex_get hX (.ref (h.2 1)) FL_6_19 rfl (fun _ => rfl) dX6_sent_1 ?_
  refine ex_iload_n hX dX6_sent_4 rfl rfl ?_
  refine ex_pIv (ci := 0) (i := h.2 1) (As := [.int x1]) (st := []) hX (c_X0_isNode (h := h) c1.1) CS_6_122 MS_X0_isNode rfl c1.1 rfl (by decide) rfl (Nat.le_of_ble_eq_true rfl) dX6_sent_5 ?_
  refine ex_ifneB hX 14 dX6_sent_8 (by decide) (fun c2 => ?_) (fun c2 => ?_)
  · replace w := w.1 c2
    refine ex_iload_n hX dX6_sent_14 rfl rfl ?_
    refine ex_iflt hX 41 dX6_sent_15 (by decide) (fun c3 => ?_) (fun c3 => ?_)
    · replace w := w.1 c3
      refine ex_ldc hX dX6_sent_41 KC_6_72 ?_
      exact ex_iret hX dX6_sent_43 rfl w
    · replace w := w.2 c3
      refine ex_iload_n hX dX6_sent_18 rfl rfl ?_
      refine ex_bipush (v := 100) hX dX6_sent_19 rfl ?_
      refine ex_icmpgt hX 41 dX6_sent_21 (by decide) (fun c4 => ?_) (fun c4 => ?_)
      · replace w := w.1 c4
        refine ex_ldc hX dX6_sent_41 KC_6_72 ?_
        exact ex_iret hX dX6_sent_43 rfl w
      · replace w := w.2 c4
        refine ex_iload_n hX dX6_sent_24 rfl rfl ?_
        refine ex_iflt hX 41 dX6_sent_25 (by decide) (fun c5 => ?_) (fun c5 => ?_)
        · replace w := w.1 c5
          refine ex_ldc hX dX6_sent_41 KC_6_72 ?_
          exact ex_iret hX dX6_sent_43 rfl w
        · replace w := w.2 c5
          refine ex_iload_n hX dX6_sent_28 rfl rfl ?_
          refine ex_iload_n hX dX6_sent_29 rfl rfl ?_
          refine ex_icmpgt hX 41 dX6_sent_30 (by decide) (fun c6 => ?_) (fun c6 => ?_)
          · replace w := w.1 c6
            refine ex_ldc hX dX6_sent_41 KC_6_72 ?_
            exact ex_iret hX dX6_sent_43 rfl w
          · replace w := w.2 c6
            refine ex_iload hX dX6_sent_33 rfl ?_
            refine ex_pIs (As := [.int x4]) (st := []) hX (c_X6_isWeight (h := h)) CS_6_172 MS_X6_isWeight rfl (by decide) rfl (Nat.le_of_ble_eq_true rfl) dX6_sent_35 ?_
            refine ex_ifneB hX 44 dX6_sent_38 (by decide) (fun c7 => ?_) (fun c7 => ?_)
            · replace w := w.1 c7
              refine ex_iconst (v := 0) hX dX6_sent_44 rfl ?_
              refine ex_istore (lv' := [some (.ref 0), some (.int x1), some (.int x2), some (.int x3), some (.int x4), some (.int 0), none]) hX dX6_sent_45 (by decide) rfl ?_
              exact w
            · replace w := w.2 c7
              refine ex_ldc hX dX6_sent_41 KC_6_72 ?_
              exact ex_iret hX dX6_sent_43 rfl w
  · replace w := w.2 c2
    refine ex_ldc hX dX6_sent_11 KC_6_126 ?_
    exact ex_iret hX dX6_sent_13 rfl w

set_option maxRecDepth 100000 in
set_option maxHeartbeats 4000000 in
theorem sg_X6_sent_47 {Z : CX × GX} {post : Int32 → AH → Prop} {h : AH} {x1 : Int32} {x2 : Int32} {x3 : Int32} {x4 : Int32} {x5 : Int32} (hX : OK Z RX6 cX6_sent 7 (some .int) 4 123) 
    (w : (((h.1 (h.2 1) 0) ≤ x5 → (∃ PP : AH → Prop, CV yX3_becomeAs cX3_becomeAs 2 3 102 [.ref 42, .ref 27] h PP ∧ ∀ u : AH, PP u → EX Z 7 (QI Z post) 85 u [some (.ref 0), some (.int x1), some (.int x2), some (.int x3), some (.int x4), none, none] [])) ∧ (¬ (h.1 (h.2 1) 0) ≤ x5 → (vp_in x5 10) ∧ (∀ u4 : AH, u4 = (hset h.1 92 (Int32.toNatClampNeg x5) x5, h.2) → EX Z 7 (QI Z post) 47 u4 [some (.ref 0), some (.int x1), some (.int x2), some (.int x3), some (.int x4), some (.int (x5 + 1)), none] []))))
    : EX Z 7 (QI Z post) 47 h [some (.ref 0), some (.int x1), some (.int x2), some (.int x3), some (.int x4), some (.int x5), none] [] := by
  refine ex_iload hX dX6_sent_47 rfl ?_
  refine ex_aload_n hX dX6_sent_49 rfl rfl ?_
  refine ex_gg (fun c1 => ?_)
  refine ex_get hX (.ref (h.2 1)) FL_6_19 rfl (fun _ => rfl) dX6_sent_50 ?_
  refine ex_get hX (.int (h.1 (h.2 1) 0)) FL_6_100 c1.1 (fun _ => rfl) dX6_sent_53 ?_
  refine ex_icmpge hX 74 dX6_sent_56 (by decide) (fun c2 => ?_) (fun c2 => ?_)
  · replace w := w.1 c2
    refine ex_aload_n hX dX6_sent_74 rfl rfl ?_
    refine ex_get hX (.ref 42) FL_6_43 rfl (fun _ => rfl) dX6_sent_75 ?_
    refine ex_aload_n hX dX6_sent_78 rfl rfl ?_
    refine ex_get hX (.ref 27) FL_6_39 rfl (fun _ => rfl) dX6_sent_79 ?_
    obtain ⟨PP, pM, pK⟩ := w
    exact ex_callVv (ci := 3) (i := 42) (As := [.ref 27]) (st := []) hX pM CS_6_198 MS_X3_becomeAs rfl rfl rfl (by decide) rfl (Nat.le_of_ble_eq_true rfl) dX6_sent_82 (fun u hp => ex_forget [some (.ref 0), some (.int x1), some (.int x2), some (.int x3), some (.int x4), none, none] ⟨rfl, ⟨rfl, ⟨rfl, ⟨rfl, ⟨rfl, trivial⟩⟩⟩⟩⟩ (pK u hp))
  · replace w := w.2 c2
    refine ex_aload_n hX dX6_sent_59 rfl rfl ?_
    refine ex_get hX (.ref 92) FL_6_61 rfl (fun _ => rfl) dX6_sent_60 ?_
    refine ex_iload hX dX6_sent_63 rfl ?_
    refine ex_iload hX dX6_sent_65 rfl ?_
    obtain ⟨q3, w⟩ := w
    refine ex_iast hX rfl q3 dX6_sent_67 ?_
    refine ex_nameH (fun u4 eu4 => ?_)
    replace w := w u4 eu4
    refine ex_iinc (v := x5 + 1) (lv' := [some (.ref 0), some (.int x1), some (.int x2), some (.int x3), some (.int x4), some (.int (x5 + 1)), none]) hX dX6_sent_68 rfl rfl (by decide) rfl ?_
    refine ex_goto hX 47 dX6_sent_71 (by decide) ?_
    exact w

set_option maxRecDepth 100000 in
set_option maxHeartbeats 4000000 in
theorem sg_X6_sent_85 {Z : CX × GX} {post : Int32 → AH → Prop} {h : AH} {x1 : Int32} {x2 : Int32} {x3 : Int32} {x4 : Int32} (hX : OK Z RX6 cX6_sent 7 (some .int) 4 123) 
    (w : EX Z 7 (QI Z post) 88 h [some (.ref 0), some (.int x1), some (.int x2), some (.int x3), some (.int x4), some (.int 0), none] [])
    : EX Z 7 (QI Z post) 85 h [some (.ref 0), some (.int x1), some (.int x2), some (.int x3), some (.int x4), none, none] [] := by
  refine ex_iconst (v := 0) hX dX6_sent_85 rfl ?_
  refine ex_istore (lv' := [some (.ref 0), some (.int x1), some (.int x2), some (.int x3), some (.int x4), some (.int 0), none]) hX dX6_sent_86 (by decide) rfl ?_
  exact w

set_option maxRecDepth 100000 in
set_option maxHeartbeats 4000000 in
theorem sg_X6_sent_88 {Z : CX × GX} {post : Int32 → AH → Prop} {h : AH} {x1 : Int32} {x2 : Int32} {x3 : Int32} {x4 : Int32} {x5 : Int32} (hX : OK Z RX6 cX6_sent 7 (some .int) 4 123) 
    (w : ((x2 ≤ x5 → EX Z 7 (QI Z post) 133 h [some (.ref 0), some (.int x1), none, none, none, some (.int 0), some (.int 0)] []) ∧ (¬ x2 ≤ x5 → (∃ PP : AH → Prop, CV yX3_passHour cX3_passHour 4 3 70 [.ref 42, .ref (h.2 1), .ref (h.2 3)] h PP ∧ ∀ u : AH, PP u → EX Z 7 (QI Z post) 109 u [some (.ref 0), some (.int x1), some (.int x2), some (.int x3), some (.int x4), some (.int x5), none] []))))
    : EX Z 7 (QI Z post) 88 h [some (.ref 0), some (.int x1), some (.int x2), some (.int x3), some (.int x4), some (.int x5), none] [] := by
  refine ex_iload hX dX6_sent_88 rfl ?_
  refine ex_iload_n hX dX6_sent_90 rfl rfl ?_
  refine ex_icmpge hX 127 dX6_sent_91 (by decide) (fun c1 => ?_) (fun c1 => ?_)
  · replace w := w.1 c1
    refine ex_iconst (v := 0) hX dX6_sent_127 rfl ?_
    refine ex_istore (lv' := [some (.ref 0), some (.int x1), some (.int x2), some (.int x3), some (.int x4), some (.int 0), none]) hX dX6_sent_128 (by decide) rfl ?_
    refine ex_iconst (v := 0) hX dX6_sent_130 rfl ?_
    refine ex_istore (lv' := [some (.ref 0), some (.int x1), some (.int x2), some (.int x3), some (.int x4), some (.int 0), some (.int 0)]) hX dX6_sent_131 (by decide) rfl ?_
    exact ex_forget [some (.ref 0), some (.int x1), none, none, none, some (.int 0), some (.int 0)] ⟨rfl, ⟨rfl, ⟨rfl, ⟨rfl, trivial⟩⟩⟩⟩ w
  · replace w := w.2 c1
    refine ex_aload_n hX dX6_sent_94 rfl rfl ?_
    refine ex_get hX (.ref 42) FL_6_43 rfl (fun _ => rfl) dX6_sent_95 ?_
    refine ex_aload_n hX dX6_sent_98 rfl rfl ?_
    refine ex_gg (fun c2 => ?_)
    refine ex_get hX (.ref (h.2 1)) FL_6_19 rfl (fun _ => rfl) dX6_sent_99 ?_
    refine ex_aload_n hX dX6_sent_102 rfl rfl ?_
    refine ex_gg (fun c3 => ?_)
    refine ex_get hX (.ref (h.2 3)) FL_6_29 rfl (fun _ => rfl) dX6_sent_103 ?_
    obtain ⟨PP, pM, pK⟩ := w
    exact ex_callVv (ci := 3) (i := 42) (As := [.ref (h.2 1), .ref (h.2 3)]) (st := []) hX pM CS_6_162 MS_X3_passHour rfl rfl rfl (by decide) rfl (Nat.le_of_ble_eq_true rfl) dX6_sent_106 (fun u hp => pK u hp)

set_option maxRecDepth 100000 in
set_option maxHeartbeats 4000000 in
theorem sg_X6_sent_109 {Z : CX × GX} {post : Int32 → AH → Prop} {h : AH} {x1 : Int32} {x2 : Int32} {x3 : Int32} {x4 : Int32} {x5 : Int32} (hX : OK Z RX6 cX6_sent 7 (some .int) 4 123) 
    (w : ((x5 < x3 → EX Z 7 (QI Z post) 88 h [some (.ref 0), some (.int x1), some (.int x2), some (.int x3), some (.int x4), some (.int (x5 + 1)), none] []) ∧ (¬ x5 < x3 → (∃ PP : AH → Prop, CV yX6_driftPlaces cX6_driftPlaces 3 2 46 [.ref 0, .int x4] h PP ∧ ∀ u : AH, PP u → EX Z 7 (QI Z post) 121 u [some (.ref 0), some (.int x1), some (.int x2), some (.int x3), some (.int x4), some (.int x5), none] []))))
    : EX Z 7 (QI Z post) 109 h [some (.ref 0), some (.int x1), some (.int x2), some (.int x3), some (.int x4), some (.int x5), none] [] := by
  refine ex_iload hX dX6_sent_109 rfl ?_
  refine ex_iload_n hX dX6_sent_111 rfl rfl ?_
  refine ex_icmplt hX 121 dX6_sent_112 (by decide) (fun c1 => ?_) (fun c1 => ?_)
  · replace w := w.1 c1
    refine ex_iinc (v := x5 + 1) (lv' := [some (.ref 0), some (.int x1), some (.int x2), some (.int x3), some (.int x4), some (.int (x5 + 1)), none]) hX dX6_sent_121 rfl rfl (by decide) rfl ?_
    refine ex_goto hX 88 dX6_sent_124 (by decide) ?_
    exact w
  · replace w := w.2 c1
    refine ex_aload_n hX dX6_sent_115 rfl rfl ?_
    refine ex_iload hX dX6_sent_116 rfl ?_
    obtain ⟨PP, pM, pK⟩ := w
    exact ex_callVv (ci := 6) (i := 0) (As := [.int x4]) (st := []) hX pM CS_6_216 MS_X6_driftPlaces rfl rfl rfl (by decide) rfl (Nat.le_of_ble_eq_true rfl) dX6_sent_118 (fun u hp => pK u hp)

set_option maxRecDepth 100000 in
set_option maxHeartbeats 4000000 in
theorem sg_X6_sent_121 {Z : CX × GX} {post : Int32 → AH → Prop} {h : AH} {x1 : Int32} {x2 : Int32} {x3 : Int32} {x4 : Int32} {x5 : Int32} (hX : OK Z RX6 cX6_sent 7 (some .int) 4 123) 
    (w : EX Z 7 (QI Z post) 88 h [some (.ref 0), some (.int x1), some (.int x2), some (.int x3), some (.int x4), some (.int (x5 + 1)), none] [])
    : EX Z 7 (QI Z post) 121 h [some (.ref 0), some (.int x1), some (.int x2), some (.int x3), some (.int x4), some (.int x5), none] [] := by
  refine ex_iinc (v := x5 + 1) (lv' := [some (.ref 0), some (.int x1), some (.int x2), some (.int x3), some (.int x4), some (.int (x5 + 1)), none]) hX dX6_sent_121 rfl rfl (by decide) rfl ?_
  refine ex_goto hX 88 dX6_sent_124 (by decide) ?_
  exact w

set_option maxRecDepth 100000 in
set_option maxHeartbeats 4000000 in
theorem sg_X6_sent_133 {Z : CX × GX} {post : Int32 → AH → Prop} {h : AH} {x1 : Int32} {x5 : Int32} {x6 : Int32} (hX : OK Z RX6 cX6_sent 7 (some .int) 4 123) 
    (w : (((h.1 (h.2 1) 0) ≤ x6 → post x5 h) ∧ (¬ (h.1 (h.2 1) 0) ≤ x6 → (vp_in x6 10) ∧ EX Z 7 (QI Z post) 133 h [some (.ref 0), some (.int x1), none, none, none, some (.int (if (h.1 92 (Int32.toNatClampNeg x6)) = x1 then (x5 ||| (1 <<< (x6 &&& 31)) : Int32) else x5)), some (.int (x6 + 1))] [])))
    : EX Z 7 (QI Z post) 133 h [some (.ref 0), some (.int x1), none, none, none, some (.int x5), some (.int x6)] [] := by
  refine ex_iload hX dX6_sent_133 rfl ?_
  refine ex_aload_n hX dX6_sent_135 rfl rfl ?_
  refine ex_gg (fun c1 => ?_)
  refine ex_get hX (.ref (h.2 1)) FL_6_19 rfl (fun _ => rfl) dX6_sent_136 ?_
  refine ex_get hX (.int (h.1 (h.2 1) 0)) FL_6_100 c1.1 (fun _ => rfl) dX6_sent_139 ?_
  refine ex_icmpge hX 171 dX6_sent_142 (by decide) (fun c2 => ?_) (fun c2 => ?_)
  · replace w := w.1 c2
    refine ex_iload hX dX6_sent_171 rfl ?_
    exact ex_iret hX dX6_sent_173 rfl w
  · replace w := w.2 c2
    refine ex_aload_n hX dX6_sent_145 rfl rfl ?_
    refine ex_get hX (.ref 92) FL_6_61 rfl (fun _ => rfl) dX6_sent_146 ?_
    refine ex_iload hX dX6_sent_149 rfl ?_
    obtain ⟨q3, w⟩ := w
    refine ex_iald hX rfl q3 dX6_sent_151 ?_
    refine ex_iload_n hX dX6_sent_152 rfl rfl ?_
    have kc4 : EX Z 7 (QI Z post) 165 h [some (.ref 0), some (.int x1), none, none, none, some (.int (if (h.1 92 (Int32.toNatClampNeg x6)) = x1 then (x5 ||| (1 <<< (x6 &&& 31)) : Int32) else x5)), some (.int x6)] [] := by
      refine ex_iinc (v := x6 + 1) (lv' := [some (.ref 0), some (.int x1), none, none, none, some (.int (if (h.1 92 (Int32.toNatClampNeg x6)) = x1 then (x5 ||| (1 <<< (x6 &&& 31)) : Int32) else x5)), some (.int (x6 + 1))]) hX dX6_sent_165 rfl rfl (by decide) rfl ?_
      refine ex_goto hX 133 dX6_sent_168 (by decide) ?_
      exact w
    refine ex_icmpne hX 165 dX6_sent_153 (by decide) (fun c4 => ?_) (fun c4 => ?_)
    · rw [show (if (h.1 92 (Int32.toNatClampNeg x6)) = x1 then (x5 ||| (1 <<< (x6 &&& 31)) : Int32) else x5) = x5 from if_neg c4] at kc4
      exact ex_forget [some (.ref 0), some (.int x1), none, none, none, some (.int x5), some (.int x6)] ⟨rfl, ⟨rfl, ⟨rfl, ⟨rfl, trivial⟩⟩⟩⟩ kc4
    · refine ex_iload hX dX6_sent_156 rfl ?_
      refine ex_iconst (v := 1) hX dX6_sent_158 rfl ?_
      refine ex_iload hX dX6_sent_159 rfl ?_
      refine ex_ishl hX dX6_sent_161 ?_
      refine ex_ior hX dX6_sent_162 ?_
      refine ex_istore (lv' := [some (.ref 0), some (.int x1), none, none, none, some (.int (x5 ||| (1 <<< (x6 &&& 31)))), some (.int x6)]) hX dX6_sent_163 (by decide) rfl ?_
      rw [show (if (h.1 92 (Int32.toNatClampNeg x6)) = x1 then (x5 ||| (1 <<< (x6 &&& 31)) : Int32) else x5) = x5 ||| (1 <<< (x6 &&& 31)) from if_pos c4] at kc4
      exact ex_forget [some (.ref 0), some (.int x1), none, none, none, some (.int (x5 ||| (1 <<< (x6 &&& 31)))), some (.int x6)] ⟨rfl, ⟨rfl, ⟨rfl, ⟨rfl, trivial⟩⟩⟩⟩ kc4

set_option maxRecDepth 100000 in
set_option maxHeartbeats 4000000 in
theorem sg_X7_sent_0 {Z : CX × GX} {post : Int32 → AH → Prop} {h : AH} {x1 : Int32} {x2 : Int32} {x3 : Int32} {x4 : Int32} (hX : OK Z RX7 cX7_sent 9 (some .int) 5 118) 
    (w : (((0 ≤ x1 ∧ x1 ≤ h.1 94 9 - 1) → ((¬ (1 ≤ (Int32.toInt64 x4) ∧ (Int32.toInt64 x4) ≤ 999) → post (-100000002) h) ∧ ((1 ≤ (Int32.toInt64 x4) ∧ (Int32.toInt64 x4) ≤ 999) → ((¬ (0 ≤ (Int32.toInt64 x2) ∧ (Int32.toInt64 x2) ≤ 100) → post (-100000002) h) ∧ ((0 ≤ (Int32.toInt64 x2) ∧ (Int32.toInt64 x2) ≤ 100) → (((0 ≤ (Int32.toInt64 x3) ∧ (Int32.toInt64 x3) ≤ (Int32.toInt64 x2)) → (∃ PP : AH → Prop, CV yX7_tryHours cX7_tryHours 6 4 93 [.ref 94, .int 100, .int 0, .int 0] h PP ∧ ∀ u : AH, PP u → EX Z 9 (QI Z post) 58 u [some (.ref 94), some (.int x1), some (.int x2), some (.int x3), some (.int x4), none, none, none, none] [])) ∧ (¬ (0 ≤ (Int32.toInt64 x3) ∧ (Int32.toInt64 x3) ≤ (Int32.toInt64 x2)) → post (-100000002) h))))))) ∧ (¬ (0 ≤ x1 ∧ x1 ≤ h.1 94 9 - 1) → post (-100000001) h)))
    : EX Z 9 (QI Z post) 0 h [some (.ref 94), some (.int x1), some (.int x2), some (.int x3), some (.int x4), none, none, none, none] [] := by
  refine ex_aload_n hX dX7_sent_0 rfl rfl ?_
  refine ex_iload_n hX dX7_sent_1 rfl rfl ?_
  refine ex_pIv (ci := 7) (i := 94) (As := [.int x1]) (st := []) hX (c_X7_isNode (h := h)) CS_7_181 MS_X7_isNode rfl rfl rfl (by decide) rfl (Nat.le_of_ble_eq_true rfl) dX7_sent_2 ?_
  refine ex_ifneB hX 11 dX7_sent_5 (by decide) (fun c1 => ?_) (fun c1 => ?_)
  · replace w := w.1 c1
    refine ex_iload hX dX7_sent_11 rfl ?_
    refine ex_i2l hX dX7_sent_13 ?_
    refine ex_lconst (v := 1) hX dX7_sent_14 rfl ?_
    refine ex_ldc2 hX dX7_sent_15 KL_7_246 ?_
    refine ex_pIs (As := [.long (Int32.toInt64 x4), .long 1, .long 999]) (st := []) hX (c_X7_in (h := h)) CS_7_71 MS_X7_in rfl (by decide) rfl (Nat.le_of_ble_eq_true rfl) dX7_sent_18 ?_
    refine ex_ifeqB hX 47 dX7_sent_21 (by decide) (fun c2 => ?_) (fun c2 => ?_)
    · replace w := w.1 c2
      refine ex_ldc hX dX7_sent_47 KC_7_75 ?_
      exact ex_iret hX dX7_sent_49 rfl w
    · replace w := w.2 c2
      refine ex_iload_n hX dX7_sent_24 rfl rfl ?_
      refine ex_i2l hX dX7_sent_25 ?_
      refine ex_lconst (v := 0) hX dX7_sent_26 rfl ?_
      refine ex_ldc2 hX dX7_sent_27 KL_7_239 ?_
      refine ex_pIs (As := [.long (Int32.toInt64 x2), .long 0, .long 100]) (st := []) hX (c_X7_in (h := h)) CS_7_71 MS_X7_in rfl (by decide) rfl (Nat.le_of_ble_eq_true rfl) dX7_sent_30 ?_
      refine ex_ifeqB hX 47 dX7_sent_33 (by decide) (fun c3 => ?_) (fun c3 => ?_)
      · replace w := w.1 c3
        refine ex_ldc hX dX7_sent_47 KC_7_75 ?_
        exact ex_iret hX dX7_sent_49 rfl w
      · replace w := w.2 c3
        refine ex_iload_n hX dX7_sent_36 rfl rfl ?_
        refine ex_i2l hX dX7_sent_37 ?_
        refine ex_lconst (v := 0) hX dX7_sent_38 rfl ?_
        refine ex_iload_n hX dX7_sent_39 rfl rfl ?_
        refine ex_i2l hX dX7_sent_40 ?_
        refine ex_pIs (As := [.long (Int32.toInt64 x3), .long 0, .long (Int32.toInt64 x2)]) (st := []) hX (c_X7_in (h := h)) CS_7_71 MS_X7_in rfl (by decide) rfl (Nat.le_of_ble_eq_true rfl) dX7_sent_41 ?_
        refine ex_ifneB hX 50 dX7_sent_44 (by decide) (fun c4 => ?_) (fun c4 => ?_)
        · replace w := w.1 c4
          refine ex_aload_n hX dX7_sent_50 rfl rfl ?_
          refine ex_bipush (v := 100) hX dX7_sent_51 rfl ?_
          refine ex_iconst (v := 0) hX dX7_sent_53 rfl ?_
          refine ex_iconst (v := 0) hX dX7_sent_54 rfl ?_
          obtain ⟨PP, pM, pK⟩ := w
          exact ex_callVv (ci := 7) (i := 94) (As := [.int 100, .int 0, .int 0]) (st := []) hX pM CS_7_253 MS_X7_tryHours rfl rfl rfl (by decide) rfl (Nat.le_of_ble_eq_true rfl) dX7_sent_55 (fun u hp => pK u hp)
        · replace w := w.2 c4
          refine ex_ldc hX dX7_sent_47 KC_7_75 ?_
          exact ex_iret hX dX7_sent_49 rfl w
  · replace w := w.2 c1
    refine ex_ldc hX dX7_sent_8 KC_7_185 ?_
    exact ex_iret hX dX7_sent_10 rfl w

set_option maxRecDepth 100000 in
set_option maxHeartbeats 4000000 in
theorem sg_X7_sent_58 {Z : CX × GX} {post : Int32 → AH → Prop} {h : AH} {x1 : Int32} {x2 : Int32} {x3 : Int32} {x4 : Int32} (hX : OK Z RX7 cX7_sent 9 (some .int) 5 118) 
    (w : EX Z 9 (QI Z post) 64 h [some (.ref 94), some (.int x1), some (.int x2), some (.int x3), some (.int x4), some (.int 0), some (.int 0), none, none] [])
    : EX Z 9 (QI Z post) 58 h [some (.ref 94), some (.int x1), some (.int x2), some (.int x3), some (.int x4), none, none, none, none] [] := by
  refine ex_iconst (v := 0) hX dX7_sent_58 rfl ?_
  refine ex_istore (lv' := [some (.ref 94), some (.int x1), some (.int x2), some (.int x3), some (.int x4), some (.int 0), none, none, none]) hX dX7_sent_59 (by decide) rfl ?_
  refine ex_iconst (v := 0) hX dX7_sent_61 rfl ?_
  refine ex_istore (lv' := [some (.ref 94), some (.int x1), some (.int x2), some (.int x3), some (.int x4), some (.int 0), some (.int 0), none, none]) hX dX7_sent_62 (by decide) rfl ?_
  exact w

set_option maxRecDepth 100000 in
set_option maxHeartbeats 4000000 in
theorem sg_X7_sent_64 {Z : CX × GX} {post : Int32 → AH → Prop} {h : AH} {x1 : Int32} {x2 : Int32} {x3 : Int32} {x4 : Int32} {x5 : Int32} {x6 : Int32} (hX : OK Z RX7 cX7_sent 9 (some .int) 5 118) 
    (w : (((h.1 94 9) ≤ x6 → post x5 h) ∧ (¬ (h.1 94 9) ≤ x6 → EX Z 9 (QI Z post) 80 h [some (.ref 94), some (.int x1), some (.int x2), some (.int x3), some (.int x4), some (.int x5), some (.int x6), some (.int x6), some (.int x3)] [])))
    : EX Z 9 (QI Z post) 64 h [some (.ref 94), some (.int x1), some (.int x2), some (.int x3), some (.int x4), some (.int x5), some (.int x6), none, none] [] := by
  refine ex_iload hX dX7_sent_64 rfl ?_
  refine ex_aload_n hX dX7_sent_66 rfl rfl ?_
  refine ex_get hX (.int (h.1 94 9)) FL_7_161 rfl (fun _ => rfl) dX7_sent_67 ?_
  refine ex_icmpge hX 132 dX7_sent_70 (by decide) (fun c1 => ?_) (fun c1 => ?_)
  · replace w := w.1 c1
    refine ex_iload hX dX7_sent_132 rfl ?_
    exact ex_iret hX dX7_sent_134 rfl w
  · replace w := w.2 c1
    refine ex_iload hX dX7_sent_73 rfl ?_
    refine ex_istore (lv' := [some (.ref 94), some (.int x1), some (.int x2), some (.int x3), some (.int x4), some (.int x5), some (.int x6), some (.int x6), none]) hX dX7_sent_75 (by decide) rfl ?_
    refine ex_iload_n hX dX7_sent_77 rfl rfl ?_
    refine ex_istore (lv' := [some (.ref 94), some (.int x1), some (.int x2), some (.int x3), some (.int x4), some (.int x5), some (.int x6), some (.int x6), some (.int x3)]) hX dX7_sent_78 (by decide) rfl ?_
    exact w

set_option maxRecDepth 100000 in
set_option maxHeartbeats 4000000 in
theorem sg_X7_sent_80 {Z : CX × GX} {post : Int32 → AH → Prop} {h : AH} {x1 : Int32} {x2 : Int32} {x3 : Int32} {x4 : Int32} {x5 : Int32} {x6 : Int32} {x7 : Int32} {x8 : Int32} (hX : OK Z RX7 cX7_sent 9 (some .int) 5 118) 
    (w : ((x2 ≤ x8 → EX Z 9 (QI Z post) 64 h [some (.ref 94), some (.int x1), some (.int x2), some (.int x3), some (.int x4), some (.int (x5 ||| ((bI (x7 = x1)) <<< (x6 &&& 31)))), some (.int (x6 + 1)), none, none] []) ∧ (¬ x2 ≤ x8 → (∃ PP : Int32 → AH → Prop, CI yX7_goesIn cX7_goesIn 6 (some .int) 1 20 [.ref 94, .int x8, .int x7, .int x4] h PP ∧ ∀ (r : Int32) (u : AH), PP r u → EX Z 9 (QI Z post) 96 u [some (.ref 94), some (.int x1), some (.int x2), some (.int x3), some (.int x4), some (.int x5), some (.int x6), none, some (.int x8)] (.int r :: [])))))
    : EX Z 9 (QI Z post) 80 h [some (.ref 94), some (.int x1), some (.int x2), some (.int x3), some (.int x4), some (.int x5), some (.int x6), some (.int x7), some (.int x8)] [] := by
  refine ex_iload hX dX7_sent_80 rfl ?_
  refine ex_iload_n hX dX7_sent_82 rfl rfl ?_
  refine ex_icmpge hX 104 dX7_sent_83 (by decide) (fun c1 => ?_) (fun c1 => ?_)
  · replace w := w.1 c1
    refine ex_iload hX dX7_sent_104 rfl ?_
    refine ex_iload hX dX7_sent_106 rfl ?_
    refine ex_iload_n hX dX7_sent_108 rfl rfl ?_
    have kc2 : EX Z 9 (QI Z post) 117 h [some (.ref 94), some (.int x1), some (.int x2), some (.int x3), some (.int x4), none, some (.int x6), none, none] [.int (bI (x7 = x1)), .int x5] := by
      refine ex_pIs (As := [.int (bI (x7 = x1))]) (st := [.int x5]) hX (c_X7_oneB (h := h)) CS_7_125 MS_X7_one rfl (by decide) rfl (Nat.le_of_ble_eq_true rfl) dX7_sent_117 ?_
      refine ex_iload hX dX7_sent_120 rfl ?_
      refine ex_ishl hX dX7_sent_122 ?_
      refine ex_ior hX dX7_sent_123 ?_
      refine ex_istore (lv' := [some (.ref 94), some (.int x1), some (.int x2), some (.int x3), some (.int x4), some (.int (x5 ||| ((bI (x7 = x1)) <<< (x6 &&& 31)))), some (.int x6), none, none]) hX dX7_sent_124 (by decide) rfl ?_
      refine ex_iinc (v := x6 + 1) (lv' := [some (.ref 94), some (.int x1), some (.int x2), some (.int x3), some (.int x4), some (.int (x5 ||| ((bI (x7 = x1)) <<< (x6 &&& 31)))), some (.int (x6 + 1)), none, none]) hX dX7_sent_126 rfl rfl (by decide) rfl ?_
      refine ex_goto hX 64 dX7_sent_129 (by decide) ?_
      exact w
    refine ex_icmpne hX 116 dX7_sent_109 (by decide) (fun c2 => ?_) (fun c2 => ?_)
    · refine ex_iconst (v := 0) hX dX7_sent_116 rfl ?_
      rw [show (bI (x7 = x1)) = 0 from bI_f c2] at kc2
      exact ex_forget [some (.ref 94), some (.int x1), some (.int x2), some (.int x3), some (.int x4), none, some (.int x6), none, none] ⟨rfl, ⟨rfl, ⟨rfl, ⟨rfl, ⟨rfl, ⟨rfl, trivial⟩⟩⟩⟩⟩⟩ kc2
    · refine ex_iconst (v := 1) hX dX7_sent_112 rfl ?_
      refine ex_goto hX 117 dX7_sent_113 (by decide) ?_
      rw [show (bI (x7 = x1)) = 1 from bI_t c2] at kc2
      exact ex_forget [some (.ref 94), some (.int x1), some (.int x2), some (.int x3), some (.int x4), none, some (.int x6), none, none] ⟨rfl, ⟨rfl, ⟨rfl, ⟨rfl, ⟨rfl, ⟨rfl, trivial⟩⟩⟩⟩⟩⟩ kc2
  · replace w := w.2 c1
    refine ex_aload_n hX dX7_sent_86 rfl rfl ?_
    refine ex_iload hX dX7_sent_87 rfl ?_
    refine ex_iload hX dX7_sent_89 rfl ?_
    refine ex_iload hX dX7_sent_91 rfl ?_
    obtain ⟨PP, pM, pK⟩ := w
    exact ex_callIv (ci := 7) (i := 94) (As := [.int x8, .int x7, .int x4]) (st := []) hX pM CS_7_269 MS_X7_goesIn rfl rfl rfl (by decide) rfl (Nat.le_of_ble_eq_true rfl) dX7_sent_93 (fun r u hp => ex_forget [some (.ref 94), some (.int x1), some (.int x2), some (.int x3), some (.int x4), some (.int x5), some (.int x6), none, some (.int x8)] ⟨rfl, ⟨rfl, ⟨rfl, ⟨rfl, ⟨rfl, ⟨rfl, ⟨rfl, ⟨rfl, trivial⟩⟩⟩⟩⟩⟩⟩⟩ (pK r u hp))

set_option maxRecDepth 100000 in
set_option maxHeartbeats 4000000 in
theorem sg_X7_sent_96 {Z : CX × GX} {post : Int32 → AH → Prop} {h : AH} {x1 : Int32} {x2 : Int32} {x3 : Int32} {x4 : Int32} {x5 : Int32} {x6 : Int32} {x8 : Int32} {s0 : Int32} (hX : OK Z RX7 cX7_sent 9 (some .int) 5 118) 
    (w : EX Z 9 (QI Z post) 80 h [some (.ref 94), some (.int x1), some (.int x2), some (.int x3), some (.int x4), some (.int x5), some (.int x6), some (.int s0), some (.int (x8 + 1))] [])
    : EX Z 9 (QI Z post) 96 h [some (.ref 94), some (.int x1), some (.int x2), some (.int x3), some (.int x4), some (.int x5), some (.int x6), none, some (.int x8)] [.int s0] := by
  refine ex_istore (lv' := [some (.ref 94), some (.int x1), some (.int x2), some (.int x3), some (.int x4), some (.int x5), some (.int x6), some (.int s0), some (.int x8)]) hX dX7_sent_96 (by decide) rfl ?_
  refine ex_iinc (v := x8 + 1) (lv' := [some (.ref 94), some (.int x1), some (.int x2), some (.int x3), some (.int x4), some (.int x5), some (.int x6), some (.int s0), some (.int (x8 + 1))]) hX dX7_sent_98 rfl rfl (by decide) rfl ?_
  refine ex_goto hX 80 dX7_sent_101 (by decide) ?_
  exact w

theorem rnD {lo hi : Nat} {x L M : Int32} (hL : L.toInt = lo) (hM : M.toInt = hi) (hm : hi < 2 ^ 31) : (L ≤ x ∧ x ≤ M) ↔ rN lo hi x := by
  rw [← rnC hL hM hm, Int32.not_lt]
/-- the node to which something goes -/
def toS (P : PR) (τ : SG) (k : Nat) (wt : Int32) : Nat := if wayS P τ k wt = 1 then k + 1 else if wayS P τ k wt = -1 then k - 1 else k
theorem toS_in {P : PR} {τ : SG} {k : Nat} {wt : Int32} (hw : 0 < wt) (hk : k < pn P) (hn : pn P ≤ 10) : toS P τ k wt < pn P ∧ nI k + wayS P τ k wt = nI (toS P τ k wt) ∧ (wayS P τ k wt = 0 ↔ toS P τ k wt = k) := by
  unfold toS
  rcases wayS_cases (σ := τ) hw hk with ⟨a, b⟩ | ⟨a, b⟩ | a
  · rw [a, if_pos rfl]
    exact ⟨by omega, nI_1 k, fun z => absurd z (by decide), fun z => absurd z (by omega)⟩
  · rw [a, if_neg (by decide), if_pos rfl]
    refine ⟨by omega, ?_, fun z => absurd z (by decide), fun z => absurd z (by omega)⟩
    rw [show nI (k - 1) = nI k - 1 by rw [k_1, pk_sub (by omega)]]
    rw [show (-1 : Int32) = -(1 : Int32) from rfl, ← Int32.sub_eq_add_neg]
  · rw [a, if_neg (by decide), if_neg (by decide)]
    exact ⟨hk, by rw [Int32.add_zero], fun _ => rfl, fun _ => rfl⟩
theorem ct_way {N k i : Nat} {σ : SG} {H hw wt : Int32} {h v : AH} (hI : INV N h) (hP : POK (PM h.1)) (hC : CT (PM h.1) σ H hw h v i) (hk : k < pn (PM h.1)) : WPc v.1 (h.2 1) (nI k) ∧ wfC v.1 42 (h.2 1) (nI k) wt = wayS (PM h.1) (hoursS (PM h.1) H hw i σ) k wt := by
  have g := hI.1
  have eQ : PC v.1 (h.2 1) (h.2 3) = PM h.1 := by rw [PC_eq g.1 g.2.2.1 (fun i hi => hC.1.2 i (by omega)), hI.2.1.1]
  have := wfC_eq (f := v.1) (s := 42) (c := h.2 1) (o := h.2 3) (k := k) (wt := wt) (by rw [eQ]; exact hP.1) (by rw [eQ]; exact hk)
  rw [eQ, hC.2.2] at this
  exact this

set_option maxRecDepth 100000 in
set_option maxHeartbeats 4000000 in
theorem c_X7_goesIn {h : AH} {a1 : Int32} {a2 : Int32} {a3 : Int32}  {P : PR} {σ : SG} {t k m : Nat} (hP : POK P) (en : h.1 94 9 = nI (pn P)) (hR : RC P σ 0 0 h m) (ht : t < m) (hm : m ≤ 200) (hk : k < pn P) (hw : 0 < a3) (e1 : a1 = nI t) (e2 : a2 = nI k) : CI yX7_goesIn cX7_goesIn 6 (some .int) 1 20 [.ref 94, .int a1, .int a2, .int a3] h (fun r u => r = nI (toS P (hoursS P 0 0 (t + 1) σ) k a3) ∧ u = h) := by
  refine CI.of [some (.ref 94), some (.int a1), some (.int a2), some (.int a3), none, none] (by decide +kernel) rfl (Nat.le_of_ble_eq_true rfl) rfl (fun Z hX => ?_)
  subst e1 e2
  have hn := hP.1
  have es : h.1 94 9 - 1 = nI (pn P - 1) := by rw [en, k_1, pk_sub (by omega)]
  have ek : (nI k = nI (pn P - 1)) ↔ k = pn P - 1 := nI_eq (by omega) (by omega)
  have ek0 : (nI k = 0) ↔ k = 0 := by rw [k_0]; exact nI_eq (by omega) (by omega)
  have ix : (9 : Int32) * nI t + nI k = nI (9 * t + k) := by rw [k_9, pk_mul, nI_add]
  obtain ⟨g1, g2, g3⟩ := toS_in (P := P) (τ := hoursS P 0 0 (t + 1) σ) hw hk hn.2
  generalize hτ : hoursS P 0 0 (t + 1) σ = τ at g1 g2 g3
  refine sg_X7_goesIn_0 hX ?_
  rw [es, ix, nI_clamp (by omega)]
  have dn : (if nI k = nI (pn P - 1) then (0 : Int32) else h.1 109 (9 * t + k)) = (if k = pn P - 1 then 0 else τ (20 + k)) := by
    by_cases c : k = pn P - 1
    · rw [if_pos (ek.mpr c), if_pos c]
    · rw [if_neg (fun z => c (ek.mp z)), if_neg c, (hR t ht k (by omega)).1, hτ]
  have up : ∀ x : Int32, (¬ k = 0 → x = nI (9 * t + (k - 1))) → (if nI k = 0 then (0 : Int32) else -(h.1 109 (Int32.toNatClampNeg x))) = (if k = 0 then 0 else -(τ (20 + k - 1))) := by
    intro x hx
    by_cases c : k = 0
    · rw [if_pos (ek0.mpr c), if_pos c]
    · rw [if_neg (fun z => c (ek0.mp z)), if_neg c, hx c, nI_clamp (by omega), (hR t ht (k - 1) (by omega)).1, hτ, show 20 + k - 1 = 20 + (k - 1) by omega]
  have hx : ¬ k = 0 → nI (9 * t + k) - 1 = nI (9 * t + (k - 1)) := fun c => by rw [k_1, pk_sub (by omega), show 9 * t + k - 1 = 9 * t + (k - 1) by omega]
  have way : wayS P τ k a3 = (if a3 ≤ (if k = pn P - 1 then (0 : Int32) else τ (20 + k)) ∧ (if k = 0 then (0 : Int32) else -(τ (20 + k - 1))) ≤ (if k = pn P - 1 then (0 : Int32) else τ (20 + k)) then (1 : Int32) else if a3 ≤ (if k = 0 then (0 : Int32) else -(τ (20 + k - 1))) then -1 else 0) := rfl
  refine ⟨fun c => ⟨vp_in_nI (by have : ¬ k = pn P - 1 := fun z => c (ek.mpr z); omega) (by omega), trivial⟩, fun v3 e3 => ⟨fun c => ⟨by rw [hx (fun z => c (ek0.mpr z))]; exact vp_in_nI (by omega) (by omega), trivial⟩, fun v6 e6 => ?_⟩⟩
  rw [dn] at e3
  rw [up _ hx] at e6
  rw [← e3, ← e6] at way
  have m1 : (-1 : Int32) = -(1 : Int32) := rfl
  refine ⟨fun c => ⟨fun c2 => ⟨?_, rfl⟩, fun c2 => ⟨?_, rfl⟩⟩, fun c => ⟨fun c2 => ⟨fun c3 => ⟨?_, rfl⟩, fun c3 => ⟨?_, rfl⟩⟩, fun c2 => ⟨?_, rfl⟩⟩⟩
  · rw [← g2, way, if_neg (fun z => Int32.not_le.mpr c z.1), if_neg (Int32.not_le.mpr c2), Int32.add_zero]
  · rw [← g2, way, if_neg (fun z => Int32.not_le.mpr c z.1), if_pos (Int32.not_lt.mp c2), m1, ← Int32.sub_eq_add_neg]
  · rw [← g2, way, if_neg (fun z => Int32.not_le.mpr c2 z.2), if_neg (Int32.not_le.mpr c3), Int32.add_zero]
  · rw [← g2, way, if_neg (fun z => Int32.not_le.mpr c2 z.2), if_pos (Int32.not_lt.mp c3), m1, ← Int32.sub_eq_add_neg]
  · rw [← g2, way, if_pos ⟨Int32.not_lt.mp c, Int32.not_lt.mp c2⟩]

/-- where something is behind d hours from hour s on -/
def plS (P : PR) (σ : SG) (wt : Int32) (s : Nat) : Nat → Nat → Nat
  | 0, k => k
  | d + 1, k => toS P (hoursS P 0 0 (s + d + 1) σ) (plS P σ wt s d k) wt
theorem pl_in {P : PR} {σ : SG} {wt : Int32} {s k : Nat} (hw : 0 < wt) (hk : k < pn P) (hn : pn P ≤ 10) : ∀ d, plS P σ wt s d k < pn P := by
  intro d
  induction d with
  | zero => exact hk
  | succ d ih => exact (toS_in hw ih hn).1
def ringB (P : PR) (σ : SG) (wt : Int32) (k t : Nat) : Bool := decide (¬ plS P σ wt 0 t k = k ∧ plS P σ wt 0 (t + 1) k = k)
def ringS (q : Nat → Bool) : Int32 := if fstS q 200 0 = 200 then -1 else nI (fstS q 200 0 + 1)
theorem ring_none {q : Nat → Bool} (h : ∀ t, t < 200 → q t = false) : ringS q = -1 := by
  rw [ringS, if_pos (fst_eq 200 0 200 (by omega) (by omega) (fun t _ a => h t a) (Or.inl (by omega)))]
theorem ring_some {q : Nat → Bool} {f : Nat} (hf : f < 200) (h : ∀ t, t < f → q t = false) (h2 : q f = true) : ringS q = nI (f + 1) := by
  rw [ringS, fst_eq 200 0 f (by omega) (by omega) (fun t _ a => h t a) (Or.inr h2), if_neg (by omega)]
theorem rN_pos {hi : Nat} {x : Int32} (h : rN 1 hi x) (hh : hi < 2 ^ 31) : 0 < x := by
  obtain ⟨w, a, b, rfl⟩ := h
  rw [k_0]
  exact nI_lt (by omega) (by omega)

set_option maxRecDepth 100000 in
set_option maxHeartbeats 4000000 in
theorem c_X6_ring {h : AH} {a1 : Int32} {a2 : Int32}  {n N : Nat} (hn : n ≤ 10) (hI : INV N h) (hN : N ≤ 511) (en : h.1 (h.2 1) 0 = nI n) (hP : n = 0 ∨ POK (PM h.1)) : CI yX6_ring cX6_ring 6 (some .int) 4 123 [.ref 0, .int a1, .int a2] h (fun r u => T3 (nodeA n a1) (rN 1 999 a2) (-100000001) (-100000002) (ringS (ringB (PM h.1) (mk (ms h.1 0)) a2 a1.toNatClampNeg)) r ∧ TC h u) := by
  refine CI.of [some (.ref 0), some (.int a1), some (.int a2), none, none, none] (by decide +kernel) rfl (Nat.le_of_ble_eq_true rfl) rfl (fun Z hX => ?_)
  have hA : (0 ≤ a1 ∧ a1 < h.1 (h.2 1) 0) ↔ nodeA n a1 := by rw [en]; exact nd1 hn
  have r2 := rnD (x := a2) (lo := 1) (hi := 999) (L := 1) (M := 999) rfl rfl (by decide)
  refine sg_X6_ring_0 hX ⟨fun c => ⟨fun c1 => ?_, fun c1 => ⟨T3.b (hA.mp c) (fun z => c1 (r2.mpr z)), TC.rf⟩⟩, fun c => ⟨T3.a (fun z => c (hA.mpr z)), TC.rf⟩⟩
  have hA2 := hA.mp c
  have hB := r2.mp c1
  have hw := rN_pos hB (by decide)
  obtain ⟨k, k1, rfl⟩ := hA.mp c
  have hP' := hP.resolve_left (by omega)
  have ep : pn (PM h.1) = n := by rw [← hI.2.1.1]; exact pn_C en hn
  rw [nI_clamp (by omega)]
  generalize hq : ringB (PM h.1) (mk (ms h.1 0)) a2 k = q
  obtain ⟨PP, q1, q2⟩ := ct_begin hI
  have hT := TOK0 hI hP' i0
  refine ⟨PP, q1, fun u hu => sg_X6_ring_35 hX ?_⟩
  have L : ∀ i, i ≤ 200 → ∀ u : AH, CT (PM h.1) (mk (ms h.1 0)) 0 0 h u i → (∀ t, t < i → q t = false) → EX Z 6 (QI Z (fun r u => T3 (nodeA n (nI k)) (rN 1 999 a2) (-100000001) (-100000002) (ringS q) r ∧ TC h u)) 40 u [some (.ref 0), some (.int (nI k)), some (.int a2), some (.int (nI (plS (PM h.1) (mk (ms h.1 0)) a2 0 i k))), some (.int (nI (i + 1))), none] [] := by
    refine ldown _ ?_ ?_
    · intro u hC hx
      exact sg_X6_ring_40 hX ⟨fun _ => ⟨T3.c hA2 hB (ring_none hx).symm, hC.1⟩, fun z => absurd (by decide : (200 : Int32) < nI (200 + 1)) z⟩
    · intro i hi ih u hC hx
      refine sg_X6_ring_40 hX ⟨fun z => absurd z (nI_nlt (a := 200) (b := i + 1) (by omega) (by omega)), fun _ => ?_⟩
      obtain ⟨PP, q1, q2⟩ := ct_call hI hN hi rfl hT hC
      rw [hC.1.1]
      refine ⟨PP, q1, fun u2 hu2 => sg_X6_ring_63 hX ?_⟩
      have hC2 := q2 u2 hu2
      have pin : plS (PM h.1) (mk (ms h.1 0)) a2 0 i k < pn (PM h.1) := pl_in hw (by omega) hP'.1.2 i
      obtain ⟨w1, w2⟩ := ct_way (wt := a2) hI hP' hC2 pin
      obtain ⟨g1, g2, g3⟩ := toS_in (P := PM h.1) (τ := hoursS (PM h.1) 0 0 (i + 1) (mk (ms h.1 0))) hw pin hP'.1.2
      have pe : plS (PM h.1) (mk (ms h.1 0)) a2 0 (i + 1) k = toS (PM h.1) (hoursS (PM h.1) 0 0 (i + 1) (mk (ms h.1 0))) (plS (PM h.1) (mk (ms h.1 0)) a2 0 i k) a2 := by rw [plS, Nat.zero_add]
      rw [← pe] at g1 g2 g3
      rw [hC2.1.1, w2, nI_1, g2]
      have qi : q i = decide (¬ plS (PM h.1) (mk (ms h.1 0)) a2 0 i k = k ∧ plS (PM h.1) (mk (ms h.1 0)) a2 0 (i + 1) k = k) := by rw [← hq]; rfl
      have ek : (nI (plS (PM h.1) (mk (ms h.1 0)) a2 0 (i + 1) k) = nI k) ↔ plS (PM h.1) (mk (ms h.1 0)) a2 0 (i + 1) k = k := nI_eq (by omega) (by omega)
      have nx : q i = false → ∀ t, t < i + 1 → q t = false := fun z t ht => by
        by_cases d : t = i
        · rw [d]; exact z
        · exact hx t (by omega)
      refine ⟨w1, fun z => ih u2 hC2 (nx ?_), fun z => ⟨fun z2 => ih u2 hC2 (nx ?_), fun z2 => ⟨T3.c hA2 hB (ring_some hi hx ?_).symm, hC2.1⟩⟩⟩
      · rw [qi]; exact decide_eq_false (fun y => y.1 ((g3.mp z).symm.trans y.2))
      · rw [qi]; exact decide_eq_false (fun y => z2 (ek.mpr y.2))
      · rw [qi]; exact decide_eq_true ⟨fun y => z (g3.mpr ((ek.mp z2).trans y.symm)), ek.mp z2⟩
  exact L 0 (by omega) u (q2 u hu 0) (fun t ht => absurd ht (by omega))

set_option maxRecDepth 100000 in
set_option maxHeartbeats 4000000 in
theorem c_X7_ring {h : AH} {a1 : Int32} {a2 : Int32}  {n N : Nat} (hn : n ≤ 10) (hI : INV N h) (hN : N ≤ 511) (en : h.1 94 9 = nI n) (hP : n = 0 ∨ POK (PM h.1)) : CI yX7_ring cX7_ring 6 (some .int) 5 118 [.ref 94, .int a1, .int a2] h (fun r u => T3 (nodeA n a1) (rN 1 999 a2) (-100000001) (-100000002) (ringS (ringB (PM h.1) (mk (ms h.1 0)) a2 a1.toNatClampNeg)) r ∧ TM h u) := by
  refine CI.of [some (.ref 94), some (.int a1), some (.int a2), none, none, none] (by decide +kernel) rfl (Nat.le_of_ble_eq_true rfl) rfl (fun Z hX => ?_)
  have tm : TM h h := ⟨TF.rf, hI.2.2.2.2.2.2.2⟩
  have hA : (0 ≤ a1 ∧ a1 ≤ h.1 94 9 - 1) ↔ nodeA n a1 := by rw [en]; exact nd2 hn
  have r2 := rnM (x := a2) (lo := 1) (hi := 999) (L := 1) (M := 999) rfl rfl (by decide)
  refine sg_X7_ring_0 hX ⟨fun c => ⟨fun c1 => ?_, fun c1 => ⟨T3.b (hA.mp c) (fun z => c1 (r2.mpr z)), tm⟩⟩, fun c => ⟨T3.a (fun z => c (hA.mpr z)), tm⟩⟩
  have hA2 := hA.mp c
  have hB := r2.mp c1
  have hw := rN_pos hB (by decide)
  obtain ⟨k, k1, rfl⟩ := hA.mp c
  have hP' := hP.resolve_left (by omega)
  have ep : pn (PM h.1) = n := pn_M en hn
  rw [nI_clamp (by omega)]
  generalize hq : ringB (PM h.1) (mk (ms h.1 0)) a2 k = q
  refine ⟨_, c_X7_tryHours (n := 200) rfl (by omega) hN rfl rfl (UOK0 hI hP' i0), fun v hv => sg_X7_ring_35 hX ?_⟩
  obtain ⟨v1, -, v3⟩ := hv
  have env : v.1 94 9 = nI (pn (PM h.1)) := by rw [v1.1.2.2.1 9 (by omega) (by omega), en, ep]
  have L : ∀ i, i ≤ 200 → ∀ lf : Int32, (lf = bI (¬ plS (PM h.1) (mk (ms h.1 0)) a2 0 i k = k)) → (∀ t, t < i → q t = false) → EX Z 6 (QI Z (fun r u => T3 (nodeA n (nI k)) (rN 1 999 a2) (-100000001) (-100000002) (ringS q) r ∧ TM h u)) 43 v [some (.ref 94), some (.int (nI k)), some (.int a2), some (.int (nI (plS (PM h.1) (mk (ms h.1 0)) a2 0 i k))), some (.int lf), some (.int (nI i))] [] := by
    refine ldown _ ?_ ?_
    · intro lf hl hx
      exact sg_X7_ring_43 hX ⟨fun _ => ⟨T3.c hA2 hB (ring_none hx).symm, v1⟩, fun z => absurd (by decide : (200 : Int32) ≤ nI 200) z⟩
    · intro i hi ih lf hl hx
      have pin : plS (PM h.1) (mk (ms h.1 0)) a2 0 i k < pn (PM h.1) := pl_in hw (by omega) hP'.1.2 i
      have pin2 : plS (PM h.1) (mk (ms h.1 0)) a2 0 (i + 1) k < pn (PM h.1) := pl_in hw (by omega) hP'.1.2 (i + 1)
      refine sg_X7_ring_43 hX ⟨fun z => absurd z (nI_ge (b := 200) hi (by omega)), fun _ => ⟨_, c_X7_goesIn (m := 200) hP' env v3 hi (by omega) pin hw rfl rfl, fun r u hu => ?_⟩⟩
      obtain ⟨u1, u2⟩ := hu
      rw [u2]
      have pe : plS (PM h.1) (mk (ms h.1 0)) a2 0 (i + 1) k = toS (PM h.1) (hoursS (PM h.1) 0 0 (i + 1) (mk (ms h.1 0))) (plS (PM h.1) (mk (ms h.1 0)) a2 0 i k) a2 := by rw [plS, Nat.zero_add]
      rw [← pe] at u1
      rw [u1]
      have qi : q i = decide (¬ plS (PM h.1) (mk (ms h.1 0)) a2 0 i k = k ∧ plS (PM h.1) (mk (ms h.1 0)) a2 0 (i + 1) k = k) := by rw [← hq]; rfl
      have ek : (nI (plS (PM h.1) (mk (ms h.1 0)) a2 0 (i + 1) k) = nI k) ↔ plS (PM h.1) (mk (ms h.1 0)) a2 0 (i + 1) k = k := nI_eq (by omega) (by omega)
      have nx : q i = false → ∀ t, t < i + 1 → q t = false := fun z t ht => by
        by_cases d : t = i
        · rw [d]; exact z
        · exact hx t (by omega)
      refine sg_X7_ring_59 hX ⟨fun z v4 e4 => ?_, fun z => ⟨fun z2 v8 e8 => ?_, fun z2 => ?_⟩⟩
      · rw [nI_1]
        rw [if_pos z] at e4
        rw [hl, bI_0] at z
        refine ih _ (by rw [e4]; exact bI_congr (not_congr ek)) (nx ?_)
        rw [qi]; exact decide_eq_false (fun y => z y.1)
      · rw [nI_1]
        rw [if_neg z] at e8
        refine ih _ (by rw [e8, bI_t]; exact fun y => z2 (ek.mpr y)) (nx ?_)
        rw [qi]; exact decide_eq_false (fun y => z2 (ek.mpr y.2))
      · rw [hl, bI_n0] at z
        rw [nI_1]
        exact ⟨T3.c hA2 hB (ring_some hi hx (by rw [qi]; exact decide_eq_true ⟨z, ek.mp z2⟩)).symm, v1⟩
  exact L 0 (by omega) 0 (by rw [bI_f]; exact fun z => z rfl) (fun t ht => absurd ht (by omega))

theorem op_ring {N : Nat} {h : AH} {x y : Int32} (hI : INV N h) (hNN : N ≤ 511) : OPP yX6_ring cX6_ring 6 4 123 yX7_ring cX7_ring 6 5 118 [.int x, .int y] N h := by
  obtain ⟨n, hn, e1, e2, hP⟩ := hI.2.1.2.1
  refine OPP.trial hI (c_X6_ring hn hI (by omega) e1 hP) (fun u iu f1 f2 f3 f4 => ?_)
  have := c_X7_ring (h := u) (a1 := x) (a2 := y) hn iu (by omega) (by rw [f3]; exact e2) (by rw [f1]; exact hP)
  rw [f1, f2] at this
  exact this

theorem ct_begin2 {N : Nat} {g h : AH} (hI : INV N g) (hg : TC g h) : ∃ PP : AH → Prop, CV yX3_becomeAs cX3_becomeAs 2 3 102 [.ref 42, .ref 27] h PP ∧ ∀ u, PP u → FC 42 h u ∧ ∀ hw, CT (PM g.1) (mk (ms g.1 0)) 0 hw g u 0 :=
  ⟨_, c_X3_becomeAs rfl rfl (by decide), fun u hu => ⟨hu.1, fun hw => ⟨hg.tr (TC.of hu.1), by rw [hu.2.2, hg.2 27 (by omega)]; exact hI.2.2.1.2.1, by rw [hu.2.1, cs_same (fun i h1 h2 => hg.2 i (by omega))]; exact hI.2.2.1.1⟩⟩⟩
theorem ct_call2 {N k : Nat} {P : PR} {σ : SG} {H hw : Int32} {h v : AH} (hI : INV N h) (hN : N ≤ 511) (hk : k < 200) (eP : PM h.1 = P) (hT : TOK N P σ H hw) (hC : CT P σ H hw h v k) : ∃ PP : AH → Prop, CV yX3_passHour cX3_passHour 4 3 70 [.ref 42, .ref (h.2 1), .ref (h.2 3)] v PP ∧ ∀ u, PP u → FC 42 v u ∧ CT P σ H hw h u (k + 1) := by
  obtain ⟨c1, c2, c3⟩ := hC
  have g := hI.1
  have b1 := oc0 g.1
  have b3 := oc1 g.2.2.1
  have eQ : PC v.1 (h.2 1) (h.2 3) = P := by rw [PC_eq g.1 g.2.2.1 (fun i hi => c1.2 i (by omega)), hI.2.1.1, eP]
  refine ⟨_, c_X3_passHour (T := 200 * N + k) (B := 2000000 * (N : Int) + 9040 * k) (hw := hw) rfl g.1 g.2.2.1 (by rw [eQ]; exact hT.1) (by omega) (by omega) (by rw [eQ, c3]; exact TOK_SOK hT hN (by omega)) hT.2.2.1 ?_, fun u hu => ?_⟩
  · rw [eQ, c2, c3]; exact hours_held hT.1 hT.2.1 hT.2.2.1 hT.2.2.2 k (by omega) (by omega)
  · rw [eQ, c2, c3] at hu
    exact ⟨hu.1, c1.tr (TC.of hu.1), hu.2.1, hu.2.2⟩
/-- a place that isn't the trial's changes -/
theorem ct_put {P : PR} {σ : SG} {H hw v : Int32} {h u u2 : AH} {i j k : Nat} (hC : CT P σ H hw h u k) (hi : 89 ≤ i ∧ i < 93) (e : u2 = (hset u.1 i j v, u.2)) : CT P σ H hw h u2 k := by
  have o : ∀ a, a < 89 → u2.1 a = u.1 a := fun a ha => by rw [e]; exact hs_o (by omega)
  refine ⟨hC.1.tr (by rw [e]; exact TC.set (by omega)), by rw [o 42 (by omega)]; exact hC.2.1, ?_⟩
  rw [cs_same (fun a h1 h2 => o a (by omega))]
  exact hC.2.2

set_option maxRecDepth 100000 in
set_option maxHeartbeats 4000000 in
theorem c_X6_driftPlaces {h : AH} {a1 : Int32}  {g : AH} {n N i : Nat} {σ : SG} {H hw : Int32} {f : Nat → Nat} (hI : INV N g) (hP : POK (PM g.1)) (en : g.1 (g.2 1) 0 = nI n) (ep : pn (PM g.1) = n) (hC : CT (PM g.1) σ H hw g h i) (hf : ∀ k, k < n → f k < n ∧ h.1 92 k = nI (f k)) (hw1 : 0 < a1) : CV yX6_driftPlaces cX6_driftPlaces 3 2 46 [.ref 0, .int a1] h (fun u => CT (PM g.1) σ H hw g u i ∧ ∀ k, k < n → u.1 92 k = nI (toS (PM g.1) (hoursS (PM g.1) H hw i σ) (f k) a1)) := by
  refine CV.of [some (.ref 0), some (.int a1), none] (by decide +kernel) rfl (Nat.le_of_ble_eq_true rfl) rfl (fun Z hX => ?_)
  have hn := hP.1
  rw [ep] at hn
  have b1 := oc0 hI.1.1
  have L : ∀ k, k ≤ n → ∀ u : AH, CT (PM g.1) σ H hw g u i → (∀ j, j < n → u.1 92 j = nI (if j < k then toS (PM g.1) (hoursS (PM g.1) H hw i σ) (f j) a1 else f j)) → EX Z 3 (QV Z (fun u => CT (PM g.1) σ H hw g u i ∧ ∀ k, k < n → u.1 92 k = nI (toS (PM g.1) (hoursS (PM g.1) H hw i σ) (f k) a1))) 2 u [some (.ref 0), some (.int a1), some (.int (nI k))] [] := by
    refine ldown _ ?_ ?_
    · intro u hC hu
      have e1 : u.1 (u.2 1) 0 = nI n := by rw [hC.1.1, hC.1.2 (g.2 1) (by omega)]; exact en
      refine sg_X6_driftPlaces_2 hX ⟨fun _ => ⟨hC, fun k hk => by rw [hu k hk, if_pos hk]⟩, fun z => absurd (by rw [e1]; exact nI_le (Nat.le_refl _) (by omega)) z⟩
    · intro k hk ih u hC hu
      have e1 : u.1 (u.2 1) 0 = nI n := by rw [hC.1.1, hC.1.2 (g.2 1) (by omega)]; exact en
      have ek : u.1 92 k = nI (f k) := by rw [hu k hk, if_neg (by omega)]
      have fk := (hf k hk).1
      obtain ⟨w1, w2⟩ := ct_way (wt := a1) hI hP hC (k := f k) (by rw [ep]; exact fk)
      obtain ⟨g1, g2, g3⟩ := toS_in (P := PM g.1) (τ := hoursS (PM g.1) H hw i σ) hw1 (k := f k) (by rw [ep]; exact fk) hP.1.2
      refine sg_X6_driftPlaces_2 hX ⟨fun z => absurd z (by rw [e1]; exact nI_ge hk (by omega)), fun _ => ?_⟩
      rw [nI_clamp (by omega), ek, hC.1.1, nI_1]
      refine ⟨vp_in_nI (by omega) (by omega), vp_in_nI (by omega) (by omega), w1, fun v7 e7 => ⟨vp_in_nI (by omega) (by omega), fun u9 e9 => ?_⟩⟩
      rw [e7, w2, g2] at e9
      refine ih u9 (ct_put (i := 92) (j := k) hC (by omega) (by rw [hC.1.1]; exact e9)) (fun j hj => ?_)
      have e92 : u9.1 92 = upd (u.1 92) k (nI (toS (PM g.1) (hoursS (PM g.1) H hw i σ) (f k) a1)) := by
        rw [e9]
        show hset u.1 92 k _ 92 = _
        rw [hset_eq]
      rw [e92]
      by_cases d : j = k
      · subst d; rw [upd_eq, if_pos (by omega)]
      · rw [upd_ne d, hu j hj]
        by_cases d2 : j < k
        · rw [if_pos d2, if_pos (by omega)]
        · rw [if_neg d2, if_neg (by omega)]
  exact sg_X6_driftPlaces_0 hX (L 0 (by omega) h hC (fun j hj => by rw [if_neg (by omega)]; exact (hf j hj).2))

def setOf (f : Nat → Nat) (q : Int32) : Nat → Int32
  | 0 => 0
  | m + 1 => if nI (f m) = q then setOf f q m ||| (1 <<< (nI m &&& 31)) else setOf f q m
def sentS (P : PR) (σ : SG) (n : Nat) (q x2 x3 wt : Int32) : Int32 := setOf (plS P σ wt x3.toNatClampNeg (x2.toNatClampNeg - x3.toNatClampNeg)) q n
theorem z_shl : ∀ m, m < 10 → (0 : Int32) <<< (nI m &&& 31) = 0 := by decide +kernel

set_option maxRecDepth 100000 in
set_option maxHeartbeats 4000000 in
theorem c_X6_sent {h : AH} {a1 : Int32} {a2 : Int32} {a3 : Int32} {a4 : Int32}  {n N : Nat} (hn : n ≤ 10) (hI : INV N h) (hN : N ≤ 511) (en : h.1 (h.2 1) 0 = nI n) (hP : n = 0 ∨ POK (PM h.1)) : CI yX6_sent cX6_sent 7 (some .int) 4 123 [.ref 0, .int a1, .int a2, .int a3, .int a4] h (fun r u => T3 (nodeA n a1) (rN 0 100 a2 ∧ rN 0 100 a3 ∧ a3 ≤ a2 ∧ rN 1 999 a4) (-100000001) (-100000002) (sentS (PM h.1) (mk (ms h.1 0)) n a1 a2 a3 a4) r ∧ TC h u) := by
  refine CI.of [some (.ref 0), some (.int a1), some (.int a2), some (.int a3), some (.int a4), none, none] (by decide +kernel) rfl (Nat.le_of_ble_eq_true rfl) rfl (fun Z hX => ?_)
  have hA : (0 ≤ a1 ∧ a1 < h.1 (h.2 1) 0) ↔ nodeA n a1 := by rw [en]; exact nd1 hn
  have r2 := rnC (x := a2) (lo := 0) (hi := 100) (L := 0) (M := 100) rfl rfl (by decide)
  have r3 := rnC (x := a3) (lo := 0) (hi := 100) (L := 0) (M := 100) rfl rfl (by decide)
  have r4 := rnD (x := a4) (lo := 1) (hi := 999) (L := 1) (M := 999) rfl rfl (by decide)
  have b1 := oc0 hI.1.1
  refine sg_X6_sent_0 hX ⟨fun c => ?_, fun c => ⟨T3.a (fun z => c (hA.mpr z)), TC.rf⟩⟩
  have hA' := hA.mp c
  refine ⟨fun c1 => ⟨T3.b hA' (fun z => (r2.mpr z.1).1 c1), TC.rf⟩, fun c1 => ⟨fun c2 => ⟨T3.b hA' (fun z => Int32.not_lt.mpr (r2.mpr z.1).2 c2), TC.rf⟩, fun c2 => ⟨fun c3 => ⟨T3.b hA' (fun z => (r3.mpr z.2.1).1 c3), TC.rf⟩, fun c3 => ⟨fun c4 => ⟨T3.b hA' (fun z => Int32.not_lt.mpr z.2.2.1 c4), TC.rf⟩, fun c4 => ⟨fun c5 => ?_, fun c5 => ⟨T3.b hA' (fun z => c5 (r4.mpr z.2.2.2)), TC.rf⟩⟩⟩⟩⟩⟩
  have h32 := Int32.not_lt.mp c4
  have h2 := Int32.not_lt.mp c2
  have hB : rN 0 100 a2 ∧ rN 0 100 a3 ∧ a3 ≤ a2 ∧ rN 1 999 a4 := ⟨r2.mp ⟨c1, h2⟩, r3.mp ⟨c3, Int32.le_trans h32 h2⟩, h32, r4.mp c5⟩
  have hw := rN_pos hB.2.2.2 (by decide)
  have hA2 := hA'
  obtain ⟨k, k1, k2⟩ := hA'
  obtain ⟨m, -, m2, rfl⟩ := hB.1
  obtain ⟨s, -, s2, rfl⟩ := hB.2.1
  have hsm : s ≤ m := (nI_leI (by omega) (by omega)).mp h32
  have hP' := hP.resolve_left (by omega)
  have ep : pn (PM h.1) = n := by rw [← hI.2.1.1]; exact pn_C en hn
  have hT := TOK0 hI hP' i0
  have eR : sentS (PM h.1) (mk (ms h.1 0)) n a1 (nI m) (nI s) a4 = setOf (plS (PM h.1) (mk (ms h.1 0)) a4 s (m - s)) a1 n := by rw [sentS, nI_clamp (by omega), nI_clamp (by omega)]
  have hpl : ∀ d j, j < n → plS (PM h.1) (mk (ms h.1 0)) a4 s d j < n := fun d j hj => by have := pl_in (s := s) (σ := mk (ms h.1 0)) hw (k := j) (by rw [ep]; exact hj) hP'.1.2 d; rw [ep] at this; exact this
  generalize hpost : (fun (r : Int32) (u : AH) => T3 (nodeA n a1) (rN 0 100 (nI m) ∧ rN 0 100 (nI s) ∧ nI s ≤ nI m ∧ rN 1 999 a4) (-100000001) (-100000002) (sentS (PM h.1) (mk (ms h.1 0)) n a1 (nI m) (nI s) a4) r ∧ TC h u) = post
  -- the set
  have LS : ∀ u : AH, TC h u → (∀ j, j < n → u.1 92 j = nI (plS (PM h.1) (mk (ms h.1 0)) a4 s (m - s) j)) → ∀ j, j ≤ n → EX Z 7 (QI Z post) 133 u [some (.ref 0), some (.int a1), none, none, none, some (.int (setOf (plS (PM h.1) (mk (ms h.1 0)) a4 s (m - s)) a1 j)), some (.int (nI j))] [] := by
    intro u hu hx
    have e1 : u.1 (u.2 1) 0 = nI n := by rw [hu.1, hu.2 (h.2 1) (by omega)]; exact en
    refine ldown _ ?_ ?_
    · refine sg_X6_sent_133 hX ⟨fun _ => ?_, fun z => absurd (by rw [e1]; exact nI_le (Nat.le_refl _) (by omega)) z⟩
      rw [← hpost]
      exact ⟨T3.c hA2 hB eR.symm, hu⟩
    · intro j hj ih
      refine sg_X6_sent_133 hX ⟨fun z => absurd z (by rw [e1]; exact nI_ge hj (by omega)), fun _ => ⟨vp_in_nI (by omega) (by omega), ?_⟩⟩
      rw [nI_clamp (by omega), hx j hj, nI_1]
      exact ih
  have LH : ∀ i, i ≤ m → ∀ u : AH, CT (PM h.1) (mk (ms h.1 0)) 0 0 h u i → (∀ j, j < n → u.1 92 j = nI (plS (PM h.1) (mk (ms h.1 0)) a4 s (i - s) j)) → EX Z 7 (QI Z post) 88 u [some (.ref 0), some (.int a1), some (.int (nI m)), some (.int (nI s)), some (.int a4), some (.int (nI i)), none] [] := by
    refine ldown _ ?_ ?_
    · intro u hC hx
      exact sg_X6_sent_88 hX ⟨fun _ => LS u hC.1 hx 0 (by omega), fun z => absurd (nI_le (Nat.le_refl _) (by omega)) z⟩
    · intro i hi ih u hC hx
      refine sg_X6_sent_88 hX ⟨fun z => absurd z (nI_ge hi (by omega)), fun _ => ?_⟩
      obtain ⟨PP, q1, q2⟩ := ct_call2 hI hN (by omega) rfl hT hC
      rw [hC.1.1]
      refine ⟨PP, q1, fun u2 hu2 => sg_X6_sent_109 hX ?_⟩
      obtain ⟨f2, hC2⟩ := q2 u2 hu2
      have hx2 : ∀ j, j < n → u2.1 92 j = nI (plS (PM h.1) (mk (ms h.1 0)) a4 s (i - s) j) := fun j hj => by rw [f2.2 92 (by omega)]; exact hx j hj
      refine ⟨fun z => ?_, fun z => ⟨_, c_X6_driftPlaces (g := h) (N := N) (f := plS (PM h.1) (mk (ms h.1 0)) a4 s (i - s)) hI hP' en ep hC2 (fun j hj => ⟨hpl _ j hj, hx2 j hj⟩) hw, fun u3 hu3 => sg_X6_sent_121 hX ?_⟩⟩
      · rw [nI_1]
        have := (nI_ltI (by omega) (by omega)).mp z
        refine ih u2 hC2 (fun j hj => ?_)
        rw [hx2 j hj, show i + 1 - s = i - s by omega]
      · rw [nI_1]
        have : s ≤ i := by
          rcases Nat.lt_or_ge i s with d | d
          · exact absurd (nI_lt d (by omega)) z
          · exact d
        refine ih u3 hu3.1 (fun j hj => ?_)
        rw [hu3.2 j hj, show i + 1 - s = (i - s) + 1 by omega, plS, show s + (i - s) + 1 = i + 1 by omega]
  have LP : ∀ j, j ≤ n → ∀ u : AH, TC h u → (∀ t, t < j → u.1 92 t = nI t) → EX Z 7 (QI Z post) 47 u [some (.ref 0), some (.int a1), some (.int (nI m)), some (.int (nI s)), some (.int a4), some (.int (nI j)), none] [] := by
    refine ldown _ ?_ ?_
    · intro u hu hx
      have e1 : u.1 (u.2 1) 0 = nI n := by rw [hu.1, hu.2 (h.2 1) (by omega)]; exact en
      obtain ⟨PP, q1, q2⟩ := ct_begin2 hI hu
      refine sg_X6_sent_47 hX ⟨fun _ => ⟨PP, q1, fun u2 hu2 => sg_X6_sent_85 hX ?_⟩, fun z => absurd (by rw [e1]; exact nI_le (Nat.le_refl _) (by omega)) z⟩
      obtain ⟨f2, hC2⟩ := q2 u2 hu2
      refine LH 0 (by omega) u2 (hC2 0) (fun j hj => ?_)
      rw [f2.2 92 (by omega), hx j hj, Nat.zero_sub]
      rfl
    · intro j hj ih u hu hx
      have e1 : u.1 (u.2 1) 0 = nI n := by rw [hu.1, hu.2 (h.2 1) (by omega)]; exact en
      refine sg_X6_sent_47 hX ⟨fun z => absurd z (by rw [e1]; exact nI_ge hj (by omega)), fun _ => ⟨vp_in_nI (by omega) (by omega), fun u4 e4 => ?_⟩⟩
      rw [nI_clamp (by omega)] at e4
      rw [nI_1]
      refine ih u4 (hu.tr (by rw [e4]; exact TC.set (by omega))) (fun t ht => ?_)
      have e92 : u4.1 92 = upd (u.1 92) j (nI j) := by
        rw [e4]
        show hset u.1 92 j _ 92 = _
        rw [hset_eq]
      rw [e92]
      by_cases d : t = j
      · subst d; rw [upd_eq]
      · rw [upd_ne d]; exact hx t (by omega)
  exact LP 0 (by omega) h TC.rf (fun t ht => absurd ht (by omega))

set_option maxRecDepth 100000 in
set_option maxHeartbeats 4000000 in
theorem c_X7_sent {h : AH} {a1 : Int32} {a2 : Int32} {a3 : Int32} {a4 : Int32}  {n N : Nat} (hn : n ≤ 10) (hI : INV N h) (hN : N ≤ 511) (en : h.1 94 9 = nI n) (hP : n = 0 ∨ POK (PM h.1)) : CI yX7_sent cX7_sent 9 (some .int) 5 118 [.ref 94, .int a1, .int a2, .int a3, .int a4] h (fun r u => T3 (nodeA n a1) (rN 0 100 a2 ∧ rN 0 100 a3 ∧ a3 ≤ a2 ∧ rN 1 999 a4) (-100000001) (-100000002) (sentS (PM h.1) (mk (ms h.1 0)) n a1 a2 a3 a4) r ∧ TM h u) := by
  refine CI.of [some (.ref 94), some (.int a1), some (.int a2), some (.int a3), some (.int a4), none, none, none, none] (by decide +kernel) rfl (Nat.le_of_ble_eq_true rfl) rfl (fun Z hX => ?_)
  have tm : TM h h := ⟨TF.rf, hI.2.2.2.2.2.2.2⟩
  have hA : (0 ≤ a1 ∧ a1 ≤ h.1 94 9 - 1) ↔ nodeA n a1 := by rw [en]; exact nd2 hn
  have r2 := rnM (x := a2) (lo := 0) (hi := 100) (L := 0) (M := 100) rfl rfl (by decide)
  have r4 := rnM (x := a4) (lo := 1) (hi := 999) (L := 1) (M := 999) rfl rfl (by decide)
  have r3 : rN 0 100 a2 → ((0 ≤ Int32.toInt64 a3 ∧ Int32.toInt64 a3 ≤ Int32.toInt64 a2) ↔ (rN 0 100 a3 ∧ a3 ≤ a2)) := by
    intro hr
    obtain ⟨m, -, m2, rfl⟩ := hr
    rw [rnM (lo := 0) (hi := m) rfl (by rw [Int32.toInt_toInt64, nI_toInt (by omega)]) (by omega)]
    constructor
    · rintro ⟨w, a, b, rfl⟩; exact ⟨⟨w, a, by omega, rfl⟩, nI_le b (by omega)⟩
    · rintro ⟨⟨w, a, b, rfl⟩, d⟩; exact ⟨w, a, (nI_leI (by omega) (by omega)).mp d, rfl⟩
  refine sg_X7_sent_0 hX ⟨fun c => ⟨fun c1 => ⟨T3.b (hA.mp c) (fun z => c1 (r4.mpr z.2.2.2)), tm⟩, fun c1 => ⟨fun c2 => ⟨T3.b (hA.mp c) (fun z => c2 (r2.mpr z.1)), tm⟩, fun c2 => ⟨fun c3 => ?_, fun c3 => ⟨T3.b (hA.mp c) (fun z => c3 ((r3 z.1).mpr ⟨z.2.1, z.2.2.1⟩)), tm⟩⟩⟩⟩, fun c => ⟨T3.a (fun z => c (hA.mpr z)), tm⟩⟩
  have h2 := r2.mp c2
  have h3 := (r3 h2).mp c3
  have hB : rN 0 100 a2 ∧ rN 0 100 a3 ∧ a3 ≤ a2 ∧ rN 1 999 a4 := ⟨h2, h3.1, h3.2, r4.mp c1⟩
  have hw := rN_pos hB.2.2.2 (by decide)
  have hA2 := hA.mp c
  obtain ⟨k, k1, k2⟩ := hA.mp c
  obtain ⟨m, -, m2, rfl⟩ := hB.1
  obtain ⟨s, -, s2, rfl⟩ := hB.2.1
  have hsm : s ≤ m := (nI_leI (by omega) (by omega)).mp h3.2
  have hP' := hP.resolve_left (by omega)
  have ep : pn (PM h.1) = n := pn_M en hn
  have eR : sentS (PM h.1) (mk (ms h.1 0)) n a1 (nI m) (nI s) a4 = setOf (plS (PM h.1) (mk (ms h.1 0)) a4 s (m - s)) a1 n := by rw [sentS, nI_clamp (by omega), nI_clamp (by omega)]
  have hpl : ∀ d j, j < n → plS (PM h.1) (mk (ms h.1 0)) a4 s d j < n := fun d j hj => by have := pl_in (s := s) (σ := mk (ms h.1 0)) hw (k := j) (by rw [ep]; exact hj) hP'.1.2 d; rw [ep] at this; exact this
  generalize hpost : (fun (r : Int32) (u : AH) => T3 (nodeA n a1) (rN 0 100 (nI m) ∧ rN 0 100 (nI s) ∧ nI s ≤ nI m ∧ rN 1 999 a4) (-100000001) (-100000002) (sentS (PM h.1) (mk (ms h.1 0)) n a1 (nI m) (nI s) a4) r ∧ TM h u) = post
  refine ⟨_, c_X7_tryHours (n := 100) rfl (by omega) hN rfl rfl (UOK0 hI hP' i0), fun v hv => sg_X7_sent_58 hX ?_⟩
  obtain ⟨v1, -, v3⟩ := hv
  have env : v.1 94 9 = nI (pn (PM h.1)) := by rw [v1.1.2.2.1 9 (by omega) (by omega), en, ep]
  have e1 : v.1 94 9 = nI n := by rw [env, ep]
  have L : ∀ j, j ≤ n → EX Z 9 (QI Z post) 64 v [some (.ref 94), some (.int a1), some (.int (nI m)), some (.int (nI s)), some (.int a4), some (.int (setOf (plS (PM h.1) (mk (ms h.1 0)) a4 s (m - s)) a1 j)), some (.int (nI j)), none, none] [] := by
    refine ldown _ ?_ ?_
    · refine sg_X7_sent_64 hX ⟨fun _ => ?_, fun z => absurd (by rw [e1]; exact nI_le (Nat.le_refl _) (by omega)) z⟩
      rw [← hpost]
      exact ⟨T3.c hA2 hB eR.symm, v1⟩
    · intro j hj ih
      refine sg_X7_sent_64 hX ⟨fun z => absurd z (by rw [e1]; exact nI_ge hj (by omega)), fun _ => ?_⟩
      have M : ∀ t, t ≤ m → s ≤ t → EX Z 9 (QI Z post) 80 v [some (.ref 94), some (.int a1), some (.int (nI m)), some (.int (nI s)), some (.int a4), some (.int (setOf (plS (PM h.1) (mk (ms h.1 0)) a4 s (m - s)) a1 j)), some (.int (nI j)), some (.int (nI (plS (PM h.1) (mk (ms h.1 0)) a4 s (t - s) j))), some (.int (nI t))] [] := by
        refine ldown _ ?_ ?_
        · intro _
          refine sg_X7_sent_80 hX ⟨fun _ => ?_, fun z => absurd (nI_le (Nat.le_refl _) (by omega)) z⟩
          rw [nI_1]
          have : setOf (plS (PM h.1) (mk (ms h.1 0)) a4 s (m - s)) a1 j ||| (bI (nI (plS (PM h.1) (mk (ms h.1 0)) a4 s (m - s) j) = a1) <<< (nI j &&& 31)) = setOf (plS (PM h.1) (mk (ms h.1 0)) a4 s (m - s)) a1 (j + 1) := by
            rw [setOf]
            by_cases d : nI (plS (PM h.1) (mk (ms h.1 0)) a4 s (m - s) j) = a1
            · rw [bI_t d, if_pos d]
            · rw [bI_f d, if_neg d, z_shl j (by omega), Int32.or_zero]
          rw [this]
          exact ih
        · intro t ht iht hst
          refine sg_X7_sent_80 hX ⟨fun z => absurd z (nI_ge ht (by omega)), fun _ => ⟨_, c_X7_goesIn (m := 100) hP' env v3 (by omega) (by omega) (by rw [ep]; exact hpl _ j hj) hw rfl rfl, fun r u hu => ?_⟩⟩
          rw [hu.2]
          refine sg_X7_sent_96 hX ?_
          rw [nI_1, hu.1]
          have := iht (by omega)
          rw [show t + 1 - s = (t - s) + 1 by omega, plS, show s + (t - s) + 1 = t + 1 by omega] at this
          exact this
      have := M s hsm (Nat.le_refl _)
      rw [Nat.sub_self] at this
      exact this
  exact L 0 (by omega)

theorem op_sent {N : Nat} {h : AH} {x y z w : Int32} (hI : INV N h) (hNN : N ≤ 511) : OPP yX6_sent cX6_sent 7 4 123 yX7_sent cX7_sent 9 5 118 [.int x, .int y, .int z, .int w] N h := by
  obtain ⟨n, hn, e1, e2, hP⟩ := hI.2.1.2.1
  refine OPP.trial hI (c_X6_sent hn hI (by omega) e1 hP) (fun u iu f1 f2 f3 f4 => ?_)
  have := c_X7_sent (h := u) (a1 := x) (a2 := y) (a3 := z) (a4 := w) hn iu (by omega) (by rw [f3]; exact e2) (by rw [f1]; exact hP)
  rw [f1, f2] at this
  exact this
