set_option maxRecDepth 100000 in
set_option maxHeartbeats 4000000 in
theorem sg_X7_takeNode_0 {Z : CX × GX} {post : AH → Prop} {h : AH}  (hX : OK Z RX7 cX7_takeNode 2 none 2 50) 
    (w : (∃ PP : Int32 → AH → Prop, CI yX7_takeNumber cX7_takeNumber 6 (some .int) 1 25 [.ref 94, .int 0, .int 999] h PP ∧ ∀ (r : Int32) (u : AH), PP r u → EX Z 2 (QV Z post) 21 u [some (.ref 94), some (.int (10 + (h.1 94 10)))] (.int r :: [.int (10 + (h.1 94 10)), .ref 97])))
    : EX Z 2 (QV Z post) 0 h [some (.ref 94), none] [] := by
  refine ex_bipush (v := 10) hX dX7_takeNode_0 rfl ?_
  refine ex_aload_n hX dX7_takeNode_2 rfl rfl ?_
  refine ex_get hX (.int (h.1 94 10)) FL_7_111 rfl (fun _ => rfl) dX7_takeNode_3 ?_
  refine ex_iadd hX dX7_takeNode_6 ?_
  refine ex_istore_n (lv' := [some (.ref 94), some (.int (10 + (h.1 94 10)))]) hX dX7_takeNode_7 rfl (by decide) rfl ?_
  refine ex_aload_n hX dX7_takeNode_8 rfl rfl ?_
  refine ex_get hX (.ref 97) FL_7_17 rfl (fun _ => rfl) dX7_takeNode_9 ?_
  refine ex_iload_n hX dX7_takeNode_12 rfl rfl ?_
  refine ex_aload_n hX dX7_takeNode_13 rfl rfl ?_
  refine ex_iconst (v := 0) hX dX7_takeNode_14 rfl ?_
  refine ex_sipush (v := 999) hX dX7_takeNode_15 rfl ?_
  obtain ⟨PP, pM, pK⟩ := w
  exact ex_callIv (ci := 7) (i := 94) (As := [.int 0, .int 999]) (st := [.int (10 + (h.1 94 10)), .ref 97]) hX pM CS_7_114 MS_X7_takeNumber rfl rfl rfl (by decide) rfl (Nat.le_of_ble_eq_true rfl) dX7_takeNode_18 (fun r u hp => pK r u hp)

set_option maxRecDepth 100000 in
set_option maxHeartbeats 4000000 in
theorem sg_X7_takeNode_21 {Z : CX × GX} {post : AH → Prop} {h : AH} {x1 : Int32} {s0 : Int32} {s1 : Int32} {s2 ns2 : Nat} (hX : OK Z RX7 cX7_takeNode 2 none 2 50) (as2 : ac s2 = some (0, ns2))
    (w : (vp_in s1 ns2) ∧ (∀ u2 : AH, u2 = (hset h.1 s2 (Int32.toNatClampNeg s1) s0, h.2) → (∃ PP : Int32 → AH → Prop, CI yX7_takeNumber cX7_takeNumber 6 (some .int) 1 25 [.ref 94, .int 1, .int 99] u2 PP ∧ ∀ (r : Int32) (u : AH), PP r u → EX Z 2 (QV Z post) 34 u [some (.ref 94), some (.int x1)] (.int r :: [.int x1, .ref 98]))))
    : EX Z 2 (QV Z post) 21 h [some (.ref 94), some (.int x1)] [.int s0, .int s1, .ref s2] := by
  obtain ⟨q1, w⟩ := w
  refine ex_iast hX as2 q1 dX7_takeNode_21 ?_
  refine ex_nameH (fun u2 eu2 => ?_)
  replace w := w u2 eu2
  refine ex_aload_n hX dX7_takeNode_22 rfl rfl ?_
  refine ex_get hX (.ref 98) FL_7_20 rfl (fun _ => rfl) dX7_takeNode_23 ?_
  refine ex_iload_n hX dX7_takeNode_26 rfl rfl ?_
  refine ex_aload_n hX dX7_takeNode_27 rfl rfl ?_
  refine ex_iconst (v := 1) hX dX7_takeNode_28 rfl ?_
  refine ex_bipush (v := 99) hX dX7_takeNode_29 rfl ?_
  obtain ⟨PP, pM, pK⟩ := w
  exact ex_callIv (ci := 7) (i := 94) (As := [.int 1, .int 99]) (st := [.int x1, .ref 98]) hX pM CS_7_114 MS_X7_takeNumber rfl rfl rfl (by decide) rfl (Nat.le_of_ble_eq_true rfl) dX7_takeNode_31 (fun r u hp => pK r u hp)

set_option maxRecDepth 100000 in
set_option maxHeartbeats 4000000 in
theorem sg_X7_takeNode_34 {Z : CX × GX} {post : AH → Prop} {h : AH} {x1 : Int32} {s0 : Int32} {s1 : Int32} {s2 ns2 : Nat} (hX : OK Z RX7 cX7_takeNode 2 none 2 50) (as2 : ac s2 = some (0, ns2))
    (w : (vp_in s1 ns2) ∧ (∀ u2 : AH, u2 = (hset h.1 s2 (Int32.toNatClampNeg s1) s0, h.2) → (∃ PP : Int32 → AH → Prop, CI yX7_takeNumber cX7_takeNumber 6 (some .int) 1 25 [.ref 94, .int 0, .int 9999] u2 PP ∧ ∀ (r : Int32) (u : AH), PP r u → EX Z 2 (QV Z post) 48 u [some (.ref 94), none] (.int r :: [.int x1, .ref 99]))))
    : EX Z 2 (QV Z post) 34 h [some (.ref 94), some (.int x1)] [.int s0, .int s1, .ref s2] := by
  obtain ⟨q1, w⟩ := w
  refine ex_iast hX as2 q1 dX7_takeNode_34 ?_
  refine ex_nameH (fun u2 eu2 => ?_)
  replace w := w u2 eu2
  refine ex_aload_n hX dX7_takeNode_35 rfl rfl ?_
  refine ex_get hX (.ref 99) FL_7_23 rfl (fun _ => rfl) dX7_takeNode_36 ?_
  refine ex_iload_n hX dX7_takeNode_39 rfl rfl ?_
  refine ex_aload_n hX dX7_takeNode_40 rfl rfl ?_
  refine ex_iconst (v := 0) hX dX7_takeNode_41 rfl ?_
  refine ex_sipush (v := 9999) hX dX7_takeNode_42 rfl ?_
  obtain ⟨PP, pM, pK⟩ := w
  exact ex_callIv (ci := 7) (i := 94) (As := [.int 0, .int 9999]) (st := [.int x1, .ref 99]) hX pM CS_7_114 MS_X7_takeNumber rfl rfl rfl (by decide) rfl (Nat.le_of_ble_eq_true rfl) dX7_takeNode_45 (fun r u hp => ex_forget [some (.ref 94), none] ⟨rfl, trivial⟩ (pK r u hp))

set_option maxRecDepth 100000 in
set_option maxHeartbeats 4000000 in
theorem sg_X7_takeNode_48 {Z : CX × GX} {post : AH → Prop} {h : AH} {s0 : Int32} {s1 : Int32} {s2 ns2 : Nat} (hX : OK Z RX7 cX7_takeNode 2 none 2 50) (as2 : ac s2 = some (0, ns2))
    (w : (vp_in s1 ns2) ∧ (∀ u2 : AH, u2 = (hset h.1 s2 (Int32.toNatClampNeg s1) s0, h.2) → (∀ u3 : AH, u3 = (hset u2.1 94 10 ((u2.1 94 10) + 1), u2.2) → post u3)))
    : EX Z 2 (QV Z post) 48 h [some (.ref 94), none] [.int s0, .int s1, .ref s2] := by
  obtain ⟨q1, w⟩ := w
  refine ex_iast hX as2 q1 dX7_takeNode_48 ?_
  refine ex_nameH (fun u2 eu2 => ?_)
  replace w := w u2 eu2
  refine ex_aload_n hX dX7_takeNode_49 rfl rfl ?_
  refine ex_dup hX dX7_takeNode_50 rfl ?_
  refine ex_get hX (.int (u2.1 94 10)) FL_7_111 rfl (fun _ => rfl) dX7_takeNode_51 ?_
  refine ex_iconst (v := 1) hX dX7_takeNode_54 rfl ?_
  refine ex_iadd hX dX7_takeNode_55 ?_
  refine ex_put hX .int FL_7_111 tyX7 tyX7_ok nmX7 rfl rfl rfl rfl rfl (fun _ => (by decide : 10 < 33)) (fun _ => fs_7_10) dX7_takeNode_56 ?_
  refine ex_nameH (fun u3 eu3 => ?_)
  replace w := w u3 eu3
  exact ex_vret hX dX7_takeNode_59 w

set_option maxRecDepth 100000 in
set_option maxHeartbeats 4000000 in
theorem sg_X7_once_0 {Z : CX × GX} {post : Int32 → AH → Prop} {h : AH} {x1 : Int32} {x2 : Int32} (hX : OK Z RX7 cX7_once 4 (some .boolean) 1 23) 
    (w : (∃ PP : Int32 → AH → Prop, CI yX7_want cX7_want 4 (some .boolean) 0 0 [.ref 94, .int (bI (¬ (((h.1 94 23) >>> (x1 &&& 31)) &&& 1 = 1))), .int 3, .int x2] h PP ∧ ∀ (r : Int32) (u : AH), PP r u → EX Z 4 (QI Z post) 22 u [some (.ref 94), some (.int x1), none, none] (.int r :: [])))
    : EX Z 4 (QI Z post) 0 h [some (.ref 94), some (.int x1), some (.int x2), none] [] := by
  refine ex_aload_n hX dX7_once_0 rfl rfl ?_
  refine ex_aload_n hX dX7_once_1 rfl rfl ?_
  refine ex_get hX (.int (h.1 94 23)) FL_7_118 rfl (fun _ => rfl) dX7_once_2 ?_
  refine ex_iload_n hX dX7_once_5 rfl rfl ?_
  refine ex_pIs (As := [.int (h.1 94 23), .int x1]) (st := [.ref 94]) hX (c_X7_has (h := h)) CS_7_121 MS_X7_has rfl (by decide) rfl (Nat.le_of_ble_eq_true rfl) dX7_once_6 ?_
  have kc1 : EX Z 4 (QI Z post) 17 h [some (.ref 94), some (.int x1), some (.int x2), none] [.int (bI (¬ (((h.1 94 23) >>> (x1 &&& 31)) &&& 1 = 1))), .ref 94] := by
    refine ex_iconst (v := 3) hX dX7_once_17 rfl ?_
    refine ex_iload_n hX dX7_once_18 rfl rfl ?_
    obtain ⟨PP, pM, pK⟩ := w
    exact ex_callIv (ci := 7) (i := 94) (As := [.int (bI (¬ (((h.1 94 23) >>> (x1 &&& 31)) &&& 1 = 1))), .int 3, .int x2]) (st := []) hX pM CS_7_106 MS_X7_want rfl rfl rfl (by decide) rfl (Nat.le_of_ble_eq_true rfl) dX7_once_19 (fun r u hp => ex_forget [some (.ref 94), some (.int x1), none, none] ⟨rfl, ⟨rfl, trivial⟩⟩ (pK r u hp))
  refine ex_ifneB hX 16 dX7_once_9 (by decide) (fun c1 => ?_) (fun c1 => ?_)
  · refine ex_iconst (v := 0) hX dX7_once_16 rfl ?_
    rw [show (bI (¬ (((h.1 94 23) >>> (x1 &&& 31)) &&& 1 = 1))) = 0 from bI_f (fun z => z c1)] at kc1
    exact ex_forget [some (.ref 94), some (.int x1), some (.int x2), none] ⟨rfl, ⟨rfl, ⟨rfl, trivial⟩⟩⟩ kc1
  · refine ex_iconst (v := 1) hX dX7_once_12 rfl ?_
    refine ex_goto hX 17 dX7_once_13 (by decide) ?_
    rw [show (bI (¬ (((h.1 94 23) >>> (x1 &&& 31)) &&& 1 = 1))) = 1 from bI_t c1] at kc1
    exact ex_forget [some (.ref 94), some (.int x1), some (.int x2), none] ⟨rfl, ⟨rfl, ⟨rfl, trivial⟩⟩⟩ kc1

set_option maxRecDepth 100000 in
set_option maxHeartbeats 4000000 in
theorem sg_X7_once_22 {Z : CX × GX} {post : Int32 → AH → Prop} {h : AH} {x1 : Int32} {s0 : Int32} (hX : OK Z RX7 cX7_once 4 (some .boolean) 1 23) 
    (w : (∀ u1 : AH, u1 = (hset h.1 94 23 ((h.1 94 23) ||| (1 <<< (x1 &&& 31))), h.2) → (narrow .boolean (.int s0) = .int s0) ∧ post s0 u1))
    : EX Z 4 (QI Z post) 22 h [some (.ref 94), some (.int x1), none, none] [.int s0] := by
  refine ex_istore_n (lv' := [some (.ref 94), some (.int x1), none, some (.int s0)]) hX dX7_once_22 rfl (by decide) rfl ?_
  refine ex_aload_n hX dX7_once_23 rfl rfl ?_
  refine ex_dup hX dX7_once_24 rfl ?_
  refine ex_get hX (.int (h.1 94 23)) FL_7_118 rfl (fun _ => rfl) dX7_once_25 ?_
  refine ex_iconst (v := 1) hX dX7_once_28 rfl ?_
  refine ex_iload_n hX dX7_once_29 rfl rfl ?_
  refine ex_ishl hX dX7_once_30 ?_
  refine ex_ior hX dX7_once_31 ?_
  refine ex_put hX .int FL_7_118 tyX7 tyX7_ok nmX7 rfl rfl rfl rfl rfl (fun _ => (by decide : 23 < 33)) (fun _ => fs_7_23) dX7_once_32 ?_
  refine ex_nameH (fun u1 eu1 => ?_)
  replace w := w u1 eu1
  refine ex_iload_n hX dX7_once_35 rfl rfl ?_
  obtain ⟨q2, w⟩ := w
  exact ex_iret hX dX7_once_36 q2 w

set_option maxRecDepth 100000 in
set_option maxHeartbeats 4000000 in
theorem sg_X7_takeHours_0 {Z : CX × GX} {post : AH → Prop} {h : AH} {x1 nx1 : Nat} {x2 : Int32} (hX : OK Z RX7 cX7_takeHours 6 none 2 50) (ax1 : ac x1 = some (0, nx1))
    (w : EX Z 6 (QV Z post) 16 h [some (.ref 94), some (.ref x1), some (.int x2), some (.int 0), some (.int (bI ((h.1 94 21) = 0))), none] [])
    : EX Z 6 (QV Z post) 0 h [some (.ref 94), some (.ref x1), some (.int x2), none, none, none] [] := by
  refine ex_iconst (v := 0) hX dX7_takeHours_0 rfl ?_
  refine ex_istore_n (lv' := [some (.ref 94), some (.ref x1), some (.int x2), some (.int 0), none, none]) hX dX7_takeHours_1 rfl (by decide) rfl ?_
  refine ex_aload_n hX dX7_takeHours_2 rfl rfl ?_
  refine ex_get hX (.int (h.1 94 21)) FL_7_85 rfl (fun _ => rfl) dX7_takeHours_3 ?_
  have kc1 : EX Z 6 (QV Z post) 14 h [some (.ref 94), some (.ref x1), some (.int x2), some (.int 0), none, none] [.int (bI ((h.1 94 21) = 0))] := by
    refine ex_istore (lv' := [some (.ref 94), some (.ref x1), some (.int x2), some (.int 0), some (.int (bI ((h.1 94 21) = 0))), none]) hX dX7_takeHours_14 (by decide) rfl ?_
    exact w
  refine ex_ifne hX 13 dX7_takeHours_6 (by decide) (fun c1 => ?_) (fun c1 => ?_)
  · refine ex_iconst (v := 0) hX dX7_takeHours_13 rfl ?_
    rw [show (bI ((h.1 94 21) = 0)) = 0 from bI_f c1] at kc1
    exact ex_forget [some (.ref 94), some (.ref x1), some (.int x2), some (.int 0), none, none] ⟨rfl, ⟨rfl, ⟨rfl, ⟨rfl, trivial⟩⟩⟩⟩ kc1
  · refine ex_iconst (v := 1) hX dX7_takeHours_9 rfl ?_
    refine ex_goto hX 14 dX7_takeHours_10 (by decide) ?_
    rw [show (bI ((h.1 94 21) = 0)) = 1 from bI_t c1] at kc1
    exact ex_forget [some (.ref 94), some (.ref x1), some (.int x2), some (.int 0), none, none] ⟨rfl, ⟨rfl, ⟨rfl, ⟨rfl, trivial⟩⟩⟩⟩ kc1

set_option maxRecDepth 100000 in
set_option maxHeartbeats 4000000 in
theorem sg_X7_takeHours_16 {Z : CX × GX} {post : AH → Prop} {h : AH} {x1 nx1 : Nat} {x2 : Int32} {x3 : Int32} {x4 : Int32} (hX : OK Z RX7 cX7_takeHours 6 none 2 50) (ax1 : ac x1 = some (0, nx1))
    (w : ((x4 = 0 → post h) ∧ (¬ x4 = 0 → (∃ PP : Int32 → AH → Prop, CI yX7_takeNumber cX7_takeNumber 6 (some .int) 1 25 [.ref 94, .int 0, .int x2] h PP ∧ ∀ (r : Int32) (u : AH), PP r u → EX Z 6 (QV Z post) 27 u [some (.ref 94), some (.ref x1), some (.int x2), some (.int x3), none, none] (.int r :: [])))))
    : EX Z 6 (QV Z post) 16 h [some (.ref 94), some (.ref x1), some (.int x2), some (.int x3), some (.int x4), none] [] := by
  refine ex_iload hX dX7_takeHours_16 rfl ?_
  refine ex_ifeq hX 115 dX7_takeHours_18 (by decide) (fun c1 => ?_) (fun c1 => ?_)
  · replace w := w.1 c1
    exact ex_vret hX dX7_takeHours_115 w
  · replace w := w.2 c1
    refine ex_aload_n hX dX7_takeHours_21 rfl rfl ?_
    refine ex_iconst (v := 0) hX dX7_takeHours_22 rfl ?_
    refine ex_iload_n hX dX7_takeHours_23 rfl rfl ?_
    obtain ⟨PP, pM, pK⟩ := w
    exact ex_callIv (ci := 7) (i := 94) (As := [.int 0, .int x2]) (st := []) hX pM CS_7_114 MS_X7_takeNumber rfl rfl rfl (by decide) rfl (Nat.le_of_ble_eq_true rfl) dX7_takeHours_24 (fun r u hp => ex_forget [some (.ref 94), some (.ref x1), some (.int x2), some (.int x3), none, none] ⟨rfl, ⟨rfl, ⟨rfl, ⟨rfl, trivial⟩⟩⟩⟩ (pK r u hp))

set_option maxRecDepth 100000 in
set_option maxHeartbeats 4000000 in
theorem sg_X7_takeHours_27 {Z : CX × GX} {post : AH → Prop} {h : AH} {x1 nx1 : Nat} {x2 : Int32} {x3 : Int32} {s0 : Int32} (hX : OK Z RX7 cX7_takeHours 6 none 2 50) (ax1 : ac x1 = some (0, nx1))
    (w : ((¬ (h.1 94 21) = 0 → EX Z 6 (QV Z post) 16 h [some (.ref 94), some (.ref x1), some (.int x2), some (.int x3), some (.int 0), none] []) ∧ ((h.1 94 21) = 0 → (∃ PP : Int32 → AH → Prop, CI yX7_want cX7_want 4 (some .boolean) 0 0 [.ref 94, .int (bI (¬ (24 ≤ x3))), .int 4, .int (h.1 94 19)] h PP ∧ ∀ (r : Int32) (u : AH), PP r u → EX Z 6 (QV Z post) 56 u [some (.ref 94), some (.ref x1), some (.int x2), some (.int x3), none, some (.int s0)] (.int r :: [])))))
    : EX Z 6 (QV Z post) 27 h [some (.ref 94), some (.ref x1), some (.int x2), some (.int x3), none, none] [.int s0] := by
  refine ex_istore (lv' := [some (.ref 94), some (.ref x1), some (.int x2), some (.int x3), none, some (.int s0)]) hX dX7_takeHours_27 (by decide) rfl ?_
  refine ex_aload_n hX dX7_takeHours_29 rfl rfl ?_
  refine ex_get hX (.int (h.1 94 21)) FL_7_85 rfl (fun _ => rfl) dX7_takeHours_30 ?_
  refine ex_ifne hX 63 dX7_takeHours_33 (by decide) (fun c1 => ?_) (fun c1 => ?_)
  · replace w := w.1 c1
    refine ex_iconst (v := 0) hX dX7_takeHours_63 rfl ?_
    refine ex_istore (lv' := [some (.ref 94), some (.ref x1), some (.int x2), some (.int x3), some (.int 0), some (.int s0)]) hX dX7_takeHours_64 (by decide) rfl ?_
    refine ex_iload hX dX7_takeHours_66 rfl ?_
    refine ex_ifeq hX 112 dX7_takeHours_68 (by decide) (fun _ => ?_) (fun z => absurd z (by decide))
    refine ex_goto hX 16 dX7_takeHours_112 (by decide) ?_
    exact ex_forget [some (.ref 94), some (.ref x1), some (.int x2), some (.int x3), some (.int 0), none] ⟨rfl, ⟨rfl, ⟨rfl, ⟨rfl, ⟨rfl, trivial⟩⟩⟩⟩⟩ w
  · replace w := w.2 c1
    refine ex_aload_n hX dX7_takeHours_36 rfl rfl ?_
    refine ex_iload_n hX dX7_takeHours_37 rfl rfl ?_
    refine ex_bipush (v := 24) hX dX7_takeHours_38 rfl ?_
    have kc2 : EX Z 6 (QV Z post) 48 h [some (.ref 94), some (.ref x1), some (.int x2), some (.int x3), none, some (.int s0)] [.int (bI (¬ (24 ≤ x3))), .ref 94] := by
      refine ex_iconst (v := 4) hX dX7_takeHours_48 rfl ?_
      refine ex_aload_n hX dX7_takeHours_49 rfl rfl ?_
      refine ex_get hX (.int (h.1 94 19)) FL_7_92 rfl (fun _ => rfl) dX7_takeHours_50 ?_
      obtain ⟨PP, pM, pK⟩ := w
      exact ex_callIv (ci := 7) (i := 94) (As := [.int (bI (¬ (24 ≤ x3))), .int 4, .int (h.1 94 19)]) (st := []) hX pM CS_7_106 MS_X7_want rfl rfl rfl (by decide) rfl (Nat.le_of_ble_eq_true rfl) dX7_takeHours_53 (fun r u hp => pK r u hp)
    refine ex_icmpge hX 47 dX7_takeHours_40 (by decide) (fun c2 => ?_) (fun c2 => ?_)
    · refine ex_iconst (v := 0) hX dX7_takeHours_47 rfl ?_
      rw [show (bI (¬ (24 ≤ x3))) = 0 from bI_f (fun z => z c2)] at kc2
      exact ex_forget [some (.ref 94), some (.ref x1), some (.int x2), some (.int x3), none, some (.int s0)] ⟨rfl, ⟨rfl, ⟨rfl, ⟨rfl, ⟨rfl, trivial⟩⟩⟩⟩⟩ kc2
    · refine ex_iconst (v := 1) hX dX7_takeHours_43 rfl ?_
      refine ex_goto hX 48 dX7_takeHours_44 (by decide) ?_
      rw [show (bI (¬ (24 ≤ x3))) = 1 from bI_t c2] at kc2
      exact ex_forget [some (.ref 94), some (.ref x1), some (.int x2), some (.int x3), none, some (.int s0)] ⟨rfl, ⟨rfl, ⟨rfl, ⟨rfl, ⟨rfl, trivial⟩⟩⟩⟩⟩ kc2

set_option maxRecDepth 100000 in
set_option maxHeartbeats 4000000 in
theorem sg_X7_takeHours_56 {Z : CX × GX} {post : AH → Prop} {h : AH} {x1 nx1 : Nat} {x2 : Int32} {x3 : Int32} {x5 : Int32} {s0 : Int32} (hX : OK Z RX7 cX7_takeHours 6 none 2 50) (ax1 : ac x1 = some (0, nx1))
    (w : ((¬ (¬ (s0 = 0)) → EX Z 6 (QV Z post) 16 h [some (.ref 94), some (.ref x1), some (.int x2), some (.int x3), some (.int (bI (¬ (s0 = 0)))), none] []) ∧ ((¬ (s0 = 0)) → (vp_in (24 + x3) nx1) ∧ (∀ u4 : AH, u4 = (hset h.1 x1 (Int32.toNatClampNeg (24 + x3)) x5, h.2) → (∃ PP : Int32 → AH → Prop, CI yX7_here cX7_here 1 (some .int) 0 0 [.ref 94] u4 PP ∧ ∀ (r : Int32) (u : AH), PP r u → EX Z 6 (QV Z post) 86 u [some (.ref 94), some (.ref x1), some (.int x2), some (.int (x3 + 1)), none, none] (.int r :: []))))))
    : EX Z 6 (QV Z post) 56 h [some (.ref 94), some (.ref x1), some (.int x2), some (.int x3), none, some (.int x5)] [.int s0] := by
  have kc1 : EX Z 6 (QV Z post) 64 h [some (.ref 94), some (.ref x1), some (.int x2), some (.int x3), none, some (.int x5)] [.int (bI (¬ (s0 = 0)))] := by
    refine ex_istore (lv' := [some (.ref 94), some (.ref x1), some (.int x2), some (.int x3), some (.int (bI (¬ (s0 = 0)))), some (.int x5)]) hX dX7_takeHours_64 (by decide) rfl ?_
    refine ex_iload hX dX7_takeHours_66 rfl ?_
    refine ex_ifeqB hX 112 dX7_takeHours_68 (by decide) (fun c2 => ?_) (fun c2 => ?_)
    · replace w := w.1 c2
      refine ex_goto hX 16 dX7_takeHours_112 (by decide) ?_
      exact ex_forget [some (.ref 94), some (.ref x1), some (.int x2), some (.int x3), some (.int (bI (¬ (s0 = 0)))), none] ⟨rfl, ⟨rfl, ⟨rfl, ⟨rfl, ⟨rfl, trivial⟩⟩⟩⟩⟩ w
    · replace w := w.2 c2
      refine ex_aload_n hX dX7_takeHours_71 rfl rfl ?_
      refine ex_bipush (v := 24) hX dX7_takeHours_72 rfl ?_
      refine ex_iload_n hX dX7_takeHours_74 rfl rfl ?_
      refine ex_iadd hX dX7_takeHours_75 ?_
      refine ex_iload hX dX7_takeHours_76 rfl ?_
      obtain ⟨q3, w⟩ := w
      refine ex_iast hX ax1 q3 dX7_takeHours_78 ?_
      refine ex_nameH (fun u4 eu4 => ?_)
      replace w := w u4 eu4
      refine ex_iinc (v := x3 + 1) (lv' := [some (.ref 94), some (.ref x1), some (.int x2), some (.int (x3 + 1)), some (.int (bI (¬ (s0 = 0)))), some (.int x5)]) hX dX7_takeHours_79 rfl rfl (by decide) rfl ?_
      refine ex_aload_n hX dX7_takeHours_82 rfl rfl ?_
      obtain ⟨PP, pM, pK⟩ := w
      exact ex_callIv (ci := 7) (i := 94) (As := []) (st := []) hX pM CS_7_88 MS_X7_here rfl rfl rfl (by decide) rfl (Nat.le_of_ble_eq_true rfl) dX7_takeHours_83 (fun r u hp => ex_forget [some (.ref 94), some (.ref x1), some (.int x2), some (.int (x3 + 1)), none, none] ⟨rfl, ⟨rfl, ⟨rfl, ⟨rfl, trivial⟩⟩⟩⟩ (pK r u hp))
  refine ex_ifeq hX 63 dX7_takeHours_56 (by decide) (fun c1 => ?_) (fun c1 => ?_)
  · refine ex_iconst (v := 0) hX dX7_takeHours_63 rfl ?_
    rw [show (bI (¬ (s0 = 0))) = 0 from bI_f (fun z => z c1)] at kc1
    exact ex_forget [some (.ref 94), some (.ref x1), some (.int x2), some (.int x3), none, some (.int x5)] ⟨rfl, ⟨rfl, ⟨rfl, ⟨rfl, ⟨rfl, trivial⟩⟩⟩⟩⟩ kc1
  · refine ex_iconst (v := 1) hX dX7_takeHours_59 rfl ?_
    refine ex_goto hX 64 dX7_takeHours_60 (by decide) ?_
    rw [show (bI (¬ (s0 = 0))) = 1 from bI_t c1] at kc1
    exact ex_forget [some (.ref 94), some (.ref x1), some (.int x2), some (.int x3), none, some (.int x5)] ⟨rfl, ⟨rfl, ⟨rfl, ⟨rfl, ⟨rfl, trivial⟩⟩⟩⟩⟩ kc1

set_option maxRecDepth 100000 in
set_option maxHeartbeats 4000000 in
theorem sg_X7_takeHours_86 {Z : CX × GX} {post : AH → Prop} {h : AH} {x1 nx1 : Nat} {x2 : Int32} {x3 : Int32} {s0 : Int32} (hX : OK Z RX7 cX7_takeHours 6 none 2 50) (ax1 : ac x1 = some (0, nx1))
    (w : (∀ u2 : AH, u2 = (hset h.1 94 18 ((h.1 94 18) + (bI (s0 = 44))), h.2) → EX Z 6 (QV Z post) 16 u2 [some (.ref 94), some (.ref x1), some (.int x2), some (.int x3), some (.int (bI (s0 = 44))), none] []))
    : EX Z 6 (QV Z post) 86 h [some (.ref 94), some (.ref x1), some (.int x2), some (.int x3), none, none] [.int s0] := by
  refine ex_bipush (v := 44) hX dX7_takeHours_86 rfl ?_
  have kc1 : EX Z 6 (QV Z post) 96 h [some (.ref 94), some (.ref x1), some (.int x2), some (.int x3), none, none] [.int (bI (s0 = 44))] := by
    refine ex_istore (lv' := [some (.ref 94), some (.ref x1), some (.int x2), some (.int x3), some (.int (bI (s0 = 44))), none]) hX dX7_takeHours_96 (by decide) rfl ?_
    refine ex_aload_n hX dX7_takeHours_98 rfl rfl ?_
    refine ex_dup hX dX7_takeHours_99 rfl ?_
    refine ex_get hX (.int (h.1 94 18)) FL_7_82 rfl (fun _ => rfl) dX7_takeHours_100 ?_
    refine ex_iload hX dX7_takeHours_103 rfl ?_
    refine ex_pIs (As := [.int (bI (s0 = 44))]) (st := [.int (h.1 94 18), .ref 94]) hX (c_X7_oneB (h := h)) CS_7_125 MS_X7_one rfl (by decide) rfl (Nat.le_of_ble_eq_true rfl) dX7_takeHours_105 ?_
    refine ex_iadd hX dX7_takeHours_108 ?_
    refine ex_put hX .int FL_7_82 tyX7 tyX7_ok nmX7 rfl rfl rfl rfl rfl (fun _ => (by decide : 18 < 33)) (fun _ => fs_7_18) dX7_takeHours_109 ?_
    refine ex_nameH (fun u2 eu2 => ?_)
    replace w := w u2 eu2
    refine ex_goto hX 16 dX7_takeHours_112 (by decide) ?_
    exact w
  refine ex_icmpne hX 95 dX7_takeHours_88 (by decide) (fun c1 => ?_) (fun c1 => ?_)
  · refine ex_iconst (v := 0) hX dX7_takeHours_95 rfl ?_
    rw [show (bI (s0 = 44)) = 0 from bI_f c1] at kc1
    exact ex_forget [some (.ref 94), some (.ref x1), some (.int x2), some (.int x3), none, none] ⟨rfl, ⟨rfl, ⟨rfl, ⟨rfl, trivial⟩⟩⟩⟩ kc1
  · refine ex_iconst (v := 1) hX dX7_takeHours_91 rfl ?_
    refine ex_goto hX 96 dX7_takeHours_92 (by decide) ?_
    rw [show (bI (s0 = 44)) = 1 from bI_t c1] at kc1
    exact ex_forget [some (.ref 94), some (.ref x1), some (.int x2), some (.int x3), none, none] ⟨rfl, ⟨rfl, ⟨rfl, ⟨rfl, trivial⟩⟩⟩⟩ kc1

set_option maxRecDepth 100000 in
set_option maxHeartbeats 4000000 in
theorem sg_X7_takeGate_0 {Z : CX × GX} {post : AH → Prop} {h : AH}  (hX : OK Z RX7 cX7_takeGate 2 none 2 50) 
    (w : (∃ PP : Int32 → AH → Prop, CI yX7_takeNumber cX7_takeNumber 6 (some .int) 1 25 [.ref 94, .int 0, .int ((h.1 94 10) - 1)] h PP ∧ ∀ (r : Int32) (u : AH), PP r u → EX Z 2 (QV Z post) 11 u [some (.ref 94), none] (.int r :: [])))
    : EX Z 2 (QV Z post) 0 h [some (.ref 94), none] [] := by
  refine ex_aload_n hX dX7_takeGate_0 rfl rfl ?_
  refine ex_iconst (v := 0) hX dX7_takeGate_1 rfl ?_
  refine ex_aload_n hX dX7_takeGate_2 rfl rfl ?_
  refine ex_get hX (.int (h.1 94 10)) FL_7_111 rfl (fun _ => rfl) dX7_takeGate_3 ?_
  refine ex_iconst (v := 1) hX dX7_takeGate_6 rfl ?_
  refine ex_isub hX dX7_takeGate_7 ?_
  obtain ⟨PP, pM, pK⟩ := w
  exact ex_callIv (ci := 7) (i := 94) (As := [.int 0, .int ((h.1 94 10) - 1)]) (st := []) hX pM CS_7_114 MS_X7_takeNumber rfl rfl rfl (by decide) rfl (Nat.le_of_ble_eq_true rfl) dX7_takeGate_8 (fun r u hp => pK r u hp)

set_option maxRecDepth 100000 in
set_option maxHeartbeats 4000000 in
theorem sg_X7_takeGate_11 {Z : CX × GX} {post : AH → Prop} {h : AH} {s0 : Int32} (hX : OK Z RX7 cX7_takeGate 2 none 2 50) 
    (w : ((¬ (h.1 94 21) = 0 → post h) ∧ ((h.1 94 21) = 0 → (∃ PP : Int32 → AH → Prop, CI yX7_want cX7_want 4 (some .boolean) 0 0 [.ref 94, .int (bI (¬ (((h.1 94 24) >>> (s0 &&& 31)) &&& 1 = 1))), .int 3, .int (h.1 94 19)] h PP ∧ ∀ (r : Int32) (u : AH), PP r u → EX Z 2 (QV Z post) 44 u [some (.ref 94), some (.int s0)] (.int r :: [])))))
    : EX Z 2 (QV Z post) 11 h [some (.ref 94), none] [.int s0] := by
  refine ex_istore_n (lv' := [some (.ref 94), some (.int s0)]) hX dX7_takeGate_11 rfl (by decide) rfl ?_
  refine ex_aload_n hX dX7_takeGate_12 rfl rfl ?_
  refine ex_get hX (.int (h.1 94 21)) FL_7_85 rfl (fun _ => rfl) dX7_takeGate_13 ?_
  refine ex_ifne hX 91 dX7_takeGate_16 (by decide) (fun c1 => ?_) (fun c1 => ?_)
  · replace w := w.1 c1
    exact ex_vret hX dX7_takeGate_91 w
  · replace w := w.2 c1
    refine ex_aload_n hX dX7_takeGate_19 rfl rfl ?_
    refine ex_aload_n hX dX7_takeGate_20 rfl rfl ?_
    refine ex_get hX (.int (h.1 94 24)) FL_7_129 rfl (fun _ => rfl) dX7_takeGate_21 ?_
    refine ex_iload_n hX dX7_takeGate_24 rfl rfl ?_
    refine ex_pIs (As := [.int (h.1 94 24), .int s0]) (st := [.ref 94]) hX (c_X7_has (h := h)) CS_7_121 MS_X7_has rfl (by decide) rfl (Nat.le_of_ble_eq_true rfl) dX7_takeGate_25 ?_
    have kc2 : EX Z 2 (QV Z post) 36 h [some (.ref 94), some (.int s0)] [.int (bI (¬ (((h.1 94 24) >>> (s0 &&& 31)) &&& 1 = 1))), .ref 94] := by
      refine ex_iconst (v := 3) hX dX7_takeGate_36 rfl ?_
      refine ex_aload_n hX dX7_takeGate_37 rfl rfl ?_
      refine ex_get hX (.int (h.1 94 19)) FL_7_92 rfl (fun _ => rfl) dX7_takeGate_38 ?_
      obtain ⟨PP, pM, pK⟩ := w
      exact ex_callIv (ci := 7) (i := 94) (As := [.int (bI (¬ (((h.1 94 24) >>> (s0 &&& 31)) &&& 1 = 1))), .int 3, .int (h.1 94 19)]) (st := []) hX pM CS_7_106 MS_X7_want rfl rfl rfl (by decide) rfl (Nat.le_of_ble_eq_true rfl) dX7_takeGate_41 (fun r u hp => pK r u hp)
    refine ex_ifneB hX 35 dX7_takeGate_28 (by decide) (fun c2 => ?_) (fun c2 => ?_)
    · refine ex_iconst (v := 0) hX dX7_takeGate_35 rfl ?_
      rw [show (bI (¬ (((h.1 94 24) >>> (s0 &&& 31)) &&& 1 = 1))) = 0 from bI_f (fun z => z c2)] at kc2
      exact ex_forget [some (.ref 94), some (.int s0)] ⟨rfl, ⟨rfl, trivial⟩⟩ kc2
    · refine ex_iconst (v := 1) hX dX7_takeGate_31 rfl ?_
      refine ex_goto hX 36 dX7_takeGate_32 (by decide) ?_
      rw [show (bI (¬ (((h.1 94 24) >>> (s0 &&& 31)) &&& 1 = 1))) = 1 from bI_t c2] at kc2
      exact ex_forget [some (.ref 94), some (.int s0)] ⟨rfl, ⟨rfl, trivial⟩⟩ kc2

set_option maxRecDepth 100000 in
set_option maxHeartbeats 4000000 in
theorem sg_X7_takeGate_44 {Z : CX × GX} {post : AH → Prop} {h : AH} {x1 : Int32} {s0 : Int32} (hX : OK Z RX7 cX7_takeGate 2 none 2 50) 
    (w : ((s0 = 0 → post h) ∧ (¬ s0 = 0 → (∀ u2 : AH, u2 = (hset h.1 94 24 ((h.1 94 24) ||| (1 <<< (x1 &&& 31))), h.2) → (∃ PP : Int32 → AH → Prop, CI yX7_takeNumber cX7_takeNumber 6 (some .int) 1 25 [.ref 94, .int 0, .int 9] u2 PP ∧ ∀ (r : Int32) (u : AH), PP r u → EX Z 2 (QV Z post) 74 u [some (.ref 94), some (.int x1)] (.int r :: [.int (10 + x1), .ref 102]))))))
    : EX Z 2 (QV Z post) 44 h [some (.ref 94), some (.int x1)] [.int s0] := by
  refine ex_ifeq hX 91 dX7_takeGate_44 (by decide) (fun c1 => ?_) (fun c1 => ?_)
  · replace w := w.1 c1
    exact ex_vret hX dX7_takeGate_91 w
  · replace w := w.2 c1
    refine ex_aload_n hX dX7_takeGate_47 rfl rfl ?_
    refine ex_dup hX dX7_takeGate_48 rfl ?_
    refine ex_get hX (.int (h.1 94 24)) FL_7_129 rfl (fun _ => rfl) dX7_takeGate_49 ?_
    refine ex_iconst (v := 1) hX dX7_takeGate_52 rfl ?_
    refine ex_iload_n hX dX7_takeGate_53 rfl rfl ?_
    refine ex_ishl hX dX7_takeGate_54 ?_
    refine ex_ior hX dX7_takeGate_55 ?_
    refine ex_put hX .int FL_7_129 tyX7 tyX7_ok nmX7 rfl rfl rfl rfl rfl (fun _ => (by decide : 24 < 33)) (fun _ => fs_7_24) dX7_takeGate_56 ?_
    refine ex_nameH (fun u2 eu2 => ?_)
    replace w := w u2 eu2
    refine ex_aload_n hX dX7_takeGate_59 rfl rfl ?_
    refine ex_get hX (.ref 102) FL_7_32 rfl (fun _ => rfl) dX7_takeGate_60 ?_
    refine ex_bipush (v := 10) hX dX7_takeGate_63 rfl ?_
    refine ex_iload_n hX dX7_takeGate_65 rfl rfl ?_
    refine ex_iadd hX dX7_takeGate_66 ?_
    refine ex_aload_n hX dX7_takeGate_67 rfl rfl ?_
    refine ex_iconst (v := 0) hX dX7_takeGate_68 rfl ?_
    refine ex_bipush (v := 9) hX dX7_takeGate_69 rfl ?_
    obtain ⟨PP, pM, pK⟩ := w
    exact ex_callIv (ci := 7) (i := 94) (As := [.int 0, .int 9]) (st := [.int (10 + x1), .ref 102]) hX pM CS_7_114 MS_X7_takeNumber rfl rfl rfl (by decide) rfl (Nat.le_of_ble_eq_true rfl) dX7_takeGate_71 (fun r u hp => pK r u hp)

set_option maxRecDepth 100000 in
set_option maxHeartbeats 4000000 in
theorem sg_X7_takeGate_74 {Z : CX × GX} {post : AH → Prop} {h : AH} {x1 : Int32} {s0 : Int32} {s1 : Int32} {s2 ns2 : Nat} (hX : OK Z RX7 cX7_takeGate 2 none 2 50) (as2 : ac s2 = some (0, ns2))
    (w : (vp_in s1 ns2) ∧ (∀ u2 : AH, u2 = (hset h.1 s2 (Int32.toNatClampNeg s1) s0, h.2) → (∃ PP : Int32 → AH → Prop, CI yX7_takeNumber cX7_takeNumber 6 (some .int) 1 25 [.ref 94, .int 0, .int 99] u2 PP ∧ ∀ (r : Int32) (u : AH), PP r u → EX Z 2 (QV Z post) 90 u [none, none] (.int r :: [.int (10 + x1), .ref 103]))))
    : EX Z 2 (QV Z post) 74 h [some (.ref 94), some (.int x1)] [.int s0, .int s1, .ref s2] := by
  obtain ⟨q1, w⟩ := w
  refine ex_iast hX as2 q1 dX7_takeGate_74 ?_
  refine ex_nameH (fun u2 eu2 => ?_)
  replace w := w u2 eu2
  refine ex_aload_n hX dX7_takeGate_75 rfl rfl ?_
  refine ex_get hX (.ref 103) FL_7_35 rfl (fun _ => rfl) dX7_takeGate_76 ?_
  refine ex_bipush (v := 10) hX dX7_takeGate_79 rfl ?_
  refine ex_iload_n hX dX7_takeGate_81 rfl rfl ?_
  refine ex_iadd hX dX7_takeGate_82 ?_
  refine ex_aload_n hX dX7_takeGate_83 rfl rfl ?_
  refine ex_iconst (v := 0) hX dX7_takeGate_84 rfl ?_
  refine ex_bipush (v := 99) hX dX7_takeGate_85 rfl ?_
  obtain ⟨PP, pM, pK⟩ := w
  exact ex_callIv (ci := 7) (i := 94) (As := [.int 0, .int 99]) (st := [.int (10 + x1), .ref 103]) hX pM CS_7_114 MS_X7_takeNumber rfl rfl rfl (by decide) rfl (Nat.le_of_ble_eq_true rfl) dX7_takeGate_87 (fun r u hp => ex_forget [none, none] trivial (pK r u hp))

set_option maxRecDepth 100000 in
set_option maxHeartbeats 4000000 in
theorem sg_X7_takeGate_90 {Z : CX × GX} {post : AH → Prop} {h : AH} {s0 : Int32} {s1 : Int32} {s2 ns2 : Nat} (hX : OK Z RX7 cX7_takeGate 2 none 2 50) (as2 : ac s2 = some (0, ns2))
    (w : (vp_in s1 ns2) ∧ (∀ u2 : AH, u2 = (hset h.1 s2 (Int32.toNatClampNeg s1) s0, h.2) → post u2))
    : EX Z 2 (QV Z post) 90 h [none, none] [.int s0, .int s1, .ref s2] := by
  obtain ⟨q1, w⟩ := w
  refine ex_iast hX as2 q1 dX7_takeGate_90 ?_
  refine ex_nameH (fun u2 eu2 => ?_)
  replace w := w u2 eu2
  exact ex_vret hX dX7_takeGate_91 w

set_option maxRecDepth 100000 in
set_option maxHeartbeats 4000000 in
theorem sg_X7_takeClause_0 {Z : CX × GX} {post : AH → Prop} {h : AH}  (hX : OK Z RX7 cX7_takeClause 4 none 3 75) 
    (w : (∃ PP : AH → Prop, CV yX7_takeWord cX7_takeWord 2 1 25 [.ref 94] h PP ∧ ∀ u : AH, PP u → EX Z 4 (QV Z post) 4 u [some (.ref 94), none, none, none] []))
    : EX Z 4 (QV Z post) 0 h [some (.ref 94), none, none, none] [] := by
  refine ex_aload_n hX dX7_takeClause_0 rfl rfl ?_
  obtain ⟨PP, pM, pK⟩ := w
  exact ex_callVv (ci := 7) (i := 94) (As := []) (st := []) hX pM CS_7_132 MS_X7_takeWord rfl rfl rfl (by decide) rfl (Nat.le_of_ble_eq_true rfl) dX7_takeClause_1 (fun u hp => pK u hp)

set_option maxRecDepth 100000 in
set_option maxHeartbeats 4000000 in
theorem sg_X7_takeClause_4 {Z : CX × GX} {post : AH → Prop} {h : AH}  (hX : OK Z RX7 cX7_takeClause 4 none 3 75) 
    (w : (∃ PP : Int32 → AH → Prop, CI yX7_isWord cX7_isWord 8 (some .boolean) 0 0 [.ref 94, .int 4, .int 108, .int 97, .int 107, .int 101] h PP ∧ ∀ (r : Int32) (u : AH), PP r u → EX Z 4 (QV Z post) 22 u [some (.ref 94), some (.int (h.1 94 19)), none, none] (.int r :: [])))
    : EX Z 4 (QV Z post) 4 h [some (.ref 94), none, none, none] [] := by
  refine ex_aload_n hX dX7_takeClause_4 rfl rfl ?_
  refine ex_get hX (.int (h.1 94 19)) FL_7_92 rfl (fun _ => rfl) dX7_takeClause_5 ?_
  refine ex_istore_n (lv' := [some (.ref 94), some (.int (h.1 94 19)), none, none]) hX dX7_takeClause_8 rfl (by decide) rfl ?_
  refine ex_aload_n hX dX7_takeClause_9 rfl rfl ?_
  refine ex_iconst (v := 4) hX dX7_takeClause_10 rfl ?_
  refine ex_bipush (v := 108) hX dX7_takeClause_11 rfl ?_
  refine ex_bipush (v := 97) hX dX7_takeClause_13 rfl ?_
  refine ex_bipush (v := 107) hX dX7_takeClause_15 rfl ?_
  refine ex_bipush (v := 101) hX dX7_takeClause_17 rfl ?_
  obtain ⟨PP, pM, pK⟩ := w
  exact ex_callIv (ci := 7) (i := 94) (As := [.int 4, .int 108, .int 97, .int 107, .int 101]) (st := []) hX pM CS_7_135 MS_X7_isWord rfl rfl rfl (by decide) rfl (Nat.le_of_ble_eq_true rfl) dX7_takeClause_19 (fun r u hp => pK r u hp)

set_option maxRecDepth 100000 in
set_option maxHeartbeats 4000000 in
theorem sg_X7_takeClause_22 {Z : CX × GX} {post : AH → Prop} {h : AH} {x1 : Int32} {s0 : Int32} (hX : OK Z RX7 cX7_takeClause 4 none 3 75) 
    (w : (∃ PP : Int32 → AH → Prop, CI yX7_isWord cX7_isWord 8 (some .boolean) 0 0 [.ref 94, .int 4, .int 112, .int 111, .int 110, .int 100] h PP ∧ ∀ (r : Int32) (u : AH), PP r u → EX Z 4 (QV Z post) 36 u [some (.ref 94), some (.int x1), some (.int s0), none] (.int r :: [])))
    : EX Z 4 (QV Z post) 22 h [some (.ref 94), some (.int x1), none, none] [.int s0] := by
  refine ex_istore_n (lv' := [some (.ref 94), some (.int x1), some (.int s0), none]) hX dX7_takeClause_22 rfl (by decide) rfl ?_
  refine ex_aload_n hX dX7_takeClause_23 rfl rfl ?_
  refine ex_iconst (v := 4) hX dX7_takeClause_24 rfl ?_
  refine ex_bipush (v := 112) hX dX7_takeClause_25 rfl ?_
  refine ex_bipush (v := 111) hX dX7_takeClause_27 rfl ?_
  refine ex_bipush (v := 110) hX dX7_takeClause_29 rfl ?_
  refine ex_bipush (v := 100) hX dX7_takeClause_31 rfl ?_
  obtain ⟨PP, pM, pK⟩ := w
  exact ex_callIv (ci := 7) (i := 94) (As := [.int 4, .int 112, .int 111, .int 110, .int 100]) (st := []) hX pM CS_7_135 MS_X7_isWord rfl rfl rfl (by decide) rfl (Nat.le_of_ble_eq_true rfl) dX7_takeClause_33 (fun r u hp => pK r u hp)

set_option maxRecDepth 100000 in
set_option maxHeartbeats 4000000 in
theorem sg_X7_takeClause_36 {Z : CX × GX} {post : AH → Prop} {h : AH} {x1 : Int32} {x2 : Int32} {s0 : Int32} (hX : OK Z RX7 cX7_takeClause 4 none 3 75) 
    (w : (∀ v3 : Int32, v3 = (if x2 = 0 then ((bI (¬ ((h.1 94 10) ≤ 0))) : Int32) else 1) → (∃ PP : Int32 → AH → Prop, CI yX7_want cX7_want 4 (some .boolean) 0 0 [.ref 94, .int v3, .int 1, .int x1] h PP ∧ ∀ (r : Int32) (u : AH), PP r u → EX Z 4 (QV Z post) 59 u [some (.ref 94), some (.int x1), some (.int x2), some (.int s0)] (.int r :: []))))
    : EX Z 4 (QV Z post) 36 h [some (.ref 94), some (.int x1), some (.int x2), none] [.int s0] := by
  refine ex_istore_n (lv' := [some (.ref 94), some (.int x1), some (.int x2), some (.int s0)]) hX dX7_takeClause_36 rfl (by decide) rfl ?_
  refine ex_aload_n hX dX7_takeClause_37 rfl rfl ?_
  refine ex_iload_n hX dX7_takeClause_38 rfl rfl ?_
  have kc1 : EX Z 4 (QV Z post) 54 h [some (.ref 94), some (.int x1), some (.int x2), some (.int s0)] [.int (if x2 = 0 then ((bI (¬ ((h.1 94 10) ≤ 0))) : Int32) else 1), .ref 94] := by
    refine ex_nameI (fun v3 ev3 => ?_)
    replace w := w v3 ev3
    refine ex_iconst (v := 1) hX dX7_takeClause_54 rfl ?_
    refine ex_iload_n hX dX7_takeClause_55 rfl rfl ?_
    obtain ⟨PP, pM, pK⟩ := w
    exact ex_callIv (ci := 7) (i := 94) (As := [.int v3, .int 1, .int x1]) (st := []) hX pM CS_7_106 MS_X7_want rfl rfl rfl (by decide) rfl (Nat.le_of_ble_eq_true rfl) dX7_takeClause_56 (fun r u hp => pK r u hp)
  refine ex_ifne hX 49 dX7_takeClause_39 (by decide) (fun c1 => ?_) (fun c1 => ?_)
  · refine ex_iconst (v := 1) hX dX7_takeClause_49 rfl ?_
    refine ex_goto hX 54 dX7_takeClause_50 (by decide) ?_
    rw [show (if x2 = 0 then ((bI (¬ ((h.1 94 10) ≤ 0))) : Int32) else 1) = 1 from if_neg c1] at kc1
    exact ex_forget [some (.ref 94), some (.int x1), some (.int x2), some (.int s0)] ⟨rfl, ⟨rfl, ⟨rfl, ⟨rfl, trivial⟩⟩⟩⟩ kc1
  · refine ex_aload_n hX dX7_takeClause_42 rfl rfl ?_
    refine ex_get hX (.int (h.1 94 10)) FL_7_111 rfl (fun _ => rfl) dX7_takeClause_43 ?_
    have kc2 : EX Z 4 (QV Z post) 54 h [some (.ref 94), some (.int x1), some (.int x2), some (.int s0)] [.int (bI (¬ ((h.1 94 10) ≤ 0))), .ref 94] := by
      rw [show (if x2 = 0 then ((bI (¬ ((h.1 94 10) ≤ 0))) : Int32) else 1) = (bI (¬ ((h.1 94 10) ≤ 0))) from if_pos c1] at kc1
      exact ex_forget [some (.ref 94), some (.int x1), some (.int x2), some (.int s0)] ⟨rfl, ⟨rfl, ⟨rfl, ⟨rfl, trivial⟩⟩⟩⟩ kc1
    refine ex_ifle hX 53 dX7_takeClause_46 (by decide) (fun c2 => ?_) (fun c2 => ?_)
    · refine ex_iconst (v := 0) hX dX7_takeClause_53 rfl ?_
      rw [show (bI (¬ ((h.1 94 10) ≤ 0))) = 0 from bI_f (fun z => z c2)] at kc2
      exact ex_forget [some (.ref 94), some (.int x1), some (.int x2), some (.int s0)] ⟨rfl, ⟨rfl, ⟨rfl, ⟨rfl, trivial⟩⟩⟩⟩ kc2
    · refine ex_iconst (v := 1) hX dX7_takeClause_49 rfl ?_
      refine ex_goto hX 54 dX7_takeClause_50 (by decide) ?_
      rw [show (bI (¬ ((h.1 94 10) ≤ 0))) = 1 from bI_t c2] at kc2
      exact ex_forget [some (.ref 94), some (.int x1), some (.int x2), some (.int s0)] ⟨rfl, ⟨rfl, ⟨rfl, ⟨rfl, trivial⟩⟩⟩⟩ kc2

set_option maxRecDepth 100000 in
set_option maxHeartbeats 4000000 in
theorem sg_X7_takeClause_59 {Z : CX × GX} {post : AH → Prop} {h : AH} {x1 : Int32} {x2 : Int32} {x3 : Int32} {s0 : Int32} (hX : OK Z RX7 cX7_takeClause 4 none 3 75) 
    (w : ((s0 = 0 → (∃ PP : AH → Prop, CV yX7_takeEnd cX7_takeEnd 1 1 23 [.ref 94] h PP ∧ ∀ u : AH, PP u → EX Z 4 (QV Z post) 270 u [none, none, none, none] [])) ∧ (¬ s0 = 0 → ((x2 = 0 → ((x3 = 0 → (∃ PP : Int32 → AH → Prop, CI yX7_isWord cX7_isWord 8 (some .boolean) 0 0 [.ref 94, .int 4, .int 114, .int 97, .int 105, .int 110] h PP ∧ ∀ (r : Int32) (u : AH), PP r u → EX Z 4 (QV Z post) 166 u [some (.ref 94), some (.int x1), none, none] (.int r :: []))) ∧ (¬ x3 = 0 → (∃ PP : Int32 → AH → Prop, CI yX7_want cX7_want 4 (some .boolean) 0 0 [.ref 94, .int (bI (¬ (((h.1 94 23) >>> (2 &&& 31)) &&& 1 = 1))), .int 1, .int x1] h PP ∧ ∀ (r : Int32) (u : AH), PP r u → EX Z 4 (QV Z post) 120 u [some (.ref 94), some (.int x1), none, none] (.int r :: []))))) ∧ (¬ x2 = 0 → (∃ PP : Int32 → AH → Prop, CI yX7_want cX7_want 4 (some .boolean) 0 0 [.ref 94, .int (bI ((h.1 94 10) = 0)), .int 3, .int x1] h PP ∧ ∀ (r : Int32) (u : AH), PP r u → EX Z 4 (QV Z post) 84 u [some (.ref 94), none, none, none] (.int r :: [])))))))
    : EX Z 4 (QV Z post) 59 h [some (.ref 94), some (.int x1), some (.int x2), some (.int x3)] [.int s0] := by
  refine ex_ifeq hX 266 dX7_takeClause_59 (by decide) (fun c1 => ?_) (fun c1 => ?_)
  · replace w := w.1 c1
    refine ex_aload_n hX dX7_takeClause_266 rfl rfl ?_
    obtain ⟨PP, pM, pK⟩ := w
    exact ex_callVv (ci := 7) (i := 94) (As := []) (st := []) hX pM CS_7_152 MS_X7_takeEnd rfl rfl rfl (by decide) rfl (Nat.le_of_ble_eq_true rfl) dX7_takeClause_267 (fun u hp => ex_forget [none, none, none, none] trivial (pK u hp))
  · replace w := w.2 c1
    refine ex_iload_n hX dX7_takeClause_62 rfl rfl ?_
    refine ex_ifeq hX 94 dX7_takeClause_63 (by decide) (fun c2 => ?_) (fun c2 => ?_)
    · replace w := w.1 c2
      refine ex_iload_n hX dX7_takeClause_94 rfl rfl ?_
      refine ex_ifeq hX 153 dX7_takeClause_95 (by decide) (fun c3 => ?_) (fun c3 => ?_)
      · replace w := w.1 c3
        refine ex_aload_n hX dX7_takeClause_153 rfl rfl ?_
        refine ex_iconst (v := 4) hX dX7_takeClause_154 rfl ?_
        refine ex_bipush (v := 114) hX dX7_takeClause_155 rfl ?_
        refine ex_bipush (v := 97) hX dX7_takeClause_157 rfl ?_
        refine ex_bipush (v := 105) hX dX7_takeClause_159 rfl ?_
        refine ex_bipush (v := 110) hX dX7_takeClause_161 rfl ?_
        obtain ⟨PP, pM, pK⟩ := w
        exact ex_callIv (ci := 7) (i := 94) (As := [.int 4, .int 114, .int 97, .int 105, .int 110]) (st := []) hX pM CS_7_135 MS_X7_isWord rfl rfl rfl (by decide) rfl (Nat.le_of_ble_eq_true rfl) dX7_takeClause_163 (fun r u hp => ex_forget [some (.ref 94), some (.int x1), none, none] ⟨rfl, ⟨rfl, trivial⟩⟩ (pK r u hp))
      · replace w := w.2 c3
        refine ex_aload_n hX dX7_takeClause_98 rfl rfl ?_
        refine ex_aload_n hX dX7_takeClause_99 rfl rfl ?_
        refine ex_get hX (.int (h.1 94 23)) FL_7_118 rfl (fun _ => rfl) dX7_takeClause_100 ?_
        refine ex_iconst (v := 2) hX dX7_takeClause_103 rfl ?_
        refine ex_pIs (As := [.int (h.1 94 23), .int 2]) (st := [.ref 94]) hX (c_X7_has (h := h)) CS_7_121 MS_X7_has rfl (by decide) rfl (Nat.le_of_ble_eq_true rfl) dX7_takeClause_104 ?_
        have kc4 : EX Z 4 (QV Z post) 115 h [some (.ref 94), some (.int x1), none, none] [.int (bI (¬ (((h.1 94 23) >>> (2 &&& 31)) &&& 1 = 1))), .ref 94] := by
          refine ex_iconst (v := 1) hX dX7_takeClause_115 rfl ?_
          refine ex_iload_n hX dX7_takeClause_116 rfl rfl ?_
          obtain ⟨PP, pM, pK⟩ := w
          exact ex_callIv (ci := 7) (i := 94) (As := [.int (bI (¬ (((h.1 94 23) >>> (2 &&& 31)) &&& 1 = 1))), .int 1, .int x1]) (st := []) hX pM CS_7_106 MS_X7_want rfl rfl rfl (by decide) rfl (Nat.le_of_ble_eq_true rfl) dX7_takeClause_117 (fun r u hp => pK r u hp)
        refine ex_ifneB hX 114 dX7_takeClause_107 (by decide) (fun c4 => ?_) (fun c4 => ?_)
        · refine ex_iconst (v := 0) hX dX7_takeClause_114 rfl ?_
          rw [show (bI (¬ (((h.1 94 23) >>> (2 &&& 31)) &&& 1 = 1))) = 0 from bI_f (fun z => z c4)] at kc4
          exact ex_forget [some (.ref 94), some (.int x1), none, none] ⟨rfl, ⟨rfl, trivial⟩⟩ kc4
        · refine ex_iconst (v := 1) hX dX7_takeClause_110 rfl ?_
          refine ex_goto hX 115 dX7_takeClause_111 (by decide) ?_
          rw [show (bI (¬ (((h.1 94 23) >>> (2 &&& 31)) &&& 1 = 1))) = 1 from bI_t c4] at kc4
          exact ex_forget [some (.ref 94), some (.int x1), none, none] ⟨rfl, ⟨rfl, trivial⟩⟩ kc4
    · replace w := w.2 c2
      refine ex_aload_n hX dX7_takeClause_66 rfl rfl ?_
      refine ex_aload_n hX dX7_takeClause_67 rfl rfl ?_
      refine ex_get hX (.int (h.1 94 10)) FL_7_111 rfl (fun _ => rfl) dX7_takeClause_68 ?_
      have kc5 : EX Z 4 (QV Z post) 79 h [some (.ref 94), some (.int x1), none, none] [.int (bI ((h.1 94 10) = 0)), .ref 94] := by
        refine ex_iconst (v := 3) hX dX7_takeClause_79 rfl ?_
        refine ex_iload_n hX dX7_takeClause_80 rfl rfl ?_
        obtain ⟨PP, pM, pK⟩ := w
        exact ex_callIv (ci := 7) (i := 94) (As := [.int (bI ((h.1 94 10) = 0)), .int 3, .int x1]) (st := []) hX pM CS_7_106 MS_X7_want rfl rfl rfl (by decide) rfl (Nat.le_of_ble_eq_true rfl) dX7_takeClause_81 (fun r u hp => ex_forget [some (.ref 94), none, none, none] ⟨rfl, trivial⟩ (pK r u hp))
      refine ex_ifne hX 78 dX7_takeClause_71 (by decide) (fun c5 => ?_) (fun c5 => ?_)
      · refine ex_iconst (v := 0) hX dX7_takeClause_78 rfl ?_
        rw [show (bI ((h.1 94 10) = 0)) = 0 from bI_f c5] at kc5
        exact ex_forget [some (.ref 94), some (.int x1), none, none] ⟨rfl, ⟨rfl, trivial⟩⟩ kc5
      · refine ex_iconst (v := 1) hX dX7_takeClause_74 rfl ?_
        refine ex_goto hX 79 dX7_takeClause_75 (by decide) ?_
        rw [show (bI ((h.1 94 10) = 0)) = 1 from bI_t c5] at kc5
        exact ex_forget [some (.ref 94), some (.int x1), none, none] ⟨rfl, ⟨rfl, trivial⟩⟩ kc5

set_option maxRecDepth 100000 in
set_option maxHeartbeats 4000000 in
theorem sg_X7_takeClause_84 {Z : CX × GX} {post : AH → Prop} {h : AH} {s0 : Int32} (hX : OK Z RX7 cX7_takeClause 4 none 3 75) 
    (w : ((s0 = 0 → (∃ PP : AH → Prop, CV yX7_takeEnd cX7_takeEnd 1 1 23 [.ref 94] h PP ∧ ∀ u : AH, PP u → EX Z 4 (QV Z post) 270 u [none, none, none, none] [])) ∧ (¬ s0 = 0 → (∃ PP : AH → Prop, CV yX7_takeNode cX7_takeNode 2 2 50 [.ref 94] h PP ∧ ∀ u : AH, PP u → EX Z 4 (QV Z post) 91 u [some (.ref 94), none, none, none] []))))
    : EX Z 4 (QV Z post) 84 h [some (.ref 94), none, none, none] [.int s0] := by
  refine ex_ifeq hX 266 dX7_takeClause_84 (by decide) (fun c1 => ?_) (fun c1 => ?_)
  · replace w := w.1 c1
    refine ex_aload_n hX dX7_takeClause_266 rfl rfl ?_
    obtain ⟨PP, pM, pK⟩ := w
    exact ex_callVv (ci := 7) (i := 94) (As := []) (st := []) hX pM CS_7_152 MS_X7_takeEnd rfl rfl rfl (by decide) rfl (Nat.le_of_ble_eq_true rfl) dX7_takeClause_267 (fun u hp => ex_forget [none, none, none, none] trivial (pK u hp))
  · replace w := w.2 c1
    refine ex_aload_n hX dX7_takeClause_87 rfl rfl ?_
    obtain ⟨PP, pM, pK⟩ := w
    exact ex_callVv (ci := 7) (i := 94) (As := []) (st := []) hX pM CS_7_139 MS_X7_takeNode rfl rfl rfl (by decide) rfl (Nat.le_of_ble_eq_true rfl) dX7_takeClause_88 (fun u hp => pK u hp)

set_option maxRecDepth 100000 in
set_option maxHeartbeats 4000000 in
theorem sg_X7_takeClause_91 {Z : CX × GX} {post : AH → Prop} {h : AH}  (hX : OK Z RX7 cX7_takeClause 4 none 3 75) 
    (w : (∃ PP : AH → Prop, CV yX7_takeEnd cX7_takeEnd 1 1 23 [.ref 94] h PP ∧ ∀ u : AH, PP u → EX Z 4 (QV Z post) 270 u [none, none, none, none] []))
    : EX Z 4 (QV Z post) 91 h [some (.ref 94), none, none, none] [] := by
  refine ex_goto hX 266 dX7_takeClause_91 (by decide) ?_
  refine ex_aload_n hX dX7_takeClause_266 rfl rfl ?_
  obtain ⟨PP, pM, pK⟩ := w
  exact ex_callVv (ci := 7) (i := 94) (As := []) (st := []) hX pM CS_7_152 MS_X7_takeEnd rfl rfl rfl (by decide) rfl (Nat.le_of_ble_eq_true rfl) dX7_takeClause_267 (fun u hp => ex_forget [none, none, none, none] trivial (pK u hp))

set_option maxRecDepth 100000 in
set_option maxHeartbeats 4000000 in
theorem sg_X7_takeClause_120 {Z : CX × GX} {post : AH → Prop} {h : AH} {x1 : Int32} {s0 : Int32} (hX : OK Z RX7 cX7_takeClause 4 none 3 75) 
    (w : ((s0 = 0 → (∃ PP : AH → Prop, CV yX7_takeEnd cX7_takeEnd 1 1 23 [.ref 94] h PP ∧ ∀ u : AH, PP u → EX Z 4 (QV Z post) 270 u [none, none, none, none] [])) ∧ (¬ s0 = 0 → (∃ PP : Int32 → AH → Prop, CI yX7_want cX7_want 4 (some .boolean) 0 0 [.ref 94, .int (bI (¬ (9 ≤ (h.1 94 10)))), .int 3, .int x1] h PP ∧ ∀ (r : Int32) (u : AH), PP r u → EX Z 4 (QV Z post) 143 u [some (.ref 94), none, none, none] (.int r :: [])))))
    : EX Z 4 (QV Z post) 120 h [some (.ref 94), some (.int x1), none, none] [.int s0] := by
  refine ex_ifeq hX 266 dX7_takeClause_120 (by decide) (fun c1 => ?_) (fun c1 => ?_)
  · replace w := w.1 c1
    refine ex_aload_n hX dX7_takeClause_266 rfl rfl ?_
    obtain ⟨PP, pM, pK⟩ := w
    exact ex_callVv (ci := 7) (i := 94) (As := []) (st := []) hX pM CS_7_152 MS_X7_takeEnd rfl rfl rfl (by decide) rfl (Nat.le_of_ble_eq_true rfl) dX7_takeClause_267 (fun u hp => ex_forget [none, none, none, none] trivial (pK u hp))
  · replace w := w.2 c1
    refine ex_aload_n hX dX7_takeClause_123 rfl rfl ?_
    refine ex_aload_n hX dX7_takeClause_124 rfl rfl ?_
    refine ex_get hX (.int (h.1 94 10)) FL_7_111 rfl (fun _ => rfl) dX7_takeClause_125 ?_
    refine ex_bipush (v := 9) hX dX7_takeClause_128 rfl ?_
    have kc2 : EX Z 4 (QV Z post) 138 h [some (.ref 94), some (.int x1), none, none] [.int (bI (¬ (9 ≤ (h.1 94 10)))), .ref 94] := by
      refine ex_iconst (v := 3) hX dX7_takeClause_138 rfl ?_
      refine ex_iload_n hX dX7_takeClause_139 rfl rfl ?_
      obtain ⟨PP, pM, pK⟩ := w
      exact ex_callIv (ci := 7) (i := 94) (As := [.int (bI (¬ (9 ≤ (h.1 94 10)))), .int 3, .int x1]) (st := []) hX pM CS_7_106 MS_X7_want rfl rfl rfl (by decide) rfl (Nat.le_of_ble_eq_true rfl) dX7_takeClause_140 (fun r u hp => ex_forget [some (.ref 94), none, none, none] ⟨rfl, trivial⟩ (pK r u hp))
    refine ex_icmpge hX 137 dX7_takeClause_130 (by decide) (fun c2 => ?_) (fun c2 => ?_)
    · refine ex_iconst (v := 0) hX dX7_takeClause_137 rfl ?_
      rw [show (bI (¬ (9 ≤ (h.1 94 10)))) = 0 from bI_f (fun z => z c2)] at kc2
      exact ex_forget [some (.ref 94), some (.int x1), none, none] ⟨rfl, ⟨rfl, trivial⟩⟩ kc2
    · refine ex_iconst (v := 1) hX dX7_takeClause_133 rfl ?_
      refine ex_goto hX 138 dX7_takeClause_134 (by decide) ?_
      rw [show (bI (¬ (9 ≤ (h.1 94 10)))) = 1 from bI_t c2] at kc2
      exact ex_forget [some (.ref 94), some (.int x1), none, none] ⟨rfl, ⟨rfl, trivial⟩⟩ kc2

set_option maxRecDepth 100000 in
set_option maxHeartbeats 4000000 in
theorem sg_X7_takeClause_143 {Z : CX × GX} {post : AH → Prop} {h : AH} {s0 : Int32} (hX : OK Z RX7 cX7_takeClause 4 none 3 75) 
    (w : ((s0 = 0 → (∃ PP : AH → Prop, CV yX7_takeEnd cX7_takeEnd 1 1 23 [.ref 94] h PP ∧ ∀ u : AH, PP u → EX Z 4 (QV Z post) 270 u [none, none, none, none] [])) ∧ (¬ s0 = 0 → (∃ PP : AH → Prop, CV yX7_takeNode cX7_takeNode 2 2 50 [.ref 94] h PP ∧ ∀ u : AH, PP u → EX Z 4 (QV Z post) 150 u [some (.ref 94), none, none, none] []))))
    : EX Z 4 (QV Z post) 143 h [some (.ref 94), none, none, none] [.int s0] := by
  refine ex_ifeq hX 266 dX7_takeClause_143 (by decide) (fun c1 => ?_) (fun c1 => ?_)
  · replace w := w.1 c1
    refine ex_aload_n hX dX7_takeClause_266 rfl rfl ?_
    obtain ⟨PP, pM, pK⟩ := w
    exact ex_callVv (ci := 7) (i := 94) (As := []) (st := []) hX pM CS_7_152 MS_X7_takeEnd rfl rfl rfl (by decide) rfl (Nat.le_of_ble_eq_true rfl) dX7_takeClause_267 (fun u hp => ex_forget [none, none, none, none] trivial (pK u hp))
  · replace w := w.2 c1
    refine ex_aload_n hX dX7_takeClause_146 rfl rfl ?_
    obtain ⟨PP, pM, pK⟩ := w
    exact ex_callVv (ci := 7) (i := 94) (As := []) (st := []) hX pM CS_7_139 MS_X7_takeNode rfl rfl rfl (by decide) rfl (Nat.le_of_ble_eq_true rfl) dX7_takeClause_147 (fun u hp => pK u hp)

set_option maxRecDepth 100000 in
set_option maxHeartbeats 4000000 in
theorem sg_X7_takeClause_150 {Z : CX × GX} {post : AH → Prop} {h : AH}  (hX : OK Z RX7 cX7_takeClause 4 none 3 75) 
    (w : (∃ PP : AH → Prop, CV yX7_takeEnd cX7_takeEnd 1 1 23 [.ref 94] h PP ∧ ∀ u : AH, PP u → EX Z 4 (QV Z post) 270 u [none, none, none, none] []))
    : EX Z 4 (QV Z post) 150 h [some (.ref 94), none, none, none] [] := by
  refine ex_goto hX 266 dX7_takeClause_150 (by decide) ?_
  refine ex_aload_n hX dX7_takeClause_266 rfl rfl ?_
  obtain ⟨PP, pM, pK⟩ := w
  exact ex_callVv (ci := 7) (i := 94) (As := []) (st := []) hX pM CS_7_152 MS_X7_takeEnd rfl rfl rfl (by decide) rfl (Nat.le_of_ble_eq_true rfl) dX7_takeClause_267 (fun u hp => ex_forget [none, none, none, none] trivial (pK u hp))

set_option maxRecDepth 100000 in
set_option maxHeartbeats 4000000 in
theorem sg_X7_takeClause_166 {Z : CX × GX} {post : AH → Prop} {h : AH} {x1 : Int32} {s0 : Int32} (hX : OK Z RX7 cX7_takeClause 4 none 3 75) 
    (w : ((s0 = 0 → (∃ PP : Int32 → AH → Prop, CI yX7_isWord cX7_isWord 8 (some .boolean) 0 0 [.ref 94, .int 4, .int 116, .int 105, .int 100, .int 101] h PP ∧ ∀ (r : Int32) (u : AH), PP r u → EX Z 4 (QV Z post) 204 u [some (.ref 94), some (.int x1), none, none] (.int r :: []))) ∧ (¬ s0 = 0 → (∃ PP : Int32 → AH → Prop, CI yX7_once cX7_once 4 (some .boolean) 1 23 [.ref 94, .int 0, .int x1] h PP ∧ ∀ (r : Int32) (u : AH), PP r u → EX Z 4 (QV Z post) 175 u [some (.ref 94), none, none, none] (.int r :: [])))))
    : EX Z 4 (QV Z post) 166 h [some (.ref 94), some (.int x1), none, none] [.int s0] := by
  refine ex_ifeq hX 191 dX7_takeClause_166 (by decide) (fun c1 => ?_) (fun c1 => ?_)
  · replace w := w.1 c1
    refine ex_aload_n hX dX7_takeClause_191 rfl rfl ?_
    refine ex_iconst (v := 4) hX dX7_takeClause_192 rfl ?_
    refine ex_bipush (v := 116) hX dX7_takeClause_193 rfl ?_
    refine ex_bipush (v := 105) hX dX7_takeClause_195 rfl ?_
    refine ex_bipush (v := 100) hX dX7_takeClause_197 rfl ?_
    refine ex_bipush (v := 101) hX dX7_takeClause_199 rfl ?_
    obtain ⟨PP, pM, pK⟩ := w
    exact ex_callIv (ci := 7) (i := 94) (As := [.int 4, .int 116, .int 105, .int 100, .int 101]) (st := []) hX pM CS_7_135 MS_X7_isWord rfl rfl rfl (by decide) rfl (Nat.le_of_ble_eq_true rfl) dX7_takeClause_201 (fun r u hp => pK r u hp)
  · replace w := w.2 c1
    refine ex_aload_n hX dX7_takeClause_169 rfl rfl ?_
    refine ex_iconst (v := 0) hX dX7_takeClause_170 rfl ?_
    refine ex_iload_n hX dX7_takeClause_171 rfl rfl ?_
    obtain ⟨PP, pM, pK⟩ := w
    exact ex_callIv (ci := 7) (i := 94) (As := [.int 0, .int x1]) (st := []) hX pM CS_7_142 MS_X7_once rfl rfl rfl (by decide) rfl (Nat.le_of_ble_eq_true rfl) dX7_takeClause_172 (fun r u hp => ex_forget [some (.ref 94), none, none, none] ⟨rfl, trivial⟩ (pK r u hp))

set_option maxRecDepth 100000 in
set_option maxHeartbeats 4000000 in
theorem sg_X7_takeClause_175 {Z : CX × GX} {post : AH → Prop} {h : AH} {s0 : Int32} (hX : OK Z RX7 cX7_takeClause 4 none 3 75) 
    (w : ((s0 = 0 → (∃ PP : AH → Prop, CV yX7_takeEnd cX7_takeEnd 1 1 23 [.ref 94] h PP ∧ ∀ u : AH, PP u → EX Z 4 (QV Z post) 270 u [none, none, none, none] [])) ∧ (¬ s0 = 0 → (∃ PP : AH → Prop, CV yX7_takeHours cX7_takeHours 6 2 50 [.ref 94, .ref 100, .int 99] h PP ∧ ∀ u : AH, PP u → EX Z 4 (QV Z post) 188 u [some (.ref 94), none, none, none] []))))
    : EX Z 4 (QV Z post) 175 h [some (.ref 94), none, none, none] [.int s0] := by
  refine ex_ifeq hX 266 dX7_takeClause_175 (by decide) (fun c1 => ?_) (fun c1 => ?_)
  · replace w := w.1 c1
    refine ex_aload_n hX dX7_takeClause_266 rfl rfl ?_
    obtain ⟨PP, pM, pK⟩ := w
    exact ex_callVv (ci := 7) (i := 94) (As := []) (st := []) hX pM CS_7_152 MS_X7_takeEnd rfl rfl rfl (by decide) rfl (Nat.le_of_ble_eq_true rfl) dX7_takeClause_267 (fun u hp => ex_forget [none, none, none, none] trivial (pK u hp))
  · replace w := w.2 c1
    refine ex_aload_n hX dX7_takeClause_178 rfl rfl ?_
    refine ex_aload_n hX dX7_takeClause_179 rfl rfl ?_
    refine ex_get hX (.ref 100) FL_7_26 rfl (fun _ => rfl) dX7_takeClause_180 ?_
    refine ex_bipush (v := 99) hX dX7_takeClause_183 rfl ?_
    obtain ⟨PP, pM, pK⟩ := w
    exact ex_callVv (ci := 7) (i := 94) (As := [.ref 100, .int 99]) (st := []) hX pM CS_7_145 MS_X7_takeHours rfl rfl rfl (by decide) rfl (Nat.le_of_ble_eq_true rfl) dX7_takeClause_185 (fun u hp => pK u hp)

set_option maxRecDepth 100000 in
set_option maxHeartbeats 4000000 in
theorem sg_X7_takeClause_188 {Z : CX × GX} {post : AH → Prop} {h : AH}  (hX : OK Z RX7 cX7_takeClause 4 none 3 75) 
    (w : (∃ PP : AH → Prop, CV yX7_takeEnd cX7_takeEnd 1 1 23 [.ref 94] h PP ∧ ∀ u : AH, PP u → EX Z 4 (QV Z post) 270 u [none, none, none, none] []))
    : EX Z 4 (QV Z post) 188 h [some (.ref 94), none, none, none] [] := by
  refine ex_goto hX 266 dX7_takeClause_188 (by decide) ?_
  refine ex_aload_n hX dX7_takeClause_266 rfl rfl ?_
  obtain ⟨PP, pM, pK⟩ := w
  exact ex_callVv (ci := 7) (i := 94) (As := []) (st := []) hX pM CS_7_152 MS_X7_takeEnd rfl rfl rfl (by decide) rfl (Nat.le_of_ble_eq_true rfl) dX7_takeClause_267 (fun u hp => ex_forget [none, none, none, none] trivial (pK u hp))

set_option maxRecDepth 100000 in
set_option maxHeartbeats 4000000 in
theorem sg_X7_takeClause_204 {Z : CX × GX} {post : AH → Prop} {h : AH} {x1 : Int32} {s0 : Int32} (hX : OK Z RX7 cX7_takeClause 4 none 3 75) 
    (w : ((s0 = 0 → (∃ PP : Int32 → AH → Prop, CI yX7_isWord cX7_isWord 8 (some .boolean) 0 0 [.ref 94, .int 4, .int 103, .int 97, .int 116, .int 101] h PP ∧ ∀ (r : Int32) (u : AH), PP r u → EX Z 4 (QV Z post) 244 u [some (.ref 94), some (.int x1), none, none] (.int r :: [.ref 94]))) ∧ (¬ s0 = 0 → (∃ PP : Int32 → AH → Prop, CI yX7_once cX7_once 4 (some .boolean) 1 23 [.ref 94, .int 1, .int x1] h PP ∧ ∀ (r : Int32) (u : AH), PP r u → EX Z 4 (QV Z post) 213 u [some (.ref 94), none, none, none] (.int r :: [])))))
    : EX Z 4 (QV Z post) 204 h [some (.ref 94), some (.int x1), none, none] [.int s0] := by
  refine ex_ifeq hX 230 dX7_takeClause_204 (by decide) (fun c1 => ?_) (fun c1 => ?_)
  · replace w := w.1 c1
    refine ex_aload_n hX dX7_takeClause_230 rfl rfl ?_
    refine ex_aload_n hX dX7_takeClause_231 rfl rfl ?_
    refine ex_iconst (v := 4) hX dX7_takeClause_232 rfl ?_
    refine ex_bipush (v := 103) hX dX7_takeClause_233 rfl ?_
    refine ex_bipush (v := 97) hX dX7_takeClause_235 rfl ?_
    refine ex_bipush (v := 116) hX dX7_takeClause_237 rfl ?_
    refine ex_bipush (v := 101) hX dX7_takeClause_239 rfl ?_
    obtain ⟨PP, pM, pK⟩ := w
    exact ex_callIv (ci := 7) (i := 94) (As := [.int 4, .int 103, .int 97, .int 116, .int 101]) (st := [.ref 94]) hX pM CS_7_135 MS_X7_isWord rfl rfl rfl (by decide) rfl (Nat.le_of_ble_eq_true rfl) dX7_takeClause_241 (fun r u hp => pK r u hp)
  · replace w := w.2 c1
    refine ex_aload_n hX dX7_takeClause_207 rfl rfl ?_
    refine ex_iconst (v := 1) hX dX7_takeClause_208 rfl ?_
    refine ex_iload_n hX dX7_takeClause_209 rfl rfl ?_
    obtain ⟨PP, pM, pK⟩ := w
    exact ex_callIv (ci := 7) (i := 94) (As := [.int 1, .int x1]) (st := []) hX pM CS_7_142 MS_X7_once rfl rfl rfl (by decide) rfl (Nat.le_of_ble_eq_true rfl) dX7_takeClause_210 (fun r u hp => ex_forget [some (.ref 94), none, none, none] ⟨rfl, trivial⟩ (pK r u hp))

set_option maxRecDepth 100000 in
set_option maxHeartbeats 4000000 in
theorem sg_X7_takeClause_213 {Z : CX × GX} {post : AH → Prop} {h : AH} {s0 : Int32} (hX : OK Z RX7 cX7_takeClause 4 none 3 75) 
    (w : ((s0 = 0 → (∃ PP : AH → Prop, CV yX7_takeEnd cX7_takeEnd 1 1 23 [.ref 94] h PP ∧ ∀ u : AH, PP u → EX Z 4 (QV Z post) 270 u [none, none, none, none] [])) ∧ (¬ s0 = 0 → (∃ PP : AH → Prop, CV yX7_takeHours cX7_takeHours 6 2 50 [.ref 94, .ref 101, .int 999] h PP ∧ ∀ u : AH, PP u → EX Z 4 (QV Z post) 227 u [some (.ref 94), none, none, none] []))))
    : EX Z 4 (QV Z post) 213 h [some (.ref 94), none, none, none] [.int s0] := by
  refine ex_ifeq hX 266 dX7_takeClause_213 (by decide) (fun c1 => ?_) (fun c1 => ?_)
  · replace w := w.1 c1
    refine ex_aload_n hX dX7_takeClause_266 rfl rfl ?_
    obtain ⟨PP, pM, pK⟩ := w
    exact ex_callVv (ci := 7) (i := 94) (As := []) (st := []) hX pM CS_7_152 MS_X7_takeEnd rfl rfl rfl (by decide) rfl (Nat.le_of_ble_eq_true rfl) dX7_takeClause_267 (fun u hp => ex_forget [none, none, none, none] trivial (pK u hp))
  · replace w := w.2 c1
    refine ex_aload_n hX dX7_takeClause_216 rfl rfl ?_
    refine ex_aload_n hX dX7_takeClause_217 rfl rfl ?_
    refine ex_get hX (.ref 101) FL_7_29 rfl (fun _ => rfl) dX7_takeClause_218 ?_
    refine ex_sipush (v := 999) hX dX7_takeClause_221 rfl ?_
    obtain ⟨PP, pM, pK⟩ := w
    exact ex_callVv (ci := 7) (i := 94) (As := [.ref 101, .int 999]) (st := []) hX pM CS_7_145 MS_X7_takeHours rfl rfl rfl (by decide) rfl (Nat.le_of_ble_eq_true rfl) dX7_takeClause_224 (fun u hp => pK u hp)

set_option maxRecDepth 100000 in
set_option maxHeartbeats 4000000 in
theorem sg_X7_takeClause_227 {Z : CX × GX} {post : AH → Prop} {h : AH}  (hX : OK Z RX7 cX7_takeClause 4 none 3 75) 
    (w : (∃ PP : AH → Prop, CV yX7_takeEnd cX7_takeEnd 1 1 23 [.ref 94] h PP ∧ ∀ u : AH, PP u → EX Z 4 (QV Z post) 270 u [none, none, none, none] []))
    : EX Z 4 (QV Z post) 227 h [some (.ref 94), none, none, none] [] := by
  refine ex_goto hX 266 dX7_takeClause_227 (by decide) ?_
  refine ex_aload_n hX dX7_takeClause_266 rfl rfl ?_
  obtain ⟨PP, pM, pK⟩ := w
  exact ex_callVv (ci := 7) (i := 94) (As := []) (st := []) hX pM CS_7_152 MS_X7_takeEnd rfl rfl rfl (by decide) rfl (Nat.le_of_ble_eq_true rfl) dX7_takeClause_267 (fun u hp => ex_forget [none, none, none, none] trivial (pK u hp))

set_option maxRecDepth 100000 in
set_option maxHeartbeats 4000000 in
theorem sg_X7_takeClause_244 {Z : CX × GX} {post : AH → Prop} {h : AH} {x1 : Int32} {s0 : Int32} (hX : OK Z RX7 cX7_takeClause 4 none 3 75) 
    (w : (∃ PP : Int32 → AH → Prop, CI yX7_want cX7_want 4 (some .boolean) 0 0 [.ref 94, .int s0, .int 1, .int x1] h PP ∧ ∀ (r : Int32) (u : AH), PP r u → EX Z 4 (QV Z post) 249 u [some (.ref 94), none, none, none] (.int r :: [])))
    : EX Z 4 (QV Z post) 244 h [some (.ref 94), some (.int x1), none, none] [.int s0, .ref 94] := by
  refine ex_iconst (v := 1) hX dX7_takeClause_244 rfl ?_
  refine ex_iload_n hX dX7_takeClause_245 rfl rfl ?_
  obtain ⟨PP, pM, pK⟩ := w
  exact ex_callIv (ci := 7) (i := 94) (As := [.int s0, .int 1, .int x1]) (st := []) hX pM CS_7_106 MS_X7_want rfl rfl rfl (by decide) rfl (Nat.le_of_ble_eq_true rfl) dX7_takeClause_246 (fun r u hp => ex_forget [some (.ref 94), none, none, none] ⟨rfl, trivial⟩ (pK r u hp))

set_option maxRecDepth 100000 in
set_option maxHeartbeats 4000000 in
theorem sg_X7_takeClause_249 {Z : CX × GX} {post : AH → Prop} {h : AH} {s0 : Int32} (hX : OK Z RX7 cX7_takeClause 4 none 3 75) 
    (w : ((s0 = 0 → (∃ PP : AH → Prop, CV yX7_takeEnd cX7_takeEnd 1 1 23 [.ref 94] h PP ∧ ∀ u : AH, PP u → EX Z 4 (QV Z post) 270 u [none, none, none, none] [])) ∧ (¬ s0 = 0 → (∀ u2 : AH, u2 = (hset h.1 94 23 ((h.1 94 23) ||| 4), h.2) → (∃ PP : AH → Prop, CV yX7_takeGate cX7_takeGate 2 2 50 [.ref 94] u2 PP ∧ ∀ u : AH, PP u → EX Z 4 (QV Z post) 266 u [some (.ref 94), none, none, none] [])))))
    : EX Z 4 (QV Z post) 249 h [some (.ref 94), none, none, none] [.int s0] := by
  refine ex_ifeq hX 266 dX7_takeClause_249 (by decide) (fun c1 => ?_) (fun c1 => ?_)
  · replace w := w.1 c1
    refine ex_aload_n hX dX7_takeClause_266 rfl rfl ?_
    obtain ⟨PP, pM, pK⟩ := w
    exact ex_callVv (ci := 7) (i := 94) (As := []) (st := []) hX pM CS_7_152 MS_X7_takeEnd rfl rfl rfl (by decide) rfl (Nat.le_of_ble_eq_true rfl) dX7_takeClause_267 (fun u hp => ex_forget [none, none, none, none] trivial (pK u hp))
  · replace w := w.2 c1
    refine ex_aload_n hX dX7_takeClause_252 rfl rfl ?_
    refine ex_dup hX dX7_takeClause_253 rfl ?_
    refine ex_get hX (.int (h.1 94 23)) FL_7_118 rfl (fun _ => rfl) dX7_takeClause_254 ?_
    refine ex_iconst (v := 4) hX dX7_takeClause_257 rfl ?_
    refine ex_ior hX dX7_takeClause_258 ?_
    refine ex_put hX .int FL_7_118 tyX7 tyX7_ok nmX7 rfl rfl rfl rfl rfl (fun _ => (by decide : 23 < 33)) (fun _ => fs_7_23) dX7_takeClause_259 ?_
    refine ex_nameH (fun u2 eu2 => ?_)
    replace w := w u2 eu2
    refine ex_aload_n hX dX7_takeClause_262 rfl rfl ?_
    obtain ⟨PP, pM, pK⟩ := w
    exact ex_callVv (ci := 7) (i := 94) (As := []) (st := []) hX pM CS_7_149 MS_X7_takeGate rfl rfl rfl (by decide) rfl (Nat.le_of_ble_eq_true rfl) dX7_takeClause_263 (fun u hp => pK u hp)

set_option maxRecDepth 100000 in
set_option maxHeartbeats 4000000 in
theorem sg_X7_takeClause_266 {Z : CX × GX} {post : AH → Prop} {h : AH}  (hX : OK Z RX7 cX7_takeClause 4 none 3 75) 
    (w : (∃ PP : AH → Prop, CV yX7_takeEnd cX7_takeEnd 1 1 23 [.ref 94] h PP ∧ ∀ u : AH, PP u → EX Z 4 (QV Z post) 270 u [none, none, none, none] []))
    : EX Z 4 (QV Z post) 266 h [some (.ref 94), none, none, none] [] := by
  refine ex_aload_n hX dX7_takeClause_266 rfl rfl ?_
  obtain ⟨PP, pM, pK⟩ := w
  exact ex_callVv (ci := 7) (i := 94) (As := []) (st := []) hX pM CS_7_152 MS_X7_takeEnd rfl rfl rfl (by decide) rfl (Nat.le_of_ble_eq_true rfl) dX7_takeClause_267 (fun u hp => ex_forget [none, none, none, none] trivial (pK u hp))

set_option maxRecDepth 100000 in
set_option maxHeartbeats 4000000 in
theorem sg_X7_takeClause_270 {Z : CX × GX} {post : AH → Prop} {h : AH}  (hX : OK Z RX7 cX7_takeClause 4 none 3 75) 
    (w : post h)
    : EX Z 4 (QV Z post) 270 h [none, none, none, none] [] := by
  exact ex_vret hX dX7_takeClause_270 w

def chM (i k : Nat) : Prop := (i = 94 ∧ (k = 10 ∨ k = 15 ∨ (18 ≤ k ∧ k ≤ 24))) ∨ ((i = 97 ∨ i = 98 ∨ i = 99 ∨ i = 102 ∨ i = 103) ∧ 10 ≤ k) ∨ ((i = 100 ∨ i = 101) ∧ 24 ≤ k) ∨ ((i = 104 ∨ i = 105 ∨ i = 106) ∧ 30 ≤ k)
def FRm (h u : AH) : Prop := u.2 = h.2 ∧ ∀ i k, ¬ chM i k → u.1 i k = h.1 i k
theorem FRm.rf {h : AH} : FRm h h := ⟨rfl, fun _ _ _ => rfl⟩
theorem FRm.tr {h u v : AH} (a : FRm h u) (b : FRm u v) : FRm h v := ⟨b.1.trans a.1, fun i k z => (b.2 i k z).trans (a.2 i k z)⟩
theorem FRm.of {h u : AH} (a : FRt h u) : FRm h u := ⟨a.1, fun i k z => by
  unfold chM at z
  by_cases e : i = 94
  · subst e; exact a.2.2 k (by omega)
  · rw [a.2.1 i e]⟩
theorem FRm.set {i k : Nat} {h u u2 : AH} {v : Int32} (a : FRm h u) (hk : chM i k) (e : u2 = (hset u.1 i k v, u.2)) : FRm h u2 := ⟨by rw [e]; exact a.1, fun j l z => by
  rw [e]
  show hset u.1 i k v j l = _
  rw [hset_at (fun y => z (by rw [y.1, y.2]; exact hk))]
  exact a.2 j l z⟩
theorem TXm.fm {T : Nat → Nat} {L : Nat} {h u : AH} (a : TXm T L h) (f : FRm h u) : TXm T L u := ⟨a.1, by rw [f.2 94 17 (by unfold chM; omega)]; exact a.2.1, fun j hj => by rw [f.2 107 j (by unfold chM; omega)]; exact a.2.2 j hj⟩
def lmm (p : Nat) : Nat × Nat := if p < 100 then (94, 10) else if p < 400 then (96 + p / 100, 10 + p % 100) else if p < 600 then (98 + p / 100, 10 + p % 100) else (94 + p / 100, 24 + p % 100)
def plm (p : Nat) : Prop := p = 0 ∨ (100 ≤ p ∧ p < 110) ∨ (200 ≤ p ∧ p < 210) ∨ (300 ≤ p ∧ p < 310) ∨ (400 ≤ p ∧ p < 409) ∨ (500 ≤ p ∧ p < 509) ∨ (600 ≤ p ∧ p < 624) ∨ (700 ≤ p ∧ p < 724)
theorem lm_0 : lmm 0 = (94, 10) := rfl
theorem lm_1 {k : Nat} (hk : k < 100) : lmm (100 + k) = (97, 10 + k) := by
  unfold lmm
  rw [if_neg (by omega), if_pos (by omega), show (100 + k) / 100 = 1 by omega, show (100 + k) % 100 = k by omega]
theorem lm_2 {k : Nat} (hk : k < 100) : lmm (200 + k) = (98, 10 + k) := by
  unfold lmm
  rw [if_neg (by omega), if_pos (by omega), show (200 + k) / 100 = 2 by omega, show (200 + k) % 100 = k by omega]
theorem lm_3 {k : Nat} (hk : k < 100) : lmm (300 + k) = (99, 10 + k) := by
  unfold lmm
  rw [if_neg (by omega), if_pos (by omega), show (300 + k) / 100 = 3 by omega, show (300 + k) % 100 = k by omega]
theorem lm_4 {k : Nat} (hk : k < 100) : lmm (400 + k) = (102, 10 + k) := by
  unfold lmm
  rw [if_neg (by omega), if_neg (by omega), if_pos (by omega), show (400 + k) / 100 = 4 by omega, show (400 + k) % 100 = k by omega]
theorem lm_5 {k : Nat} (hk : k < 100) : lmm (500 + k) = (103, 10 + k) := by
  unfold lmm
  rw [if_neg (by omega), if_neg (by omega), if_pos (by omega), show (500 + k) / 100 = 5 by omega, show (500 + k) % 100 = k by omega]
theorem lm_6 {k : Nat} (hk : k < 100) : lmm (600 + k) = (100, 24 + k) := by
  unfold lmm
  rw [if_neg (by omega), if_neg (by omega), if_neg (by omega), show (600 + k) / 100 = 6 by omega, show (600 + k) % 100 = k by omega]
theorem lm_7 {k : Nat} (hk : k < 100) : lmm (700 + k) = (101, 24 + k) := by
  unfold lmm
  rw [if_neg (by omega), if_neg (by omega), if_neg (by omega), show (700 + k) / 100 = 7 by omega, show (700 + k) % 100 = k by omega]
theorem lmm_inj {p q : Nat} (hp : plm p) (hq : plm q) (e1 : (lmm p).1 = (lmm q).1) (e2 : (lmm p).2 = (lmm q).2) : p = q := by
  unfold lmm at e1 e2
  unfold plm at hp hq
  by_cases a1 : p < 100
  · rw [if_pos a1] at e1 e2
    by_cases b1 : q < 100
    · omega
    · rw [if_neg b1] at e1 e2
      by_cases b2 : q < 400
      · rw [if_pos b2] at e1 e2; dsimp only at e1 e2; omega
      · rw [if_neg b2] at e1 e2
        by_cases b3 : q < 600
        · rw [if_pos b3] at e1 e2; dsimp only at e1 e2; omega
        · rw [if_neg b3] at e1 e2; dsimp only at e1 e2; omega
  · rw [if_neg a1] at e1 e2
    by_cases a2 : p < 400
    · rw [if_pos a2] at e1 e2
      by_cases b1 : q < 100
      · rw [if_pos b1] at e1 e2; dsimp only at e1 e2; omega
      · rw [if_neg b1] at e1 e2
        by_cases b2 : q < 400
        · rw [if_pos b2] at e1 e2; dsimp only at e1 e2; omega
        · rw [if_neg b2] at e1 e2
          by_cases b3 : q < 600
          · rw [if_pos b3] at e1 e2; dsimp only at e1 e2; omega
          · rw [if_neg b3] at e1 e2; dsimp only at e1 e2; omega
    · rw [if_neg a2] at e1 e2
      by_cases a3 : p < 600
      · rw [if_pos a3] at e1 e2
        by_cases b1 : q < 100
        · rw [if_pos b1] at e1 e2; dsimp only at e1 e2; omega
        · rw [if_neg b1] at e1 e2
          by_cases b2 : q < 400
          · rw [if_pos b2] at e1 e2; dsimp only at e1 e2; omega
          · rw [if_neg b2] at e1 e2
            by_cases b3 : q < 600
            · rw [if_pos b3] at e1 e2; dsimp only at e1 e2; omega
            · rw [if_neg b3] at e1 e2; dsimp only at e1 e2; omega
      · rw [if_neg a3] at e1 e2
        by_cases b1 : q < 100
        · rw [if_pos b1] at e1 e2; dsimp only at e1 e2; omega
        · rw [if_neg b1] at e1 e2
          by_cases b2 : q < 400
          · rw [if_pos b2] at e1 e2; dsimp only at e1 e2; omega
          · rw [if_neg b2] at e1 e2
            by_cases b3 : q < 600
            · rw [if_pos b3] at e1 e2; dsimp only at e1 e2; omega
            · rw [if_neg b3] at e1 e2; dsimp only at e1 e2; omega
def RMd (d : Nat → Nat) (u : AH) : Prop := (∀ p, plm p → u.1 (lmm p).1 (lmm p).2 = nI (d p)) ∧ u.1 94 24 = nI (d 810)
theorem RMd.at {p a k : Nat} {d : Nat → Nat} {u : AH} (h : RMd d u) (hp : plm p) (e : lmm p = (a, k)) : u.1 a k = nI (d p) := by
  have := h.1 p hp
  rw [e] at this
  exact this
theorem RMd.n {d : Nat → Nat} {u : AH} (h : RMd d u) : u.1 94 10 = nI (d 0) := h.at (Or.inl rfl) lm_0
theorem lmm_94 {p : Nat} (hp : plm p) (h : (lmm p).1 = 94) : (lmm p).2 = 10 := by
  unfold lmm at h ⊢
  unfold plm at hp
  by_cases a1 : p < 100
  · rw [if_pos a1]
  · rw [if_neg a1] at h ⊢
    by_cases a2 : p < 400
    · rw [if_pos a2] at h; dsimp only at h; omega
    · rw [if_neg a2] at h
      by_cases a3 : p < 600
      · rw [if_pos a3] at h; dsimp only at h; omega
      · rw [if_neg a3] at h; dsimp only at h; omega
theorem RMd.set {p a k v : Nat} {d : Nat → Nat} {u u2 : AH} (h : RMd d u) (hp : plm p) (el : lmm p = (a, k)) (e : u2 = (hset u.1 a k (nI v), u.2)) : RMd (dset d p v) u2 := by
  refine ⟨fun q hq => ?_, ?_⟩
  · rw [e]
    show hset u.1 a k (nI v) (lmm q).1 (lmm q).2 = _
    by_cases z : q = p
    · subst z
      rw [el, ds_eq]
      show hset u.1 a k (nI v) a k = _
      rw [hset_eq, upd_eq]
    · rw [ds_ne z, hset_at]
      · exact h.1 q hq
      · intro y
        refine z (lmm_inj hq hp ?_ ?_)
        · rw [y.1, el]
        · rw [y.2, el]
  · have h8 : ¬ 810 = p := fun z => by rw [← z] at hp; unfold plm at hp; omega
    rw [ds_ne h8, e]
    show hset u.1 a k (nI v) 94 24 = _
    rw [hset_at]
    · exact h.2
    · intro y
      have := lmm_94 hp (by rw [el]; exact y.1.symm)
      rw [el] at this
      have y2 : 24 = k := y.2
      have : k = 10 := this
      omega
theorem RMd.set8 {v : Nat} {d : Nat → Nat} {u u2 : AH} (h : RMd d u) (e : u2 = (hset u.1 94 24 (nI v), u.2)) : RMd (dset d 810 v) u2 := by
  refine ⟨fun q hq => ?_, by rw [e, hs_s, ds_eq]⟩
  have h8 : ¬ q = 810 := fun z => by rw [z] at hq; unfold plm at hq; omega
  rw [ds_ne h8, e]
  show hset u.1 94 24 (nI v) (lmm q).1 (lmm q).2 = _
  rw [hset_at]
  · exact h.1 q hq
  · intro y
    have := lmm_94 hq y.1
    omega
theorem RMd.fr {d : Nat → Nat} {h u : AH} (a : RMd d h) (f : FRt h u) : RMd d u := by
  refine ⟨fun q hq => ?_, by rw [f.2.2 24 (by omega)]; exact a.2⟩
  rw [← a.1 q hq]
  by_cases z : (lmm q).1 = 94
  · rw [z, lmm_94 hq z]
    exact f.2.2 10 (by omega)
  · rw [f.2.1 _ z]
theorem RMd.cg {d e : Nat → Nat} {u : AH} (a : RMd d u) (h : ∀ p, (p < 800 ∨ p = 810) → e p = d p) : RMd e u := ⟨fun p hp => by rw [h p (by unfold plm at hp; omega)]; exact a.1 p hp, by rw [h 810 (by omega)]; exact a.2⟩
theorem RMd.k23 {v : Int32} {d : Nat → Nat} {u u2 : AH} (h : RMd d u) (e : u2 = (hset u.1 94 23 v, u.2)) : RMd d u2 := by
  refine ⟨fun q hq => ?_, by rw [e, hs_i (by omega)]; exact h.2⟩
  rw [e]
  show hset u.1 94 23 v (lmm q).1 (lmm q).2 = _
  rw [hset_at]
  · exact h.1 q hq
  · intro y
    have := lmm_94 hq y.1
    omega
def kdS (d : Nat → Nat) : Nat := d 808 + 2 * d 809 + (if d 810 = 0 then 0 else 4)
theorem hasb {t k : Nat} (ht : t < 512) (hk : k < 9) : ((nI t >>> (nI k &&& 31)) &&& 1 = 1) ↔ t.testBit k = true := by
  have b := bitT (x := t) (k := k) (by omega) (by omega)
  rw [bit9 t ht k hk] at b ⊢
  rcases Nat.mod_two_eq_zero_or_one (t / 2 ^ k) with z | z
  · rw [z] at b ⊢
    rw [b.mp rfl]
    exact ⟨fun y => absurd y (by decide), fun y => by cases y⟩
  · rw [z] at b ⊢
    refine ⟨fun _ => ?_, fun _ => rfl⟩
    cases hb : t.testBit k with
    | true => rfl
    | false => exact absurd (b.mpr hb) (by decide)
theorem kd_b {a b f : Nat} (ha : a ≤ 1) (hb : b ≤ 1) (hf : f = 0 ∨ f = 4) : ((a + 2 * b + f).testBit 0 = true ↔ a = 1) ∧ ((a + 2 * b + f).testBit 1 = true ↔ b = 1) ∧ ((a + 2 * b + f).testBit 2 = true ↔ f = 4) ∧ ((a + 2 * b + f) ||| 4 = a + 2 * b + 4) ∧ (a = 0 → (a + 2 * b + f) ||| 1 = 1 + 2 * b + f) ∧ (b = 0 → (a + 2 * b + f) ||| 2 = a + 2 * 1 + f) ∧ a + 2 * b + f < 512 := by
  have : a = 0 ∨ a = 1 := by omega
  have : b = 0 ∨ b = 1 := by omega
  rcases ‹a = 0 ∨ a = 1› with rfl | rfl <;> rcases ‹b = 0 ∨ b = 1› with rfl | rfl <;> rcases hf with rfl | rfl <;> decide
theorem f04 {x : Nat} : (if x = 0 then 0 else 4) = 0 ∨ (if x = 0 then (0 : Nat) else 4) = 4 := by
  by_cases h : x = 0
  · exact Or.inl (if_pos h)
  · exact Or.inr (if_neg h)

set_option maxRecDepth 100000 in
set_option maxHeartbeats 4000000 in
theorem c_X7_takeNode {h : AH}   {T : Nat → Nat} {L : Nat} {c : Cur} {d : Nat → Nat} (hT : TXm T L h) (hC : CM T L h c) (hR : RMd d h) (h9 : d 0 < 9) : CV yX7_takeNode cX7_takeNode 2 2 50 [.ref 94] h (fun u => FRm h u ∧ u.1 94 23 = h.1 94 23 ∧ CM T L u (bas3 T L c).1 ∧ ((bas3 T L c).1.1 = 0 → RMd (basD T L c d) u)) := by
  refine CV.of [some (.ref 94), none] (by decide +kernel) rfl (Nat.le_of_ble_eq_true rfl) rfl (fun Z hX => ?_)
  refine sg_X7_takeNode_0 hX ⟨_, c_X7_takeNumber (lo := 0) (hi := 999) hT hC (by omega) (by omega) rfl rfl, fun r1 u1 p1 => ?_⟩
  rw [hR.n, k_10, nI_add]
  have R1 := hR.fr p1.1
  refine sg_X7_takeNode_21 hX (show ac 97 = some (0, 20) from rfl) ⟨vp_in_nI (by omega) (by omega), fun u2 e2 => ?_⟩
  rw [nI_clamp (by omega)] at e2
  have F2 := (FRm.of p1.1).set (i := 97) (k := 10 + d 0) (by unfold chM; omega) e2
  have o2 : ∀ k, u2.1 94 k = u1.1 94 k := fun k => by rw [e2, hs_o (by omega)]
  refine ⟨_, c_X7_takeNumber (lo := 1) (hi := 99) (hT.fm F2) (p1.2.1.same (fun k _ => o2 k)) (by omega) (by omega) rfl rfl, fun r3 u3 p3 => ?_⟩
  refine sg_X7_takeNode_34 hX (show ac 98 = some (0, 20) from rfl) ⟨vp_in_nI (by omega) (by omega), fun u4 e4 => ?_⟩
  rw [nI_clamp (by omega)] at e4
  have F4 := (F2.tr (FRm.of p3.1)).set (i := 98) (k := 10 + d 0) (by unfold chM; omega) e4
  have o4 : ∀ k, u4.1 94 k = u3.1 94 k := fun k => by rw [e4, hs_o (by omega)]
  refine ⟨_, c_X7_takeNumber (lo := 0) (hi := 9999) (hT.fm F4) (p3.2.1.same (fun k _ => o4 k)) (by omega) (by omega) rfl rfl, fun r5 u5 p5 => ?_⟩
  refine sg_X7_takeNode_48 hX (show ac 99 = some (0, 20) from rfl) ⟨vp_in_nI (by omega) (by omega), fun u6 e6 u7 e7 => ?_⟩
  rw [nI_clamp (by omega)] at e6
  have F6 := (F4.tr (FRm.of p5.1)).set (i := 99) (k := 10 + d 0) (by unfold chM; omega) e6
  have o6 : ∀ k, u6.1 94 k = u5.1 94 k := fun k => by rw [e6, hs_o (by omega)]
  have F7 := F6.set (i := 94) (k := 10) (by unfold chM; omega) e7
  have s : ∀ k, (k < 18 ∨ 23 ≤ k) → u6.1 94 k = h.1 94 k := fun k hk => by rw [o6 k, p5.1.2.2 k hk, o4 k, p3.1.2.2 k hk, o2 k, p1.1.2.2 k hk]
  rw [s 10 (by omega), hR.n, nI_1] at e7
  refine ⟨F7, by rw [e7, hs_i (by omega)]; exact s 23 (by omega), p5.2.1.same (fun k hk => by rw [e7, hs_i (by omega), o6 k]), fun z => ?_⟩
  have a2 : (bas2 T L c).1.1 = 0 := (num_ok (num_p (num_p hC.pos)) z).1
  have a1 : (bas1 T L c).1.1 = 0 := (num_ok (num_p hC.pos) a2).1
  have x1 : r1 = nI (bas1 T L c).2.1 := (p1.2.2 a1).1
  have x3 : r3 = nI (bas2 T L c).2.1 := (p3.2.2 a2).1
  have x5 : r5 = nI (bas3 T L c).2.1 := (p5.2.2 z).1
  rw [x1] at e2
  rw [x3] at e4
  rw [x5] at e6
  have R2 := R1.set (p := 100 + d 0) (by unfold plm; omega) (lm_1 (by omega)) e2
  have R4 := (R2.fr p3.1).set (p := 200 + d 0) (by unfold plm; omega) (lm_2 (by omega)) e4
  have R6 := (R4.fr p5.1).set (p := 300 + d 0) (by unfold plm; omega) (lm_3 (by omega)) e6
  exact R6.set (p := 0) (Or.inl rfl) lm_0 e7

set_option maxRecDepth 100000 in
set_option maxHeartbeats 4000000 in
theorem c_X7_once {h : AH} {a1 : Int32} {a2 : Int32}  {T : Nat → Nat} {L K j w : Nat} {c : Cur} (hC : CM T L h c) (c0 : c.1 = 0) (hK : h.1 94 23 = nI K) (hK5 : K < 512) (hj : j < 9) (hw : w ≤ L) (e1 : a1 = nI j) (e2 : a2 = nI w) : CI yX7_once cX7_once 4 (some .boolean) 1 23 [.ref 94, .int a1, .int a2] h (fun r u => FRm h u ∧ CM T L u (if K.testBit j = true then (3, w, 0) else c) ∧ r = bI ((if K.testBit j = true then ((3, w, 0) : Cur) else c).1 = 0) ∧ u.1 94 23 = nI (K ||| 2 ^ j) ∧ ∀ d, RMd d h → RMd d u) := by
  refine CI.of [some (.ref 94), some (.int a1), some (.int a2), none] (by decide +kernel) rfl (Nat.le_of_ble_eq_true rfl) rfl (fun Z hX => ?_)
  subst e1 e2
  have gd : (bI (¬ (((h.1 94 23) >>> (nI j &&& 31)) &&& 1 = 1)) = 0) ↔ ¬ (¬ K.testBit j = true) := by
    rw [bI_0, hK]
    exact not_congr (not_congr (hasb hK5 hj))
  refine sg_X7_once_0 hX ⟨_, c_X7_want (n := 3) (w := w) hC (by omega) gd rfl (fun _ => ⟨hw, rfl⟩), fun r u p => ?_⟩
  obtain ⟨f, o, m, er⟩ := p
  have eq : (if ¬ K.testBit j = true then c else findC 3 w c) = (if K.testBit j = true then (3, w, 0) else c) := by
    by_cases b : K.testBit j = true
    · rw [if_neg (fun z => z b), if_pos b, findC, if_pos c0]
    · rw [if_pos b, if_neg b]
  rw [eq] at m er
  refine sg_X7_once_22 hX (fun u1 e => ⟨by rw [er]; exact bI_nar, ?_⟩)
  have sh : (1 : Int32) <<< (nI j &&& 31) = nI (2 ^ j) := by
    have := sh_l (x := 1) (k := j) (by omega) (by rw [Nat.one_mul]; exact Nat.pow_lt_pow_right (by decide) (by omega))
    rw [Nat.one_mul] at this
    exact this
  rw [o 23 (by omega) (by omega), hK, sh, fa_or] at e
  exact ⟨(FRm.of f).set (i := 94) (k := 23) (by unfold chM; omega) e, m.same (fun k hk => by rw [e, hs_i (by omega)]), er, by rw [e, hs_s], fun d hd => (hd.fr f).k23 e⟩
