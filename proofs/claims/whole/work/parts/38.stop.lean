set_option maxRecDepth 100000 in
set_option maxHeartbeats 4000000 in
theorem sg_X6_keepsOffSea_0 {Z : CX × GX} {post : Int32 → AH → Prop} {h : AH} {x1 : Int32} (hX : OK Z RX6 cX6_keepsOffSea 4 (some .boolean) 4 93) 
    (w : EX Z 4 (QI Z post) 12 h [some (.ref 0), some (.int x1), some (.int ((h.1 (h.2 1) 0) - 1)), some (.int 0)] [])
    : EX Z 4 (QI Z post) 0 h [some (.ref 0), some (.int x1), none, none] [] := by
  refine ex_aload_n hX dX6_keepsOffSea_0 rfl rfl ?_
  refine ex_gg (fun c1 => ?_)
  refine ex_get hX (.ref (h.2 1)) FL_6_19 rfl (fun _ => rfl) dX6_keepsOffSea_1 ?_
  refine ex_get hX (.int (h.1 (h.2 1) 0)) FL_6_100 c1.1 (fun _ => rfl) dX6_keepsOffSea_4 ?_
  refine ex_iconst (v := 1) hX dX6_keepsOffSea_7 rfl ?_
  refine ex_isub hX dX6_keepsOffSea_8 ?_
  refine ex_istore_n (lv' := [some (.ref 0), some (.int x1), some (.int ((h.1 (h.2 1) 0) - 1)), none]) hX dX6_keepsOffSea_9 rfl (by decide) rfl ?_
  refine ex_iconst (v := 0) hX dX6_keepsOffSea_10 rfl ?_
  refine ex_istore_n (lv' := [some (.ref 0), some (.int x1), some (.int ((h.1 (h.2 1) 0) - 1)), some (.int 0)]) hX dX6_keepsOffSea_11 rfl (by decide) rfl ?_
  exact w

set_option maxRecDepth 100000 in
set_option maxHeartbeats 4000000 in
theorem sg_X6_keepsOffSea_12 {Z : CX × GX} {post : Int32 → AH → Prop} {h : AH} {x1 : Int32} {x2 : Int32} {x3 : Int32} (hX : OK Z RX6 cX6_keepsOffSea 4 (some .boolean) 4 93) 
    (w : ((x1 ≤ x3 → post 1 h) ∧ (¬ x1 ≤ x3 → (∃ PP : AH → Prop, CV yX3_passHour cX3_passHour 4 3 70 [.ref 42, .ref (h.2 1), .ref (h.2 3)] h PP ∧ ∀ u : AH, PP u → EX Z 4 (QI Z post) 32 u [some (.ref 0), some (.int x1), some (.int x2), some (.int x3)] []))))
    : EX Z 4 (QI Z post) 12 h [some (.ref 0), some (.int x1), some (.int x2), some (.int x3)] [] := by
  refine ex_iload_n hX dX6_keepsOffSea_12 rfl rfl ?_
  refine ex_iload_n hX dX6_keepsOffSea_13 rfl rfl ?_
  refine ex_icmpge hX 54 dX6_keepsOffSea_14 (by decide) (fun c1 => ?_) (fun c1 => ?_)
  · replace w := w.1 c1
    refine ex_iconst (v := 1) hX dX6_keepsOffSea_54 rfl ?_
    exact ex_iret hX dX6_keepsOffSea_55 rfl w
  · replace w := w.2 c1
    refine ex_aload_n hX dX6_keepsOffSea_17 rfl rfl ?_
    refine ex_get hX (.ref 42) FL_6_43 rfl (fun _ => rfl) dX6_keepsOffSea_18 ?_
    refine ex_aload_n hX dX6_keepsOffSea_21 rfl rfl ?_
    refine ex_gg (fun c2 => ?_)
    refine ex_get hX (.ref (h.2 1)) FL_6_19 rfl (fun _ => rfl) dX6_keepsOffSea_22 ?_
    refine ex_aload_n hX dX6_keepsOffSea_25 rfl rfl ?_
    refine ex_gg (fun c3 => ?_)
    refine ex_get hX (.ref (h.2 3)) FL_6_29 rfl (fun _ => rfl) dX6_keepsOffSea_26 ?_
    obtain ⟨PP, pM, pK⟩ := w
    exact ex_callVv (ci := 3) (i := 42) (As := [.ref (h.2 1), .ref (h.2 3)]) (st := []) hX pM CS_6_162 MS_X3_passHour rfl rfl rfl (by decide) rfl (Nat.le_of_ble_eq_true rfl) dX6_keepsOffSea_29 (fun u hp => pK u hp)

set_option maxRecDepth 100000 in
set_option maxHeartbeats 4000000 in
theorem sg_X6_keepsOffSea_32 {Z : CX × GX} {post : Int32 → AH → Prop} {h : AH} {x1 : Int32} {x2 : Int32} {x3 : Int32} (hX : OK Z RX6 cX6_keepsOffSea 4 (some .boolean) 4 93) 
    (w : (∃ PP : Int32 → AH → Prop, CI yX5_lyingIn cX5_lyingIn 4 (some .int) 0 0 [.ref (42 + 7), .int x2] h PP ∧ ∀ (r : Int32) (u : AH), PP r u → EX Z 4 (QI Z post) 43 u [some (.ref 0), some (.int x1), some (.int x2), some (.int x3)] (.int r :: [])))
    : EX Z 4 (QI Z post) 32 h [some (.ref 0), some (.int x1), some (.int x2), some (.int x3)] [] := by
  refine ex_aload_n hX dX6_keepsOffSea_32 rfl rfl ?_
  refine ex_get hX (.ref 42) FL_6_43 rfl (fun _ => rfl) dX6_keepsOffSea_33 ?_
  refine ex_get hX (.ref (42 + 7)) FL_6_111 rfl (fun _ => rfl) dX6_keepsOffSea_36 ?_
  refine ex_iload_n hX dX6_keepsOffSea_39 rfl rfl ?_
  obtain ⟨PP, pM, pK⟩ := w
  exact ex_callIv (ci := 5) (i := 42 + 7) (As := [.int x2]) (st := []) hX pM CS_6_140 MS_X5_lyingIn rfl (sh_3_7 rfl) rfl (by decide) rfl (Nat.le_of_ble_eq_true rfl) dX6_keepsOffSea_40 (fun r u hp => pK r u hp)

set_option maxRecDepth 100000 in
set_option maxHeartbeats 4000000 in
theorem sg_X6_keepsOffSea_43 {Z : CX × GX} {post : Int32 → AH → Prop} {h : AH} {x1 : Int32} {x2 : Int32} {x3 : Int32} {s0 : Int32} (hX : OK Z RX6 cX6_keepsOffSea 4 (some .boolean) 4 93) 
    (w : ((s0 = 0 → EX Z 4 (QI Z post) 12 h [some (.ref 0), some (.int x1), some (.int x2), some (.int (x3 + 1))] []) ∧ (¬ s0 = 0 → post 0 h)))
    : EX Z 4 (QI Z post) 43 h [some (.ref 0), some (.int x1), some (.int x2), some (.int x3)] [.int s0] := by
  refine ex_ifeq hX 48 dX6_keepsOffSea_43 (by decide) (fun c1 => ?_) (fun c1 => ?_)
  · replace w := w.1 c1
    refine ex_iinc (v := x3 + 1) (lv' := [some (.ref 0), some (.int x1), some (.int x2), some (.int (x3 + 1))]) hX dX6_keepsOffSea_48 rfl rfl (by decide) rfl ?_
    refine ex_goto hX 12 dX6_keepsOffSea_51 (by decide) ?_
    exact w
  · replace w := w.2 c1
    refine ex_iconst (v := 0) hX dX6_keepsOffSea_46 rfl ?_
    exact ex_iret hX dX6_keepsOffSea_47 rfl w

set_option maxRecDepth 100000 in
set_option maxHeartbeats 4000000 in
theorem sg_X6_stopped_0 {Z : CX × GX} {post : Int32 → AH → Prop} {h : AH} {x1 : Int32} (hX : OK Z RX6 cX6_stopped 4 (some .int) 5 123) 
    (w : ((x1 < 1 → post (-100000002) h) ∧ (¬ x1 < 1 → ((x1 ≤ 100 → ((¬ (h.1 (h.2 1) 0) = 0 → (∃ PP : Int32 → AH → Prop, CI yX5_lyingIn cX5_lyingIn 4 (some .int) 0 0 [.ref (27 + 7), .int ((h.1 (h.2 1) 0) - 1)] h PP ∧ ∀ (r : Int32) (u : AH), PP r u → EX Z 4 (QI Z post) 48 u [some (.ref 0), some (.int x1), some (.int ((h.1 (h.2 1) 0) - 1)), none] (.int r :: []))) ∧ ((h.1 (h.2 1) 0) = 0 → post (-100000003) h))) ∧ (¬ x1 ≤ 100 → post (-100000002) h)))))
    : EX Z 4 (QI Z post) 0 h [some (.ref 0), some (.int x1), none, none] [] := by
  refine ex_iload_n hX dX6_stopped_0 rfl rfl ?_
  refine ex_iconst (v := 1) hX dX6_stopped_1 rfl ?_
  refine ex_icmplt hX 11 dX6_stopped_2 (by decide) (fun c1 => ?_) (fun c1 => ?_)
  · replace w := w.1 c1
    refine ex_ldc hX dX6_stopped_11 KC_6_72 ?_
    exact ex_iret hX dX6_stopped_13 rfl w
  · replace w := w.2 c1
    refine ex_iload_n hX dX6_stopped_5 rfl rfl ?_
    refine ex_bipush (v := 100) hX dX6_stopped_6 rfl ?_
    refine ex_icmple hX 14 dX6_stopped_8 (by decide) (fun c2 => ?_) (fun c2 => ?_)
    · replace w := w.1 c2
      refine ex_aload_n hX dX6_stopped_14 rfl rfl ?_
      refine ex_gg (fun c3 => ?_)
      refine ex_get hX (.ref (h.2 1)) FL_6_19 rfl (fun _ => rfl) dX6_stopped_15 ?_
      refine ex_get hX (.int (h.1 (h.2 1) 0)) FL_6_100 c3.1 (fun _ => rfl) dX6_stopped_18 ?_
      refine ex_ifne hX 27 dX6_stopped_21 (by decide) (fun c4 => ?_) (fun c4 => ?_)
      · replace w := w.1 c4
        refine ex_aload_n hX dX6_stopped_27 rfl rfl ?_
        refine ex_gg (fun c5 => ?_)
        refine ex_get hX (.ref (h.2 1)) FL_6_19 rfl (fun _ => rfl) dX6_stopped_28 ?_
        refine ex_get hX (.int (h.1 (h.2 1) 0)) FL_6_100 c5.1 (fun _ => rfl) dX6_stopped_31 ?_
        refine ex_iconst (v := 1) hX dX6_stopped_34 rfl ?_
        refine ex_isub hX dX6_stopped_35 ?_
        refine ex_istore_n (lv' := [some (.ref 0), some (.int x1), some (.int ((h.1 (h.2 1) 0) - 1)), none]) hX dX6_stopped_36 rfl (by decide) rfl ?_
        refine ex_aload_n hX dX6_stopped_37 rfl rfl ?_
        refine ex_get hX (.ref 27) FL_6_39 rfl (fun _ => rfl) dX6_stopped_38 ?_
        refine ex_get hX (.ref (27 + 7)) FL_6_111 rfl (fun _ => rfl) dX6_stopped_41 ?_
        refine ex_iload_n hX dX6_stopped_44 rfl rfl ?_
        obtain ⟨PP, pM, pK⟩ := w
        exact ex_callIv (ci := 5) (i := 27 + 7) (As := [.int ((h.1 (h.2 1) 0) - 1)]) (st := []) hX pM CS_6_140 MS_X5_lyingIn rfl (sh_3_7 rfl) rfl (by decide) rfl (Nat.le_of_ble_eq_true rfl) dX6_stopped_45 (fun r u hp => pK r u hp)
      · replace w := w.2 c4
        refine ex_ldc hX dX6_stopped_24 KC_6_103 ?_
        exact ex_iret hX dX6_stopped_26 rfl w
    · replace w := w.2 c2
      refine ex_ldc hX dX6_stopped_11 KC_6_72 ?_
      exact ex_iret hX dX6_stopped_13 rfl w

set_option maxRecDepth 100000 in
set_option maxHeartbeats 4000000 in
theorem sg_X6_stopped_48 {Z : CX × GX} {post : Int32 → AH → Prop} {h : AH} {x1 : Int32} {x2 : Int32} {s0 : Int32} (hX : OK Z RX6 cX6_stopped 4 (some .int) 5 123) 
    (w : ((s0 = 0 → (∃ PP : AH → Prop, CV yX3_becomeAs cX3_becomeAs 2 3 102 [.ref 42, .ref 27] h PP ∧ ∀ u : AH, PP u → EX Z 4 (QI Z post) 64 u [some (.ref 0), some (.int x1), some (.int x2), none] [])) ∧ (¬ s0 = 0 → post (-1) h)))
    : EX Z 4 (QI Z post) 48 h [some (.ref 0), some (.int x1), some (.int x2), none] [.int s0] := by
  refine ex_ifeq hX 53 dX6_stopped_48 (by decide) (fun c1 => ?_) (fun c1 => ?_)
  · replace w := w.1 c1
    refine ex_aload_n hX dX6_stopped_53 rfl rfl ?_
    refine ex_get hX (.ref 42) FL_6_43 rfl (fun _ => rfl) dX6_stopped_54 ?_
    refine ex_aload_n hX dX6_stopped_57 rfl rfl ?_
    refine ex_get hX (.ref 27) FL_6_39 rfl (fun _ => rfl) dX6_stopped_58 ?_
    obtain ⟨PP, pM, pK⟩ := w
    exact ex_callVv (ci := 3) (i := 42) (As := [.ref 27]) (st := []) hX pM CS_6_198 MS_X3_becomeAs rfl rfl rfl (by decide) rfl (Nat.le_of_ble_eq_true rfl) dX6_stopped_61 (fun u hp => pK u hp)
  · replace w := w.2 c1
    refine ex_iconst (v := (-1)) hX dX6_stopped_51 rfl ?_
    exact ex_iret hX dX6_stopped_52 rfl w

set_option maxRecDepth 100000 in
set_option maxHeartbeats 4000000 in
theorem sg_X6_stopped_64 {Z : CX × GX} {post : Int32 → AH → Prop} {h : AH} {x1 : Int32} {x2 : Int32} (hX : OK Z RX6 cX6_stopped 4 (some .int) 5 123) 
    (w : (∃ PP : Int32 → AH → Prop, CI yX6_keepsOffSea cX6_keepsOffSea 4 (some .boolean) 4 93 [.ref 0, .int x1] h PP ∧ ∀ (r : Int32) (u : AH), PP r u → EX Z 4 (QI Z post) 69 u [some (.ref 0), some (.int x1), some (.int x2), none] (.int r :: [])))
    : EX Z 4 (QI Z post) 64 h [some (.ref 0), some (.int x1), some (.int x2), none] [] := by
  refine ex_aload_n hX dX6_stopped_64 rfl rfl ?_
  refine ex_iload_n hX dX6_stopped_65 rfl rfl ?_
  obtain ⟨PP, pM, pK⟩ := w
  exact ex_callIv (ci := 6) (i := 0) (As := [.int x1]) (st := []) hX pM CS_6_232 MS_X6_keepsOffSea rfl rfl rfl (by decide) rfl (Nat.le_of_ble_eq_true rfl) dX6_stopped_66 (fun r u hp => pK r u hp)

set_option maxRecDepth 100000 in
set_option maxHeartbeats 4000000 in
theorem sg_X6_stopped_69 {Z : CX × GX} {post : Int32 → AH → Prop} {h : AH} {x1 : Int32} {x2 : Int32} {s0 : Int32} (hX : OK Z RX6 cX6_stopped 4 (some .int) 5 123) 
    (w : ((s0 = 0 → EX Z 4 (QI Z post) 76 h [some (.ref 0), some (.int x1), some (.int x2), some (.int 0)] []) ∧ (¬ s0 = 0 → post 0 h)))
    : EX Z 4 (QI Z post) 69 h [some (.ref 0), some (.int x1), some (.int x2), none] [.int s0] := by
  refine ex_ifeq hX 74 dX6_stopped_69 (by decide) (fun c1 => ?_) (fun c1 => ?_)
  · replace w := w.1 c1
    refine ex_iconst (v := 0) hX dX6_stopped_74 rfl ?_
    refine ex_istore_n (lv' := [some (.ref 0), some (.int x1), some (.int x2), some (.int 0)]) hX dX6_stopped_75 rfl (by decide) rfl ?_
    exact w
  · replace w := w.2 c1
    refine ex_iconst (v := 0) hX dX6_stopped_72 rfl ?_
    exact ex_iret hX dX6_stopped_73 rfl w

set_option maxRecDepth 100000 in
set_option maxHeartbeats 4000000 in
theorem sg_X6_stopped_76 {Z : CX × GX} {post : Int32 → AH → Prop} {h : AH} {x1 : Int32} {x2 : Int32} {x3 : Int32} (hX : OK Z RX6 cX6_stopped 4 (some .int) 5 123) 
    (w : ((x2 ≤ x3 → post (-1) h) ∧ (¬ x2 ≤ x3 → (∃ PP : AH → Prop, CV yX3_becomeAs cX3_becomeAs 2 3 102 [.ref 42, .ref 27] h PP ∧ ∀ u : AH, PP u → EX Z 4 (QI Z post) 92 u [some (.ref 0), some (.int x1), some (.int x2), some (.int x3)] []))))
    : EX Z 4 (QI Z post) 76 h [some (.ref 0), some (.int x1), some (.int x2), some (.int x3)] [] := by
  refine ex_iload_n hX dX6_stopped_76 rfl rfl ?_
  refine ex_iload_n hX dX6_stopped_77 rfl rfl ?_
  refine ex_icmpge hX 119 dX6_stopped_78 (by decide) (fun c1 => ?_) (fun c1 => ?_)
  · replace w := w.1 c1
    refine ex_iconst (v := (-1)) hX dX6_stopped_119 rfl ?_
    exact ex_iret hX dX6_stopped_120 rfl w
  · replace w := w.2 c1
    refine ex_aload_n hX dX6_stopped_81 rfl rfl ?_
    refine ex_get hX (.ref 42) FL_6_43 rfl (fun _ => rfl) dX6_stopped_82 ?_
    refine ex_aload_n hX dX6_stopped_85 rfl rfl ?_
    refine ex_get hX (.ref 27) FL_6_39 rfl (fun _ => rfl) dX6_stopped_86 ?_
    obtain ⟨PP, pM, pK⟩ := w
    exact ex_callVv (ci := 3) (i := 42) (As := [.ref 27]) (st := []) hX pM CS_6_198 MS_X3_becomeAs rfl rfl rfl (by decide) rfl (Nat.le_of_ble_eq_true rfl) dX6_stopped_89 (fun u hp => pK u hp)

set_option maxRecDepth 100000 in
set_option maxHeartbeats 4000000 in
theorem sg_X6_stopped_92 {Z : CX × GX} {post : Int32 → AH → Prop} {h : AH} {x1 : Int32} {x2 : Int32} {x3 : Int32} (hX : OK Z RX6 cX6_stopped 4 (some .int) 5 123) 
    (w : (∃ PP : AH → Prop, CV yX3_holdGate cX3_holdGate 3 0 0 [.ref 42, .int x3, .int 0] h PP ∧ ∀ u : AH, PP u → EX Z 4 (QI Z post) 101 u [some (.ref 0), some (.int x1), some (.int x2), some (.int x3)] []))
    : EX Z 4 (QI Z post) 92 h [some (.ref 0), some (.int x1), some (.int x2), some (.int x3)] [] := by
  refine ex_aload_n hX dX6_stopped_92 rfl rfl ?_
  refine ex_get hX (.ref 42) FL_6_43 rfl (fun _ => rfl) dX6_stopped_93 ?_
  refine ex_iload_n hX dX6_stopped_96 rfl rfl ?_
  refine ex_iconst (v := 0) hX dX6_stopped_97 rfl ?_
  obtain ⟨PP, pM, pK⟩ := w
  exact ex_callVv (ci := 3) (i := 42) (As := [.int x3, .int 0]) (st := []) hX pM CS_6_235 MS_X3_holdGate rfl rfl rfl (by decide) rfl (Nat.le_of_ble_eq_true rfl) dX6_stopped_98 (fun u hp => pK u hp)

set_option maxRecDepth 100000 in
set_option maxHeartbeats 4000000 in
theorem sg_X6_stopped_101 {Z : CX × GX} {post : Int32 → AH → Prop} {h : AH} {x1 : Int32} {x2 : Int32} {x3 : Int32} (hX : OK Z RX6 cX6_stopped 4 (some .int) 5 123) 
    (w : (∃ PP : Int32 → AH → Prop, CI yX6_keepsOffSea cX6_keepsOffSea 4 (some .boolean) 4 93 [.ref 0, .int x1] h PP ∧ ∀ (r : Int32) (u : AH), PP r u → EX Z 4 (QI Z post) 106 u [some (.ref 0), some (.int x1), some (.int x2), some (.int x3)] (.int r :: [])))
    : EX Z 4 (QI Z post) 101 h [some (.ref 0), some (.int x1), some (.int x2), some (.int x3)] [] := by
  refine ex_aload_n hX dX6_stopped_101 rfl rfl ?_
  refine ex_iload_n hX dX6_stopped_102 rfl rfl ?_
  obtain ⟨PP, pM, pK⟩ := w
  exact ex_callIv (ci := 6) (i := 0) (As := [.int x1]) (st := []) hX pM CS_6_232 MS_X6_keepsOffSea rfl rfl rfl (by decide) rfl (Nat.le_of_ble_eq_true rfl) dX6_stopped_103 (fun r u hp => pK r u hp)

set_option maxRecDepth 100000 in
set_option maxHeartbeats 4000000 in
theorem sg_X6_stopped_106 {Z : CX × GX} {post : Int32 → AH → Prop} {h : AH} {x1 : Int32} {x2 : Int32} {x3 : Int32} {s0 : Int32} (hX : OK Z RX6 cX6_stopped 4 (some .int) 5 123) 
    (w : ((s0 = 0 → EX Z 4 (QI Z post) 76 h [some (.ref 0), some (.int x1), some (.int x2), some (.int (x3 + 1))] []) ∧ (¬ s0 = 0 → post (1 <<< (x3 &&& 31)) h)))
    : EX Z 4 (QI Z post) 106 h [some (.ref 0), some (.int x1), some (.int x2), some (.int x3)] [.int s0] := by
  refine ex_ifeq hX 113 dX6_stopped_106 (by decide) (fun c1 => ?_) (fun c1 => ?_)
  · replace w := w.1 c1
    refine ex_iinc (v := x3 + 1) (lv' := [some (.ref 0), some (.int x1), some (.int x2), some (.int (x3 + 1))]) hX dX6_stopped_113 rfl rfl (by decide) rfl ?_
    refine ex_goto hX 76 dX6_stopped_116 (by decide) ?_
    exact w
  · replace w := w.2 c1
    refine ex_iconst (v := 1) hX dX6_stopped_109 rfl ?_
    refine ex_iload_n hX dX6_stopped_110 rfl rfl ?_
    refine ex_ishl hX dX6_stopped_111 ?_
    exact ex_iret hX dX6_stopped_112 rfl w

set_option maxRecDepth 100000 in
set_option maxHeartbeats 4000000 in
theorem sg_X7_logsAtSea_0 {Z : CX × GX} {post : Int32 → AH → Prop} {h : AH} {x1 : Int32} (hX : OK Z RX7 cX7_logsAtSea 4 (some .int) 1 20) 
    (w : EX Z 4 (QI Z post) 4 h [some (.ref 94), some (.int x1), some (.int 0), some (.int 0)] [])
    : EX Z 4 (QI Z post) 0 h [some (.ref 94), some (.int x1), none, none] [] := by
  refine ex_iconst (v := 0) hX dX7_logsAtSea_0 rfl ?_
  refine ex_istore_n (lv' := [some (.ref 94), some (.int x1), some (.int 0), none]) hX dX7_logsAtSea_1 rfl (by decide) rfl ?_
  refine ex_iconst (v := 0) hX dX7_logsAtSea_2 rfl ?_
  refine ex_istore_n (lv' := [some (.ref 94), some (.int x1), some (.int 0), some (.int 0)]) hX dX7_logsAtSea_3 rfl (by decide) rfl ?_
  exact w

set_option maxRecDepth 100000 in
set_option maxHeartbeats 4000000 in
theorem sg_X7_logsAtSea_4 {Z : CX × GX} {post : Int32 → AH → Prop} {h : AH} {x1 : Int32} {x2 : Int32} {x3 : Int32} (hX : OK Z RX7 cX7_logsAtSea 4 (some .int) 1 20) 
    (w : (vp_in (x1 + 51) 800) ∧ (((h.1 95 (Int32.toNatClampNeg (x1 + 51))) ≤ x3 → post x2 h) ∧ (¬ (h.1 95 (Int32.toNatClampNeg (x1 + 51))) ≤ x3 → (vp_in ((x1 + 60) + x3) 800) ∧ (∀ v4 : Int32, v4 = h.1 95 (Int32.toNatClampNeg ((x1 + 60) + x3)) → EX Z 4 (QI Z post) 4 h [some (.ref 94), some (.int x1), some (.int (x2 + (bI (v4 = (h.1 94 9 - 1))))), some (.int (x3 + 1))] []))))
    : EX Z 4 (QI Z post) 4 h [some (.ref 94), some (.int x1), some (.int x2), some (.int x3)] [] := by
  refine ex_iload_n hX dX7_logsAtSea_4 rfl rfl ?_
  refine ex_aload_n hX dX7_logsAtSea_5 rfl rfl ?_
  refine ex_get hX (.ref 95) FL_7_7 rfl (fun _ => rfl) dX7_logsAtSea_6 ?_
  refine ex_iload_n hX dX7_logsAtSea_9 rfl rfl ?_
  refine ex_bipush (v := 51) hX dX7_logsAtSea_10 rfl ?_
  refine ex_iadd hX dX7_logsAtSea_12 ?_
  obtain ⟨q1, w⟩ := w
  refine ex_iald hX rfl q1 dX7_logsAtSea_13 ?_
  refine ex_icmpge hX 52 dX7_logsAtSea_14 (by decide) (fun c2 => ?_) (fun c2 => ?_)
  · replace w := w.1 c2
    refine ex_iload_n hX dX7_logsAtSea_52 rfl rfl ?_
    exact ex_iret hX dX7_logsAtSea_53 rfl w
  · replace w := w.2 c2
    refine ex_iload_n hX dX7_logsAtSea_17 rfl rfl ?_
    refine ex_aload_n hX dX7_logsAtSea_18 rfl rfl ?_
    refine ex_get hX (.ref 95) FL_7_7 rfl (fun _ => rfl) dX7_logsAtSea_19 ?_
    refine ex_iload_n hX dX7_logsAtSea_22 rfl rfl ?_
    refine ex_bipush (v := 60) hX dX7_logsAtSea_23 rfl ?_
    refine ex_iadd hX dX7_logsAtSea_25 ?_
    refine ex_iload_n hX dX7_logsAtSea_26 rfl rfl ?_
    refine ex_iadd hX dX7_logsAtSea_27 ?_
    obtain ⟨q3, w⟩ := w
    refine ex_iald hX rfl q3 dX7_logsAtSea_28 ?_
    refine ex_nameI (fun v4 ev4 => ?_)
    replace w := w v4 ev4
    refine ex_aload_n hX dX7_logsAtSea_29 rfl rfl ?_
    refine ex_pIv (ci := 7) (i := 94) (As := []) (st := [.int v4, .int x2]) hX (c_X7_sea (h := h)) CS_7_174 MS_X7_sea rfl rfl rfl (by decide) rfl (Nat.le_of_ble_eq_true rfl) dX7_logsAtSea_30 ?_
    have kc5 : EX Z 4 (QI Z post) 41 h [some (.ref 94), some (.int x1), none, some (.int x3)] [.int (bI (v4 = (h.1 94 9 - 1))), .int x2] := by
      refine ex_pIs (As := [.int (bI (v4 = (h.1 94 9 - 1)))]) (st := [.int x2]) hX (c_X7_oneB (h := h)) CS_7_125 MS_X7_one rfl (by decide) rfl (Nat.le_of_ble_eq_true rfl) dX7_logsAtSea_41 ?_
      refine ex_iadd hX dX7_logsAtSea_44 ?_
      refine ex_istore_n (lv' := [some (.ref 94), some (.int x1), some (.int (x2 + (bI (v4 = (h.1 94 9 - 1))))), some (.int x3)]) hX dX7_logsAtSea_45 rfl (by decide) rfl ?_
      refine ex_iinc (v := x3 + 1) (lv' := [some (.ref 94), some (.int x1), some (.int (x2 + (bI (v4 = (h.1 94 9 - 1))))), some (.int (x3 + 1))]) hX dX7_logsAtSea_46 rfl rfl (by decide) rfl ?_
      refine ex_goto hX 4 dX7_logsAtSea_49 (by decide) ?_
      exact w
    refine ex_icmpne hX 40 dX7_logsAtSea_33 (by decide) (fun c5 => ?_) (fun c5 => ?_)
    · refine ex_iconst (v := 0) hX dX7_logsAtSea_40 rfl ?_
      rw [show (bI (v4 = (h.1 94 9 - 1))) = 0 from bI_f c5] at kc5
      exact ex_forget [some (.ref 94), some (.int x1), none, some (.int x3)] ⟨rfl, ⟨rfl, ⟨rfl, trivial⟩⟩⟩ kc5
    · refine ex_iconst (v := 1) hX dX7_logsAtSea_36 rfl ?_
      refine ex_goto hX 41 dX7_logsAtSea_37 (by decide) ?_
      rw [show (bI (v4 = (h.1 94 9 - 1))) = 1 from bI_t c5] at kc5
      exact ex_forget [some (.ref 94), some (.int x1), none, some (.int x3)] ⟨rfl, ⟨rfl, ⟨rfl, trivial⟩⟩⟩ kc5

set_option maxRecDepth 100000 in
set_option maxHeartbeats 4000000 in
theorem sg_X7_stops_0 {Z : CX × GX} {post : Int32 → AH → Prop} {h : AH} {x1 : Int32} {x2 : Int32} (hX : OK Z RX7 cX7_stops 5 (some .boolean) 4 93) 
    (w : (∀ u1 : AH, u1 = (hset h.1 94 25 x1, h.2) → (∀ u2 : AH, u2 = (hset u1.1 94 26 0, u1.2) → (∃ PP : AH → Prop, CV yX7_copy cX7_copy 4 0 0 [.ref 94, .int 0, .int 200] u2 PP ∧ ∀ u : AH, PP u → EX Z 5 (QI Z post) 18 u [some (.ref 94), none, some (.int x2), none, none] []))))
    : EX Z 5 (QI Z post) 0 h [some (.ref 94), some (.int x1), some (.int x2), none, none] [] := by
  refine ex_aload_n hX dX7_stops_0 rfl rfl ?_
  refine ex_iload_n hX dX7_stops_1 rfl rfl ?_
  refine ex_put hX .int FL_7_195 tyX7 tyX7_ok nmX7 rfl rfl rfl rfl rfl (fun _ => (by decide : 25 < 33)) (fun _ => fs_7_25) dX7_stops_2 ?_
  refine ex_nameH (fun u1 eu1 => ?_)
  replace w := w u1 eu1
  refine ex_aload_n hX dX7_stops_5 rfl rfl ?_
  refine ex_iconst (v := 0) hX dX7_stops_6 rfl ?_
  refine ex_put hX .int FL_7_198 tyX7 tyX7_ok nmX7 rfl rfl rfl rfl rfl (fun _ => (by decide : 26 < 33)) (fun _ => fs_7_26) dX7_stops_7 ?_
  refine ex_nameH (fun u2 eu2 => ?_)
  replace w := w u2 eu2
  refine ex_aload_n hX dX7_stops_10 rfl rfl ?_
  refine ex_iconst (v := 0) hX dX7_stops_11 rfl ?_
  refine ex_sipush (v := 200) hX dX7_stops_12 rfl ?_
  obtain ⟨PP, pM, pK⟩ := w
  exact ex_callVv (ci := 7) (i := 94) (As := [.int 0, .int 200]) (st := []) hX pM CS_7_248 MS_X7_copy rfl rfl rfl (by decide) rfl (Nat.le_of_ble_eq_true rfl) dX7_stops_15 (fun u hp => ex_forget [some (.ref 94), none, some (.int x2), none, none] ⟨rfl, ⟨rfl, trivial⟩⟩ (pK u hp))

set_option maxRecDepth 100000 in
set_option maxHeartbeats 4000000 in
theorem sg_X7_stops_18 {Z : CX × GX} {post : Int32 → AH → Prop} {h : AH} {x2 : Int32} (hX : OK Z RX7 cX7_stops 5 (some .boolean) 4 93) 
    (w : EX Z 5 (QI Z post) 23 h [some (.ref 94), none, some (.int x2), some (.int 1), some (.int 0)] [])
    : EX Z 5 (QI Z post) 18 h [some (.ref 94), none, some (.int x2), none, none] [] := by
  refine ex_iconst (v := 1) hX dX7_stops_18 rfl ?_
  refine ex_istore_n (lv' := [some (.ref 94), none, some (.int x2), some (.int 1), none]) hX dX7_stops_19 rfl (by decide) rfl ?_
  refine ex_iconst (v := 0) hX dX7_stops_20 rfl ?_
  refine ex_istore (lv' := [some (.ref 94), none, some (.int x2), some (.int 1), some (.int 0)]) hX dX7_stops_21 (by decide) rfl ?_
  exact w

set_option maxRecDepth 100000 in
set_option maxHeartbeats 4000000 in
theorem sg_X7_stops_23 {Z : CX × GX} {post : Int32 → AH → Prop} {h : AH} {x2 : Int32} {x3 : Int32} {x4 : Int32} (hX : OK Z RX7 cX7_stops 5 (some .boolean) 4 93) 
    (w : ((x2 ≤ x4 → (∀ u2 : AH, u2 = (hset h.1 94 25 0, h.2) → (narrow .boolean (.int x3) = .int x3) ∧ post x3 u2)) ∧ (¬ x2 ≤ x4 → ((x3 = 0 → (∀ u5 : AH, u5 = (hset h.1 94 25 0, h.2) → (narrow .boolean (.int x3) = .int x3) ∧ post x3 u5)) ∧ (¬ x3 = 0 → (∃ PP : AH → Prop, CV yX7_pass cX7_pass 3 3 71 [.ref 94, .int 200] h PP ∧ ∀ u : AH, PP u → EX Z 5 (QI Z post) 40 u [some (.ref 94), none, some (.int x2), none, some (.int x4)] []))))))
    : EX Z 5 (QI Z post) 23 h [some (.ref 94), none, some (.int x2), some (.int x3), some (.int x4)] [] := by
  refine ex_iload hX dX7_stops_23 rfl ?_
  refine ex_iload_n hX dX7_stops_25 rfl rfl ?_
  refine ex_icmpge hX 62 dX7_stops_26 (by decide) (fun c1 => ?_) (fun c1 => ?_)
  · replace w := w.1 c1
    refine ex_aload_n hX dX7_stops_62 rfl rfl ?_
    refine ex_iconst (v := 0) hX dX7_stops_63 rfl ?_
    refine ex_put hX .int FL_7_195 tyX7 tyX7_ok nmX7 rfl rfl rfl rfl rfl (fun _ => (by decide : 25 < 33)) (fun _ => fs_7_25) dX7_stops_64 ?_
    refine ex_nameH (fun u2 eu2 => ?_)
    replace w := w u2 eu2
    refine ex_iload_n hX dX7_stops_67 rfl rfl ?_
    obtain ⟨q3, w⟩ := w
    exact ex_iret hX dX7_stops_68 q3 w
  · replace w := w.2 c1
    refine ex_iload_n hX dX7_stops_29 rfl rfl ?_
    refine ex_ifeq hX 62 dX7_stops_30 (by decide) (fun c4 => ?_) (fun c4 => ?_)
    · replace w := w.1 c4
      refine ex_aload_n hX dX7_stops_62 rfl rfl ?_
      refine ex_iconst (v := 0) hX dX7_stops_63 rfl ?_
      refine ex_put hX .int FL_7_195 tyX7 tyX7_ok nmX7 rfl rfl rfl rfl rfl (fun _ => (by decide : 25 < 33)) (fun _ => fs_7_25) dX7_stops_64 ?_
      refine ex_nameH (fun u5 eu5 => ?_)
      replace w := w u5 eu5
      refine ex_iload_n hX dX7_stops_67 rfl rfl ?_
      obtain ⟨q6, w⟩ := w
      exact ex_iret hX dX7_stops_68 q6 w
    · replace w := w.2 c4
      refine ex_aload_n hX dX7_stops_33 rfl rfl ?_
      refine ex_sipush (v := 200) hX dX7_stops_34 rfl ?_
      obtain ⟨PP, pM, pK⟩ := w
      exact ex_callVv (ci := 7) (i := 94) (As := [.int 200]) (st := []) hX pM CS_7_225 MS_X7_pass rfl rfl rfl (by decide) rfl (Nat.le_of_ble_eq_true rfl) dX7_stops_37 (fun u hp => ex_forget [some (.ref 94), none, some (.int x2), none, some (.int x4)] ⟨rfl, ⟨rfl, ⟨rfl, trivial⟩⟩⟩ (pK u hp))

set_option maxRecDepth 100000 in
set_option maxHeartbeats 4000000 in
theorem sg_X7_stops_40 {Z : CX × GX} {post : Int32 → AH → Prop} {h : AH} {x2 : Int32} {x4 : Int32} (hX : OK Z RX7 cX7_stops 5 (some .boolean) 4 93) 
    (w : (∃ PP : Int32 → AH → Prop, CI yX7_logsAtSea cX7_logsAtSea 4 (some .int) 1 20 [.ref 94, .int 200] h PP ∧ ∀ (r : Int32) (u : AH), PP r u → EX Z 5 (QI Z post) 47 u [some (.ref 94), none, some (.int x2), none, some (.int x4)] (.int r :: [])))
    : EX Z 5 (QI Z post) 40 h [some (.ref 94), none, some (.int x2), none, some (.int x4)] [] := by
  refine ex_aload_n hX dX7_stops_40 rfl rfl ?_
  refine ex_sipush (v := 200) hX dX7_stops_41 rfl ?_
  obtain ⟨PP, pM, pK⟩ := w
  exact ex_callIv (ci := 7) (i := 94) (As := [.int 200]) (st := []) hX pM CS_7_277 MS_X7_logsAtSea rfl rfl rfl (by decide) rfl (Nat.le_of_ble_eq_true rfl) dX7_stops_44 (fun r u hp => pK r u hp)

set_option maxRecDepth 100000 in
set_option maxHeartbeats 4000000 in
theorem sg_X7_stops_47 {Z : CX × GX} {post : Int32 → AH → Prop} {h : AH} {x2 : Int32} {x4 : Int32} {s0 : Int32} (hX : OK Z RX7 cX7_stops 5 (some .boolean) 4 93) 
    (w : EX Z 5 (QI Z post) 23 h [some (.ref 94), none, some (.int x2), some (.int (bI (s0 = 0))), some (.int (x4 + 1))] [])
    : EX Z 5 (QI Z post) 47 h [some (.ref 94), none, some (.int x2), none, some (.int x4)] [.int s0] := by
  have kc1 : EX Z 5 (QI Z post) 55 h [some (.ref 94), none, some (.int x2), none, some (.int x4)] [.int (bI (s0 = 0))] := by
    refine ex_istore_n (lv' := [some (.ref 94), none, some (.int x2), some (.int (bI (s0 = 0))), some (.int x4)]) hX dX7_stops_55 rfl (by decide) rfl ?_
    refine ex_iinc (v := x4 + 1) (lv' := [some (.ref 94), none, some (.int x2), some (.int (bI (s0 = 0))), some (.int (x4 + 1))]) hX dX7_stops_56 rfl rfl (by decide) rfl ?_
    refine ex_goto hX 23 dX7_stops_59 (by decide) ?_
    exact w
  refine ex_ifne hX 54 dX7_stops_47 (by decide) (fun c1 => ?_) (fun c1 => ?_)
  · refine ex_iconst (v := 0) hX dX7_stops_54 rfl ?_
    rw [show (bI (s0 = 0)) = 0 from bI_f c1] at kc1
    exact ex_forget [some (.ref 94), none, some (.int x2), none, some (.int x4)] ⟨rfl, ⟨rfl, ⟨rfl, trivial⟩⟩⟩ kc1
  · refine ex_iconst (v := 1) hX dX7_stops_50 rfl ?_
    refine ex_goto hX 55 dX7_stops_51 (by decide) ?_
    rw [show (bI (s0 = 0)) = 1 from bI_t c1] at kc1
    exact ex_forget [some (.ref 94), none, some (.int x2), none, some (.int x4)] ⟨rfl, ⟨rfl, ⟨rfl, trivial⟩⟩⟩ kc1

set_option maxRecDepth 100000 in
set_option maxHeartbeats 4000000 in
theorem sg_X7_ones_0 {Z : CX × GX} {post : Int32 → AH → Prop} {h : AH} {x0 : Int32} (hX : OK Z RX7 cX7_ones 3 (some .int) 0 0) 
    (w : EX Z 3 (QI Z post) 4 h [some (.int x0), some (.int 0), some (.int 0)] [])
    : EX Z 3 (QI Z post) 0 h [some (.int x0), none, none] [] := by
  refine ex_iconst (v := 0) hX dX7_ones_0 rfl ?_
  refine ex_istore_n (lv' := [some (.int x0), some (.int 0), none]) hX dX7_ones_1 rfl (by decide) rfl ?_
  refine ex_iconst (v := 0) hX dX7_ones_2 rfl ?_
  refine ex_istore_n (lv' := [some (.int x0), some (.int 0), some (.int 0)]) hX dX7_ones_3 rfl (by decide) rfl ?_
  exact w

set_option maxRecDepth 100000 in
set_option maxHeartbeats 4000000 in
theorem sg_X7_ones_4 {Z : CX × GX} {post : Int32 → AH → Prop} {h : AH} {x0 : Int32} {x1 : Int32} {x2 : Int32} (hX : OK Z RX7 cX7_ones 3 (some .int) 0 0) 
    (w : ((9 ≤ x2 → post x1 h) ∧ (¬ 9 ≤ x2 → EX Z 3 (QI Z post) 4 h [some (.int x0), some (.int (x1 + ((x0 >>> (x2 &&& 31)) &&& 1))), some (.int (x2 + 1))] [])))
    : EX Z 3 (QI Z post) 4 h [some (.int x0), some (.int x1), some (.int x2)] [] := by
  refine ex_iload_n hX dX7_ones_4 rfl rfl ?_
  refine ex_bipush (v := 9) hX dX7_ones_5 rfl ?_
  refine ex_icmpge hX 24 dX7_ones_7 (by decide) (fun c1 => ?_) (fun c1 => ?_)
  · replace w := w.1 c1
    refine ex_iload_n hX dX7_ones_24 rfl rfl ?_
    exact ex_iret hX dX7_ones_25 rfl w
  · replace w := w.2 c1
    refine ex_iload_n hX dX7_ones_10 rfl rfl ?_
    refine ex_iload_n hX dX7_ones_11 rfl rfl ?_
    refine ex_iload_n hX dX7_ones_12 rfl rfl ?_
    refine ex_ishr hX dX7_ones_13 ?_
    refine ex_iconst (v := 1) hX dX7_ones_14 rfl ?_
    refine ex_iand hX dX7_ones_15 ?_
    refine ex_iadd hX dX7_ones_16 ?_
    refine ex_istore_n (lv' := [some (.int x0), some (.int (x1 + ((x0 >>> (x2 &&& 31)) &&& 1))), some (.int x2)]) hX dX7_ones_17 rfl (by decide) rfl ?_
    refine ex_iinc (v := x2 + 1) (lv' := [some (.int x0), some (.int (x1 + ((x0 >>> (x2 &&& 31)) &&& 1))), some (.int (x2 + 1))]) hX dX7_ones_18 rfl rfl (by decide) rfl ?_
    refine ex_goto hX 4 dX7_ones_21 (by decide) ?_
    exact w

set_option maxRecDepth 100000 in
set_option maxHeartbeats 4000000 in
theorem sg_X7_stopped_0 {Z : CX × GX} {post : Int32 → AH → Prop} {h : AH} {x1 : Int32} (hX : OK Z RX7 cX7_stopped 4 (some .int) 5 117) 
    (w : (((1 ≤ (Int32.toInt64 x1) ∧ (Int32.toInt64 x1) ≤ 100) → ((¬ (h.1 94 9) = 0 → (∃ PP : Int32 → AH → Prop, CI yX7_logsAtSea cX7_logsAtSea 4 (some .int) 1 20 [.ref 94, .int 0] h PP ∧ ∀ (r : Int32) (u : AH), PP r u → EX Z 4 (QI Z post) 30 u [some (.ref 94), some (.int x1), none, none] (.int r :: []))) ∧ ((h.1 94 9) = 0 → post (-100000003) h))) ∧ (¬ (1 ≤ (Int32.toInt64 x1) ∧ (Int32.toInt64 x1) ≤ 100) → post (-100000002) h)))
    : EX Z 4 (QI Z post) 0 h [some (.ref 94), some (.int x1), none, none] [] := by
  refine ex_iload_n hX dX7_stopped_0 rfl rfl ?_
  refine ex_i2l hX dX7_stopped_1 ?_
  refine ex_lconst (v := 1) hX dX7_stopped_2 rfl ?_
  refine ex_ldc2 hX dX7_stopped_3 KL_7_239 ?_
  refine ex_pIs (As := [.long (Int32.toInt64 x1), .long 1, .long 100]) (st := []) hX (c_X7_in (h := h)) CS_7_71 MS_X7_in rfl (by decide) rfl (Nat.le_of_ble_eq_true rfl) dX7_stopped_6 ?_
  refine ex_ifneB hX 15 dX7_stopped_9 (by decide) (fun c1 => ?_) (fun c1 => ?_)
  · replace w := w.1 c1
    refine ex_aload_n hX dX7_stopped_15 rfl rfl ?_
    refine ex_get hX (.int (h.1 94 9)) FL_7_161 rfl (fun _ => rfl) dX7_stopped_16 ?_
    refine ex_ifne hX 25 dX7_stopped_19 (by decide) (fun c2 => ?_) (fun c2 => ?_)
    · replace w := w.1 c2
      refine ex_aload_n hX dX7_stopped_25 rfl rfl ?_
      refine ex_iconst (v := 0) hX dX7_stopped_26 rfl ?_
      obtain ⟨PP, pM, pK⟩ := w
      exact ex_callIv (ci := 7) (i := 94) (As := [.int 0]) (st := []) hX pM CS_7_277 MS_X7_logsAtSea rfl rfl rfl (by decide) rfl (Nat.le_of_ble_eq_true rfl) dX7_stopped_27 (fun r u hp => pK r u hp)
    · replace w := w.2 c2
      refine ex_ldc hX dX7_stopped_22 KC_7_170 ?_
      exact ex_iret hX dX7_stopped_24 rfl w
  · replace w := w.2 c1
    refine ex_ldc hX dX7_stopped_12 KC_7_75 ?_
    exact ex_iret hX dX7_stopped_14 rfl w

set_option maxRecDepth 100000 in
set_option maxHeartbeats 4000000 in
theorem sg_X7_stopped_30 {Z : CX × GX} {post : Int32 → AH → Prop} {h : AH} {x1 : Int32} {s0 : Int32} (hX : OK Z RX7 cX7_stopped 4 (some .int) 5 117) 
    (w : ((s0 ≤ 0 → EX Z 4 (QI Z post) 39 h [some (.ref 94), some (.int x1), some (.int (-1)), some (.int 0)] []) ∧ (¬ s0 ≤ 0 → post (-1) h)))
    : EX Z 4 (QI Z post) 30 h [some (.ref 94), some (.int x1), none, none] [.int s0] := by
  refine ex_ifle hX 35 dX7_stopped_30 (by decide) (fun c1 => ?_) (fun c1 => ?_)
  · replace w := w.1 c1
    refine ex_iconst (v := (-1)) hX dX7_stopped_35 rfl ?_
    refine ex_istore_n (lv' := [some (.ref 94), some (.int x1), some (.int (-1)), none]) hX dX7_stopped_36 rfl (by decide) rfl ?_
    refine ex_iconst (v := 0) hX dX7_stopped_37 rfl ?_
    refine ex_istore_n (lv' := [some (.ref 94), some (.int x1), some (.int (-1)), some (.int 0)]) hX dX7_stopped_38 rfl (by decide) rfl ?_
    exact w
  · replace w := w.2 c1
    refine ex_iconst (v := (-1)) hX dX7_stopped_33 rfl ?_
    exact ex_iret hX dX7_stopped_34 rfl w

set_option maxRecDepth 100000 in
set_option maxHeartbeats 4000000 in
theorem sg_X7_stopped_39 {Z : CX × GX} {post : Int32 → AH → Prop} {h : AH} {x1 : Int32} {x2 : Int32} {x3 : Int32} (hX : OK Z RX7 cX7_stopped 4 (some .int) 5 117) 
    (w : (((1 <<< (((h.1 94 9) - 1) &&& 31)) ≤ x3 → post x2 h) ∧ (¬ (1 <<< (((h.1 94 9) - 1) &&& 31)) ≤ x3 → ((x2 < 0 → (∃ PP : Int32 → AH → Prop, CI yX7_stops cX7_stops 5 (some .boolean) 4 93 [.ref 94, .int x3, .int x1] h PP ∧ ∀ (r : Int32) (u : AH), PP r u → EX Z 4 (QI Z post) 72 u [some (.ref 94), some (.int x1), some (.int x2), some (.int x3)] (.int r :: []))) ∧ (¬ x2 < 0 → (∃ PP : Int32 → AH → Prop, CI yX7_ones cX7_ones 3 (some .int) 0 0 [.int x3] h PP ∧ ∀ (r : Int32) (u : AH), PP r u → EX Z 4 (QI Z post) 59 u [some (.ref 94), some (.int x1), some (.int x2), some (.int x3)] (.int r :: [])))))))
    : EX Z 4 (QI Z post) 39 h [some (.ref 94), some (.int x1), some (.int x2), some (.int x3)] [] := by
  refine ex_iload_n hX dX7_stopped_39 rfl rfl ?_
  refine ex_iconst (v := 1) hX dX7_stopped_40 rfl ?_
  refine ex_aload_n hX dX7_stopped_41 rfl rfl ?_
  refine ex_get hX (.int (h.1 94 9)) FL_7_161 rfl (fun _ => rfl) dX7_stopped_42 ?_
  refine ex_iconst (v := 1) hX dX7_stopped_45 rfl ?_
  refine ex_isub hX dX7_stopped_46 ?_
  refine ex_ishl hX dX7_stopped_47 ?_
  refine ex_icmpge hX 87 dX7_stopped_48 (by decide) (fun c1 => ?_) (fun c1 => ?_)
  · replace w := w.1 c1
    refine ex_iload_n hX dX7_stopped_87 rfl rfl ?_
    exact ex_iret hX dX7_stopped_88 rfl w
  · replace w := w.2 c1
    refine ex_iload_n hX dX7_stopped_51 rfl rfl ?_
    refine ex_iflt hX 66 dX7_stopped_52 (by decide) (fun c2 => ?_) (fun c2 => ?_)
    · replace w := w.1 c2
      refine ex_aload_n hX dX7_stopped_66 rfl rfl ?_
      refine ex_iload_n hX dX7_stopped_67 rfl rfl ?_
      refine ex_iload_n hX dX7_stopped_68 rfl rfl ?_
      obtain ⟨PP, pM, pK⟩ := w
      exact ex_callIv (ci := 7) (i := 94) (As := [.int x3, .int x1]) (st := []) hX pM CS_7_283 MS_X7_stops rfl rfl rfl (by decide) rfl (Nat.le_of_ble_eq_true rfl) dX7_stopped_69 (fun r u hp => pK r u hp)
    · replace w := w.2 c2
      refine ex_iload_n hX dX7_stopped_55 rfl rfl ?_
      obtain ⟨PP, pM, pK⟩ := w
      exact ex_callIs (As := [.int x3]) (st := []) hX pM CS_7_280 MS_X7_ones rfl (by decide) rfl (Nat.le_of_ble_eq_true rfl) dX7_stopped_56 (fun r u hp => pK r u hp)

set_option maxRecDepth 100000 in
set_option maxHeartbeats 4000000 in
theorem sg_X7_stopped_59 {Z : CX × GX} {post : Int32 → AH → Prop} {h : AH} {x1 : Int32} {x2 : Int32} {x3 : Int32} {s0 : Int32} (hX : OK Z RX7 cX7_stopped 4 (some .int) 5 117) 
    (w : (∃ PP : Int32 → AH → Prop, CI yX7_ones cX7_ones 3 (some .int) 0 0 [.int x2] h PP ∧ ∀ (r : Int32) (u : AH), PP r u → EX Z 4 (QI Z post) 63 u [some (.ref 94), some (.int x1), some (.int x2), some (.int x3)] (.int r :: [.int s0])))
    : EX Z 4 (QI Z post) 59 h [some (.ref 94), some (.int x1), some (.int x2), some (.int x3)] [.int s0] := by
  refine ex_iload_n hX dX7_stopped_59 rfl rfl ?_
  obtain ⟨PP, pM, pK⟩ := w
  exact ex_callIs (As := [.int x2]) (st := [.int s0]) hX pM CS_7_280 MS_X7_ones rfl (by decide) rfl (Nat.le_of_ble_eq_true rfl) dX7_stopped_60 (fun r u hp => pK r u hp)

set_option maxRecDepth 100000 in
set_option maxHeartbeats 4000000 in
theorem sg_X7_stopped_63 {Z : CX × GX} {post : Int32 → AH → Prop} {h : AH} {x1 : Int32} {x2 : Int32} {x3 : Int32} {s0 : Int32} {s1 : Int32} (hX : OK Z RX7 cX7_stopped 4 (some .int) 5 117) 
    (w : ((s0 ≤ s1 → EX Z 4 (QI Z post) 39 h [some (.ref 94), some (.int x1), some (.int x2), some (.int (x3 + 1))] []) ∧ (¬ s0 ≤ s1 → (∃ PP : Int32 → AH → Prop, CI yX7_stops cX7_stops 5 (some .boolean) 4 93 [.ref 94, .int x3, .int x1] h PP ∧ ∀ (r : Int32) (u : AH), PP r u → EX Z 4 (QI Z post) 72 u [some (.ref 94), some (.int x1), some (.int x2), some (.int x3)] (.int r :: [])))))
    : EX Z 4 (QI Z post) 63 h [some (.ref 94), some (.int x1), some (.int x2), some (.int x3)] [.int s0, .int s1] := by
  refine ex_icmpge hX 79 dX7_stopped_63 (by decide) (fun c1 => ?_) (fun c1 => ?_)
  · replace w := w.1 c1
    refine ex_iload_n hX dX7_stopped_79 rfl rfl ?_
    refine ex_istore_n (lv' := [some (.ref 94), some (.int x1), some (.int x2), some (.int x3)]) hX dX7_stopped_80 rfl (by decide) rfl ?_
    refine ex_iinc (v := x3 + 1) (lv' := [some (.ref 94), some (.int x1), some (.int x2), some (.int (x3 + 1))]) hX dX7_stopped_81 rfl rfl (by decide) rfl ?_
    refine ex_goto hX 39 dX7_stopped_84 (by decide) ?_
    exact w
  · replace w := w.2 c1
    refine ex_aload_n hX dX7_stopped_66 rfl rfl ?_
    refine ex_iload_n hX dX7_stopped_67 rfl rfl ?_
    refine ex_iload_n hX dX7_stopped_68 rfl rfl ?_
    obtain ⟨PP, pM, pK⟩ := w
    exact ex_callIv (ci := 7) (i := 94) (As := [.int x3, .int x1]) (st := []) hX pM CS_7_283 MS_X7_stops rfl rfl rfl (by decide) rfl (Nat.le_of_ble_eq_true rfl) dX7_stopped_69 (fun r u hp => pK r u hp)

set_option maxRecDepth 100000 in
set_option maxHeartbeats 4000000 in
theorem sg_X7_stopped_72 {Z : CX × GX} {post : Int32 → AH → Prop} {h : AH} {x1 : Int32} {x2 : Int32} {x3 : Int32} {s0 : Int32} (hX : OK Z RX7 cX7_stopped 4 (some .int) 5 117) 
    (w : EX Z 4 (QI Z post) 39 h [some (.ref 94), some (.int x1), some (.int (if s0 = 0 then (x2 : Int32) else x3)), some (.int (x3 + 1))] [])
    : EX Z 4 (QI Z post) 72 h [some (.ref 94), some (.int x1), some (.int x2), some (.int x3)] [.int s0] := by
  have kc1 : EX Z 4 (QI Z post) 80 h [some (.ref 94), some (.int x1), none, some (.int x3)] [.int (if s0 = 0 then (x2 : Int32) else x3)] := by
    refine ex_istore_n (lv' := [some (.ref 94), some (.int x1), some (.int (if s0 = 0 then (x2 : Int32) else x3)), some (.int x3)]) hX dX7_stopped_80 rfl (by decide) rfl ?_
    refine ex_iinc (v := x3 + 1) (lv' := [some (.ref 94), some (.int x1), some (.int (if s0 = 0 then (x2 : Int32) else x3)), some (.int (x3 + 1))]) hX dX7_stopped_81 rfl rfl (by decide) rfl ?_
    refine ex_goto hX 39 dX7_stopped_84 (by decide) ?_
    exact w
  refine ex_ifeq hX 79 dX7_stopped_72 (by decide) (fun c1 => ?_) (fun c1 => ?_)
  · refine ex_iload_n hX dX7_stopped_79 rfl rfl ?_
    rw [show (if s0 = 0 then (x2 : Int32) else x3) = x2 from if_pos c1] at kc1
    exact ex_forget [some (.ref 94), some (.int x1), none, some (.int x3)] ⟨rfl, ⟨rfl, ⟨rfl, trivial⟩⟩⟩ kc1
  · refine ex_iload_n hX dX7_stopped_75 rfl rfl ?_
    refine ex_goto hX 80 dX7_stopped_76 (by decide) ?_
    rw [show (if s0 = 0 then (x2 : Int32) else x3) = x3 from if_neg c1] at kc1
    exact ex_forget [some (.ref 94), some (.int x1), none, some (.int x3)] ⟨rfl, ⟨rfl, ⟨rfl, trivial⟩⟩⟩ kc1

theorem or_z {a b : Int32} : a ||| b = 0 ↔ a = 0 ∧ b = 0 := by
  rw [← Int32.toBitVec_inj, ← Int32.toBitVec_inj, ← Int32.toBitVec_inj, Int32.toBitVec_or]
  exact BitVec.or_eq_zero_iff
theorem one_n0 : ∀ l, l < 12 → ¬ ((1 : Int32) <<< (nI l &&& 31)) = 0 := by decide +kernel
theorem lg0 {τ : SG} {k : Int32} : ∀ m, m ≤ 12 → (lgS τ k m = 0 ↔ ∀ l, l < m → ¬ τ (60 + l) = k) := by
  intro m
  induction m with
  | zero => exact fun _ => ⟨fun _ l hl => absurd hl (by omega), fun _ => rfl⟩
  | succ m ih =>
    intro hm
    rw [lgS]
    by_cases c : τ (60 + m) = k
    · rw [if_pos c, or_z]
      exact ⟨fun z => absurd z.2 (one_n0 m (by omega)), fun z => absurd c (z m (by omega))⟩
    · rw [if_neg c, ih (by omega)]
      refine ⟨fun z l hl => ?_, fun z l hl => z l (by omega)⟩
      by_cases d : l = m
      · rw [d]; exact c
      · exact z l (by omega)
def seaB (P : PR) (τ : SG) : Bool := decide (¬ lgS τ (nI (pn P - 1)) (τ 51).toNatClampNeg = 0)
def stopB (P : PR) (σ : SG) (H : Int32) : Nat → Bool
  | 0 => true
  | m + 1 => stopB P σ H m && !(seaB P (hoursS P H 0 (m + 1) σ))
theorem stop_mono {P : PR} {σ : SG} {H : Int32} {j : Nat} (h : stopB P σ H j = false) : ∀ m, j ≤ m → stopB P σ H m = false := by
  intro m
  induction m with
  | zero => intro z; have : j = 0 := by omega
            rw [this] at h; exact h
  | succ m ih =>
    intro z
    by_cases c : j = m + 1
    · rw [← c]; exact h
    · rw [stopB, ih (by omega), Bool.false_and]
/-- the last gate, shut, stops every log -/
theorem hour_shut {P : PR} {σ : SG} {H : Int32} {B : Int} {T : Nat} (hP : POK P) (hS : SOK P B T σ) (hB : B ≤ 1073741824) (hT : T < 2147483646) (hb : heldB H (pn P - 2)) (hz : seaB P σ = false) : seaB P (hourS P H 0 σ) = false := by
  obtain ⟨h0, hs, ⟨t, ht, h50⟩, ⟨c, hc12, h51, hlog⟩, hwid⟩ := id hS
  have hn := hP.1
  have hh : ∃ w : Nat, w ≤ 9 ∧ (0 : Int32) = nI w := i0
  generalize hσ1 : setS P H 0 σ = σ1
  have w1 := setS_wid (H := H) hP hh hwid
  rw [hσ1] at w1
  have o1 : ∀ j, j < 10 ∨ 19 ≤ j → σ1 j = σ j := fun j hj => by rw [← hσ1]; exact setS_off hP hj
  have h01 : ∀ k, k < pn P - 1 → 0 ≤ (σ1 k).toInt := fun k hk => by rw [o1 k (by omega)]; exact h0 k hk
  have hs1 : sumW (pn P - 1) σ1 ≤ B := by rw [sumW_congr (fun j hj => o1 j (by omega))]; exact hs
  have z1 : σ1 (10 + (pn P - 2)) = 0 := by
    rw [← hσ1]
    unfold setS
    rw [if_pos (by omega), show 10 + (pn P - 2) - 10 = pn P - 2 by omega]
    exact if_pos hb
  obtain ⟨n, en⟩ : ∃ n, pn P = n + 2 := ⟨pn P - 2, by omega⟩
  have hτ := (flowS_ok (m := n) (B := B) hn.2 (fun k hk => lev_nn hP h01 hs1 hB (by rw [o1 50 (by omega)]; exact h50) (by omega) hk) w1 h01 hs1 hB (by omega)).1 n (by omega)
  generalize hσ2 : flowS P (levS P σ1) (pn P - 1) σ1 = σ2
  have f2 : σ2 (20 + n) = 0 := by
    rw [← hσ2, show pn P - 1 = n + 1 by omega, flowS]
    have zt : flowS P (levS P σ1) n σ1 (10 + n) = 0 := by rw [flowS_off (by omega) (by omega), ← z1, en]; rfl
    generalize flowS P (levS P σ1) n σ1 = τ at hτ zt
    have ev : flowV P (levS P σ1) n τ = 0 := by
      unfold flowV
      rw [zt]
      have m0 : (levS P σ1 n - levS P σ1 (n + 1)).toInt64 * (0 : Int32).toInt64 = 0 := by rw [show (0 : Int32).toInt64 = 0 from rfl, Int64.mul_zero]
      dsimp only
      rw [m0, if_pos (show n + 1 = pn P - 1 by omega), if_neg, if_neg (by decide)]
      · rfl
      · rw [Int64.lt_iff_toInt_lt, Int32.toInt_toInt64, zi_zL]; omega
    unfold flow1
    rw [upd_ne (by omega), upd_ne (by omega), upd_ne (by omega), upd_ne (by omega), upd_eq, ev]
  have o2 : ∀ j, 49 ≤ j → σ2 j = σ j := fun j hj => by rw [← hσ2, flowS_off (by omega) (by omega)]; exact o1 j (by omega)
  have hlog2 : ∀ l, l < c → (∃ k : Nat, k < pn P ∧ σ2 (60 + l) = nI k) ∧ 0 < σ2 (72 + l) := fun l hl => by rw [o2 _ (by omega), o2 _ (by omega)]; exact hlog l hl
  have e51 : (σ2 51).toNatClampNeg = c := by rw [o2 51 (by omega), h51, nI_clamp (by omega)]
  have hz2 : ∀ l, l < c → ¬ σ2 (60 + l) = nI (pn P - 1) := by
    have := of_decide_eq_false hz
    rw [h51, nI_clamp (by omega), Classical.not_not, lg0 c hc12] at this
    intro l hl
    rw [o2 _ (by omega)]
    exact this l hl
  have L : ∀ m, m ≤ c → ∀ l, l < c → (∃ k : Nat, k < pn P ∧ logsS P m σ2 (60 + l) = nI k) ∧ ¬ logsS P m σ2 (60 + l) = nI (pn P - 1) := by
    intro m
    induction m with
    | zero => exact fun _ l hl => ⟨(hlog2 l hl).1, hz2 l hl⟩
    | succ m ih =>
      intro hm l hl
      rw [logsS]
      by_cases e : l = m
      · subst e
        obtain ⟨⟨q, hq, eq⟩, nq⟩ := ih (by omega) l hl
        have wt : 0 < logsS P l σ2 (72 + l) := by rw [logsS_off (by omega) (by omega)]; exact (hlog2 l hl).2
        have qn : q < n + 1 := by
          rcases Nat.lt_or_ge q (n + 1) with d | d
          · exact d
          · exact absurd (by rw [eq, show q = pn P - 1 by omega]) nq
        have ff : logsS P l σ2 (20 + n) = 0 := by rw [logsS_off (by omega) (by omega)]; exact f2
        generalize logsS P l σ2 = τ at eq wt ff
        unfold log1
        dsimp only
        rw [eq, nI_clamp (by omega)]
        rcases wayS_cases (P := P) (σ := τ) wt hq with ⟨ew, k1⟩ | ⟨ew, k1⟩ | ew
        · rw [ew, if_neg (by decide), upd_ne (by omega), upd_eq, nI_1]
          have qn2 : q ≠ n := by
            intro z
            subst z
            have : wayS P τ q (τ (72 + l)) ≠ 1 := by
              unfold wayS
              dsimp only
              rw [if_neg (show ¬ q = pn P - 1 by omega), ff, if_neg (fun y => Int32.not_le.mpr wt y.1)]
              split <;> split <;> decide
            exact this ew
          exact ⟨⟨q + 1, by omega, rfl⟩, fun z => by rw [nI_eq (by omega) (by omega)] at z; omega⟩
        · rw [ew, if_neg (by decide), upd_ne (by omega), upd_eq]
          obtain ⟨r, rfl⟩ : ∃ r, q = r + 1 := ⟨q - 1, by omega⟩
          rw [pk_m1 r]
          exact ⟨⟨r, by omega, rfl⟩, fun z => by rw [nI_eq (by omega) (by omega)] at z; omega⟩
        · rw [ew, if_pos rfl, eq]
          exact ⟨⟨q, hq, rfl⟩, fun z => by rw [nI_eq (by omega) (by omega)] at z; omega⟩
      · rw [log1_off (by omega)]
        exact ih (by omega) l hl
  generalize hσ3 : logsS P c σ2 = σ3
  have hh' : hourS P H 0 σ = upd (rainS P σ3) 50 (rainS P σ3 50 + 1) := by
    unfold hourS
    dsimp only
    rw [hσ1, hσ2, e51, hσ3]
  have o4 : ∀ j, j ≠ 0 → j ≠ 50 → upd (rainS P σ3) 50 (rainS P σ3 50 + 1) j = σ3 j := fun j h1 h2 => by rw [upd_ne h2]; exact rainS_off h1
  have g51 : (hourS P H 0 σ 51).toNatClampNeg = c := by rw [hh', o4 51 (by omega) (by omega), ← hσ3, logsS_off (by omega) (by omega), e51]
  unfold seaB
  rw [g51]
  refine decide_eq_false (fun z => z ((lg0 c hc12).mpr (fun l hl => ?_)))
  rw [hh', o4 _ (by omega) (by omega), ← hσ3]
  exact (L c (Nat.le_refl _) l hl).2
theorem shut_all {P : PR} {σ : SG} {N : Nat} (hP : POK P) (hS : SOK P (2000000 * (N : Int)) (200 * N) σ) (hN : N ≤ 511) (hz : seaB P σ = false) : ∀ m, m ≤ 200 → seaB P (hoursS P (oneH (pn P - 2)) 0 m σ) = false ∧ stopB P σ (oneH (pn P - 2)) m = true := by
  have hn := hP.1
  intro m
  induction m with
  | zero => exact fun _ => ⟨hz, rfl⟩
  | succ m ih =>
    intro hm
    obtain ⟨a, b⟩ := ih (by omega)
    have c : seaB P (hoursS P (oneH (pn P - 2)) 0 (m + 1) σ) = false := hour_shut hP (hours_SOK hP hS i0 m (by omega) (by omega)) (by omega) (by omega) ((oneH_b (by omega) (by omega)).mpr rfl) a
    exact ⟨c, by rw [stopB, b, c]; rfl⟩
theorem fst_spec {q : Nat → Bool} : ∀ m i, i ≤ fstS q m i ∧ fstS q m i ≤ i + m ∧ (∀ t, i ≤ t → t < fstS q m i → q t = false) ∧ (fstS q m i = i + m ∨ q (fstS q m i) = true) := by
  intro m
  induction m with
  | zero => intro i; unfold fstS; exact ⟨by omega, by omega, fun t a b => absurd a (by omega), Or.inl (by omega)⟩
  | succ m ih =>
    intro i
    unfold fstS
    by_cases c : q i = true
    · rw [if_pos c]
      exact ⟨by omega, by omega, fun t a b => absurd a (by omega), Or.inr c⟩
    · rw [if_neg c]
      obtain ⟨a, b, d, e⟩ := ih (i + 1)
      refine ⟨by omega, by omega, fun t x y => ?_, by rcases e with e | e; exact Or.inl (by omega); exact Or.inr e⟩
      by_cases g : t = i
      · rw [g]; exact Bool.eq_false_iff.mpr c
      · exact d t (by omega) y
def stoppedS (P : PR) (σ : SG) (m : Nat) : Int32 := if seaB P σ = true then -1 else if stopB P σ 0 m = true then 0 else if fstS (fun k => stopB P σ (oneH k) m) (pn P - 1) 0 = pn P - 1 then -1 else oneH (fstS (fun k => stopB P σ (oneH k) m) (pn P - 1) 0)
theorem stop_hold {P : PR} {σ : SG} {k : Nat} (hn : pn P ≤ 10) (hk : k < pn P - 1) : ∀ m, stopB P (upd σ (10 + k) 0) (oneH k) m = stopB P σ (oneH k) m := by
  intro m
  induction m with
  | zero => rfl
  | succ m ih => rw [stopB, stopB, ih, hoursS_hold hn hk ((oneH_b (by omega) (by omega)).mpr rfl) (m + 1) (by omega)]

set_option maxRecDepth 100000 in
set_option maxHeartbeats 4000000 in
theorem c_X6_keepsOffSea {h : AH} {a1 : Int32}  {g : AH} {N n m : Nat} {σ : SG} {H : Int32} (hI : INV N g) (hN : N ≤ 511) (en : g.1 (g.2 1) 0 = nI n) (ep : pn (PM g.1) = n) (hT : TOK N (PM g.1) σ H 0) (hC : CT (PM g.1) σ H 0 g h 0) (hm : m ≤ 200) (e1 : a1 = nI m) : CI yX6_keepsOffSea cX6_keepsOffSea 4 (some .boolean) 4 93 [.ref 0, .int a1] h (fun r u => r = bI (stopB (PM g.1) σ H m = true) ∧ TC g u) := by
  refine CI.of [some (.ref 0), some (.int a1), none, none] (by decide +kernel) rfl (Nat.le_of_ble_eq_true rfl) rfl (fun Z hX => ?_)
  subst e1
  have hn := hT.1.1
  rw [ep] at hn
  have b1 := oc0 hI.1.1
  have es : h.1 (h.2 1) 0 - 1 = nI (n - 1) := by rw [hC.1.1, hC.1.2 (g.2 1) (by omega), en, k_1, pk_sub (by omega)]
  have L : ∀ i, i ≤ m → ∀ u : AH, CT (PM g.1) σ H 0 g u i → stopB (PM g.1) σ H i = true → EX Z 4 (QI Z (fun r u => r = bI (stopB (PM g.1) σ H m = true) ∧ TC g u)) 12 u [some (.ref 0), some (.int (nI m)), some (.int (nI (n - 1))), some (.int (nI i))] [] := by
    refine ldown _ ?_ ?_
    · intro u hC hs
      exact sg_X6_keepsOffSea_12 hX ⟨fun _ => ⟨by rw [bI_t hs], hC.1⟩, fun z => absurd (nI_le (Nat.le_refl _) (by omega)) z⟩
    · intro i hi ih u hC hs
      refine sg_X6_keepsOffSea_12 hX ⟨fun z => absurd z (nI_ge hi (by omega)), fun _ => ?_⟩
      obtain ⟨PP, q1, q2⟩ := ct_call hI hN (by omega) rfl hT hC
      rw [hC.1.1]
      refine ⟨PP, q1, fun u2 hu2 => sg_X6_keepsOffSea_32 hX ?_⟩
      have hC2 := q2 u2 hu2
      obtain ⟨c, c1, c2, -⟩ := (TOK_SOK hT hN (k := i + 1) (by omega)).2.2.2.1
      have ec : u2.1 (42 + 7) 0 = nI c := by rw [← c51 (f := u2.1) (s := 42), hC2.2.2, c2]
      refine ⟨_, c_X5_lyingIn (s := 42) rfl rfl c1 ec, fun r v hv => sg_X6_keepsOffSea_43 hX ?_⟩
      obtain ⟨v1, v2⟩ := hv
      rw [v2]
      have sb : seaB (PM g.1) (hoursS (PM g.1) H 0 (i + 1) σ) = decide (¬ r = 0) := by
        unfold seaB
        rw [v1, hC2.2.2, c2, nI_clamp (by omega), ep]
      refine ⟨fun z => ?_, fun z => ⟨?_, hC2.1⟩⟩
      · rw [nI_1]
        exact ih u2 hC2 (by rw [stopB, hs, sb, decide_eq_false (fun y => y z)]; rfl)
      · have : stopB (PM g.1) σ H (i + 1) = false := by rw [stopB, hs, sb, decide_eq_true z]; rfl
        rw [bI_f (by rw [stop_mono this m (by omega)]; decide)]
  refine sg_X6_keepsOffSea_0 hX ?_
  rw [es]
  exact L 0 (by omega) h hC rfl

set_option maxRecDepth 100000 in
set_option maxHeartbeats 4000000 in
theorem c_X6_stopped {h : AH} {a1 : Int32}  {n N : Nat} (hn : n ≤ 10) (hI : INV N h) (hN : N ≤ 511) (en : h.1 (h.2 1) 0 = nI n) (hP : n = 0 ∨ POK (PM h.1)) : CI yX6_stopped cX6_stopped 4 (some .int) 5 123 [.ref 0, .int a1] h (fun r u => T3 (rN 1 100 a1) (¬ n = 0) (-100000002) (-100000003) (stoppedS (PM h.1) (mk (ms h.1 0)) a1.toNatClampNeg) r ∧ TC h u) := by
  refine CI.of [some (.ref 0), some (.int a1), none, none] (by decide +kernel) rfl (Nat.le_of_ble_eq_true rfl) rfl (fun Z hX => ?_)
  have r1 := rnC (x := a1) (lo := 1) (hi := 100) (L := 1) (M := 100) rfl rfl (by decide)
  have en0 : (h.1 (h.2 1) 0 = 0) ↔ n = 0 := by rw [en, k_0, nI_eq (by omega) (by omega)]
  refine sg_X6_stopped_0 hX ⟨fun c => ⟨T3.a (fun z => (r1.mpr z).1 c), TC.rf⟩, fun c => ⟨fun c2 => ⟨fun c3 => ?_, fun c3 => ⟨T3.b (r1.mp ⟨c, c2⟩) (fun z => z (en0.mp c3)), TC.rf⟩⟩, fun c2 => ⟨T3.a (fun z => c2 (r1.mpr z).2), TC.rf⟩⟩⟩
  have hA := r1.mp ⟨c, c2⟩
  have hB : ¬ n = 0 := fun z => c3 (en0.mpr z)
  have hP' := hP.resolve_left hB
  have ep : pn (PM h.1) = n := by rw [← hI.2.1.1]; exact pn_C en hn
  have hn2 := hP'.1
  rw [ep] at hn2
  have hA2 := hA
  obtain ⟨m, m1, m2, rfl⟩ := hA
  rw [nI_clamp (by omega)]
  obtain ⟨cc, hcc, c1, c2', c3', c4⟩ := NV_c hI.2.2.1
  have es : h.1 (h.2 1) 0 - 1 = nI (n - 1) := by rw [en, k_1, pk_sub (by omega)]
  have hT := TOK0 (hw := 0) hI hP' i0
  rw [es]
  refine ⟨_, c_X5_lyingIn (s := 27) rfl rfl hcc c1, fun r v hv => sg_X6_stopped_48 hX ?_⟩
  obtain ⟨v1, v2⟩ := hv
  rw [v2]
  have sb : seaB (PM h.1) (mk (ms h.1 0)) = decide (¬ r = 0) := by
    unfold seaB
    rw [v1, hI.2.2.1.1, mk_51, c4, nI_clamp (by omega), ep]
  refine ⟨fun z => ?_, fun z => ⟨T3.c hA2 hB (by rw [stoppedS, if_pos (by rw [sb]; exact decide_eq_true z)]), TC.rf⟩⟩
  have nsea : ¬ seaB (PM h.1) (mk (ms h.1 0)) = true := by rw [sb, decide_eq_false (fun y => y z)]; decide
  obtain ⟨PP, q1, q2⟩ := ct_begin hI
  refine ⟨PP, q1, fun u hu => sg_X6_stopped_64 hX ⟨_, c_X6_keepsOffSea hI hN en ep hT (q2 u hu 0) (by omega) rfl, fun r2 w hw => sg_X6_stopped_69 hX ?_⟩⟩
  obtain ⟨w1, w2⟩ := hw
  refine ⟨fun z2 => ?_, fun z2 => ⟨T3.c hA2 hB ?_, w2⟩⟩
  · rw [w1, bI_0] at z2
    have L : ∀ k, k ≤ n - 1 → ∀ u : AH, TC h u → (∀ j, j < k → stopB (PM h.1) (mk (ms h.1 0)) (oneH j) m = false) → EX Z 4 (QI Z (fun r u => T3 (rN 1 100 (nI m)) (¬ n = 0) (-100000002) (-100000003) (stoppedS (PM h.1) (mk (ms h.1 0)) m) r ∧ TC h u)) 76 u [some (.ref 0), some (.int (nI m)), some (.int (nI (n - 1))), some (.int (nI k))] [] := by
      refine ldown _ ?_ ?_
      · intro u hu hx
        refine sg_X6_stopped_76 hX ⟨fun _ => ⟨T3.c hA2 hB ?_, hu⟩, fun z => absurd (nI_le (Nat.le_refl _) (by omega)) z⟩
        rw [stoppedS, if_neg nsea, if_neg z2, if_pos (by rw [ep]; exact fst_eq (n - 1) 0 (n - 1) (by omega) (by omega) (fun t _ a => hx t a) (Or.inl (by omega)))]
      · intro k hk ih u hu hx
        obtain ⟨PP, q1, q2⟩ := ct_begin2 hI hu
        refine sg_X6_stopped_76 hX ⟨fun z => absurd z (nI_ge hk (by omega)), fun _ => ⟨PP, q1, fun u2 hu2 => sg_X6_stopped_92 hX ⟨_, c_X3_holdGate (g := h) rfl rfl (show k < 9 by omega) rfl, fun u3 hu3 => sg_X6_stopped_101 hX ?_⟩⟩⟩
        have hC3 := hu3 _ _ _ ((q2 u2 hu2).2 0)
        have hT3 : TOK N (PM h.1) (upd (mk (ms h.1 0)) (10 + k) 0) (oneH k) 0 := TOKh hP' hI.2.2.1.2.2.1 (by omega) i0
        refine ⟨_, c_X6_keepsOffSea hI hN en ep hT3 hC3 (by omega) rfl, fun r3 w3 hw3 => sg_X6_stopped_106 hX ?_⟩
        obtain ⟨x1, x2⟩ := hw3
        rw [stop_hold hP'.1.2 (by rw [ep]; exact hk)] at x1
        refine ⟨fun z3 => ?_, fun z3 => ⟨T3.c hA2 hB ?_, x2⟩⟩
        · rw [x1, bI_0] at z3
          rw [nI_1]
          refine ih w3 x2 (fun j hj => ?_)
          by_cases d : j = k
          · rw [d]; exact Bool.eq_false_iff.mpr z3
          · exact hx j (by omega)
        · rw [x1, bI_n0] at z3
          have fe : fstS (fun k => stopB (PM h.1) (mk (ms h.1 0)) (oneH k) m) (pn (PM h.1) - 1) 0 = k := by rw [ep]; exact fst_eq (n - 1) 0 k (by omega) (by omega) (fun t _ a => hx t a) (Or.inr z3)
          rw [stoppedS, if_neg nsea, if_neg z2, fe, if_neg (by rw [ep]; omega)]
          rfl
    exact L 0 (by omega) w w2 (fun j hj => absurd hj (by omega))
  · rw [w1, bI_n0] at z2
    rw [stoppedS, if_neg nsea, if_pos z2]

set_option maxRecDepth 100000 in
set_option maxHeartbeats 4000000 in
theorem c_X7_logsAtSea {h : AH} {a1 : Int32}  {ρ c n : Nat} (hρ : ρ ≤ 600) (e1 : a1 = nI ρ) (hc : c ≤ 12) (ec : mk (ms h.1 ρ) 51 = nI c) (en : h.1 94 9 = nI n) (hn : 1 ≤ n ∧ n ≤ 10) : CI yX7_logsAtSea cX7_logsAtSea 4 (some .int) 1 20 [.ref 94, .int a1] h (fun r u => (∃ q : Nat, q ≤ 12 ∧ r = nI q ∧ (q = 0 ↔ seaB (PM h.1) (mk (ms h.1 ρ)) = false)) ∧ u = h) := by
  refine CI.of [some (.ref 94), some (.int a1), none, none] (by decide +kernel) rfl (Nat.le_of_ble_eq_true rfl) rfl (fun Z hX => ?_)
  subst e1
  have ep : pn (PM h.1) = n := pn_M en hn.2
  have es : h.1 94 9 - 1 = nI (n - 1) := by rw [en, k_1, pk_sub (by omega)]
  have i51 : nI ρ + 51 = nI (ρ + 51) := by rw [k_51, nI_add]
  have e51 : h.1 95 (ρ + 51) = nI c := by rw [mk_at (f := h.1) (ρ := ρ) (k := 51) (by unfold rel; omega)]; exact ec
  have ms51 : (ms h.1 ρ 51).toNatClampNeg = c := by rw [← mk_51 (ms h.1 ρ), ec, nI_clamp (by omega)]
  have sb : seaB (PM h.1) (mk (ms h.1 ρ)) = decide (¬ lgS (mk (ms h.1 ρ)) (nI (n - 1)) c = 0) := by
    unfold seaB
    rw [ec, nI_clamp (by omega), ep]
  have L : ∀ l, l ≤ c → ∀ q, q ≤ l → (q = 0 ↔ lgS (mk (ms h.1 ρ)) (nI (n - 1)) l = 0) → EX Z 4 (QI Z (fun r u => (∃ q : Nat, q ≤ 12 ∧ r = nI q ∧ (q = 0 ↔ seaB (PM h.1) (mk (ms h.1 ρ)) = false)) ∧ u = h)) 4 h [some (.ref 94), some (.int (nI ρ)), some (.int (nI q)), some (.int (nI l))] [] := by
    refine ldown _ ?_ ?_
    · intro q hq hx
      refine sg_X7_logsAtSea_4 hX ?_
      rw [i51, nI_clamp (by omega), e51]
      refine ⟨vp_in_nI (by omega) (by omega), fun _ => ⟨⟨q, by omega, rfl, ?_⟩, rfl⟩, fun z => absurd (nI_le (Nat.le_refl _) (by omega)) z⟩
      rw [sb, hx]
      exact ⟨fun z => decide_eq_false (fun y => y z), fun z => Classical.not_not.mp (of_decide_eq_false z)⟩
    · intro l hl ih q hq hx
      have i60 : nI ρ + 60 + nI l = nI (ρ + (60 + l)) := by rw [k_60, nI_add, nI_add]; congr 1; omega
      refine sg_X7_logsAtSea_4 hX ?_
      rw [i51, nI_clamp (by omega), e51, i60, nI_clamp (by omega)]
      refine ⟨vp_in_nI (by omega) (by omega), fun z => absurd z (nI_ge hl (by omega)), fun _ => ⟨vp_in_nI (by omega) (by omega), fun v4 e4 => ?_⟩⟩
      have e60 : h.1 95 (ρ + (60 + l)) = mk (ms h.1 ρ) (60 + l) := mk_at (f := h.1) (ρ := ρ) (k := 60 + l) (by unfold rel; rw [ms51]; omega)
      rw [e60] at e4
      rw [es, e4, nI_1]
      by_cases d : mk (ms h.1 ρ) (60 + l) = nI (n - 1)
      · rw [bI_t d, nI_1]
        refine ih (q + 1) (by omega) ⟨fun z => absurd z (by omega), fun z => ?_⟩
        rw [lg0 (l + 1) (by omega)] at z
        exact absurd d (z l (by omega))
      · rw [bI_f d, Int32.add_zero]
        refine ih q (by omega) ?_
        rw [hx, lgS, if_neg d]
  exact sg_X7_logsAtSea_0 hX (L 0 (by omega) 0 (by omega) ⟨fun _ => rfl, fun _ => rfl⟩)

set_option maxRecDepth 100000 in
set_option maxHeartbeats 4000000 in
theorem c_X7_stops {h : AH} {a1 : Int32} {a2 : Int32}  {N m n : Nat} (hI : INV N h) (hN : N ≤ 511) (hP : POK (PM h.1)) (en : h.1 94 9 = nI n) (hn : n ≤ 10) (e2 : a2 = nI m) (hm : m ≤ 200) : CI yX7_stops cX7_stops 5 (some .boolean) 4 93 [.ref 94, .int a1, .int a2] h (fun r v => r = bI (stopB (PM h.1) (mk (ms h.1 0)) a1 m = true) ∧ TM h v) := by
  refine CI.of [some (.ref 94), some (.int a1), some (.int a2), none, none] (by decide +kernel) rfl (Nat.le_of_ble_eq_true rfl) rfl (fun Z hX => ?_)
  subst e2
  have ep : pn (PM h.1) = n := pn_M en hn
  have hn2 := hP.1
  rw [ep] at hn2
  have hT : UOK N (PM h.1) (mk (ms h.1 0)) 0 := UOK0 hI hP i0
  refine sg_X7_stops_0 hX (fun u1 e1 u2 e2 => ⟨_, c_X7_copy (ρ1 := 0) (ρ2 := 200) rfl rfl (by omega) (by omega) (by omega), fun u hu => sg_X7_stops_18 hX ?_⟩)
  obtain ⟨v1, v2, v3, v4⟩ := hu
  have f2 : TF h u2 := by rw [e2, e1]; exact (TF.held (Or.inl rfl)).tr (TF.held (Or.inr rfl))
  have f3 : TF u2 u := ⟨v1, fun i _ h2 _ => v2 i h2, fun k _ _ => by rw [v2 94 (by omega)], fun j hj => v3 j (by omega)⟩
  have f := f2.tr f3
  have x25 : u.1 94 25 = a1 := by rw [v2 94 (by omega), e2, hs_i (by omega), e1, hs_s]
  have x26 : u.1 94 26 = 0 := by rw [v2 94 (by omega), e2, hs_s]
  have em : mk (ms u.1 200) = mk (ms h.1 0) := by
    have q : ∀ j, j < 200 → ms u.1 200 j = ms h.1 0 j := fun j hj => by
      show u.1 95 (200 + j) = h.1 95 (0 + j)
      rw [v4 j hj, f2.2.2.2 (0 + j) (by omega)]
    refine mk_congr (q 51 (by omega)) (fun k hk => q k ?_)
    unfold rel at hk
    omega
  have fin : ∀ (u w : AH) (i : Nat), MT (PM h.1) (mk (ms h.1 0)) a1 0 h u i → w = (hset u.1 94 25 0, u.2) → TM h w := fun u w i hC ew => ⟨hC.1.tr (by rw [ew]; exact TF.held (Or.inl rfl)), by rw [ew]; exact hs_s, by rw [ew, hs_i (by omega), hC.2.2.1]; exact i0⟩
  have L : ∀ i, i ≤ m → ∀ u : AH, MT (PM h.1) (mk (ms h.1 0)) a1 0 h u i → EX Z 5 (QI Z (fun r v => r = bI (stopB (PM h.1) (mk (ms h.1 0)) a1 m = true) ∧ TM h v)) 23 u [some (.ref 94), none, some (.int (nI m)), some (.int (bI (stopB (PM h.1) (mk (ms h.1 0)) a1 i = true))), some (.int (nI i))] [] := by
    refine ldown _ ?_ ?_
    · intro u hC
      exact sg_X7_stops_23 hX ⟨fun _ w ew => ⟨bI_nar, rfl, fin u w m hC ew⟩, fun z => absurd (nI_le (Nat.le_refl _) (by omega)) z⟩
    · intro i hi ih u hC
      refine sg_X7_stops_23 hX ⟨fun z => absurd z (nI_ge hi (by omega)), fun _ => ⟨fun z w ew => ⟨bI_nar, ?_, fin u w i hC ew⟩, fun z => ?_⟩⟩
      · rw [bI_0] at z
        rw [bI_f z, bI_f (by rw [stop_mono (Bool.eq_false_iff.mpr z) m (by omega)]; decide)]
      · rw [bI_n0] at z
        obtain ⟨PP, q1, q2⟩ := mt_call (N := N) hN (by omega) rfl hT hC
        refine ⟨PP, q1, fun u2 hu2 => sg_X7_stops_40 hX ?_⟩
        obtain ⟨hC2, -⟩ := q2 u2 hu2
        obtain ⟨c, c1, c2, -⟩ := (hours_SOK (H := a1) hP hI.2.2.1.2.2.1 i0 (i + 1) (by omega) (by omega)).2.2.2.1
        refine ⟨_, c_X7_logsAtSea (ρ := 200) (c := c) (n := n) (by omega) rfl c1 (by rw [hC2.2.2.2]; exact c2) (by rw [hC2.1.2.2.1 9 (by omega) (by omega)]; exact en) (by omega), fun r v hv => ?_⟩
        obtain ⟨⟨q, qa, qb, qc⟩, ev⟩ := hv
        rw [ev]
        refine sg_X7_stops_47 hX ?_
        rw [nI_1]
        rw [TF_P hC2.1, hC2.2.2.2] at qc
        have : bI (r = 0) = bI (stopB (PM h.1) (mk (ms h.1 0)) a1 (i + 1) = true) := by
          refine bI_congr ?_
          rw [qb, k_0, nI_eq (by omega) (by omega), qc, stopB, z, Bool.true_and]
          cases seaB (PM h.1) (hoursS (PM h.1) a1 0 (i + 1) (mk (ms h.1 0))) <;> decide
        rw [this]
        exact ih u2 hC2
  exact L 0 (by omega) u ⟨f, x25, x26, em⟩

def cnt9 (t : Nat) : Nat → Nat
  | 0 => 0
  | m + 1 => cnt9 t m + t / 2 ^ m % 2
theorem bit9 : ∀ t, t < 512 → ∀ k, k < 9 → (nI t >>> (nI k &&& 31)) &&& 1 = nI (t / 2 ^ k % 2) := by decide +kernel
theorem cnt_0 : cnt9 0 9 = 0 := by decide +kernel
theorem cnt_2 : ∀ k, k < 9 → cnt9 (2 ^ k) 9 = 1 := by decide +kernel
theorem cnt_p : ∀ t, t < 512 → t ≠ 0 → 1 ≤ cnt9 t 9 := by decide +kernel
theorem cnt_n : ∀ t, t < 512 → t ≠ 0 → (∀ k, k < 9 → t ≠ 2 ^ k) → 2 ≤ cnt9 t 9 := by decide +kernel
theorem cnt_b (t : Nat) : ∀ m, cnt9 t m ≤ m := by
  intro m
  induction m with
  | zero => exact Nat.le_refl _
  | succ m ih => unfold cnt9; have := Nat.mod_lt (t / 2 ^ m) (show 2 > 0 by decide); omega
theorem oneH_n : ∀ k, k < 9 → oneH k = nI (2 ^ k) := by unfold oneH; decide +kernel
theorem shl_n : ∀ k, k < 10 → (1 : Int32) <<< (nI k &&& 31) = nI (2 ^ k) := by decide +kernel
theorem pow9 : ∀ k, k < 9 → 2 ^ k < 512 := by decide +kernel
theorem powle : ∀ k, k < 10 → 1 ≤ 2 ^ k ∧ 2 ^ k ≤ 512 := by decide +kernel

set_option maxRecDepth 100000 in
set_option maxHeartbeats 4000000 in
theorem c_X7_ones {h : AH} {a0 : Int32}  {t : Nat} (ht : t < 512) (e0 : a0 = nI t) : CI yX7_ones cX7_ones 3 (some .int) 0 0 [.int a0] h (fun r u => r = nI (cnt9 t 9) ∧ u = h) := by
  refine CI.of [some (.int a0), none, none] (by decide +kernel) rfl (Nat.le_of_ble_eq_true rfl) rfl (fun Z hX => ?_)
  subst e0
  have L : ∀ k, k ≤ 9 → EX Z 3 (QI Z (fun r u => r = nI (cnt9 t 9) ∧ u = h)) 4 h [some (.int (nI t)), some (.int (nI (cnt9 t k))), some (.int (nI k))] [] := by
    refine ldown _ ?_ ?_
    · exact sg_X7_ones_4 hX ⟨fun _ => ⟨rfl, rfl⟩, fun z => absurd (by decide : (9 : Int32) ≤ nI 9) z⟩
    · intro k hk ih
      refine sg_X7_ones_4 hX ⟨fun z => absurd z (nI_ge (b := 9) hk (by omega)), fun _ => ?_⟩
      rw [bit9 t ht k hk, nI_add, nI_1]
      exact ih
  exact sg_X7_ones_0 hX (L 0 (by omega))

set_option maxRecDepth 100000 in
set_option maxHeartbeats 4000000 in
theorem c_X7_stopped {h : AH} {a1 : Int32}  {n N : Nat} (hn : n ≤ 10) (hI : INV N h) (hN : N ≤ 511) (en : h.1 94 9 = nI n) (hP : n = 0 ∨ POK (PM h.1)) : CI yX7_stopped cX7_stopped 4 (some .int) 5 117 [.ref 94, .int a1] h (fun r u => T3 (rN 1 100 a1) (¬ n = 0) (-100000002) (-100000003) (stoppedS (PM h.1) (mk (ms h.1 0)) a1.toNatClampNeg) r ∧ TM h u) := by
  refine CI.of [some (.ref 94), some (.int a1), none, none] (by decide +kernel) rfl (Nat.le_of_ble_eq_true rfl) rfl (fun Z hX => ?_)
  have tm : TM h h := ⟨TF.rf, hI.2.2.2.2.2.2.2⟩
  have r1 := rnM (x := a1) (lo := 1) (hi := 100) (L := 1) (M := 100) rfl rfl (by decide)
  have en0 : (h.1 94 9 = 0) ↔ n = 0 := by rw [en, k_0, nI_eq (by omega) (by omega)]
  refine sg_X7_stopped_0 hX ⟨fun c => ⟨fun c3 => ?_, fun c3 => ⟨T3.b (r1.mp c) (fun z => z (en0.mp c3)), tm⟩⟩, fun c => ⟨T3.a (fun z => c (r1.mpr z)), tm⟩⟩
  have hA := r1.mp c
  have hB : ¬ n = 0 := fun z => c3 (en0.mpr z)
  have hP' := hP.resolve_left hB
  have ep : pn (PM h.1) = n := pn_M en hn
  have hn2 := hP'.1
  rw [ep] at hn2
  have hA2 := hA
  obtain ⟨m, m1, m2, rfl⟩ := hA
  rw [nI_clamp (by omega)]
  have hS := hI.2.2.1.2.2.1
  obtain ⟨cc, hcc, c51', -⟩ := hS.2.2.2.1
  refine ⟨_, c_X7_logsAtSea (ρ := 0) (c := cc) (n := n) (by omega) rfl hcc c51' en (by omega), fun r v hv => ?_⟩
  obtain ⟨⟨q, qa, qb, qc⟩, ev⟩ := hv
  rw [ev]
  refine sg_X7_stopped_30 hX ?_
  rw [qb]
  have q0 : (nI q ≤ 0) ↔ q = 0 := by rw [k_0, nI_leI (by omega) (by omega)]; omega
  refine ⟨fun z => ?_, fun z => ⟨T3.c hA2 hB ?_, tm⟩⟩
  · have nsea := qc.mp (q0.mp z)
    have nsea' : ¬ seaB (PM h.1) (mk (ms h.1 0)) = true := by rw [nsea]; decide
    have last := (shut_all hP' hS hN nsea m (by omega)).2
    rw [ep] at last
    -- the answer
    obtain ⟨g1, g2, g3, g4⟩ := fst_spec (q := fun k => stopB (PM h.1) (mk (ms h.1 0)) (oneH k) m) (n - 1) 0
    generalize hk0 : fstS (fun k => stopB (PM h.1) (mk (ms h.1 0)) (oneH k) m) (n - 1) 0 = k0 at g1 g2 g3 g4
    have k0n : k0 < n - 1 := by
      rcases Nat.lt_or_ge (n - 2) k0 with d | d
      · have := g3 (n - 2) (by omega) d
        rw [last] at this
        cases this
      · omega
    have sk0 : stopB (PM h.1) (mk (ms h.1 0)) (oneH k0) m = true := g4.resolve_left (by omega)
    have p0 := pow9 k0 (by omega)
    have lo : ∀ j, j < k0 → stopB (PM h.1) (mk (ms h.1 0)) (nI (2 ^ j)) m = false := fun j hj => by rw [← oneH_n j (by omega)]; exact g3 j (by omega) hj
    rw [oneH_n k0 (by omega)] at sk0
    have eR : stoppedS (PM h.1) (mk (ms h.1 0)) m = if stopB (PM h.1) (mk (ms h.1 0)) 0 m = true then 0 else nI (2 ^ k0) := by
      rw [stoppedS, if_neg nsea', ep, hk0, if_neg (show ¬ k0 = n - 1 by omega), oneH_n k0 (by omega)]
    have e2n : ∀ u : AH, TM h u → (1 : Int32) <<< ((u.1 94 9 - 1) &&& 31) = nI (2 ^ (n - 1)) := fun u hu => by rw [hu.1.2.2.1 9 (by omega) (by omega), en, k_1, pk_sub (by omega)]; exact shl_n (n - 1) (by omega)
    have pn1 := powle (n - 1) (by omega)
    have pk1 : 2 ^ k0 < 2 ^ (n - 1) := Nat.pow_lt_pow_right (by decide) k0n
    have kk1 := powle k0 (by omega)
    have st : ∀ (u : AH) (s : Nat), TM h u → ∃ PP : Int32 → AH → Prop, CI yX7_stops cX7_stops 5 (some .boolean) 4 93 [.ref 94, .int (nI s), .int (nI m)] u PP ∧ ∀ r v, PP r v → r = bI (stopB (PM h.1) (mk (ms h.1 0)) (nI s) m = true) ∧ TM h v := fun u s hu => by
      have iu := TM_INV0 hI hu
      have q := c_X7_stops (h := u) (a1 := nI s) (N := N) iu hN (by rw [TF_P hu.1]; exact hP') (by rw [hu.1.2.2.1 9 (by omega) (by omega)]; exact en) hn rfl (show m ≤ 200 by omega)
      rw [TF_P hu.1, TF_m hu.1] at q
      exact ⟨_, q, fun r v hv => ⟨hv.1, hu.1.tr hv.2.1, hv.2.2⟩⟩
    generalize hpost : (fun (r : Int32) (u : AH) => T3 (rN 1 100 (nI m)) (¬ n = 0) (-100000002) (-100000003) (stoppedS (PM h.1) (mk (ms h.1 0)) m) r ∧ TM h u) = post
    let J : Nat → Int32 → Prop := fun s b => if stopB (PM h.1) (mk (ms h.1 0)) 0 m = true then ((s = 0 ∧ b = -1) ∨ (0 < s ∧ b = 0)) else ((2 ^ k0 < s ∧ b = nI (2 ^ k0)) ∨ (s ≤ 2 ^ k0 ∧ (b = -1 ∨ ∃ t, b = nI t ∧ t < 512 ∧ 2 ≤ cnt9 t 9)))
    have J2 : ∀ s b, s < 2 ^ (n - 1) → J s b → (b = -1 ∨ ∃ t, b = nI t ∧ t < 512 ∧ (cnt9 t 9 ≤ cnt9 s 9 ∨ cnt9 s 9 < cnt9 t 9)) ∧ ((b = -1 ∨ ∃ t, b = nI t ∧ t < 512 ∧ cnt9 s 9 < cnt9 t 9) → J (s + 1) (if stopB (PM h.1) (mk (ms h.1 0)) (nI s) m = true then nI s else b)) ∧ ((∃ t, b = nI t ∧ t < 512 ∧ cnt9 t 9 ≤ cnt9 s 9) → J (s + 1) b) := by
      intro s b hs hJ
      have nm1 : ∀ t : Nat, t < 512 → (-1 : Int32) ≠ nI t := fun t ht z => by
        have := congrArg Int32.toInt z
        rw [nI_toInt (by omega)] at this
        have e1 : ((-1 : Int32)).toInt = -1 := rfl
        omega
      by_cases c0 : stopB (PM h.1) (mk (ms h.1 0)) 0 m = true
      · have hJ' : (s = 0 ∧ b = -1) ∨ (0 < s ∧ b = 0) := by have := hJ; simp only [J, if_pos c0] at this; exact this
        have go : ∀ s b, ((s = 0 ∧ b = -1) ∨ (0 < s ∧ b = 0)) → J s b := fun s b z => by simp only [J, if_pos c0]; exact z
        rcases hJ' with ⟨rfl, rfl⟩ | ⟨h1, rfl⟩
        · refine ⟨Or.inl rfl, fun _ => go _ _ (Or.inr ⟨by omega, ?_⟩), fun ⟨t, a, b, _⟩ => absurd a (nm1 t b)⟩
          rw [show nI 0 = 0 from rfl, if_pos c0]
        · refine ⟨Or.inr ⟨0, rfl, by omega, Or.inl (by rw [cnt_0]; omega)⟩, fun z => ?_, fun _ => go _ _ (Or.inr ⟨by omega, rfl⟩)⟩
          rcases z with z | ⟨t, a, b, d⟩
          · exact absurd z (by decide)
          · have : t = 0 := ((nI_eq (by omega) (by omega)).mp (show nI 0 = nI t from a)).symm
            rw [this, cnt_0] at d
            omega
      · have hJ' : (2 ^ k0 < s ∧ b = nI (2 ^ k0)) ∨ (s ≤ 2 ^ k0 ∧ (b = -1 ∨ ∃ t, b = nI t ∧ t < 512 ∧ 2 ≤ cnt9 t 9)) := by have := hJ; simp only [J, if_neg c0] at this; exact this
        have go : ∀ s b, ((2 ^ k0 < s ∧ b = nI (2 ^ k0)) ∨ (s ≤ 2 ^ k0 ∧ (b = -1 ∨ ∃ t, b = nI t ∧ t < 512 ∧ 2 ≤ cnt9 t 9))) → J s b := fun s b z => by simp only [J, if_neg c0]; exact z
        rcases hJ' with ⟨h1, rfl⟩ | ⟨h1, h2⟩
        · have cs := cnt_p s (by omega) (by omega)
          have ck := cnt_2 k0 (by omega)
          refine ⟨Or.inr ⟨2 ^ k0, rfl, p0, Or.inl (by omega)⟩, fun z => ?_, fun _ => go _ _ (Or.inl ⟨by omega, rfl⟩)⟩
          rcases z with z | ⟨t, a, b, d⟩
          · exact absurd z.symm (nm1 _ p0)
          · rw [← (nI_eq (by omega) (by omega)).mp a] at d
            omega
        · have tst : J (s + 1) (if stopB (PM h.1) (mk (ms h.1 0)) (nI s) m = true then nI s else b) := by
            by_cases e : s = 2 ^ k0
            · rw [e, if_pos sk0]
              exact go _ _ (Or.inl ⟨by omega, rfl⟩)
            · by_cases d : stopB (PM h.1) (mk (ms h.1 0)) (nI s) m = true
              · rw [if_pos d]
                refine go _ _ (Or.inr ⟨by omega, Or.inr ⟨s, rfl, by omega, cnt_n s (by omega) (fun z => ?_) (fun j hj z => ?_)⟩⟩)
                · rw [z] at d; exact c0 d
                · have : j < k0 := by
                    rcases Nat.lt_or_ge j k0 with y | y
                    · exact y
                    · have := Nat.pow_le_pow_right (show 0 < 2 by decide) y
                      omega
                  rw [z, lo j this] at d
                  cases d
              · rw [if_neg d]
                exact go _ _ (Or.inr ⟨by omega, h2⟩)
          refine ⟨?_, fun _ => tst, fun z => ?_⟩
          · rcases h2 with h2 | ⟨t, a, b, d⟩
            · exact Or.inl h2
            · exact Or.inr ⟨t, a, b, by omega⟩
          · obtain ⟨t, a, b, d⟩ := z
            rcases h2 with h2 | ⟨t', a', b', d'⟩
            · exact absurd (h2.symm.trans a) (nm1 t b)
            · have ett : t = t' := (nI_eq (by omega) (by omega)).mp (a.symm.trans a')
              subst ett
              have : s ≠ 2 ^ k0 := fun y => by rw [y, cnt_2 k0 (by omega)] at d; omega
              exact go _ _ (Or.inr ⟨by omega, Or.inr ⟨t, a, b, d'⟩⟩)
    have L : ∀ s, s ≤ 2 ^ (n - 1) → ∀ (u : AH) (b : Int32), TM h u → J s b → EX Z 4 (QI Z post) 39 u [some (.ref 94), some (.int (nI m)), some (.int b), some (.int (nI s))] [] := by
      refine ldown _ ?_ ?_
      · intro u b hu hJ
        refine sg_X7_stopped_39 hX ⟨fun _ => ?_, fun z => absurd (by rw [e2n u hu]; exact nI_le (Nat.le_refl _) (by omega)) z⟩
        rw [← hpost]
        refine ⟨T3.c hA2 hB ?_, hu⟩
        rw [eR]
        by_cases c0 : stopB (PM h.1) (mk (ms h.1 0)) 0 m = true
        · simp only [J, if_pos c0] at hJ
          rw [if_pos c0]
          rcases hJ with ⟨y, _⟩ | ⟨_, y⟩
          · omega
          · exact y
        · simp only [J, if_neg c0] at hJ
          rw [if_neg c0]
          rcases hJ with ⟨_, y⟩ | ⟨y, _⟩
          · exact y
          · omega
      · intro s hs ih u b hu hJ
        obtain ⟨j1, j2, j3⟩ := J2 s b hs hJ
        have ST : ∀ u : AH, TM h u → (b = -1 ∨ ∃ t, b = nI t ∧ t < 512 ∧ cnt9 s 9 < cnt9 t 9) → ∃ PP : Int32 → AH → Prop, CI yX7_stops cX7_stops 5 (some .boolean) 4 93 [.ref 94, .int (nI s), .int (nI m)] u PP ∧ ∀ (r : Int32) (v : AH), PP r v → EX Z 4 (QI Z post) 72 v [some (.ref 94), some (.int (nI m)), some (.int b), some (.int (nI s))] (.int r :: []) := by
          intro u hu hb
          obtain ⟨PP, qa', qb'⟩ := st u s hu
          refine ⟨PP, qa', fun r v hv => sg_X7_stopped_72 hX ?_⟩
          obtain ⟨y1, y2⟩ := qb' r v hv
          rw [nI_1]
          have := ih v _ y2 (j2 hb)
          by_cases d : stopB (PM h.1) (mk (ms h.1 0)) (nI s) m = true
          · rw [if_pos d] at this
            rw [if_neg (by rw [y1, bI_n0]; exact d)]
            exact this
          · rw [if_neg d] at this
            rw [if_pos (by rw [y1, bI_0]; exact d)]
            exact this
        refine sg_X7_stopped_39 hX ⟨fun z => absurd z (by rw [e2n u hu]; exact nI_ge hs (by omega)), fun _ => ⟨fun z => ?_, fun z => ?_⟩⟩
        · refine ST u hu ?_
          rcases j1 with j1 | ⟨t, a, b', d⟩
          · exact Or.inl j1
          · exact absurd z (by rw [a]; exact nI_pos (by omega))
        · refine ⟨_, c_X7_ones (t := s) (by omega) rfl, fun r v hv => ?_⟩
          obtain ⟨y1, y2⟩ := hv
          rw [y2]
          rcases j1 with j1 | ⟨t, a, b', d⟩
          · exact absurd (by rw [j1]; decide) z
          refine sg_X7_stopped_59 hX ⟨_, c_X7_ones (t := t) b' a, fun r2 v2 hv2 => ?_⟩
          obtain ⟨x1, x2⟩ := hv2
          rw [x2]
          have bt := cnt_b t 9
          have bs := cnt_b s 9
          refine sg_X7_stopped_63 hX ⟨fun w => ?_, fun w => ?_⟩
          · rw [x1, y1, nI_leI (by omega) (by omega)] at w
            rw [nI_1]
            exact ih u b hu (j3 ⟨t, a, b', w⟩)
          · rw [x1, y1, nI_leI (by omega) (by omega)] at w
            exact ST u hu (Or.inr ⟨t, a, b', by omega⟩)
    refine L 0 (by omega) h (-1) tm ?_
    by_cases c0 : stopB (PM h.1) (mk (ms h.1 0)) 0 m = true
    · show (if stopB (PM h.1) (mk (ms h.1 0)) 0 m = true then _ else _)
      rw [if_pos c0]; exact Or.inl ⟨rfl, rfl⟩
    · show (if stopB (PM h.1) (mk (ms h.1 0)) 0 m = true then _ else _)
      rw [if_neg c0]; exact Or.inr ⟨by omega, Or.inl rfl⟩
  · have : seaB (PM h.1) (mk (ms h.1 0)) = true := by
      rcases Bool.eq_false_or_eq_true (seaB (PM h.1) (mk (ms h.1 0))) with d | d
      · exact d
      · exact absurd (q0.mpr (qc.mpr d)) z
    rw [stoppedS, if_pos this]

theorem op_stopped {N : Nat} {h : AH} {x : Int32} (hI : INV N h) (hNN : N ≤ 511) : OPP yX6_stopped cX6_stopped 4 5 123 yX7_stopped cX7_stopped 4 5 117 [.int x] N h := by
  obtain ⟨n, hn, e1, e2, hP⟩ := hI.2.1.2.1
  refine OPP.trial hI (c_X6_stopped hn hI (by omega) e1 hP) (fun u iu f1 f2 f3 f4 => ?_)
  have := c_X7_stopped (h := u) (a1 := x) hn iu (by omega) (by rw [f3]; exact e2) (by rw [f1]; exact hP)
  rw [f1, f2] at this
  exact this
