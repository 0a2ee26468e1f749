set_option maxRecDepth 100000 in
set_option maxHeartbeats 4000000 in
theorem sg_X6_slack_0 {Z : CX × GX} {post : Int32 → AH → Prop} {h : AH} {x1 : Int32} {x2 : Int32} (hX : OK Z RX6 cX6_slack 6 (some .int) 4 123) 
    (w : (((0 ≤ x1 ∧ x1 < h.1 (h.2 1) 0 - 1) → ((x2 < 0 → post (-100000002) h) ∧ (¬ x2 < 0 → ((x2 ≤ 1 → (∃ PP : AH → Prop, CV yX3_becomeAs cX3_becomeAs 2 3 102 [.ref 42, .ref 27] h PP ∧ ∀ u : AH, PP u → EX Z 6 (QI Z post) 37 u [some (.ref 0), some (.int x1), some (.int x2), none, none, none] [])) ∧ (¬ x2 ≤ 1 → post (-100000002) h))))) ∧ (¬ (0 ≤ x1 ∧ x1 < h.1 (h.2 1) 0 - 1) → post (-100000001) h)))
    : EX Z 6 (QI Z post) 0 h [some (.ref 0), some (.int x1), some (.int x2), none, none, none] [] := by
  refine ex_aload_n hX dX6_slack_0 rfl rfl ?_
  refine ex_gg (fun c1 => ?_)
  refine ex_get hX (.ref (h.2 1)) FL_6_19 rfl (fun _ => rfl) dX6_slack_1 ?_
  refine ex_iload_n hX dX6_slack_4 rfl rfl ?_
  refine ex_pIv (ci := 0) (i := h.2 1) (As := [.int x1]) (st := []) hX (c_X0_isGate (h := h) c1.1) CS_6_144 MS_X0_isGate rfl c1.1 rfl (by decide) rfl (Nat.le_of_ble_eq_true rfl) dX6_slack_5 ?_
  refine ex_ifneB hX 14 dX6_slack_8 (by decide) (fun c2 => ?_) (fun c2 => ?_)
  · replace w := w.1 c2
    refine ex_iload_n hX dX6_slack_14 rfl rfl ?_
    refine ex_iflt hX 23 dX6_slack_15 (by decide) (fun c3 => ?_) (fun c3 => ?_)
    · replace w := w.1 c3
      refine ex_ldc hX dX6_slack_23 KC_6_72 ?_
      exact ex_iret hX dX6_slack_25 rfl w
    · replace w := w.2 c3
      refine ex_iload_n hX dX6_slack_18 rfl rfl ?_
      refine ex_iconst (v := 1) hX dX6_slack_19 rfl ?_
      refine ex_icmple hX 26 dX6_slack_20 (by decide) (fun c4 => ?_) (fun c4 => ?_)
      · replace w := w.1 c4
        refine ex_aload_n hX dX6_slack_26 rfl rfl ?_
        refine ex_get hX (.ref 42) FL_6_43 rfl (fun _ => rfl) dX6_slack_27 ?_
        refine ex_aload_n hX dX6_slack_30 rfl rfl ?_
        refine ex_get hX (.ref 27) FL_6_39 rfl (fun _ => rfl) dX6_slack_31 ?_
        obtain ⟨PP, pM, pK⟩ := w
        exact ex_callVv (ci := 3) (i := 42) (As := [.ref 27]) (st := []) hX pM CS_6_198 MS_X3_becomeAs rfl rfl rfl (by decide) rfl (Nat.le_of_ble_eq_true rfl) dX6_slack_34 (fun u hp => pK u hp)
      · replace w := w.2 c4
        refine ex_ldc hX dX6_slack_23 KC_6_72 ?_
        exact ex_iret hX dX6_slack_25 rfl w
  · replace w := w.2 c2
    refine ex_ldc hX dX6_slack_11 KC_6_126 ?_
    exact ex_iret hX dX6_slack_13 rfl w

set_option maxRecDepth 100000 in
set_option maxHeartbeats 4000000 in
theorem sg_X6_slack_37 {Z : CX × GX} {post : Int32 → AH → Prop} {h : AH} {x1 : Int32} {x2 : Int32} (hX : OK Z RX6 cX6_slack 6 (some .int) 4 123) 
    (w : EX Z 6 (QI Z post) 42 h [some (.ref 0), some (.int x1), some (.int x2), some (.int (-1)), some (.int 0), none] [])
    : EX Z 6 (QI Z post) 37 h [some (.ref 0), some (.int x1), some (.int x2), none, none, none] [] := by
  refine ex_iconst (v := (-1)) hX dX6_slack_37 rfl ?_
  refine ex_istore_n (lv' := [some (.ref 0), some (.int x1), some (.int x2), some (.int (-1)), none, none]) hX dX6_slack_38 rfl (by decide) rfl ?_
  refine ex_iconst (v := 0) hX dX6_slack_39 rfl ?_
  refine ex_istore (lv' := [some (.ref 0), some (.int x1), some (.int x2), some (.int (-1)), some (.int 0), none]) hX dX6_slack_40 (by decide) rfl ?_
  exact w

set_option maxRecDepth 100000 in
set_option maxHeartbeats 4000000 in
theorem sg_X6_slack_42 {Z : CX × GX} {post : Int32 → AH → Prop} {h : AH} {x1 : Int32} {x2 : Int32} {x3 : Int32} {x4 : Int32} (hX : OK Z RX6 cX6_slack 6 (some .int) 4 123) 
    (w : ((200 ≤ x4 → ((x2 = 0 → post x3 h) ∧ (¬ x2 = 0 → ((¬ x3 = (-1) → post (200 - x3) h) ∧ (x3 = (-1) → post x3 h))))) ∧ (¬ 200 ≤ x4 → (∃ PP : AH → Prop, CV yX3_passHour cX3_passHour 4 3 70 [.ref 42, .ref (h.2 1), .ref (h.2 3)] h PP ∧ ∀ u : AH, PP u → EX Z 6 (QI Z post) 65 u [some (.ref 0), some (.int x1), some (.int x2), some (.int x3), some (.int x4), none] []))))
    : EX Z 6 (QI Z post) 42 h [some (.ref 0), some (.int x1), some (.int x2), some (.int x3), some (.int x4), none] [] := by
  refine ex_iload hX dX6_slack_42 rfl ?_
  refine ex_sipush (v := 200) hX dX6_slack_44 rfl ?_
  refine ex_icmpge hX 126 dX6_slack_47 (by decide) (fun c1 => ?_) (fun c1 => ?_)
  · replace w := w.1 c1
    refine ex_iload_n hX dX6_slack_126 rfl rfl ?_
    refine ex_ifeq hX 135 dX6_slack_127 (by decide) (fun c2 => ?_) (fun c2 => ?_)
    · replace w := w.1 c2
      refine ex_iload_n hX dX6_slack_135 rfl rfl ?_
      refine ex_goto hX 144 dX6_slack_136 (by decide) ?_
      exact ex_iret hX dX6_slack_144 rfl w
    · replace w := w.2 c2
      refine ex_iload_n hX dX6_slack_130 rfl rfl ?_
      refine ex_iconst (v := (-1)) hX dX6_slack_131 rfl ?_
      refine ex_icmpne hX 139 dX6_slack_132 (by decide) (fun c3 => ?_) (fun c3 => ?_)
      · replace w := w.1 c3
        refine ex_sipush (v := 200) hX dX6_slack_139 rfl ?_
        refine ex_iload_n hX dX6_slack_142 rfl rfl ?_
        refine ex_isub hX dX6_slack_143 ?_
        exact ex_iret hX dX6_slack_144 rfl w
      · replace w := w.2 c3
        refine ex_iload_n hX dX6_slack_135 rfl rfl ?_
        refine ex_goto hX 144 dX6_slack_136 (by decide) ?_
        exact ex_iret hX dX6_slack_144 rfl w
  · replace w := w.2 c1
    refine ex_aload_n hX dX6_slack_50 rfl rfl ?_
    refine ex_get hX (.ref 42) FL_6_43 rfl (fun _ => rfl) dX6_slack_51 ?_
    refine ex_aload_n hX dX6_slack_54 rfl rfl ?_
    refine ex_gg (fun c4 => ?_)
    refine ex_get hX (.ref (h.2 1)) FL_6_19 rfl (fun _ => rfl) dX6_slack_55 ?_
    refine ex_aload_n hX dX6_slack_58 rfl rfl ?_
    refine ex_gg (fun c5 => ?_)
    refine ex_get hX (.ref (h.2 3)) FL_6_29 rfl (fun _ => rfl) dX6_slack_59 ?_
    obtain ⟨PP, pM, pK⟩ := w
    exact ex_callVv (ci := 3) (i := 42) (As := [.ref (h.2 1), .ref (h.2 3)]) (st := []) hX pM CS_6_162 MS_X3_passHour rfl rfl rfl (by decide) rfl (Nat.le_of_ble_eq_true rfl) dX6_slack_62 (fun u hp => pK u hp)

set_option maxRecDepth 100000 in
set_option maxHeartbeats 4000000 in
theorem sg_X6_slack_65 {Z : CX × GX} {post : Int32 → AH → Prop} {h : AH} {x1 : Int32} {x2 : Int32} {x3 : Int32} {x4 : Int32} (hX : OK Z RX6 cX6_slack 6 (some .int) 4 123) 
    (w : (vp_in x1 9) ∧ ((((h.1 (42 + 4) (Int32.toNatClampNeg x1)) = 0) → EX Z 6 (QI Z post) 42 h [some (.ref 0), some (.int x1), some (.int x2), some (.int (if ((h.1 (42 + 4) (Int32.toNatClampNeg x1)) = 0) then ((if x3 = (-1) then (x4 : Int32) else x3) : Int32) else x3)), some (.int (x4 + 1)), none] []) ∧ (¬ ((h.1 (42 + 4) (Int32.toNatClampNeg x1)) = 0) → (∀ v6 : Int32, v6 = (if ((h.1 (42 + 4) (Int32.toNatClampNeg x1)) = 0) then ((if x3 = (-1) then (x4 : Int32) else x3) : Int32) else x3) → ((v6 = (-1) → EX Z 6 (QI Z post) 42 h [some (.ref 0), some (.int x1), some (.int x2), some (.int (if ((h.1 (42 + 4) (Int32.toNatClampNeg x1)) = 0) then ((if x3 = (-1) then (x4 : Int32) else x3) : Int32) else x3)), some (.int (x4 + 1)), none] []) ∧ (¬ v6 = (-1) → ((¬ x2 = 0 → (∀ v9 : Int32, v9 = (if ((h.1 (42 + 4) (Int32.toNatClampNeg x1)) = 0) then ((if x3 = (-1) then (x4 : Int32) else x3) : Int32) else x3) → post (x4 - v9) h)) ∧ (x2 = 0 → (∀ v10 : Int32, v10 = (if ((h.1 (42 + 4) (Int32.toNatClampNeg x1)) = 0) then ((if x3 = (-1) then (x4 : Int32) else x3) : Int32) else x3) → post v10 h)))))))))
    : EX Z 6 (QI Z post) 65 h [some (.ref 0), some (.int x1), some (.int x2), some (.int x3), some (.int x4), none] [] := by
  refine ex_aload_n hX dX6_slack_65 rfl rfl ?_
  refine ex_get hX (.ref 42) FL_6_43 rfl (fun _ => rfl) dX6_slack_66 ?_
  refine ex_get hX (.ref (42 + 4)) FL_6_153 rfl (fun _ => rfl) dX6_slack_69 ?_
  refine ex_iload_n hX dX6_slack_72 rfl rfl ?_
  obtain ⟨q1, w⟩ := w
  refine ex_iald hX (sh_3_4 rfl) q1 dX6_slack_73 ?_
  have kc2 : EX Z 6 (QI Z post) 82 h [some (.ref 0), some (.int x1), some (.int x2), some (.int x3), some (.int x4), none] [.int (bI ((h.1 (42 + 4) (Int32.toNatClampNeg x1)) = 0))] := by
    refine ex_istore (lv' := [some (.ref 0), some (.int x1), some (.int x2), some (.int x3), some (.int x4), some (.int (bI ((h.1 (42 + 4) (Int32.toNatClampNeg x1)) = 0)))]) hX dX6_slack_82 (by decide) rfl ?_
    refine ex_iload hX dX6_slack_84 rfl ?_
    have kc3 : EX Z 6 (QI Z post) 97 h [some (.ref 0), some (.int x1), some (.int x2), some (.int (if ((h.1 (42 + 4) (Int32.toNatClampNeg x1)) = 0) then ((if x3 = (-1) then (x4 : Int32) else x3) : Int32) else x3)), some (.int x4), some (.int (bI ((h.1 (42 + 4) (Int32.toNatClampNeg x1)) = 0)))] [] := by
      refine ex_iload hX dX6_slack_97 rfl ?_
      refine ex_ifneB hX 120 dX6_slack_99 (by decide) (fun c5 => ?_) (fun c5 => ?_)
      · replace w := w.1 c5
        refine ex_iinc (v := x4 + 1) (lv' := [some (.ref 0), some (.int x1), some (.int x2), some (.int (if ((h.1 (42 + 4) (Int32.toNatClampNeg x1)) = 0) then ((if x3 = (-1) then (x4 : Int32) else x3) : Int32) else x3)), some (.int (x4 + 1)), some (.int (bI ((h.1 (42 + 4) (Int32.toNatClampNeg x1)) = 0)))]) hX dX6_slack_120 rfl rfl (by decide) rfl ?_
        refine ex_goto hX 42 dX6_slack_123 (by decide) ?_
        exact ex_forget [some (.ref 0), some (.int x1), some (.int x2), some (.int (if ((h.1 (42 + 4) (Int32.toNatClampNeg x1)) = 0) then ((if x3 = (-1) then (x4 : Int32) else x3) : Int32) else x3)), some (.int (x4 + 1)), none] ⟨rfl, ⟨rfl, ⟨rfl, ⟨rfl, ⟨rfl, trivial⟩⟩⟩⟩⟩ w
      · replace w := w.2 c5
        refine ex_iload_n hX dX6_slack_102 rfl rfl ?_
        refine ex_nameI (fun v6 ev6 => ?_)
        replace w := w v6 ev6
        refine ex_iconst (v := (-1)) hX dX6_slack_103 rfl ?_
        refine ex_icmpeq hX 120 dX6_slack_104 (by decide) (fun c7 => ?_) (fun c7 => ?_)
        · replace w := w.1 c7
          refine ex_iinc (v := x4 + 1) (lv' := [some (.ref 0), some (.int x1), some (.int x2), some (.int (if ((h.1 (42 + 4) (Int32.toNatClampNeg x1)) = 0) then ((if x3 = (-1) then (x4 : Int32) else x3) : Int32) else x3)), some (.int (x4 + 1)), some (.int (bI ((h.1 (42 + 4) (Int32.toNatClampNeg x1)) = 0)))]) hX dX6_slack_120 rfl rfl (by decide) rfl ?_
          refine ex_goto hX 42 dX6_slack_123 (by decide) ?_
          exact ex_forget [some (.ref 0), some (.int x1), some (.int x2), some (.int (if ((h.1 (42 + 4) (Int32.toNatClampNeg x1)) = 0) then ((if x3 = (-1) then (x4 : Int32) else x3) : Int32) else x3)), some (.int (x4 + 1)), none] ⟨rfl, ⟨rfl, ⟨rfl, ⟨rfl, ⟨rfl, trivial⟩⟩⟩⟩⟩ w
        · replace w := w.2 c7
          refine ex_iload_n hX dX6_slack_107 rfl rfl ?_
          refine ex_ifne hX 115 dX6_slack_108 (by decide) (fun c8 => ?_) (fun c8 => ?_)
          · replace w := w.1 c8
            refine ex_iload hX dX6_slack_115 rfl ?_
            refine ex_iload_n hX dX6_slack_117 rfl rfl ?_
            refine ex_nameI (fun v9 ev9 => ?_)
            replace w := w v9 ev9
            refine ex_isub hX dX6_slack_118 ?_
            exact ex_iret hX dX6_slack_119 rfl w
          · replace w := w.2 c8
            refine ex_iload_n hX dX6_slack_111 rfl rfl ?_
            refine ex_nameI (fun v10 ev10 => ?_)
            replace w := w v10 ev10
            refine ex_goto hX 119 dX6_slack_112 (by decide) ?_
            exact ex_iret hX dX6_slack_119 rfl w
    refine ex_ifeqB hX 97 dX6_slack_86 (by decide) (fun c3 => ?_) (fun c3 => ?_)
    · rw [show (if ((h.1 (42 + 4) (Int32.toNatClampNeg x1)) = 0) then ((if x3 = (-1) then (x4 : Int32) else x3) : Int32) else x3) = x3 from if_neg c3] at kc3
      exact ex_forget [some (.ref 0), some (.int x1), some (.int x2), some (.int x3), some (.int x4), some (.int (bI ((h.1 (42 + 4) (Int32.toNatClampNeg x1)) = 0)))] ⟨rfl, ⟨rfl, ⟨rfl, ⟨rfl, ⟨rfl, ⟨rfl, trivial⟩⟩⟩⟩⟩⟩ kc3
    · refine ex_iload_n hX dX6_slack_89 rfl rfl ?_
      refine ex_iconst (v := (-1)) hX dX6_slack_90 rfl ?_
      have kc4 : EX Z 6 (QI Z post) 97 h [some (.ref 0), some (.int x1), some (.int x2), some (.int (if x3 = (-1) then (x4 : Int32) else x3)), some (.int x4), some (.int (bI ((h.1 (42 + 4) (Int32.toNatClampNeg x1)) = 0)))] [] := by
        rw [show (if ((h.1 (42 + 4) (Int32.toNatClampNeg x1)) = 0) then ((if x3 = (-1) then (x4 : Int32) else x3) : Int32) else x3) = (if x3 = (-1) then (x4 : Int32) else x3) from if_pos c3] at kc3
        exact ex_forget [some (.ref 0), some (.int x1), some (.int x2), some (.int (if x3 = (-1) then (x4 : Int32) else x3)), some (.int x4), some (.int (bI ((h.1 (42 + 4) (Int32.toNatClampNeg x1)) = 0)))] ⟨rfl, ⟨rfl, ⟨rfl, ⟨rfl, ⟨rfl, ⟨rfl, trivial⟩⟩⟩⟩⟩⟩ kc3
      refine ex_icmpne hX 97 dX6_slack_91 (by decide) (fun c4 => ?_) (fun c4 => ?_)
      · rw [show (if x3 = (-1) then (x4 : Int32) else x3) = x3 from if_neg c4] at kc4
        exact ex_forget [some (.ref 0), some (.int x1), some (.int x2), some (.int x3), some (.int x4), some (.int (bI ((h.1 (42 + 4) (Int32.toNatClampNeg x1)) = 0)))] ⟨rfl, ⟨rfl, ⟨rfl, ⟨rfl, ⟨rfl, ⟨rfl, trivial⟩⟩⟩⟩⟩⟩ kc4
      · refine ex_iload hX dX6_slack_94 rfl ?_
        refine ex_istore_n (lv' := [some (.ref 0), some (.int x1), some (.int x2), some (.int x4), some (.int x4), some (.int (bI ((h.1 (42 + 4) (Int32.toNatClampNeg x1)) = 0)))]) hX dX6_slack_96 rfl (by decide) rfl ?_
        rw [show (if x3 = (-1) then (x4 : Int32) else x3) = x4 from if_pos c4] at kc4
        exact ex_forget [some (.ref 0), some (.int x1), some (.int x2), some (.int x4), some (.int x4), some (.int (bI ((h.1 (42 + 4) (Int32.toNatClampNeg x1)) = 0)))] ⟨rfl, ⟨rfl, ⟨rfl, ⟨rfl, ⟨rfl, ⟨rfl, trivial⟩⟩⟩⟩⟩⟩ kc4
  refine ex_ifne hX 81 dX6_slack_74 (by decide) (fun c2 => ?_) (fun c2 => ?_)
  · refine ex_iconst (v := 0) hX dX6_slack_81 rfl ?_
    rw [show (bI ((h.1 (42 + 4) (Int32.toNatClampNeg x1)) = 0)) = 0 from bI_f c2] at kc2
    exact ex_forget [some (.ref 0), some (.int x1), some (.int x2), some (.int x3), some (.int x4), none] ⟨rfl, ⟨rfl, ⟨rfl, ⟨rfl, ⟨rfl, trivial⟩⟩⟩⟩⟩ kc2
  · refine ex_iconst (v := 1) hX dX6_slack_77 rfl ?_
    refine ex_goto hX 82 dX6_slack_78 (by decide) ?_
    rw [show (bI ((h.1 (42 + 4) (Int32.toNatClampNeg x1)) = 0)) = 1 from bI_t c2] at kc2
    exact ex_forget [some (.ref 0), some (.int x1), some (.int x2), some (.int x3), some (.int x4), none] ⟨rfl, ⟨rfl, ⟨rfl, ⟨rfl, ⟨rfl, trivial⟩⟩⟩⟩⟩ kc2

set_option maxRecDepth 100000 in
set_option maxHeartbeats 4000000 in
theorem sg_X7_slack_0 {Z : CX × GX} {post : Int32 → AH → Prop} {h : AH} {x1 : Int32} {x2 : Int32} (hX : OK Z RX7 cX7_slack 5 (some .int) 5 118) 
    (w : (((0 ≤ x1 ∧ x1 ≤ h.1 94 9 - 2) → (((0 ≤ (Int32.toInt64 x2) ∧ (Int32.toInt64 x2) ≤ 1) → (∃ PP : AH → Prop, CV yX7_tryHours cX7_tryHours 6 4 93 [.ref 94, .int 200, .int 0, .int 0] h PP ∧ ∀ u : AH, PP u → EX Z 5 (QI Z post) 33 u [some (.ref 94), some (.int x1), some (.int x2), none, none] [])) ∧ (¬ (0 ≤ (Int32.toInt64 x2) ∧ (Int32.toInt64 x2) ≤ 1) → post (-100000002) h))) ∧ (¬ (0 ≤ x1 ∧ x1 ≤ h.1 94 9 - 2) → post (-100000001) h)))
    : EX Z 5 (QI Z post) 0 h [some (.ref 94), some (.int x1), some (.int x2), none, none] [] := by
  refine ex_aload_n hX dX7_slack_0 rfl rfl ?_
  refine ex_iload_n hX dX7_slack_1 rfl rfl ?_
  refine ex_pIv (ci := 7) (i := 94) (As := [.int x1]) (st := []) hX (c_X7_isGate (h := h)) CS_7_192 MS_X7_isGate rfl rfl rfl (by decide) rfl (Nat.le_of_ble_eq_true rfl) dX7_slack_2 ?_
  refine ex_ifneB hX 11 dX7_slack_5 (by decide) (fun c1 => ?_) (fun c1 => ?_)
  · replace w := w.1 c1
    refine ex_iload_n hX dX7_slack_11 rfl rfl ?_
    refine ex_i2l hX dX7_slack_12 ?_
    refine ex_lconst (v := 0) hX dX7_slack_13 rfl ?_
    refine ex_lconst (v := 1) hX dX7_slack_14 rfl ?_
    refine ex_pIs (As := [.long (Int32.toInt64 x2), .long 0, .long 1]) (st := []) hX (c_X7_in (h := h)) CS_7_71 MS_X7_in rfl (by decide) rfl (Nat.le_of_ble_eq_true rfl) dX7_slack_15 ?_
    refine ex_ifneB hX 24 dX7_slack_18 (by decide) (fun c2 => ?_) (fun c2 => ?_)
    · replace w := w.1 c2
      refine ex_aload_n hX dX7_slack_24 rfl rfl ?_
      refine ex_sipush (v := 200) hX dX7_slack_25 rfl ?_
      refine ex_iconst (v := 0) hX dX7_slack_28 rfl ?_
      refine ex_iconst (v := 0) hX dX7_slack_29 rfl ?_
      obtain ⟨PP, pM, pK⟩ := w
      exact ex_callVv (ci := 7) (i := 94) (As := [.int 200, .int 0, .int 0]) (st := []) hX pM CS_7_253 MS_X7_tryHours rfl rfl rfl (by decide) rfl (Nat.le_of_ble_eq_true rfl) dX7_slack_30 (fun u hp => pK u hp)
    · replace w := w.2 c2
      refine ex_ldc hX dX7_slack_21 KC_7_75 ?_
      exact ex_iret hX dX7_slack_23 rfl w
  · replace w := w.2 c1
    refine ex_ldc hX dX7_slack_8 KC_7_185 ?_
    exact ex_iret hX dX7_slack_10 rfl w

set_option maxRecDepth 100000 in
set_option maxHeartbeats 4000000 in
theorem sg_X7_slack_33 {Z : CX × GX} {post : Int32 → AH → Prop} {h : AH} {x1 : Int32} {x2 : Int32} (hX : OK Z RX7 cX7_slack 5 (some .int) 5 118) 
    (w : EX Z 5 (QI Z post) 35 h [some (.ref 94), some (.int x1), some (.int x2), some (.int 0), none] [])
    : EX Z 5 (QI Z post) 33 h [some (.ref 94), some (.int x1), some (.int x2), none, none] [] := by
  refine ex_iconst (v := 0) hX dX7_slack_33 rfl ?_
  refine ex_istore_n (lv' := [some (.ref 94), some (.int x1), some (.int x2), some (.int 0), none]) hX dX7_slack_34 rfl (by decide) rfl ?_
  exact w

set_option maxRecDepth 100000 in
set_option maxHeartbeats 4000000 in
theorem sg_X7_slack_35 {Z : CX × GX} {post : Int32 → AH → Prop} {h : AH} {x1 : Int32} {x2 : Int32} {x3 : Int32} (hX : OK Z RX7 cX7_slack 5 (some .int) 5 118) 
    (w : ((200 ≤ x3 → ((¬ x3 = 200 → EX Z 5 (QI Z post) 74 h [some (.ref 94), some (.int x1), some (.int x2), some (.int x3), some (.int x3)] []) ∧ (x3 = 200 → post (-1) h))) ∧ (¬ 200 ≤ x3 → (vp_in ((9 * x3) + x1) 1800) ∧ (∀ v4 : Int32, v4 = h.1 109 (Int32.toNatClampNeg ((9 * x3) + x1)) → ((v4 = 0 → ((¬ x3 = 200 → EX Z 5 (QI Z post) 74 h [some (.ref 94), some (.int x1), some (.int x2), some (.int x3), some (.int x3)] []) ∧ (x3 = 200 → post (-1) h))) ∧ (¬ v4 = 0 → EX Z 5 (QI Z post) 35 h [some (.ref 94), some (.int x1), some (.int x2), some (.int (x3 + 1)), none] []))))))
    : EX Z 5 (QI Z post) 35 h [some (.ref 94), some (.int x1), some (.int x2), some (.int x3), none] [] := by
  refine ex_iload_n hX dX7_slack_35 rfl rfl ?_
  refine ex_sipush (v := 200) hX dX7_slack_36 rfl ?_
  refine ex_icmpge hX 62 dX7_slack_39 (by decide) (fun c1 => ?_) (fun c1 => ?_)
  · replace w := w.1 c1
    refine ex_iload_n hX dX7_slack_62 rfl rfl ?_
    refine ex_sipush (v := 200) hX dX7_slack_63 rfl ?_
    refine ex_icmpne hX 71 dX7_slack_66 (by decide) (fun c2 => ?_) (fun c2 => ?_)
    · replace w := w.1 c2
      refine ex_iload_n hX dX7_slack_71 rfl rfl ?_
      refine ex_istore (lv' := [some (.ref 94), some (.int x1), some (.int x2), some (.int x3), some (.int x3)]) hX dX7_slack_72 (by decide) rfl ?_
      exact w
    · replace w := w.2 c2
      refine ex_iconst (v := (-1)) hX dX7_slack_69 rfl ?_
      exact ex_iret hX dX7_slack_70 rfl w
  · replace w := w.2 c1
    refine ex_aload_n hX dX7_slack_42 rfl rfl ?_
    refine ex_get hX (.ref 109) FL_7_57 rfl (fun _ => rfl) dX7_slack_43 ?_
    refine ex_bipush (v := 9) hX dX7_slack_46 rfl ?_
    refine ex_iload_n hX dX7_slack_48 rfl rfl ?_
    refine ex_imul hX dX7_slack_49 ?_
    refine ex_iload_n hX dX7_slack_50 rfl rfl ?_
    refine ex_iadd hX dX7_slack_51 ?_
    obtain ⟨q3, w⟩ := w
    refine ex_iald hX rfl q3 dX7_slack_52 ?_
    refine ex_nameI (fun v4 ev4 => ?_)
    replace w := w v4 ev4
    refine ex_ifeq hX 62 dX7_slack_53 (by decide) (fun c5 => ?_) (fun c5 => ?_)
    · replace w := w.1 c5
      refine ex_iload_n hX dX7_slack_62 rfl rfl ?_
      refine ex_sipush (v := 200) hX dX7_slack_63 rfl ?_
      refine ex_icmpne hX 71 dX7_slack_66 (by decide) (fun c6 => ?_) (fun c6 => ?_)
      · replace w := w.1 c6
        refine ex_iload_n hX dX7_slack_71 rfl rfl ?_
        refine ex_istore (lv' := [some (.ref 94), some (.int x1), some (.int x2), some (.int x3), some (.int x3)]) hX dX7_slack_72 (by decide) rfl ?_
        exact w
      · replace w := w.2 c6
        refine ex_iconst (v := (-1)) hX dX7_slack_69 rfl ?_
        exact ex_iret hX dX7_slack_70 rfl w
    · replace w := w.2 c5
      refine ex_iinc (v := x3 + 1) (lv' := [some (.ref 94), some (.int x1), some (.int x2), some (.int (x3 + 1)), none]) hX dX7_slack_56 rfl rfl (by decide) rfl ?_
      refine ex_goto hX 35 dX7_slack_59 (by decide) ?_
      exact w

set_option maxRecDepth 100000 in
set_option maxHeartbeats 4000000 in
theorem sg_X7_slack_74 {Z : CX × GX} {post : Int32 → AH → Prop} {h : AH} {x1 : Int32} {x2 : Int32} {x3 : Int32} {x4 : Int32} (hX : OK Z RX7 cX7_slack 5 (some .int) 5 118) 
    (w : ((200 ≤ x4 → ((¬ x2 = 0 → post (x4 - x3) h) ∧ (x2 = 0 → post x3 h))) ∧ (¬ 200 ≤ x4 → (vp_in ((9 * x4) + x1) 1800) ∧ (∀ v4 : Int32, v4 = h.1 109 (Int32.toNatClampNeg ((9 * x4) + x1)) → ((¬ v4 = 0 → ((¬ x2 = 0 → post (x4 - x3) h) ∧ (x2 = 0 → post x3 h))) ∧ (v4 = 0 → EX Z 5 (QI Z post) 74 h [some (.ref 94), some (.int x1), some (.int x2), some (.int x3), some (.int (x4 + 1))] []))))))
    : EX Z 5 (QI Z post) 74 h [some (.ref 94), some (.int x1), some (.int x2), some (.int x3), some (.int x4)] [] := by
  refine ex_iload hX dX7_slack_74 rfl ?_
  refine ex_sipush (v := 200) hX dX7_slack_76 rfl ?_
  refine ex_icmpge hX 103 dX7_slack_79 (by decide) (fun c1 => ?_) (fun c1 => ?_)
  · replace w := w.1 c1
    refine ex_iload_n hX dX7_slack_103 rfl rfl ?_
    refine ex_ifne hX 111 dX7_slack_104 (by decide) (fun c2 => ?_) (fun c2 => ?_)
    · replace w := w.1 c2
      refine ex_iload hX dX7_slack_111 rfl ?_
      refine ex_iload_n hX dX7_slack_113 rfl rfl ?_
      refine ex_isub hX dX7_slack_114 ?_
      exact ex_iret hX dX7_slack_115 rfl w
    · replace w := w.2 c2
      refine ex_iload_n hX dX7_slack_107 rfl rfl ?_
      refine ex_goto hX 115 dX7_slack_108 (by decide) ?_
      exact ex_iret hX dX7_slack_115 rfl w
  · replace w := w.2 c1
    refine ex_aload_n hX dX7_slack_82 rfl rfl ?_
    refine ex_get hX (.ref 109) FL_7_57 rfl (fun _ => rfl) dX7_slack_83 ?_
    refine ex_bipush (v := 9) hX dX7_slack_86 rfl ?_
    refine ex_iload hX dX7_slack_88 rfl ?_
    refine ex_imul hX dX7_slack_90 ?_
    refine ex_iload_n hX dX7_slack_91 rfl rfl ?_
    refine ex_iadd hX dX7_slack_92 ?_
    obtain ⟨q3, w⟩ := w
    refine ex_iald hX rfl q3 dX7_slack_93 ?_
    refine ex_nameI (fun v4 ev4 => ?_)
    replace w := w v4 ev4
    refine ex_ifne hX 103 dX7_slack_94 (by decide) (fun c5 => ?_) (fun c5 => ?_)
    · replace w := w.1 c5
      refine ex_iload_n hX dX7_slack_103 rfl rfl ?_
      refine ex_ifne hX 111 dX7_slack_104 (by decide) (fun c6 => ?_) (fun c6 => ?_)
      · replace w := w.1 c6
        refine ex_iload hX dX7_slack_111 rfl ?_
        refine ex_iload_n hX dX7_slack_113 rfl rfl ?_
        refine ex_isub hX dX7_slack_114 ?_
        exact ex_iret hX dX7_slack_115 rfl w
      · replace w := w.2 c6
        refine ex_iload_n hX dX7_slack_107 rfl rfl ?_
        refine ex_goto hX 115 dX7_slack_108 (by decide) ?_
        exact ex_iret hX dX7_slack_115 rfl w
    · replace w := w.2 c5
      refine ex_iinc (v := x4 + 1) (lv' := [some (.ref 94), some (.int x1), some (.int x2), some (.int x3), some (.int (x4 + 1))]) hX dX7_slack_97 rfl rfl (by decide) rfl ?_
      refine ex_goto hX 74 dX7_slack_100 (by decide) ?_
      exact w

set_option maxRecDepth 100000 in
set_option maxHeartbeats 4000000 in
theorem sg_X6_judge_0 {Z : CX × GX} {post : Int32 → AH → Prop} {h : AH} {x1 : Int32} (hX : OK Z RX6 cX6_judge 3 (some .int) 4 123) 
    (w : ((x1 < 0 → post (-100000002) h) ∧ (¬ x1 < 0 → ((x1 ≤ 9999 → ((¬ (h.1 (h.2 1) 0) = 0 → (∃ PP : AH → Prop, CV yX3_becomeAs cX3_becomeAs 2 3 102 [.ref 42, .ref 27] h PP ∧ ∀ u : AH, PP u → EX Z 3 (QI Z post) 38 u [some (.ref 0), some (.int x1), none] [])) ∧ ((h.1 (h.2 1) 0) = 0 → post (-100000003) h))) ∧ (¬ x1 ≤ 9999 → post (-100000002) h)))))
    : EX Z 3 (QI Z post) 0 h [some (.ref 0), some (.int x1), none] [] := by
  refine ex_iload_n hX dX6_judge_0 rfl rfl ?_
  refine ex_iflt hX 11 dX6_judge_1 (by decide) (fun c1 => ?_) (fun c1 => ?_)
  · replace w := w.1 c1
    refine ex_ldc hX dX6_judge_11 KC_6_72 ?_
    exact ex_iret hX dX6_judge_13 rfl w
  · replace w := w.2 c1
    refine ex_iload_n hX dX6_judge_4 rfl rfl ?_
    refine ex_sipush (v := 9999) hX dX6_judge_5 rfl ?_
    refine ex_icmple hX 14 dX6_judge_8 (by decide) (fun c2 => ?_) (fun c2 => ?_)
    · replace w := w.1 c2
      refine ex_aload_n hX dX6_judge_14 rfl rfl ?_
      refine ex_gg (fun c3 => ?_)
      refine ex_get hX (.ref (h.2 1)) FL_6_19 rfl (fun _ => rfl) dX6_judge_15 ?_
      refine ex_get hX (.int (h.1 (h.2 1) 0)) FL_6_100 c3.1 (fun _ => rfl) dX6_judge_18 ?_
      refine ex_ifne hX 27 dX6_judge_21 (by decide) (fun c4 => ?_) (fun c4 => ?_)
      · replace w := w.1 c4
        refine ex_aload_n hX dX6_judge_27 rfl rfl ?_
        refine ex_get hX (.ref 42) FL_6_43 rfl (fun _ => rfl) dX6_judge_28 ?_
        refine ex_aload_n hX dX6_judge_31 rfl rfl ?_
        refine ex_get hX (.ref 27) FL_6_39 rfl (fun _ => rfl) dX6_judge_32 ?_
        obtain ⟨PP, pM, pK⟩ := w
        exact ex_callVv (ci := 3) (i := 42) (As := [.ref 27]) (st := []) hX pM CS_6_198 MS_X3_becomeAs rfl rfl rfl (by decide) rfl (Nat.le_of_ble_eq_true rfl) dX6_judge_35 (fun u hp => pK u hp)
      · replace w := w.2 c4
        refine ex_ldc hX dX6_judge_24 KC_6_103 ?_
        exact ex_iret hX dX6_judge_26 rfl w
    · replace w := w.2 c2
      refine ex_ldc hX dX6_judge_11 KC_6_72 ?_
      exact ex_iret hX dX6_judge_13 rfl w

set_option maxRecDepth 100000 in
set_option maxHeartbeats 4000000 in
theorem sg_X6_judge_38 {Z : CX × GX} {post : Int32 → AH → Prop} {h : AH} {x1 : Int32} (hX : OK Z RX6 cX6_judge 3 (some .int) 4 123) 
    (w : EX Z 3 (QI Z post) 40 h [some (.ref 0), some (.int x1), some (.int 0)] [])
    : EX Z 3 (QI Z post) 38 h [some (.ref 0), some (.int x1), none] [] := by
  refine ex_iconst (v := 0) hX dX6_judge_38 rfl ?_
  refine ex_istore_n (lv' := [some (.ref 0), some (.int x1), some (.int 0)]) hX dX6_judge_39 rfl (by decide) rfl ?_
  exact w

set_option maxRecDepth 100000 in
set_option maxHeartbeats 4000000 in
theorem sg_X6_judge_40 {Z : CX × GX} {post : Int32 → AH → Prop} {h : AH} {x1 : Int32} {x2 : Int32} (hX : OK Z RX6 cX6_judge 3 (some .int) 4 123) 
    (w : (((h.1 0 12) ≤ x2 → post (-1) h) ∧ (¬ (h.1 0 12) ≤ x2 → (vp_in x2 60) ∧ (∀ v3 : Int32, v3 = (h.1 93 (Int32.toNatClampNeg x2)) - (h.1 (42 + 1) (Int32.toNatClampNeg 0)) → (((if 0 ≤ v3 then v3 else 0 - v3) ≤ x1 → (∃ PP : AH → Prop, CV yX3_passHour cX3_passHour 4 3 70 [.ref 42, .ref (h.2 1), .ref (h.2 3)] h PP ∧ ∀ u : AH, PP u → EX Z 3 (QI Z post) 88 u [some (.ref 0), some (.int x1), some (.int x2)] [])) ∧ (¬ (if 0 ≤ v3 then v3 else 0 - v3) ≤ x1 → post x2 h))))))
    : EX Z 3 (QI Z post) 40 h [some (.ref 0), some (.int x1), some (.int x2)] [] := by
  refine ex_iload_n hX dX6_judge_40 rfl rfl ?_
  refine ex_aload_n hX dX6_judge_41 rfl rfl ?_
  refine ex_get hX (.int (h.1 0 12)) FL_6_97 rfl (fun _ => rfl) dX6_judge_42 ?_
  refine ex_icmpge hX 94 dX6_judge_45 (by decide) (fun c1 => ?_) (fun c1 => ?_)
  · replace w := w.1 c1
    refine ex_iconst (v := (-1)) hX dX6_judge_94 rfl ?_
    exact ex_iret hX dX6_judge_95 rfl w
  · replace w := w.2 c1
    refine ex_aload_n hX dX6_judge_48 rfl rfl ?_
    refine ex_get hX (.ref 93) FL_6_65 rfl (fun _ => rfl) dX6_judge_49 ?_
    refine ex_iload_n hX dX6_judge_52 rfl rfl ?_
    obtain ⟨q2, w⟩ := w
    refine ex_iald hX rfl q2 dX6_judge_53 ?_
    refine ex_aload_n hX dX6_judge_54 rfl rfl ?_
    refine ex_get hX (.ref 42) FL_6_43 rfl (fun _ => rfl) dX6_judge_55 ?_
    refine ex_get hX (.ref (42 + 1)) FL_6_133 rfl (fun _ => rfl) dX6_judge_58 ?_
    refine ex_iconst (v := 0) hX dX6_judge_61 rfl ?_
    refine ex_iald hX (sh_3_1 rfl) (show ¬ ((0 : Int32) < 0 ∨ 10 ≤ (0 : Int32).toNatClampNeg) from by decide) dX6_judge_62 ?_
    refine ex_isub hX dX6_judge_63 ?_
    refine ex_nameI (fun v3 ev3 => ?_)
    replace w := w v3 ev3
    refine ex_mabs hX ML_6_227 JS_abs JI_Math JC_abs ⟨Nat.le_of_ble_eq_true rfl, Nat.le_of_ble_eq_true rfl⟩ dX6_judge_64 ?_
    refine ex_iload_n hX dX6_judge_67 rfl rfl ?_
    refine ex_icmple hX 73 dX6_judge_68 (by decide) (fun c4 => ?_) (fun c4 => ?_)
    · replace w := w.1 c4
      refine ex_aload_n hX dX6_judge_73 rfl rfl ?_
      refine ex_get hX (.ref 42) FL_6_43 rfl (fun _ => rfl) dX6_judge_74 ?_
      refine ex_aload_n hX dX6_judge_77 rfl rfl ?_
      refine ex_gg (fun c5 => ?_)
      refine ex_get hX (.ref (h.2 1)) FL_6_19 rfl (fun _ => rfl) dX6_judge_78 ?_
      refine ex_aload_n hX dX6_judge_81 rfl rfl ?_
      refine ex_gg (fun c6 => ?_)
      refine ex_get hX (.ref (h.2 3)) FL_6_29 rfl (fun _ => rfl) dX6_judge_82 ?_
      obtain ⟨PP, pM, pK⟩ := w
      exact ex_callVv (ci := 3) (i := 42) (As := [.ref (h.2 1), .ref (h.2 3)]) (st := []) hX pM CS_6_162 MS_X3_passHour rfl rfl rfl (by decide) rfl (Nat.le_of_ble_eq_true rfl) dX6_judge_85 (fun u hp => pK u hp)
    · replace w := w.2 c4
      refine ex_iload_n hX dX6_judge_71 rfl rfl ?_
      exact ex_iret hX dX6_judge_72 rfl w

set_option maxRecDepth 100000 in
set_option maxHeartbeats 4000000 in
theorem sg_X6_judge_88 {Z : CX × GX} {post : Int32 → AH → Prop} {h : AH} {x1 : Int32} {x2 : Int32} (hX : OK Z RX6 cX6_judge 3 (some .int) 4 123) 
    (w : EX Z 3 (QI Z post) 40 h [some (.ref 0), some (.int x1), some (.int (x2 + 1))] [])
    : EX Z 3 (QI Z post) 88 h [some (.ref 0), some (.int x1), some (.int x2)] [] := by
  refine ex_iinc (v := x2 + 1) (lv' := [some (.ref 0), some (.int x1), some (.int (x2 + 1))]) hX dX6_judge_88 rfl rfl (by decide) rfl ?_
  refine ex_goto hX 40 dX6_judge_91 (by decide) ?_
  exact w

set_option maxRecDepth 100000 in
set_option maxHeartbeats 4000000 in
theorem sg_X7_judge_0 {Z : CX × GX} {post : Int32 → AH → Prop} {h : AH} {x1 : Int32} (hX : OK Z RX7 cX7_judge 4 (some .int) 4 93) 
    (w : (((0 ≤ (Int32.toInt64 x1) ∧ (Int32.toInt64 x1) ≤ 9999) → ((¬ (h.1 94 9) = 0 → (∀ u3 : AH, u3 = (hset h.1 94 25 0, h.2) → (∃ PP : AH → Prop, CV yX7_copy cX7_copy 4 0 0 [.ref 94, .int 0, .int 200] u3 PP ∧ ∀ u : AH, PP u → EX Z 4 (QI Z post) 38 u [some (.ref 94), some (.int x1), none, none] []))) ∧ ((h.1 94 9) = 0 → post (-100000003) h))) ∧ (¬ (0 ≤ (Int32.toInt64 x1) ∧ (Int32.toInt64 x1) ≤ 9999) → post (-100000002) h)))
    : EX Z 4 (QI Z post) 0 h [some (.ref 94), some (.int x1), none, none] [] := by
  refine ex_iload_n hX dX7_judge_0 rfl rfl ?_
  refine ex_i2l hX dX7_judge_1 ?_
  refine ex_lconst (v := 0) hX dX7_judge_2 rfl ?_
  refine ex_ldc2 hX dX7_judge_3 KL_7_230 ?_
  refine ex_pIs (As := [.long (Int32.toInt64 x1), .long 0, .long 9999]) (st := []) hX (c_X7_in (h := h)) CS_7_71 MS_X7_in rfl (by decide) rfl (Nat.le_of_ble_eq_true rfl) dX7_judge_6 ?_
  refine ex_ifneB hX 15 dX7_judge_9 (by decide) (fun c1 => ?_) (fun c1 => ?_)
  · replace w := w.1 c1
    refine ex_aload_n hX dX7_judge_15 rfl rfl ?_
    refine ex_get hX (.int (h.1 94 9)) FL_7_161 rfl (fun _ => rfl) dX7_judge_16 ?_
    refine ex_ifne hX 25 dX7_judge_19 (by decide) (fun c2 => ?_) (fun c2 => ?_)
    · replace w := w.1 c2
      refine ex_aload_n hX dX7_judge_25 rfl rfl ?_
      refine ex_iconst (v := 0) hX dX7_judge_26 rfl ?_
      refine ex_put hX .int FL_7_195 tyX7 tyX7_ok nmX7 rfl rfl rfl rfl rfl (fun _ => (by decide : 25 < 33)) (fun _ => fs_7_25) dX7_judge_27 ?_
      refine ex_nameH (fun u3 eu3 => ?_)
      replace w := w u3 eu3
      refine ex_aload_n hX dX7_judge_30 rfl rfl ?_
      refine ex_iconst (v := 0) hX dX7_judge_31 rfl ?_
      refine ex_sipush (v := 200) hX dX7_judge_32 rfl ?_
      obtain ⟨PP, pM, pK⟩ := w
      exact ex_callVv (ci := 7) (i := 94) (As := [.int 0, .int 200]) (st := []) hX pM CS_7_248 MS_X7_copy rfl rfl rfl (by decide) rfl (Nat.le_of_ble_eq_true rfl) dX7_judge_35 (fun u hp => pK u hp)
    · replace w := w.2 c2
      refine ex_ldc hX dX7_judge_22 KC_7_170 ?_
      exact ex_iret hX dX7_judge_24 rfl w
  · replace w := w.2 c1
    refine ex_ldc hX dX7_judge_12 KC_7_75 ?_
    exact ex_iret hX dX7_judge_14 rfl w

set_option maxRecDepth 100000 in
set_option maxHeartbeats 4000000 in
theorem sg_X7_judge_38 {Z : CX × GX} {post : Int32 → AH → Prop} {h : AH} {x1 : Int32} (hX : OK Z RX7 cX7_judge 4 (some .int) 4 93) 
    (w : EX Z 4 (QI Z post) 40 h [some (.ref 94), some (.int x1), some (.int 0), none] [])
    : EX Z 4 (QI Z post) 38 h [some (.ref 94), some (.int x1), none, none] [] := by
  refine ex_iconst (v := 0) hX dX7_judge_38 rfl ?_
  refine ex_istore_n (lv' := [some (.ref 94), some (.int x1), some (.int 0), none]) hX dX7_judge_39 rfl (by decide) rfl ?_
  exact w

set_option maxRecDepth 100000 in
set_option maxHeartbeats 4000000 in
theorem sg_X7_judge_40 {Z : CX × GX} {post : Int32 → AH → Prop} {h : AH} {x1 : Int32} {x2 : Int32} (hX : OK Z RX7 cX7_judge 4 (some .int) 4 93) 
    (w : (((h.1 94 32) ≤ x2 → post (-1) h) ∧ (¬ (h.1 94 32) ≤ x2 → (vp_in x2 60) ∧ (∀ v3 : Int32, v3 = (h.1 95 (Int32.toNatClampNeg 200)) - (h.1 112 (Int32.toNatClampNeg x2)) → ((x1 < v3 → post x2 h) ∧ (¬ x1 < v3 → (((-v3) ≤ x1 → (∃ PP : AH → Prop, CV yX7_pass cX7_pass 3 3 71 [.ref 94, .int 200] h PP ∧ ∀ u : AH, PP u → EX Z 4 (QI Z post) 84 u [some (.ref 94), some (.int x1), some (.int x2), none] [])) ∧ (¬ (-v3) ≤ x1 → post x2 h))))))))
    : EX Z 4 (QI Z post) 40 h [some (.ref 94), some (.int x1), some (.int x2), none] [] := by
  refine ex_iload_n hX dX7_judge_40 rfl rfl ?_
  refine ex_aload_n hX dX7_judge_41 rfl rfl ?_
  refine ex_get hX (.int (h.1 94 32)) FL_7_167 rfl (fun _ => rfl) dX7_judge_42 ?_
  refine ex_icmpge hX 90 dX7_judge_45 (by decide) (fun c1 => ?_) (fun c1 => ?_)
  · replace w := w.1 c1
    refine ex_iconst (v := (-1)) hX dX7_judge_90 rfl ?_
    exact ex_iret hX dX7_judge_91 rfl w
  · replace w := w.2 c1
    refine ex_aload_n hX dX7_judge_48 rfl rfl ?_
    refine ex_get hX (.ref 95) FL_7_7 rfl (fun _ => rfl) dX7_judge_49 ?_
    refine ex_sipush (v := 200) hX dX7_judge_52 rfl ?_
    refine ex_iald hX rfl (show ¬ ((200 : Int32) < 0 ∨ 800 ≤ (200 : Int32).toNatClampNeg) from by decide) dX7_judge_55 ?_
    refine ex_aload_n hX dX7_judge_56 rfl rfl ?_
    refine ex_get hX (.ref 112) FL_7_66 rfl (fun _ => rfl) dX7_judge_57 ?_
    refine ex_iload_n hX dX7_judge_60 rfl rfl ?_
    obtain ⟨q2, w⟩ := w
    refine ex_iald hX rfl q2 dX7_judge_61 ?_
    refine ex_isub hX dX7_judge_62 ?_
    refine ex_nameI (fun v3 ev3 => ?_)
    replace w := w v3 ev3
    refine ex_istore_n (lv' := [some (.ref 94), some (.int x1), some (.int x2), some (.int v3)]) hX dX7_judge_63 rfl (by decide) rfl ?_
    refine ex_iload_n hX dX7_judge_64 rfl rfl ?_
    refine ex_iload_n hX dX7_judge_65 rfl rfl ?_
    refine ex_icmpgt hX 75 dX7_judge_66 (by decide) (fun c4 => ?_) (fun c4 => ?_)
    · replace w := w.1 c4
      refine ex_iload_n hX dX7_judge_75 rfl rfl ?_
      exact ex_iret hX dX7_judge_76 rfl w
    · replace w := w.2 c4
      refine ex_iload_n hX dX7_judge_69 rfl rfl ?_
      refine ex_ineg hX dX7_judge_70 ?_
      refine ex_iload_n hX dX7_judge_71 rfl rfl ?_
      refine ex_icmple hX 77 dX7_judge_72 (by decide) (fun c5 => ?_) (fun c5 => ?_)
      · replace w := w.1 c5
        refine ex_aload_n hX dX7_judge_77 rfl rfl ?_
        refine ex_sipush (v := 200) hX dX7_judge_78 rfl ?_
        obtain ⟨PP, pM, pK⟩ := w
        exact ex_callVv (ci := 7) (i := 94) (As := [.int 200]) (st := []) hX pM CS_7_225 MS_X7_pass rfl rfl rfl (by decide) rfl (Nat.le_of_ble_eq_true rfl) dX7_judge_81 (fun u hp => ex_forget [some (.ref 94), some (.int x1), some (.int x2), none] ⟨rfl, ⟨rfl, ⟨rfl, trivial⟩⟩⟩ (pK u hp))
      · replace w := w.2 c5
        refine ex_iload_n hX dX7_judge_75 rfl rfl ?_
        exact ex_iret hX dX7_judge_76 rfl w

set_option maxRecDepth 100000 in
set_option maxHeartbeats 4000000 in
theorem sg_X7_judge_84 {Z : CX × GX} {post : Int32 → AH → Prop} {h : AH} {x1 : Int32} {x2 : Int32} (hX : OK Z RX7 cX7_judge 4 (some .int) 4 93) 
    (w : EX Z 4 (QI Z post) 40 h [some (.ref 94), some (.int x1), some (.int (x2 + 1)), none] [])
    : EX Z 4 (QI Z post) 84 h [some (.ref 94), some (.int x1), some (.int x2), none] [] := by
  refine ex_iinc (v := x2 + 1) (lv' := [some (.ref 94), some (.int x1), some (.int (x2 + 1)), none]) hX dX7_judge_84 rfl rfl (by decide) rfl ?_
  refine ex_goto hX 40 dX7_judge_87 (by decide) ?_
  exact w

/-- the first place from i on, of m, where p holds; else i + m -/
def fstS (q : Nat → Bool) : Nat → Nat → Nat
  | 0, i => i
  | m + 1, i => if q i = true then i else fstS q m (i + 1)
theorem fst_eq {q : Nat → Bool} : ∀ m i e, i ≤ e → e ≤ i + m → (∀ t, i ≤ t → t < e → q t = false) → (e = i + m ∨ q e = true) → fstS q m i = e := by
  intro m
  induction m with
  | zero => intro i e h1 h2 _ _; unfold fstS; omega
  | succ m ih =>
    intro i e h1 h2 h3 h4
    unfold fstS
    by_cases c : i = e
    · subst c
      rcases h4 with h4 | h4
      · omega
      · rw [if_pos h4]
    · rw [if_neg (by rw [h3 i (by omega) (by omega)]; decide)]
      exact ih (i + 1) e (by omega) (by omega) (fun t a b => h3 t (by omega) b) (by rcases h4 with h4 | h4; exact Or.inl (by omega); exact Or.inr h4)
def slackS (F : Nat → Int32) (w : Int32) : Int32 := if fstS (fun t => decide (F t = 0)) 200 0 = 200 then -1 else if w = 0 then nI (fstS (fun t => decide (F t = 0)) 200 0) else nI (fstS (fun t => decide (¬ F t = 0)) (200 - fstS (fun t => decide (F t = 0)) 200 0) (fstS (fun t => decide (F t = 0)) 200 0)) - nI (fstS (fun t => decide (F t = 0)) 200 0)
theorem slack_none {F : Nat → Int32} {w : Int32} (h : ∀ t, t < 200 → ¬ F t = 0) : slackS F w = -1 := by
  have : fstS (fun t => decide (F t = 0)) 200 0 = 200 := fst_eq 200 0 200 (by omega) (by omega) (fun t _ a => decide_eq_false (h t a)) (Or.inl rfl)
  rw [slackS, if_pos this]
theorem slack_some {F : Nat → Int32} {w : Int32} {f e : Nat} (h0 : f < e) (he : e ≤ 200) (h1 : ∀ t, t < f → ¬ F t = 0) (h2 : ∀ t, f ≤ t → t < e → F t = 0) (h3 : e = 200 ∨ ¬ F e = 0) : slackS F w = if w = 0 then nI f else nI e - nI f := by
  have e1 : fstS (fun t => decide (F t = 0)) 200 0 = f := fst_eq 200 0 f (by omega) (by omega) (fun t _ a => decide_eq_false (h1 t a)) (Or.inr (decide_eq_true (h2 f (by omega) h0)))
  have e2 : fstS (fun t => decide (¬ F t = 0)) (200 - f) f = e := fst_eq (200 - f) f e (by omega) (by omega) (fun t a b => decide_eq_false (fun z => z (h2 t a b))) (by rcases h3 with h3 | h3; exact Or.inl (by omega); exact Or.inr (decide_eq_true h3))
  rw [slackS, e1, if_neg (by omega), e2]
def flS (P : PR) (σ : SG) (hw : Int32) (k t : Nat) : Int32 := hoursS P 0 hw (t + 1) σ (20 + k)

set_option maxRecDepth 100000 in
set_option maxHeartbeats 4000000 in
theorem c_X6_slack {h : AH} {a1 : Int32} {a2 : Int32}  {n N : Nat} (hn : n ≤ 10) (hI : INV N h) (hN : N ≤ 511) (en : h.1 (h.2 1) 0 = nI n) (hP : n = 0 ∨ POK (PM h.1)) : CI yX6_slack cX6_slack 6 (some .int) 4 123 [.ref 0, .int a1, .int a2] h (fun r u => T3 (gateA n a1) (rN 0 1 a2) (-100000001) (-100000002) (slackS (flS (PM h.1) (mk (ms h.1 0)) 0 a1.toNatClampNeg) a2) r ∧ TC h u) := by
  refine CI.of [some (.ref 0), some (.int a1), some (.int a2), none, none, none] (by decide +kernel) rfl (Nat.le_of_ble_eq_true rfl) rfl (fun Z hX => ?_)
  have hA : (0 ≤ a1 ∧ a1 < h.1 (h.2 1) 0 - 1) ↔ gateA n a1 := by rw [en]; exact gt1 hn
  have r2 := rnC (x := a2) (lo := 0) (hi := 1) (L := 0) (M := 1) rfl rfl (by decide)
  refine sg_X6_slack_0 hX ⟨fun c => ?_, fun c => ⟨T3.a (fun z => c (hA.mpr z)), TC.rf⟩⟩
  have hA' := hA.mp c
  refine ⟨fun c1 => ⟨T3.b hA' (fun z => (r2.mpr z).1 c1), TC.rf⟩, fun c1 => ⟨fun c2 => ?_, fun c2 => ⟨T3.b hA' (fun z => c2 (r2.mpr z).2), TC.rf⟩⟩⟩
  have hB : rN 0 1 a2 := r2.mp ⟨c1, c2⟩
  have hA2 := hA'
  obtain ⟨k, k1, rfl⟩ := hA'
  have hP' := hP.resolve_left (by omega)
  have ep : pn (PM h.1) = n := by rw [← hI.2.1.1]; exact pn_C en hn
  have ck : Int32.toNatClampNeg (nI k) = k := nI_clamp (by omega)
  rw [ck]
  generalize hF : flS (PM h.1) (mk (ms h.1 0)) 0 k = F
  obtain ⟨PP, q1, q2⟩ := ct_begin hI
  have hT := TOK0 hI hP' i0
  refine ⟨PP, q1, fun u hu => sg_X6_slack_37 hX ?_⟩
  have L : ∀ i, i ≤ 200 → ∀ (u : AH) (x : Int32), CT (PM h.1) (mk (ms h.1 0)) 0 0 h u i → ((x = -1 ∧ ∀ t, t < i → ¬ F t = 0) ∨ ∃ f, x = nI f ∧ f < i ∧ (∀ t, t < f → ¬ F t = 0) ∧ ∀ t, f ≤ t → t < i → F t = 0) → EX Z 6 (QI Z (fun r u => T3 (gateA n (nI k)) (rN 0 1 a2) (-100000001) (-100000002) (slackS F a2) r ∧ TC h u)) 42 u [some (.ref 0), some (.int (nI k)), some (.int a2), some (.int x), some (.int (nI i)), none] [] := by
    refine ldown _ ?_ ?_
    · intro u x hC hx
      refine sg_X6_slack_42 hX ⟨fun _ => ?_, fun z => absurd (by decide : (200 : Int32) ≤ nI 200) z⟩
      rcases hx with ⟨rfl, hx⟩ | ⟨f, rfl, h1, h2, h3⟩
      · exact ⟨fun _ => ⟨T3.c hA2 hB (slack_none hx).symm, hC.1⟩, fun _ => ⟨fun z => absurd rfl z, fun _ => ⟨T3.c hA2 hB (slack_none hx).symm, hC.1⟩⟩⟩
      · have e := slack_some (w := a2) h1 (by omega) h2 h3 (Or.inl rfl)
        refine ⟨fun w0 => ⟨T3.c hA2 hB (by rw [e, if_pos w0]), hC.1⟩, fun w0 => ⟨fun _ => ⟨T3.c hA2 hB (by rw [e, if_neg w0, k_200]), hC.1⟩, fun z => absurd z ?_⟩⟩
        intro z
        have := congrArg Int32.toInt z
        rw [nI_toInt (by omega)] at this
        have e1 : ((-1 : Int32)).toInt = -1 := rfl
        omega
    · intro i hi ih u x hC hx
      refine sg_X6_slack_42 hX ⟨fun z => absurd z (nI_ge (b := 200) hi (by omega)), fun _ => ?_⟩
      obtain ⟨PP, q1, q2⟩ := ct_call hI hN hi rfl hT hC
      rw [hC.1.1]
      refine ⟨PP, q1, fun u2 hu2 => sg_X6_slack_65 hX ?_⟩
      have hC2 := q2 u2 hu2
      rw [ck]
      have fe : u2.1 (42 + 4) k = F i := by
        rw [← hF]
        show _ = hoursS _ _ _ _ _ _
        rw [← hC2.2.2]
        exact mkc_at (f := u2.1) (s := 42) (loc_20 k (by omega)) (by unfold rel; omega)
      rw [fe, nI_1]
      refine ⟨vp_in_nI (by omega) (by omega), fun z => ?_, fun z => ?_⟩
      · rw [if_pos z]
        refine ih u2 _ hC2 (Or.inr ?_)
        rcases hx with ⟨rfl, hx⟩ | ⟨f, rfl, h1, h2, h3⟩
        · exact ⟨i, if_pos rfl, by omega, hx, fun t a b => by rw [show t = i by omega]; exact z⟩
        · refine ⟨f, if_neg ?_, by omega, h2, fun t a b => ?_⟩
          · intro z
            have := congrArg Int32.toInt z
            rw [nI_toInt (by omega)] at this
            have e1 : ((-1 : Int32)).toInt = -1 := rfl
            omega
          · by_cases d : t = i
            · rw [d]; exact z
            · exact h3 t a (by omega)
      · rw [if_neg z]
        intro v6 e6
        subst e6
        rcases hx with ⟨rfl, hx⟩ | ⟨f, rfl, h1, h2, h3⟩
        · refine ⟨fun _ => ih u2 _ hC2 (Or.inl ⟨rfl, fun t ht => ?_⟩), fun z => absurd rfl z⟩
          by_cases d : t = i
          · rw [d]; exact z
          · exact hx t (by omega)
        · have e := slack_some (w := a2) h1 (by omega) h2 h3 (Or.inr z)
          refine ⟨fun z => absurd z ?_, fun _ => ⟨fun w0 v9 e9 => ⟨T3.c hA2 hB (by rw [e, if_neg w0, e9]), hC2.1⟩, fun w0 v9 e9 => ⟨T3.c hA2 hB (by rw [e, if_pos w0, e9]), hC2.1⟩⟩⟩
          intro z
          have := congrArg Int32.toInt z
          rw [nI_toInt (by omega)] at this
          have e1 : ((-1 : Int32)).toInt = -1 := rfl
          omega
  exact L 0 (by omega) u (-1) (q2 u hu 0) (Or.inl ⟨rfl, fun t ht => absurd ht (by omega)⟩)

set_option maxRecDepth 100000 in
set_option maxHeartbeats 4000000 in
theorem c_X7_slack {h : AH} {a1 : Int32} {a2 : Int32}  {n N : Nat} (hn : n ≤ 10) (hI : INV N h) (hN : N ≤ 511) (en : h.1 94 9 = nI n) (hP : n = 0 ∨ POK (PM h.1)) : CI yX7_slack cX7_slack 5 (some .int) 5 118 [.ref 94, .int a1, .int a2] h (fun r u => T3 (gateA n a1) (rN 0 1 a2) (-100000001) (-100000002) (slackS (flS (PM h.1) (mk (ms h.1 0)) 0 a1.toNatClampNeg) a2) r ∧ TM h u) := by
  refine CI.of [some (.ref 94), some (.int a1), some (.int a2), none, none] (by decide +kernel) rfl (Nat.le_of_ble_eq_true rfl) rfl (fun Z hX => ?_)
  have tm : TM h h := ⟨TF.rf, hI.2.2.2.2.2.2.2⟩
  have hA : (0 ≤ a1 ∧ a1 ≤ h.1 94 9 - 2) ↔ gateA n a1 := by rw [en]; exact gt2 hn
  have r2 := rnM (x := a2) (lo := 0) (hi := 1) (L := 0) (M := 1) rfl rfl (by decide)
  refine sg_X7_slack_0 hX ⟨fun c => ⟨fun c1 => ?_, fun c1 => ⟨T3.b (hA.mp c) (fun z => c1 (r2.mpr z)), tm⟩⟩, fun c => ⟨T3.a (fun z => c (hA.mpr z)), tm⟩⟩
  have hB : rN 0 1 a2 := r2.mp c1
  have hA2 := hA.mp c
  obtain ⟨k, k1, rfl⟩ := hA.mp c
  have hP' := hP.resolve_left (by omega)
  have ep : pn (PM h.1) = n := pn_M en hn
  have ck : Int32.toNatClampNeg (nI k) = k := nI_clamp (by omega)
  rw [ck]
  generalize hF : flS (PM h.1) (mk (ms h.1 0)) 0 k = F
  refine ⟨_, c_X7_tryHours (n := 200) rfl (by omega) hN rfl rfl (UOK0 hI hP' i0), fun v hv => sg_X7_slack_33 hX ?_⟩
  obtain ⟨v1, -, v3⟩ := hv
  have fe : ∀ i, i < 200 → v.1 109 (9 * i + k) = F i := fun i hi => by rw [← hF]; exact (v3 i hi k (by rw [ep]; omega)).1
  have ix : ∀ i, i ≤ 200 → (9 : Int32) * nI i + nI k = nI (9 * i + k) := fun i _ => by rw [k_9, pk_mul, nI_add]
  have M : ∀ f, f < 200 → (∀ t, t < f → ¬ F t = 0) → F f = 0 → EX Z 5 (QI Z (fun r u => T3 (gateA n (nI k)) (rN 0 1 a2) (-100000001) (-100000002) (slackS F a2) r ∧ TM h u)) 74 v [some (.ref 94), some (.int (nI k)), some (.int a2), some (.int (nI f)), some (.int (nI f))] [] := by
    intro f hf h1 h2
    have L2 : ∀ j, j ≤ 200 → f ≤ j → (∀ t, f ≤ t → t < j → F t = 0) → EX Z 5 (QI Z (fun r u => T3 (gateA n (nI k)) (rN 0 1 a2) (-100000001) (-100000002) (slackS F a2) r ∧ TM h u)) 74 v [some (.ref 94), some (.int (nI k)), some (.int a2), some (.int (nI f)), some (.int (nI j))] [] := by
      refine ldown _ ?_ ?_
      · intro _ h3
        have e := slack_some (w := a2) hf (Nat.le_refl _) h1 h3 (Or.inl rfl)
        exact sg_X7_slack_74 hX ⟨fun _ => ⟨fun w0 => ⟨T3.c hA2 hB (by rw [e, if_neg w0]), v1⟩, fun w0 => ⟨T3.c hA2 hB (by rw [e, if_pos w0]), v1⟩⟩, fun z => absurd (by decide : (200 : Int32) ≤ nI 200) z⟩
      · intro j hj ih hfj h3
        refine sg_X7_slack_74 hX ⟨fun z => absurd z (nI_ge (b := 200) hj (by omega)), fun _ => ?_⟩
        rw [ix j (by omega), nI_clamp (by omega), fe j hj]
        refine ⟨vp_in_nI (by omega) (by omega), fun v4 e4 => ?_⟩
        subst e4
        refine ⟨fun z => ?_, fun z => ?_⟩
        · have hfj2 : f < j := by rcases Nat.lt_or_ge f j with d | d; exact d; exact absurd (by rw [show j = f by omega]; exact h2) z
          have e := slack_some (w := a2) hfj2 (by omega) h1 h3 (Or.inr z)
          exact ⟨fun w0 => ⟨T3.c hA2 hB (by rw [e, if_neg w0]), v1⟩, fun w0 => ⟨T3.c hA2 hB (by rw [e, if_pos w0]), v1⟩⟩
        · rw [nI_1]
          refine ih (by omega) (fun t a b => ?_)
          by_cases d : t = j
          · rw [d]; exact z
          · exact h3 t a (by omega)
    exact L2 f (by omega) (Nat.le_refl _) (fun t a b => absurd a (by omega))
  have L : ∀ i, i ≤ 200 → (∀ t, t < i → ¬ F t = 0) → EX Z 5 (QI Z (fun r u => T3 (gateA n (nI k)) (rN 0 1 a2) (-100000001) (-100000002) (slackS F a2) r ∧ TM h u)) 35 v [some (.ref 94), some (.int (nI k)), some (.int a2), some (.int (nI i)), none] [] := by
    refine ldown _ ?_ ?_
    · intro h1
      exact sg_X7_slack_35 hX ⟨fun _ => ⟨fun z => absurd rfl z, fun _ => ⟨T3.c hA2 hB (slack_none h1).symm, v1⟩⟩, fun z => absurd (by decide : (200 : Int32) ≤ nI 200) z⟩
    · intro i hi ih h1
      refine sg_X7_slack_35 hX ⟨fun z => absurd z (nI_ge (b := 200) hi (by omega)), fun _ => ?_⟩
      rw [ix i (by omega), nI_clamp (by omega), fe i hi]
      refine ⟨vp_in_nI (by omega) (by omega), fun v4 e4 => ?_⟩
      subst e4
      refine ⟨fun z => ⟨fun _ => M i hi h1 z, fun d => ?_⟩, fun z => ?_⟩
      · rw [k_200, nI_eq (by omega) (by omega)] at d
        omega
      · rw [nI_1]
        refine ih (fun t ht => ?_)
        by_cases d : t = i
        · rw [d]; exact z
        · exact h1 t (by omega)
  exact L 0 (by omega) (fun t ht => absurd ht (by omega))

theorem op_slack {N : Nat} {h : AH} {x y : Int32} (hI : INV N h) (hNN : N ≤ 511) : OPP yX6_slack cX6_slack 6 4 123 yX7_slack cX7_slack 5 5 118 [.int x, .int y] N h := by
  obtain ⟨n, hn, e1, e2, hP⟩ := hI.2.1.2.1
  refine OPP.trial hI (c_X6_slack hn hI (by omega) e1 hP) (fun u iu f1 f2 f3 f4 => ?_)
  have := c_X7_slack (h := u) (a1 := x) (a2 := y) hn iu (by omega) (by rw [f3]; exact e2) (by rw [f1]; exact hP)
  rw [f1, f2] at this
  exact this

/-! judge -/
def badS (P : PR) (σ bk : SG) (hw e : Int32) (t : Nat) : Bool := decide (¬ (if 0 ≤ bk t - hoursS P 0 hw t σ 0 then bk t - hoursS P 0 hw t σ 0 else 0 - (bk t - hoursS P 0 hw t σ 0)) ≤ e)
def judgeS (q : Nat → Bool) (E : Nat) : Int32 := if fstS q E 0 = E then -1 else nI (fstS q E 0)
theorem judge_none {q : Nat → Bool} {E : Nat} (h : ∀ t, t < E → q t = false) : judgeS q E = -1 := by
  rw [judgeS, if_pos (fst_eq E 0 E (by omega) (by omega) (fun t _ a => h t a) (Or.inl (by omega)))]
theorem judge_some {q : Nat → Bool} {E f : Nat} (hf : f < E) (h : ∀ t, t < f → q t = false) (h2 : q f = true) : judgeS q E = nI f := by
  rw [judgeS, fst_eq E 0 f (by omega) (by omega) (fun t _ a => h t a) (Or.inr h2), if_neg (by omega)]
theorem bad_iff {a b e : Int32} (h1 : 0 ≤ a.toInt) (h2 : a.toInt ≤ 2000000000) (h3 : 0 ≤ b.toInt) (h4 : b.toInt ≤ 2000000000) : (¬ (if 0 ≤ a - b then a - b else 0 - (a - b)) ≤ e) ↔ (e < b - a ∨ ¬ -(b - a) ≤ e) := by
  have e1 : (a - b).toInt = a.toInt - b.toInt := by rw [zi_sub] <;> omega
  have e2 : (b - a).toInt = b.toInt - a.toInt := by rw [zi_sub] <;> omega
  have e3 : (-(b - a)).toInt = a.toInt - b.toInt := by rw [zi_neg (by omega), e2]; omega
  have e4 : (0 - (a - b)).toInt = b.toInt - a.toInt := by rw [zi_sub (by rw [zi_z, e1]; omega) (by rw [zi_z, e1]; omega), zi_z, e1]; omega
  rw [Int32.lt_iff_toInt_lt, Int32.le_iff_toInt_le (x := -(b - a)), e2, e3]
  by_cases c : 0 ≤ a - b
  · have c2 := c
    rw [Int32.le_iff_toInt_le, zi_z, e1] at c2
    rw [if_pos c, Int32.le_iff_toInt_le, e1]
    omega
  · have c2 := c
    rw [Int32.le_iff_toInt_le, zi_z, e1] at c2
    rw [if_neg c, Int32.le_iff_toInt_le, e4]
    omega
theorem sumW_ge {P : PR} {B : Int} {T : Nat} {σ : SG} (hS : SOK P B T σ) : ∀ m, m ≤ pn P - 1 → 0 ≤ sumW m σ ∧ ∀ k, k < m → (σ k).toInt ≤ sumW m σ := by
  intro m
  induction m with
  | zero => intro _; exact ⟨Int.le_refl _, fun k hk => absurd hk (by omega)⟩
  | succ m ih =>
    intro hm
    obtain ⟨a, b⟩ := ih (by omega)
    have c := hS.1 m (by omega)
    refine ⟨by unfold sumW; omega, fun k hk => ?_⟩
    unfold sumW
    by_cases d : k = m
    · subst d; omega
    · have := b k (by omega); omega
theorem SOK_w {P : PR} {B : Int} {T k : Nat} {σ : SG} (hS : SOK P B T σ) (hk : k < pn P - 1) : 0 ≤ (σ k).toInt ∧ (σ k).toInt ≤ B := ⟨hS.1 k hk, Int.le_trans ((sumW_ge hS _ (Nat.le_refl _)).2 k hk) hS.2.1⟩

set_option maxRecDepth 100000 in
set_option maxHeartbeats 4000000 in
theorem c_X6_judge {h : AH} {a1 : Int32}  {n N E : Nat} (hn : n ≤ 10) (hI : INV N h) (hN : N ≤ 511) (en : h.1 (h.2 1) 0 = nI n) (hP : n = 0 ∨ POK (PM h.1)) (hE : E ≤ 60) (eE : h.1 0 12 = nI E) (eb : ∀ j, j < E → h.1 93 j = h.1 112 j) : CI yX6_judge cX6_judge 3 (some .int) 4 123 [.ref 0, .int a1] h (fun r u => T3 (rN 0 9999 a1) (¬ n = 0) (-100000002) (-100000003) (judgeS (badS (PM h.1) (mk (ms h.1 0)) (h.1 112) (h.1 94 26) a1) E) r ∧ TC h u) := by
  refine CI.of [some (.ref 0), some (.int a1), none] (by decide +kernel) rfl (Nat.le_of_ble_eq_true rfl) rfl (fun Z hX => ?_)
  have r1 := rnC (x := a1) (lo := 0) (hi := 9999) (L := 0) (M := 9999) rfl rfl (by decide)
  have en0 : (h.1 (h.2 1) 0 = 0) ↔ n = 0 := by rw [en, k_0, nI_eq (by omega) (by omega)]
  refine sg_X6_judge_0 hX ⟨fun c => ⟨T3.a (fun z => (r1.mpr z).1 c), TC.rf⟩, fun c => ⟨fun c2 => ⟨fun c3 => ?_, fun c3 => ⟨T3.b (r1.mp ⟨c, c2⟩) (fun z => z (en0.mp c3)), TC.rf⟩⟩, fun c2 => ⟨T3.a (fun z => c2 (r1.mpr z).2), TC.rf⟩⟩⟩
  have hA := r1.mp ⟨c, c2⟩
  have hB : ¬ n = 0 := fun z => c3 (en0.mpr z)
  have hP' := hP.resolve_left hB
  obtain ⟨PP, q1, q2⟩ := ct_begin hI
  have hT := TOK0 (hw := h.1 94 26) hI hP' hI.2.2.2.2.2.2.2.2
  refine ⟨PP, q1, fun u hu => sg_X6_judge_38 hX ?_⟩
  generalize hq : badS (PM h.1) (mk (ms h.1 0)) (h.1 112) (h.1 94 26) a1 = q
  have L : ∀ i, i ≤ E → ∀ u : AH, CT (PM h.1) (mk (ms h.1 0)) 0 (h.1 94 26) h u i → (∀ t, t < i → q t = false) → EX Z 3 (QI Z (fun r u => T3 (rN 0 9999 a1) (¬ n = 0) (-100000002) (-100000003) (judgeS q E) r ∧ TC h u)) 40 u [some (.ref 0), some (.int a1), some (.int (nI i))] [] := by
    refine ldown _ ?_ ?_
    · intro u hC hx
      have e0 : u.1 0 12 = nI E := by rw [hC.1.2 0 (by omega)]; exact eE
      exact sg_X6_judge_40 hX ⟨fun _ => ⟨T3.c hA hB (judge_none hx).symm, hC.1⟩, fun z => absurd (by rw [e0]; exact nI_le (Nat.le_refl _) (by omega)) z⟩
    · intro i hi ih u hC hx
      have e0 : u.1 0 12 = nI E := by rw [hC.1.2 0 (by omega)]; exact eE
      have ew : u.1 (42 + 1) 0 = hoursS (PM h.1) 0 (h.1 94 26) i (mk (ms h.1 0)) 0 := by rw [← hC.2.2]; exact mkc_at (f := u.1) (s := 42) (loc_w 0 (by omega)) (by unfold rel; omega)
      refine sg_X6_judge_40 hX ⟨fun z => absurd z (by rw [e0]; exact nI_ge hi (by omega)), fun _ => ⟨vp_in_nI (by omega) (by omega), fun v3 e3 => ?_⟩⟩
      rw [nI_clamp (by omega), hC.1.2 93 (by omega), eb i hi, show Int32.toNatClampNeg 0 = 0 from rfl, ew] at e3
      subst e3
      have qi : q i = decide (¬ (if 0 ≤ h.1 112 i - hoursS (PM h.1) 0 (h.1 94 26) i (mk (ms h.1 0)) 0 then h.1 112 i - hoursS (PM h.1) 0 (h.1 94 26) i (mk (ms h.1 0)) 0 else 0 - (h.1 112 i - hoursS (PM h.1) 0 (h.1 94 26) i (mk (ms h.1 0)) 0)) ≤ a1) := by rw [← hq]; rfl
      refine ⟨fun z => ?_, fun z => ⟨T3.c hA hB (judge_some hi hx (by rw [qi]; exact decide_eq_true z)).symm, hC.1⟩⟩
      obtain ⟨PP, q1, q2⟩ := ct_call hI hN (by omega) rfl hT hC
      rw [hC.1.1]
      refine ⟨PP, q1, fun u2 hu2 => sg_X6_judge_88 hX ?_⟩
      rw [nI_1]
      refine ih u2 (q2 u2 hu2) (fun t ht => ?_)
      by_cases d : t = i
      · rw [d, qi]; exact decide_eq_false (fun y => y z)
      · exact hx t (by omega)
  exact L 0 (by omega) u (q2 u hu _) (fun t ht => absurd ht (by omega))

set_option maxRecDepth 100000 in
set_option maxHeartbeats 4000000 in
theorem c_X7_judge {h : AH} {a1 : Int32}  {n N E : Nat} (hn : n ≤ 10) (hI : INV N h) (hN : N ≤ 511) (en : h.1 94 9 = nI n) (hP : n = 0 ∨ POK (PM h.1)) (hE : E ≤ 60) (eE : h.1 94 32 = nI E) (eb : ∀ j, j < E → ∃ v : Nat, v ≤ 99999 ∧ h.1 112 j = nI v) : CI yX7_judge cX7_judge 4 (some .int) 4 93 [.ref 94, .int a1] h (fun r u => T3 (rN 0 9999 a1) (¬ n = 0) (-100000002) (-100000003) (judgeS (badS (PM h.1) (mk (ms h.1 0)) (h.1 112) (h.1 94 26) a1) E) r ∧ TM h u) := by
  refine CI.of [some (.ref 94), some (.int a1), none, none] (by decide +kernel) rfl (Nat.le_of_ble_eq_true rfl) rfl (fun Z hX => ?_)
  have tm : TM h h := ⟨TF.rf, hI.2.2.2.2.2.2.2⟩
  have r1 := rnM (x := a1) (lo := 0) (hi := 9999) (L := 0) (M := 9999) rfl rfl (by decide)
  have en0 : (h.1 94 9 = 0) ↔ n = 0 := by rw [en, k_0, nI_eq (by omega) (by omega)]
  refine sg_X7_judge_0 hX ⟨fun c => ⟨fun c3 => ?_, fun c3 => ⟨T3.b (r1.mp c) (fun z => z (en0.mp c3)), tm⟩⟩, fun c => ⟨T3.a (fun z => c (r1.mpr z)), tm⟩⟩
  have hA := r1.mp c
  have hB : ¬ n = 0 := fun z => c3 (en0.mpr z)
  have hP' := hP.resolve_left hB
  have ep : pn (PM h.1) = n := pn_M en hn
  have hS := hI.2.2.1.2.2.1
  have hT : UOK N (PM h.1) (mk (ms h.1 0)) (h.1 94 26) := UOK0 hI hP' tm.2.2
  intro u3 e3
  have f3 : TF h u3 := by rw [e3]; exact TF.held (Or.inl rfl)
  refine ⟨_, c_X7_copy (ρ1 := 0) (ρ2 := 200) rfl rfl (by omega) (by omega) (by omega), fun u hu => sg_X7_judge_38 hX ?_⟩
  obtain ⟨v1, v2, v3, v4⟩ := hu
  have f4 : TF u3 u := ⟨v1, fun i _ h2 _ => v2 i h2, fun k _ _ => by rw [v2 94 (by omega)], fun j hj => v3 j (by omega)⟩
  have x25 : u.1 94 25 = 0 := by rw [v2 94 (by omega), e3, hs_s]
  have x26 : u.1 94 26 = h.1 94 26 := by rw [v2 94 (by omega), e3, hs_i (by omega)]
  have em : mk (ms u.1 200) = mk (ms h.1 0) := by
    have q : ∀ j, j < 200 → ms u.1 200 j = ms h.1 0 j := fun j hj => by
      show u.1 95 (200 + j) = h.1 95 (0 + j)
      rw [v4 j hj, f3.2.2.2 (0 + j) (by omega)]
    refine mk_congr (q 51 (by omega)) (fun k hk => q k ?_)
    unfold rel at hk
    omega
  generalize hq : badS (PM h.1) (mk (ms h.1 0)) (h.1 112) (h.1 94 26) a1 = q
  have L : ∀ i, i ≤ E → ∀ u : AH, MT (PM h.1) (mk (ms h.1 0)) 0 (h.1 94 26) h u i → (∀ t, t < i → q t = false) → EX Z 4 (QI Z (fun r u => T3 (rN 0 9999 a1) (¬ n = 0) (-100000002) (-100000003) (judgeS q E) r ∧ TM h u)) 40 u [some (.ref 94), some (.int a1), some (.int (nI i)), none] [] := by
    refine ldown _ ?_ ?_
    · intro u hC hx
      have e0 : u.1 94 32 = nI E := by rw [hC.1.2.2.1 32 (by omega) (by omega)]; exact eE
      have hv : TM h u := ⟨hC.1, hC.2.1, by rw [hC.2.2.1]; exact tm.2.2⟩
      exact sg_X7_judge_40 hX ⟨fun _ => ⟨T3.c hA hB (judge_none hx).symm, hv⟩, fun z => absurd (by rw [e0]; exact nI_le (Nat.le_refl _) (by omega)) z⟩
    · intro i hi ih u hC hx
      have e0 : u.1 94 32 = nI E := by rw [hC.1.2.2.1 32 (by omega) (by omega)]; exact eE
      have hv : TM h u := ⟨hC.1, hC.2.1, by rw [hC.2.2.1]; exact tm.2.2⟩
      have ew : u.1 95 200 = hoursS (PM h.1) 0 (h.1 94 26) i (mk (ms h.1 0)) 0 := by rw [← hC.2.2.2]; exact mk_at (f := u.1) (ρ := 200) (k := 0) (by unfold rel; omega)
      obtain ⟨bv, b1, b2⟩ := eb i hi
      have sk := hours_SOK (H := 0) hP' hS tm.2.2 i (by omega) (by omega)
      obtain ⟨w1, w2⟩ := SOK_w (k := 0) sk (by rw [ep]; have := hP'.1.1; rw [ep] at this; omega)
      refine sg_X7_judge_40 hX ⟨fun z => absurd z (by rw [e0]; exact nI_ge hi (by omega)), fun _ => ⟨vp_in_nI (by omega) (by omega), fun v3 e3 => ?_⟩⟩
      rw [nI_clamp (by omega), hC.1.2.1 112 (by omega) (by omega) (by omega), show Int32.toNatClampNeg 200 = 200 from rfl, ew] at e3
      subst e3
      have bi := bad_iff (a := h.1 112 i) (b := hoursS (PM h.1) 0 (h.1 94 26) i (mk (ms h.1 0)) 0) (e := a1) (by rw [b2, nI_toInt (by omega)]; omega) (by rw [b2, nI_toInt (by omega)]; omega) w1 (by omega)
      have qi : q i = decide (¬ (if 0 ≤ h.1 112 i - hoursS (PM h.1) 0 (h.1 94 26) i (mk (ms h.1 0)) 0 then h.1 112 i - hoursS (PM h.1) 0 (h.1 94 26) i (mk (ms h.1 0)) 0 else 0 - (h.1 112 i - hoursS (PM h.1) 0 (h.1 94 26) i (mk (ms h.1 0)) 0)) ≤ a1) := by rw [← hq]; rfl
      refine ⟨fun z => ⟨T3.c hA hB (judge_some hi hx (by rw [qi]; exact decide_eq_true (bi.mpr (Or.inl z)))).symm, hv⟩, fun z => ⟨fun z2 => ?_, fun z2 => ⟨T3.c hA hB (judge_some hi hx (by rw [qi]; exact decide_eq_true (bi.mpr (Or.inr z2)))).symm, hv⟩⟩⟩
      obtain ⟨PP, q1, q2⟩ := mt_call (N := N) hN (by omega) rfl hT hC
      refine ⟨PP, q1, fun u2 hu2 => sg_X7_judge_84 hX ?_⟩
      rw [nI_1]
      refine ih u2 (q2 u2 hu2).1 (fun t ht => ?_)
      by_cases d : t = i
      · rw [d, qi]; exact decide_eq_false (fun y => by rcases bi.mp y with y | y; exact z y; exact y z2)
      · exact hx t (by omega)
  exact L 0 (by omega) u ⟨f3.tr f4, x25, x26, em⟩ (fun t ht => absurd ht (by omega))

theorem op_judge {N : Nat} {h : AH} {x : Int32} (hI : INV N h) (hNN : N ≤ 511) : OPP yX6_judge cX6_judge 3 4 123 yX7_judge cX7_judge 4 4 93 [.int x] N h := by
  obtain ⟨n, hn, e1, e2, hP⟩ := hI.2.1.2.1
  obtain ⟨E, hE, b1, b2, b3⟩ := hI.2.2.2.2.2.2.1
  refine OPP.trial hI (c_X6_judge hn hI (by omega) e1 hP hE b1 (fun j hj => (b3 j hj).1)) (fun u iu f1 f2 f3 f4 => ?_)
  have := c_X7_judge (h := u) (a1 := x) hn iu (by omega) (by rw [f3]; exact e2) (by rw [f1]; exact hP) hE (by rw [f3]; exact b2) (fun j hj => by rw [f4]; exact (b3 j hj).2)
  rw [f1, f2, f3, f4] at this
  exact this
