set_option maxRecDepth 100000 in
set_option maxHeartbeats 4000000 in
theorem sg_X6_lakeWith_0 {Z : CX × GX} {post : Int32 → AH → Prop} {h : AH} {x1 : Int32} {x2 : Int32} {x3 : Int32} (hX : OK Z RX6 cX6_lakeWith 4 (some .int) 5 123) 
    (w : (∃ PP : AH → Prop, CV yX3_becomeAs cX3_becomeAs 2 3 102 [.ref 42, .ref 27] h PP ∧ ∀ u : AH, PP u → EX Z 4 (QI Z post) 11 u [some (.ref 0), some (.int x1), some (.int x2), some (.int x3)] []))
    : EX Z 4 (QI Z post) 0 h [some (.ref 0), some (.int x1), some (.int x2), some (.int x3)] [] := by
  refine ex_aload_n hX dX6_lakeWith_0 rfl rfl ?_
  refine ex_get hX (.ref 42) FL_6_43 rfl (fun _ => rfl) dX6_lakeWith_1 ?_
  refine ex_aload_n hX dX6_lakeWith_4 rfl rfl ?_
  refine ex_get hX (.ref 27) FL_6_39 rfl (fun _ => rfl) dX6_lakeWith_5 ?_
  obtain ⟨PP, pM, pK⟩ := w
  exact ex_callVv (ci := 3) (i := 42) (As := [.ref 27]) (st := []) hX pM CS_6_198 MS_X3_becomeAs rfl rfl rfl (by decide) rfl (Nat.le_of_ble_eq_true rfl) dX6_lakeWith_8 (fun u hp => pK u hp)

set_option maxRecDepth 100000 in
set_option maxHeartbeats 4000000 in
theorem sg_X6_lakeWith_11 {Z : CX × GX} {post : Int32 → AH → Prop} {h : AH} {x1 : Int32} {x2 : Int32} {x3 : Int32} (hX : OK Z RX6 cX6_lakeWith 4 (some .int) 5 123) 
    (w : (∃ PP : AH → Prop, CV yX3_holdGate cX3_holdGate 3 0 0 [.ref 42, .int x1, .int x2] h PP ∧ ∀ u : AH, PP u → EX Z 4 (QI Z post) 20 u [some (.ref 0), none, none, some (.int x3)] []))
    : EX Z 4 (QI Z post) 11 h [some (.ref 0), some (.int x1), some (.int x2), some (.int x3)] [] := by
  refine ex_aload_n hX dX6_lakeWith_11 rfl rfl ?_
  refine ex_get hX (.ref 42) FL_6_43 rfl (fun _ => rfl) dX6_lakeWith_12 ?_
  refine ex_iload_n hX dX6_lakeWith_15 rfl rfl ?_
  refine ex_iload_n hX dX6_lakeWith_16 rfl rfl ?_
  obtain ⟨PP, pM, pK⟩ := w
  exact ex_callVv (ci := 3) (i := 42) (As := [.int x1, .int x2]) (st := []) hX pM CS_6_235 MS_X3_holdGate rfl rfl rfl (by decide) rfl (Nat.le_of_ble_eq_true rfl) dX6_lakeWith_17 (fun u hp => ex_forget [some (.ref 0), none, none, some (.int x3)] ⟨rfl, ⟨rfl, trivial⟩⟩ (pK u hp))

set_option maxRecDepth 100000 in
set_option maxHeartbeats 4000000 in
theorem sg_X6_lakeWith_20 {Z : CX × GX} {post : Int32 → AH → Prop} {h : AH} {x3 : Int32} (hX : OK Z RX6 cX6_lakeWith 4 (some .int) 5 123) 
    (w : (∃ PP : AH → Prop, CV yX6_passTrialHours cX6_passTrialHours 3 4 93 [.ref 0, .int x3] h PP ∧ ∀ u : AH, PP u → EX Z 4 (QI Z post) 25 u [some (.ref 0), none, none, none] []))
    : EX Z 4 (QI Z post) 20 h [some (.ref 0), none, none, some (.int x3)] [] := by
  refine ex_aload_n hX dX6_lakeWith_20 rfl rfl ?_
  refine ex_iload_n hX dX6_lakeWith_21 rfl rfl ?_
  obtain ⟨PP, pM, pK⟩ := w
  exact ex_callVv (ci := 6) (i := 0) (As := [.int x3]) (st := []) hX pM CS_6_202 MS_X6_passTrialHours rfl rfl rfl (by decide) rfl (Nat.le_of_ble_eq_true rfl) dX6_lakeWith_22 (fun u hp => ex_forget [some (.ref 0), none, none, none] ⟨rfl, trivial⟩ (pK u hp))

set_option maxRecDepth 100000 in
set_option maxHeartbeats 4000000 in
theorem sg_X6_lakeWith_25 {Z : CX × GX} {post : Int32 → AH → Prop} {h : AH}  (hX : OK Z RX6 cX6_lakeWith 4 (some .int) 5 123) 
    (w : post (h.1 (42 + 1) (Int32.toNatClampNeg 0)) h)
    : EX Z 4 (QI Z post) 25 h [some (.ref 0), none, none, none] [] := by
  refine ex_aload_n hX dX6_lakeWith_25 rfl rfl ?_
  refine ex_get hX (.ref 42) FL_6_43 rfl (fun _ => rfl) dX6_lakeWith_26 ?_
  refine ex_get hX (.ref (42 + 1)) FL_6_133 rfl (fun _ => rfl) dX6_lakeWith_29 ?_
  refine ex_iconst (v := 0) hX dX6_lakeWith_32 rfl ?_
  refine ex_iald hX (sh_3_1 rfl) (show ¬ ((0 : Int32) < 0 ∨ 10 ≤ (0 : Int32).toNatClampNeg) from by decide) dX6_lakeWith_33 ?_
  exact ex_iret hX dX6_lakeWith_34 rfl w

set_option maxRecDepth 100000 in
set_option maxHeartbeats 4000000 in
theorem sg_X7_lakeWith_0 {Z : CX × GX} {post : Int32 → AH → Prop} {h : AH} {x1 : Int32} {x2 : Int32} {x3 : Int32} (hX : OK Z RX7 cX7_lakeWith 4 (some .int) 5 118) 
    (w : (∃ PP : AH → Prop, CV yX7_tryHours cX7_tryHours 6 4 93 [.ref 94, .int x3, .int (1 <<< (x1 &&& 31)), .int x2] h PP ∧ ∀ u : AH, PP u → EX Z 4 (QI Z post) 9 u [some (.ref 94), none, none, none] []))
    : EX Z 4 (QI Z post) 0 h [some (.ref 94), some (.int x1), some (.int x2), some (.int x3)] [] := by
  refine ex_aload_n hX dX7_lakeWith_0 rfl rfl ?_
  refine ex_iload_n hX dX7_lakeWith_1 rfl rfl ?_
  refine ex_iconst (v := 1) hX dX7_lakeWith_2 rfl ?_
  refine ex_iload_n hX dX7_lakeWith_3 rfl rfl ?_
  refine ex_ishl hX dX7_lakeWith_4 ?_
  refine ex_iload_n hX dX7_lakeWith_5 rfl rfl ?_
  obtain ⟨PP, pM, pK⟩ := w
  exact ex_callVv (ci := 7) (i := 94) (As := [.int x3, .int (1 <<< (x1 &&& 31)), .int x2]) (st := []) hX pM CS_7_253 MS_X7_tryHours rfl rfl rfl (by decide) rfl (Nat.le_of_ble_eq_true rfl) dX7_lakeWith_6 (fun u hp => ex_forget [some (.ref 94), none, none, none] ⟨rfl, trivial⟩ (pK u hp))

set_option maxRecDepth 100000 in
set_option maxHeartbeats 4000000 in
theorem sg_X7_lakeWith_9 {Z : CX × GX} {post : Int32 → AH → Prop} {h : AH}  (hX : OK Z RX7 cX7_lakeWith 4 (some .int) 5 118) 
    (w : post (h.1 95 (Int32.toNatClampNeg 200)) h)
    : EX Z 4 (QI Z post) 9 h [some (.ref 94), none, none, none] [] := by
  refine ex_aload_n hX dX7_lakeWith_9 rfl rfl ?_
  refine ex_get hX (.ref 95) FL_7_7 rfl (fun _ => rfl) dX7_lakeWith_10 ?_
  refine ex_sipush (v := 200) hX dX7_lakeWith_13 rfl ?_
  refine ex_iald hX rfl (show ¬ ((200 : Int32) < 0 ∨ 800 ≤ (200 : Int32).toNatClampNeg) from by decide) dX7_lakeWith_16 ?_
  exact ex_iret hX dX7_lakeWith_17 rfl w

set_option maxRecDepth 100000 in
set_option maxHeartbeats 4000000 in
theorem sg_X6_drained_0 {Z : CX × GX} {post : Int32 → AH → Prop} {h : AH} {x1 : Int32} {x2 : Int32} {x3 : Int32} (hX : OK Z RX6 cX6_drained 5 (some .int) 6 146) 
    (w : (((0 ≤ x1 ∧ x1 < h.1 (h.2 1) 0 - 1) → ((x2 < 0 → post (-100000002) h) ∧ (¬ x2 < 0 → ((9 < x2 → post (-100000002) h) ∧ (¬ 9 < x2 → ((x3 < 1 → post (-100000002) h) ∧ (¬ x3 < 1 → ((x3 ≤ 200 → (∃ PP : AH → Prop, CV yX3_becomeAs cX3_becomeAs 2 3 102 [.ref 42, .ref 27] h PP ∧ ∀ u : AH, PP u → EX Z 5 (QI Z post) 50 u [some (.ref 0), some (.int x1), some (.int x2), some (.int x3), none] [])) ∧ (¬ x3 ≤ 200 → post (-100000002) h))))))))) ∧ (¬ (0 ≤ x1 ∧ x1 < h.1 (h.2 1) 0 - 1) → post (-100000001) h)))
    : EX Z 5 (QI Z post) 0 h [some (.ref 0), some (.int x1), some (.int x2), some (.int x3), none] [] := by
  refine ex_aload_n hX dX6_drained_0 rfl rfl ?_
  refine ex_gg (fun c1 => ?_)
  refine ex_get hX (.ref (h.2 1)) FL_6_19 rfl (fun _ => rfl) dX6_drained_1 ?_
  refine ex_iload_n hX dX6_drained_4 rfl rfl ?_
  refine ex_pIv (ci := 0) (i := h.2 1) (As := [.int x1]) (st := []) hX (c_X0_isGate (h := h) c1.1) CS_6_144 MS_X0_isGate rfl c1.1 rfl (by decide) rfl (Nat.le_of_ble_eq_true rfl) dX6_drained_5 ?_
  refine ex_ifneB hX 14 dX6_drained_8 (by decide) (fun c2 => ?_) (fun c2 => ?_)
  · replace w := w.1 c2
    refine ex_iload_n hX dX6_drained_14 rfl rfl ?_
    refine ex_iflt hX 36 dX6_drained_15 (by decide) (fun c3 => ?_) (fun c3 => ?_)
    · replace w := w.1 c3
      refine ex_ldc hX dX6_drained_36 KC_6_72 ?_
      exact ex_iret hX dX6_drained_38 rfl w
    · replace w := w.2 c3
      refine ex_iload_n hX dX6_drained_18 rfl rfl ?_
      refine ex_bipush (v := 9) hX dX6_drained_19 rfl ?_
      refine ex_icmpgt hX 36 dX6_drained_21 (by decide) (fun c4 => ?_) (fun c4 => ?_)
      · replace w := w.1 c4
        refine ex_ldc hX dX6_drained_36 KC_6_72 ?_
        exact ex_iret hX dX6_drained_38 rfl w
      · replace w := w.2 c4
        refine ex_iload_n hX dX6_drained_24 rfl rfl ?_
        refine ex_iconst (v := 1) hX dX6_drained_25 rfl ?_
        refine ex_icmplt hX 36 dX6_drained_26 (by decide) (fun c5 => ?_) (fun c5 => ?_)
        · replace w := w.1 c5
          refine ex_ldc hX dX6_drained_36 KC_6_72 ?_
          exact ex_iret hX dX6_drained_38 rfl w
        · replace w := w.2 c5
          refine ex_iload_n hX dX6_drained_29 rfl rfl ?_
          refine ex_sipush (v := 200) hX dX6_drained_30 rfl ?_
          refine ex_icmple hX 39 dX6_drained_33 (by decide) (fun c6 => ?_) (fun c6 => ?_)
          · replace w := w.1 c6
            refine ex_aload_n hX dX6_drained_39 rfl rfl ?_
            refine ex_get hX (.ref 42) FL_6_43 rfl (fun _ => rfl) dX6_drained_40 ?_
            refine ex_aload_n hX dX6_drained_43 rfl rfl ?_
            refine ex_get hX (.ref 27) FL_6_39 rfl (fun _ => rfl) dX6_drained_44 ?_
            obtain ⟨PP, pM, pK⟩ := w
            exact ex_callVv (ci := 3) (i := 42) (As := [.ref 27]) (st := []) hX pM CS_6_198 MS_X3_becomeAs rfl rfl rfl (by decide) rfl (Nat.le_of_ble_eq_true rfl) dX6_drained_47 (fun u hp => pK u hp)
          · replace w := w.2 c6
            refine ex_ldc hX dX6_drained_36 KC_6_72 ?_
            exact ex_iret hX dX6_drained_38 rfl w
  · replace w := w.2 c2
    refine ex_ldc hX dX6_drained_11 KC_6_126 ?_
    exact ex_iret hX dX6_drained_13 rfl w

set_option maxRecDepth 100000 in
set_option maxHeartbeats 4000000 in
theorem sg_X6_drained_50 {Z : CX × GX} {post : Int32 → AH → Prop} {h : AH} {x1 : Int32} {x2 : Int32} {x3 : Int32} (hX : OK Z RX6 cX6_drained 5 (some .int) 6 146) 
    (w : (∃ PP : AH → Prop, CV yX6_passTrialHours cX6_passTrialHours 3 4 93 [.ref 0, .int x3] h PP ∧ ∀ u : AH, PP u → EX Z 5 (QI Z post) 55 u [some (.ref 0), some (.int x1), some (.int x2), some (.int x3), none] []))
    : EX Z 5 (QI Z post) 50 h [some (.ref 0), some (.int x1), some (.int x2), some (.int x3), none] [] := by
  refine ex_aload_n hX dX6_drained_50 rfl rfl ?_
  refine ex_iload_n hX dX6_drained_51 rfl rfl ?_
  obtain ⟨PP, pM, pK⟩ := w
  exact ex_callVv (ci := 6) (i := 0) (As := [.int x3]) (st := []) hX pM CS_6_202 MS_X6_passTrialHours rfl rfl rfl (by decide) rfl (Nat.le_of_ble_eq_true rfl) dX6_drained_52 (fun u hp => pK u hp)

set_option maxRecDepth 100000 in
set_option maxHeartbeats 4000000 in
theorem sg_X6_drained_55 {Z : CX × GX} {post : Int32 → AH → Prop} {h : AH} {x1 : Int32} {x2 : Int32} {x3 : Int32} (hX : OK Z RX6 cX6_drained 5 (some .int) 6 146) 
    (w : (∃ PP : Int32 → AH → Prop, CI yX6_lakeWith cX6_lakeWith 4 (some .int) 5 123 [.ref 0, .int x1, .int x2, .int x3] h PP ∧ ∀ (r : Int32) (u : AH), PP r u → EX Z 5 (QI Z post) 75 u [none, none, none, none, none] (.int r :: [.int (h.1 (42 + 1) (Int32.toNatClampNeg 0))])))
    : EX Z 5 (QI Z post) 55 h [some (.ref 0), some (.int x1), some (.int x2), some (.int x3), none] [] := by
  refine ex_aload_n hX dX6_drained_55 rfl rfl ?_
  refine ex_get hX (.ref 42) FL_6_43 rfl (fun _ => rfl) dX6_drained_56 ?_
  refine ex_get hX (.ref (42 + 1)) FL_6_133 rfl (fun _ => rfl) dX6_drained_59 ?_
  refine ex_iconst (v := 0) hX dX6_drained_62 rfl ?_
  refine ex_iald hX (sh_3_1 rfl) (show ¬ ((0 : Int32) < 0 ∨ 10 ≤ (0 : Int32).toNatClampNeg) from by decide) dX6_drained_63 ?_
  refine ex_istore (lv' := [some (.ref 0), some (.int x1), some (.int x2), some (.int x3), some (.int (h.1 (42 + 1) (Int32.toNatClampNeg 0)))]) hX dX6_drained_64 (by decide) rfl ?_
  refine ex_iload hX dX6_drained_66 rfl ?_
  refine ex_aload_n hX dX6_drained_68 rfl rfl ?_
  refine ex_iload_n hX dX6_drained_69 rfl rfl ?_
  refine ex_iload_n hX dX6_drained_70 rfl rfl ?_
  refine ex_iload_n hX dX6_drained_71 rfl rfl ?_
  obtain ⟨PP, pM, pK⟩ := w
  exact ex_callIv (ci := 6) (i := 0) (As := [.int x1, .int x2, .int x3]) (st := [.int (h.1 (42 + 1) (Int32.toNatClampNeg 0))]) hX pM CS_6_223 MS_X6_lakeWith rfl rfl rfl (by decide) rfl (Nat.le_of_ble_eq_true rfl) dX6_drained_72 (fun r u hp => ex_forget [none, none, none, none, none] trivial (pK r u hp))

set_option maxRecDepth 100000 in
set_option maxHeartbeats 4000000 in
theorem sg_X6_drained_75 {Z : CX × GX} {post : Int32 → AH → Prop} {h : AH} {s0 : Int32} {s1 : Int32} (hX : OK Z RX6 cX6_drained 5 (some .int) 6 146) 
    (w : post (s1 - s0) h)
    : EX Z 5 (QI Z post) 75 h [none, none, none, none, none] [.int s0, .int s1] := by
  refine ex_isub hX dX6_drained_75 ?_
  exact ex_iret hX dX6_drained_76 rfl w

set_option maxRecDepth 100000 in
set_option maxHeartbeats 4000000 in
theorem sg_X7_drained_0 {Z : CX × GX} {post : Int32 → AH → Prop} {h : AH} {x1 : Int32} {x2 : Int32} {x3 : Int32} (hX : OK Z RX7 cX7_drained 5 (some .int) 6 141) 
    (w : (((0 ≤ x1 ∧ x1 ≤ h.1 94 9 - 2) → ((¬ (0 ≤ (Int32.toInt64 x2) ∧ (Int32.toInt64 x2) ≤ 9) → post (-100000002) h) ∧ ((0 ≤ (Int32.toInt64 x2) ∧ (Int32.toInt64 x2) ≤ 9) → (((1 ≤ (Int32.toInt64 x3) ∧ (Int32.toInt64 x3) ≤ 200) → (∃ PP : AH → Prop, CV yX7_tryHours cX7_tryHours 6 4 93 [.ref 94, .int x3, .int 0, .int 0] h PP ∧ ∀ u : AH, PP u → EX Z 5 (QI Z post) 45 u [some (.ref 94), some (.int x1), some (.int x2), some (.int x3), none] [])) ∧ (¬ (1 ≤ (Int32.toInt64 x3) ∧ (Int32.toInt64 x3) ≤ 200) → post (-100000002) h))))) ∧ (¬ (0 ≤ x1 ∧ x1 ≤ h.1 94 9 - 2) → post (-100000001) h)))
    : EX Z 5 (QI Z post) 0 h [some (.ref 94), some (.int x1), some (.int x2), some (.int x3), none] [] := by
  refine ex_aload_n hX dX7_drained_0 rfl rfl ?_
  refine ex_iload_n hX dX7_drained_1 rfl rfl ?_
  refine ex_pIv (ci := 7) (i := 94) (As := [.int x1]) (st := []) hX (c_X7_isGate (h := h)) CS_7_192 MS_X7_isGate rfl rfl rfl (by decide) rfl (Nat.le_of_ble_eq_true rfl) dX7_drained_2 ?_
  refine ex_ifneB hX 11 dX7_drained_5 (by decide) (fun c1 => ?_) (fun c1 => ?_)
  · replace w := w.1 c1
    refine ex_iload_n hX dX7_drained_11 rfl rfl ?_
    refine ex_i2l hX dX7_drained_12 ?_
    refine ex_lconst (v := 0) hX dX7_drained_13 rfl ?_
    refine ex_ldc2 hX dX7_drained_14 KL_7_228 ?_
    refine ex_pIs (As := [.long (Int32.toInt64 x2), .long 0, .long 9]) (st := []) hX (c_X7_in (h := h)) CS_7_71 MS_X7_in rfl (by decide) rfl (Nat.le_of_ble_eq_true rfl) dX7_drained_17 ?_
    refine ex_ifeqB hX 35 dX7_drained_20 (by decide) (fun c2 => ?_) (fun c2 => ?_)
    · replace w := w.1 c2
      refine ex_ldc hX dX7_drained_35 KC_7_75 ?_
      exact ex_iret hX dX7_drained_37 rfl w
    · replace w := w.2 c2
      refine ex_iload_n hX dX7_drained_23 rfl rfl ?_
      refine ex_i2l hX dX7_drained_24 ?_
      refine ex_lconst (v := 1) hX dX7_drained_25 rfl ?_
      refine ex_ldc2 hX dX7_drained_26 KL_7_223 ?_
      refine ex_pIs (As := [.long (Int32.toInt64 x3), .long 1, .long 200]) (st := []) hX (c_X7_in (h := h)) CS_7_71 MS_X7_in rfl (by decide) rfl (Nat.le_of_ble_eq_true rfl) dX7_drained_29 ?_
      refine ex_ifneB hX 38 dX7_drained_32 (by decide) (fun c3 => ?_) (fun c3 => ?_)
      · replace w := w.1 c3
        refine ex_aload_n hX dX7_drained_38 rfl rfl ?_
        refine ex_iload_n hX dX7_drained_39 rfl rfl ?_
        refine ex_iconst (v := 0) hX dX7_drained_40 rfl ?_
        refine ex_iconst (v := 0) hX dX7_drained_41 rfl ?_
        obtain ⟨PP, pM, pK⟩ := w
        exact ex_callVv (ci := 7) (i := 94) (As := [.int x3, .int 0, .int 0]) (st := []) hX pM CS_7_253 MS_X7_tryHours rfl rfl rfl (by decide) rfl (Nat.le_of_ble_eq_true rfl) dX7_drained_42 (fun u hp => pK u hp)
      · replace w := w.2 c3
        refine ex_ldc hX dX7_drained_35 KC_7_75 ?_
        exact ex_iret hX dX7_drained_37 rfl w
  · replace w := w.2 c1
    refine ex_ldc hX dX7_drained_8 KC_7_185 ?_
    exact ex_iret hX dX7_drained_10 rfl w

set_option maxRecDepth 100000 in
set_option maxHeartbeats 4000000 in
theorem sg_X7_drained_45 {Z : CX × GX} {post : Int32 → AH → Prop} {h : AH} {x1 : Int32} {x2 : Int32} {x3 : Int32} (hX : OK Z RX7 cX7_drained 5 (some .int) 6 141) 
    (w : (∃ PP : Int32 → AH → Prop, CI yX7_lakeWith cX7_lakeWith 4 (some .int) 5 118 [.ref 94, .int x1, .int x2, .int x3] h PP ∧ ∀ (r : Int32) (u : AH), PP r u → EX Z 5 (QI Z post) 64 u [none, none, none, none, none] (.int r :: [.int (h.1 95 (Int32.toNatClampNeg 200))])))
    : EX Z 5 (QI Z post) 45 h [some (.ref 94), some (.int x1), some (.int x2), some (.int x3), none] [] := by
  refine ex_aload_n hX dX7_drained_45 rfl rfl ?_
  refine ex_get hX (.ref 95) FL_7_7 rfl (fun _ => rfl) dX7_drained_46 ?_
  refine ex_sipush (v := 200) hX dX7_drained_49 rfl ?_
  refine ex_iald hX rfl (show ¬ ((200 : Int32) < 0 ∨ 800 ≤ (200 : Int32).toNatClampNeg) from by decide) dX7_drained_52 ?_
  refine ex_istore (lv' := [some (.ref 94), some (.int x1), some (.int x2), some (.int x3), some (.int (h.1 95 (Int32.toNatClampNeg 200)))]) hX dX7_drained_53 (by decide) rfl ?_
  refine ex_iload hX dX7_drained_55 rfl ?_
  refine ex_aload_n hX dX7_drained_57 rfl rfl ?_
  refine ex_iload_n hX dX7_drained_58 rfl rfl ?_
  refine ex_iload_n hX dX7_drained_59 rfl rfl ?_
  refine ex_iload_n hX dX7_drained_60 rfl rfl ?_
  obtain ⟨PP, pM, pK⟩ := w
  exact ex_callIv (ci := 7) (i := 94) (As := [.int x1, .int x2, .int x3]) (st := [.int (h.1 95 (Int32.toNatClampNeg 200))]) hX pM CS_7_272 MS_X7_lakeWith rfl rfl rfl (by decide) rfl (Nat.le_of_ble_eq_true rfl) dX7_drained_61 (fun r u hp => ex_forget [none, none, none, none, none] trivial (pK r u hp))

set_option maxRecDepth 100000 in
set_option maxHeartbeats 4000000 in
theorem sg_X7_drained_64 {Z : CX × GX} {post : Int32 → AH → Prop} {h : AH} {s0 : Int32} {s1 : Int32} (hX : OK Z RX7 cX7_drained 5 (some .int) 6 141) 
    (w : post (s1 - s0) h)
    : EX Z 5 (QI Z post) 64 h [none, none, none, none, none] [.int s0, .int s1] := by
  refine ex_isub hX dX7_drained_64 ?_
  exact ex_iret hX dX7_drained_65 rfl w

set_option maxRecDepth 100000 in
set_option maxHeartbeats 4000000 in
theorem sg_X6_nearest_0 {Z : CX × GX} {post : Int32 → AH → Prop} {h : AH} {x1 : Int32} {x2 : Int32} {x3 : Int32} (hX : OK Z RX6 cX6_nearest 8 (some .int) 6 146) 
    (w : (((0 ≤ x1 ∧ x1 < h.1 (h.2 1) 0 - 1) → ((x2 < 0 → post (-100000002) h) ∧ (¬ x2 < 0 → ((99999 < x2 → post (-100000002) h) ∧ (¬ 99999 < x2 → ((x3 < 1 → post (-100000002) h) ∧ (¬ x3 < 1 → ((x3 ≤ 200 → (∃ PP : Int32 → AH → Prop, CI yX6_lakeWith cX6_lakeWith 4 (some .int) 5 123 [.ref 0, .int x1, .int 0, .int x3] h PP ∧ ∀ (r : Int32) (u : AH), PP r u → EX Z 8 (QI Z post) 49 u [some (.ref 0), some (.int x1), some (.int x2), some (.int x3), some (.int 0), none, none, none] (.int r :: []))) ∧ (¬ x3 ≤ 200 → post (-100000002) h))))))))) ∧ (¬ (0 ≤ x1 ∧ x1 < h.1 (h.2 1) 0 - 1) → post (-100000001) h)))
    : EX Z 8 (QI Z post) 0 h [some (.ref 0), some (.int x1), some (.int x2), some (.int x3), none, none, none, none] [] := by
  refine ex_aload_n hX dX6_nearest_0 rfl rfl ?_
  refine ex_gg (fun c1 => ?_)
  refine ex_get hX (.ref (h.2 1)) FL_6_19 rfl (fun _ => rfl) dX6_nearest_1 ?_
  refine ex_iload_n hX dX6_nearest_4 rfl rfl ?_
  refine ex_pIv (ci := 0) (i := h.2 1) (As := [.int x1]) (st := []) hX (c_X0_isGate (h := h) c1.1) CS_6_144 MS_X0_isGate rfl c1.1 rfl (by decide) rfl (Nat.le_of_ble_eq_true rfl) dX6_nearest_5 ?_
  refine ex_ifneB hX 14 dX6_nearest_8 (by decide) (fun c2 => ?_) (fun c2 => ?_)
  · replace w := w.1 c2
    refine ex_iload_n hX dX6_nearest_14 rfl rfl ?_
    refine ex_iflt hX 36 dX6_nearest_15 (by decide) (fun c3 => ?_) (fun c3 => ?_)
    · replace w := w.1 c3
      refine ex_ldc hX dX6_nearest_36 KC_6_72 ?_
      exact ex_iret hX dX6_nearest_38 rfl w
    · replace w := w.2 c3
      refine ex_iload_n hX dX6_nearest_18 rfl rfl ?_
      refine ex_ldc hX dX6_nearest_19 KC_6_226 ?_
      refine ex_icmpgt hX 36 dX6_nearest_21 (by decide) (fun c4 => ?_) (fun c4 => ?_)
      · replace w := w.1 c4
        refine ex_ldc hX dX6_nearest_36 KC_6_72 ?_
        exact ex_iret hX dX6_nearest_38 rfl w
      · replace w := w.2 c4
        refine ex_iload_n hX dX6_nearest_24 rfl rfl ?_
        refine ex_iconst (v := 1) hX dX6_nearest_25 rfl ?_
        refine ex_icmplt hX 36 dX6_nearest_26 (by decide) (fun c5 => ?_) (fun c5 => ?_)
        · replace w := w.1 c5
          refine ex_ldc hX dX6_nearest_36 KC_6_72 ?_
          exact ex_iret hX dX6_nearest_38 rfl w
        · replace w := w.2 c5
          refine ex_iload_n hX dX6_nearest_29 rfl rfl ?_
          refine ex_sipush (v := 200) hX dX6_nearest_30 rfl ?_
          refine ex_icmple hX 39 dX6_nearest_33 (by decide) (fun c6 => ?_) (fun c6 => ?_)
          · replace w := w.1 c6
            refine ex_iconst (v := 0) hX dX6_nearest_39 rfl ?_
            refine ex_istore (lv' := [some (.ref 0), some (.int x1), some (.int x2), some (.int x3), some (.int 0), none, none, none]) hX dX6_nearest_40 (by decide) rfl ?_
            refine ex_aload_n hX dX6_nearest_42 rfl rfl ?_
            refine ex_iload_n hX dX6_nearest_43 rfl rfl ?_
            refine ex_iconst (v := 0) hX dX6_nearest_44 rfl ?_
            refine ex_iload_n hX dX6_nearest_45 rfl rfl ?_
            obtain ⟨PP, pM, pK⟩ := w
            exact ex_callIv (ci := 6) (i := 0) (As := [.int x1, .int 0, .int x3]) (st := []) hX pM CS_6_223 MS_X6_lakeWith rfl rfl rfl (by decide) rfl (Nat.le_of_ble_eq_true rfl) dX6_nearest_46 (fun r u hp => pK r u hp)
          · replace w := w.2 c6
            refine ex_ldc hX dX6_nearest_36 KC_6_72 ?_
            exact ex_iret hX dX6_nearest_38 rfl w
  · replace w := w.2 c2
    refine ex_ldc hX dX6_nearest_11 KC_6_126 ?_
    exact ex_iret hX dX6_nearest_13 rfl w

set_option maxRecDepth 100000 in
set_option maxHeartbeats 4000000 in
theorem sg_X6_nearest_49 {Z : CX × GX} {post : Int32 → AH → Prop} {h : AH} {x1 : Int32} {x2 : Int32} {x3 : Int32} {x4 : Int32} {s0 : Int32} (hX : OK Z RX6 cX6_nearest 8 (some .int) 6 146) 
    (w : (∀ v1 : Int32, v1 = (if 0 ≤ (s0 - x2) then (s0 - x2) else 0 - (s0 - x2)) → EX Z 8 (QI Z post) 59 h [some (.ref 0), some (.int x1), some (.int x2), some (.int x3), some (.int x4), some (.int v1), some (.int 1), none] []))
    : EX Z 8 (QI Z post) 49 h [some (.ref 0), some (.int x1), some (.int x2), some (.int x3), some (.int x4), none, none, none] [.int s0] := by
  refine ex_iload_n hX dX6_nearest_49 rfl rfl ?_
  refine ex_isub hX dX6_nearest_50 ?_
  refine ex_mabs hX ML_6_227 JS_abs JI_Math JC_abs ⟨Nat.le_of_ble_eq_true rfl, Nat.le_of_ble_eq_true rfl⟩ dX6_nearest_51 ?_
  refine ex_nameI (fun v1 ev1 => ?_)
  replace w := w v1 ev1
  refine ex_istore (lv' := [some (.ref 0), some (.int x1), some (.int x2), some (.int x3), some (.int x4), some (.int v1), none, none]) hX dX6_nearest_54 (by decide) rfl ?_
  refine ex_iconst (v := 1) hX dX6_nearest_56 rfl ?_
  refine ex_istore (lv' := [some (.ref 0), some (.int x1), some (.int x2), some (.int x3), some (.int x4), some (.int v1), some (.int 1), none]) hX dX6_nearest_57 (by decide) rfl ?_
  exact w

set_option maxRecDepth 100000 in
set_option maxHeartbeats 4000000 in
theorem sg_X6_nearest_59 {Z : CX × GX} {post : Int32 → AH → Prop} {h : AH} {x1 : Int32} {x2 : Int32} {x3 : Int32} {x4 : Int32} {x5 : Int32} {x6 : Int32} (hX : OK Z RX6 cX6_nearest 8 (some .int) 6 146) 
    (w : ((9 < x6 → post x4 h) ∧ (¬ 9 < x6 → (∃ PP : Int32 → AH → Prop, CI yX6_lakeWith cX6_lakeWith 4 (some .int) 5 123 [.ref 0, .int x1, .int x6, .int x3] h PP ∧ ∀ (r : Int32) (u : AH), PP r u → EX Z 8 (QI Z post) 74 u [some (.ref 0), some (.int x1), some (.int x2), some (.int x3), some (.int x4), some (.int x5), some (.int x6), none] (.int r :: [])))))
    : EX Z 8 (QI Z post) 59 h [some (.ref 0), some (.int x1), some (.int x2), some (.int x3), some (.int x4), some (.int x5), some (.int x6), none] [] := by
  refine ex_iload hX dX6_nearest_59 rfl ?_
  refine ex_bipush (v := 9) hX dX6_nearest_61 rfl ?_
  refine ex_icmpgt hX 102 dX6_nearest_63 (by decide) (fun c1 => ?_) (fun c1 => ?_)
  · replace w := w.1 c1
    refine ex_iload hX dX6_nearest_102 rfl ?_
    exact ex_iret hX dX6_nearest_104 rfl w
  · replace w := w.2 c1
    refine ex_aload_n hX dX6_nearest_66 rfl rfl ?_
    refine ex_iload_n hX dX6_nearest_67 rfl rfl ?_
    refine ex_iload hX dX6_nearest_68 rfl ?_
    refine ex_iload_n hX dX6_nearest_70 rfl rfl ?_
    obtain ⟨PP, pM, pK⟩ := w
    exact ex_callIv (ci := 6) (i := 0) (As := [.int x1, .int x6, .int x3]) (st := []) hX pM CS_6_223 MS_X6_lakeWith rfl rfl rfl (by decide) rfl (Nat.le_of_ble_eq_true rfl) dX6_nearest_71 (fun r u hp => pK r u hp)

set_option maxRecDepth 100000 in
set_option maxHeartbeats 4000000 in
theorem sg_X6_nearest_74 {Z : CX × GX} {post : Int32 → AH → Prop} {h : AH} {x1 : Int32} {x2 : Int32} {x3 : Int32} {x4 : Int32} {x5 : Int32} {x6 : Int32} {s0 : Int32} (hX : OK Z RX6 cX6_nearest 8 (some .int) 6 146) 
    (w : (∀ v1 : Int32, v1 = (if 0 ≤ (s0 - x2) then (s0 - x2) else 0 - (s0 - x2)) → EX Z 8 (QI Z post) 59 h [some (.ref 0), some (.int x1), some (.int x2), some (.int x3), some (.int (if x5 ≤ v1 then (x4 : Int32) else x6)), some (.int (if x5 ≤ v1 then (x5 : Int32) else v1)), some (.int (x6 + 1)), none] []))
    : EX Z 8 (QI Z post) 74 h [some (.ref 0), some (.int x1), some (.int x2), some (.int x3), some (.int x4), some (.int x5), some (.int x6), none] [.int s0] := by
  refine ex_iload_n hX dX6_nearest_74 rfl rfl ?_
  refine ex_isub hX dX6_nearest_75 ?_
  refine ex_mabs hX ML_6_227 JS_abs JI_Math JC_abs ⟨Nat.le_of_ble_eq_true rfl, Nat.le_of_ble_eq_true rfl⟩ dX6_nearest_76 ?_
  refine ex_nameI (fun v1 ev1 => ?_)
  replace w := w v1 ev1
  refine ex_istore (lv' := [some (.ref 0), some (.int x1), some (.int x2), some (.int x3), some (.int x4), some (.int x5), some (.int x6), some (.int v1)]) hX dX6_nearest_79 (by decide) rfl ?_
  refine ex_iload hX dX6_nearest_81 rfl ?_
  refine ex_iload hX dX6_nearest_83 rfl ?_
  have kc2 : EX Z 8 (QI Z post) 96 h [some (.ref 0), some (.int x1), some (.int x2), some (.int x3), some (.int (if x5 ≤ v1 then (x4 : Int32) else x6)), some (.int (if x5 ≤ v1 then (x5 : Int32) else v1)), some (.int x6), none] [] := by
    refine ex_iinc (v := x6 + 1) (lv' := [some (.ref 0), some (.int x1), some (.int x2), some (.int x3), some (.int (if x5 ≤ v1 then (x4 : Int32) else x6)), some (.int (if x5 ≤ v1 then (x5 : Int32) else v1)), some (.int (x6 + 1)), none]) hX dX6_nearest_96 rfl rfl (by decide) rfl ?_
    refine ex_goto hX 59 dX6_nearest_99 (by decide) ?_
    exact w
  refine ex_icmpge hX 96 dX6_nearest_85 (by decide) (fun c2 => ?_) (fun c2 => ?_)
  · rw [show (if x5 ≤ v1 then (x4 : Int32) else x6) = x4 from if_pos c2] at kc2
    rw [show (if x5 ≤ v1 then (x5 : Int32) else v1) = x5 from if_pos c2] at kc2
    exact ex_forget [some (.ref 0), some (.int x1), some (.int x2), some (.int x3), some (.int x4), some (.int x5), some (.int x6), none] ⟨rfl, ⟨rfl, ⟨rfl, ⟨rfl, ⟨rfl, ⟨rfl, ⟨rfl, trivial⟩⟩⟩⟩⟩⟩⟩ kc2
  · refine ex_iload hX dX6_nearest_88 rfl ?_
    refine ex_istore (lv' := [some (.ref 0), some (.int x1), some (.int x2), some (.int x3), some (.int x6), some (.int x5), some (.int x6), some (.int v1)]) hX dX6_nearest_90 (by decide) rfl ?_
    refine ex_iload hX dX6_nearest_92 rfl ?_
    refine ex_istore (lv' := [some (.ref 0), some (.int x1), some (.int x2), some (.int x3), some (.int x6), some (.int v1), some (.int x6), some (.int v1)]) hX dX6_nearest_94 (by decide) rfl ?_
    rw [show (if x5 ≤ v1 then (x4 : Int32) else x6) = x6 from if_neg c2] at kc2
    rw [show (if x5 ≤ v1 then (x5 : Int32) else v1) = v1 from if_neg c2] at kc2
    exact ex_forget [some (.ref 0), some (.int x1), some (.int x2), some (.int x3), some (.int x6), some (.int v1), some (.int x6), none] ⟨rfl, ⟨rfl, ⟨rfl, ⟨rfl, ⟨rfl, ⟨rfl, ⟨rfl, trivial⟩⟩⟩⟩⟩⟩⟩ kc2

set_option maxRecDepth 100000 in
set_option maxHeartbeats 4000000 in
theorem sg_X7_nearest_0 {Z : CX × GX} {post : Int32 → AH → Prop} {h : AH} {x1 : Int32} {x2 : Int32} {x3 : Int32} (hX : OK Z RX7 cX7_nearest 8 (some .int) 6 141) 
    (w : (((0 ≤ x1 ∧ x1 ≤ h.1 94 9 - 2) → ((¬ (0 ≤ (Int32.toInt64 x2) ∧ (Int32.toInt64 x2) ≤ 99999) → post (-100000002) h) ∧ ((0 ≤ (Int32.toInt64 x2) ∧ (Int32.toInt64 x2) ≤ 99999) → (((1 ≤ (Int32.toInt64 x3) ∧ (Int32.toInt64 x3) ≤ 200) → EX Z 8 (QI Z post) 47 h [some (.ref 94), some (.int x1), some (.int x2), some (.int x3), some (.int (-1)), some (.int 0), some (.int 0), none] []) ∧ (¬ (1 ≤ (Int32.toInt64 x3) ∧ (Int32.toInt64 x3) ≤ 200) → post (-100000002) h))))) ∧ (¬ (0 ≤ x1 ∧ x1 ≤ h.1 94 9 - 2) → post (-100000001) h)))
    : EX Z 8 (QI Z post) 0 h [some (.ref 94), some (.int x1), some (.int x2), some (.int x3), none, none, none, none] [] := by
  refine ex_aload_n hX dX7_nearest_0 rfl rfl ?_
  refine ex_iload_n hX dX7_nearest_1 rfl rfl ?_
  refine ex_pIv (ci := 7) (i := 94) (As := [.int x1]) (st := []) hX (c_X7_isGate (h := h)) CS_7_192 MS_X7_isGate rfl rfl rfl (by decide) rfl (Nat.le_of_ble_eq_true rfl) dX7_nearest_2 ?_
  refine ex_ifneB hX 11 dX7_nearest_5 (by decide) (fun c1 => ?_) (fun c1 => ?_)
  · replace w := w.1 c1
    refine ex_iload_n hX dX7_nearest_11 rfl rfl ?_
    refine ex_i2l hX dX7_nearest_12 ?_
    refine ex_lconst (v := 0) hX dX7_nearest_13 rfl ?_
    refine ex_ldc2 hX dX7_nearest_14 KL_7_275 ?_
    refine ex_pIs (As := [.long (Int32.toInt64 x2), .long 0, .long 99999]) (st := []) hX (c_X7_in (h := h)) CS_7_71 MS_X7_in rfl (by decide) rfl (Nat.le_of_ble_eq_true rfl) dX7_nearest_17 ?_
    refine ex_ifeqB hX 35 dX7_nearest_20 (by decide) (fun c2 => ?_) (fun c2 => ?_)
    · replace w := w.1 c2
      refine ex_ldc hX dX7_nearest_35 KC_7_75 ?_
      exact ex_iret hX dX7_nearest_37 rfl w
    · replace w := w.2 c2
      refine ex_iload_n hX dX7_nearest_23 rfl rfl ?_
      refine ex_i2l hX dX7_nearest_24 ?_
      refine ex_lconst (v := 1) hX dX7_nearest_25 rfl ?_
      refine ex_ldc2 hX dX7_nearest_26 KL_7_223 ?_
      refine ex_pIs (As := [.long (Int32.toInt64 x3), .long 1, .long 200]) (st := []) hX (c_X7_in (h := h)) CS_7_71 MS_X7_in rfl (by decide) rfl (Nat.le_of_ble_eq_true rfl) dX7_nearest_29 ?_
      refine ex_ifneB hX 38 dX7_nearest_32 (by decide) (fun c3 => ?_) (fun c3 => ?_)
      · replace w := w.1 c3
        refine ex_iconst (v := (-1)) hX dX7_nearest_38 rfl ?_
        refine ex_istore (lv' := [some (.ref 94), some (.int x1), some (.int x2), some (.int x3), some (.int (-1)), none, none, none]) hX dX7_nearest_39 (by decide) rfl ?_
        refine ex_iconst (v := 0) hX dX7_nearest_41 rfl ?_
        refine ex_istore (lv' := [some (.ref 94), some (.int x1), some (.int x2), some (.int x3), some (.int (-1)), some (.int 0), none, none]) hX dX7_nearest_42 (by decide) rfl ?_
        refine ex_iconst (v := 0) hX dX7_nearest_44 rfl ?_
        refine ex_istore (lv' := [some (.ref 94), some (.int x1), some (.int x2), some (.int x3), some (.int (-1)), some (.int 0), some (.int 0), none]) hX dX7_nearest_45 (by decide) rfl ?_
        exact w
      · replace w := w.2 c3
        refine ex_ldc hX dX7_nearest_35 KC_7_75 ?_
        exact ex_iret hX dX7_nearest_37 rfl w
  · replace w := w.2 c1
    refine ex_ldc hX dX7_nearest_8 KC_7_185 ?_
    exact ex_iret hX dX7_nearest_10 rfl w

set_option maxRecDepth 100000 in
set_option maxHeartbeats 4000000 in
theorem sg_X7_nearest_47 {Z : CX × GX} {post : Int32 → AH → Prop} {h : AH} {x1 : Int32} {x2 : Int32} {x3 : Int32} {x4 : Int32} {x5 : Int32} {x6 : Int32} (hX : OK Z RX7 cX7_nearest 8 (some .int) 6 141) 
    (w : ((9 < x6 → post x4 h) ∧ (¬ 9 < x6 → (∃ PP : Int32 → AH → Prop, CI yX7_lakeWith cX7_lakeWith 4 (some .int) 5 118 [.ref 94, .int x1, .int x6, .int x3] h PP ∧ ∀ (r : Int32) (u : AH), PP r u → EX Z 8 (QI Z post) 62 u [some (.ref 94), some (.int x1), some (.int x2), some (.int x3), some (.int x4), some (.int x5), some (.int x6), none] (.int r :: [])))))
    : EX Z 8 (QI Z post) 47 h [some (.ref 94), some (.int x1), some (.int x2), some (.int x3), some (.int x4), some (.int x5), some (.int x6), none] [] := by
  refine ex_iload hX dX7_nearest_47 rfl ?_
  refine ex_bipush (v := 9) hX dX7_nearest_49 rfl ?_
  refine ex_icmpgt hX 107 dX7_nearest_51 (by decide) (fun c1 => ?_) (fun c1 => ?_)
  · replace w := w.1 c1
    refine ex_iload hX dX7_nearest_107 rfl ?_
    exact ex_iret hX dX7_nearest_109 rfl w
  · replace w := w.2 c1
    refine ex_aload_n hX dX7_nearest_54 rfl rfl ?_
    refine ex_iload_n hX dX7_nearest_55 rfl rfl ?_
    refine ex_iload hX dX7_nearest_56 rfl ?_
    refine ex_iload_n hX dX7_nearest_58 rfl rfl ?_
    obtain ⟨PP, pM, pK⟩ := w
    exact ex_callIv (ci := 7) (i := 94) (As := [.int x1, .int x6, .int x3]) (st := []) hX pM CS_7_272 MS_X7_lakeWith rfl rfl rfl (by decide) rfl (Nat.le_of_ble_eq_true rfl) dX7_nearest_59 (fun r u hp => pK r u hp)

set_option maxRecDepth 100000 in
set_option maxHeartbeats 4000000 in
theorem sg_X7_nearest_62 {Z : CX × GX} {post : Int32 → AH → Prop} {h : AH} {x1 : Int32} {x2 : Int32} {x3 : Int32} {x4 : Int32} {x5 : Int32} {x6 : Int32} {s0 : Int32} (hX : OK Z RX7 cX7_nearest 8 (some .int) 6 141) 
    (w : (∀ v2 : Int32, v2 = (if 0 ≤ (s0 - x2) then (s0 - x2 : Int32) else -(s0 - x2)) → EX Z 8 (QI Z post) 47 h [some (.ref 94), some (.int x1), some (.int x2), some (.int x3), some (.int (if x4 < 0 then (x6 : Int32) else (if x5 ≤ v2 then (x4 : Int32) else x6))), some (.int (if x4 < 0 then (v2 : Int32) else (if x5 ≤ v2 then (x5 : Int32) else v2))), some (.int (x6 + 1)), none] []))
    : EX Z 8 (QI Z post) 62 h [some (.ref 94), some (.int x1), some (.int x2), some (.int x3), some (.int x4), some (.int x5), some (.int x6), none] [.int s0] := by
  refine ex_iload_n hX dX7_nearest_62 rfl rfl ?_
  refine ex_isub hX dX7_nearest_63 ?_
  refine ex_istore (lv' := [some (.ref 94), some (.int x1), some (.int x2), some (.int x3), some (.int x4), some (.int x5), some (.int x6), some (.int (s0 - x2))]) hX dX7_nearest_64 (by decide) rfl ?_
  refine ex_iload hX dX7_nearest_66 rfl ?_
  have kc1 : EX Z 8 (QI Z post) 79 h [some (.ref 94), some (.int x1), some (.int x2), some (.int x3), some (.int x4), some (.int x5), some (.int x6), none] [.int (if 0 ≤ (s0 - x2) then (s0 - x2 : Int32) else -(s0 - x2))] := by
    refine ex_nameI (fun v2 ev2 => ?_)
    replace w := w v2 ev2
    refine ex_istore (lv' := [some (.ref 94), some (.int x1), some (.int x2), some (.int x3), some (.int x4), some (.int x5), some (.int x6), some (.int v2)]) hX dX7_nearest_79 (by decide) rfl ?_
    refine ex_iload hX dX7_nearest_81 rfl ?_
    have kc3 : EX Z 8 (QI Z post) 101 h [some (.ref 94), some (.int x1), some (.int x2), some (.int x3), some (.int (if x4 < 0 then (x6 : Int32) else (if x5 ≤ v2 then (x4 : Int32) else x6))), some (.int (if x4 < 0 then (v2 : Int32) else (if x5 ≤ v2 then (x5 : Int32) else v2))), some (.int x6), none] [] := by
      refine ex_iinc (v := x6 + 1) (lv' := [some (.ref 94), some (.int x1), some (.int x2), some (.int x3), some (.int (if x4 < 0 then (x6 : Int32) else (if x5 ≤ v2 then (x4 : Int32) else x6))), some (.int (if x4 < 0 then (v2 : Int32) else (if x5 ≤ v2 then (x5 : Int32) else v2))), some (.int (x6 + 1)), none]) hX dX7_nearest_101 rfl rfl (by decide) rfl ?_
      refine ex_goto hX 47 dX7_nearest_104 (by decide) ?_
      exact w
    refine ex_iflt hX 93 dX7_nearest_83 (by decide) (fun c3 => ?_) (fun c3 => ?_)
    · refine ex_iload hX dX7_nearest_93 rfl ?_
      refine ex_istore (lv' := [some (.ref 94), some (.int x1), some (.int x2), some (.int x3), some (.int x6), some (.int x5), some (.int x6), some (.int v2)]) hX dX7_nearest_95 (by decide) rfl ?_
      refine ex_iload hX dX7_nearest_97 rfl ?_
      refine ex_istore (lv' := [some (.ref 94), some (.int x1), some (.int x2), some (.int x3), some (.int x6), some (.int v2), some (.int x6), some (.int v2)]) hX dX7_nearest_99 (by decide) rfl ?_
      rw [show (if x4 < 0 then (x6 : Int32) else (if x5 ≤ v2 then (x4 : Int32) else x6)) = x6 from if_pos c3] at kc3
      rw [show (if x4 < 0 then (v2 : Int32) else (if x5 ≤ v2 then (x5 : Int32) else v2)) = v2 from if_pos c3] at kc3
      exact ex_forget [some (.ref 94), some (.int x1), some (.int x2), some (.int x3), some (.int x6), some (.int v2), some (.int x6), none] ⟨rfl, ⟨rfl, ⟨rfl, ⟨rfl, ⟨rfl, ⟨rfl, ⟨rfl, trivial⟩⟩⟩⟩⟩⟩⟩ kc3
    · refine ex_iload hX dX7_nearest_86 rfl ?_
      refine ex_iload hX dX7_nearest_88 rfl ?_
      have kc4 : EX Z 8 (QI Z post) 101 h [some (.ref 94), some (.int x1), some (.int x2), some (.int x3), some (.int (if x5 ≤ v2 then (x4 : Int32) else x6)), some (.int (if x5 ≤ v2 then (x5 : Int32) else v2)), some (.int x6), none] [] := by
        rw [show (if x4 < 0 then (x6 : Int32) else (if x5 ≤ v2 then (x4 : Int32) else x6)) = (if x5 ≤ v2 then (x4 : Int32) else x6) from if_neg c3] at kc3
        rw [show (if x4 < 0 then (v2 : Int32) else (if x5 ≤ v2 then (x5 : Int32) else v2)) = (if x5 ≤ v2 then (x5 : Int32) else v2) from if_neg c3] at kc3
        exact ex_forget [some (.ref 94), some (.int x1), some (.int x2), some (.int x3), some (.int (if x5 ≤ v2 then (x4 : Int32) else x6)), some (.int (if x5 ≤ v2 then (x5 : Int32) else v2)), some (.int x6), none] ⟨rfl, ⟨rfl, ⟨rfl, ⟨rfl, ⟨rfl, ⟨rfl, ⟨rfl, trivial⟩⟩⟩⟩⟩⟩⟩ kc3
      refine ex_icmpge hX 101 dX7_nearest_90 (by decide) (fun c4 => ?_) (fun c4 => ?_)
      · rw [show (if x5 ≤ v2 then (x4 : Int32) else x6) = x4 from if_pos c4] at kc4
        rw [show (if x5 ≤ v2 then (x5 : Int32) else v2) = x5 from if_pos c4] at kc4
        exact ex_forget [some (.ref 94), some (.int x1), some (.int x2), some (.int x3), some (.int x4), some (.int x5), some (.int x6), none] ⟨rfl, ⟨rfl, ⟨rfl, ⟨rfl, ⟨rfl, ⟨rfl, ⟨rfl, trivial⟩⟩⟩⟩⟩⟩⟩ kc4
      · refine ex_iload hX dX7_nearest_93 rfl ?_
        refine ex_istore (lv' := [some (.ref 94), some (.int x1), some (.int x2), some (.int x3), some (.int x6), some (.int x5), some (.int x6), some (.int v2)]) hX dX7_nearest_95 (by decide) rfl ?_
        refine ex_iload hX dX7_nearest_97 rfl ?_
        refine ex_istore (lv' := [some (.ref 94), some (.int x1), some (.int x2), some (.int x3), some (.int x6), some (.int v2), some (.int x6), some (.int v2)]) hX dX7_nearest_99 (by decide) rfl ?_
        rw [show (if x5 ≤ v2 then (x4 : Int32) else x6) = x6 from if_neg c4] at kc4
        rw [show (if x5 ≤ v2 then (x5 : Int32) else v2) = v2 from if_neg c4] at kc4
        exact ex_forget [some (.ref 94), some (.int x1), some (.int x2), some (.int x3), some (.int x6), some (.int v2), some (.int x6), none] ⟨rfl, ⟨rfl, ⟨rfl, ⟨rfl, ⟨rfl, ⟨rfl, ⟨rfl, trivial⟩⟩⟩⟩⟩⟩⟩ kc4
  refine ex_ifge hX 77 dX7_nearest_68 (by decide) (fun c1 => ?_) (fun c1 => ?_)
  · refine ex_iload hX dX7_nearest_77 rfl ?_
    rw [show (if 0 ≤ (s0 - x2) then (s0 - x2 : Int32) else -(s0 - x2)) = s0 - x2 from if_pos c1] at kc1
    exact ex_forget [some (.ref 94), some (.int x1), some (.int x2), some (.int x3), some (.int x4), some (.int x5), some (.int x6), none] ⟨rfl, ⟨rfl, ⟨rfl, ⟨rfl, ⟨rfl, ⟨rfl, ⟨rfl, trivial⟩⟩⟩⟩⟩⟩⟩ kc1
  · refine ex_iload hX dX7_nearest_71 rfl ?_
    refine ex_ineg hX dX7_nearest_73 ?_
    refine ex_goto hX 79 dX7_nearest_74 (by decide) ?_
    rw [show (if 0 ≤ (s0 - x2) then (s0 - x2 : Int32) else -(s0 - x2)) = -(s0 - x2) from if_neg c1] at kc1
    exact ex_forget [some (.ref 94), some (.int x1), some (.int x2), some (.int x3), some (.int x4), some (.int x5), some (.int x6), none] ⟨rfl, ⟨rfl, ⟨rfl, ⟨rfl, ⟨rfl, ⟨rfl, ⟨rfl, trivial⟩⟩⟩⟩⟩⟩⟩ kc1

theorem TM_INV0 {N : Nat} {h u : AH} (hI : INV N h) (a : TM h u) : INV N u := by
  obtain ⟨a, hH⟩ := a
  refine INV_at (Nat.le_refl _) hI a.1 (fun i hi => a.2.1 i (by omega) (by omega) (by omega)) a.2.2.1 (fun j hj => a.2.2.2 j (by omega)) hH ⟨?_, ?_, ?_⟩
  · rw [cs_same (fun i h1 h2 => a.2.1 i (by omega) (by omega) (by omega)), TF_m a]; exact hI.2.2.1.1
  · rw [a.2.1 27 (by omega) (by omega) (by omega)]; exact hI.2.2.1.2.1
  · rw [TF_P a, TF_m a]; exact hI.2.2.1.2.2
theorem one_or : ∀ k, k < 9 → (0 : Int32) ||| (1 <<< (nI k &&& 31)) = 1 <<< (nI k &&& 31) := by decide +kernel
theorem one_held : ∀ k, k < 9 → ∀ j, j < 9 → (((((1 : Int32) <<< (nI k &&& 31)) >>> (nI j &&& 31)) &&& 1 = 1) ↔ j = k) := by decide +kernel
def oneH (k : Nat) : Int32 := 1 <<< (nI k &&& 31)
theorem oneH_b {k j : Nat} (hk : k < 9) (hj : j < 9) : heldB (oneH k) j ↔ j = k := one_held k hk j hj
theorem SOK_wid {P : PR} {B : Int} {T j : Nat} {σ : SG} {v : Int32} (hS : SOK P B T σ) (hn : pn P ≤ 10) (hj : j < 9) (hv : ∃ w : Nat, w ≤ 9 ∧ v = nI w) : SOK P B T (upd σ (10 + j) v) := by
  obtain ⟨s1, s2, s3, s4, s5⟩ := hS
  have o : ∀ i, i ≠ 10 + j → upd σ (10 + j) v i = σ i := fun i hi => upd_ne hi
  refine ⟨fun i hi => by rw [o i (by omega)]; exact s1 i hi, ?_, by rw [o 50 (by omega)]; exact s3, ?_, fun i hi => ?_⟩
  · rw [sumW_congr (fun i hi => o i (by omega))]; exact s2
  · obtain ⟨cc, c1, c2, c3⟩ := s4
    exact ⟨cc, c1, by rw [o 51 (by omega)]; exact c2, fun l hl => by rw [o _ (by omega), o _ (by omega)]; exact c3 l hl⟩
  · by_cases hij : i = j
    · subst hij; rw [upd_eq]; exact hv
    · rw [o _ (by omega)]; exact s5 i hi
theorem cs_held {f : Nat → SG} {s : Nat} {v : Int32} : cs (hset f s 2 v) s = cs f s := cs_off (fun k q hq => by
  by_cases c : q.1 = 0
  · have : q.2 ≠ 2 := fun z => loc_02 k (loc_lt hq) (by rw [hq]; exact congrArg some (Prod.ext c z))
    rw [c]
    show hset f s 2 v (s + 0) q.2 = f (s + 0) q.2
    rw [Nat.add_zero, hset_eq, upd_ne this]
  · rw [hset_ne (by omega)])
theorem TOKh {N k : Nat} {P : PR} {σ : SG} {hw : Int32} (hP : POK P) (hS : SOK P (2000000 * (N : Int)) (200 * N) σ) (hk : k < 9) (hh : ∃ w : Nat, w ≤ 9 ∧ hw = nI w) : TOK N P (upd σ (10 + k) hw) (oneH k) hw :=
  ⟨hP, SOK_wid hS hP.1.2 hk hh, hh, fun j hj hb => by
    have := (oneH_b hk (by have := hP.1.2; omega)).mp hb
    rw [this, upd_eq]⟩

set_option maxRecDepth 100000 in
set_option maxHeartbeats 4000000 in
theorem c_X3_holdGate {h : AH} {a0 : Nat} {a1 : Int32} {a2 : Int32} (ha0 : oc a0 = some 3) {g : AH} {k : Nat} (e0 : a0 = 42) (hk : k < 9) (e1 : a1 = nI k) : CV yX3_holdGate cX3_holdGate 3 0 0 [.ref a0, .int a1, .int a2] h (fun u => ∀ P σ hw, CT P σ 0 hw g h 0 → CT P (upd σ (10 + k) a2) (oneH k) a2 g u 0) := by
  refine CV.of [some (.ref a0), some (.int a1), some (.int a2)] (by decide +kernel) rfl (Nat.le_of_ble_eq_true rfl) rfl (fun Z hX => ?_)
  subst e1
  refine sg_X3_holdGate_0 hX ha0 (fun u1 e1 => ⟨vp_in_nI (by omega) (by omega), fun u3 e3 P σ hw hC => ?_⟩)
  subst e0
  obtain ⟨c1, c2, c3⟩ := hC
  rw [nI_clamp (by omega)] at e3
  have z1 : TC h u1 := by rw [e1]; exact TC.set (by omega)
  have z2 : TC u1 u3 := by rw [e3]; exact TC.set (by omega)
  refine ⟨(c1.tr z1).tr z2, ?_, ?_⟩
  · rw [e3, hs_o (by omega), e1, hs_s, c2]; exact one_or k hk
  · have : mk (cs u1.1 42) = σ := by rw [e1]; show mk (cs (hset h.1 42 2 _) 42) = σ; rw [cs_held, c3]; rfl
    rw [e3]
    show mk (cs (hset u1.1 (42 + 3) k a2) 42) = upd σ (10 + k) a2
    rw [mkc (loc_10 k hk) (by unfold rel; omega) (by omega), this]

set_option maxRecDepth 100000 in
set_option maxHeartbeats 4000000 in
theorem c_X6_lakeWith {h : AH} {a1 : Int32} {a2 : Int32} {a3 : Int32}  {N k m : Nat} {P : PR} {σ : SG} (hI : INV N h) (hN : N ≤ 511) (eP : PM h.1 = P) (eS : mk (ms h.1 0) = σ) (hP : POK P) (hk : k < pn P - 1) (e1 : a1 = nI k) (hw : ∃ w : Nat, w ≤ 9 ∧ a2 = nI w) (hm : 1 ≤ m ∧ m ≤ 200) (e3 : a3 = nI m) : CI yX6_lakeWith cX6_lakeWith 4 (some .int) 5 123 [.ref 0, .int a1, .int a2, .int a3] h (fun r u => r = hoursS P (oneH k) a2 m σ 0 ∧ TC h u) := by
  refine CI.of [some (.ref 0), some (.int a1), some (.int a2), some (.int a3)] (by decide +kernel) rfl (Nat.le_of_ble_eq_true rfl) rfl (fun Z hX => ?_)
  have hk9 : k < 9 := by have := hP.1.2; omega
  obtain ⟨PP, q1, q2⟩ := ct_begin hI
  have hT : TOK N P (upd σ (10 + k) a2) (oneH k) a2 := TOKh hP (by rw [← eP, ← eS]; exact hI.2.2.1.2.2.1) hk9 hw
  refine sg_X6_lakeWith_0 hX ⟨PP, q1, fun u hu => sg_X6_lakeWith_11 hX ⟨_, c_X3_holdGate (g := h) rfl rfl hk9 e1, fun v hv => sg_X6_lakeWith_20 hX ⟨_, c_X6_passTrialHours e3 hm.2 hI hN eP hT (hv P σ 0 (by rw [← eP, ← eS]; exact q2 u hu 0)), fun w hw => sg_X6_lakeWith_25 hX ⟨?_, hw.1⟩⟩⟩⟩
  rw [← hoursS_hold hP.1.2 hk ((oneH_b hk9 hk9).mpr rfl) m hm.1, ← hw.2.2]
  exact mkc_at (f := w.1) (s := 42) (loc_w 0 (by omega)) (by unfold rel; omega)

set_option maxRecDepth 100000 in
set_option maxHeartbeats 4000000 in
theorem c_X7_lakeWith {h : AH} {a1 : Int32} {a2 : Int32} {a3 : Int32}  {N k m : Nat} {P : PR} {σ : SG} (hI : INV N h) (hN : N ≤ 511) (eP : PM h.1 = P) (eS : mk (ms h.1 0) = σ) (hP : POK P) (hk : k < pn P - 1) (e1 : a1 = nI k) (hw : ∃ w : Nat, w ≤ 9 ∧ a2 = nI w) (hm : 1 ≤ m ∧ m ≤ 200) (e3 : a3 = nI m) : CI yX7_lakeWith cX7_lakeWith 4 (some .int) 5 118 [.ref 94, .int a1, .int a2, .int a3] h (fun r u => r = hoursS P (oneH k) a2 m σ 0 ∧ TM h u) := by
  refine CI.of [some (.ref 94), some (.int a1), some (.int a2), some (.int a3)] (by decide +kernel) rfl (Nat.le_of_ble_eq_true rfl) rfl (fun Z hX => ?_)
  subst e1
  refine sg_X7_lakeWith_0 hX ⟨_, c_X7_tryHours e3 hm.2 hN eP eS ⟨hP, by rw [← eP, ← eS]; exact hI.2.2.1.2.2.1, hw⟩, fun v hv => sg_X7_lakeWith_9 hX ⟨?_, hv.1⟩⟩
  rw [show hoursS P (oneH k) a2 m σ = _ from hv.2.1.symm]
  exact mk_at (f := v.1) (ρ := 200) (k := 0) (by unfold rel; omega)

def drainedS (P : PR) (σ : SG) (x1 x2 x3 : Int32) : Int32 := hoursS P 0 0 x3.toNatClampNeg σ 0 - hoursS P (oneH x1.toNatClampNeg) x2 x3.toNatClampNeg σ 0
theorem rN9 {x : Int32} (h : rN 0 9 x) : ∃ w : Nat, w ≤ 9 ∧ x = nI w := by
  obtain ⟨w, -, a, b⟩ := h
  exact ⟨w, a, b⟩

set_option maxRecDepth 100000 in
set_option maxHeartbeats 4000000 in
theorem c_X6_drained {h : AH} {a1 : Int32} {a2 : Int32} {a3 : Int32}  {n N : Nat} (hn : n ≤ 10) (hI : INV N h) (hN : N ≤ 511) (en : h.1 (h.2 1) 0 = nI n) (hP : n = 0 ∨ POK (PM h.1)) : CI yX6_drained cX6_drained 5 (some .int) 6 146 [.ref 0, .int a1, .int a2, .int a3] h (fun r u => T3 (gateA n a1) (rN 0 9 a2 ∧ rN 1 200 a3) (-100000001) (-100000002) (drainedS (PM h.1) (mk (ms h.1 0)) a1 a2 a3) r ∧ TC h u) := by
  refine CI.of [some (.ref 0), some (.int a1), some (.int a2), some (.int a3), none] (by decide +kernel) rfl (Nat.le_of_ble_eq_true rfl) rfl (fun Z hX => ?_)
  have hA : (0 ≤ a1 ∧ a1 < h.1 (h.2 1) 0 - 1) ↔ gateA n a1 := by rw [en]; exact gt1 hn
  have r2 := rnC (x := a2) (lo := 0) (hi := 9) (L := 0) (M := 9) rfl rfl (by decide)
  have r3 := rnC (x := a3) (lo := 1) (hi := 200) (L := 1) (M := 200) rfl rfl (by decide)
  refine sg_X6_drained_0 hX ⟨fun c => ?_, fun c => ⟨T3.a (fun z => c (hA.mpr z)), TC.rf⟩⟩
  have hA' := hA.mp c
  refine ⟨fun c1 => ⟨T3.b hA' (fun z => (r2.mpr z.1).1 c1), TC.rf⟩, fun c1 => ⟨fun c2 => ⟨T3.b hA' (fun z => Int32.not_lt.mpr (r2.mpr z.1).2 c2), TC.rf⟩, fun c2 => ⟨fun c3 => ⟨T3.b hA' (fun z => (r3.mpr z.2).1 c3), TC.rf⟩, fun c3 => ⟨fun c4 => ?_, fun c4 => ⟨T3.b hA' (fun z => c4 (r3.mpr z.2).2), TC.rf⟩⟩⟩⟩⟩
  have hB : rN 0 9 a2 ∧ rN 1 200 a3 := ⟨r2.mp ⟨c1, Int32.not_lt.mp c2⟩, r3.mp ⟨c3, c4⟩⟩
  obtain ⟨k, k1, k2⟩ := hA'
  obtain ⟨m, m1, m2, m3⟩ := hB.2
  have hP' := hP.resolve_left (by omega)
  have ep : pn (PM h.1) = n := by rw [← hI.2.1.1]; exact pn_C en hn
  obtain ⟨PP, q1, q2⟩ := ct_begin hI
  refine ⟨PP, q1, fun u hu => sg_X6_drained_50 hX ⟨_, c_X6_passTrialHours m3 m2 hI hN rfl (TOK0 hI hP' i0) (q2 u hu 0), fun v hv => sg_X6_drained_55 hX ⟨_, c_X6_lakeWith (N := N) (TC_INV hI hv.1) hN (TC_P hv.1) (by rw [TC_m hv.1]) hP' (by rw [ep]; omega) k2 (rN9 hB.1) ⟨m1, m2⟩ m3, fun r w hw => sg_X6_drained_75 hX ⟨T3.c ⟨k, k1, k2⟩ hB ?_, hv.1.tr hw.2⟩⟩⟩⟩
  have e : v.1 (42 + 1) 0 = mk (cs v.1 42) 0 := mkc_at (f := v.1) (s := 42) (loc_w 0 (by omega)) (by unfold rel; omega)
  show v.1 (42 + 1) 0 - r = _
  rw [e, hv.2.2, hw.1, drainedS, m3, nI_clamp (by omega), k2, nI_clamp (by omega)]

set_option maxRecDepth 100000 in
set_option maxHeartbeats 4000000 in
theorem c_X7_drained {h : AH} {a1 : Int32} {a2 : Int32} {a3 : Int32}  {n N : Nat} (hn : n ≤ 10) (hI : INV N h) (hN : N ≤ 511) (en : h.1 94 9 = nI n) (hP : n = 0 ∨ POK (PM h.1)) : CI yX7_drained cX7_drained 5 (some .int) 6 141 [.ref 94, .int a1, .int a2, .int a3] h (fun r u => T3 (gateA n a1) (rN 0 9 a2 ∧ rN 1 200 a3) (-100000001) (-100000002) (drainedS (PM h.1) (mk (ms h.1 0)) a1 a2 a3) r ∧ TM h u) := by
  refine CI.of [some (.ref 94), some (.int a1), some (.int a2), some (.int a3), none] (by decide +kernel) rfl (Nat.le_of_ble_eq_true rfl) rfl (fun Z hX => ?_)
  have tm : TM h h := ⟨TF.rf, hI.2.2.2.2.2.2.2⟩
  have hA : (0 ≤ a1 ∧ a1 ≤ h.1 94 9 - 2) ↔ gateA n a1 := by rw [en]; exact gt2 hn
  have r2 := rnM (x := a2) (lo := 0) (hi := 9) (L := 0) (M := 9) rfl rfl (by decide)
  have r3 := rnM (x := a3) (lo := 1) (hi := 200) (L := 1) (M := 200) rfl rfl (by decide)
  refine sg_X7_drained_0 hX ⟨fun c => ⟨fun c1 => ⟨T3.b (hA.mp c) (fun z => c1 (r2.mpr z.1)), tm⟩, fun c1 => ⟨fun c2 => ?_, fun c2 => ⟨T3.b (hA.mp c) (fun z => c2 (r3.mpr z.2)), tm⟩⟩⟩, fun c => ⟨T3.a (fun z => c (hA.mpr z)), tm⟩⟩
  have hB : rN 0 9 a2 ∧ rN 1 200 a3 := ⟨r2.mp c1, r3.mp c2⟩
  obtain ⟨k, k1, k2⟩ := hA.mp c
  obtain ⟨m, m1, m2, m3⟩ := hB.2
  have hP' := hP.resolve_left (by omega)
  have ep : pn (PM h.1) = n := pn_M en hn
  refine ⟨_, c_X7_tryHours m3 m2 (by omega : N ≤ 511) rfl rfl (UOK0 hI hP' i0), fun v hv => sg_X7_drained_45 hX ⟨_, c_X7_lakeWith (N := N) (h := v) (TM_INV0 hI hv.1) (by omega) (TF_P hv.1.1) (TF_m hv.1.1) hP' (by rw [ep]; omega) k2 (rN9 hB.1) ⟨m1, m2⟩ m3, fun r w hw => sg_X7_drained_64 hX ⟨T3.c ⟨k, k1, k2⟩ hB ?_, hv.1.1.tr hw.2.1, hw.2.2⟩⟩⟩
  have e : v.1 95 (200 + 0) = mk (ms v.1 200) 0 := mk_at (f := v.1) (ρ := 200) (k := 0) (by unfold rel; omega)
  show v.1 95 (200 + 0) - r = _
  rw [e, hv.2.1, hw.1, drainedS, m3, nI_clamp (by omega), k2, nI_clamp (by omega)]

theorem op_drained {N : Nat} {h : AH} {x y z : Int32} (hI : INV N h) (hNN : N ≤ 511) : OPP yX6_drained cX6_drained 5 6 146 yX7_drained cX7_drained 5 6 141 [.int x, .int y, .int z] N h := by
  obtain ⟨n, hn, e1, e2, hP⟩ := hI.2.1.2.1
  refine OPP.trial hI (c_X6_drained hn hI (by omega) e1 hP) (fun u iu f1 f2 f3 f4 => ?_)
  have := c_X7_drained (h := u) (a1 := x) (a2 := y) (a3 := z) hn iu (by omega) (by rw [f3]; exact e2) (by rw [f1]; exact hP)
  rw [f1, f2] at this
  exact this

def offS (P : PR) (σ : SG) (k m : Nat) (v : Int32) (w : Nat) : Int32 := if 0 ≤ hoursS P (oneH k) (nI w) m σ 0 - v then hoursS P (oneH k) (nI w) m σ 0 - v else 0 - (hoursS P (oneH k) (nI w) m σ 0 - v)
def nbS (P : PR) (σ : SG) (k m : Nat) (v : Int32) : Nat → Int32 × Int32
  | 0 => (0, offS P σ k m v 0)
  | j + 1 => if (nbS P σ k m v j).2 ≤ offS P σ k m v (j + 1) then nbS P σ k m v j else (nI (j + 1), offS P σ k m v (j + 1))
theorem nb_in {P : PR} {σ : SG} {k m : Nat} {v : Int32} : ∀ j, ∃ i, i ≤ j ∧ (nbS P σ k m v j).1 = nI i := by
  intro j
  induction j with
  | zero => exact ⟨0, by omega, rfl⟩
  | succ j ih =>
    unfold nbS
    by_cases c : (nbS P σ k m v j).2 ≤ offS P σ k m v (j + 1)
    · rw [if_pos c]; obtain ⟨i, a, b⟩ := ih; exact ⟨i, by omega, b⟩
    · rw [if_neg c]; exact ⟨j + 1, by omega, rfl⟩
theorem nb_1 {P : PR} {σ : SG} {k m : Nat} {v : Int32} {j : Nat} : (nbS P σ k m v (j + 1)).1 = (if (nbS P σ k m v j).2 ≤ offS P σ k m v (j + 1) then (nbS P σ k m v j).1 else nI (j + 1)) := by
  rw [nbS]
  by_cases c : (nbS P σ k m v j).2 ≤ offS P σ k m v (j + 1)
  · rw [if_pos c, if_pos c]
  · rw [if_neg c, if_neg c]
theorem nb_2 {P : PR} {σ : SG} {k m : Nat} {v : Int32} {j : Nat} : (nbS P σ k m v (j + 1)).2 = (if (nbS P σ k m v j).2 ≤ offS P σ k m v (j + 1) then (nbS P σ k m v j).2 else offS P σ k m v (j + 1)) := by
  rw [nbS]
  by_cases c : (nbS P σ k m v j).2 ≤ offS P σ k m v (j + 1)
  · rw [if_pos c, if_pos c]
  · rw [if_neg c, if_neg c]

set_option maxRecDepth 100000 in
set_option maxHeartbeats 4000000 in
theorem c_X6_nearest {h : AH} {a1 : Int32} {a2 : Int32} {a3 : Int32}  {n N : Nat} (hn : n ≤ 10) (hI : INV N h) (hN : N ≤ 511) (en : h.1 (h.2 1) 0 = nI n) (hP : n = 0 ∨ POK (PM h.1)) : CI yX6_nearest cX6_nearest 8 (some .int) 6 146 [.ref 0, .int a1, .int a2, .int a3] h (fun r u => T3 (gateA n a1) (rN 0 99999 a2 ∧ rN 1 200 a3) (-100000001) (-100000002) (nbS (PM h.1) (mk (ms h.1 0)) a1.toNatClampNeg a3.toNatClampNeg a2 9).1 r ∧ TC h u) := by
  refine CI.of [some (.ref 0), some (.int a1), some (.int a2), some (.int a3), none, none, none, none] (by decide +kernel) rfl (Nat.le_of_ble_eq_true rfl) rfl (fun Z hX => ?_)
  have hA : (0 ≤ a1 ∧ a1 < h.1 (h.2 1) 0 - 1) ↔ gateA n a1 := by rw [en]; exact gt1 hn
  have r2 := rnC (x := a2) (lo := 0) (hi := 99999) (L := 0) (M := 99999) rfl rfl (by decide)
  have r3 := rnC (x := a3) (lo := 1) (hi := 200) (L := 1) (M := 200) rfl rfl (by decide)
  generalize hpost : (fun (r : Int32) (u : AH) => T3 (gateA n a1) (rN 0 99999 a2 ∧ rN 1 200 a3) (-100000001) (-100000002) (nbS (PM h.1) (mk (ms h.1 0)) a1.toNatClampNeg a3.toNatClampNeg a2 9).1 r ∧ TC h u) = post
  have bad : gateA n a1 → ¬ (rN 0 99999 a2 ∧ rN 1 200 a3) → post (-100000002) h := fun a b => by rw [← hpost]; exact ⟨T3.b a b, TC.rf⟩
  refine sg_X6_nearest_0 hX ⟨fun c => ?_, fun c => by rw [← hpost]; exact ⟨T3.a (fun z => c (hA.mpr z)), TC.rf⟩⟩
  have hA' := hA.mp c
  refine ⟨fun c1 => bad hA' (fun z => (r2.mpr z.1).1 c1), fun c1 => ⟨fun c2 => bad hA' (fun z => Int32.not_lt.mpr (r2.mpr z.1).2 c2), fun c2 => ⟨fun c3 => bad hA' (fun z => (r3.mpr z.2).1 c3), fun c3 => ⟨fun c4 => ?_, fun c4 => bad hA' (fun z => c4 (r3.mpr z.2).2)⟩⟩⟩⟩
  have hB : rN 0 99999 a2 ∧ rN 1 200 a3 := ⟨r2.mp ⟨c1, Int32.not_lt.mp c2⟩, r3.mp ⟨c3, c4⟩⟩
  have hA2 := hA'
  obtain ⟨k, k1, rfl⟩ := hA'
  obtain ⟨m, m1, m2, rfl⟩ := hB.2
  have hP' := hP.resolve_left (by omega)
  have ep : pn (PM h.1) = n := by rw [← hI.2.1.1]; exact pn_C en hn
  have lw : ∀ (u : AH) (w : Nat), w ≤ 9 → TC h u → CI yX6_lakeWith cX6_lakeWith 4 (some .int) 5 123 [.ref 0, .int (nI k), .int (nI w), .int (nI m)] u (fun r v => r = hoursS (PM h.1) (oneH k) (nI w) m (mk (ms h.1 0)) 0 ∧ TC u v) := fun u w hw hu => c_X6_lakeWith (N := N) (TC_INV hI hu) hN (TC_P hu) (by rw [TC_m hu]) hP' (by rw [ep]; omega) rfl ⟨w, hw, rfl⟩ ⟨m1, m2⟩ rfl
  rw [nI_clamp (by omega), nI_clamp (by omega)] at hpost
  have L : ∀ j, j ≤ 9 → ∀ u : AH, TC h u → EX Z 8 (QI Z post) 59 u [some (.ref 0), some (.int (nI k)), some (.int a2), some (.int (nI m)), some (.int (nbS (PM h.1) (mk (ms h.1 0)) k m a2 j).1), some (.int (nbS (PM h.1) (mk (ms h.1 0)) k m a2 j).2), some (.int (nI (j + 1))), none] [] := by
    refine ldown _ ?_ ?_
    · intro u hu
      refine sg_X6_nearest_59 hX ⟨fun _ => ?_, fun z => absurd (by decide : (9 : Int32) < nI (9 + 1)) z⟩
      rw [← hpost]
      exact ⟨T3.c hA2 hB rfl, hu⟩
    · intro j hj ih u hu
      refine sg_X6_nearest_59 hX ⟨fun z => absurd z (nI_nlt (a := 9) (b := j + 1) (by omega) (by omega)), fun _ => ⟨_, lw u (j + 1) (by omega) hu, fun r v hv => sg_X6_nearest_74 hX (fun v1 e1 => ?_)⟩⟩
      rw [hv.1] at e1
      have : v1 = offS (PM h.1) (mk (ms h.1 0)) k m a2 (j + 1) := e1
      rw [this, ← nb_1, ← nb_2, nI_1]
      exact ih v (hu.tr hv.2)
  refine ⟨_, lw h 0 (by omega) TC.rf, fun r v hv => sg_X6_nearest_49 hX (fun v1 e1 => ?_)⟩
  rw [hv.1] at e1
  have : v1 = offS (PM h.1) (mk (ms h.1 0)) k m a2 0 := e1
  rw [this]
  exact L 0 (by omega) v hv.2

set_option maxRecDepth 100000 in
set_option maxHeartbeats 4000000 in
theorem c_X7_nearest {h : AH} {a1 : Int32} {a2 : Int32} {a3 : Int32}  {n N : Nat} (hn : n ≤ 10) (hI : INV N h) (hN : N ≤ 511) (en : h.1 94 9 = nI n) (hP : n = 0 ∨ POK (PM h.1)) : CI yX7_nearest cX7_nearest 8 (some .int) 6 141 [.ref 94, .int a1, .int a2, .int a3] h (fun r u => T3 (gateA n a1) (rN 0 99999 a2 ∧ rN 1 200 a3) (-100000001) (-100000002) (nbS (PM h.1) (mk (ms h.1 0)) a1.toNatClampNeg a3.toNatClampNeg a2 9).1 r ∧ TM h u) := by
  refine CI.of [some (.ref 94), some (.int a1), some (.int a2), some (.int a3), none, none, none, none] (by decide +kernel) rfl (Nat.le_of_ble_eq_true rfl) rfl (fun Z hX => ?_)
  have tm : TM h h := ⟨TF.rf, hI.2.2.2.2.2.2.2⟩
  have hA : (0 ≤ a1 ∧ a1 ≤ h.1 94 9 - 2) ↔ gateA n a1 := by rw [en]; exact gt2 hn
  have r2 := rnM (x := a2) (lo := 0) (hi := 99999) (L := 0) (M := 99999) rfl rfl (by decide)
  have r3 := rnM (x := a3) (lo := 1) (hi := 200) (L := 1) (M := 200) rfl rfl (by decide)
  generalize hpost : (fun (r : Int32) (u : AH) => T3 (gateA n a1) (rN 0 99999 a2 ∧ rN 1 200 a3) (-100000001) (-100000002) (nbS (PM h.1) (mk (ms h.1 0)) a1.toNatClampNeg a3.toNatClampNeg a2 9).1 r ∧ TM h u) = post
  refine sg_X7_nearest_0 hX ⟨fun c => ⟨fun c1 => by rw [← hpost]; exact ⟨T3.b (hA.mp c) (fun z => c1 (r2.mpr z.1)), tm⟩, fun c1 => ⟨fun c2 => ?_, fun c2 => by rw [← hpost]; exact ⟨T3.b (hA.mp c) (fun z => c2 (r3.mpr z.2)), tm⟩⟩⟩, fun c => by rw [← hpost]; exact ⟨T3.a (fun z => c (hA.mpr z)), tm⟩⟩
  have hB : rN 0 99999 a2 ∧ rN 1 200 a3 := ⟨r2.mp c1, r3.mp c2⟩
  have hA2 := hA.mp c
  obtain ⟨k, k1, rfl⟩ := hA.mp c
  obtain ⟨m, m1, m2, rfl⟩ := hB.2
  have hP' := hP.resolve_left (by omega)
  have ep : pn (PM h.1) = n := pn_M en hn
  have lw : ∀ (u : AH) (w : Nat), w ≤ 9 → TM h u → CI yX7_lakeWith cX7_lakeWith 4 (some .int) 5 118 [.ref 94, .int (nI k), .int (nI w), .int (nI m)] u (fun r v => r = hoursS (PM h.1) (oneH k) (nI w) m (mk (ms h.1 0)) 0 ∧ TM u v) := fun u w hw hu => c_X7_lakeWith (N := N) (TM_INV0 hI hu) hN (TF_P hu.1) (TF_m hu.1) hP' (by rw [ep]; omega) rfl ⟨w, hw, rfl⟩ ⟨m1, m2⟩ rfl
  rw [nI_clamp (by omega), nI_clamp (by omega)] at hpost
  have L : ∀ j, j ≤ 9 → ∀ u : AH, TM h u → EX Z 8 (QI Z post) 47 u [some (.ref 94), some (.int (nI k)), some (.int a2), some (.int (nI m)), some (.int (nbS (PM h.1) (mk (ms h.1 0)) k m a2 j).1), some (.int (nbS (PM h.1) (mk (ms h.1 0)) k m a2 j).2), some (.int (nI (j + 1))), none] [] := by
    refine ldown _ ?_ ?_
    · intro u hu
      refine sg_X7_nearest_47 hX ⟨fun _ => ?_, fun z => absurd (by decide : (9 : Int32) < nI (9 + 1)) z⟩
      rw [← hpost]
      exact ⟨T3.c hA2 hB rfl, hu⟩
    · intro j hj ih u hu
      refine sg_X7_nearest_47 hX ⟨fun z => absurd z (nI_nlt (a := 9) (b := j + 1) (by omega) (by omega)), fun _ => ⟨_, lw u (j + 1) (by omega) hu, fun r v hv => sg_X7_nearest_62 hX (fun v1 e1 => ?_)⟩⟩
      rw [hv.1] at e1
      have : v1 = offS (PM h.1) (mk (ms h.1 0)) k m a2 (j + 1) := by rw [e1, offS, Int32.zero_sub]
      obtain ⟨i, i1, i2⟩ := nb_in (P := PM h.1) (σ := mk (ms h.1 0)) (k := k) (m := m) (v := a2) j
      have ng : ¬ (nbS (PM h.1) (mk (ms h.1 0)) k m a2 j).1 < 0 := by rw [i2]; exact nI_pos (by omega)
      rw [this, if_neg ng, if_neg ng, ← nb_1, ← nb_2, nI_1]
      exact ih v ⟨hu.1.tr hv.2.1, hv.2.2⟩
  refine sg_X7_nearest_47 hX ⟨fun z => absurd z (by decide), fun _ => ⟨_, lw h 0 (by omega) tm, fun r v hv => sg_X7_nearest_62 hX (fun v1 e1 => ?_)⟩⟩
  rw [hv.1] at e1
  have : v1 = offS (PM h.1) (mk (ms h.1 0)) k m a2 0 := by rw [e1, offS, Int32.zero_sub]
  rw [this, if_pos (by decide), if_pos (by decide)]
  exact L 0 (by omega) v ⟨tm.1.tr hv.2.1, hv.2.2⟩

theorem op_nearest {N : Nat} {h : AH} {x y z : Int32} (hI : INV N h) (hNN : N ≤ 511) : OPP yX6_nearest cX6_nearest 8 6 146 yX7_nearest cX7_nearest 8 6 141 [.int x, .int y, .int z] N h := by
  obtain ⟨n, hn, e1, e2, hP⟩ := hI.2.1.2.1
  refine OPP.trial hI (c_X6_nearest hn hI (by omega) e1 hP) (fun u iu f1 f2 f3 f4 => ?_)
  have := c_X7_nearest (h := u) (a1 := x) (a2 := y) (a3 := z) hn iu (by omega) (by rw [f3]; exact e2) (by rw [f1]; exact hP)
  rw [f1, f2] at this
  exact this
