set_option maxRecDepth 100000 in
set_option maxHeartbeats 4000000 in
theorem sg_X7_canGo_0 {Z : CX × GX} {post : Int32 → AH → Prop} {h : AH} {x1 : Int32} {x2 : Int32} {x3 : Int32} {x4 : Int32} (hX : OK Z RX7 cX7_canGo 7 (some .boolean) 2 46) 
    (w : ((¬ x3 = 0 → (∀ v3 : Int32, v3 = (if x3 = 1 then (x2 : Int32) else x2 - 1) → ((¬ (0 ≤ v3 ∧ v3 ≤ h.1 94 9 - 2) → post 0 h) ∧ ((0 ≤ v3 ∧ v3 ≤ h.1 94 9 - 2) → (vp_in ((9 * x1) + v3) 1800) ∧ (∀ v6 : Int32, v6 = h.1 110 (Int32.toNatClampNeg ((9 * x1) + v3)) → ((¬ v6 = 0 → ((¬ x3 = 1 → (vp_in ((9 * x1) + v3) 1800) ∧ True) ∧ (x3 = 1 → (vp_in ((9 * x1) + v3) 1800) ∧ True) ∧ (∀ v11 : Int32, v11 = (if x3 = 1 then (-(h.1 109 (Int32.toNatClampNeg ((9 * x1) + v3))) : Int32) else h.1 109 (Int32.toNatClampNeg ((9 * x1) + v3))) → ((x4 < v11 → post 0 h) ∧ (¬ x4 < v11 → post 1 h))))) ∧ (v6 = 0 → post 0 h))))))) ∧ (x3 = 0 → post 1 h)))
    : EX Z 7 (QI Z post) 0 h [some (.ref 94), some (.int x1), some (.int x2), some (.int x3), some (.int x4), none, none] [] := by
  refine ex_iload_n hX dX7_canGo_0 rfl rfl ?_
  refine ex_ifne hX 6 dX7_canGo_1 (by decide) (fun c1 => ?_) (fun c1 => ?_)
  · replace w := w.1 c1
    refine ex_iload_n hX dX7_canGo_6 rfl rfl ?_
    refine ex_iconst (v := 1) hX dX7_canGo_7 rfl ?_
    have kc2 : EX Z 7 (QI Z post) 18 h [some (.ref 94), some (.int x1), none, some (.int x3), some (.int x4), none, none] [.int (if x3 = 1 then (x2 : Int32) else x2 - 1)] := by
      refine ex_nameI (fun v3 ev3 => ?_)
      replace w := w v3 ev3
      refine ex_istore (lv' := [some (.ref 94), some (.int x1), none, some (.int x3), some (.int x4), some (.int v3), none]) hX dX7_canGo_18 (by decide) rfl ?_
      refine ex_aload_n hX dX7_canGo_20 rfl rfl ?_
      refine ex_iload hX dX7_canGo_21 rfl ?_
      refine ex_pIv (ci := 7) (i := 94) (As := [.int v3]) (st := []) hX (c_X7_isGate (h := h)) CS_7_192 MS_X7_isGate rfl rfl rfl (by decide) rfl (Nat.le_of_ble_eq_true rfl) dX7_canGo_23 ?_
      refine ex_ifeqB hX 44 dX7_canGo_26 (by decide) (fun c4 => ?_) (fun c4 => ?_)
      · replace w := w.1 c4
        refine ex_iconst (v := 0) hX dX7_canGo_44 rfl ?_
        exact ex_iret hX dX7_canGo_45 rfl w
      · replace w := w.2 c4
        refine ex_aload_n hX dX7_canGo_29 rfl rfl ?_
        refine ex_get hX (.ref 110) FL_7_60 rfl (fun _ => rfl) dX7_canGo_30 ?_
        refine ex_bipush (v := 9) hX dX7_canGo_33 rfl ?_
        refine ex_iload_n hX dX7_canGo_35 rfl rfl ?_
        refine ex_imul hX dX7_canGo_36 ?_
        refine ex_iload hX dX7_canGo_37 rfl ?_
        refine ex_iadd hX dX7_canGo_39 ?_
        obtain ⟨q5, w⟩ := w
        refine ex_iald hX rfl q5 dX7_canGo_40 ?_
        refine ex_nameI (fun v6 ev6 => ?_)
        replace w := w v6 ev6
        refine ex_ifne hX 46 dX7_canGo_41 (by decide) (fun c7 => ?_) (fun c7 => ?_)
        · replace w := w.1 c7
          refine ex_iload_n hX dX7_canGo_46 rfl rfl ?_
          refine ex_iconst (v := 1) hX dX7_canGo_47 rfl ?_
          obtain ⟨wac8, wbc8, w⟩ := w
          have kc8 : EX Z 7 (QI Z post) 79 h [none, none, none, none, some (.int x4), none, none] [.int (if x3 = 1 then (-(h.1 109 (Int32.toNatClampNeg ((9 * x1) + v3))) : Int32) else h.1 109 (Int32.toNatClampNeg ((9 * x1) + v3)))] := by
            refine ex_nameI (fun v11 ev11 => ?_)
            replace w := w v11 ev11
            refine ex_istore (lv' := [none, none, none, none, some (.int x4), none, some (.int v11)]) hX dX7_canGo_79 (by decide) rfl ?_
            refine ex_iload hX dX7_canGo_81 rfl ?_
            refine ex_iload hX dX7_canGo_83 rfl ?_
            refine ex_icmpgt hX 92 dX7_canGo_85 (by decide) (fun c12 => ?_) (fun c12 => ?_)
            · replace w := w.1 c12
              refine ex_iconst (v := 0) hX dX7_canGo_92 rfl ?_
              exact ex_iret hX dX7_canGo_93 rfl w
            · replace w := w.2 c12
              refine ex_iconst (v := 1) hX dX7_canGo_88 rfl ?_
              refine ex_goto hX 93 dX7_canGo_89 (by decide) ?_
              exact ex_iret hX dX7_canGo_93 rfl w
          refine ex_icmpne hX 67 dX7_canGo_48 (by decide) (fun c8 => ?_) (fun c8 => ?_)
          · replace w := wac8 c8
            refine ex_aload_n hX dX7_canGo_67 rfl rfl ?_
            refine ex_get hX (.ref 109) FL_7_57 rfl (fun _ => rfl) dX7_canGo_68 ?_
            refine ex_bipush (v := 9) hX dX7_canGo_71 rfl ?_
            refine ex_iload_n hX dX7_canGo_73 rfl rfl ?_
            refine ex_imul hX dX7_canGo_74 ?_
            refine ex_iload hX dX7_canGo_75 rfl ?_
            refine ex_iadd hX dX7_canGo_77 ?_
            obtain ⟨q9, w⟩ := w
            refine ex_iald hX rfl q9 dX7_canGo_78 ?_
            rw [show (if x3 = 1 then (-(h.1 109 (Int32.toNatClampNeg ((9 * x1) + v3))) : Int32) else h.1 109 (Int32.toNatClampNeg ((9 * x1) + v3))) = h.1 109 (Int32.toNatClampNeg ((9 * x1) + v3)) from if_neg c8] at kc8
            exact ex_forget [none, none, none, none, some (.int x4), none, none] ⟨rfl, trivial⟩ kc8
          · replace w := wbc8 c8
            refine ex_aload_n hX dX7_canGo_51 rfl rfl ?_
            refine ex_get hX (.ref 109) FL_7_57 rfl (fun _ => rfl) dX7_canGo_52 ?_
            refine ex_bipush (v := 9) hX dX7_canGo_55 rfl ?_
            refine ex_iload_n hX dX7_canGo_57 rfl rfl ?_
            refine ex_imul hX dX7_canGo_58 ?_
            refine ex_iload hX dX7_canGo_59 rfl ?_
            refine ex_iadd hX dX7_canGo_61 ?_
            obtain ⟨q10, w⟩ := w
            refine ex_iald hX rfl q10 dX7_canGo_62 ?_
            refine ex_ineg hX dX7_canGo_63 ?_
            refine ex_goto hX 79 dX7_canGo_64 (by decide) ?_
            rw [show (if x3 = 1 then (-(h.1 109 (Int32.toNatClampNeg ((9 * x1) + v3))) : Int32) else h.1 109 (Int32.toNatClampNeg ((9 * x1) + v3))) = -(h.1 109 (Int32.toNatClampNeg ((9 * x1) + v3))) from if_pos c8] at kc8
            exact ex_forget [none, none, none, none, some (.int x4), none, none] ⟨rfl, trivial⟩ kc8
        · replace w := w.2 c7
          refine ex_iconst (v := 0) hX dX7_canGo_44 rfl ?_
          exact ex_iret hX dX7_canGo_45 rfl w
    refine ex_icmpne hX 15 dX7_canGo_8 (by decide) (fun c2 => ?_) (fun c2 => ?_)
    · refine ex_iload_n hX dX7_canGo_15 rfl rfl ?_
      refine ex_iconst (v := 1) hX dX7_canGo_16 rfl ?_
      refine ex_isub hX dX7_canGo_17 ?_
      rw [show (if x3 = 1 then (x2 : Int32) else x2 - 1) = x2 - 1 from if_neg c2] at kc2
      exact ex_forget [some (.ref 94), some (.int x1), none, some (.int x3), some (.int x4), none, none] ⟨rfl, ⟨rfl, ⟨rfl, ⟨rfl, trivial⟩⟩⟩⟩ kc2
    · refine ex_iload_n hX dX7_canGo_11 rfl rfl ?_
      refine ex_goto hX 18 dX7_canGo_12 (by decide) ?_
      rw [show (if x3 = 1 then (x2 : Int32) else x2 - 1) = x2 from if_pos c2] at kc2
      exact ex_forget [some (.ref 94), some (.int x1), none, some (.int x3), some (.int x4), none, none] ⟨rfl, ⟨rfl, ⟨rfl, ⟨rfl, trivial⟩⟩⟩⟩ kc2
  · replace w := w.2 c1
    refine ex_iconst (v := 1) hX dX7_canGo_4 rfl ?_
    exact ex_iret hX dX7_canGo_5 rfl w

set_option maxRecDepth 100000 in
set_option maxHeartbeats 4000000 in
theorem sg_X7_byAct_0 {Z : CX × GX} {post : Int32 → AH → Prop} {h : AH} {x1 : Int32} {x2 : Int32} {x3 : Int32} {x4 : Int32} (hX : OK Z RX7 cX7_byAct 7 (some .int) 3 72) 
    (w : (∃ PP : Int32 → AH → Prop, CI yX7_canGo cX7_canGo 7 (some .boolean) 2 46 [.ref 94, .int x1, .int x2, .int x3, .int x4] h PP ∧ ∀ (r : Int32) (u : AH), PP r u → EX Z 7 (QI Z post) 9 u [some (.ref 94), some (.int x1), some (.int x2), some (.int x3), none, none, none] (.int r :: [])))
    : EX Z 7 (QI Z post) 0 h [some (.ref 94), some (.int x1), some (.int x2), some (.int x3), some (.int x4), none, none] [] := by
  refine ex_aload_n hX dX7_byAct_0 rfl rfl ?_
  refine ex_iload_n hX dX7_byAct_1 rfl rfl ?_
  refine ex_iload_n hX dX7_byAct_2 rfl rfl ?_
  refine ex_iload_n hX dX7_byAct_3 rfl rfl ?_
  refine ex_iload hX dX7_byAct_4 rfl ?_
  obtain ⟨PP, pM, pK⟩ := w
  exact ex_callIv (ci := 7) (i := 94) (As := [.int x1, .int x2, .int x3, .int x4]) (st := []) hX pM CS_7_257 MS_X7_canGo rfl rfl rfl (by decide) rfl (Nat.le_of_ble_eq_true rfl) dX7_byAct_6 (fun r u hp => ex_forget [some (.ref 94), some (.int x1), some (.int x2), some (.int x3), none, none, none] ⟨rfl, ⟨rfl, ⟨rfl, ⟨rfl, trivial⟩⟩⟩⟩ (pK r u hp))

set_option maxRecDepth 100000 in
set_option maxHeartbeats 4000000 in
theorem sg_X7_byAct_9 {Z : CX × GX} {post : Int32 → AH → Prop} {h : AH} {x1 : Int32} {x2 : Int32} {x3 : Int32} {s0 : Int32} (hX : OK Z RX7 cX7_byAct 7 (some .int) 3 72) 
    (w : ((¬ s0 = 0 → (∀ v4 : Int32, v4 = (if x3 = 1 then (x2 + 1 : Int32) else (if x3 = 2 then (x2 - 1 : Int32) else x2)) → (vp_in ((10 * (x1 + 1)) + v4) 1010) ∧ (∀ v6 : Int32, v6 = h.1 111 (Int32.toNatClampNeg ((10 * (x1 + 1)) + v4)) → ((v6 < 9999999 → ((¬ x3 = 1 → ((x3 = 2 → (vp_in (x2 - 1) 20) ∧ True) ∧ True)) ∧ (x3 = 1 → (vp_in x2 20) ∧ True) ∧ (∀ v12 : Int32, v12 = (if x3 = 1 then (h.1 103 (Int32.toNatClampNeg x2) : Int32) else (if x3 = 2 then (-(h.1 103 (Int32.toNatClampNeg (x2 - 1))) : Int32) else 0)) → post (v6 + v12) h))) ∧ (¬ v6 < 9999999 → post 9999999 h))))) ∧ (s0 = 0 → post 9999999 h)))
    : EX Z 7 (QI Z post) 9 h [some (.ref 94), some (.int x1), some (.int x2), some (.int x3), none, none, none] [.int s0] := by
  refine ex_ifne hX 16 dX7_byAct_9 (by decide) (fun c1 => ?_) (fun c1 => ?_)
  · replace w := w.1 c1
    refine ex_iload_n hX dX7_byAct_16 rfl rfl ?_
    refine ex_iconst (v := 1) hX dX7_byAct_17 rfl ?_
    have kc2 : EX Z 7 (QI Z post) 39 h [some (.ref 94), some (.int x1), some (.int x2), some (.int x3), none, none, none] [.int (if x3 = 1 then (x2 + 1 : Int32) else (if x3 = 2 then (x2 - 1 : Int32) else x2))] := by
      refine ex_nameI (fun v4 ev4 => ?_)
      replace w := w v4 ev4
      refine ex_istore (lv' := [some (.ref 94), some (.int x1), some (.int x2), some (.int x3), none, some (.int v4), none]) hX dX7_byAct_39 (by decide) rfl ?_
      refine ex_aload_n hX dX7_byAct_41 rfl rfl ?_
      refine ex_get hX (.ref 111) FL_7_63 rfl (fun _ => rfl) dX7_byAct_42 ?_
      refine ex_bipush (v := 10) hX dX7_byAct_45 rfl ?_
      refine ex_iload_n hX dX7_byAct_47 rfl rfl ?_
      refine ex_iconst (v := 1) hX dX7_byAct_48 rfl ?_
      refine ex_iadd hX dX7_byAct_49 ?_
      refine ex_imul hX dX7_byAct_50 ?_
      refine ex_iload hX dX7_byAct_51 rfl ?_
      refine ex_iadd hX dX7_byAct_53 ?_
      obtain ⟨q5, w⟩ := w
      refine ex_iald hX rfl q5 dX7_byAct_54 ?_
      refine ex_nameI (fun v6 ev6 => ?_)
      replace w := w v6 ev6
      refine ex_istore (lv' := [some (.ref 94), some (.int x1), some (.int x2), some (.int x3), none, some (.int v4), some (.int v6)]) hX dX7_byAct_55 (by decide) rfl ?_
      refine ex_iload hX dX7_byAct_57 rfl ?_
      refine ex_ldcw hX dX7_byAct_59 KC_7_261 ?_
      refine ex_icmplt hX 71 dX7_byAct_62 (by decide) (fun c7 => ?_) (fun c7 => ?_)
      · replace w := w.1 c7
        refine ex_iload hX dX7_byAct_71 rfl ?_
        refine ex_iload_n hX dX7_byAct_73 rfl rfl ?_
        refine ex_iconst (v := 1) hX dX7_byAct_74 rfl ?_
        obtain ⟨wac8, wbc8, w⟩ := w
        have kc8 : EX Z 7 (QI Z post) 105 h [none, none, none, none, none, none, none] [.int (if x3 = 1 then (h.1 103 (Int32.toNatClampNeg x2) : Int32) else (if x3 = 2 then (-(h.1 103 (Int32.toNatClampNeg (x2 - 1))) : Int32) else 0)), .int v6] := by
          refine ex_nameI (fun v12 ev12 => ?_)
          replace w := w v12 ev12
          refine ex_iadd hX dX7_byAct_105 ?_
          exact ex_iret hX dX7_byAct_106 rfl w
        refine ex_icmpne hX 87 dX7_byAct_75 (by decide) (fun c8 => ?_) (fun c8 => ?_)
        · replace w := wac8 c8
          refine ex_iload_n hX dX7_byAct_87 rfl rfl ?_
          refine ex_iconst (v := 2) hX dX7_byAct_88 rfl ?_
          obtain ⟨wbc9, w⟩ := w
          have kc9 : EX Z 7 (QI Z post) 105 h [none, none, none, none, none, none, none] [.int (if x3 = 2 then (-(h.1 103 (Int32.toNatClampNeg (x2 - 1))) : Int32) else 0), .int v6] := by
            rw [show (if x3 = 1 then (h.1 103 (Int32.toNatClampNeg x2) : Int32) else (if x3 = 2 then (-(h.1 103 (Int32.toNatClampNeg (x2 - 1))) : Int32) else 0)) = (if x3 = 2 then (-(h.1 103 (Int32.toNatClampNeg (x2 - 1))) : Int32) else 0) from if_neg c8] at kc8
            exact ex_forget [none, none, none, none, none, none, none] trivial kc8
          refine ex_icmpne hX 104 dX7_byAct_89 (by decide) (fun c9 => ?_) (fun c9 => ?_)
          · refine ex_iconst (v := 0) hX dX7_byAct_104 rfl ?_
            rw [show (if x3 = 2 then (-(h.1 103 (Int32.toNatClampNeg (x2 - 1))) : Int32) else 0) = 0 from if_neg c9] at kc9
            exact ex_forget [none, none, none, none, none, none, none] trivial kc9
          · replace w := wbc9 c9
            refine ex_aload_n hX dX7_byAct_92 rfl rfl ?_
            refine ex_get hX (.ref 103) FL_7_35 rfl (fun _ => rfl) dX7_byAct_93 ?_
            refine ex_iload_n hX dX7_byAct_96 rfl rfl ?_
            refine ex_iconst (v := 1) hX dX7_byAct_97 rfl ?_
            refine ex_isub hX dX7_byAct_98 ?_
            obtain ⟨q10, w⟩ := w
            refine ex_iald hX rfl q10 dX7_byAct_99 ?_
            refine ex_ineg hX dX7_byAct_100 ?_
            refine ex_goto hX 105 dX7_byAct_101 (by decide) ?_
            rw [show (if x3 = 2 then (-(h.1 103 (Int32.toNatClampNeg (x2 - 1))) : Int32) else 0) = -(h.1 103 (Int32.toNatClampNeg (x2 - 1))) from if_pos c9] at kc9
            exact ex_forget [none, none, none, none, none, none, none] trivial kc9
        · replace w := wbc8 c8
          refine ex_aload_n hX dX7_byAct_78 rfl rfl ?_
          refine ex_get hX (.ref 103) FL_7_35 rfl (fun _ => rfl) dX7_byAct_79 ?_
          refine ex_iload_n hX dX7_byAct_82 rfl rfl ?_
          obtain ⟨q11, w⟩ := w
          refine ex_iald hX rfl q11 dX7_byAct_83 ?_
          refine ex_goto hX 105 dX7_byAct_84 (by decide) ?_
          rw [show (if x3 = 1 then (h.1 103 (Int32.toNatClampNeg x2) : Int32) else (if x3 = 2 then (-(h.1 103 (Int32.toNatClampNeg (x2 - 1))) : Int32) else 0)) = h.1 103 (Int32.toNatClampNeg x2) from if_pos c8] at kc8
          exact ex_forget [none, none, none, none, none, none, none] trivial kc8
      · replace w := w.2 c7
        refine ex_ldcw hX dX7_byAct_65 KC_7_261 ?_
        refine ex_goto hX 106 dX7_byAct_68 (by decide) ?_
        exact ex_iret hX dX7_byAct_106 rfl w
    refine ex_icmpne hX 27 dX7_byAct_18 (by decide) (fun c2 => ?_) (fun c2 => ?_)
    · refine ex_iload_n hX dX7_byAct_27 rfl rfl ?_
      refine ex_iconst (v := 2) hX dX7_byAct_28 rfl ?_
      have kc3 : EX Z 7 (QI Z post) 39 h [some (.ref 94), some (.int x1), some (.int x2), some (.int x3), none, none, none] [.int (if x3 = 2 then (x2 - 1 : Int32) else x2)] := by
        rw [show (if x3 = 1 then (x2 + 1 : Int32) else (if x3 = 2 then (x2 - 1 : Int32) else x2)) = (if x3 = 2 then (x2 - 1 : Int32) else x2) from if_neg c2] at kc2
        exact ex_forget [some (.ref 94), some (.int x1), some (.int x2), some (.int x3), none, none, none] ⟨rfl, ⟨rfl, ⟨rfl, ⟨rfl, trivial⟩⟩⟩⟩ kc2
      refine ex_icmpne hX 38 dX7_byAct_29 (by decide) (fun c3 => ?_) (fun c3 => ?_)
      · refine ex_iload_n hX dX7_byAct_38 rfl rfl ?_
        rw [show (if x3 = 2 then (x2 - 1 : Int32) else x2) = x2 from if_neg c3] at kc3
        exact ex_forget [some (.ref 94), some (.int x1), some (.int x2), some (.int x3), none, none, none] ⟨rfl, ⟨rfl, ⟨rfl, ⟨rfl, trivial⟩⟩⟩⟩ kc3
      · refine ex_iload_n hX dX7_byAct_32 rfl rfl ?_
        refine ex_iconst (v := 1) hX dX7_byAct_33 rfl ?_
        refine ex_isub hX dX7_byAct_34 ?_
        refine ex_goto hX 39 dX7_byAct_35 (by decide) ?_
        rw [show (if x3 = 2 then (x2 - 1 : Int32) else x2) = x2 - 1 from if_pos c3] at kc3
        exact ex_forget [some (.ref 94), some (.int x1), some (.int x2), some (.int x3), none, none, none] ⟨rfl, ⟨rfl, ⟨rfl, ⟨rfl, trivial⟩⟩⟩⟩ kc3
    · refine ex_iload_n hX dX7_byAct_21 rfl rfl ?_
      refine ex_iconst (v := 1) hX dX7_byAct_22 rfl ?_
      refine ex_iadd hX dX7_byAct_23 ?_
      refine ex_goto hX 39 dX7_byAct_24 (by decide) ?_
      rw [show (if x3 = 1 then (x2 + 1 : Int32) else (if x3 = 2 then (x2 - 1 : Int32) else x2)) = x2 + 1 from if_pos c2] at kc2
      exact ex_forget [some (.ref 94), some (.int x1), some (.int x2), some (.int x3), none, none, none] ⟨rfl, ⟨rfl, ⟨rfl, ⟨rfl, trivial⟩⟩⟩⟩ kc2
  · replace w := w.2 c1
    refine ex_ldcw hX dX7_byAct_12 KC_7_261 ?_
    exact ex_iret hX dX7_byAct_15 rfl w

set_option maxRecDepth 100000 in
set_option maxHeartbeats 4000000 in
theorem sg_X7_findRest_0 {Z : CX × GX} {post : Int32 → AH → Prop} {h : AH} {x1 : Int32} {x2 : Int32} {x3 : Int32} (hX : OK Z RX7 cX7_findRest 8 (some .int) 4 98) 
    (w : EX Z 8 (QI Z post) 3 h [some (.ref 94), some (.int x1), some (.int x2), some (.int x3), some (.int 0), none, none, none] [])
    : EX Z 8 (QI Z post) 0 h [some (.ref 94), some (.int x1), some (.int x2), some (.int x3), none, none, none, none] [] := by
  refine ex_iconst (v := 0) hX dX7_findRest_0 rfl ?_
  refine ex_istore (lv' := [some (.ref 94), some (.int x1), some (.int x2), some (.int x3), some (.int 0), none, none, none]) hX dX7_findRest_1 (by decide) rfl ?_
  exact w

set_option maxRecDepth 100000 in
set_option maxHeartbeats 4000000 in
theorem sg_X7_findRest_3 {Z : CX × GX} {post : Int32 → AH → Prop} {h : AH} {x1 : Int32} {x2 : Int32} {x3 : Int32} {x4 : Int32} (hX : OK Z RX7 cX7_findRest 8 (some .int) 4 98) 
    (w : (((h.1 94 9) ≤ x4 → EX Z 8 (QI Z post) 48 h [some (.ref 94), none, some (.int x2), some (.int x3), some (.int (x2 - 1)), none, none, none] []) ∧ (¬ (h.1 94 9) ≤ x4 → (∀ v3 : Int32, v3 = (if x4 = x1 then (0 : Int32) else 9999999) → (vp_in ((10 * x2) + x4) 1010) ∧ (∀ u5 : AH, u5 = (hset h.1 111 (Int32.toNatClampNeg ((10 * x2) + x4)) v3, h.2) → EX Z 8 (QI Z post) 3 u5 [some (.ref 94), some (.int x1), some (.int x2), some (.int x3), some (.int (x4 + 1)), none, none, none] [])))))
    : EX Z 8 (QI Z post) 3 h [some (.ref 94), some (.int x1), some (.int x2), some (.int x3), some (.int x4), none, none, none] [] := by
  refine ex_iload hX dX7_findRest_3 rfl ?_
  refine ex_aload_n hX dX7_findRest_5 rfl rfl ?_
  refine ex_get hX (.int (h.1 94 9)) FL_7_161 rfl (fun _ => rfl) dX7_findRest_6 ?_
  refine ex_icmpge hX 43 dX7_findRest_9 (by decide) (fun c1 => ?_) (fun c1 => ?_)
  · replace w := w.1 c1
    refine ex_iload_n hX dX7_findRest_43 rfl rfl ?_
    refine ex_iconst (v := 1) hX dX7_findRest_44 rfl ?_
    refine ex_isub hX dX7_findRest_45 ?_
    refine ex_istore (lv' := [some (.ref 94), some (.int x1), some (.int x2), some (.int x3), some (.int (x2 - 1)), none, none, none]) hX dX7_findRest_46 (by decide) rfl ?_
    exact ex_forget [some (.ref 94), none, some (.int x2), some (.int x3), some (.int (x2 - 1)), none, none, none] ⟨rfl, ⟨rfl, ⟨rfl, ⟨rfl, trivial⟩⟩⟩⟩ w
  · replace w := w.2 c1
    refine ex_aload_n hX dX7_findRest_12 rfl rfl ?_
    refine ex_get hX (.ref 111) FL_7_63 rfl (fun _ => rfl) dX7_findRest_13 ?_
    refine ex_bipush (v := 10) hX dX7_findRest_16 rfl ?_
    refine ex_iload_n hX dX7_findRest_18 rfl rfl ?_
    refine ex_imul hX dX7_findRest_19 ?_
    refine ex_iload hX dX7_findRest_20 rfl ?_
    refine ex_iadd hX dX7_findRest_22 ?_
    refine ex_iload hX dX7_findRest_23 rfl ?_
    refine ex_iload_n hX dX7_findRest_25 rfl rfl ?_
    have kc2 : EX Z 8 (QI Z post) 36 h [some (.ref 94), some (.int x1), some (.int x2), some (.int x3), some (.int x4), none, none, none] [.int (if x4 = x1 then (0 : Int32) else 9999999), .int ((10 * x2) + x4), .ref 111] := by
      refine ex_nameI (fun v3 ev3 => ?_)
      replace w := w v3 ev3
      obtain ⟨q4, w⟩ := w
      refine ex_iast hX rfl q4 dX7_findRest_36 ?_
      refine ex_nameH (fun u5 eu5 => ?_)
      replace w := w u5 eu5
      refine ex_iinc (v := x4 + 1) (lv' := [some (.ref 94), some (.int x1), some (.int x2), some (.int x3), some (.int (x4 + 1)), none, none, none]) hX dX7_findRest_37 rfl rfl (by decide) rfl ?_
      refine ex_goto hX 3 dX7_findRest_40 (by decide) ?_
      exact w
    refine ex_icmpne hX 33 dX7_findRest_26 (by decide) (fun c2 => ?_) (fun c2 => ?_)
    · refine ex_ldcw hX dX7_findRest_33 KC_7_261 ?_
      rw [show (if x4 = x1 then (0 : Int32) else 9999999) = 9999999 from if_neg c2] at kc2
      exact ex_forget [some (.ref 94), some (.int x1), some (.int x2), some (.int x3), some (.int x4), none, none, none] ⟨rfl, ⟨rfl, ⟨rfl, ⟨rfl, ⟨rfl, trivial⟩⟩⟩⟩⟩ kc2
    · refine ex_iconst (v := 0) hX dX7_findRest_29 rfl ?_
      refine ex_goto hX 36 dX7_findRest_30 (by decide) ?_
      rw [show (if x4 = x1 then (0 : Int32) else 9999999) = 0 from if_pos c2] at kc2
      exact ex_forget [some (.ref 94), some (.int x1), some (.int x2), some (.int x3), some (.int x4), none, none, none] ⟨rfl, ⟨rfl, ⟨rfl, ⟨rfl, ⟨rfl, trivial⟩⟩⟩⟩⟩ kc2

set_option maxRecDepth 100000 in
set_option maxHeartbeats 4000000 in
theorem sg_X7_findRest_48 {Z : CX × GX} {post : Int32 → AH → Prop} {h : AH} {x2 : Int32} {x3 : Int32} {x4 : Int32} (hX : OK Z RX7 cX7_findRest 8 (some .int) 4 98) 
    (w : ((x4 < 0 → post x2 h) ∧ (¬ x4 < 0 → EX Z 8 (QI Z post) 56 h [some (.ref 94), none, some (.int x2), some (.int x3), some (.int x4), some (.int 0), none, none] [])))
    : EX Z 8 (QI Z post) 48 h [some (.ref 94), none, some (.int x2), some (.int x3), some (.int x4), none, none, none] [] := by
  refine ex_iload hX dX7_findRest_48 rfl ?_
  refine ex_iflt hX 130 dX7_findRest_50 (by decide) (fun c1 => ?_) (fun c1 => ?_)
  · replace w := w.1 c1
    refine ex_iload_n hX dX7_findRest_130 rfl rfl ?_
    exact ex_iret hX dX7_findRest_131 rfl w
  · replace w := w.2 c1
    refine ex_iconst (v := 0) hX dX7_findRest_53 rfl ?_
    refine ex_istore (lv' := [some (.ref 94), none, some (.int x2), some (.int x3), some (.int x4), some (.int 0), none, none]) hX dX7_findRest_54 (by decide) rfl ?_
    exact w

set_option maxRecDepth 100000 in
set_option maxHeartbeats 4000000 in
theorem sg_X7_findRest_56 {Z : CX × GX} {post : Int32 → AH → Prop} {h : AH} {x2 : Int32} {x3 : Int32} {x4 : Int32} {x5 : Int32} (hX : OK Z RX7 cX7_findRest 8 (some .int) 4 98) 
    (w : (((h.1 94 9) ≤ x5 → EX Z 8 (QI Z post) 48 h [some (.ref 94), none, some (.int x2), some (.int x3), some (.int (x4 + (-1))), none, none, none] []) ∧ (¬ (h.1 94 9) ≤ x5 → EX Z 8 (QI Z post) 73 h [some (.ref 94), none, some (.int x2), some (.int x3), some (.int x4), some (.int x5), some (.int 9999999), some (.int 0)] [])))
    : EX Z 8 (QI Z post) 56 h [some (.ref 94), none, some (.int x2), some (.int x3), some (.int x4), some (.int x5), none, none] [] := by
  refine ex_iload hX dX7_findRest_56 rfl ?_
  refine ex_aload_n hX dX7_findRest_58 rfl rfl ?_
  refine ex_get hX (.int (h.1 94 9)) FL_7_161 rfl (fun _ => rfl) dX7_findRest_59 ?_
  refine ex_icmpge hX 124 dX7_findRest_62 (by decide) (fun c1 => ?_) (fun c1 => ?_)
  · replace w := w.1 c1
    refine ex_iinc (v := x4 + (-1)) (lv' := [some (.ref 94), none, some (.int x2), some (.int x3), some (.int (x4 + (-1))), some (.int x5), none, none]) hX dX7_findRest_124 rfl rfl (by decide) rfl ?_
    refine ex_goto hX 48 dX7_findRest_127 (by decide) ?_
    exact ex_forget [some (.ref 94), none, some (.int x2), some (.int x3), some (.int (x4 + (-1))), none, none, none] ⟨rfl, ⟨rfl, ⟨rfl, ⟨rfl, trivial⟩⟩⟩⟩ w
  · replace w := w.2 c1
    refine ex_ldcw hX dX7_findRest_65 KC_7_261 ?_
    refine ex_istore (lv' := [some (.ref 94), none, some (.int x2), some (.int x3), some (.int x4), some (.int x5), some (.int 9999999), none]) hX dX7_findRest_68 (by decide) rfl ?_
    refine ex_iconst (v := 0) hX dX7_findRest_70 rfl ?_
    refine ex_istore (lv' := [some (.ref 94), none, some (.int x2), some (.int x3), some (.int x4), some (.int x5), some (.int 9999999), some (.int 0)]) hX dX7_findRest_71 (by decide) rfl ?_
    exact w

set_option maxRecDepth 100000 in
set_option maxHeartbeats 4000000 in
theorem sg_X7_findRest_73 {Z : CX × GX} {post : Int32 → AH → Prop} {h : AH} {x2 : Int32} {x3 : Int32} {x4 : Int32} {x5 : Int32} {x6 : Int32} {x7 : Int32} (hX : OK Z RX7 cX7_findRest 8 (some .int) 4 98) 
    (w : ((3 ≤ x7 → (vp_in ((10 * x4) + x5) 1010) ∧ (∀ u3 : AH, u3 = (hset h.1 111 (Int32.toNatClampNeg ((10 * x4) + x5)) x6, h.2) → EX Z 8 (QI Z post) 56 u3 [some (.ref 94), none, some (.int x2), some (.int x3), some (.int x4), some (.int (x5 + 1)), none, none] [])) ∧ (¬ 3 ≤ x7 → (∃ PP : Int32 → AH → Prop, CI yX7_byAct cX7_byAct 7 (some .int) 3 72 [.ref 94, .int x4, .int x5, .int x7, .int x3] h PP ∧ ∀ (r : Int32) (u : AH), PP r u → EX Z 8 (QI Z post) 92 u [some (.ref 94), none, some (.int x2), some (.int x3), some (.int x4), some (.int x5), none, some (.int x7)] (.int r :: [.int x6])))))
    : EX Z 8 (QI Z post) 73 h [some (.ref 94), none, some (.int x2), some (.int x3), some (.int x4), some (.int x5), some (.int x6), some (.int x7)] [] := by
  refine ex_iload hX dX7_findRest_73 rfl ?_
  refine ex_iconst (v := 3) hX dX7_findRest_75 rfl ?_
  refine ex_icmpge hX 103 dX7_findRest_76 (by decide) (fun c1 => ?_) (fun c1 => ?_)
  · replace w := w.1 c1
    refine ex_aload_n hX dX7_findRest_103 rfl rfl ?_
    refine ex_get hX (.ref 111) FL_7_63 rfl (fun _ => rfl) dX7_findRest_104 ?_
    refine ex_bipush (v := 10) hX dX7_findRest_107 rfl ?_
    refine ex_iload hX dX7_findRest_109 rfl ?_
    refine ex_imul hX dX7_findRest_111 ?_
    refine ex_iload hX dX7_findRest_112 rfl ?_
    refine ex_iadd hX dX7_findRest_114 ?_
    refine ex_iload hX dX7_findRest_115 rfl ?_
    obtain ⟨q2, w⟩ := w
    refine ex_iast hX rfl q2 dX7_findRest_117 ?_
    refine ex_nameH (fun u3 eu3 => ?_)
    replace w := w u3 eu3
    refine ex_iinc (v := x5 + 1) (lv' := [some (.ref 94), none, some (.int x2), some (.int x3), some (.int x4), some (.int (x5 + 1)), some (.int x6), some (.int x7)]) hX dX7_findRest_118 rfl rfl (by decide) rfl ?_
    refine ex_goto hX 56 dX7_findRest_121 (by decide) ?_
    exact ex_forget [some (.ref 94), none, some (.int x2), some (.int x3), some (.int x4), some (.int (x5 + 1)), none, none] ⟨rfl, ⟨rfl, ⟨rfl, ⟨rfl, ⟨rfl, trivial⟩⟩⟩⟩⟩ w
  · replace w := w.2 c1
    refine ex_iload hX dX7_findRest_79 rfl ?_
    refine ex_aload_n hX dX7_findRest_81 rfl rfl ?_
    refine ex_iload hX dX7_findRest_82 rfl ?_
    refine ex_iload hX dX7_findRest_84 rfl ?_
    refine ex_iload hX dX7_findRest_86 rfl ?_
    refine ex_iload_n hX dX7_findRest_88 rfl rfl ?_
    obtain ⟨PP, pM, pK⟩ := w
    exact ex_callIv (ci := 7) (i := 94) (As := [.int x4, .int x5, .int x7, .int x3]) (st := [.int x6]) hX pM CS_7_262 MS_X7_byAct rfl rfl rfl (by decide) rfl (Nat.le_of_ble_eq_true rfl) dX7_findRest_89 (fun r u hp => ex_forget [some (.ref 94), none, some (.int x2), some (.int x3), some (.int x4), some (.int x5), none, some (.int x7)] ⟨rfl, ⟨rfl, ⟨rfl, ⟨rfl, ⟨rfl, ⟨rfl, trivial⟩⟩⟩⟩⟩⟩ (pK r u hp))

set_option maxRecDepth 100000 in
set_option maxHeartbeats 4000000 in
theorem sg_X7_findRest_92 {Z : CX × GX} {post : Int32 → AH → Prop} {h : AH} {x2 : Int32} {x3 : Int32} {x4 : Int32} {x5 : Int32} {x7 : Int32} {s0 : Int32} {s1 : Int32} (hX : OK Z RX7 cX7_findRest 8 (some .int) 4 98) 
    (w : EX Z 8 (QI Z post) 73 h [some (.ref 94), none, some (.int x2), some (.int x3), some (.int x4), some (.int x5), some (.int (minS s1 s0)), some (.int (x7 + 1))] [])
    : EX Z 8 (QI Z post) 92 h [some (.ref 94), none, some (.int x2), some (.int x3), some (.int x4), some (.int x5), none, some (.int x7)] [.int s0, .int s1] := by
  refine ex_pIs (As := [.int s1, .int s0]) (st := []) hX (c_X7_least (h := h)) CS_7_202 MS_X7_least rfl (by decide) rfl (Nat.le_of_ble_eq_true rfl) dX7_findRest_92 ?_
  refine ex_istore (lv' := [some (.ref 94), none, some (.int x2), some (.int x3), some (.int x4), some (.int x5), some (.int (minS s1 s0)), some (.int x7)]) hX dX7_findRest_95 (by decide) rfl ?_
  refine ex_iinc (v := x7 + 1) (lv' := [some (.ref 94), none, some (.int x2), some (.int x3), some (.int x4), some (.int x5), some (.int (minS s1 s0)), some (.int (x7 + 1))]) hX dX7_findRest_97 rfl rfl (by decide) rfl ?_
  refine ex_goto hX 73 dX7_findRest_100 (by decide) ?_
  exact w

set_option maxRecDepth 100000 in
set_option maxHeartbeats 4000000 in
theorem sg_X7_boat_0 {Z : CX × GX} {post : Int32 → AH → Prop} {h : AH} {x1 : Int32} {x2 : Int32} {x3 : Int32} {x4 : Int32} (hX : OK Z RX7 cX7_boat 9 (some .int) 5 125) 
    (w : ((¬ (0 ≤ x1 ∧ x1 ≤ h.1 94 9 - 1) → post (-100000001) h) ∧ ((0 ≤ x1 ∧ x1 ≤ h.1 94 9 - 1) → (((0 ≤ x2 ∧ x2 ≤ h.1 94 9 - 1) → (((0 ≤ (Int32.toInt64 x3) ∧ (Int32.toInt64 x3) ≤ 999) → (∃ PP : AH → Prop, CV yX7_tryHours cX7_tryHours 6 4 93 [.ref 94, .int 100, .int 0, .int 0] h PP ∧ ∀ u : AH, PP u → EX Z 9 (QI Z post) 42 u [some (.ref 94), some (.int x1), some (.int x2), some (.int x3), some (.int x4), none, none, none, none] [])) ∧ (¬ (0 ≤ (Int32.toInt64 x3) ∧ (Int32.toInt64 x3) ≤ 999) → post (-100000002) h))) ∧ (¬ (0 ≤ x2 ∧ x2 ≤ h.1 94 9 - 1) → post (-100000001) h)))))
    : EX Z 9 (QI Z post) 0 h [some (.ref 94), some (.int x1), some (.int x2), some (.int x3), some (.int x4), none, none, none, none] [] := by
  refine ex_aload_n hX dX7_boat_0 rfl rfl ?_
  refine ex_iload_n hX dX7_boat_1 rfl rfl ?_
  refine ex_pIv (ci := 7) (i := 94) (As := [.int x1]) (st := []) hX (c_X7_isNode (h := h)) CS_7_181 MS_X7_isNode rfl rfl rfl (by decide) rfl (Nat.le_of_ble_eq_true rfl) dX7_boat_2 ?_
  refine ex_ifeqB hX 16 dX7_boat_5 (by decide) (fun c1 => ?_) (fun c1 => ?_)
  · replace w := w.1 c1
    refine ex_ldc hX dX7_boat_16 KC_7_185 ?_
    exact ex_iret hX dX7_boat_18 rfl w
  · replace w := w.2 c1
    refine ex_aload_n hX dX7_boat_8 rfl rfl ?_
    refine ex_iload_n hX dX7_boat_9 rfl rfl ?_
    refine ex_pIv (ci := 7) (i := 94) (As := [.int x2]) (st := []) hX (c_X7_isNode (h := h)) CS_7_181 MS_X7_isNode rfl rfl rfl (by decide) rfl (Nat.le_of_ble_eq_true rfl) dX7_boat_10 ?_
    refine ex_ifneB hX 19 dX7_boat_13 (by decide) (fun c2 => ?_) (fun c2 => ?_)
    · replace w := w.1 c2
      refine ex_iload_n hX dX7_boat_19 rfl rfl ?_
      refine ex_i2l hX dX7_boat_20 ?_
      refine ex_lconst (v := 0) hX dX7_boat_21 rfl ?_
      refine ex_ldc2 hX dX7_boat_22 KL_7_246 ?_
      refine ex_pIs (As := [.long (Int32.toInt64 x3), .long 0, .long 999]) (st := []) hX (c_X7_in (h := h)) CS_7_71 MS_X7_in rfl (by decide) rfl (Nat.le_of_ble_eq_true rfl) dX7_boat_25 ?_
      refine ex_ifneB hX 34 dX7_boat_28 (by decide) (fun c3 => ?_) (fun c3 => ?_)
      · replace w := w.1 c3
        refine ex_aload_n hX dX7_boat_34 rfl rfl ?_
        refine ex_bipush (v := 100) hX dX7_boat_35 rfl ?_
        refine ex_iconst (v := 0) hX dX7_boat_37 rfl ?_
        refine ex_iconst (v := 0) hX dX7_boat_38 rfl ?_
        obtain ⟨PP, pM, pK⟩ := w
        exact ex_callVv (ci := 7) (i := 94) (As := [.int 100, .int 0, .int 0]) (st := []) hX pM CS_7_253 MS_X7_tryHours rfl rfl rfl (by decide) rfl (Nat.le_of_ble_eq_true rfl) dX7_boat_39 (fun u hp => pK u hp)
      · replace w := w.2 c3
        refine ex_ldc hX dX7_boat_31 KC_7_75 ?_
        exact ex_iret hX dX7_boat_33 rfl w
    · replace w := w.2 c2
      refine ex_ldc hX dX7_boat_16 KC_7_185 ?_
      exact ex_iret hX dX7_boat_18 rfl w

set_option maxRecDepth 100000 in
set_option maxHeartbeats 4000000 in
theorem sg_X7_boat_42 {Z : CX × GX} {post : Int32 → AH → Prop} {h : AH} {x1 : Int32} {x2 : Int32} {x3 : Int32} {x4 : Int32} (hX : OK Z RX7 cX7_boat 9 (some .int) 5 125) 
    (w : (∃ PP : Int32 → AH → Prop, CI yX7_findRest cX7_findRest 8 (some .int) 4 98 [.ref 94, .int x2, .int 0, .int x3] h PP ∧ ∀ (r : Int32) (u : AH), PP r u → EX Z 9 (QI Z post) 49 u [some (.ref 94), some (.int x1), some (.int x2), some (.int x3), some (.int x4), none, none, none, none] (.int r :: [])))
    : EX Z 9 (QI Z post) 42 h [some (.ref 94), some (.int x1), some (.int x2), some (.int x3), some (.int x4), none, none, none, none] [] := by
  refine ex_aload_n hX dX7_boat_42 rfl rfl ?_
  refine ex_iload_n hX dX7_boat_43 rfl rfl ?_
  refine ex_iconst (v := 0) hX dX7_boat_44 rfl ?_
  refine ex_iload_n hX dX7_boat_45 rfl rfl ?_
  obtain ⟨PP, pM, pK⟩ := w
  exact ex_callIv (ci := 7) (i := 94) (As := [.int x2, .int 0, .int x3]) (st := []) hX pM CS_7_266 MS_X7_findRest rfl rfl rfl (by decide) rfl (Nat.le_of_ble_eq_true rfl) dX7_boat_46 (fun r u hp => pK r u hp)

set_option maxRecDepth 100000 in
set_option maxHeartbeats 4000000 in
theorem sg_X7_boat_49 {Z : CX × GX} {post : Int32 → AH → Prop} {h : AH} {x1 : Int32} {x2 : Int32} {x3 : Int32} {x4 : Int32} {s0 : Int32} (hX : OK Z RX7 cX7_boat 9 (some .int) 5 125) 
    (w : EX Z 9 (QI Z post) 51 h [some (.ref 94), some (.int x1), some (.int x2), some (.int x3), some (.int x4), some (.int s0), none, none, none] [])
    : EX Z 9 (QI Z post) 49 h [some (.ref 94), some (.int x1), some (.int x2), some (.int x3), some (.int x4), none, none, none, none] [.int s0] := by
  refine ex_istore (lv' := [some (.ref 94), some (.int x1), some (.int x2), some (.int x3), some (.int x4), some (.int s0), none, none, none]) hX dX7_boat_49 (by decide) rfl ?_
  exact w

set_option maxRecDepth 100000 in
set_option maxHeartbeats 4000000 in
theorem sg_X7_boat_51 {Z : CX × GX} {post : Int32 → AH → Prop} {h : AH} {x1 : Int32} {x2 : Int32} {x3 : Int32} {x4 : Int32} {x5 : Int32} (hX : OK Z RX7 cX7_boat 9 (some .int) 5 125) 
    (w : ((100 < x5 → ((x5 ≤ 100 → ((x4 < 0 → ((¬ x4 = (-1) → ((¬ x4 = (-2) → post (-1) h) ∧ (x4 = (-2) → (vp_in x1 1010) ∧ post (h.1 111 (Int32.toNatClampNeg x1)) h))) ∧ (x4 = (-1) → post x5 h))) ∧ (¬ x4 < 0 → ((x4 < x5 → EX Z 9 (QI Z post) 164 h [some (.ref 94), none, none, some (.int x3), some (.int x4), none, some (.int x1), some (.int 0), some (.int 0)] []) ∧ (¬ x4 < x5 → ((¬ x4 = (-1) → ((¬ x4 = (-2) → post (-1) h) ∧ (x4 = (-2) → (vp_in x1 1010) ∧ post (h.1 111 (Int32.toNatClampNeg x1)) h))) ∧ (x4 = (-1) → post x5 h))))))) ∧ (¬ x5 ≤ 100 → ((¬ x4 = (-2) → post (-1) h) ∧ (x4 = (-2) → post (-100000003) h))))) ∧ (¬ 100 < x5 → (vp_in x1 1010) ∧ (((h.1 111 (Int32.toNatClampNeg x1)) < 9999999 → ((x5 ≤ 100 → ((x4 < 0 → ((¬ x4 = (-1) → ((¬ x4 = (-2) → post (-1) h) ∧ (x4 = (-2) → (vp_in x1 1010) ∧ post (h.1 111 (Int32.toNatClampNeg x1)) h))) ∧ (x4 = (-1) → post x5 h))) ∧ (¬ x4 < 0 → ((x4 < x5 → EX Z 9 (QI Z post) 164 h [some (.ref 94), none, none, some (.int x3), some (.int x4), none, some (.int x1), some (.int 0), some (.int 0)] []) ∧ (¬ x4 < x5 → ((¬ x4 = (-1) → ((¬ x4 = (-2) → post (-1) h) ∧ (x4 = (-2) → (vp_in x1 1010) ∧ post (h.1 111 (Int32.toNatClampNeg x1)) h))) ∧ (x4 = (-1) → post x5 h))))))) ∧ (¬ x5 ≤ 100 → ((¬ x4 = (-2) → post (-1) h) ∧ (x4 = (-2) → post (-100000003) h))))) ∧ (¬ (h.1 111 (Int32.toNatClampNeg x1)) < 9999999 → ((100 < (x5 + 1) → EX Z 9 (QI Z post) 51 h [some (.ref 94), some (.int x1), some (.int x2), some (.int x3), some (.int x4), some (.int (x5 + 1)), none, none, none] []) ∧ (¬ 100 < (x5 + 1) → (∃ PP : Int32 → AH → Prop, CI yX7_findRest cX7_findRest 8 (some .int) 4 98 [.ref 94, .int x2, .int (x5 + 1), .int x3] h PP ∧ ∀ (r : Int32) (u : AH), PP r u → EX Z 9 (QI Z post) 88 u [some (.ref 94), some (.int x1), some (.int x2), some (.int x3), some (.int x4), none, none, none, none] (.int r :: [])))))))))
    : EX Z 9 (QI Z post) 51 h [some (.ref 94), some (.int x1), some (.int x2), some (.int x3), some (.int x4), some (.int x5), none, none, none] [] := by
  refine ex_iload hX dX7_boat_51 rfl ?_
  refine ex_bipush (v := 100) hX dX7_boat_53 rfl ?_
  refine ex_icmpgt hX 93 dX7_boat_55 (by decide) (fun c1 => ?_) (fun c1 => ?_)
  · replace w := w.1 c1
    refine ex_iload hX dX7_boat_93 rfl ?_
    refine ex_bipush (v := 100) hX dX7_boat_95 rfl ?_
    refine ex_icmple hX 114 dX7_boat_97 (by decide) (fun c2 => ?_) (fun c2 => ?_)
    · replace w := w.1 c2
      refine ex_iload hX dX7_boat_114 rfl ?_
      refine ex_iflt hX 126 dX7_boat_116 (by decide) (fun c3 => ?_) (fun c3 => ?_)
      · replace w := w.1 c3
        refine ex_iload hX dX7_boat_126 rfl ?_
        refine ex_iconst (v := (-1)) hX dX7_boat_128 rfl ?_
        refine ex_icmpne hX 137 dX7_boat_129 (by decide) (fun c4 => ?_) (fun c4 => ?_)
        · replace w := w.1 c4
          refine ex_iload hX dX7_boat_137 rfl ?_
          refine ex_bipush (v := (-2)) hX dX7_boat_139 rfl ?_
          refine ex_icmpne hX 153 dX7_boat_141 (by decide) (fun c5 => ?_) (fun c5 => ?_)
          · replace w := w.1 c5
            refine ex_iconst (v := (-1)) hX dX7_boat_153 rfl ?_
            exact ex_iret hX dX7_boat_154 rfl w
          · replace w := w.2 c5
            refine ex_aload_n hX dX7_boat_144 rfl rfl ?_
            refine ex_get hX (.ref 111) FL_7_63 rfl (fun _ => rfl) dX7_boat_145 ?_
            refine ex_iload_n hX dX7_boat_148 rfl rfl ?_
            obtain ⟨q6, w⟩ := w
            refine ex_iald hX rfl q6 dX7_boat_149 ?_
            refine ex_goto hX 154 dX7_boat_150 (by decide) ?_
            exact ex_iret hX dX7_boat_154 rfl w
        · replace w := w.2 c4
          refine ex_iload hX dX7_boat_132 rfl ?_
          refine ex_goto hX 154 dX7_boat_134 (by decide) ?_
          exact ex_iret hX dX7_boat_154 rfl w
      · replace w := w.2 c3
        refine ex_iload hX dX7_boat_119 rfl ?_
        refine ex_iload hX dX7_boat_121 rfl ?_
        refine ex_icmplt hX 155 dX7_boat_123 (by decide) (fun c7 => ?_) (fun c7 => ?_)
        · replace w := w.1 c7
          refine ex_iload_n hX dX7_boat_155 rfl rfl ?_
          refine ex_istore (lv' := [some (.ref 94), some (.int x1), some (.int x2), some (.int x3), some (.int x4), some (.int x5), some (.int x1), none, none]) hX dX7_boat_156 (by decide) rfl ?_
          refine ex_iconst (v := 0) hX dX7_boat_158 rfl ?_
          refine ex_istore (lv' := [some (.ref 94), some (.int x1), some (.int x2), some (.int x3), some (.int x4), some (.int x5), some (.int x1), some (.int 0), none]) hX dX7_boat_159 (by decide) rfl ?_
          refine ex_iconst (v := 0) hX dX7_boat_161 rfl ?_
          refine ex_istore (lv' := [some (.ref 94), some (.int x1), some (.int x2), some (.int x3), some (.int x4), some (.int x5), some (.int x1), some (.int 0), some (.int 0)]) hX dX7_boat_162 (by decide) rfl ?_
          exact ex_forget [some (.ref 94), none, none, some (.int x3), some (.int x4), none, some (.int x1), some (.int 0), some (.int 0)] ⟨rfl, ⟨rfl, ⟨rfl, ⟨rfl, ⟨rfl, ⟨rfl, trivial⟩⟩⟩⟩⟩⟩ w
        · replace w := w.2 c7
          refine ex_iload hX dX7_boat_126 rfl ?_
          refine ex_iconst (v := (-1)) hX dX7_boat_128 rfl ?_
          refine ex_icmpne hX 137 dX7_boat_129 (by decide) (fun c8 => ?_) (fun c8 => ?_)
          · replace w := w.1 c8
            refine ex_iload hX dX7_boat_137 rfl ?_
            refine ex_bipush (v := (-2)) hX dX7_boat_139 rfl ?_
            refine ex_icmpne hX 153 dX7_boat_141 (by decide) (fun c9 => ?_) (fun c9 => ?_)
            · replace w := w.1 c9
              refine ex_iconst (v := (-1)) hX dX7_boat_153 rfl ?_
              exact ex_iret hX dX7_boat_154 rfl w
            · replace w := w.2 c9
              refine ex_aload_n hX dX7_boat_144 rfl rfl ?_
              refine ex_get hX (.ref 111) FL_7_63 rfl (fun _ => rfl) dX7_boat_145 ?_
              refine ex_iload_n hX dX7_boat_148 rfl rfl ?_
              obtain ⟨q10, w⟩ := w
              refine ex_iald hX rfl q10 dX7_boat_149 ?_
              refine ex_goto hX 154 dX7_boat_150 (by decide) ?_
              exact ex_iret hX dX7_boat_154 rfl w
          · replace w := w.2 c8
            refine ex_iload hX dX7_boat_132 rfl ?_
            refine ex_goto hX 154 dX7_boat_134 (by decide) ?_
            exact ex_iret hX dX7_boat_154 rfl w
    · replace w := w.2 c2
      refine ex_iload hX dX7_boat_100 rfl ?_
      refine ex_bipush (v := (-2)) hX dX7_boat_102 rfl ?_
      refine ex_icmpne hX 112 dX7_boat_104 (by decide) (fun c11 => ?_) (fun c11 => ?_)
      · replace w := w.1 c11
        refine ex_iconst (v := (-1)) hX dX7_boat_112 rfl ?_
        exact ex_iret hX dX7_boat_113 rfl w
      · replace w := w.2 c11
        refine ex_ldc hX dX7_boat_107 KC_7_170 ?_
        refine ex_goto hX 113 dX7_boat_109 (by decide) ?_
        exact ex_iret hX dX7_boat_113 rfl w
  · replace w := w.2 c1
    refine ex_aload_n hX dX7_boat_58 rfl rfl ?_
    refine ex_get hX (.ref 111) FL_7_63 rfl (fun _ => rfl) dX7_boat_59 ?_
    refine ex_iload_n hX dX7_boat_62 rfl rfl ?_
    obtain ⟨q12, w⟩ := w
    refine ex_iald hX rfl q12 dX7_boat_63 ?_
    refine ex_ldcw hX dX7_boat_64 KC_7_261 ?_
    refine ex_icmplt hX 93 dX7_boat_67 (by decide) (fun c13 => ?_) (fun c13 => ?_)
    · replace w := w.1 c13
      refine ex_iload hX dX7_boat_93 rfl ?_
      refine ex_bipush (v := 100) hX dX7_boat_95 rfl ?_
      refine ex_icmple hX 114 dX7_boat_97 (by decide) (fun c14 => ?_) (fun c14 => ?_)
      · replace w := w.1 c14
        refine ex_iload hX dX7_boat_114 rfl ?_
        refine ex_iflt hX 126 dX7_boat_116 (by decide) (fun c15 => ?_) (fun c15 => ?_)
        · replace w := w.1 c15
          refine ex_iload hX dX7_boat_126 rfl ?_
          refine ex_iconst (v := (-1)) hX dX7_boat_128 rfl ?_
          refine ex_icmpne hX 137 dX7_boat_129 (by decide) (fun c16 => ?_) (fun c16 => ?_)
          · replace w := w.1 c16
            refine ex_iload hX dX7_boat_137 rfl ?_
            refine ex_bipush (v := (-2)) hX dX7_boat_139 rfl ?_
            refine ex_icmpne hX 153 dX7_boat_141 (by decide) (fun c17 => ?_) (fun c17 => ?_)
            · replace w := w.1 c17
              refine ex_iconst (v := (-1)) hX dX7_boat_153 rfl ?_
              exact ex_iret hX dX7_boat_154 rfl w
            · replace w := w.2 c17
              refine ex_aload_n hX dX7_boat_144 rfl rfl ?_
              refine ex_get hX (.ref 111) FL_7_63 rfl (fun _ => rfl) dX7_boat_145 ?_
              refine ex_iload_n hX dX7_boat_148 rfl rfl ?_
              obtain ⟨q18, w⟩ := w
              refine ex_iald hX rfl q18 dX7_boat_149 ?_
              refine ex_goto hX 154 dX7_boat_150 (by decide) ?_
              exact ex_iret hX dX7_boat_154 rfl w
          · replace w := w.2 c16
            refine ex_iload hX dX7_boat_132 rfl ?_
            refine ex_goto hX 154 dX7_boat_134 (by decide) ?_
            exact ex_iret hX dX7_boat_154 rfl w
        · replace w := w.2 c15
          refine ex_iload hX dX7_boat_119 rfl ?_
          refine ex_iload hX dX7_boat_121 rfl ?_
          refine ex_icmplt hX 155 dX7_boat_123 (by decide) (fun c19 => ?_) (fun c19 => ?_)
          · replace w := w.1 c19
            refine ex_iload_n hX dX7_boat_155 rfl rfl ?_
            refine ex_istore (lv' := [some (.ref 94), some (.int x1), some (.int x2), some (.int x3), some (.int x4), some (.int x5), some (.int x1), none, none]) hX dX7_boat_156 (by decide) rfl ?_
            refine ex_iconst (v := 0) hX dX7_boat_158 rfl ?_
            refine ex_istore (lv' := [some (.ref 94), some (.int x1), some (.int x2), some (.int x3), some (.int x4), some (.int x5), some (.int x1), some (.int 0), none]) hX dX7_boat_159 (by decide) rfl ?_
            refine ex_iconst (v := 0) hX dX7_boat_161 rfl ?_
            refine ex_istore (lv' := [some (.ref 94), some (.int x1), some (.int x2), some (.int x3), some (.int x4), some (.int x5), some (.int x1), some (.int 0), some (.int 0)]) hX dX7_boat_162 (by decide) rfl ?_
            exact ex_forget [some (.ref 94), none, none, some (.int x3), some (.int x4), none, some (.int x1), some (.int 0), some (.int 0)] ⟨rfl, ⟨rfl, ⟨rfl, ⟨rfl, ⟨rfl, ⟨rfl, trivial⟩⟩⟩⟩⟩⟩ w
          · replace w := w.2 c19
            refine ex_iload hX dX7_boat_126 rfl ?_
            refine ex_iconst (v := (-1)) hX dX7_boat_128 rfl ?_
            refine ex_icmpne hX 137 dX7_boat_129 (by decide) (fun c20 => ?_) (fun c20 => ?_)
            · replace w := w.1 c20
              refine ex_iload hX dX7_boat_137 rfl ?_
              refine ex_bipush (v := (-2)) hX dX7_boat_139 rfl ?_
              refine ex_icmpne hX 153 dX7_boat_141 (by decide) (fun c21 => ?_) (fun c21 => ?_)
              · replace w := w.1 c21
                refine ex_iconst (v := (-1)) hX dX7_boat_153 rfl ?_
                exact ex_iret hX dX7_boat_154 rfl w
              · replace w := w.2 c21
                refine ex_aload_n hX dX7_boat_144 rfl rfl ?_
                refine ex_get hX (.ref 111) FL_7_63 rfl (fun _ => rfl) dX7_boat_145 ?_
                refine ex_iload_n hX dX7_boat_148 rfl rfl ?_
                obtain ⟨q22, w⟩ := w
                refine ex_iald hX rfl q22 dX7_boat_149 ?_
                refine ex_goto hX 154 dX7_boat_150 (by decide) ?_
                exact ex_iret hX dX7_boat_154 rfl w
            · replace w := w.2 c20
              refine ex_iload hX dX7_boat_132 rfl ?_
              refine ex_goto hX 154 dX7_boat_134 (by decide) ?_
              exact ex_iret hX dX7_boat_154 rfl w
      · replace w := w.2 c14
        refine ex_iload hX dX7_boat_100 rfl ?_
        refine ex_bipush (v := (-2)) hX dX7_boat_102 rfl ?_
        refine ex_icmpne hX 112 dX7_boat_104 (by decide) (fun c23 => ?_) (fun c23 => ?_)
        · replace w := w.1 c23
          refine ex_iconst (v := (-1)) hX dX7_boat_112 rfl ?_
          exact ex_iret hX dX7_boat_113 rfl w
        · replace w := w.2 c23
          refine ex_ldc hX dX7_boat_107 KC_7_170 ?_
          refine ex_goto hX 113 dX7_boat_109 (by decide) ?_
          exact ex_iret hX dX7_boat_113 rfl w
    · replace w := w.2 c13
      refine ex_iinc (v := x5 + 1) (lv' := [some (.ref 94), some (.int x1), some (.int x2), some (.int x3), some (.int x4), some (.int (x5 + 1)), none, none, none]) hX dX7_boat_70 rfl rfl (by decide) rfl ?_
      refine ex_iload hX dX7_boat_73 rfl ?_
      refine ex_bipush (v := 100) hX dX7_boat_75 rfl ?_
      refine ex_icmpgt hX 51 dX7_boat_77 (by decide) (fun c24 => ?_) (fun c24 => ?_)
      · replace w := w.1 c24
        exact w
      · replace w := w.2 c24
        refine ex_aload_n hX dX7_boat_80 rfl rfl ?_
        refine ex_iload_n hX dX7_boat_81 rfl rfl ?_
        refine ex_iload hX dX7_boat_82 rfl ?_
        refine ex_iload_n hX dX7_boat_84 rfl rfl ?_
        obtain ⟨PP, pM, pK⟩ := w
        exact ex_callIv (ci := 7) (i := 94) (As := [.int x2, .int (x5 + 1), .int x3]) (st := []) hX pM CS_7_266 MS_X7_findRest rfl rfl rfl (by decide) rfl (Nat.le_of_ble_eq_true rfl) dX7_boat_85 (fun r u hp => ex_forget [some (.ref 94), some (.int x1), some (.int x2), some (.int x3), some (.int x4), none, none, none, none] ⟨rfl, ⟨rfl, ⟨rfl, ⟨rfl, ⟨rfl, trivial⟩⟩⟩⟩⟩ (pK r u hp))

set_option maxRecDepth 100000 in
set_option maxHeartbeats 4000000 in
theorem sg_X7_boat_88 {Z : CX × GX} {post : Int32 → AH → Prop} {h : AH} {x1 : Int32} {x2 : Int32} {x3 : Int32} {x4 : Int32} {s0 : Int32} (hX : OK Z RX7 cX7_boat 9 (some .int) 5 125) 
    (w : EX Z 9 (QI Z post) 51 h [some (.ref 94), some (.int x1), some (.int x2), some (.int x3), some (.int x4), some (.int s0), none, none, none] [])
    : EX Z 9 (QI Z post) 88 h [some (.ref 94), some (.int x1), some (.int x2), some (.int x3), some (.int x4), none, none, none, none] [.int s0] := by
  refine ex_istore (lv' := [some (.ref 94), some (.int x1), some (.int x2), some (.int x3), some (.int x4), some (.int s0), none, none, none]) hX dX7_boat_88 (by decide) rfl ?_
  refine ex_goto hX 51 dX7_boat_90 (by decide) ?_
  exact w

set_option maxRecDepth 100000 in
set_option maxHeartbeats 4000000 in
theorem sg_X7_boat_164 {Z : CX × GX} {post : Int32 → AH → Prop} {h : AH} {x3 : Int32} {x4 : Int32} {x6 : Int32} {x7 : Int32} {x8 : Int32} (hX : OK Z RX7 cX7_boat 9 (some .int) 5 125) 
    (w : ((x4 < x8 → post x7 h) ∧ (¬ x4 < x8 → EX Z 9 (QI Z post) 174 h [some (.ref 94), none, none, some (.int x3), some (.int x4), none, some (.int x6), some (.int 0), some (.int x8)] [])))
    : EX Z 9 (QI Z post) 164 h [some (.ref 94), none, none, some (.int x3), some (.int x4), none, some (.int x6), some (.int x7), some (.int x8)] [] := by
  refine ex_iload hX dX7_boat_164 rfl ?_
  refine ex_iload hX dX7_boat_166 rfl ?_
  refine ex_icmpgt hX 239 dX7_boat_168 (by decide) (fun c1 => ?_) (fun c1 => ?_)
  · replace w := w.1 c1
    refine ex_iload hX dX7_boat_239 rfl ?_
    exact ex_iret hX dX7_boat_241 rfl w
  · replace w := w.2 c1
    refine ex_iconst (v := 0) hX dX7_boat_171 rfl ?_
    refine ex_istore (lv' := [some (.ref 94), none, none, some (.int x3), some (.int x4), none, some (.int x6), some (.int 0), some (.int x8)]) hX dX7_boat_172 (by decide) rfl ?_
    exact w

set_option maxRecDepth 100000 in
set_option maxHeartbeats 4000000 in
theorem sg_X7_boat_174 {Z : CX × GX} {post : Int32 → AH → Prop} {h : AH} {x3 : Int32} {x4 : Int32} {x6 : Int32} {x7 : Int32} {x8 : Int32} (hX : OK Z RX7 cX7_boat 9 (some .int) 5 125) 
    (w : (∃ PP : Int32 → AH → Prop, CI yX7_byAct cX7_byAct 7 (some .int) 3 72 [.ref 94, .int x8, .int x6, .int x7, .int x3] h PP ∧ ∀ (r : Int32) (u : AH), PP r u → EX Z 9 (QI Z post) 185 u [some (.ref 94), none, none, some (.int x3), some (.int x4), none, some (.int x6), some (.int x7), some (.int x8)] (.int r :: [])))
    : EX Z 9 (QI Z post) 174 h [some (.ref 94), none, none, some (.int x3), some (.int x4), none, some (.int x6), some (.int x7), some (.int x8)] [] := by
  refine ex_aload_n hX dX7_boat_174 rfl rfl ?_
  refine ex_iload hX dX7_boat_175 rfl ?_
  refine ex_iload hX dX7_boat_177 rfl ?_
  refine ex_iload hX dX7_boat_179 rfl ?_
  refine ex_iload_n hX dX7_boat_181 rfl rfl ?_
  obtain ⟨PP, pM, pK⟩ := w
  exact ex_callIv (ci := 7) (i := 94) (As := [.int x8, .int x6, .int x7, .int x3]) (st := []) hX pM CS_7_262 MS_X7_byAct rfl rfl rfl (by decide) rfl (Nat.le_of_ble_eq_true rfl) dX7_boat_182 (fun r u hp => pK r u hp)

set_option maxRecDepth 100000 in
set_option maxHeartbeats 4000000 in
theorem sg_X7_boat_185 {Z : CX × GX} {post : Int32 → AH → Prop} {h : AH} {x3 : Int32} {x4 : Int32} {x6 : Int32} {x7 : Int32} {x8 : Int32} {s0 : Int32} (hX : OK Z RX7 cX7_boat 9 (some .int) 5 125) 
    (w : (vp_in ((10 * x8) + x6) 1010) ∧ (∀ v2 : Int32, v2 = h.1 111 (Int32.toNatClampNeg ((10 * x8) + x6)) → ((s0 = v2 → (∀ v6 : Int32, v6 = (if x7 = 1 then (1 : Int32) else (if x7 = 2 then ((-1) : Int32) else 0)) → EX Z 9 (QI Z post) 164 h [some (.ref 94), none, none, some (.int x3), some (.int x4), none, some (.int (x6 + v6)), some (.int x7), some (.int (x8 + 1))] [])) ∧ (¬ s0 = v2 → EX Z 9 (QI Z post) 174 h [some (.ref 94), none, none, some (.int x3), some (.int x4), none, some (.int x6), some (.int (x7 + 1)), some (.int x8)] []))))
    : EX Z 9 (QI Z post) 185 h [some (.ref 94), none, none, some (.int x3), some (.int x4), none, some (.int x6), some (.int x7), some (.int x8)] [.int s0] := by
  refine ex_aload_n hX dX7_boat_185 rfl rfl ?_
  refine ex_get hX (.ref 111) FL_7_63 rfl (fun _ => rfl) dX7_boat_186 ?_
  refine ex_bipush (v := 10) hX dX7_boat_189 rfl ?_
  refine ex_iload hX dX7_boat_191 rfl ?_
  refine ex_imul hX dX7_boat_193 ?_
  refine ex_iload hX dX7_boat_194 rfl ?_
  refine ex_iadd hX dX7_boat_196 ?_
  obtain ⟨q1, w⟩ := w
  refine ex_iald hX rfl q1 dX7_boat_197 ?_
  refine ex_nameI (fun v2 ev2 => ?_)
  replace w := w v2 ev2
  refine ex_icmpeq hX 207 dX7_boat_198 (by decide) (fun c3 => ?_) (fun c3 => ?_)
  · replace w := w.1 c3
    refine ex_iload hX dX7_boat_207 rfl ?_
    refine ex_iload hX dX7_boat_209 rfl ?_
    refine ex_iconst (v := 1) hX dX7_boat_211 rfl ?_
    have kc4 : EX Z 9 (QI Z post) 230 h [some (.ref 94), none, none, some (.int x3), some (.int x4), none, none, some (.int x7), some (.int x8)] [.int (if x7 = 1 then (1 : Int32) else (if x7 = 2 then ((-1) : Int32) else 0)), .int x6] := by
      refine ex_nameI (fun v6 ev6 => ?_)
      replace w := w v6 ev6
      refine ex_iadd hX dX7_boat_230 ?_
      refine ex_istore (lv' := [some (.ref 94), none, none, some (.int x3), some (.int x4), none, some (.int (x6 + v6)), some (.int x7), some (.int x8)]) hX dX7_boat_231 (by decide) rfl ?_
      refine ex_iinc (v := x8 + 1) (lv' := [some (.ref 94), none, none, some (.int x3), some (.int x4), none, some (.int (x6 + v6)), some (.int x7), some (.int (x8 + 1))]) hX dX7_boat_233 rfl rfl (by decide) rfl ?_
      refine ex_goto hX 164 dX7_boat_236 (by decide) ?_
      exact w
    refine ex_icmpne hX 219 dX7_boat_212 (by decide) (fun c4 => ?_) (fun c4 => ?_)
    · refine ex_iload hX dX7_boat_219 rfl ?_
      refine ex_iconst (v := 2) hX dX7_boat_221 rfl ?_
      have kc5 : EX Z 9 (QI Z post) 230 h [some (.ref 94), none, none, some (.int x3), some (.int x4), none, none, some (.int x7), some (.int x8)] [.int (if x7 = 2 then ((-1) : Int32) else 0), .int x6] := by
        rw [show (if x7 = 1 then (1 : Int32) else (if x7 = 2 then ((-1) : Int32) else 0)) = (if x7 = 2 then ((-1) : Int32) else 0) from if_neg c4] at kc4
        exact ex_forget [some (.ref 94), none, none, some (.int x3), some (.int x4), none, none, some (.int x7), some (.int x8)] ⟨rfl, ⟨rfl, ⟨rfl, ⟨rfl, ⟨rfl, trivial⟩⟩⟩⟩⟩ kc4
      refine ex_icmpne hX 229 dX7_boat_222 (by decide) (fun c5 => ?_) (fun c5 => ?_)
      · refine ex_iconst (v := 0) hX dX7_boat_229 rfl ?_
        rw [show (if x7 = 2 then ((-1) : Int32) else 0) = 0 from if_neg c5] at kc5
        exact ex_forget [some (.ref 94), none, none, some (.int x3), some (.int x4), none, none, some (.int x7), some (.int x8)] ⟨rfl, ⟨rfl, ⟨rfl, ⟨rfl, ⟨rfl, trivial⟩⟩⟩⟩⟩ kc5
      · refine ex_iconst (v := (-1)) hX dX7_boat_225 rfl ?_
        refine ex_goto hX 230 dX7_boat_226 (by decide) ?_
        rw [show (if x7 = 2 then ((-1) : Int32) else 0) = (-1) from if_pos c5] at kc5
        exact ex_forget [some (.ref 94), none, none, some (.int x3), some (.int x4), none, none, some (.int x7), some (.int x8)] ⟨rfl, ⟨rfl, ⟨rfl, ⟨rfl, ⟨rfl, trivial⟩⟩⟩⟩⟩ kc5
    · refine ex_iconst (v := 1) hX dX7_boat_215 rfl ?_
      refine ex_goto hX 230 dX7_boat_216 (by decide) ?_
      rw [show (if x7 = 1 then (1 : Int32) else (if x7 = 2 then ((-1) : Int32) else 0)) = 1 from if_pos c4] at kc4
      exact ex_forget [some (.ref 94), none, none, some (.int x3), some (.int x4), none, none, some (.int x7), some (.int x8)] ⟨rfl, ⟨rfl, ⟨rfl, ⟨rfl, ⟨rfl, trivial⟩⟩⟩⟩⟩ kc4
  · replace w := w.2 c3
    refine ex_iinc (v := x7 + 1) (lv' := [some (.ref 94), none, none, some (.int x3), some (.int x4), none, some (.int x6), some (.int (x7 + 1)), some (.int x8)]) hX dX7_boat_201 rfl rfl (by decide) rfl ?_
    refine ex_goto hX 174 dX7_boat_204 (by decide) ?_
    exact w

def actB (P : PR) (σ : SG) (r : Int32) (t k c : Nat) : Bool := if c = 0 then true else if c = 1 then (dnN P σ r t).testBit k else (upN P σ r t).testBit k
def toA (k c : Nat) : Nat := if c = 1 then k + 1 else if c = 2 then k - 1 else k
def vlS (P : PR) (b g k : Nat) : Int32 := if g.testBit k = true then nI (potN P b) - nI (potN P k) else 9999999

set_option maxRecDepth 100000 in
set_option maxHeartbeats 4000000 in
theorem c_X7_canGo {h : AH} {a1 : Int32} {a2 : Int32} {a3 : Int32} {a4 : Int32}  {P : PR} {σ : SG} {t k c : Nat} (hP : POK P) (en : h.1 94 9 = nI (pn P)) (hR : RC P σ 0 0 h 100) (ht : t < 100) (hk : k < pn P) (hc : c ≤ 2) (e1 : a1 = nI t) (e2 : a2 = nI k) (e3 : a3 = nI c) : CI yX7_canGo cX7_canGo 7 (some .boolean) 2 46 [.ref 94, .int a1, .int a2, .int a3, .int a4] h (fun r u => r = bI (actB P σ a4 t k c = true) ∧ u = h) := by
  refine CI.of [some (.ref 94), some (.int a1), some (.int a2), some (.int a3), some (.int a4), none, none] (by decide +kernel) rfl (Nat.le_of_ble_eq_true rfl) rfl (fun Z hX => ?_)
  subst e1 e2 e3
  have hn := hP.1
  have q0 : (nI c = 0) ↔ c = 0 := by rw [k_0, nI_eq (by omega) (by omega)]
  have q1 : (nI c = 1) ↔ c = 1 := by rw [k_1, nI_eq (by omega) (by omega)]
  refine sg_X7_canGo_0 hX ⟨fun z => ?_, fun z => ⟨by rw [actB, if_pos (q0.mp z), bI_t rfl], rfl⟩⟩
  have c0 : ¬ c = 0 := fun y => z (q0.mpr y)
  intro v3 e3
  have ix : ∀ j, (9 : Int32) * nI t + nI j = nI (9 * t + j) := fun j => by rw [k_9, pk_mul, nI_add]
  rw [en, gt2 hn.2]
  -- the gate of this act
  have key : ∀ j, j + 1 < pn P → v3 = nI j → (∀ (A : Bool), A = decide (¬ hoursS P 0 0 (t + 1) σ (10 + j) = 0 ∧ ¬ a4 < (if c = 1 then -(hoursS P 0 0 (t + 1) σ (20 + j)) else hoursS P 0 0 (t + 1) σ (20 + j))) → actB P σ a4 t k c = A) → (vp_in ((9 * nI t) + v3) 1800) ∧ (∀ v6 : Int32, v6 = h.1 110 (Int32.toNatClampNeg ((9 * nI t) + v3)) → ((¬ v6 = 0 → ((¬ nI c = 1 → (vp_in ((9 * nI t) + v3) 1800) ∧ True) ∧ (nI c = 1 → (vp_in ((9 * nI t) + v3) 1800) ∧ True) ∧ (∀ v11 : Int32, v11 = (if nI c = 1 then (-(h.1 109 (Int32.toNatClampNeg ((9 * nI t) + v3))) : Int32) else h.1 109 (Int32.toNatClampNeg ((9 * nI t) + v3))) → ((a4 < v11 → (0 : Int32) = bI (actB P σ a4 t k c = true) ∧ h = h) ∧ (¬ a4 < v11 → (1 : Int32) = bI (actB P σ a4 t k c = true) ∧ h = h))))) ∧ (v6 = 0 → (0 : Int32) = bI (actB P σ a4 t k c = true) ∧ h = h))) := by
    intro j hj ej hA
    have hA := hA _ rfl
    rw [ej, ix, nI_clamp (by omega)]
    obtain ⟨f1, f2⟩ := hR t ht j (by omega)
    have b : vp_in (nI (9 * t + j)) 1800 := vp_in_nI (by omega) (by omega)
    refine ⟨b, fun v6 e6 => ⟨fun d => ⟨fun _ => ⟨b, trivial⟩, fun _ => ⟨b, trivial⟩, fun v11 e11 => ?_⟩, fun d => ⟨?_, rfl⟩⟩⟩
    · rw [f1] at e11
      rw [e6, f2] at d
      have e11' : v11 = (if c = 1 then -(hoursS P 0 0 (t + 1) σ (20 + j)) else hoursS P 0 0 (t + 1) σ (20 + j)) := by
        rw [e11]
        by_cases y : c = 1
        · rw [if_pos y, if_pos (q1.mpr y)]
        · rw [if_neg y, if_neg (fun w => y (q1.mp w))]
      rw [← e11'] at hA
      refine ⟨fun y => ⟨?_, rfl⟩, fun y => ⟨?_, rfl⟩⟩
      · rw [hA, decide_eq_false (fun w => w.2 y)]; rfl
      · rw [hA, decide_eq_true ⟨d, y⟩]; rfl
    · rw [e6, f2] at d
      rw [hA, decide_eq_false (fun w => w.1 d)]; rfl
  by_cases d1 : c = 1
  · rw [if_pos (q1.mpr d1)] at e3
    have eb : actB P σ a4 t k c = (decide (k < pn P - 1) && dB (hoursS P 0 0 (t + 1) σ) a4 k) := by rw [actB, if_neg c0, if_pos d1, dnN, setN_bit]
    refine ⟨fun y => ⟨?_, rfl⟩, fun y => key k ?_ e3 (fun A hA => ?_)⟩
    · rw [eb, decide_eq_false (fun w => y ⟨k, by omega, e3⟩), Bool.false_and]; rfl
    · obtain ⟨j, j1, j2⟩ := y
      rw [e3, nI_eq (by omega) (by omega)] at j2
      omega
    · obtain ⟨j, j1, j2⟩ := y
      rw [e3, nI_eq (by omega) (by omega)] at j2
      rw [eb, decide_eq_true (show k < pn P - 1 by omega), Bool.true_and, hA, if_pos d1]; rfl
  · rw [if_neg (fun y => d1 (q1.mp y))] at e3
    have eb : actB P σ a4 t k c = (decide (k < pn P) && uB (hoursS P 0 0 (t + 1) σ) a4 k) := by rw [actB, if_neg c0, if_neg d1, upN, setN_bit]
    by_cases k0 : k = 0
    · subst k0
      refine ⟨fun y => ⟨?_, rfl⟩, fun y => ?_⟩
      · rw [eb, show uB (hoursS P 0 0 (t + 1) σ) a4 0 = false from decide_eq_false (fun w => absurd w.1 (by omega)), Bool.and_false]; rfl
      · obtain ⟨j, j1, j2⟩ := y
        rw [e3] at j2
        have := congrArg Int32.toInt j2
        rw [nI_toInt (by omega)] at this
        have e1 : (nI 0 - 1).toInt = -1 := rfl
        omega
    · have e3' : v3 = nI (k - 1) := by rw [e3, k_1, pk_sub (by omega)]
      refine ⟨fun y => absurd ⟨k - 1, by omega, e3'⟩ y, fun y => key (k - 1) (by omega) e3' (fun A hA => ?_)⟩
      rw [eb, decide_eq_true hk, Bool.true_and, hA, if_neg d1]
      unfold uB
      exact decide_eq_decide.mpr ⟨fun w => w.2, fun w => ⟨by omega, w⟩⟩

theorem val_lt {P : PR} {b k : Nat} (hb : potN P b ≤ 900) (hk : potN P k ≤ 900) : nI (potN P b) - nI (potN P k) < 9999999 := by
  rw [Int32.lt_iff_toInt_lt, pk_sub_toInt (by omega) (by omega), show (9999999 : Int32).toInt = 9999999 from rfl]
  omega
theorem val_dn {p q x : Nat} : nI x - nI (p + q) + nI q = nI x - nI p := by
  rw [← nI_add, ← Int32.sub_sub, Int32.sub_add_cancel]
theorem val_up {p q x : Nat} : nI x - nI p + -(nI q) = nI x - nI (p + q) := by
  rw [← nI_add, ← Int32.sub_sub, ← Int32.sub_eq_add_neg]
theorem act_to {P : PR} {σ : SG} {r : Int32} {t k c : Nat} (hk : k < pn P) (h : actB P σ r t k c = true) (hc : c ≤ 2) : toA k c < pn P ∧ (c = 2 → 1 ≤ k) := by
  unfold actB at h
  unfold toA
  by_cases c0 : c = 0
  · subst c0; exact ⟨hk, fun z => absurd z (by omega)⟩
  · rw [if_neg c0] at h
    by_cases c1 : c = 1
    · rw [if_pos c1, dnN, setN_bit, Bool.and_eq_true, decide_eq_true_eq] at h
      rw [if_pos c1]
      exact ⟨by omega, fun z => absurd z (by omega)⟩
    · rw [if_neg c1, upN, setN_bit, Bool.and_eq_true] at h
      have := (of_decide_eq_true h.2).1
      rw [if_neg c1, if_pos (by omega)]
      exact ⟨by omega, fun _ => this⟩

set_option maxRecDepth 100000 in
set_option maxHeartbeats 4000000 in
theorem c_X7_byAct {h : AH} {a1 : Int32} {a2 : Int32} {a3 : Int32} {a4 : Int32}  {P : PR} {σ : SG} {t k c b g : Nat} (hP : POK P) (hto : ∀ k, k < 9 → ∃ a : Nat, a ≤ 99 ∧ pto P k = nI a) (et : ∀ j, j < 9 → h.1 103 j = pto P j) (en : h.1 94 9 = nI (pn P)) (hR : RC P σ 0 0 h 100) (ht : t < 100) (hk : k < pn P) (hb : b < pn P) (hc : c ≤ 2) (hg : ∀ j, j < pn P → h.1 111 (10 * (t + 1) + j) = vlS P b g j) (e1 : a1 = nI t) (e2 : a2 = nI k) (e3 : a3 = nI c) : CI yX7_byAct cX7_byAct 7 (some .int) 3 72 [.ref 94, .int a1, .int a2, .int a3, .int a4] h (fun r u => r = (if (actB P σ a4 t k c && g.testBit (toA k c)) = true then nI (potN P b) - nI (potN P k) else 9999999) ∧ u = h) := by
  refine CI.of [some (.ref 94), some (.int a1), some (.int a2), some (.int a3), some (.int a4), none, none] (by decide +kernel) rfl (Nat.le_of_ble_eq_true rfl) rfl (fun Z hX => ?_)
  have hn := hP.1
  have q0 : (a3 = 0) ↔ c = 0 := by rw [e3, k_0, nI_eq (by omega) (by omega)]
  have q1 : (a3 = 1) ↔ c = 1 := by rw [e3, k_1, nI_eq (by omega) (by omega)]
  have q2 : (a3 = 2) ↔ c = 2 := by rw [e3, k_2, nI_eq (by omega) (by omega)]
  refine sg_X7_byAct_0 hX ⟨_, c_X7_canGo hP en hR ht hk hc e1 e2 e3, fun r u hu => ?_⟩
  obtain ⟨u1, u2⟩ := hu
  rw [u2]
  refine sg_X7_byAct_9 hX ⟨fun z v4 e4 => ?_, fun z => ⟨by rw [u1, bI_0] at z; rw [Bool.eq_false_iff.mpr z, Bool.false_and, if_neg (by decide)], rfl⟩⟩
  rw [u1, bI_n0] at z
  obtain ⟨t1, t2⟩ := act_to hk z hc
  have e4' : v4 = nI (toA k c) := by
    rw [e4, e2, toA]
    by_cases c1 : c = 1
    · rw [if_pos (q1.mpr c1), if_pos c1, nI_1]
    · rw [if_neg (fun y => c1 (q1.mp y)), if_neg c1]
      by_cases c2 : c = 2
      · rw [if_pos (q2.mpr c2), if_pos c2, k_1, pk_sub (t2 c2)]
      · rw [if_neg (fun y => c2 (q2.mp y)), if_neg c2]
  have ix : (10 : Int32) * (a1 + 1) + v4 = nI (10 * (t + 1) + toA k c) := by rw [e1, nI_1, e4', k_10, pk_mul, nI_add]
  rw [ix, nI_clamp (by omega), hg _ t1, z, Bool.true_and]
  have pb := pot_le hto b (by omega)
  have pt := pot_le hto (toA k c) (by omega)
  refine ⟨vp_in_nI (by omega) (by omega), fun v6 e6 => ⟨fun y => ?_, fun y => ⟨?_, rfl⟩⟩⟩
  · have gb : g.testBit (toA k c) = true := by
      rcases Bool.eq_false_or_eq_true (g.testBit (toA k c)) with d | d
      · exact d
      · rw [e6, vlS, if_neg (by rw [d]; decide)] at y
        exact absurd y (by decide)
    rw [vlS, if_pos gb] at e6
    rw [e2, if_pos gb]
    refine ⟨fun _ => ⟨fun c2 => ⟨by rw [k_1, pk_sub (t2 (q2.mp c2))]; exact vp_in_nI (by omega) (by omega), trivial⟩, trivial⟩, fun _ => ⟨vp_in_nI (by omega) (by omega), trivial⟩, fun v12 e12 => ⟨?_, rfl⟩⟩
    rw [e6, e12]
    by_cases c1 : c = 1
    · have k9 : k < 9 := by unfold toA at t1; rw [if_pos c1] at t1; omega
      rw [if_pos (q1.mpr c1), nI_clamp (by omega), et k k9, (tl_of hto k9).1, toA, if_pos c1, potN]
      exact val_dn
    · rw [if_neg (fun y => c1 (q1.mp y))]
      by_cases c2 : c = 2
      · obtain ⟨j, rfl⟩ : ∃ j, k = j + 1 := ⟨k - 1, by have := t2 c2; omega⟩
        rw [if_pos (q2.mpr c2), nI_pred, nI_clamp (by omega), et j (by omega), (tl_of hto (by omega)).1, toA, if_neg c1, if_pos c2, Nat.add_sub_cancel, potN]
        exact val_up
      · rw [if_neg (fun y => c2 (q2.mp y)), toA, if_neg c1, if_neg c2, Int32.add_zero]
  · have gb : ¬ g.testBit (toA k c) = true := by
      intro d
      rw [e6, vlS, if_pos d] at y
      exact y (val_lt (by omega) (by omega))
    rw [if_neg gb]

def FR (h u : AH) : Prop := u.2 = h.2 ∧ ∀ i, i ≠ 111 → u.1 i = h.1 i
theorem FR.rf {h : AH} : FR h h := ⟨rfl, fun _ _ => rfl⟩
theorem FR.set {h u u2 : AH} {k : Nat} {v : Int32} (a : FR h u) (e : u2 = (hset u.1 111 k v, u.2)) : FR h u2 := ⟨by rw [e]; exact a.1, fun i hi => by rw [e, hs_o hi]; exact a.2 i hi⟩
def RT (P : PR) (dn up : Nat → Nat) (b m d : Nat) (u : AH) : Prop := ∀ t, d ≤ t → t ≤ m → ∀ k, k < pn P → u.1 111 (10 * t + k) = vlS P b (glN dn up m b (m - t)) k
theorem min_or {p q : Bool} {V F : Int32} (h : V < F) : minS (if p = true then V else F) (if q = true then V else F) = if (p || q) = true then V else F := by
  have n1 : ¬ F < V := Int32.not_lt.mpr (Int32.le_of_lt h)
  have n2 : ∀ x : Int32, ¬ x < x := fun x => Int32.lt_irrefl
  cases p <;> cases q <;> simp [minS, h, n1, n2]
def bestB (P : PR) (σ : SG) (r : Int32) (t k g : Nat) : Nat → Bool
  | 0 => false
  | c + 1 => bestB P σ r t k g c || (actB P σ r t k c && g.testBit (toA k c))
theorem best3 {P : PR} {σ : SG} {r : Int32} {m b d k : Nat} (hd : d < m) : bestB P σ r (m - d - 1) k (glN (dnN P σ r) (upN P σ r) m b d) 3 = (glN (dnN P σ r) (upN P σ r) m b (d + 1)).testBit k := by
  rw [gl_bit, bestB, bestB, bestB, bestB]
  have hu : (upN P σ r (m - d - 1)).testBit k = true → decide (1 ≤ k) = true := fun z => by
    rw [upN, setN_bit, Bool.and_eq_true] at z
    exact decide_eq_true (of_decide_eq_true z.2).1
  simp only [actB, toA, Bool.false_or]
  rw [if_pos trivial, if_neg (by decide), if_neg (by decide), if_neg (by decide), if_pos trivial, if_pos trivial, if_neg (by decide), if_neg (by decide), if_neg (by decide), if_pos trivial, Bool.true_and]
  cases hh : (upN P σ r (m - d - 1)).testBit k with
  | false => simp
  | true => rw [hu hh]; simp [Bool.or_assoc]

set_option maxRecDepth 100000 in
set_option maxHeartbeats 4000000 in
theorem c_X7_findRest {h : AH} {a1 : Int32} {a2 : Int32} {a3 : Int32}  {P : PR} {σ : SG} {b m : Nat} (hP : POK P) (hto : ∀ k, k < 9 → ∃ a : Nat, a ≤ 99 ∧ pto P k = nI a) (et : ∀ j, j < 9 → h.1 103 j = pto P j) (en : h.1 94 9 = nI (pn P)) (hR : RC P σ 0 0 h 100) (hb : b < pn P) (hm : m ≤ 100) (e1 : a1 = nI b) (e2 : a2 = nI m) : CI yX7_findRest cX7_findRest 8 (some .int) 4 98 [.ref 94, .int a1, .int a2, .int a3] h (fun r u => r = nI m ∧ FR h u ∧ RT P (dnN P σ a3) (upN P σ a3) b m 0 u) := by
  refine CI.of [some (.ref 94), some (.int a1), some (.int a2), some (.int a3), none, none, none, none] (by decide +kernel) rfl (Nat.le_of_ble_eq_true rfl) rfl (fun Z hX => ?_)
  subst e1 e2
  have hn := hP.1
  have pb := pot_le hto b (by omega)
  have fe : ∀ u : AH, FR h u → u.1 94 9 = nI (pn P) ∧ (∀ j, j < 9 → u.1 103 j = pto P j) ∧ RC P σ 0 0 u 100 := fun u hu => ⟨by rw [hu.2 94 (by omega)]; exact en, by rw [hu.2 103 (by omega)]; exact et, by unfold RC; rw [hu.2 109 (by omega), hu.2 110 (by omega)]; exact hR⟩
  have ix : ∀ t k, (10 : Int32) * nI t + nI k = nI (10 * t + k) := fun t k => by rw [k_10, pk_mul, nI_add]
  generalize hpost : (fun (r : Int32) (u : AH) => r = nI m ∧ FR h u ∧ RT P (dnN P σ a3) (upN P σ a3) b m 0 u) = post
  have L2 : ∀ d, d ≤ m → ∀ u : AH, FR h u → RT P (dnN P σ a3) (upN P σ a3) b m d u → EX Z 8 (QI Z post) 48 u [some (.ref 94), none, some (.int (nI m)), some (.int a3), some (.int (nI d - 1)), none, none, none] [] := by
    intro d
    induction d with
    | zero =>
      intro _ u hu ht
      refine sg_X7_findRest_48 hX ⟨fun _ => ?_, fun z => absurd (by decide : nI 0 - 1 < 0) z⟩
      rw [← hpost]
      exact ⟨rfl, hu, ht⟩
    | succ d ih =>
      intro hd u hu ht
      rw [nI_pred]
      refine sg_X7_findRest_48 hX ⟨fun z => absurd z (nI_pos (by omega)), fun _ => ?_⟩
      have L3 : ∀ k, k ≤ pn P → ∀ u : AH, FR h u → RT P (dnN P σ a3) (upN P σ a3) b m (d + 1) u → (∀ j, j < k → u.1 111 (10 * d + j) = vlS P b (glN (dnN P σ a3) (upN P σ a3) m b (m - d)) j) → EX Z 8 (QI Z post) 56 u [some (.ref 94), none, some (.int (nI m)), some (.int a3), some (.int (nI d)), some (.int (nI k)), none, none] [] := by
        refine ldown _ ?_ ?_
        · intro u hu ht hx
          refine sg_X7_findRest_56 hX ⟨fun _ => ?_, fun z => absurd (by rw [(fe u hu).1]; exact nI_le (Nat.le_refl _) (by omega)) z⟩
          have := ih (by omega) u hu (fun t t1 t2 k hk => by
            by_cases c : t = d
            · rw [c]; exact hx k hk
            · exact ht t (by omega) t2 k hk)
          rw [Int32.sub_eq_add_neg] at this
          exact this
        · intro k hk ihk u hu ht hx
          refine sg_X7_findRest_56 hX ⟨fun z => absurd z (by rw [(fe u hu).1]; exact nI_ge hk (by omega)), fun _ => ?_⟩
          have pk := pot_le hto k (by omega)
          have hg : ∀ j, j < pn P → u.1 111 (10 * (d + 1) + j) = vlS P b (glN (dnN P σ a3) (upN P σ a3) m b (m - (d + 1))) j := fun j hj => ht (d + 1) (Nat.le_refl _) hd j hj
          have L4 : ∀ c, c ≤ 3 → EX Z 8 (QI Z post) 73 u [some (.ref 94), none, some (.int (nI m)), some (.int a3), some (.int (nI d)), some (.int (nI k)), some (.int (if bestB P σ a3 d k (glN (dnN P σ a3) (upN P σ a3) m b (m - (d + 1))) c = true then nI (potN P b) - nI (potN P k) else 9999999)), some (.int (nI c))] [] := by
            refine ldown _ ?_ ?_
            · refine sg_X7_findRest_73 hX ⟨fun _ => ?_, fun z => absurd (by decide : (3 : Int32) ≤ nI 3) z⟩
              rw [ix, nI_clamp (by omega)]
              refine ⟨vp_in_nI (by omega) (by omega), fun u3 e3 => ?_⟩
              rw [nI_1]
              have e111 : u3.1 111 = upd (u.1 111) (10 * d + k) (vlS P b (glN (dnN P σ a3) (upN P σ a3) m b (m - d)) k) := by
                rw [e3]
                show hset u.1 111 (10 * d + k) _ 111 = _
                rw [hset_eq, vlS]
                have q := best3 (P := P) (σ := σ) (r := a3) (m := m) (b := b) (d := m - (d + 1)) (k := k) (by omega)
                rw [show m - (m - (d + 1)) - 1 = d by omega, show m - (d + 1) + 1 = m - d by omega] at q
                rw [q]
              refine ihk u3 (hu.set e3) (fun t t1 t2 j hj => ?_) (fun j hj => ?_)
              · rw [e111, upd_ne (by omega)]; exact ht t t1 t2 j hj
              · rw [e111]
                by_cases c : j = k
                · subst c; rw [upd_eq]
                · rw [upd_ne (by omega)]; exact hx j (by omega)
            · intro c hc ihc
              obtain ⟨f1, f2, f3⟩ := fe u hu
              refine sg_X7_findRest_73 hX ⟨fun z => absurd z (nI_ge (b := 3) hc (by omega)), fun _ => ⟨_, c_X7_byAct (h := u) (c := c) (t := d) (k := k) (b := b) hP hto f2 f1 f3 (by omega) hk hb (by omega) hg rfl rfl rfl, fun r v hv => ?_⟩⟩
              obtain ⟨v1, v2⟩ := hv
              rw [v2]
              refine sg_X7_findRest_92 hX ?_
              rw [v1, min_or (val_lt (by omega) (by omega)), nI_1]
              exact ihc
          have := L4 0 (by omega)
          rw [show bestB P σ a3 d k (glN (dnN P σ a3) (upN P σ a3) m b (m - (d + 1))) 0 = false from rfl, if_neg (by decide)] at this
          exact this
      exact L3 0 (by omega) u hu ht (fun j hj => absurd hj (by omega))
  have L1 : ∀ k, k ≤ pn P → ∀ u : AH, FR h u → (∀ j, j < k → u.1 111 (10 * m + j) = vlS P b (2 ^ b) j) → EX Z 8 (QI Z post) 3 u [some (.ref 94), some (.int (nI b)), some (.int (nI m)), some (.int a3), some (.int (nI k)), none, none, none] [] := by
    refine ldown _ ?_ ?_
    · intro u hu hx
      refine sg_X7_findRest_3 hX ⟨fun _ => L2 m (Nat.le_refl _) u hu (fun t t1 t2 k hk => ?_), fun z => absurd (by rw [(fe u hu).1]; exact nI_le (Nat.le_refl _) (by omega)) z⟩
      rw [show t = m by omega, Nat.sub_self]
      exact hx k hk
    · intro k hk ih u hu hx
      refine sg_X7_findRest_3 hX ⟨fun z => absurd z (by rw [(fe u hu).1]; exact nI_ge hk (by omega)), fun _ v3 e3 => ?_⟩
      rw [ix, nI_clamp (by omega), nI_1]
      refine ⟨vp_in_nI (by omega) (by omega), fun u5 e5 => ih u5 (hu.set e5) (fun j hj => ?_)⟩
      have ev : v3 = vlS P b (2 ^ b) k := by
        rw [e3, vlS, Nat.testBit_two_pow]
        by_cases c : b = k
        · subst c; rw [if_pos rfl, if_pos (decide_eq_true rfl), Int32.sub_self]
        · rw [if_neg (fun z => c ((nI_eq (by omega) (by omega)).mp z).symm), if_neg (by rw [decide_eq_false c]; decide)]
      have e111 : u5.1 111 = upd (u.1 111) (10 * m + k) v3 := by
        rw [e5]
        show hset u.1 111 (10 * m + k) _ 111 = _
        rw [hset_eq]
      rw [e111]
      by_cases c : j = k
      · subst c; rw [upd_eq, ev]
      · rw [upd_ne (by omega)]; exact hx j (by omega)
  exact sg_X7_findRest_0 hX (L1 0 (by omega) h FR.rf (fun j hj => absurd hj (by omega)))

set_option maxRecDepth 100000 in
set_option maxHeartbeats 4000000 in
theorem c_X7_boat {h : AH} {a1 : Int32} {a2 : Int32} {a3 : Int32} {a4 : Int32}  {n N : Nat} (hn : n ≤ 10) (hI : INV N h) (hN : N ≤ 511) (en : h.1 94 9 = nI n) (hP : n = 0 ∨ POK (PM h.1)) : CI yX7_boat cX7_boat 9 (some .int) 5 125 [.ref 94, .int a1, .int a2, .int a3, .int a4] h (fun r u => T3 (nodeA n a1 ∧ nodeA n a2) (rN 0 999 a3) (-100000001) (-100000002) (boatS (PM h.1) (mk (ms h.1 0)) a1 a2 a3 a4) r ∧ TM h u) := by
  refine CI.of [some (.ref 94), some (.int a1), some (.int a2), some (.int a3), some (.int a4), none, none, none, none] (by decide +kernel) rfl (Nat.le_of_ble_eq_true rfl) rfl (fun Z hX => ?_)
  have tm : TM h h := ⟨TF.rf, hI.2.2.2.2.2.2.2⟩
  have hA : (0 ≤ a1 ∧ a1 ≤ h.1 94 9 - 1) ↔ nodeA n a1 := by rw [en]; exact nd2 hn
  have hA' : (0 ≤ a2 ∧ a2 ≤ h.1 94 9 - 1) ↔ nodeA n a2 := by rw [en]; exact nd2 hn
  have r3 := rnM (x := a3) (lo := 0) (hi := 999) (L := 0) (M := 999) rfl rfl (by decide)
  refine sg_X7_boat_0 hX ⟨fun c => ⟨T3.a (fun z => c (hA.mpr z.1)), tm⟩, fun c => ⟨fun c1 => ⟨fun c2 => ?_, fun c2 => ⟨T3.b ⟨hA.mp c, hA'.mp c1⟩ (fun z => c2 (r3.mpr z)), tm⟩⟩, fun c1 => ⟨T3.a (fun z => c1 (hA'.mpr z.2)), tm⟩⟩⟩
  have hA2 : nodeA n a1 ∧ nodeA n a2 := ⟨hA.mp c, hA'.mp c1⟩
  have hB := r3.mp c2
  obtain ⟨⟨a, ha, rfl⟩, ⟨b, hb, rfl⟩⟩ := id hA2
  have hP' := hP.resolve_left (by omega)
  have ep : pn (PM h.1) = n := pn_M en hn
  have hto := hI.2.1.2.2.2.2.2
  have hn2 := hP'.1
  have pb := pot_le hto b (by omega)
  have pa' := pot_le hto a (by omega)
  generalize hσ : mk (ms h.1 0) = σ
  generalize hPP : PM h.1 = P at *
  refine ⟨_, c_X7_tryHours (n := 100) rfl (by omega) hN hPP hσ (by rw [← hPP, ← hσ]; rw [← hPP] at hP'; exact UOK0 hI hP' i0), fun v hv => sg_X7_boat_42 hX ?_⟩
  obtain ⟨v1, -, v3⟩ := hv
  have fe : ∀ u : AH, FR v u → u.1 94 9 = nI (pn P) ∧ (∀ j, j < 9 → u.1 103 j = pto P j) ∧ RC P σ 0 0 u 100 ∧ TM h u := fun u hu => ⟨by rw [hu.2 94 (by omega), v1.1.2.2.1 9 (by omega) (by omega), en, ep], fun j hj => by rw [hu.2 103 (by omega), v1.1.2.1 103 (by omega) (by omega) (by omega), ← hPP]; exact (cut_in hj).symm, by unfold RC; rw [hu.2 109 (by omega), hu.2 110 (by omega)]; exact v3, v1.1.tr ⟨hu.1, fun i _ _ _ => hu.2 i (by omega), fun k _ _ => by rw [hu.2 94 (by omega)], fun j _ => by rw [hu.2 95 (by omega)]⟩, by unfold HV; rw [hu.2 94 (by omega)]; exact v1.2⟩
  have ef : ∀ (u : AH) (m : Nat), m ≤ 100 → FR v u → CI yX7_findRest cX7_findRest 8 (some .int) 4 98 [.ref 94, .int (nI b), .int (nI m), .int a3] u (fun r w => r = nI m ∧ FR u w ∧ RT P (dnN P σ a3) (upN P σ a3) b m 0 w) := fun u m hm hu => c_X7_findRest hP' hto (fe u hu).2.1 (fe u hu).1 (fe u hu).2.2.1 (by omega) hm rfl rfl
  have sd : soonN P σ a3 a b = fstS (fun t => (rcN (dnN P σ a3) (upN P σ a3) a t).testBit b) 101 0 := rfl
  have eR : boatS P σ (nI a) (nI b) a3 a4 = (if soonN P σ a3 a b = 101 then (if a4 = -2 then -100000003 else -1) else if a4 = -1 then nI (soonN P σ a3 a b) else if a4 = -2 then nI (potN P b) - nI (potN P a) else if a4 < 0 ∨ nI (soonN P σ a3 a b) ≤ a4 then -1 else nI (dedN (dnN P σ a3) (upN P σ a3) (soonN P σ a3 a b) b a a4.toNatClampNeg)) := by
    unfold boatS
    rw [nI_clamp (by omega), nI_clamp (by omega)]
  generalize hpost : (fun (r : Int32) (u : AH) => T3 (nodeA n (nI a) ∧ nodeA n (nI b)) (rN 0 999 a3) (-100000001) (-100000002) (boatS P σ (nI a) (nI b) a3 a4) r ∧ TM h u) = post
  have ok : ∀ {r : Int32} {w : AH}, r = boatS P σ (nI a) (nI b) a3 a4 → TM h w → post r w := fun x y => by rw [← hpost]; exact ⟨T3.c hA2 hB x, y⟩
  -- found
  have D : ∀ (u : AH) (s : Nat), FR v u → s ≤ 100 → soonN P σ a3 a b = s → RT P (dnN P σ a3) (upN P σ a3) b s 0 u → (glN (dnN P σ a3) (upN P σ a3) s b s).testBit a = true → ((nI s ≤ 100 → ((a4 < 0 → ((¬ a4 = (-1) → ((¬ a4 = (-2) → post (-1) u) ∧ (a4 = (-2) → (vp_in (nI a) 1010) ∧ post (u.1 111 (Int32.toNatClampNeg (nI a))) u))) ∧ (a4 = (-1) → post (nI s) u))) ∧ (¬ a4 < 0 → ((a4 < nI s → EX Z 9 (QI Z post) 164 u [some (.ref 94), none, none, some (.int a3), some (.int a4), none, some (.int (nI a)), some (.int 0), some (.int 0)] []) ∧ (¬ a4 < nI s → ((¬ a4 = (-1) → ((¬ a4 = (-2) → post (-1) u) ∧ (a4 = (-2) → (vp_in (nI a) 1010) ∧ post (u.1 111 (Int32.toNatClampNeg (nI a))) u))) ∧ (a4 = (-1) → post (nI s) u))))))) ∧ (¬ nI s ≤ 100 → ((¬ a4 = (-2) → post (-1) u) ∧ (a4 = (-2) → post (-100000003) u)))) := by
    intro u s hu hs es hT g0
    have tu := (fe u hu).2.2.2
    rw [es, if_neg (show ¬ s = 101 by omega)] at eR
    have ra : u.1 111 (Int32.toNatClampNeg (nI a)) = nI (potN P b) - nI (potN P a) := by
      rw [nI_clamp (by omega)]
      have := hT 0 (by omega) (by omega) a (by omega)
      rw [Nat.sub_zero, vlS, if_pos g0, Nat.mul_zero, Nat.zero_add] at this
      exact this
    have X : (¬ (¬ a4 < 0 ∧ a4 < nI s)) → ((¬ a4 = (-1) → ((¬ a4 = (-2) → post (-1) u) ∧ (a4 = (-2) → (vp_in (nI a) 1010) ∧ post (u.1 111 (Int32.toNatClampNeg (nI a))) u))) ∧ (a4 = (-1) → post (nI s) u)) := by
      intro no
      refine ⟨fun d => ⟨fun d2 => ok ?_ tu, fun d2 => ⟨vp_in_nI (by omega) (by omega), ok ?_ tu⟩⟩, fun d => ok (by rw [eR, if_pos d]) tu⟩
      · rw [eR, if_neg d, if_neg d2, if_pos]
        by_cases y : a4 < 0
        · exact Or.inl y
        · exact Or.inr (Int32.not_lt.mp (fun z => no ⟨y, z⟩))
      · rw [ra, eR, if_neg d, if_pos d2]
    refine ⟨fun _ => ⟨fun d => X (fun z => z.1 d), fun d => ⟨fun d2 => ?_, fun d2 => X (fun z => d2 z.2)⟩⟩, fun z => absurd (by exact nI_le (b := 100) hs (by omega)) z⟩
    obtain ⟨i, i1, i2⟩ := nI_of d
    have is : i < s := by rw [i2, nI_ltI (by omega) (by omega)] at d2; exact d2
    have eR' : boatS P σ (nI a) (nI b) a3 a4 = nI (dedN (dnN P σ a3) (upN P σ a3) s b a i) := by
      rw [eR, if_neg, if_neg, if_neg, i2, nI_clamp (by omega)]
      · rintro (y | y)
        · exact d y
        · exact Int32.not_lt.mpr y d2
      · intro z; rw [z] at d; exact d (by decide)
      · intro z; rw [z] at d; exact d (by decide)
    have gl : ∀ d, glN (dnN P σ a3) (upN P σ a3) s b d < 2 ^ pn P := fun d => gl_lt (by omega) (fun t => (dn_lt hn2.2 t).1) (fun t => (up_lt hn2.2 t).1) d
    have pl : ∀ t, t ≤ s → plcN (dnN P σ a3) (upN P σ a3) s b a t < pn P := fun t ht => by
      rcases Nat.lt_or_ge (plcN (dnN P σ a3) (upN P σ a3) s b a t) (pn P) with d | d
      · exact d
      · have := plc_ok g0 t ht
        rw [Nat.testBit_lt_two_pow (Nat.lt_of_lt_of_le (gl _) (Nat.pow_le_pow_right (by decide) d))] at this
        cases this
    have LD : ∀ t, t ≤ i + 1 → ∀ x7 : Int32, (t = i + 1 → x7 = nI (dedN (dnN P σ a3) (upN P σ a3) s b a i)) → EX Z 9 (QI Z post) 164 u [some (.ref 94), none, none, some (.int a3), some (.int a4), none, some (.int (nI (plcN (dnN P σ a3) (upN P σ a3) s b a t))), some (.int x7), some (.int (nI t))] [] := by
      refine ldown _ ?_ ?_
      · intro x7 h7
        exact sg_X7_boat_164 hX ⟨fun _ => ok (by rw [eR']; exact h7 rfl) tu, fun z => absurd (by rw [i2]; exact nI_lt (by omega) (by omega)) z⟩
      · intro t ht ih x7 _
        refine sg_X7_boat_164 hX ⟨fun z => absurd z (by rw [i2]; exact nI_nlt (by omega) (by omega)), fun _ => ?_⟩
        have p1 := pl t (by omega)
        have gt := plc_ok g0 t (by omega)
        have pk := pot_le hto (plcN (dnN P σ a3) (upN P σ a3) s b a t) (by omega)
        have vt := hT t (by omega) (by omega) _ p1
        rw [vlS, if_pos gt] at vt
        have hg : ∀ j, j < pn P → u.1 111 (10 * (t + 1) + j) = vlS P b (glN (dnN P σ a3) (upN P σ a3) s b (s - t - 1)) j := fun j hj => by rw [hT (t + 1) (by omega) (by omega) j hj, show s - (t + 1) = s - t - 1 by omega]
        have vl := val_lt (P := P) (b := b) (k := plcN (dnN P σ a3) (upN P σ a3) s b a t) (by omega) (by omega)
        have vne : ¬ (9999999 : Int32) = nI (potN P b) - nI (potN P (plcN (dnN P σ a3) (upN P σ a3) s b a t)) := fun z => by rw [← z] at vl; exact absurd vl (by decide)
        obtain ⟨f1, f2, f3, -⟩ := fe u hu
        have ix : (10 : Int32) * nI t + nI (plcN (dnN P σ a3) (upN P σ a3) s b a t) = nI (10 * t + plcN (dnN P σ a3) (upN P σ a3) s b a t) := by rw [k_10, pk_mul, nI_add]
        -- one try of an act
        have one : ∀ c, c ≤ 2 → ((actB P σ a3 t (plcN (dnN P σ a3) (upN P σ a3) s b a t) c && (glN (dnN P σ a3) (upN P σ a3) s b (s - t - 1)).testBit (toA (plcN (dnN P σ a3) (upN P σ a3) s b a t) c)) = true → plcN (dnN P σ a3) (upN P σ a3) s b a (t + 1) = toA (plcN (dnN P σ a3) (upN P σ a3) s b a t) c ∧ dedN (dnN P σ a3) (upN P σ a3) s b a t = c ∧ (c = 2 → 1 ≤ plcN (dnN P σ a3) (upN P σ a3) s b a t)) → (¬ (actB P σ a3 t (plcN (dnN P σ a3) (upN P σ a3) s b a t) c && (glN (dnN P σ a3) (upN P σ a3) s b (s - t - 1)).testBit (toA (plcN (dnN P σ a3) (upN P σ a3) s b a t) c)) = true → EX Z 9 (QI Z post) 174 u [some (.ref 94), none, none, some (.int a3), some (.int a4), none, some (.int (nI (plcN (dnN P σ a3) (upN P σ a3) s b a t))), some (.int (nI (c + 1))), some (.int (nI t))] []) → EX Z 9 (QI Z post) 174 u [some (.ref 94), none, none, some (.int a3), some (.int a4), none, some (.int (nI (plcN (dnN P σ a3) (upN P σ a3) s b a t))), some (.int (nI c)), some (.int (nI t))] [] := by
          intro c hc yes no
          refine sg_X7_boat_174 hX ⟨_, c_X7_byAct (h := u) (c := c) (t := t) (b := b) hP' hto f2 f1 f3 (by omega) p1 (by omega) hc hg rfl rfl rfl, fun r w hw => ?_⟩
          obtain ⟨w1, w2⟩ := hw
          rw [w2]
          refine sg_X7_boat_185 hX ?_
          rw [ix, nI_clamp (by omega), vt, w1]
          refine ⟨vp_in_nI (by omega) (by omega), fun v2 e2 => ?_⟩
          rw [e2]
          by_cases y : (actB P σ a3 t (plcN (dnN P σ a3) (upN P σ a3) s b a t) c && (glN (dnN P σ a3) (upN P σ a3) s b (s - t - 1)).testBit (toA (plcN (dnN P σ a3) (upN P σ a3) s b a t) c)) = true
          · rw [if_pos y]
            refine ⟨fun _ v6 e6 => ?_, fun z => absurd rfl z⟩
            obtain ⟨y1, y2, y3⟩ := yes y
            have := ih (nI c) (fun z => by rw [show i = t by omega, y2])
            rw [y1] at this
            have em : nI (plcN (dnN P σ a3) (upN P σ a3) s b a t) + v6 = nI (toA (plcN (dnN P σ a3) (upN P σ a3) s b a t) c) := by
              rw [e6, toA]
              by_cases c1 : c = 1
              · rw [if_pos c1, if_pos (by rw [c1]; rfl), nI_1]
              · rw [if_neg c1, if_neg (show ¬ nI c = 1 from fun z => c1 ((nI_eq (b := 1) (by omega) (by omega)).mp z))]
                by_cases c2 : c = 2
                · rw [if_pos c2, if_pos (by rw [c2]; rfl)]
                  obtain ⟨x, ex⟩ : ∃ x, plcN (dnN P σ a3) (upN P σ a3) s b a t = x + 1 := ⟨plcN (dnN P σ a3) (upN P σ a3) s b a t - 1, by have := y3 c2; omega⟩
                  rw [ex, pk_m1, Nat.add_sub_cancel]
                · rw [if_neg c2, if_neg (show ¬ nI c = 2 from fun z => c2 ((nI_eq (b := 2) (by omega) (by omega)).mp z)), Int32.add_zero]
            rw [em, nI_1]
            exact this
          · rw [if_neg y]
            refine ⟨fun z => absurd z vne, fun _ => ?_⟩
            rw [nI_1]
            exact no y
        by_cases y0 : (glN (dnN P σ a3) (upN P σ a3) s b (s - t - 1)).testBit (plcN (dnN P σ a3) (upN P σ a3) s b a t) = true
        · refine one 0 (by omega) (fun _ => ⟨?_, ?_, fun z => absurd z (by omega)⟩) (fun z => absurd (by rw [toA, if_neg (by decide), if_neg (by decide), y0]; rfl) z)
          · rw [plcN, if_pos y0]; rfl
          · rw [dedN, if_pos y0]
        · refine one 0 (by omega) (fun z => absurd (by rw [toA, if_neg (by decide), if_neg (by decide), Bool.and_eq_true] at z; exact z.2) y0) (fun _ => ?_)
          by_cases y1 : ((dnN P σ a3 t).testBit (plcN (dnN P σ a3) (upN P σ a3) s b a t) && (glN (dnN P σ a3) (upN P σ a3) s b (s - t - 1)).testBit (plcN (dnN P σ a3) (upN P σ a3) s b a t + 1)) = true
          · refine one 1 (by omega) (fun _ => ⟨?_, ?_, fun z => absurd z (by omega)⟩) (fun z => absurd y1 z)
            · rw [plcN, if_neg y0, if_pos y1]; rfl
            · rw [dedN, if_neg y0, if_pos y1]
          · refine one 1 (by omega) (fun z => absurd z y1) (fun _ => ?_)
            obtain ⟨x1, x2, x3⟩ := plc_up g0 (show t < s by omega) y0 y1
            refine one 2 (by omega) (fun _ => ⟨?_, ?_, fun _ => x1⟩) (fun z => absurd (by rw [toA, if_neg (by decide), if_pos rfl, x3, Bool.and_true]; exact x2) z)
            · rw [plcN, if_neg y0, if_neg y1]; rfl
            · rw [dedN, if_neg y0, if_neg y1]
    exact LD 0 (by omega) 0 (fun z => absurd z (by omega))
  have L : ∀ m, m ≤ 100 → ∀ u : AH, FR v u → (∀ j, j < m → (rcN (dnN P σ a3) (upN P σ a3) a j).testBit b = false) → RT P (dnN P σ a3) (upN P σ a3) b m 0 u → EX Z 9 (QI Z post) 51 u [some (.ref 94), some (.int (nI a)), some (.int (nI b)), some (.int a3), some (.int a4), some (.int (nI m)), none, none, none] [] := by
    have step : ∀ m, m ≤ 100 → (m < 100 → ∀ u : AH, FR v u → (∀ j, j < m + 1 → (rcN (dnN P σ a3) (upN P σ a3) a j).testBit b = false) → RT P (dnN P σ a3) (upN P σ a3) b (m + 1) 0 u → EX Z 9 (QI Z post) 51 u [some (.ref 94), some (.int (nI a)), some (.int (nI b)), some (.int a3), some (.int a4), some (.int (nI (m + 1))), none, none, none] []) → ∀ u : AH, FR v u → (∀ j, j < m → (rcN (dnN P σ a3) (upN P σ a3) a j).testBit b = false) → RT P (dnN P σ a3) (upN P σ a3) b m 0 u → EX Z 9 (QI Z post) 51 u [some (.ref 94), some (.int (nI a)), some (.int (nI b)), some (.int a3), some (.int a4), some (.int (nI m)), none, none, none] [] := by
      intro m hm ih u hu hlo hT
      have ra : u.1 111 (Int32.toNatClampNeg (nI a)) = vlS P b (glN (dnN P σ a3) (upN P σ a3) m b m) a := by
        rw [nI_clamp (by omega)]
        have := hT 0 (by omega) (by omega) a (by omega)
        rw [Nat.sub_zero, Nat.mul_zero, Nat.zero_add] at this
        exact this
      refine sg_X7_boat_51 hX ⟨fun z => absurd z (nI_nlt (a := 100) hm (by omega)), fun _ => ⟨vp_in_nI (by omega) (by omega), fun z => ?_, fun z => ?_⟩⟩
      · have g0 : (glN (dnN P σ a3) (upN P σ a3) m b m).testBit a = true := by
          rcases Bool.eq_false_or_eq_true ((glN (dnN P σ a3) (upN P σ a3) m b m).testBit a) with d | d
          · exact d
          · rw [ra, vlS, if_neg (by rw [d]; decide)] at z
            exact absurd z (by decide)
        refine D u m hu hm ?_ hT g0
        rw [sd]
        exact fst_eq 101 0 m (by omega) (by omega) (fun j _ hj => hlo j hj) (Or.inr (by rw [fwbw]; exact g0))
      · have g0 : (rcN (dnN P σ a3) (upN P σ a3) a m).testBit b = false := by
          rw [fwbw, Bool.eq_false_iff]
          intro d
          rw [ra, vlS, if_pos d] at z
          exact z (val_lt (by omega) (by omega))
        have hlo2 : ∀ j, j < m + 1 → (rcN (dnN P σ a3) (upN P σ a3) a j).testBit b = false := fun j hj => by
          by_cases d : j = m
          · rw [d]; exact g0
          · exact hlo j (by omega)
        rw [nI_1]
        refine ⟨fun y => ?_, fun y => ?_⟩
        · have e100 : m = 100 := by
            have := (nI_ltI (a := 100) (b := m + 1) (by omega) (by omega)).mp y
            omega
          subst e100
          have s101 : soonN P σ a3 a b = 101 := by rw [sd]; exact fst_eq 101 0 101 (by omega) (by omega) (fun j _ hj => hlo2 j hj) (Or.inl rfl)
          rw [if_pos s101] at eR
          have tu := (fe u hu).2.2.2
          exact sg_X7_boat_51 hX ⟨fun _ => ⟨fun w => absurd w (by decide), fun _ => ⟨fun d => ok (by rw [eR, if_neg d]) tu, fun d => ok (by rw [eR, if_pos d]) tu⟩⟩, fun w => absurd y w⟩
        · have m99 : m < 100 := by
            rcases Nat.lt_or_ge m 100 with d | d
            · exact d
            · exact absurd (nI_lt (a := 100) (b := m + 1) (by omega) (by omega)) y
          refine ⟨_, ef u (m + 1) (by omega) hu, fun r w hw => ?_⟩
          obtain ⟨w1, w2, w3⟩ := hw
          rw [w1]
          exact sg_X7_boat_88 hX (ih m99 w ⟨w2.1.trans hu.1, fun i hi => (w2.2 i hi).trans (hu.2 i hi)⟩ hlo2 w3)
    refine ldown _ ?_ ?_
    · exact step 100 (Nat.le_refl _) (fun z => absurd z (by omega))
    · intro m hm ih
      exact step m (by omega) (fun _ => ih)
  refine ⟨_, ef v 0 (by omega) FR.rf, fun r w hw => ?_⟩
  obtain ⟨w1, w2, w3⟩ := hw
  rw [w1]
  exact sg_X7_boat_49 hX (L 0 (by omega) w w2 (fun j hj => absurd hj (by omega)) w3)

theorem op_boat {N : Nat} {h : AH} {x y z w : Int32} (hI : INV N h) (hNN : N ≤ 511) : OPP yX6_boat cX6_boat 6 5 147 yX7_boat cX7_boat 9 5 125 [.int x, .int y, .int z, .int w] N h := by
  obtain ⟨n, hn, e1, e2, hP⟩ := hI.2.1.2.1
  refine OPP.trial hI (c_X6_boat hn hI (by omega) e1 hP) (fun u iu f1 f2 f3 f4 => ?_)
  have := c_X7_boat (h := u) (a1 := x) (a2 := y) (a3 := z) (a4 := w) hn iu (by omega) (by rw [f3]; exact e2) (by rw [f1]; exact hP)
  rw [f1, f2] at this
  exact this
