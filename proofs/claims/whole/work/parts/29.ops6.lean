set_option maxRecDepth 100000 in
set_option maxHeartbeats 4000000 in
theorem sg_X7_watersOf_0 {Z : CX × GX} {post : Int32 → AH → Prop} {h : AH} {x1 : Int32} (hX : OK Z RX7 cX7_watersOf 4 (some .int) 0 0) 
    (w : EX Z 4 (QI Z post) 4 h [some (.ref 94), some (.int x1), some (.int 0), some (.int 0)] [])
    : EX Z 4 (QI Z post) 0 h [some (.ref 94), some (.int x1), none, none] [] := by
  refine ex_iconst (v := 0) hX dX7_watersOf_0 rfl ?_
  refine ex_istore_n (lv' := [some (.ref 94), some (.int x1), some (.int 0), none]) hX dX7_watersOf_1 rfl (by decide) rfl ?_
  refine ex_iconst (v := 0) hX dX7_watersOf_2 rfl ?_
  refine ex_istore_n (lv' := [some (.ref 94), some (.int x1), some (.int 0), some (.int 0)]) hX dX7_watersOf_3 rfl (by decide) rfl ?_
  exact w

set_option maxRecDepth 100000 in
set_option maxHeartbeats 4000000 in
theorem sg_X7_watersOf_4 {Z : CX × GX} {post : Int32 → AH → Prop} {h : AH} {x1 : Int32} {x2 : Int32} {x3 : Int32} (hX : OK Z RX7 cX7_watersOf 4 (some .int) 0 0) 
    (w : ((((h.1 94 9) - 1) ≤ x3 → post x2 h) ∧ (¬ ((h.1 94 9) - 1) ≤ x3 → (vp_in (x1 + x3) 800) ∧ (∀ v3 : Int32, v3 = x2 + (h.1 95 (Int32.toNatClampNeg (x1 + x3))) → EX Z 4 (QI Z post) 4 h [some (.ref 94), some (.int x1), some (.int v3), some (.int (x3 + 1))] []))))
    : EX Z 4 (QI Z post) 4 h [some (.ref 94), some (.int x1), some (.int x2), some (.int x3)] [] := by
  refine ex_iload_n hX dX7_watersOf_4 rfl rfl ?_
  refine ex_aload_n hX dX7_watersOf_5 rfl rfl ?_
  refine ex_get hX (.int (h.1 94 9)) FL_7_161 rfl (fun _ => rfl) dX7_watersOf_6 ?_
  refine ex_iconst (v := 1) hX dX7_watersOf_9 rfl ?_
  refine ex_isub hX dX7_watersOf_10 ?_
  refine ex_icmpge hX 31 dX7_watersOf_11 (by decide) (fun c1 => ?_) (fun c1 => ?_)
  · replace w := w.1 c1
    refine ex_iload_n hX dX7_watersOf_31 rfl rfl ?_
    exact ex_iret hX dX7_watersOf_32 rfl w
  · replace w := w.2 c1
    refine ex_iload_n hX dX7_watersOf_14 rfl rfl ?_
    refine ex_aload_n hX dX7_watersOf_15 rfl rfl ?_
    refine ex_get hX (.ref 95) FL_7_7 rfl (fun _ => rfl) dX7_watersOf_16 ?_
    refine ex_iload_n hX dX7_watersOf_19 rfl rfl ?_
    refine ex_iload_n hX dX7_watersOf_20 rfl rfl ?_
    refine ex_iadd hX dX7_watersOf_21 ?_
    obtain ⟨q2, w⟩ := w
    refine ex_iald hX rfl q2 dX7_watersOf_22 ?_
    refine ex_iadd hX dX7_watersOf_23 ?_
    refine ex_nameI (fun v3 ev3 => ?_)
    replace w := w v3 ev3
    refine ex_istore_n (lv' := [some (.ref 94), some (.int x1), some (.int v3), some (.int x3)]) hX dX7_watersOf_24 rfl (by decide) rfl ?_
    refine ex_iinc (v := x3 + 1) (lv' := [some (.ref 94), some (.int x1), some (.int v3), some (.int (x3 + 1))]) hX dX7_watersOf_25 rfl rfl (by decide) rfl ?_
    refine ex_goto hX 4 dX7_watersOf_28 (by decide) ?_
    exact w

set_option maxRecDepth 100000 in
set_option maxHeartbeats 4000000 in
theorem sg_X7_logsIn_0 {Z : CX × GX} {post : Int32 → AH → Prop} {h : AH} {x1 : Int32} (hX : OK Z RX7 cX7_logsIn 4 (some .int) 1 20) 
    (w : EX Z 4 (QI Z post) 4 h [some (.ref 94), some (.int x1), some (.int 0), some (.int 0)] [])
    : EX Z 4 (QI Z post) 0 h [some (.ref 94), some (.int x1), none, none] [] := by
  refine ex_iconst (v := 0) hX dX7_logsIn_0 rfl ?_
  refine ex_istore_n (lv' := [some (.ref 94), some (.int x1), some (.int 0), none]) hX dX7_logsIn_1 rfl (by decide) rfl ?_
  refine ex_iconst (v := 0) hX dX7_logsIn_2 rfl ?_
  refine ex_istore_n (lv' := [some (.ref 94), some (.int x1), some (.int 0), some (.int 0)]) hX dX7_logsIn_3 rfl (by decide) rfl ?_
  exact w

set_option maxRecDepth 100000 in
set_option maxHeartbeats 4000000 in
theorem sg_X7_logsIn_4 {Z : CX × GX} {post : Int32 → AH → Prop} {h : AH} {x1 : Int32} {x2 : Int32} {x3 : Int32} (hX : OK Z RX7 cX7_logsIn 4 (some .int) 1 20) 
    (w : (((h.1 95 (Int32.toNatClampNeg 51)) ≤ x3 → post x2 h) ∧ (¬ (h.1 95 (Int32.toNatClampNeg 51)) ≤ x3 → (vp_in (60 + x3) 800) ∧ (∀ v4 : Int32, v4 = (bI ((h.1 95 (Int32.toNatClampNeg (60 + x3))) = x1)) <<< (x3 &&& 31) → EX Z 4 (QI Z post) 4 h [some (.ref 94), some (.int x1), some (.int (x2 ||| v4)), some (.int (x3 + 1))] []))))
    : EX Z 4 (QI Z post) 4 h [some (.ref 94), some (.int x1), some (.int x2), some (.int x3)] [] := by
  refine ex_iload_n hX dX7_logsIn_4 rfl rfl ?_
  refine ex_aload_n hX dX7_logsIn_5 rfl rfl ?_
  refine ex_get hX (.ref 95) FL_7_7 rfl (fun _ => rfl) dX7_logsIn_6 ?_
  refine ex_bipush (v := 51) hX dX7_logsIn_9 rfl ?_
  refine ex_iald hX rfl (show ¬ ((51 : Int32) < 0 ∨ 800 ≤ (51 : Int32).toNatClampNeg) from by decide) dX7_logsIn_11 ?_
  refine ex_icmpge hX 47 dX7_logsIn_12 (by decide) (fun c1 => ?_) (fun c1 => ?_)
  · replace w := w.1 c1
    refine ex_iload_n hX dX7_logsIn_47 rfl rfl ?_
    exact ex_iret hX dX7_logsIn_48 rfl w
  · replace w := w.2 c1
    refine ex_iload_n hX dX7_logsIn_15 rfl rfl ?_
    refine ex_aload_n hX dX7_logsIn_16 rfl rfl ?_
    refine ex_get hX (.ref 95) FL_7_7 rfl (fun _ => rfl) dX7_logsIn_17 ?_
    refine ex_bipush (v := 60) hX dX7_logsIn_20 rfl ?_
    refine ex_iload_n hX dX7_logsIn_22 rfl rfl ?_
    refine ex_iadd hX dX7_logsIn_23 ?_
    obtain ⟨q2, w⟩ := w
    refine ex_iald hX rfl q2 dX7_logsIn_24 ?_
    refine ex_iload_n hX dX7_logsIn_25 rfl rfl ?_
    have kc3 : EX Z 4 (QI Z post) 34 h [some (.ref 94), some (.int x1), none, some (.int x3)] [.int (bI ((h.1 95 (Int32.toNatClampNeg (60 + x3))) = x1)), .int x2] := by
      refine ex_pIs (As := [.int (bI ((h.1 95 (Int32.toNatClampNeg (60 + x3))) = x1))]) (st := [.int x2]) hX (c_X7_oneB (h := h)) CS_7_125 MS_X7_one rfl (by decide) rfl (Nat.le_of_ble_eq_true rfl) dX7_logsIn_34 ?_
      refine ex_iload_n hX dX7_logsIn_37 rfl rfl ?_
      refine ex_ishl hX dX7_logsIn_38 ?_
      refine ex_nameI (fun v4 ev4 => ?_)
      replace w := w v4 ev4
      refine ex_ior hX dX7_logsIn_39 ?_
      refine ex_istore_n (lv' := [some (.ref 94), some (.int x1), some (.int (x2 ||| v4)), some (.int x3)]) hX dX7_logsIn_40 rfl (by decide) rfl ?_
      refine ex_iinc (v := x3 + 1) (lv' := [some (.ref 94), some (.int x1), some (.int (x2 ||| v4)), some (.int (x3 + 1))]) hX dX7_logsIn_41 rfl rfl (by decide) rfl ?_
      refine ex_goto hX 4 dX7_logsIn_44 (by decide) ?_
      exact w
    refine ex_icmpne hX 33 dX7_logsIn_26 (by decide) (fun c3 => ?_) (fun c3 => ?_)
    · refine ex_iconst (v := 0) hX dX7_logsIn_33 rfl ?_
      rw [show (bI ((h.1 95 (Int32.toNatClampNeg (60 + x3))) = x1)) = 0 from bI_f c3] at kc3
      exact ex_forget [some (.ref 94), some (.int x1), none, some (.int x3)] ⟨rfl, ⟨rfl, ⟨rfl, trivial⟩⟩⟩ kc3
    · refine ex_iconst (v := 1) hX dX7_logsIn_29 rfl ?_
      refine ex_goto hX 34 dX7_logsIn_30 (by decide) ?_
      rw [show (bI ((h.1 95 (Int32.toNatClampNeg (60 + x3))) = x1)) = 1 from bI_t c3] at kc3
      exact ex_forget [some (.ref 94), some (.int x1), none, some (.int x3)] ⟨rfl, ⟨rfl, ⟨rfl, trivial⟩⟩⟩ kc3

set_option maxRecDepth 100000 in
set_option maxHeartbeats 4000000 in
theorem sg_X6_told_0 {Z : CX × GX} {post : Int32 → AH → Prop} {h : AH} {x1 : Int32} (hX : OK Z RX6 cX6_told 2 (some .int) 1 23) 
    (w : ((x1 = 0 → post (h.1 (h.2 1) 0) h) ∧ (¬ x1 = 0 → ((x1 = 1 → post (h.1 (h.2 3) 0) h) ∧ (¬ x1 = 1 → ((x1 = 2 → post (h.1 1 1) h) ∧ (¬ x1 = 2 → ((x1 = 3 → post (h.1 27 0) h) ∧ (¬ x1 = 3 → ((x1 = 4 → post (h.1 (27 + 7) 0) h) ∧ (¬ x1 = 4 → ((x1 = 5 → post (h.1 0 12) h) ∧ (¬ x1 = 5 → ((x1 = 6 → (∃ PP : Int32 → AH → Prop, CI yX3_allWater cX3_allWater 4 (some .int) 0 0 [.ref 27, .ref (h.2 1)] h PP ∧ ∀ (r : Int32) (u : AH), PP r u → EX Z 2 (QI Z post) 103 u [none, none] (.int r :: []))) ∧ (¬ x1 = 6 → post (-100000002) h)))))))))))))))
    : EX Z 2 (QI Z post) 0 h [some (.ref 0), some (.int x1)] [] := by
  refine ex_iload_n hX dX6_told_0 rfl rfl ?_
  by_cases c1 : x1 = 0
  · replace w := w.1 c1
    refine ex_tabIn hX 44 dX6_told_1 (by rw [c1]; decide) (by rw [c1]; decide) (by rw [c1]; rfl) (by decide) ?_
    refine ex_aload_n hX dX6_told_44 rfl rfl ?_
    refine ex_gg (fun c2 => ?_)
    refine ex_get hX (.ref (h.2 1)) FL_6_19 rfl (fun _ => rfl) dX6_told_45 ?_
    refine ex_get hX (.int (h.1 (h.2 1) 0)) FL_6_100 c2.1 (fun _ => rfl) dX6_told_48 ?_
    exact ex_iret hX dX6_told_51 rfl w
  replace w := w.2 c1
  by_cases c3 : x1 = 1
  · replace w := w.1 c3
    refine ex_tabIn hX 52 dX6_told_1 (by rw [c3]; decide) (by rw [c3]; decide) (by rw [c3]; rfl) (by decide) ?_
    refine ex_aload_n hX dX6_told_52 rfl rfl ?_
    refine ex_gg (fun c4 => ?_)
    refine ex_get hX (.ref (h.2 3)) FL_6_29 rfl (fun _ => rfl) dX6_told_53 ?_
    refine ex_get hX (.int (h.1 (h.2 3) 0)) FL_6_91 c4.2.2.1 (fun _ => rfl) dX6_told_56 ?_
    exact ex_iret hX dX6_told_59 rfl w
  replace w := w.2 c3
  by_cases c5 : x1 = 2
  · replace w := w.1 c5
    refine ex_tabIn hX 60 dX6_told_1 (by rw [c5]; decide) (by rw [c5]; decide) (by rw [c5]; rfl) (by decide) ?_
    refine ex_aload_n hX dX6_told_60 rfl rfl ?_
    refine ex_get hX (.ref 1) FL_6_10 rfl (fun _ => rfl) dX6_told_61 ?_
    refine ex_get hX (.int (h.1 1 1)) FL_6_77 rfl (fun _ => rfl) dX6_told_64 ?_
    exact ex_iret hX dX6_told_67 rfl w
  replace w := w.2 c5
  by_cases c6 : x1 = 3
  · replace w := w.1 c6
    refine ex_tabIn hX 68 dX6_told_1 (by rw [c6]; decide) (by rw [c6]; decide) (by rw [c6]; rfl) (by decide) ?_
    refine ex_aload_n hX dX6_told_68 rfl rfl ?_
    refine ex_get hX (.ref 27) FL_6_39 rfl (fun _ => rfl) dX6_told_69 ?_
    refine ex_get hX (.int (h.1 27 0)) FL_6_108 rfl (fun _ => rfl) dX6_told_72 ?_
    exact ex_iret hX dX6_told_75 rfl w
  replace w := w.2 c6
  by_cases c7 : x1 = 4
  · replace w := w.1 c7
    refine ex_tabIn hX 76 dX6_told_1 (by rw [c7]; decide) (by rw [c7]; decide) (by rw [c7]; rfl) (by decide) ?_
    refine ex_aload_n hX dX6_told_76 rfl rfl ?_
    refine ex_get hX (.ref 27) FL_6_39 rfl (fun _ => rfl) dX6_told_77 ?_
    refine ex_get hX (.ref (27 + 7)) FL_6_111 rfl (fun _ => rfl) dX6_told_80 ?_
    refine ex_get hX (.int (h.1 (27 + 7) 0)) FL_6_115 (sh_3_7 rfl) (fun _ => rfl) dX6_told_83 ?_
    exact ex_iret hX dX6_told_86 rfl w
  replace w := w.2 c7
  by_cases c8 : x1 = 5
  · replace w := w.1 c8
    refine ex_tabIn hX 87 dX6_told_1 (by rw [c8]; decide) (by rw [c8]; decide) (by rw [c8]; rfl) (by decide) ?_
    refine ex_aload_n hX dX6_told_87 rfl rfl ?_
    refine ex_get hX (.int (h.1 0 12)) FL_6_97 rfl (fun _ => rfl) dX6_told_88 ?_
    exact ex_iret hX dX6_told_91 rfl w
  replace w := w.2 c8
  by_cases c9 : x1 = 6
  · replace w := w.1 c9
    refine ex_tabIn hX 92 dX6_told_1 (by rw [c9]; decide) (by rw [c9]; decide) (by rw [c9]; rfl) (by decide) ?_
    refine ex_aload_n hX dX6_told_92 rfl rfl ?_
    refine ex_get hX (.ref 27) FL_6_39 rfl (fun _ => rfl) dX6_told_93 ?_
    refine ex_aload_n hX dX6_told_96 rfl rfl ?_
    refine ex_gg (fun c10 => ?_)
    refine ex_get hX (.ref (h.2 1)) FL_6_19 rfl (fun _ => rfl) dX6_told_97 ?_
    obtain ⟨PP, pM, pK⟩ := w
    exact ex_callIv (ci := 3) (i := 27) (As := [.ref (h.2 1)]) (st := []) hX pM CS_6_118 MS_X3_allWater rfl rfl rfl (by decide) rfl (Nat.le_of_ble_eq_true rfl) dX6_told_100 (fun r u hp => ex_forget [none, none] trivial (pK r u hp))
  replace w := w.2 c9
  refine ex_tabOut hX 104 dX6_told_1 (tabout 6 (by decide) (fun k hk => by rcases (show k = 0 ∨ k = 1 ∨ k = 2 ∨ k = 3 ∨ k = 4 ∨ k = 5 ∨ k = 6 by omega) with rfl | rfl | rfl | rfl | rfl | rfl | rfl <;> assumption)) (by decide) ?_
  refine ex_ldc hX dX6_told_104 KC_6_72 ?_
  exact ex_iret hX dX6_told_106 rfl w

set_option maxRecDepth 100000 in
set_option maxHeartbeats 4000000 in
theorem sg_X6_told_103 {Z : CX × GX} {post : Int32 → AH → Prop} {h : AH} {s0 : Int32} (hX : OK Z RX6 cX6_told 2 (some .int) 1 23) 
    (w : post s0 h)
    : EX Z 2 (QI Z post) 103 h [none, none] [.int s0] := by
  exact ex_iret hX dX6_told_103 rfl w

set_option maxRecDepth 100000 in
set_option maxHeartbeats 4000000 in
theorem sg_X7_told_0 {Z : CX × GX} {post : Int32 → AH → Prop} {h : AH} {x1 : Int32} (hX : OK Z RX7 cX7_told 2 (some .int) 1 23) 
    (w : ((x1 = 0 → post (h.1 94 9) h) ∧ (¬ x1 = 0 → ((x1 = 1 → post (h.1 94 14) h) ∧ (¬ x1 = 1 → ((x1 = 2 → post (h.1 94 17) h) ∧ (¬ x1 = 2 → ((x1 = 3 → post (h.1 95 (Int32.toNatClampNeg 50)) h) ∧ (¬ x1 = 3 → ((x1 = 4 → post (h.1 95 (Int32.toNatClampNeg 51)) h) ∧ (¬ x1 = 4 → ((x1 = 5 → post (h.1 94 32) h) ∧ (¬ x1 = 5 → ((x1 = 6 → (∃ PP : Int32 → AH → Prop, CI yX7_watersOf cX7_watersOf 4 (some .int) 0 0 [.ref 94, .int 0] h PP ∧ ∀ (r : Int32) (u : AH), PP r u → EX Z 2 (QI Z post) 85 u [none, none] (.int r :: []))) ∧ (¬ x1 = 6 → post (-100000002) h)))))))))))))))
    : EX Z 2 (QI Z post) 0 h [some (.ref 94), some (.int x1)] [] := by
  refine ex_iload_n hX dX7_told_0 rfl rfl ?_
  by_cases c1 : x1 = 0
  · replace w := w.1 c1
    refine ex_tabIn hX 44 dX7_told_1 (by rw [c1]; decide) (by rw [c1]; decide) (by rw [c1]; rfl) (by decide) ?_
    refine ex_aload_n hX dX7_told_44 rfl rfl ?_
    refine ex_get hX (.int (h.1 94 9)) FL_7_161 rfl (fun _ => rfl) dX7_told_45 ?_
    exact ex_iret hX dX7_told_48 rfl w
  replace w := w.2 c1
  by_cases c2 : x1 = 1
  · replace w := w.1 c2
    refine ex_tabIn hX 49 dX7_told_1 (by rw [c2]; decide) (by rw [c2]; decide) (by rw [c2]; rfl) (by decide) ?_
    refine ex_aload_n hX dX7_told_49 rfl rfl ?_
    refine ex_get hX (.int (h.1 94 14)) FL_7_164 rfl (fun _ => rfl) dX7_told_50 ?_
    exact ex_iret hX dX7_told_53 rfl w
  replace w := w.2 c2
  by_cases c3 : x1 = 2
  · replace w := w.1 c3
    refine ex_tabIn hX 54 dX7_told_1 (by rw [c3]; decide) (by rw [c3]; decide) (by rw [c3]; rfl) (by decide) ?_
    refine ex_aload_n hX dX7_told_54 rfl rfl ?_
    refine ex_get hX (.int (h.1 94 17)) FL_7_76 rfl (fun _ => rfl) dX7_told_55 ?_
    exact ex_iret hX dX7_told_58 rfl w
  replace w := w.2 c3
  by_cases c4 : x1 = 3
  · replace w := w.1 c4
    refine ex_tabIn hX 59 dX7_told_1 (by rw [c4]; decide) (by rw [c4]; decide) (by rw [c4]; rfl) (by decide) ?_
    refine ex_aload_n hX dX7_told_59 rfl rfl ?_
    refine ex_get hX (.ref 95) FL_7_7 rfl (fun _ => rfl) dX7_told_60 ?_
    refine ex_bipush (v := 50) hX dX7_told_63 rfl ?_
    refine ex_iald hX rfl (show ¬ ((50 : Int32) < 0 ∨ 800 ≤ (50 : Int32).toNatClampNeg) from by decide) dX7_told_65 ?_
    exact ex_iret hX dX7_told_66 rfl w
  replace w := w.2 c4
  by_cases c5 : x1 = 4
  · replace w := w.1 c5
    refine ex_tabIn hX 67 dX7_told_1 (by rw [c5]; decide) (by rw [c5]; decide) (by rw [c5]; rfl) (by decide) ?_
    refine ex_aload_n hX dX7_told_67 rfl rfl ?_
    refine ex_get hX (.ref 95) FL_7_7 rfl (fun _ => rfl) dX7_told_68 ?_
    refine ex_bipush (v := 51) hX dX7_told_71 rfl ?_
    refine ex_iald hX rfl (show ¬ ((51 : Int32) < 0 ∨ 800 ≤ (51 : Int32).toNatClampNeg) from by decide) dX7_told_73 ?_
    exact ex_iret hX dX7_told_74 rfl w
  replace w := w.2 c5
  by_cases c6 : x1 = 5
  · replace w := w.1 c6
    refine ex_tabIn hX 75 dX7_told_1 (by rw [c6]; decide) (by rw [c6]; decide) (by rw [c6]; rfl) (by decide) ?_
    refine ex_aload_n hX dX7_told_75 rfl rfl ?_
    refine ex_get hX (.int (h.1 94 32)) FL_7_167 rfl (fun _ => rfl) dX7_told_76 ?_
    exact ex_iret hX dX7_told_79 rfl w
  replace w := w.2 c6
  by_cases c7 : x1 = 6
  · replace w := w.1 c7
    refine ex_tabIn hX 80 dX7_told_1 (by rw [c7]; decide) (by rw [c7]; decide) (by rw [c7]; rfl) (by decide) ?_
    refine ex_aload_n hX dX7_told_80 rfl rfl ?_
    refine ex_iconst (v := 0) hX dX7_told_81 rfl ?_
    obtain ⟨PP, pM, pK⟩ := w
    exact ex_callIv (ci := 7) (i := 94) (As := [.int 0]) (st := []) hX pM CS_7_177 MS_X7_watersOf rfl rfl rfl (by decide) rfl (Nat.le_of_ble_eq_true rfl) dX7_told_82 (fun r u hp => ex_forget [none, none] trivial (pK r u hp))
  replace w := w.2 c7
  refine ex_tabOut hX 86 dX7_told_1 (tabout 6 (by decide) (fun k hk => by rcases (show k = 0 ∨ k = 1 ∨ k = 2 ∨ k = 3 ∨ k = 4 ∨ k = 5 ∨ k = 6 by omega) with rfl | rfl | rfl | rfl | rfl | rfl | rfl <;> assumption)) (by decide) ?_
  refine ex_ldc hX dX7_told_86 KC_7_75 ?_
  exact ex_iret hX dX7_told_88 rfl w

set_option maxRecDepth 100000 in
set_option maxHeartbeats 4000000 in
theorem sg_X7_told_85 {Z : CX × GX} {post : Int32 → AH → Prop} {h : AH} {s0 : Int32} (hX : OK Z RX7 cX7_told 2 (some .int) 1 23) 
    (w : post s0 h)
    : EX Z 2 (QI Z post) 85 h [none, none] [.int s0] := by
  exact ex_iret hX dX7_told_85 rfl w

set_option maxRecDepth 100000 in
set_option maxHeartbeats 4000000 in
theorem sg_X6_node_0 {Z : CX × GX} {post : Int32 → AH → Prop} {h : AH} {x1 : Int32} {x2 : Int32} (hX : OK Z RX6 cX6_node 3 (some .int) 3 66) 
    (w : (((0 ≤ x1 ∧ x1 < h.1 (h.2 1) 0) → ((x2 = 0 → (vp_in x1 10) ∧ (∀ v6 : Int32, v6 = h.1 ((h.2 1) + 1) (Int32.toNatClampNeg x1) → post v6 h)) ∧ (¬ x2 = 0 → ((x2 = 1 → (vp_in x1 10) ∧ (∀ v10 : Int32, v10 = h.1 ((h.2 1) + 2) (Int32.toNatClampNeg x1) → post v10 h)) ∧ (¬ x2 = 1 → ((x2 = 2 → (vp_in x1 10) ∧ post (h.1 (27 + 1) (Int32.toNatClampNeg x1)) h) ∧ (¬ x2 = 2 → ((x2 = 3 → (LPc h.1 27 (h.2 1) x1) ∧ post (lvC h.1 27 (h.2 1) x1) h) ∧ (¬ x2 = 3 → ((x2 = 4 → (∃ PP : Int32 → AH → Prop, CI yX5_lyingIn cX5_lyingIn 4 (some .int) 0 0 [.ref (27 + 7), .int x1] h PP ∧ ∀ (r : Int32) (u : AH), PP r u → EX Z 3 (QI Z post) 102 u [none, none, none] (.int r :: []))) ∧ (¬ x2 = 4 → post (-100000002) h))))))))))) ∧ (¬ (0 ≤ x1 ∧ x1 < h.1 (h.2 1) 0) → post (-100000001) h)))
    : EX Z 3 (QI Z post) 0 h [some (.ref 0), some (.int x1), some (.int x2)] [] := by
  refine ex_aload_n hX dX6_node_0 rfl rfl ?_
  refine ex_gg (fun c1 => ?_)
  refine ex_get hX (.ref (h.2 1)) FL_6_19 rfl (fun _ => rfl) dX6_node_1 ?_
  refine ex_iload_n hX dX6_node_4 rfl rfl ?_
  refine ex_pIv (ci := 0) (i := h.2 1) (As := [.int x1]) (st := []) hX (c_X0_isNode (h := h) c1.1) CS_6_122 MS_X0_isNode rfl c1.1 rfl (by decide) rfl (Nat.le_of_ble_eq_true rfl) dX6_node_5 ?_
  refine ex_ifneB hX 14 dX6_node_8 (by decide) (fun c2 => ?_) (fun c2 => ?_)
  · replace w := w.1 c2
    refine ex_iload_n hX dX6_node_14 rfl rfl ?_
    by_cases c3 : x2 = 0
    · replace w := w.1 c3
      refine ex_tabIn hX 48 dX6_node_15 (by rw [c3]; decide) (by rw [c3]; decide) (by rw [c3]; rfl) (by decide) ?_
      refine ex_aload_n hX dX6_node_48 rfl rfl ?_
      refine ex_gg (fun c4 => ?_)
      refine ex_get hX (.ref (h.2 1)) FL_6_19 rfl (fun _ => rfl) dX6_node_49 ?_
      refine ex_get hX (.ref ((h.2 1) + 1)) FL_6_127 c4.1 (fun _ => rfl) dX6_node_52 ?_
      refine ex_iload_n hX dX6_node_55 rfl rfl ?_
      obtain ⟨q5, w⟩ := w
      refine ex_iald hX (sh_0_1 c4.1) q5 dX6_node_56 ?_
      refine ex_nameI (fun v6 ev6 => ?_)
      replace w := w v6 ev6
      exact ex_iret hX dX6_node_57 rfl w
    replace w := w.2 c3
    by_cases c7 : x2 = 1
    · replace w := w.1 c7
      refine ex_tabIn hX 58 dX6_node_15 (by rw [c7]; decide) (by rw [c7]; decide) (by rw [c7]; rfl) (by decide) ?_
      refine ex_aload_n hX dX6_node_58 rfl rfl ?_
      refine ex_gg (fun c8 => ?_)
      refine ex_get hX (.ref (h.2 1)) FL_6_19 rfl (fun _ => rfl) dX6_node_59 ?_
      refine ex_get hX (.ref ((h.2 1) + 2)) FL_6_130 c8.1 (fun _ => rfl) dX6_node_62 ?_
      refine ex_iload_n hX dX6_node_65 rfl rfl ?_
      obtain ⟨q9, w⟩ := w
      refine ex_iald hX (sh_0_2 c8.1) q9 dX6_node_66 ?_
      refine ex_nameI (fun v10 ev10 => ?_)
      replace w := w v10 ev10
      exact ex_iret hX dX6_node_67 rfl w
    replace w := w.2 c7
    by_cases c11 : x2 = 2
    · replace w := w.1 c11
      refine ex_tabIn hX 68 dX6_node_15 (by rw [c11]; decide) (by rw [c11]; decide) (by rw [c11]; rfl) (by decide) ?_
      refine ex_aload_n hX dX6_node_68 rfl rfl ?_
      refine ex_get hX (.ref 27) FL_6_39 rfl (fun _ => rfl) dX6_node_69 ?_
      refine ex_get hX (.ref (27 + 1)) FL_6_133 rfl (fun _ => rfl) dX6_node_72 ?_
      refine ex_iload_n hX dX6_node_75 rfl rfl ?_
      obtain ⟨q12, w⟩ := w
      refine ex_iald hX (sh_3_1 rfl) q12 dX6_node_76 ?_
      exact ex_iret hX dX6_node_77 rfl w
    replace w := w.2 c11
    by_cases c13 : x2 = 3
    · replace w := w.1 c13
      refine ex_tabIn hX 78 dX6_node_15 (by rw [c13]; decide) (by rw [c13]; decide) (by rw [c13]; rfl) (by decide) ?_
      refine ex_aload_n hX dX6_node_78 rfl rfl ?_
      refine ex_get hX (.ref 27) FL_6_39 rfl (fun _ => rfl) dX6_node_79 ?_
      refine ex_aload_n hX dX6_node_82 rfl rfl ?_
      refine ex_gg (fun c14 => ?_)
      refine ex_get hX (.ref (h.2 1)) FL_6_19 rfl (fun _ => rfl) dX6_node_83 ?_
      refine ex_iload_n hX dX6_node_86 rfl rfl ?_
      obtain ⟨q15, w⟩ := w
      refine ex_pIv (ci := 3) (i := 27) (As := [.ref (h.2 1), .int x1]) (st := []) hX (c_X3_levelOf (h := h) rfl c14.1 q15) CS_6_136 MS_X3_levelOf rfl rfl rfl (by decide) rfl (Nat.le_of_ble_eq_true rfl) dX6_node_87 ?_
      exact ex_iret hX dX6_node_90 rfl w
    replace w := w.2 c13
    by_cases c16 : x2 = 4
    · replace w := w.1 c16
      refine ex_tabIn hX 91 dX6_node_15 (by rw [c16]; decide) (by rw [c16]; decide) (by rw [c16]; rfl) (by decide) ?_
      refine ex_aload_n hX dX6_node_91 rfl rfl ?_
      refine ex_get hX (.ref 27) FL_6_39 rfl (fun _ => rfl) dX6_node_92 ?_
      refine ex_get hX (.ref (27 + 7)) FL_6_111 rfl (fun _ => rfl) dX6_node_95 ?_
      refine ex_iload_n hX dX6_node_98 rfl rfl ?_
      obtain ⟨PP, pM, pK⟩ := w
      exact ex_callIv (ci := 5) (i := 27 + 7) (As := [.int x1]) (st := []) hX pM CS_6_140 MS_X5_lyingIn rfl (sh_3_7 rfl) rfl (by decide) rfl (Nat.le_of_ble_eq_true rfl) dX6_node_99 (fun r u hp => ex_forget [none, none, none] trivial (pK r u hp))
    replace w := w.2 c16
    refine ex_tabOut hX 103 dX6_node_15 (tabout 4 (by decide) (fun k hk => by rcases (show k = 0 ∨ k = 1 ∨ k = 2 ∨ k = 3 ∨ k = 4 by omega) with rfl | rfl | rfl | rfl | rfl <;> assumption)) (by decide) ?_
    refine ex_ldc hX dX6_node_103 KC_6_72 ?_
    exact ex_iret hX dX6_node_105 rfl w
  · replace w := w.2 c2
    refine ex_ldc hX dX6_node_11 KC_6_126 ?_
    exact ex_iret hX dX6_node_13 rfl w

set_option maxRecDepth 100000 in
set_option maxHeartbeats 4000000 in
theorem sg_X6_node_102 {Z : CX × GX} {post : Int32 → AH → Prop} {h : AH} {s0 : Int32} (hX : OK Z RX6 cX6_node 3 (some .int) 3 66) 
    (w : post s0 h)
    : EX Z 3 (QI Z post) 102 h [none, none, none] [.int s0] := by
  exact ex_iret hX dX6_node_102 rfl w

set_option maxRecDepth 100000 in
set_option maxHeartbeats 4000000 in
theorem sg_X7_node_0 {Z : CX × GX} {post : Int32 → AH → Prop} {h : AH} {x1 : Int32} {x2 : Int32} (hX : OK Z RX7 cX7_node 3 (some .int) 2 46) 
    (w : (((0 ≤ x1 ∧ x1 ≤ h.1 94 9 - 1) → ((x2 = 0 → ((¬ x1 = (h.1 94 9 - 1) → (vp_in x1 20) ∧ post (h.1 97 (Int32.toNatClampNeg x1)) h) ∧ (x1 = (h.1 94 9 - 1) → post 0 h))) ∧ (¬ x2 = 0 → ((x2 = 1 → ((¬ x1 = (h.1 94 9 - 1) → (vp_in x1 20) ∧ post (h.1 98 (Int32.toNatClampNeg x1)) h) ∧ (x1 = (h.1 94 9 - 1) → post 0 h))) ∧ (¬ x2 = 1 → ((x2 = 2 → ((¬ x1 = (h.1 94 9 - 1) → (vp_in x1 800) ∧ post (h.1 95 (Int32.toNatClampNeg x1)) h) ∧ (x1 = (h.1 94 9 - 1) → post 0 h))) ∧ (¬ x2 = 2 → ((x2 = 3 → (LPm h.1 0 x1) ∧ post (lvM h.1 0 x1) h) ∧ (¬ x2 = 3 → ((x2 = 4 → (∃ PP : Int32 → AH → Prop, CI yX7_logsIn cX7_logsIn 4 (some .int) 1 20 [.ref 94, .int x1] h PP ∧ ∀ (r : Int32) (u : AH), PP r u → EX Z 3 (QI Z post) 117 u [none, none, none] (.int r :: []))) ∧ (¬ x2 = 4 → post (-100000002) h))))))))))) ∧ (¬ (0 ≤ x1 ∧ x1 ≤ h.1 94 9 - 1) → post (-100000001) h)))
    : EX Z 3 (QI Z post) 0 h [some (.ref 94), some (.int x1), some (.int x2)] [] := by
  refine ex_aload_n hX dX7_node_0 rfl rfl ?_
  refine ex_iload_n hX dX7_node_1 rfl rfl ?_
  refine ex_pIv (ci := 7) (i := 94) (As := [.int x1]) (st := []) hX (c_X7_isNode (h := h)) CS_7_181 MS_X7_isNode rfl rfl rfl (by decide) rfl (Nat.le_of_ble_eq_true rfl) dX7_node_2 ?_
  refine ex_ifneB hX 11 dX7_node_5 (by decide) (fun c1 => ?_) (fun c1 => ?_)
  · replace w := w.1 c1
    refine ex_iload_n hX dX7_node_11 rfl rfl ?_
    by_cases c2 : x2 = 0
    · replace w := w.1 c2
      refine ex_tabIn hX 48 dX7_node_12 (by rw [c2]; decide) (by rw [c2]; decide) (by rw [c2]; rfl) (by decide) ?_
      refine ex_iload_n hX dX7_node_48 rfl rfl ?_
      refine ex_aload_n hX dX7_node_49 rfl rfl ?_
      refine ex_pIv (ci := 7) (i := 94) (As := []) (st := [.int x1]) hX (c_X7_sea (h := h)) CS_7_174 MS_X7_sea rfl rfl rfl (by decide) rfl (Nat.le_of_ble_eq_true rfl) dX7_node_50 ?_
      refine ex_icmpne hX 60 dX7_node_53 (by decide) (fun c3 => ?_) (fun c3 => ?_)
      · replace w := w.1 c3
        refine ex_aload_n hX dX7_node_60 rfl rfl ?_
        refine ex_get hX (.ref 97) FL_7_17 rfl (fun _ => rfl) dX7_node_61 ?_
        refine ex_iload_n hX dX7_node_64 rfl rfl ?_
        obtain ⟨q4, w⟩ := w
        refine ex_iald hX rfl q4 dX7_node_65 ?_
        exact ex_iret hX dX7_node_66 rfl w
      · replace w := w.2 c3
        refine ex_iconst (v := 0) hX dX7_node_56 rfl ?_
        refine ex_goto hX 66 dX7_node_57 (by decide) ?_
        exact ex_iret hX dX7_node_66 rfl w
    replace w := w.2 c2
    by_cases c5 : x2 = 1
    · replace w := w.1 c5
      refine ex_tabIn hX 67 dX7_node_12 (by rw [c5]; decide) (by rw [c5]; decide) (by rw [c5]; rfl) (by decide) ?_
      refine ex_iload_n hX dX7_node_67 rfl rfl ?_
      refine ex_aload_n hX dX7_node_68 rfl rfl ?_
      refine ex_pIv (ci := 7) (i := 94) (As := []) (st := [.int x1]) hX (c_X7_sea (h := h)) CS_7_174 MS_X7_sea rfl rfl rfl (by decide) rfl (Nat.le_of_ble_eq_true rfl) dX7_node_69 ?_
      refine ex_icmpne hX 79 dX7_node_72 (by decide) (fun c6 => ?_) (fun c6 => ?_)
      · replace w := w.1 c6
        refine ex_aload_n hX dX7_node_79 rfl rfl ?_
        refine ex_get hX (.ref 98) FL_7_20 rfl (fun _ => rfl) dX7_node_80 ?_
        refine ex_iload_n hX dX7_node_83 rfl rfl ?_
        obtain ⟨q7, w⟩ := w
        refine ex_iald hX rfl q7 dX7_node_84 ?_
        exact ex_iret hX dX7_node_85 rfl w
      · replace w := w.2 c6
        refine ex_iconst (v := 0) hX dX7_node_75 rfl ?_
        refine ex_goto hX 85 dX7_node_76 (by decide) ?_
        exact ex_iret hX dX7_node_85 rfl w
    replace w := w.2 c5
    by_cases c8 : x2 = 2
    · replace w := w.1 c8
      refine ex_tabIn hX 86 dX7_node_12 (by rw [c8]; decide) (by rw [c8]; decide) (by rw [c8]; rfl) (by decide) ?_
      refine ex_iload_n hX dX7_node_86 rfl rfl ?_
      refine ex_aload_n hX dX7_node_87 rfl rfl ?_
      refine ex_pIv (ci := 7) (i := 94) (As := []) (st := [.int x1]) hX (c_X7_sea (h := h)) CS_7_174 MS_X7_sea rfl rfl rfl (by decide) rfl (Nat.le_of_ble_eq_true rfl) dX7_node_88 ?_
      refine ex_icmpne hX 98 dX7_node_91 (by decide) (fun c9 => ?_) (fun c9 => ?_)
      · replace w := w.1 c9
        refine ex_aload_n hX dX7_node_98 rfl rfl ?_
        refine ex_get hX (.ref 95) FL_7_7 rfl (fun _ => rfl) dX7_node_99 ?_
        refine ex_iload_n hX dX7_node_102 rfl rfl ?_
        obtain ⟨q10, w⟩ := w
        refine ex_iald hX rfl q10 dX7_node_103 ?_
        exact ex_iret hX dX7_node_104 rfl w
      · replace w := w.2 c9
        refine ex_iconst (v := 0) hX dX7_node_94 rfl ?_
        refine ex_goto hX 104 dX7_node_95 (by decide) ?_
        exact ex_iret hX dX7_node_104 rfl w
    replace w := w.2 c8
    by_cases c11 : x2 = 3
    · replace w := w.1 c11
      refine ex_tabIn hX 105 dX7_node_12 (by rw [c11]; decide) (by rw [c11]; decide) (by rw [c11]; rfl) (by decide) ?_
      refine ex_aload_n hX dX7_node_105 rfl rfl ?_
      refine ex_iconst (v := 0) hX dX7_node_106 rfl ?_
      refine ex_iload_n hX dX7_node_107 rfl rfl ?_
      obtain ⟨q12, w⟩ := w
      refine ex_pIv (ci := 7) (i := 94) (As := [.int 0, .int x1]) (st := []) hX (c_X7_levelOf (h := h) q12) CS_7_186 MS_X7_levelOf rfl rfl rfl (by decide) rfl (Nat.le_of_ble_eq_true rfl) dX7_node_108 ?_
      exact ex_iret hX dX7_node_111 rfl w
    replace w := w.2 c11
    by_cases c13 : x2 = 4
    · replace w := w.1 c13
      refine ex_tabIn hX 112 dX7_node_12 (by rw [c13]; decide) (by rw [c13]; decide) (by rw [c13]; rfl) (by decide) ?_
      refine ex_aload_n hX dX7_node_112 rfl rfl ?_
      refine ex_iload_n hX dX7_node_113 rfl rfl ?_
      obtain ⟨PP, pM, pK⟩ := w
      exact ex_callIv (ci := 7) (i := 94) (As := [.int x1]) (st := []) hX pM CS_7_189 MS_X7_logsIn rfl rfl rfl (by decide) rfl (Nat.le_of_ble_eq_true rfl) dX7_node_114 (fun r u hp => ex_forget [none, none, none] trivial (pK r u hp))
    replace w := w.2 c13
    refine ex_tabOut hX 118 dX7_node_12 (tabout 4 (by decide) (fun k hk => by rcases (show k = 0 ∨ k = 1 ∨ k = 2 ∨ k = 3 ∨ k = 4 by omega) with rfl | rfl | rfl | rfl | rfl <;> assumption)) (by decide) ?_
    refine ex_ldc hX dX7_node_118 KC_7_75 ?_
    exact ex_iret hX dX7_node_120 rfl w
  · replace w := w.2 c1
    refine ex_ldc hX dX7_node_8 KC_7_185 ?_
    exact ex_iret hX dX7_node_10 rfl w

set_option maxRecDepth 100000 in
set_option maxHeartbeats 4000000 in
theorem sg_X7_node_117 {Z : CX × GX} {post : Int32 → AH → Prop} {h : AH} {s0 : Int32} (hX : OK Z RX7 cX7_node 3 (some .int) 2 46) 
    (w : post s0 h)
    : EX Z 3 (QI Z post) 117 h [none, none, none] [.int s0] := by
  exact ex_iret hX dX7_node_117 rfl w

def sumI : Nat → SG → Int32
  | 0, _ => 0
  | m + 1, σ => sumI m σ + σ m
/-- the SET of the logs in a node -/
def lgS (σ : SG) (k : Int32) : Nat → Int32
  | 0 => 0
  | m + 1 => if σ (60 + m) = k then lgS σ k m ||| ((1 : Int32) <<< (nI m &&& 31)) else lgS σ k m

set_option maxRecDepth 100000 in
set_option maxHeartbeats 4000000 in
theorem c_X3_allWater {h : AH} {a0 : Nat} {a1 : Nat} (ha0 : oc a0 = some 3) (ha1 : oc a1 = some 0) {n : Nat} (hn : n ≤ 10) (en : h.1 a1 0 = nI n) : CI yX3_allWater cX3_allWater 4 (some .int) 0 0 [.ref a0, .ref a1] h (fun r u => r = sumI (n - 1) (mk (cs h.1 a0)) ∧ u = h) := by
  refine CI.of [some (.ref a0), some (.ref a1), none, none] (by decide +kernel) rfl (Nat.le_of_ble_eq_true rfl) rfl (fun Z hX => ?_)
  have L : ∀ k, k ≤ n - 1 → EX Z 4 (QI Z (fun r u => r = sumI (n - 1) (mk (cs h.1 a0)) ∧ u = h)) 4 h [some (.ref a0), some (.ref a1), some (.int (sumI k (mk (cs h.1 a0)))), some (.int (nI k))] [] := by
    refine ldown _ ?_ ?_
    · refine sg_X3_allWater_4 hX ha0 ha1 ⟨fun _ => ⟨rfl, rfl⟩, fun z => absurd ?_ z⟩
      rw [en, k_1, Int32.le_iff_toInt_le, nsub hn (by omega), nI_toInt (by omega)]
      omega
    · intro k hk ih
      refine sg_X3_allWater_4 hX ha0 ha1 ⟨fun z => absurd z ?_, fun _ => ⟨vp_in_nI (by omega) (by omega), fun v ev => ?_⟩⟩
      · rw [en, k_1, pk_sub (by omega)]; exact nI_ge hk (by omega)
      · rw [nI_clamp (by omega), mkc_at (f := h.1) (s := a0) (loc_w k (by omega)) (by unfold rel; omega)] at ev
        rw [nI_1, ev]
        exact ih
  exact sg_X3_allWater_0 hX ha0 ha1 (L 0 (by omega))

set_option maxRecDepth 100000 in
set_option maxHeartbeats 4000000 in
theorem c_X7_watersOf {h : AH} {a1 : Int32}  {n : Nat} (e1 : a1 = 0) (hn : n ≤ 10) (en : h.1 94 9 = nI n) : CI yX7_watersOf cX7_watersOf 4 (some .int) 0 0 [.ref 94, .int a1] h (fun r u => r = sumI (n - 1) (mk (ms h.1 0)) ∧ u = h) := by
  refine CI.of [some (.ref 94), some (.int a1), none, none] (by decide +kernel) rfl (Nat.le_of_ble_eq_true rfl) rfl (fun Z hX => ?_)
  subst e1
  have L : ∀ k, k ≤ n - 1 → EX Z 4 (QI Z (fun r u => r = sumI (n - 1) (mk (ms h.1 0)) ∧ u = h)) 4 h [some (.ref 94), some (.int 0), some (.int (sumI k (mk (ms h.1 0)))), some (.int (nI k))] [] := by
    refine ldown _ ?_ ?_
    · refine sg_X7_watersOf_4 hX ⟨fun _ => ⟨rfl, rfl⟩, fun z => absurd ?_ z⟩
      rw [en, k_1, Int32.le_iff_toInt_le, nsub hn (by omega), nI_toInt (by omega)]
      omega
    · intro k hk ih
      have e0 : (0 : Int32) + nI k = nI k := by rw [k_0, nI_add, Nat.zero_add]
      refine sg_X7_watersOf_4 hX ⟨fun z => absurd z ?_, fun _ => ⟨by rw [e0]; exact vp_in_nI (by omega) (by omega), fun v ev => ?_⟩⟩
      · rw [en, k_1, pk_sub (by omega)]; exact nI_ge hk (by omega)
      · rw [e0, nI_clamp (by omega), m0_at (f := h.1) (k := k) (by unfold rel; omega)] at ev
        rw [nI_1, ev]
        exact ih
  exact sg_X7_watersOf_0 hX (L 0 (by omega))

set_option maxRecDepth 100000 in
set_option maxHeartbeats 4000000 in
theorem c_X5_lyingIn {h : AH} {a0 : Nat} {a1 : Int32} (ha0 : oc a0 = some 5) {s c : Nat} (e0 : a0 = s + 7) (hc : c ≤ 12) (ec : h.1 (s + 7) 0 = nI c) : CI yX5_lyingIn cX5_lyingIn 4 (some .int) 0 0 [.ref a0, .int a1] h (fun r u => r = lgS (mk (cs h.1 s)) a1 c ∧ u = h) := by
  refine CI.of [some (.ref a0), some (.int a1), none, none] (by decide +kernel) rfl (Nat.le_of_ble_eq_true rfl) rfl (fun Z hX => ?_)
  subst e0
  have e51 : cs h.1 s 51 = nI c := by rw [← ec]; exact cs_at (by decide)
  have L : ∀ k, k ≤ c → EX Z 4 (QI Z (fun r u => r = lgS (mk (cs h.1 s)) a1 c ∧ u = h)) 4 h [some (.ref (s + 7)), some (.int a1), some (.int (lgS (mk (cs h.1 s)) a1 k)), some (.int (nI k))] [] := by
    refine ldown _ ?_ ?_
    · refine sg_X5_lyingIn_4 hX ha0 ⟨fun _ => ⟨rfl, rfl⟩, fun z => absurd ?_ z⟩
      rw [ec]; exact nI_le (Nat.le_refl _) (by omega)
    · intro k hk ih
      refine sg_X5_lyingIn_4 hX ha0 ⟨fun z => absurd z ?_, fun _ => ⟨vp_in_nI (by omega) (by omega), ?_⟩⟩
      · rw [ec]; exact nI_ge hk (by omega)
      · rw [nI_clamp (by omega), show h.1 (s + 7 + 1) k = mk (cs h.1 s) (60 + k) from mkc_at (a := 8) (loc_60 k (by omega)) (by rw [e51, nI_clamp (by omega)]; unfold rel; omega), nI_1]
        exact ih
  exact sg_X5_lyingIn_0 hX ha0 (L 0 (by omega))

theorem zsl (x y : Int32) : x ||| ((0 : Int32) <<< y) = x := by
  apply Int32.toBitVec_inj.1
  rw [Int32.toBitVec_or, Int32.toBitVec_shiftLeft]
  simp

set_option maxRecDepth 100000 in
set_option maxHeartbeats 4000000 in
theorem c_X7_logsIn {h : AH} {a1 : Int32}  {c : Nat} (hc : c ≤ 12) (ec : h.1 95 51 = nI c) : CI yX7_logsIn cX7_logsIn 4 (some .int) 1 20 [.ref 94, .int a1] h (fun r u => r = lgS (mk (ms h.1 0)) a1 c ∧ u = h) := by
  refine CI.of [some (.ref 94), some (.int a1), none, none] (by decide +kernel) rfl (Nat.le_of_ble_eq_true rfl) rfl (fun Z hX => ?_)
  have cz : Int32.toNatClampNeg 51 = 51 := by decide
  have L : ∀ k, k ≤ c → EX Z 4 (QI Z (fun r u => r = lgS (mk (ms h.1 0)) a1 c ∧ u = h)) 4 h [some (.ref 94), some (.int a1), some (.int (lgS (mk (ms h.1 0)) a1 k)), some (.int (nI k))] [] := by
    refine ldown _ ?_ ?_
    · refine sg_X7_logsIn_4 hX ⟨fun _ => ⟨rfl, rfl⟩, fun z => absurd ?_ z⟩
      rw [cz, ec]; exact nI_le (Nat.le_refl _) (by omega)
    · intro k hk ih
      have e0 : (60 : Int32) + nI k = nI (60 + k) := by rw [k_60, nI_add]
      refine sg_X7_logsIn_4 hX ⟨fun z => absurd z ?_, fun _ => ⟨by rw [e0]; exact vp_in_nI (by omega) (by omega), fun v ev => ?_⟩⟩
      · rw [cz, ec]; exact nI_ge hk (by omega)
      · rw [e0, nI_clamp (by omega), m0_at (f := h.1) (k := 60 + k) (by rw [show ms h.1 0 51 = nI c from ec, nI_clamp (by omega)]; unfold rel; omega)] at ev
        rw [nI_1]
        have e : lgS (mk (ms h.1 0)) a1 k ||| v = lgS (mk (ms h.1 0)) a1 (k + 1) := by
          rw [lgS, ev]
          by_cases q : mk (ms h.1 0) (60 + k) = a1
          · rw [if_pos q, bI_t q]
          · rw [if_neg q, bI_f q]; exact zsl _ _
        rw [e]
        exact ih
  exact sg_X7_logsIn_0 hX (L 0 (by omega))

def toldS (v0 v1 v2 v3 v4 v5 v6 x : Int32) : Int32 := if x = 0 then v0 else if x = 1 then v1 else if x = 2 then v2 else if x = 3 then v3 else if x = 4 then v4 else if x = 5 then v5 else if x = 6 then v6 else -100000002

set_option maxRecDepth 100000 in
set_option maxHeartbeats 4000000 in
theorem c_X6_told {h : AH} {a1 : Int32}  {n : Nat} (hn : n ≤ 10) (ho : oc (h.2 1) = some 0) (en : h.1 (h.2 1) 0 = nI n) : CI yX6_told cX6_told 2 (some .int) 1 23 [.ref 0, .int a1] h (fun r u => r = toldS (h.1 (h.2 1) 0) (h.1 (h.2 3) 0) (h.1 1 1) (h.1 27 0) (h.1 34 0) (h.1 0 12) (sumI (n - 1) (mk (cs h.1 27))) a1 ∧ u = h) := by
  refine CI.of [some (.ref 0), some (.int a1)] (by decide +kernel) rfl (Nat.le_of_ble_eq_true rfl) rfl (fun Z hX => ?_)
  refine sg_X6_told_0 hX ⟨fun w0 => ⟨?_, rfl⟩, fun w0 => ⟨fun w1 => ⟨?_, rfl⟩, fun w1 => ⟨fun w2 => ⟨?_, rfl⟩, fun w2 => ⟨fun w3 => ⟨?_, rfl⟩, fun w3 => ⟨fun w4 => ⟨?_, rfl⟩, fun w4 => ⟨fun w5 => ⟨?_, rfl⟩, fun w5 => ⟨fun w6 => ⟨_, c_X3_allWater (n := n) rfl ho hn en, fun r u hu => sg_X6_told_103 hX ⟨?_, hu.2⟩⟩, fun w6 => ⟨?_, rfl⟩⟩⟩⟩⟩⟩⟩⟩
  · rw [toldS, if_pos w0]
  · rw [toldS, if_neg w0, if_pos w1]
  · rw [toldS, if_neg w0, if_neg w1, if_pos w2]
  · rw [toldS, if_neg w0, if_neg w1, if_neg w2, if_pos w3]
  · rw [toldS, if_neg w0, if_neg w1, if_neg w2, if_neg w3, if_pos w4]
  · rw [toldS, if_neg w0, if_neg w1, if_neg w2, if_neg w3, if_neg w4, if_pos w5]
  · rw [toldS, if_neg w0, if_neg w1, if_neg w2, if_neg w3, if_neg w4, if_neg w5, if_pos w6]; exact hu.1
  · rw [toldS, if_neg w0, if_neg w1, if_neg w2, if_neg w3, if_neg w4, if_neg w5, if_neg w6]

set_option maxRecDepth 100000 in
set_option maxHeartbeats 4000000 in
theorem c_X7_told {h : AH} {a1 : Int32}  {n : Nat} (hn : n ≤ 10) (en : h.1 94 9 = nI n) : CI yX7_told cX7_told 2 (some .int) 1 23 [.ref 94, .int a1] h (fun r u => r = toldS (h.1 94 9) (h.1 94 14) (h.1 94 17) (h.1 95 50) (h.1 95 51) (h.1 94 32) (sumI (n - 1) (mk (ms h.1 0))) a1 ∧ u = h) := by
  refine CI.of [some (.ref 94), some (.int a1)] (by decide +kernel) rfl (Nat.le_of_ble_eq_true rfl) rfl (fun Z hX => ?_)
  refine sg_X7_told_0 hX ⟨fun w0 => ⟨?_, rfl⟩, fun w0 => ⟨fun w1 => ⟨?_, rfl⟩, fun w1 => ⟨fun w2 => ⟨?_, rfl⟩, fun w2 => ⟨fun w3 => ⟨?_, rfl⟩, fun w3 => ⟨fun w4 => ⟨?_, rfl⟩, fun w4 => ⟨fun w5 => ⟨?_, rfl⟩, fun w5 => ⟨fun w6 => ⟨_, c_X7_watersOf (n := n) rfl hn en, fun r u hu => sg_X7_told_85 hX ⟨?_, hu.2⟩⟩, fun w6 => ⟨?_, rfl⟩⟩⟩⟩⟩⟩⟩⟩
  · rw [toldS, if_pos w0]
  · rw [toldS, if_neg w0, if_pos w1]
  · rw [toldS, if_neg w0, if_neg w1, if_pos w2]
  · rw [toldS, if_neg w0, if_neg w1, if_neg w2, if_pos w3]; rfl
  · rw [toldS, if_neg w0, if_neg w1, if_neg w2, if_neg w3, if_pos w4]; rfl
  · rw [toldS, if_neg w0, if_neg w1, if_neg w2, if_neg w3, if_neg w4, if_pos w5]
  · rw [toldS, if_neg w0, if_neg w1, if_neg w2, if_neg w3, if_neg w4, if_neg w5, if_pos w6]; exact hu.1
  · rw [toldS, if_neg w0, if_neg w1, if_neg w2, if_neg w3, if_neg w4, if_neg w5, if_neg w6]

theorem op_told {N : Nat} {h : AH} {x : Int32} (hI : INV N h) : OPP yX6_told cX6_told 2 1 23 yX7_told cX7_told 2 1 23 [.int x] N h := by
  obtain ⟨n, hn, e1, e2, hP⟩ := hI.2.1.2.1
  obtain ⟨m, hm, a1, a2⟩ := hI.2.1.2.2.1
  obtain ⟨L, l1, l2, l3, -⟩ := hI.2.2.2.2.1
  obtain ⟨E, b1, b2, b3, -⟩ := hI.2.2.2.2.2.2.1
  obtain ⟨c, hc, c1, c2, c3, c4⟩ := NV_c hI.2.2.1
  refine OPP.same _ hI (c_X6_told hn hI.1.1 e1) ?_
  have e50 : h.1 27 0 = h.1 95 50 := by rw [← c50 (f := h.1) (s := 27), hI.2.2.1.1, m0_at (f := h.1) (k := 50) (by unfold rel; omega)]
  rw [e1, a1, l2, e50, c1, b2, hI.2.2.1.1, ← e2, ← a2, ← l3, ← c2, ← b3]
  exact c_X7_told hn e2
