set_option maxRecDepth 100000 in
set_option maxHeartbeats 4000000 in
theorem sg_X6_river_0 {Z : CX × GX} {post : Int32 → AH → Prop} {h : AH}  (hX : OK Z RX6 cX6_river 3 (some .int) 7 165) 
    (w : (∃ PP : AH → Prop, CV yX2_readCourse cX2_readCourse 3 6 143 [.ref 1, .ref (h.2 2)] h PP ∧ ∀ u : AH, PP u → EX Z 3 (QI Z post) 11 u [some (.ref 0), none, none] []))
    : EX Z 3 (QI Z post) 0 h [some (.ref 0), none, none] [] := by
  refine ex_aload_n hX dX6_river_0 rfl rfl ?_
  refine ex_get hX (.ref 1) FL_6_10 rfl (fun _ => rfl) dX6_river_1 ?_
  refine ex_aload_n hX dX6_river_4 rfl rfl ?_
  refine ex_gg (fun c1 => ?_)
  refine ex_get hX (.ref (h.2 2)) FL_6_23 rfl (fun _ => rfl) dX6_river_5 ?_
  obtain ⟨PP, pM, pK⟩ := w
  exact ex_callVv (ci := 2) (i := 1) (As := [.ref (h.2 2)]) (st := []) hX pM CS_6_81 MS_X2_readCourse rfl rfl rfl (by decide) rfl (Nat.le_of_ble_eq_true rfl) dX6_river_8 (fun u hp => pK u hp)

set_option maxRecDepth 100000 in
set_option maxHeartbeats 4000000 in
theorem sg_X6_river_11 {Z : CX × GX} {post : Int32 → AH → Prop} {h : AH}  (hX : OK Z RX6 cX6_river 3 (some .int) 7 165) 
    (w : (∃ PP : Int32 → AH → Prop, CI yX2_faultByte cX2_faultByte 1 (some .int) 0 0 [.ref 1] h PP ∧ ∀ (r : Int32) (u : AH), PP r u → EX Z 3 (QI Z post) 19 u [some (.ref 0), none, none] (.int r :: [.ref 0])))
    : EX Z 3 (QI Z post) 11 h [some (.ref 0), none, none] [] := by
  refine ex_aload_n hX dX6_river_11 rfl rfl ?_
  refine ex_aload_n hX dX6_river_12 rfl rfl ?_
  refine ex_get hX (.ref 1) FL_6_10 rfl (fun _ => rfl) dX6_river_13 ?_
  obtain ⟨PP, pM, pK⟩ := w
  exact ex_callIv (ci := 2) (i := 1) (As := []) (st := [.ref 0]) hX pM CS_6_85 MS_X2_faultByte rfl rfl rfl (by decide) rfl (Nat.le_of_ble_eq_true rfl) dX6_river_16 (fun r u hp => pK r u hp)

set_option maxRecDepth 100000 in
set_option maxHeartbeats 4000000 in
theorem sg_X6_river_19 {Z : CX × GX} {post : Int32 → AH → Prop} {h : AH} {s0 : Int32} (hX : OK Z RX6 cX6_river 3 (some .int) 7 165) 
    (w : (∀ u1 : AH, u1 = (hset h.1 0 13 s0, h.2) → (((u1.1 1 2) = 0 → (∀ u5 : AH, u5 = (u1.1, gup u1.2 1 (u1.2 2)) → (∀ u6 : AH, u6 = (u5.1, gup u5.2 2 (u1.2 1)) → (∀ u8 : AH, u8 = (hset u6.1 (u6.2 3) 0 0, u6.2) → (∃ PP : AH → Prop, CV yX3_begin cX3_begin 3 2 81 [.ref 27, .ref (u8.2 1)] u8 PP ∧ ∀ u : AH, PP u → EX Z 3 (QI Z post) 80 u [some (.ref 0), none, none] []))))) ∧ (¬ (u1.1 1 2) = 0 → post ((-10) - (u1.1 1 2)) u1))))
    : EX Z 3 (QI Z post) 19 h [some (.ref 0), none, none] [.int s0, .ref 0] := by
  refine ex_put hX .int FL_6_68 tyX6 tyX6_ok nmX6 rfl rfl rfl rfl rfl (fun _ => (by decide : 13 < 14)) (fun _ => fs_6_13) dX6_river_19 ?_
  refine ex_nameH (fun u1 eu1 => ?_)
  replace w := w u1 eu1
  refine ex_aload_n hX dX6_river_22 rfl rfl ?_
  refine ex_get hX (.ref 1) FL_6_10 rfl (fun _ => rfl) dX6_river_23 ?_
  refine ex_get hX (.int (u1.1 1 2)) FL_6_88 rfl (fun _ => rfl) dX6_river_26 ?_
  refine ex_ifeq hX 43 dX6_river_29 (by decide) (fun c2 => ?_) (fun c2 => ?_)
  · replace w := w.1 c2
    refine ex_aload_n hX dX6_river_43 rfl rfl ?_
    refine ex_gg (fun c3 => ?_)
    refine ex_get hX (.ref (u1.2 1)) FL_6_19 rfl (fun _ => rfl) dX6_river_44 ?_
    refine ex_astore_n (lv' := [some (.ref 0), some (.ref (u1.2 1)), none]) hX dX6_river_47 rfl (by decide) rfl ?_
    refine ex_aload_n hX dX6_river_48 rfl rfl ?_
    refine ex_aload_n hX dX6_river_49 rfl rfl ?_
    refine ex_gg (fun c4 => ?_)
    refine ex_get hX (.ref (u1.2 2)) FL_6_23 rfl (fun _ => rfl) dX6_river_50 ?_
    refine ex_putg (c := 0) hX (.object "TurnedRiver$Course") FL_6_19 rfl rfl (fun _ => ⟨rfl, rfl⟩) (by decide) c4.2.1 dX6_river_53 ?_
    refine ex_nameH (fun u5 eu5 => ?_)
    replace w := w u5 eu5
    refine ex_aload_n hX dX6_river_56 rfl rfl ?_
    refine ex_aload_n hX dX6_river_57 rfl rfl ?_
    refine ex_putg (c := 0) hX (.object "TurnedRiver$Course") FL_6_23 rfl rfl (fun _ => ⟨rfl, rfl⟩) (by decide) c3.1 dX6_river_58 ?_
    refine ex_nameH (fun u6 eu6 => ?_)
    replace w := w u6 eu6
    refine ex_aload_n hX dX6_river_61 rfl rfl ?_
    refine ex_gg (fun c7 => ?_)
    refine ex_get hX (.ref (u6.2 3)) FL_6_29 rfl (fun _ => rfl) dX6_river_62 ?_
    refine ex_iconst (v := 0) hX dX6_river_65 rfl ?_
    refine ex_put hX .int FL_6_91 tyX1 tyX1_ok nmX1 rfl rfl rfl rfl c7.2.2.1 (fun _ => (by decide : 0 < 4)) (fun _ => fs_1_0) dX6_river_66 ?_
    refine ex_nameH (fun u8 eu8 => ?_)
    replace w := w u8 eu8
    refine ex_aload_n hX dX6_river_69 rfl rfl ?_
    refine ex_get hX (.ref 27) FL_6_39 rfl (fun _ => rfl) dX6_river_70 ?_
    refine ex_aload_n hX dX6_river_73 rfl rfl ?_
    refine ex_gg (fun c9 => ?_)
    refine ex_get hX (.ref (u8.2 1)) FL_6_19 rfl (fun _ => rfl) dX6_river_74 ?_
    obtain ⟨PP, pM, pK⟩ := w
    exact ex_callVv (ci := 3) (i := 27) (As := [.ref (u8.2 1)]) (st := []) hX pM CS_6_94 MS_X3_begin rfl rfl rfl (by decide) rfl (Nat.le_of_ble_eq_true rfl) dX6_river_77 (fun u hp => ex_forget [some (.ref 0), none, none] ⟨rfl, trivial⟩ (pK u hp))
  · replace w := w.2 c2
    refine ex_bipush (v := (-10)) hX dX6_river_32 rfl ?_
    refine ex_aload_n hX dX6_river_34 rfl rfl ?_
    refine ex_get hX (.ref 1) FL_6_10 rfl (fun _ => rfl) dX6_river_35 ?_
    refine ex_get hX (.int (u1.1 1 2)) FL_6_88 rfl (fun _ => rfl) dX6_river_38 ?_
    refine ex_isub hX dX6_river_41 ?_
    exact ex_iret hX dX6_river_42 rfl w

set_option maxRecDepth 100000 in
set_option maxHeartbeats 4000000 in
theorem sg_X6_river_80 {Z : CX × GX} {post : Int32 → AH → Prop} {h : AH}  (hX : OK Z RX6 cX6_river 3 (some .int) 7 165) 
    (w : (∀ u1 : AH, u1 = (hset h.1 0 12 0, h.2) → EX Z 3 (QI Z post) 87 u1 [some (.ref 0), none, some (.int 0)] []))
    : EX Z 3 (QI Z post) 80 h [some (.ref 0), none, none] [] := by
  refine ex_aload_n hX dX6_river_80 rfl rfl ?_
  refine ex_iconst (v := 0) hX dX6_river_81 rfl ?_
  refine ex_put hX .int FL_6_97 tyX6 tyX6_ok nmX6 rfl rfl rfl rfl rfl (fun _ => (by decide : 12 < 14)) (fun _ => fs_6_12) dX6_river_82 ?_
  refine ex_nameH (fun u1 eu1 => ?_)
  replace w := w u1 eu1
  refine ex_iconst (v := 0) hX dX6_river_85 rfl ?_
  refine ex_istore_n (lv' := [some (.ref 0), none, some (.int 0)]) hX dX6_river_86 rfl (by decide) rfl ?_
  exact w

set_option maxRecDepth 100000 in
set_option maxHeartbeats 4000000 in
theorem sg_X6_river_87 {Z : CX × GX} {post : Int32 → AH → Prop} {h : AH} {x2 : Int32} (hX : OK Z RX6 cX6_river 3 (some .int) 7 165) 
    (w : ((2 ≤ x2 → post (h.1 (h.2 1) 0) h) ∧ (¬ 2 ≤ x2 → (vp_in x2 2) ∧ (∀ u4 : AH, u4 = (hset h.1 88 (Int32.toNatClampNeg x2) (vp_nar .boolean 0), h.2) → EX Z 3 (QI Z post) 87 u4 [some (.ref 0), none, some (.int (x2 + 1))] []))))
    : EX Z 3 (QI Z post) 87 h [some (.ref 0), none, some (.int x2)] [] := by
  refine ex_iload_n hX dX6_river_87 rfl rfl ?_
  refine ex_iconst (v := 2) hX dX6_river_88 rfl ?_
  refine ex_icmpge hX 105 dX6_river_89 (by decide) (fun c1 => ?_) (fun c1 => ?_)
  · replace w := w.1 c1
    refine ex_aload_n hX dX6_river_105 rfl rfl ?_
    refine ex_gg (fun c2 => ?_)
    refine ex_get hX (.ref (h.2 1)) FL_6_19 rfl (fun _ => rfl) dX6_river_106 ?_
    refine ex_get hX (.int (h.1 (h.2 1) 0)) FL_6_100 c2.1 (fun _ => rfl) dX6_river_109 ?_
    exact ex_iret hX dX6_river_112 rfl w
  · replace w := w.2 c1
    refine ex_aload_n hX dX6_river_92 rfl rfl ?_
    refine ex_get hX (.ref 88) FL_6_50 rfl (fun _ => rfl) dX6_river_93 ?_
    refine ex_iload_n hX dX6_river_96 rfl rfl ?_
    refine ex_iconst (v := 0) hX dX6_river_97 rfl ?_
    obtain ⟨q3, w⟩ := w
    refine ex_zast hX rfl q3 dX6_river_98 ?_
    refine ex_nameH (fun u4 eu4 => ?_)
    replace w := w u4 eu4
    refine ex_iinc (v := x2 + 1) (lv' := [some (.ref 0), none, some (.int (x2 + 1))]) hX dX6_river_99 rfl rfl (by decide) rfl ?_
    refine ex_goto hX 87 dX6_river_102 (by decide) ?_
    exact w

set_option maxRecDepth 100000 in
set_option maxHeartbeats 4000000 in
theorem c_X3_begin {h : AH} {a0 : Nat} {a1 : Nat} (ha0 : oc a0 = some 3) (ha1 : oc a1 = some 0) (hd : a1 + 8 ≤ a0) : CV yX3_begin cX3_begin 3 2 81 [.ref a0, .ref a1] h (fun u => FC a0 h u ∧ u.1 a0 0 = 0 ∧ u.1 a0 1 = h.1 a0 1 ∧ u.1 a0 2 = h.1 a0 2 ∧ u.1 (a0 + 7) 0 = 0 ∧ (∀ k, k < 10 → u.1 (a0 + 1) k = h.1 (a1 + 3) k) ∧ ∀ k, k < 9 → u.1 (a0 + 3) k = h.1 (a1 + 4) k ∧ u.1 (a0 + 4) k = 0 ∧ u.1 (a0 + 5) k = 0 ∧ u.1 (a0 + 6) k = 0) := by
  refine CV.of [some (.ref a0), some (.ref a1), none] (by decide +kernel) rfl (Nat.le_of_ble_eq_true rfl) rfl (fun Z hX => ?_)
  have LP : ∀ i, i ≤ 9 → ∀ u : AH, FC a0 h u → u.1 a0 0 = 0 → u.1 a0 1 = h.1 a0 1 → u.1 a0 2 = h.1 a0 2 → u.1 (a0 + 7) 0 = 0 → (∀ k, k < 10 → u.1 (a0 + 1) k = h.1 (a1 + 3) k) → (∀ k, k < 9 → u.1 (a0 + 3) k = h.1 (a1 + 4) k) → (∀ k, k < i → u.1 (a0 + 4) k = 0 ∧ u.1 (a0 + 5) k = 0 ∧ u.1 (a0 + 6) k = 0) → EX Z 3 (QV Z (fun u => FC a0 h u ∧ u.1 a0 0 = 0 ∧ u.1 a0 1 = h.1 a0 1 ∧ u.1 a0 2 = h.1 a0 2 ∧ u.1 (a0 + 7) 0 = 0 ∧ (∀ k, k < 10 → u.1 (a0 + 1) k = h.1 (a1 + 3) k) ∧ ∀ k, k < 9 → u.1 (a0 + 3) k = h.1 (a1 + 4) k ∧ u.1 (a0 + 4) k = 0 ∧ u.1 (a0 + 5) k = 0 ∧ u.1 (a0 + 6) k = 0)) 37 u [some (.ref a0), none, some (.int (nI i))] [] := by
    refine ldown _ ?_ ?_
    · intro u f a b c d e g z
      exact sg_X3_begin_37 hX ha0 ⟨fun _ => ⟨f, a, b, c, d, e, fun k hk => ⟨g k hk, z k hk⟩⟩, fun y => absurd (by rw [k_9]; exact nI_le (Nat.le_refl _) (by omega)) y⟩
    · intro i hi ih u f a b c d e g z
      refine sg_X3_begin_37 hX ha0 ⟨fun y => absurd y (by rw [k_9]; exact nI_ge hi (by omega)), fun _ => ⟨vp_in_nI hi (by omega), fun u3 e3 => ⟨vp_in_nI hi (by omega), fun u5 e5 => ⟨vp_in_nI hi (by omega), fun u7 e7 => ?_⟩⟩⟩⟩
      rw [nI_clamp (by omega)] at e3 e5 e7
      rw [nI_1]
      have o : ∀ j, j ≠ a0 + 4 → j ≠ a0 + 5 → j ≠ a0 + 6 → u7.1 j = u.1 j := fun j h1 h2 h3 => by rw [e7, hs_o h3, e5, hs_o h2, e3, hs_o h1]
      refine ih u7 ⟨by rw [e7, e5, e3]; exact f.1, fun j hj => by rw [o j (by omega) (by omega) (by omega)]; exact f.2 j hj⟩ (by rw [o a0 (by omega) (by omega) (by omega)]; exact a) (by rw [o a0 (by omega) (by omega) (by omega)]; exact b) (by rw [o a0 (by omega) (by omega) (by omega)]; exact c) (by rw [o (a0 + 7) (by omega) (by omega) (by omega)]; exact d) (by rw [o (a0 + 1) (by omega) (by omega) (by omega)]; exact e) (by rw [o (a0 + 3) (by omega) (by omega) (by omega)]; exact g) (fun k hk => ?_)
      by_cases y : k = i
      · subst y
        exact ⟨by rw [e7, hs_o (by omega), e5, hs_o (by omega), e3, hs_s], by rw [e7, hs_o (by omega), e5, hs_s], by rw [e7, hs_s]⟩
      · obtain ⟨t1, t2, t3⟩ := z k (by omega)
        exact ⟨by rw [e7, hs_o (by omega), e5, hs_o (by omega), e3, hs_i y]; exact t1, by rw [e7, hs_o (by omega), e5, hs_i y, e3, hs_o (by omega)]; exact t2, by rw [e7, hs_i y, e5, hs_o (by omega), e3, hs_o (by omega)]; exact t3⟩
  refine sg_X3_begin_0 hX ha0 ha1 (fun u1 e1 u2 e2 u3 e3 u4 e4 => ?_)
  have o3 : ∀ j, j ≠ a0 + 1 → u3.1 j = u2.1 j := fun j hj => by rw [e3]; exact hcp_ne hj
  have o4 : ∀ j, j ≠ a0 + 3 → u4.1 j = u3.1 j := fun j hj => by rw [e4]; exact hcp_ne hj
  refine LP 0 (by omega) u4 ⟨by rw [e4]; show u3.2 = _; rw [e3]; show u2.2 = _; rw [e2, e1], fun j hj => ?_⟩ ?_ ?_ ?_ ?_ (fun k hk => ?_) (fun k hk => ?_) (fun k hk => absurd hk (by omega))
  · rw [o4 j (by omega), o3 j (by omega), e2, hs_o (by omega), e1, hs_o (by omega)]
  · rw [o4 a0 (by omega), o3 a0 (by omega), e2, hs_o (by omega), e1, hs_s]
  · rw [o4 a0 (by omega), o3 a0 (by omega), e2, hs_o (by omega), e1, hs_i (by omega)]
  · rw [o4 a0 (by omega), o3 a0 (by omega), e2, hs_o (by omega), e1, hs_i (by omega)]
  · rw [o4 _ (by omega), o3 _ (by omega), e2, hs_s]
  · rw [o4 _ (by omega), e3, hcp_in hk]
    show u2.1 _ k = _
    rw [e2, hs_o (by omega), e1, hs_o (by omega)]
  · rw [e4, hcp_in hk]
    show u3.1 _ k = _
    rw [o3 _ (by omega), e2, hs_o (by omega), e1, hs_o (by omega)]

/-- what river() of the class leaves -/
def RVc (R : Cur × (Nat → Nat)) (h : AH) (r : Int32) (u : AH) : Prop := u.1 1 1 = 0 ∧ (∀ i k, i ≠ 0 → i ≠ 1 → (i < h.2 2 ∨ h.2 2 + 8 ≤ i) → (i < 27 ∨ 42 ≤ i) → i ≠ 88 → ¬ (i = h.2 3 ∧ k = 0) → u.1 i k = h.1 i k) ∧ (¬ R.1.1 = 0 → r = (-10) - nI R.1.1 ∧ u.2 = h.2 ∧ u.1 0 13 = nI R.1.2.1 ∧ u.1 0 12 = h.1 0 12 ∧ ∀ i k, (27 ≤ i ∧ i < 42 ∨ i = 88 ∨ i = h.2 3) → u.1 i k = h.1 i k) ∧ (R.1.1 = 0 → r = nI (nnS R.2) ∧ u.2 = gup (gup h.2 1 (h.2 2)) 2 (h.2 1) ∧ u.1 0 13 = -1 ∧ u.1 0 12 = 0 ∧ RCd (h.2 2) (dset R.2 0 (nnS R.2)) u ∧ WFd R.2 ∧ u.1 (h.2 3) 0 = 0 ∧ u.1 27 0 = 0 ∧ u.1 27 1 = h.1 27 1 ∧ u.1 27 2 = h.1 27 2 ∧ u.1 34 0 = 0 ∧ (∀ k, k < 10 → u.1 28 k = nI (R.2 (300 + k))) ∧ (∀ k, k < 9 → u.1 30 k = nI (R.2 (400 + k)) ∧ u.1 31 k = 0 ∧ u.1 32 k = 0 ∧ u.1 33 k = 0) ∧ u.1 88 0 = 0 ∧ u.1 88 1 = 0)

set_option maxRecDepth 100000 in
set_option maxHeartbeats 4000000 in
theorem c_X6_river {h : AH}   {T : Nat → Nat} {L : Nat} (hT : TXc T L h) (hG : GV h) : CI yX6_river cX6_river 3 (some .int) 7 165 [.ref 0] h (RVc (riverS T L 401 (0, 0, 0) d0S) h) := by
  refine CI.of [some (.ref 0), none, none] (by decide +kernel) rfl (Nat.le_of_ble_eq_true rfl) rfl (fun Z hX => ?_)
  obtain ⟨g1, g2, g3, g4, g5, g6⟩ := hG
  have b1 := oc0 g1
  have b2 := oc0 g2
  have b3 := oc1 g3
  have b4 := oc1 g4
  generalize hR : riverS T L 401 (0, 0, 0) d0S = R
  refine sg_X6_river_0 hX ⟨_, c_X2_readCourse g2 hT (by omega), fun u p => ?_⟩
  rw [hR] at p
  obtain ⟨p1, p2, p3, p4, p5, p6, p7⟩ := p
  refine sg_X6_river_11 hX ⟨_, c_X2_faultByte, fun s v hv => ?_⟩
  rw [hv.2]
  have es := hv.1
  refine sg_X6_river_19 hX (fun u1 e1 => ?_)
  have o1 : ∀ i, i ≠ 0 → u1.1 i = u.1 i := fun i hi => by rw [e1, hs_o hi]
  have z2 : (u1.1 1 2 = 0) ↔ R.1.1 = 0 := by rw [o1 1 (by omega), p4, k_0, nI_eq (by omega) (by omega)]
  refine ⟨fun z => ?_, fun z => ?_⟩
  · have r0 := z2.mp z
    intro u5 e5 u6 e6 u8 e8
    obtain ⟨rc, wf⟩ := p7 r0
    have rc : RCd (h.2 2) (dset R.2 0 (nnS R.2)) u := rc
    have h2 : u1.2 = h.2 := by rw [e1]; exact p1
    have h6 : u6.2 = gup (gup h.2 1 (h.2 2)) 2 (h.2 1) := by rw [e6, e5, h2]
    have f6 : u6.1 = u1.1 := by rw [e6, e5]
    have i3 : u6.2 3 = h.2 3 := by rw [h6]; rfl
    have i1 : u6.2 1 = h.2 2 := by rw [h6]; rfl
    rw [i3] at e8
    have i8 : u8.2 1 = h.2 2 := by rw [e8]; exact i1
    rw [i8]
    refine ⟨_, c_X3_begin (a0 := 27) (a1 := h.2 2) rfl g2 (by omega), fun w hw => ?_⟩
    obtain ⟨w1, w2, w3, w4, w5, w6, w7⟩ := hw
    have o8 : ∀ i, i ≠ 0 → i ≠ h.2 3 → u8.1 i = u.1 i := fun i hi hj => by rw [e8, hs_o hj, f6, o1 i hi]
    refine sg_X6_river_80 hX (fun x1 ex1 => ?_)
    have LP : ∀ i, i ≤ 2 → ∀ x : AH, x.2 = x1.2 → (∀ j, j ≠ 88 → x.1 j = x1.1 j) → (∀ k, k < i → x.1 88 k = 0) → EX Z 3 (QI Z (RVc R h)) 87 x [some (.ref 0), none, some (.int (nI i))] [] := by
      refine ldown _ ?_ ?_
      · intro x xa xb xc
        refine sg_X6_river_87 hX ⟨fun _ => ?_, fun y => absurd (by rw [k_2]; exact nI_le (Nat.le_refl _) (by omega)) y⟩
        have x2 : x.2 = gup (gup h.2 1 (h.2 2)) 2 (h.2 1) := by rw [xa, ex1]; show w.2 = _; rw [w1.1, e8]; exact h6
        have xw : ∀ i, i ≠ 0 → i ≠ 88 → x.1 i = w.1 i := fun i h1 h2 => by rw [xb i h2, ex1, hs_o h1]
        have xo : ∀ i, i ≠ 0 → i ≠ 88 → (i < 27 ∨ 42 ≤ i) → i ≠ h.2 3 → x.1 i = u.1 i := fun i h1 h2 h3 h4 => by rw [xw i h1 h2, w1.2 i (by omega), o8 i h1 h4]
        have rx : RCd (h.2 2) (dset R.2 0 (nnS R.2)) x := fun p hp => by
          rw [← rc p hp]
          have : ∀ k, x.1 (lcc (h.2 2) p).1 k = u.1 (lcc (h.2 2) p).1 k := fun k => by
            unfold plc at hp
            have e : (lcc (h.2 2) p).1 = (if p < 800 then h.2 2 + p / 100 else 1) := rfl
            rw [e]
            by_cases c : p < 800
            · rw [if_pos c, xo _ (by omega) (by omega) (by omega) (by omega)]
            · rw [if_neg c, xo _ (by omega) (by omega) (by omega) (by omega)]
          exact this _
        rw [show x.2 1 = h.2 2 by rw [x2]; rfl, rx.n, ds_eq]
        have r3 : ∀ k, k < 10 → u8.1 (h.2 2 + 3) k = nI (R.2 (300 + k)) := fun k hk => by
          rw [o8 _ (by omega) (by omega), rc.at (p := 300 + k) (by unfold plc; omega) (lcc_c (a := 3) (k := k) rfl (by omega) (by omega)), ds_ne (by omega)]
        have r4 : ∀ k, k < 9 → u8.1 (h.2 2 + 4) k = nI (R.2 (400 + k)) := fun k hk => by
          rw [o8 _ (by omega) (by omega), rc.at (p := 400 + k) (by unfold plc; omega) (lcc_c (a := 4) (k := k) rfl (by omega) (by omega)), ds_ne (by omega)]
        have s27 : ∀ i, 27 ≤ i → i < 42 → u8.1 i = h.1 i := fun i h1 h2 => by
          rw [o8 i (by omega) (by omega)]
          funext k
          exact p2 i k (by omega) (by omega)
        refine ⟨by rw [xo 1 (by omega) (by omega) (by omega) (by omega)]; exact p3, fun i k h1 h2 h3 h4 h5 h6 => ?_, fun y => absurd r0 y, fun _ => ⟨rfl, x2, ?_, by rw [xb 0 (by omega), ex1, hs_s], rx, wf, ?_, by rw [xw 27 (by omega) (by omega)]; exact w2, by rw [xw 27 (by omega) (by omega), w3, s27 27 (by omega) (by omega)], by rw [xw 27 (by omega) (by omega), w4, s27 27 (by omega) (by omega)], by rw [xw 34 (by omega) (by omega)]; exact w5, fun k hk => by rw [xw 28 (by omega) (by omega), w6 k hk]; exact r3 k hk, fun k hk => ?_, xc 0 (by omega), xc 1 (by omega)⟩⟩
        · by_cases c : i = h.2 3
          · subst c
            rw [xw _ h1 h5, w1.2 _ (by omega), e8, hs_i (fun y => h6 ⟨rfl, y⟩), f6, o1 _ h1]
            exact p2 _ k h2 h3
          · rw [xo i h1 h5 h4 c]
            exact p2 i k h2 h3
        · rw [xb 0 (by omega), ex1, hs_i (by omega), w1.2 0 (by omega), e8, hs_o (by omega), f6, e1, hs_s, es, if_pos (by rw [p4, r0]; rfl)]
        · rw [xw _ (by omega) (by omega), w1.2 _ (by omega), e8, hs_s]
        · obtain ⟨q1, q2, q3, q4⟩ := w7 k hk
          rw [xw 30 (by omega) (by omega), xw 31 (by omega) (by omega), xw 32 (by omega) (by omega), xw 33 (by omega) (by omega)]
          exact ⟨by rw [← r4 k hk]; exact q1, q2, q3, q4⟩
      · intro i hi ih x xa xb xc
        refine sg_X6_river_87 hX ⟨fun y => absurd y (by rw [k_2]; exact nI_ge hi (by omega)), fun _ => ⟨vp_in_nI hi (by omega), fun u4 e4 => ?_⟩⟩
        rw [nI_clamp (by omega), show vp_nar .boolean 0 = 0 by decide] at e4
        rw [nI_1]
        refine ih u4 (by rw [e4]; exact xa) (fun j hj => by rw [e4, hs_o hj]; exact xb j hj) (fun k hk => ?_)
        by_cases c : k = i
        · subst c; rw [e4, hs_s]
        · rw [e4, hs_i c]; exact xc k (by omega)
    exact LP 0 (by omega) x1 rfl (fun _ _ => rfl) (fun k hk => absurd hk (by omega))
  · have r0 : ¬ R.1.1 = 0 := fun y => z (z2.mpr y)
    have e12 : u1.1 1 2 = nI R.1.1 := by rw [o1 1 (by omega)]; exact p4
    rw [e12]
    obtain ⟨q1, q2⟩ := p6 r0
    refine ⟨by rw [o1 1 (by omega)]; exact p3, fun i k h1 h2 h3 h4 h5 h6 => by rw [o1 i h1]; exact p2 i k h2 h3, fun _ => ⟨rfl, by rw [e1]; exact p1, ?_, ?_, fun i k h1 => by rw [o1 i (by omega)]; exact p2 i k (by omega) (by omega)⟩, fun y => absurd y r0⟩
    · rw [e1, hs_s, es, if_neg (by rw [p4]; exact nI_ne0 (by omega) (by omega))]; exact q1
    · rw [e1, hs_i (by omega)]
      exact p2 0 12 (by omega) (by omega)
