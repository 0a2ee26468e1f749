set_option maxRecDepth 100000 in
set_option maxHeartbeats 4000000 in
theorem sg_X7_river_0 {Z : CX × GX} {post : Int32 → AH → Prop} {h : AH}  (hX : OK Z RX7 cX7_river 4 (some .int) 4 98) 
    (w : (∃ PP : AH → Prop, CV yX7_beginReading cX7_beginReading 1 0 0 [.ref 94] h PP ∧ ∀ u : AH, PP u → EX Z 4 (QI Z post) 4 u [some (.ref 94), none, none, none] []))
    : EX Z 4 (QI Z post) 0 h [some (.ref 94), none, none, none] [] := by
  refine ex_aload_n hX dX7_river_0 rfl rfl ?_
  obtain ⟨PP, pM, pK⟩ := w
  exact ex_callVv (ci := 7) (i := 94) (As := []) (st := []) hX pM CS_7_155 MS_X7_beginReading rfl rfl rfl (by decide) rfl (Nat.le_of_ble_eq_true rfl) dX7_river_1 (fun u hp => pK u hp)

set_option maxRecDepth 100000 in
set_option maxHeartbeats 4000000 in
theorem sg_X7_river_4 {Z : CX × GX} {post : Int32 → AH → Prop} {h : AH}  (hX : OK Z RX7 cX7_river 4 (some .int) 4 98) 
    (w : (∀ u1 : AH, u1 = (hset h.1 94 10 0, h.2) → (∀ u2 : AH, u2 = (hset u1.1 94 23 0, u1.2) → (∀ u3 : AH, u3 = (hset u2.1 94 24 0, u2.2) → EX Z 4 (QI Z post) 21 u3 [some (.ref 94), some (.int 0), none, none] []))))
    : EX Z 4 (QI Z post) 4 h [some (.ref 94), none, none, none] [] := by
  refine ex_aload_n hX dX7_river_4 rfl rfl ?_
  refine ex_iconst (v := 0) hX dX7_river_5 rfl ?_
  refine ex_put hX .int FL_7_111 tyX7 tyX7_ok nmX7 rfl rfl rfl rfl rfl (fun _ => (by decide : 10 < 33)) (fun _ => fs_7_10) dX7_river_6 ?_
  refine ex_nameH (fun u1 eu1 => ?_)
  replace w := w u1 eu1
  refine ex_aload_n hX dX7_river_9 rfl rfl ?_
  refine ex_iconst (v := 0) hX dX7_river_10 rfl ?_
  refine ex_put hX .int FL_7_118 tyX7 tyX7_ok nmX7 rfl rfl rfl rfl rfl (fun _ => (by decide : 23 < 33)) (fun _ => fs_7_23) dX7_river_11 ?_
  refine ex_nameH (fun u2 eu2 => ?_)
  replace w := w u2 eu2
  refine ex_aload_n hX dX7_river_14 rfl rfl ?_
  refine ex_iconst (v := 0) hX dX7_river_15 rfl ?_
  refine ex_put hX .int FL_7_129 tyX7 tyX7_ok nmX7 rfl rfl rfl rfl rfl (fun _ => (by decide : 24 < 33)) (fun _ => fs_7_24) dX7_river_16 ?_
  refine ex_nameH (fun u3 eu3 => ?_)
  replace w := w u3 eu3
  refine ex_iconst (v := 0) hX dX7_river_19 rfl ?_
  refine ex_istore_n (lv' := [some (.ref 94), some (.int 0), none, none]) hX dX7_river_20 rfl (by decide) rfl ?_
  exact w

set_option maxRecDepth 100000 in
set_option maxHeartbeats 4000000 in
theorem sg_X7_river_21 {Z : CX × GX} {post : Int32 → AH → Prop} {h : AH} {x1 : Int32} (hX : OK Z RX7 cX7_river 4 (some .int) 4 98) 
    (w : ((24 ≤ x1 → EX Z 4 (QI Z post) 57 h [some (.ref 94), some (.int 10), none, none] []) ∧ (¬ 24 ≤ x1 → (vp_in (24 + x1) 48) ∧ (∀ u3 : AH, u3 = (hset h.1 100 (Int32.toNatClampNeg (24 + x1)) 50, h.2) → (vp_in (24 + x1) 48) ∧ (∀ u5 : AH, u5 = (hset u3.1 101 (Int32.toNatClampNeg (24 + x1)) 0, u3.2) → EX Z 4 (QI Z post) 21 u5 [some (.ref 94), some (.int (x1 + 1)), none, none] [])))))
    : EX Z 4 (QI Z post) 21 h [some (.ref 94), some (.int x1), none, none] [] := by
  refine ex_iload_n hX dX7_river_21 rfl rfl ?_
  refine ex_bipush (v := 24) hX dX7_river_22 rfl ?_
  refine ex_icmpge hX 54 dX7_river_24 (by decide) (fun c1 => ?_) (fun c1 => ?_)
  · replace w := w.1 c1
    refine ex_bipush (v := 10) hX dX7_river_54 rfl ?_
    refine ex_istore_n (lv' := [some (.ref 94), some (.int 10), none, none]) hX dX7_river_56 rfl (by decide) rfl ?_
    exact w
  · replace w := w.2 c1
    refine ex_aload_n hX dX7_river_27 rfl rfl ?_
    refine ex_get hX (.ref 100) FL_7_26 rfl (fun _ => rfl) dX7_river_28 ?_
    refine ex_bipush (v := 24) hX dX7_river_31 rfl ?_
    refine ex_iload_n hX dX7_river_33 rfl rfl ?_
    refine ex_iadd hX dX7_river_34 ?_
    refine ex_bipush (v := 50) hX dX7_river_35 rfl ?_
    obtain ⟨q2, w⟩ := w
    refine ex_iast hX rfl q2 dX7_river_37 ?_
    refine ex_nameH (fun u3 eu3 => ?_)
    replace w := w u3 eu3
    refine ex_aload_n hX dX7_river_38 rfl rfl ?_
    refine ex_get hX (.ref 101) FL_7_29 rfl (fun _ => rfl) dX7_river_39 ?_
    refine ex_bipush (v := 24) hX dX7_river_42 rfl ?_
    refine ex_iload_n hX dX7_river_44 rfl rfl ?_
    refine ex_iadd hX dX7_river_45 ?_
    refine ex_iconst (v := 0) hX dX7_river_46 rfl ?_
    obtain ⟨q4, w⟩ := w
    refine ex_iast hX rfl q4 dX7_river_47 ?_
    refine ex_nameH (fun u5 eu5 => ?_)
    replace w := w u5 eu5
    refine ex_iinc (v := x1 + 1) (lv' := [some (.ref 94), some (.int (x1 + 1)), none, none]) hX dX7_river_48 rfl rfl (by decide) rfl ?_
    refine ex_goto hX 21 dX7_river_51 (by decide) ?_
    exact w

set_option maxRecDepth 100000 in
set_option maxHeartbeats 4000000 in
theorem sg_X7_river_57 {Z : CX × GX} {post : Int32 → AH → Prop} {h : AH} {x1 : Int32} (hX : OK Z RX7 cX7_river 4 (some .int) 4 98) 
    (w : ((20 ≤ x1 → EX Z 4 (QI Z post) 104 h [some (.ref 94), none, none, none] []) ∧ (¬ 20 ≤ x1 → (vp_in x1 20) ∧ (∀ u3 : AH, u3 = (hset h.1 97 (Int32.toNatClampNeg x1) 0, h.2) → (vp_in x1 20) ∧ (∀ u5 : AH, u5 = (hset u3.1 98 (Int32.toNatClampNeg x1) 0, u3.2) → (vp_in x1 20) ∧ (∀ u7 : AH, u7 = (hset u5.1 99 (Int32.toNatClampNeg x1) 0, u5.2) → (vp_in x1 20) ∧ (∀ u9 : AH, u9 = (hset u7.1 102 (Int32.toNatClampNeg x1) 5, u7.2) → (vp_in x1 20) ∧ (∀ u11 : AH, u11 = (hset u9.1 103 (Int32.toNatClampNeg x1) 1, u9.2) → EX Z 4 (QI Z post) 57 u11 [some (.ref 94), some (.int (x1 + 1)), none, none] []))))))))
    : EX Z 4 (QI Z post) 57 h [some (.ref 94), some (.int x1), none, none] [] := by
  refine ex_iload_n hX dX7_river_57 rfl rfl ?_
  refine ex_bipush (v := 20) hX dX7_river_58 rfl ?_
  refine ex_icmpge hX 104 dX7_river_60 (by decide) (fun c1 => ?_) (fun c1 => ?_)
  · replace w := w.1 c1
    exact ex_forget [some (.ref 94), none, none, none] ⟨rfl, trivial⟩ w
  · replace w := w.2 c1
    refine ex_aload_n hX dX7_river_63 rfl rfl ?_
    refine ex_get hX (.ref 97) FL_7_17 rfl (fun _ => rfl) dX7_river_64 ?_
    refine ex_iload_n hX dX7_river_67 rfl rfl ?_
    refine ex_iconst (v := 0) hX dX7_river_68 rfl ?_
    obtain ⟨q2, w⟩ := w
    refine ex_iast hX rfl q2 dX7_river_69 ?_
    refine ex_nameH (fun u3 eu3 => ?_)
    replace w := w u3 eu3
    refine ex_aload_n hX dX7_river_70 rfl rfl ?_
    refine ex_get hX (.ref 98) FL_7_20 rfl (fun _ => rfl) dX7_river_71 ?_
    refine ex_iload_n hX dX7_river_74 rfl rfl ?_
    refine ex_iconst (v := 0) hX dX7_river_75 rfl ?_
    obtain ⟨q4, w⟩ := w
    refine ex_iast hX rfl q4 dX7_river_76 ?_
    refine ex_nameH (fun u5 eu5 => ?_)
    replace w := w u5 eu5
    refine ex_aload_n hX dX7_river_77 rfl rfl ?_
    refine ex_get hX (.ref 99) FL_7_23 rfl (fun _ => rfl) dX7_river_78 ?_
    refine ex_iload_n hX dX7_river_81 rfl rfl ?_
    refine ex_iconst (v := 0) hX dX7_river_82 rfl ?_
    obtain ⟨q6, w⟩ := w
    refine ex_iast hX rfl q6 dX7_river_83 ?_
    refine ex_nameH (fun u7 eu7 => ?_)
    replace w := w u7 eu7
    refine ex_aload_n hX dX7_river_84 rfl rfl ?_
    refine ex_get hX (.ref 102) FL_7_32 rfl (fun _ => rfl) dX7_river_85 ?_
    refine ex_iload_n hX dX7_river_88 rfl rfl ?_
    refine ex_iconst (v := 5) hX dX7_river_89 rfl ?_
    obtain ⟨q8, w⟩ := w
    refine ex_iast hX rfl q8 dX7_river_90 ?_
    refine ex_nameH (fun u9 eu9 => ?_)
    replace w := w u9 eu9
    refine ex_aload_n hX dX7_river_91 rfl rfl ?_
    refine ex_get hX (.ref 103) FL_7_35 rfl (fun _ => rfl) dX7_river_92 ?_
    refine ex_iload_n hX dX7_river_95 rfl rfl ?_
    refine ex_iconst (v := 1) hX dX7_river_96 rfl ?_
    obtain ⟨q10, w⟩ := w
    refine ex_iast hX rfl q10 dX7_river_97 ?_
    refine ex_nameH (fun u11 eu11 => ?_)
    replace w := w u11 eu11
    refine ex_iinc (v := x1 + 1) (lv' := [some (.ref 94), some (.int (x1 + 1)), none, none]) hX dX7_river_98 rfl rfl (by decide) rfl ?_
    refine ex_goto hX 57 dX7_river_101 (by decide) ?_
    exact w

set_option maxRecDepth 100000 in
set_option maxHeartbeats 4000000 in
theorem sg_X7_river_104 {Z : CX × GX} {post : Int32 → AH → Prop} {h : AH}  (hX : OK Z RX7 cX7_river 4 (some .int) 4 98) 
    (w : ((¬ (h.1 94 21) = 0 → (∀ u2 : AH, u2 = (hset h.1 94 17 0, h.2) → (((u2.1 94 21) ≤ 0 → (∀ v5 : Int32, v5 = (if (u2.1 94 10) = 0 then (0 : Int32) else (u2.1 94 10) + 1) → (∀ u6 : AH, u6 = (hset u2.1 94 9 v5, u2.2) → EX Z 4 (QI Z post) 168 u6 [some (.ref 94), some (.int 0), none, none] []))) ∧ (¬ (u2.1 94 21) ≤ 0 → post ((-10) - (u2.1 94 21)) u2)))) ∧ ((h.1 94 21) = 0 → (∃ PP : Int32 → AH → Prop, CI yX7_here cX7_here 1 (some .int) 0 0 [.ref 94] h PP ∧ ∀ (r : Int32) (u : AH), PP r u → EX Z 4 (QI Z post) 115 u [some (.ref 94), none, none, none] (.int r :: [])))))
    : EX Z 4 (QI Z post) 104 h [some (.ref 94), none, none, none] [] := by
  refine ex_aload_n hX dX7_river_104 rfl rfl ?_
  refine ex_get hX (.int (h.1 94 21)) FL_7_85 rfl (fun _ => rfl) dX7_river_105 ?_
  refine ex_ifne hX 125 dX7_river_108 (by decide) (fun c1 => ?_) (fun c1 => ?_)
  · replace w := w.1 c1
    refine ex_aload_n hX dX7_river_125 rfl rfl ?_
    refine ex_iconst (v := 0) hX dX7_river_126 rfl ?_
    refine ex_put hX .int FL_7_76 tyX7 tyX7_ok nmX7 rfl rfl rfl rfl rfl (fun _ => (by decide : 17 < 33)) (fun _ => fs_7_17) dX7_river_127 ?_
    refine ex_nameH (fun u2 eu2 => ?_)
    replace w := w u2 eu2
    refine ex_aload_n hX dX7_river_130 rfl rfl ?_
    refine ex_get hX (.int (u2.1 94 21)) FL_7_85 rfl (fun _ => rfl) dX7_river_131 ?_
    refine ex_ifle hX 145 dX7_river_134 (by decide) (fun c3 => ?_) (fun c3 => ?_)
    · replace w := w.1 c3
      refine ex_aload_n hX dX7_river_145 rfl rfl ?_
      refine ex_aload_n hX dX7_river_146 rfl rfl ?_
      refine ex_get hX (.int (u2.1 94 10)) FL_7_111 rfl (fun _ => rfl) dX7_river_147 ?_
      have kc4 : EX Z 4 (QI Z post) 163 u2 [some (.ref 94), none, none, none] [.int (if (u2.1 94 10) = 0 then (0 : Int32) else (u2.1 94 10) + 1), .ref 94] := by
        refine ex_nameI (fun v5 ev5 => ?_)
        replace w := w v5 ev5
        refine ex_put hX .int FL_7_161 tyX7 tyX7_ok nmX7 rfl rfl rfl rfl rfl (fun _ => (by decide : 9 < 33)) (fun _ => fs_7_9) dX7_river_163 ?_
        refine ex_nameH (fun u6 eu6 => ?_)
        replace w := w u6 eu6
        refine ex_iconst (v := 0) hX dX7_river_166 rfl ?_
        refine ex_istore_n (lv' := [some (.ref 94), some (.int 0), none, none]) hX dX7_river_167 rfl (by decide) rfl ?_
        exact w
      refine ex_ifne hX 157 dX7_river_150 (by decide) (fun c4 => ?_) (fun c4 => ?_)
      · refine ex_aload_n hX dX7_river_157 rfl rfl ?_
        refine ex_get hX (.int (u2.1 94 10)) FL_7_111 rfl (fun _ => rfl) dX7_river_158 ?_
        refine ex_iconst (v := 1) hX dX7_river_161 rfl ?_
        refine ex_iadd hX dX7_river_162 ?_
        rw [show (if (u2.1 94 10) = 0 then (0 : Int32) else (u2.1 94 10) + 1) = (u2.1 94 10) + 1 from if_neg c4] at kc4
        exact ex_forget [some (.ref 94), none, none, none] ⟨rfl, trivial⟩ kc4
      · refine ex_iconst (v := 0) hX dX7_river_153 rfl ?_
        refine ex_goto hX 163 dX7_river_154 (by decide) ?_
        rw [show (if (u2.1 94 10) = 0 then (0 : Int32) else (u2.1 94 10) + 1) = 0 from if_pos c4] at kc4
        exact ex_forget [some (.ref 94), none, none, none] ⟨rfl, trivial⟩ kc4
    · replace w := w.2 c3
      refine ex_bipush (v := (-10)) hX dX7_river_137 rfl ?_
      refine ex_aload_n hX dX7_river_139 rfl rfl ?_
      refine ex_get hX (.int (u2.1 94 21)) FL_7_85 rfl (fun _ => rfl) dX7_river_140 ?_
      refine ex_isub hX dX7_river_143 ?_
      exact ex_iret hX dX7_river_144 rfl w
  · replace w := w.2 c1
    refine ex_aload_n hX dX7_river_111 rfl rfl ?_
    obtain ⟨PP, pM, pK⟩ := w
    exact ex_callIv (ci := 7) (i := 94) (As := []) (st := []) hX pM CS_7_88 MS_X7_here rfl rfl rfl (by decide) rfl (Nat.le_of_ble_eq_true rfl) dX7_river_112 (fun r u hp => pK r u hp)

set_option maxRecDepth 100000 in
set_option maxHeartbeats 4000000 in
theorem sg_X7_river_115 {Z : CX × GX} {post : Int32 → AH → Prop} {h : AH} {s0 : Int32} (hX : OK Z RX7 cX7_river 4 (some .int) 4 98) 
    (w : ((s0 < 0 → (∀ u2 : AH, u2 = (hset h.1 94 17 0, h.2) → (((u2.1 94 21) ≤ 0 → (∀ v5 : Int32, v5 = (if (u2.1 94 10) = 0 then (0 : Int32) else (u2.1 94 10) + 1) → (∀ u6 : AH, u6 = (hset u2.1 94 9 v5, u2.2) → EX Z 4 (QI Z post) 168 u6 [some (.ref 94), some (.int 0), none, none] []))) ∧ (¬ (u2.1 94 21) ≤ 0 → post ((-10) - (u2.1 94 21)) u2)))) ∧ (¬ s0 < 0 → (∃ PP : AH → Prop, CV yX7_takeClause cX7_takeClause 4 3 75 [.ref 94] h PP ∧ ∀ u : AH, PP u → EX Z 4 (QI Z post) 122 u [some (.ref 94), none, none, none] []))))
    : EX Z 4 (QI Z post) 115 h [some (.ref 94), none, none, none] [.int s0] := by
  refine ex_iflt hX 125 dX7_river_115 (by decide) (fun c1 => ?_) (fun c1 => ?_)
  · replace w := w.1 c1
    refine ex_aload_n hX dX7_river_125 rfl rfl ?_
    refine ex_iconst (v := 0) hX dX7_river_126 rfl ?_
    refine ex_put hX .int FL_7_76 tyX7 tyX7_ok nmX7 rfl rfl rfl rfl rfl (fun _ => (by decide : 17 < 33)) (fun _ => fs_7_17) dX7_river_127 ?_
    refine ex_nameH (fun u2 eu2 => ?_)
    replace w := w u2 eu2
    refine ex_aload_n hX dX7_river_130 rfl rfl ?_
    refine ex_get hX (.int (u2.1 94 21)) FL_7_85 rfl (fun _ => rfl) dX7_river_131 ?_
    refine ex_ifle hX 145 dX7_river_134 (by decide) (fun c3 => ?_) (fun c3 => ?_)
    · replace w := w.1 c3
      refine ex_aload_n hX dX7_river_145 rfl rfl ?_
      refine ex_aload_n hX dX7_river_146 rfl rfl ?_
      refine ex_get hX (.int (u2.1 94 10)) FL_7_111 rfl (fun _ => rfl) dX7_river_147 ?_
      have kc4 : EX Z 4 (QI Z post) 163 u2 [some (.ref 94), none, none, none] [.int (if (u2.1 94 10) = 0 then (0 : Int32) else (u2.1 94 10) + 1), .ref 94] := by
        refine ex_nameI (fun v5 ev5 => ?_)
        replace w := w v5 ev5
        refine ex_put hX .int FL_7_161 tyX7 tyX7_ok nmX7 rfl rfl rfl rfl rfl (fun _ => (by decide : 9 < 33)) (fun _ => fs_7_9) dX7_river_163 ?_
        refine ex_nameH (fun u6 eu6 => ?_)
        replace w := w u6 eu6
        refine ex_iconst (v := 0) hX dX7_river_166 rfl ?_
        refine ex_istore_n (lv' := [some (.ref 94), some (.int 0), none, none]) hX dX7_river_167 rfl (by decide) rfl ?_
        exact w
      refine ex_ifne hX 157 dX7_river_150 (by decide) (fun c4 => ?_) (fun c4 => ?_)
      · refine ex_aload_n hX dX7_river_157 rfl rfl ?_
        refine ex_get hX (.int (u2.1 94 10)) FL_7_111 rfl (fun _ => rfl) dX7_river_158 ?_
        refine ex_iconst (v := 1) hX dX7_river_161 rfl ?_
        refine ex_iadd hX dX7_river_162 ?_
        rw [show (if (u2.1 94 10) = 0 then (0 : Int32) else (u2.1 94 10) + 1) = (u2.1 94 10) + 1 from if_neg c4] at kc4
        exact ex_forget [some (.ref 94), none, none, none] ⟨rfl, trivial⟩ kc4
      · refine ex_iconst (v := 0) hX dX7_river_153 rfl ?_
        refine ex_goto hX 163 dX7_river_154 (by decide) ?_
        rw [show (if (u2.1 94 10) = 0 then (0 : Int32) else (u2.1 94 10) + 1) = 0 from if_pos c4] at kc4
        exact ex_forget [some (.ref 94), none, none, none] ⟨rfl, trivial⟩ kc4
    · replace w := w.2 c3
      refine ex_bipush (v := (-10)) hX dX7_river_137 rfl ?_
      refine ex_aload_n hX dX7_river_139 rfl rfl ?_
      refine ex_get hX (.int (u2.1 94 21)) FL_7_85 rfl (fun _ => rfl) dX7_river_140 ?_
      refine ex_isub hX dX7_river_143 ?_
      exact ex_iret hX dX7_river_144 rfl w
  · replace w := w.2 c1
    refine ex_aload_n hX dX7_river_118 rfl rfl ?_
    obtain ⟨PP, pM, pK⟩ := w
    exact ex_callVv (ci := 7) (i := 94) (As := []) (st := []) hX pM CS_7_158 MS_X7_takeClause rfl rfl rfl (by decide) rfl (Nat.le_of_ble_eq_true rfl) dX7_river_119 (fun u hp => pK u hp)

set_option maxRecDepth 100000 in
set_option maxHeartbeats 4000000 in
theorem sg_X7_river_122 {Z : CX × GX} {post : Int32 → AH → Prop} {h : AH}  (hX : OK Z RX7 cX7_river 4 (some .int) 4 98) 
    (w : EX Z 4 (QI Z post) 104 h [some (.ref 94), none, none, none] [])
    : EX Z 4 (QI Z post) 122 h [some (.ref 94), none, none, none] [] := by
  refine ex_goto hX 104 dX7_river_122 (by decide) ?_
  exact w

set_option maxRecDepth 100000 in
set_option maxHeartbeats 4000000 in
theorem sg_X7_river_168 {Z : CX × GX} {post : Int32 → AH → Prop} {h : AH} {x1 : Int32} (hX : OK Z RX7 cX7_river 4 (some .int) 4 98) 
    (w : ((24 ≤ x1 → EX Z 4 (QI Z post) 220 h [some (.ref 94), some (.int (h.1 95 (Int32.toNatClampNeg 52))), some (.int 0), none] []) ∧ (¬ 24 ≤ x1 → (vp_in (24 + x1) 48) ∧ (vp_in x1 48) ∧ (∀ u4 : AH, u4 = (hset h.1 100 (Int32.toNatClampNeg x1) (h.1 100 (Int32.toNatClampNeg (24 + x1))), h.2) → (vp_in (24 + x1) 48) ∧ (vp_in x1 48) ∧ (∀ u7 : AH, u7 = (hset u4.1 101 (Int32.toNatClampNeg x1) (u4.1 101 (Int32.toNatClampNeg (24 + x1))), u4.2) → EX Z 4 (QI Z post) 168 u7 [some (.ref 94), some (.int (x1 + 1)), none, none] [])))))
    : EX Z 4 (QI Z post) 168 h [some (.ref 94), some (.int x1), none, none] [] := by
  refine ex_iload_n hX dX7_river_168 rfl rfl ?_
  refine ex_bipush (v := 24) hX dX7_river_169 rfl ?_
  refine ex_icmpge hX 210 dX7_river_171 (by decide) (fun c1 => ?_) (fun c1 => ?_)
  · replace w := w.1 c1
    refine ex_aload_n hX dX7_river_210 rfl rfl ?_
    refine ex_get hX (.ref 95) FL_7_7 rfl (fun _ => rfl) dX7_river_211 ?_
    refine ex_bipush (v := 52) hX dX7_river_214 rfl ?_
    refine ex_iald hX rfl (show ¬ ((52 : Int32) < 0 ∨ 800 ≤ (52 : Int32).toNatClampNeg) from by decide) dX7_river_216 ?_
    refine ex_istore_n (lv' := [some (.ref 94), some (.int (h.1 95 (Int32.toNatClampNeg 52))), none, none]) hX dX7_river_217 rfl (by decide) rfl ?_
    refine ex_iconst (v := 0) hX dX7_river_218 rfl ?_
    refine ex_istore_n (lv' := [some (.ref 94), some (.int (h.1 95 (Int32.toNatClampNeg 52))), some (.int 0), none]) hX dX7_river_219 rfl (by decide) rfl ?_
    exact w
  · replace w := w.2 c1
    refine ex_aload_n hX dX7_river_174 rfl rfl ?_
    refine ex_get hX (.ref 100) FL_7_26 rfl (fun _ => rfl) dX7_river_175 ?_
    refine ex_iload_n hX dX7_river_178 rfl rfl ?_
    refine ex_aload_n hX dX7_river_179 rfl rfl ?_
    refine ex_get hX (.ref 100) FL_7_26 rfl (fun _ => rfl) dX7_river_180 ?_
    refine ex_bipush (v := 24) hX dX7_river_183 rfl ?_
    refine ex_iload_n hX dX7_river_185 rfl rfl ?_
    refine ex_iadd hX dX7_river_186 ?_
    obtain ⟨q2, w⟩ := w
    refine ex_iald hX rfl q2 dX7_river_187 ?_
    obtain ⟨q3, w⟩ := w
    refine ex_iast hX rfl q3 dX7_river_188 ?_
    refine ex_nameH (fun u4 eu4 => ?_)
    replace w := w u4 eu4
    refine ex_aload_n hX dX7_river_189 rfl rfl ?_
    refine ex_get hX (.ref 101) FL_7_29 rfl (fun _ => rfl) dX7_river_190 ?_
    refine ex_iload_n hX dX7_river_193 rfl rfl ?_
    refine ex_aload_n hX dX7_river_194 rfl rfl ?_
    refine ex_get hX (.ref 101) FL_7_29 rfl (fun _ => rfl) dX7_river_195 ?_
    refine ex_bipush (v := 24) hX dX7_river_198 rfl ?_
    refine ex_iload_n hX dX7_river_200 rfl rfl ?_
    refine ex_iadd hX dX7_river_201 ?_
    obtain ⟨q5, w⟩ := w
    refine ex_iald hX rfl q5 dX7_river_202 ?_
    obtain ⟨q6, w⟩ := w
    refine ex_iast hX rfl q6 dX7_river_203 ?_
    refine ex_nameH (fun u7 eu7 => ?_)
    replace w := w u7 eu7
    refine ex_iinc (v := x1 + 1) (lv' := [some (.ref 94), some (.int (x1 + 1)), none, none]) hX dX7_river_204 rfl rfl (by decide) rfl ?_
    refine ex_goto hX 168 dX7_river_207 (by decide) ?_
    exact w

set_option maxRecDepth 100000 in
set_option maxHeartbeats 4000000 in
theorem sg_X7_river_220 {Z : CX × GX} {post : Int32 → AH → Prop} {h : AH} {x1 : Int32} {x2 : Int32} (hX : OK Z RX7 cX7_river 4 (some .int) 4 98) 
    (w : ((200 ≤ x2 → (∀ u2 : AH, u2 = (hset h.1 95 (Int32.toNatClampNeg 52) x1, h.2) → EX Z 4 (QI Z post) 250 u2 [some (.ref 94), none, some (.int 0), none] [])) ∧ (¬ 200 ≤ x2 → (vp_in x2 800) ∧ (∀ u4 : AH, u4 = (hset h.1 95 (Int32.toNatClampNeg x2) 0, h.2) → EX Z 4 (QI Z post) 220 u4 [some (.ref 94), some (.int x1), some (.int (x2 + 1)), none] []))))
    : EX Z 4 (QI Z post) 220 h [some (.ref 94), some (.int x1), some (.int x2), none] [] := by
  refine ex_iload_n hX dX7_river_220 rfl rfl ?_
  refine ex_sipush (v := 200) hX dX7_river_221 rfl ?_
  refine ex_icmpge hX 240 dX7_river_224 (by decide) (fun c1 => ?_) (fun c1 => ?_)
  · replace w := w.1 c1
    refine ex_aload_n hX dX7_river_240 rfl rfl ?_
    refine ex_get hX (.ref 95) FL_7_7 rfl (fun _ => rfl) dX7_river_241 ?_
    refine ex_bipush (v := 52) hX dX7_river_244 rfl ?_
    refine ex_iload_n hX dX7_river_246 rfl rfl ?_
    refine ex_iast hX rfl (show ¬ ((52 : Int32) < 0 ∨ 800 ≤ (52 : Int32).toNatClampNeg) from by decide) dX7_river_247 ?_
    refine ex_nameH (fun u2 eu2 => ?_)
    replace w := w u2 eu2
    refine ex_iconst (v := 0) hX dX7_river_248 rfl ?_
    refine ex_istore_n (lv' := [some (.ref 94), some (.int x1), some (.int 0), none]) hX dX7_river_249 rfl (by decide) rfl ?_
    exact ex_forget [some (.ref 94), none, some (.int 0), none] ⟨rfl, ⟨rfl, trivial⟩⟩ w
  · replace w := w.2 c1
    refine ex_aload_n hX dX7_river_227 rfl rfl ?_
    refine ex_get hX (.ref 95) FL_7_7 rfl (fun _ => rfl) dX7_river_228 ?_
    refine ex_iload_n hX dX7_river_231 rfl rfl ?_
    refine ex_iconst (v := 0) hX dX7_river_232 rfl ?_
    obtain ⟨q3, w⟩ := w
    refine ex_iast hX rfl q3 dX7_river_233 ?_
    refine ex_nameH (fun u4 eu4 => ?_)
    replace w := w u4 eu4
    refine ex_iinc (v := x2 + 1) (lv' := [some (.ref 94), some (.int x1), some (.int (x2 + 1)), none]) hX dX7_river_234 rfl rfl (by decide) rfl ?_
    refine ex_goto hX 220 dX7_river_237 (by decide) ?_
    exact w

set_option maxRecDepth 100000 in
set_option maxHeartbeats 4000000 in
theorem sg_X7_river_250 {Z : CX × GX} {post : Int32 → AH → Prop} {h : AH} {x2 : Int32} (hX : OK Z RX7 cX7_river 4 (some .int) 4 98) 
    (w : ((10 ≤ x2 → (∀ u2 : AH, u2 = (hset h.1 94 14 0, h.2) → (∀ u3 : AH, u3 = (hset u2.1 94 32 0, u2.2) → (∀ u4 : AH, u4 = (hset u3.1 96 (Int32.toNatClampNeg 0) (vp_nar .boolean 0), u3.2) → (∀ u5 : AH, u5 = (hset u4.1 96 (Int32.toNatClampNeg 1) (vp_nar .boolean 0), u4.2) → post (u5.1 94 9) u5))))) ∧ (¬ 10 ≤ x2 → (((¬ ((h.1 94 10) ≤ x2)) → (vp_in (10 + x2) 20) ∧ True) ∧ (∀ v9 : Int32, v9 = (if (¬ ((h.1 94 10) ≤ x2)) then (h.1 97 (Int32.toNatClampNeg (10 + x2)) : Int32) else 0) → (vp_in x2 20) ∧ (∀ u11 : AH, u11 = (hset h.1 97 (Int32.toNatClampNeg x2) v9, h.2) → (((¬ ((h.1 94 10) ≤ x2)) → (vp_in (10 + x2) 20) ∧ True) ∧ (∀ v14 : Int32, v14 = (if (¬ ((h.1 94 10) ≤ x2)) then (u11.1 98 (Int32.toNatClampNeg (10 + x2)) : Int32) else 0) → (vp_in x2 20) ∧ (∀ u16 : AH, u16 = (hset u11.1 98 (Int32.toNatClampNeg x2) v14, u11.2) → (((¬ ((h.1 94 10) ≤ x2)) → (vp_in (10 + x2) 20) ∧ True) ∧ (∀ v19 : Int32, v19 = (if (¬ ((h.1 94 10) ≤ x2)) then (u16.1 99 (Int32.toNatClampNeg (10 + x2)) : Int32) else 0) → (vp_in x2 800) ∧ (∀ u21 : AH, u21 = (hset u16.1 95 (Int32.toNatClampNeg x2) v19, u16.2) → (vp_in (10 + x2) 20) ∧ (∀ v23 : Int32, v23 = u21.1 103 (Int32.toNatClampNeg (10 + x2)) → (vp_in x2 20) ∧ (∀ u25 : AH, u25 = (hset u21.1 103 (Int32.toNatClampNeg x2) v23, u21.2) → (vp_in (10 + x2) 20) ∧ (∀ v27 : Int32, v27 = u25.1 102 (Int32.toNatClampNeg (10 + x2)) → (vp_in (10 + x2) 800) ∧ (∀ u29 : AH, u29 = (hset u25.1 95 (Int32.toNatClampNeg (10 + x2)) v27, u25.2) → EX Z 4 (QI Z post) 250 u29 [some (.ref 94), none, some (.int (x2 + 1)), none] []))))))))))))))))
    : EX Z 4 (QI Z post) 250 h [some (.ref 94), none, some (.int x2), none] [] := by
  refine ex_iload_n hX dX7_river_250 rfl rfl ?_
  refine ex_bipush (v := 10) hX dX7_river_251 rfl ?_
  refine ex_icmpge hX 378 dX7_river_253 (by decide) (fun c1 => ?_) (fun c1 => ?_)
  · replace w := w.1 c1
    refine ex_aload_n hX dX7_river_378 rfl rfl ?_
    refine ex_iconst (v := 0) hX dX7_river_379 rfl ?_
    refine ex_put hX .int FL_7_164 tyX7 tyX7_ok nmX7 rfl rfl rfl rfl rfl (fun _ => (by decide : 14 < 33)) (fun _ => fs_7_14) dX7_river_380 ?_
    refine ex_nameH (fun u2 eu2 => ?_)
    replace w := w u2 eu2
    refine ex_aload_n hX dX7_river_383 rfl rfl ?_
    refine ex_iconst (v := 0) hX dX7_river_384 rfl ?_
    refine ex_put hX .int FL_7_167 tyX7 tyX7_ok nmX7 rfl rfl rfl rfl rfl (fun _ => (by decide : 32 < 33)) (fun _ => fs_7_32) dX7_river_385 ?_
    refine ex_nameH (fun u3 eu3 => ?_)
    replace w := w u3 eu3
    refine ex_aload_n hX dX7_river_388 rfl rfl ?_
    refine ex_get hX (.ref 96) FL_7_13 rfl (fun _ => rfl) dX7_river_389 ?_
    refine ex_iconst (v := 0) hX dX7_river_392 rfl ?_
    refine ex_iconst (v := 0) hX dX7_river_393 rfl ?_
    refine ex_zast hX rfl (show ¬ ((0 : Int32) < 0 ∨ 2 ≤ (0 : Int32).toNatClampNeg) from by decide) dX7_river_394 ?_
    refine ex_nameH (fun u4 eu4 => ?_)
    replace w := w u4 eu4
    refine ex_aload_n hX dX7_river_395 rfl rfl ?_
    refine ex_get hX (.ref 96) FL_7_13 rfl (fun _ => rfl) dX7_river_396 ?_
    refine ex_iconst (v := 1) hX dX7_river_399 rfl ?_
    refine ex_iconst (v := 0) hX dX7_river_400 rfl ?_
    refine ex_zast hX rfl (show ¬ ((1 : Int32) < 0 ∨ 2 ≤ (1 : Int32).toNatClampNeg) from by decide) dX7_river_401 ?_
    refine ex_nameH (fun u5 eu5 => ?_)
    replace w := w u5 eu5
    refine ex_aload_n hX dX7_river_402 rfl rfl ?_
    refine ex_get hX (.int (u5.1 94 9)) FL_7_161 rfl (fun _ => rfl) dX7_river_403 ?_
    exact ex_iret hX dX7_river_406 rfl w
  · replace w := w.2 c1
    refine ex_iload_n hX dX7_river_256 rfl rfl ?_
    refine ex_aload_n hX dX7_river_257 rfl rfl ?_
    refine ex_get hX (.int (h.1 94 10)) FL_7_111 rfl (fun _ => rfl) dX7_river_258 ?_
    have kc6 : EX Z 4 (QI Z post) 269 h [some (.ref 94), none, some (.int x2), none] [.int (bI (¬ ((h.1 94 10) ≤ x2)))] := by
      refine ex_istore_n (lv' := [some (.ref 94), none, some (.int x2), some (.int (bI (¬ ((h.1 94 10) ≤ x2))))]) hX dX7_river_269 rfl (by decide) rfl ?_
      refine ex_aload_n hX dX7_river_270 rfl rfl ?_
      refine ex_get hX (.ref 97) FL_7_17 rfl (fun _ => rfl) dX7_river_271 ?_
      refine ex_iload_n hX dX7_river_274 rfl rfl ?_
      refine ex_iload_n hX dX7_river_275 rfl rfl ?_
      obtain ⟨wbc7, w⟩ := w
      have kc7 : EX Z 4 (QI Z post) 292 h [some (.ref 94), none, some (.int x2), some (.int (bI (¬ ((h.1 94 10) ≤ x2))))] [.int (if (¬ ((h.1 94 10) ≤ x2)) then (h.1 97 (Int32.toNatClampNeg (10 + x2)) : Int32) else 0), .int x2, .ref 97] := by
        refine ex_nameI (fun v9 ev9 => ?_)
        replace w := w v9 ev9
        obtain ⟨q10, w⟩ := w
        refine ex_iast hX rfl q10 dX7_river_292 ?_
        refine ex_nameH (fun u11 eu11 => ?_)
        replace w := w u11 eu11
        refine ex_aload_n hX dX7_river_293 rfl rfl ?_
        refine ex_get hX (.ref 98) FL_7_20 rfl (fun _ => rfl) dX7_river_294 ?_
        refine ex_iload_n hX dX7_river_297 rfl rfl ?_
        refine ex_iload_n hX dX7_river_298 rfl rfl ?_
        obtain ⟨wbc12, w⟩ := w
        have kc12 : EX Z 4 (QI Z post) 315 u11 [some (.ref 94), none, some (.int x2), some (.int (bI (¬ ((h.1 94 10) ≤ x2))))] [.int (if (¬ ((h.1 94 10) ≤ x2)) then (u11.1 98 (Int32.toNatClampNeg (10 + x2)) : Int32) else 0), .int x2, .ref 98] := by
          refine ex_nameI (fun v14 ev14 => ?_)
          replace w := w v14 ev14
          obtain ⟨q15, w⟩ := w
          refine ex_iast hX rfl q15 dX7_river_315 ?_
          refine ex_nameH (fun u16 eu16 => ?_)
          replace w := w u16 eu16
          refine ex_aload_n hX dX7_river_316 rfl rfl ?_
          refine ex_get hX (.ref 95) FL_7_7 rfl (fun _ => rfl) dX7_river_317 ?_
          refine ex_iload_n hX dX7_river_320 rfl rfl ?_
          refine ex_iload_n hX dX7_river_321 rfl rfl ?_
          obtain ⟨wbc17, w⟩ := w
          have kc17 : EX Z 4 (QI Z post) 338 u16 [some (.ref 94), none, some (.int x2), none] [.int (if (¬ ((h.1 94 10) ≤ x2)) then (u16.1 99 (Int32.toNatClampNeg (10 + x2)) : Int32) else 0), .int x2, .ref 95] := by
            refine ex_nameI (fun v19 ev19 => ?_)
            replace w := w v19 ev19
            obtain ⟨q20, w⟩ := w
            refine ex_iast hX rfl q20 dX7_river_338 ?_
            refine ex_nameH (fun u21 eu21 => ?_)
            replace w := w u21 eu21
            refine ex_aload_n hX dX7_river_339 rfl rfl ?_
            refine ex_get hX (.ref 103) FL_7_35 rfl (fun _ => rfl) dX7_river_340 ?_
            refine ex_iload_n hX dX7_river_343 rfl rfl ?_
            refine ex_aload_n hX dX7_river_344 rfl rfl ?_
            refine ex_get hX (.ref 103) FL_7_35 rfl (fun _ => rfl) dX7_river_345 ?_
            refine ex_bipush (v := 10) hX dX7_river_348 rfl ?_
            refine ex_iload_n hX dX7_river_350 rfl rfl ?_
            refine ex_iadd hX dX7_river_351 ?_
            obtain ⟨q22, w⟩ := w
            refine ex_iald hX rfl q22 dX7_river_352 ?_
            refine ex_nameI (fun v23 ev23 => ?_)
            replace w := w v23 ev23
            obtain ⟨q24, w⟩ := w
            refine ex_iast hX rfl q24 dX7_river_353 ?_
            refine ex_nameH (fun u25 eu25 => ?_)
            replace w := w u25 eu25
            refine ex_aload_n hX dX7_river_354 rfl rfl ?_
            refine ex_get hX (.ref 95) FL_7_7 rfl (fun _ => rfl) dX7_river_355 ?_
            refine ex_bipush (v := 10) hX dX7_river_358 rfl ?_
            refine ex_iload_n hX dX7_river_360 rfl rfl ?_
            refine ex_iadd hX dX7_river_361 ?_
            refine ex_aload_n hX dX7_river_362 rfl rfl ?_
            refine ex_get hX (.ref 102) FL_7_32 rfl (fun _ => rfl) dX7_river_363 ?_
            refine ex_bipush (v := 10) hX dX7_river_366 rfl ?_
            refine ex_iload_n hX dX7_river_368 rfl rfl ?_
            refine ex_iadd hX dX7_river_369 ?_
            obtain ⟨q26, w⟩ := w
            refine ex_iald hX rfl q26 dX7_river_370 ?_
            refine ex_nameI (fun v27 ev27 => ?_)
            replace w := w v27 ev27
            obtain ⟨q28, w⟩ := w
            refine ex_iast hX rfl q28 dX7_river_371 ?_
            refine ex_nameH (fun u29 eu29 => ?_)
            replace w := w u29 eu29
            refine ex_iinc (v := x2 + 1) (lv' := [some (.ref 94), none, some (.int (x2 + 1)), none]) hX dX7_river_372 rfl rfl (by decide) rfl ?_
            refine ex_goto hX 250 dX7_river_375 (by decide) ?_
            exact w
          refine ex_ifeqB hX 337 dX7_river_322 (by decide) (fun c17 => ?_) (fun c17 => ?_)
          · refine ex_iconst (v := 0) hX dX7_river_337 rfl ?_
            rw [show (if (¬ ((h.1 94 10) ≤ x2)) then (u16.1 99 (Int32.toNatClampNeg (10 + x2)) : Int32) else 0) = 0 from if_neg c17] at kc17
            exact ex_forget [some (.ref 94), none, some (.int x2), none] ⟨rfl, ⟨rfl, trivial⟩⟩ kc17
          · replace w := wbc17 c17
            refine ex_aload_n hX dX7_river_325 rfl rfl ?_
            refine ex_get hX (.ref 99) FL_7_23 rfl (fun _ => rfl) dX7_river_326 ?_
            refine ex_bipush (v := 10) hX dX7_river_329 rfl ?_
            refine ex_iload_n hX dX7_river_331 rfl rfl ?_
            refine ex_iadd hX dX7_river_332 ?_
            obtain ⟨q18, w⟩ := w
            refine ex_iald hX rfl q18 dX7_river_333 ?_
            refine ex_goto hX 338 dX7_river_334 (by decide) ?_
            rw [show (if (¬ ((h.1 94 10) ≤ x2)) then (u16.1 99 (Int32.toNatClampNeg (10 + x2)) : Int32) else 0) = u16.1 99 (Int32.toNatClampNeg (10 + x2)) from if_pos c17] at kc17
            exact ex_forget [some (.ref 94), none, some (.int x2), none] ⟨rfl, ⟨rfl, trivial⟩⟩ kc17
        refine ex_ifeqB hX 314 dX7_river_299 (by decide) (fun c12 => ?_) (fun c12 => ?_)
        · refine ex_iconst (v := 0) hX dX7_river_314 rfl ?_
          rw [show (if (¬ ((h.1 94 10) ≤ x2)) then (u11.1 98 (Int32.toNatClampNeg (10 + x2)) : Int32) else 0) = 0 from if_neg c12] at kc12
          exact ex_forget [some (.ref 94), none, some (.int x2), some (.int (bI (¬ ((h.1 94 10) ≤ x2))))] ⟨rfl, ⟨rfl, ⟨rfl, trivial⟩⟩⟩ kc12
        · replace w := wbc12 c12
          refine ex_aload_n hX dX7_river_302 rfl rfl ?_
          refine ex_get hX (.ref 98) FL_7_20 rfl (fun _ => rfl) dX7_river_303 ?_
          refine ex_bipush (v := 10) hX dX7_river_306 rfl ?_
          refine ex_iload_n hX dX7_river_308 rfl rfl ?_
          refine ex_iadd hX dX7_river_309 ?_
          obtain ⟨q13, w⟩ := w
          refine ex_iald hX rfl q13 dX7_river_310 ?_
          refine ex_goto hX 315 dX7_river_311 (by decide) ?_
          rw [show (if (¬ ((h.1 94 10) ≤ x2)) then (u11.1 98 (Int32.toNatClampNeg (10 + x2)) : Int32) else 0) = u11.1 98 (Int32.toNatClampNeg (10 + x2)) from if_pos c12] at kc12
          exact ex_forget [some (.ref 94), none, some (.int x2), some (.int (bI (¬ ((h.1 94 10) ≤ x2))))] ⟨rfl, ⟨rfl, ⟨rfl, trivial⟩⟩⟩ kc12
      refine ex_ifeqB hX 291 dX7_river_276 (by decide) (fun c7 => ?_) (fun c7 => ?_)
      · refine ex_iconst (v := 0) hX dX7_river_291 rfl ?_
        rw [show (if (¬ ((h.1 94 10) ≤ x2)) then (h.1 97 (Int32.toNatClampNeg (10 + x2)) : Int32) else 0) = 0 from if_neg c7] at kc7
        exact ex_forget [some (.ref 94), none, some (.int x2), some (.int (bI (¬ ((h.1 94 10) ≤ x2))))] ⟨rfl, ⟨rfl, ⟨rfl, trivial⟩⟩⟩ kc7
      · replace w := wbc7 c7
        refine ex_aload_n hX dX7_river_279 rfl rfl ?_
        refine ex_get hX (.ref 97) FL_7_17 rfl (fun _ => rfl) dX7_river_280 ?_
        refine ex_bipush (v := 10) hX dX7_river_283 rfl ?_
        refine ex_iload_n hX dX7_river_285 rfl rfl ?_
        refine ex_iadd hX dX7_river_286 ?_
        obtain ⟨q8, w⟩ := w
        refine ex_iald hX rfl q8 dX7_river_287 ?_
        refine ex_goto hX 292 dX7_river_288 (by decide) ?_
        rw [show (if (¬ ((h.1 94 10) ≤ x2)) then (h.1 97 (Int32.toNatClampNeg (10 + x2)) : Int32) else 0) = h.1 97 (Int32.toNatClampNeg (10 + x2)) from if_pos c7] at kc7
        exact ex_forget [some (.ref 94), none, some (.int x2), some (.int (bI (¬ ((h.1 94 10) ≤ x2))))] ⟨rfl, ⟨rfl, ⟨rfl, trivial⟩⟩⟩ kc7
    refine ex_icmpge hX 268 dX7_river_261 (by decide) (fun c6 => ?_) (fun c6 => ?_)
    · refine ex_iconst (v := 0) hX dX7_river_268 rfl ?_
      rw [show (bI (¬ ((h.1 94 10) ≤ x2))) = 0 from bI_f (fun z => z c6)] at kc6
      exact ex_forget [some (.ref 94), none, some (.int x2), none] ⟨rfl, ⟨rfl, trivial⟩⟩ kc6
    · refine ex_iconst (v := 1) hX dX7_river_264 rfl ?_
      refine ex_goto hX 269 dX7_river_265 (by decide) ?_
      rw [show (bI (¬ ((h.1 94 10) ≤ x2))) = 1 from bI_t c6] at kc6
      exact ex_forget [some (.ref 94), none, some (.int x2), none] ⟨rfl, ⟨rfl, trivial⟩⟩ kc6

theorem lmm_hi {p : Nat} (hp : plm p) : ((lmm p).1 = 94 ∧ (lmm p).2 = 10) ∨ (((lmm p).1 = 97 ∨ (lmm p).1 = 98 ∨ (lmm p).1 = 99 ∨ (lmm p).1 = 102 ∨ (lmm p).1 = 103) ∧ 10 ≤ (lmm p).2) ∨ (((lmm p).1 = 100 ∨ (lmm p).1 = 101) ∧ 24 ≤ (lmm p).2) := by
  unfold lmm
  unfold plm at hp
  by_cases a1 : p < 100
  · rw [if_pos a1]; dsimp only; omega
  · rw [if_neg a1]
    by_cases a2 : p < 400
    · rw [if_pos a2]; dsimp only; omega
    · rw [if_neg a2]
      by_cases a3 : p < 600
      · rw [if_pos a3]; dsimp only; omega
      · rw [if_neg a3]; dsimp only; omega
theorem RMd.off {a k : Nat} {v : Int32} {d : Nat → Nat} {u u2 : AH} (h : RMd d u) (hk : ¬ ((a = 94 ∧ (k = 10 ∨ k = 24)) ∨ ((a = 97 ∨ a = 98 ∨ a = 99 ∨ a = 102 ∨ a = 103) ∧ 10 ≤ k) ∨ ((a = 100 ∨ a = 101) ∧ 24 ≤ k))) (e : u2 = (hset u.1 a k v, u.2)) : RMd d u2 := by
  refine ⟨fun q hq => ?_, ?_⟩
  · rw [e]
    show hset u.1 a k v (lmm q).1 (lmm q).2 = _
    rw [hset_at]
    · exact h.1 q hq
    · intro y
      have := lmm_hi hq
      omega
  · rw [e]
    show hset u.1 a k v 94 24 = _
    rw [hset_at]
    · exact h.2
    · intro y; omega
def nnS (d : Nat → Nat) : Nat := if d 0 = 0 then 0 else d 0 + 1
/-- what river() of the reference leaves -/
def RVm (R : Cur × (Nat → Nat)) (h : AH) (r : Int32) (u : AH) : Prop := u.2 = h.2 ∧ (∀ i, (i < 94 ∨ 107 ≤ i) → u.1 i = h.1 i) ∧ u.1 94 17 = 0 ∧ u.1 94 25 = h.1 94 25 ∧ u.1 94 26 = h.1 94 26 ∧ (¬ R.1.1 = 0 → r = (-10) - nI R.1.1 ∧ u.1 94 22 = nI R.1.2.1 ∧ ∀ i k, ¬ chM i k → ¬ (i = 94 ∧ k = 17) → u.1 i k = h.1 i k) ∧ (R.1.1 = 0 → r = nI (nnS R.2) ∧ u.1 94 9 = nI (nnS R.2) ∧ u.1 94 14 = 0 ∧ u.1 94 22 = -1 ∧ u.1 94 32 = 0 ∧ (∀ k, k < 24 → u.1 100 k = nI (R.2 (600 + k)) ∧ u.1 101 k = nI (R.2 (700 + k))) ∧ (∀ k, k < 10 → u.1 97 k = nI (R.2 (100 + k)) ∧ u.1 98 k = nI (R.2 (200 + k)) ∧ u.1 95 k = nI (R.2 (300 + k))) ∧ (∀ k, k < 9 → u.1 103 k = nI (R.2 (500 + k)) ∧ u.1 95 (10 + k) = nI (R.2 (400 + k))) ∧ (∀ j, 20 ≤ j → j < 200 → u.1 95 j = if j = 52 then h.1 95 52 else 0) ∧ u.1 96 0 = 0 ∧ u.1 96 1 = 0)
def BSm (R : Cur × (Nat → Nat)) (h u : AH) : Prop := u.2 = h.2 ∧ (∀ i, (i < 94 ∨ 107 ≤ i) → u.1 i = h.1 i) ∧ u.1 94 17 = 0 ∧ u.1 94 25 = h.1 94 25 ∧ u.1 94 26 = h.1 94 26 ∧ u.1 94 9 = nI (nnS R.2) ∧ u.1 94 22 = -1 ∧ RMd R.2 u
theorem BSm.set {R : Cur × (Nat → Nat)} {h u u2 : AH} {a k : Nat} {v : Int32} (b : BSm R h u) (ha : 95 ≤ a ∧ a ≤ 106) (hk : ¬ (((a = 97 ∨ a = 98 ∨ a = 99 ∨ a = 102 ∨ a = 103) ∧ 10 ≤ k) ∨ ((a = 100 ∨ a = 101) ∧ 24 ≤ k))) (e : u2 = (hset u.1 a k v, u.2)) : BSm R h u2 := by
  obtain ⟨b1, b2, b3, b4, b5, b6, b7, b8⟩ := b
  have o : u2.1 94 = u.1 94 := by rw [e, hs_o (by omega)]
  refine ⟨by rw [e]; exact b1, fun i hi => by rw [e, hs_o (by omega)]; exact b2 i hi, by rw [o]; exact b3, by rw [o]; exact b4, by rw [o]; exact b5, by rw [o]; exact b6, by rw [o]; exact b7, b8.off (by omega) e⟩

set_option maxRecDepth 100000 in
set_option maxHeartbeats 4000000 in
theorem c_X7_river {h : AH}   {T : Nat → Nat} {L : Nat} (hT : TXm T L h) : CI yX7_river cX7_river 4 (some .int) 4 98 [.ref 94] h (RVm (riverS T L 401 (0, 0, 0) d0S) h) := by
  refine CI.of [some (.ref 94), none, none, none] (by decide +kernel) rfl (Nat.le_of_ble_eq_true rfl) rfl (fun Z hX => ?_)
  have hL := hT.1
  generalize hR : riverS T L 401 (0, 0, 0) d0S = R
  -- the ten nodes
  have L250 : ∀ i, i ≤ 10 → ∀ u : AH, BSm R h u → WFd R.2 → (∀ k, k < 24 → u.1 100 k = nI (R.2 (600 + k)) ∧ u.1 101 k = nI (R.2 (700 + k))) → (∀ k, k < i → u.1 97 k = nI (R.2 (100 + k)) ∧ u.1 98 k = nI (R.2 (200 + k)) ∧ u.1 95 k = nI (R.2 (300 + k))) → (∀ k, k < i → k < 9 → u.1 103 k = nI (R.2 (500 + k)) ∧ u.1 95 (10 + k) = nI (R.2 (400 + k))) → (∀ j, 20 ≤ j → j < 200 → u.1 95 j = if j = 52 then h.1 95 52 else 0) → R.1.1 = 0 → EX Z 4 (QI Z (RVm R h)) 250 u [some (.ref 94), none, some (.int (nI i)), none] [] := by
    refine ldown _ ?_ ?_
    · intro u b w c24 c10 c9 cj r0
      refine sg_X7_river_250 hX ⟨fun _ u2 e2 u3 e3 u4 e4 u5 e5 => ?_, fun z => absurd (by rw [k_10]; exact nI_le (Nat.le_refl _) (by omega)) z⟩
      obtain ⟨b1, b2, b3, b4, b5, b6, b7, b8⟩ := b
      have o : ∀ i, i ≠ 94 → i ≠ 96 → u5.1 i = u.1 i := fun i h1 h2 => by rw [e5, hs_o h2, e4, hs_o h2, e3, hs_o h1, e2, hs_o h1]
      have o4 : ∀ k, k ≠ 14 → k ≠ 32 → u5.1 94 k = u.1 94 k := fun k h1 h2 => by rw [e5, hs_o (by omega), e4, hs_o (by omega), e3, hs_i h2, e2, hs_i h1]
      have vz : vp_nar .boolean 0 = 0 := by decide
      rw [vz, show Int32.toNatClampNeg 0 = 0 from rfl] at e4
      rw [vz, show Int32.toNatClampNeg 1 = 1 from rfl] at e5
      refine ⟨by rw [e5, e4, e3, e2]; exact b1, fun i hi => by rw [o i (by omega) (by omega)]; exact b2 i hi, by rw [o4 17 (by omega) (by omega)]; exact b3, by rw [o4 25 (by omega) (by omega)]; exact b4, by rw [o4 26 (by omega) (by omega)]; exact b5, fun z => absurd r0 z, fun _ => ⟨by rw [o4 9 (by omega) (by omega)]; exact b6, by rw [o4 9 (by omega) (by omega)]; exact b6, by rw [e5, hs_o (by omega), e4, hs_o (by omega), e3, hs_i (by omega), e2, hs_s], by rw [o4 22 (by omega) (by omega)]; exact b7, by rw [e5, hs_o (by omega), e4, hs_o (by omega), e3, hs_s], ?_, ?_, ?_, ?_, ?_, ?_⟩⟩
      · rw [o 100 (by omega) (by omega), o 101 (by omega) (by omega)]; exact c24
      · rw [o 97 (by omega) (by omega), o 98 (by omega) (by omega), o 95 (by omega) (by omega)]; exact c10
      · rw [o 103 (by omega) (by omega), o 95 (by omega) (by omega)]; exact fun k hk => c9 k (by omega) hk
      · rw [o 95 (by omega) (by omega)]; exact cj
      · rw [e5, hs_i (by omega), e4, hs_s]
      · rw [e5, hs_s]
    · intro i hi ih u b w c24 c10 c9 cj r0
      have n10 := b.2.2.2.2.2.2.2.n
      have w9 := w.1
      have cmp : (nI (R.2 0) ≤ nI i) ↔ ¬ i < R.2 0 := by rw [nI_leI (by omega) (by omega)]; omega
      have v20 : vp_in (10 + nI i) 20 := by rw [k_10, nI_add]; exact vp_in_nI (by omega) (by omega)
      have cl : Int32.toNatClampNeg (10 + nI i) = 10 + i := by rw [k_10, nI_add, nI_clamp (by omega)]
      have ci : Int32.toNatClampNeg (nI i) = i := nI_clamp (by omega)
      have z5 := w.2.2.2.2.1 i (by omega)
      refine sg_X7_river_250 hX ⟨fun z => absurd z (by rw [k_10]; exact nI_ge hi (by omega)), fun _ => ?_⟩
      rw [cl, ci, nI_1]
      refine ⟨fun _ => ⟨v20, trivial⟩, fun v9 g9 => ⟨vp_in_nI (by omega) (by omega), fun u11 e11 => ⟨fun _ => ⟨v20, trivial⟩, fun v14 g14 => ⟨vp_in_nI (by omega) (by omega), fun u16 e16 => ⟨fun _ => ⟨v20, trivial⟩, fun v19 g19 => ⟨vp_in_nI (by omega) (by omega), fun u21 e21 => ⟨v20, fun v23 g23 => ⟨vp_in_nI (by omega) (by omega), fun u25 e25 => ⟨v20, fun v27 g27 => ⟨by rw [k_10, nI_add]; exact vp_in_nI (by omega) (by omega), fun u29 e29 => ?_⟩⟩⟩⟩⟩⟩⟩⟩⟩⟩
      have B11 := b.set (a := 97) (k := i) (by omega) (by omega) e11
      have B16 := B11.set (a := 98) (k := i) (by omega) (by omega) e16
      have B21 := B16.set (a := 95) (k := i) (by omega) (by omega) e21
      have B25 := B21.set (a := 103) (k := i) (by omega) (by omega) e25
      have B29 := B25.set (a := 95) (k := 10 + i) (by omega) (by omega) e29
      have x9 : v9 = nI (R.2 (100 + i)) := by
        rw [g9]
        by_cases c : i < R.2 0
        · rw [if_pos (by rw [n10, cmp]; exact fun y => y c)]
          exact b.2.2.2.2.2.2.2.at (p := 100 + i) (by unfold plm; omega) (lm_1 (by omega))
        · rw [if_neg (by rw [n10, cmp]; exact fun y => y c), (z5.2 c).1]; rfl
      have m10 : u11.1 94 10 = nI (R.2 0) := B11.2.2.2.2.2.2.2.n
      have x14 : v14 = nI (R.2 (200 + i)) := by
        rw [g14]
        by_cases c : i < R.2 0
        · rw [if_pos (by rw [n10, cmp]; exact fun y => y c)]
          exact B11.2.2.2.2.2.2.2.at (p := 200 + i) (by unfold plm; omega) (lm_2 (by omega))
        · rw [if_neg (by rw [n10, cmp]; exact fun y => y c), (z5.2 c).2.1]; rfl
      have x19 : v19 = nI (R.2 (300 + i)) := by
        rw [g19]
        by_cases c : i < R.2 0
        · rw [if_pos (by rw [n10, cmp]; exact fun y => y c)]
          exact B16.2.2.2.2.2.2.2.at (p := 300 + i) (by unfold plm; omega) (lm_3 (by omega))
        · rw [if_neg (by rw [n10, cmp]; exact fun y => y c), (z5.2 c).2.2]; rfl
      refine ih u29 B29 w ?_ (fun k hk => ?_) (fun k hk k9 => ?_) (fun j h1 h2 => ?_) r0
      · rw [e29, hs_o (by omega), hs_o (by omega), e25, hs_o (by omega), hs_o (by omega), e21, hs_o (by omega), hs_o (by omega), e16, hs_o (by omega), hs_o (by omega), e11, hs_o (by omega), hs_o (by omega)]
        exact c24
      · by_cases c : k = i
        · subst c
          refine ⟨?_, ?_, ?_⟩
          · rw [e29, hs_o (by omega), e25, hs_o (by omega), e21, hs_o (by omega), e16, hs_o (by omega), e11, hs_s, x9]
          · rw [e29, hs_o (by omega), e25, hs_o (by omega), e21, hs_o (by omega), e16, hs_s, x14]
          · rw [e29, hs_i (by omega), e25, hs_o (by omega), e21, hs_s, x19]
        · obtain ⟨t1, t2, t3⟩ := c10 k (by omega)
          refine ⟨?_, ?_, ?_⟩
          · rw [e29, hs_o (by omega), e25, hs_o (by omega), e21, hs_o (by omega), e16, hs_o (by omega), e11, hs_i c]; exact t1
          · rw [e29, hs_o (by omega), e25, hs_o (by omega), e21, hs_o (by omega), e16, hs_i c, e11, hs_o (by omega)]; exact t2
          · rw [e29, hs_i (by omega), e25, hs_o (by omega), e21, hs_i c, e16, hs_o (by omega), e11, hs_o (by omega)]; exact t3
      · by_cases c : k = i
        · subst c
          refine ⟨?_, ?_⟩
          · rw [e29, hs_o (by omega), e25, hs_s, g23]
            exact B21.2.2.2.2.2.2.2.at (p := 500 + k) (by unfold plm; omega) (lm_5 (by omega))
          · rw [e29, hs_s, g27]
            exact B25.2.2.2.2.2.2.2.at (p := 400 + k) (by unfold plm; omega) (lm_4 (by omega))
        · obtain ⟨t1, t2⟩ := c9 k (by omega) k9
          refine ⟨?_, ?_⟩
          · rw [e29, hs_o (by omega), e25, hs_i c, e21, hs_o (by omega), e16, hs_o (by omega), e11, hs_o (by omega)]; exact t1
          · rw [e29, hs_i (by omega), e25, hs_o (by omega), e21, hs_i (by omega), e16, hs_o (by omega), e11, hs_o (by omega)]; exact t2
      · rw [e29, hs_i (by omega), e25, hs_o (by omega), e21, hs_i (by omega), e16, hs_o (by omega), e11, hs_o (by omega)]
        exact cj j h1 h2
  -- nothing is left
  have L220 : ∀ i, i ≤ 200 → ∀ u : AH, BSm R h u → WFd R.2 → (∀ k, k < 24 → u.1 100 k = nI (R.2 (600 + k)) ∧ u.1 101 k = nI (R.2 (700 + k))) → (∀ j, j < i → u.1 95 j = 0) → R.1.1 = 0 → EX Z 4 (QI Z (RVm R h)) 220 u [some (.ref 94), some (.int (h.1 95 52)), some (.int (nI i)), none] [] := by
    refine ldown _ ?_ ?_
    · intro u b w c24 cj r0
      refine sg_X7_river_220 hX ⟨fun _ u2 e2 => ?_, fun z => absurd (by rw [k_200]; exact nI_le (Nat.le_refl _) (by omega)) z⟩
      rw [show Int32.toNatClampNeg 52 = 52 from rfl] at e2
      refine L250 0 (by omega) u2 (b.set (a := 95) (k := 52) (by omega) (by omega) e2) w (by rw [e2, hs_o (by omega), hs_o (by omega)]; exact c24) (fun k hk => absurd hk (by omega)) (fun k hk => absurd hk (by omega)) (fun j h1 h2 => ?_) r0
      by_cases c : j = 52
      · subst c
        rw [if_pos rfl, e2, hs_s]
      · rw [if_neg c, e2, hs_i c]; exact cj j h2
    · intro i hi ih u b w c24 cj r0
      refine sg_X7_river_220 hX ⟨fun z => absurd z (by rw [k_200]; exact nI_ge hi (by omega)), fun _ => ⟨vp_in_nI (by omega) (by omega), fun u4 e4 => ?_⟩⟩
      rw [nI_clamp (by omega)] at e4
      rw [nI_1]
      refine ih u4 (b.set (a := 95) (k := i) (by omega) (by omega) e4) w (by rw [e4, hs_o (by omega), hs_o (by omega)]; exact c24) (fun j hj => ?_) r0
      by_cases c : j = i
      · subst c; rw [e4, hs_s]
      · rw [e4, hs_i c]; exact cj j (by omega)
  -- the days
  have L168 : ∀ i, i ≤ 24 → ∀ u : AH, BSm R h u → WFd R.2 → u.1 95 = h.1 95 → (∀ k, k < i → u.1 100 k = nI (R.2 (600 + k)) ∧ u.1 101 k = nI (R.2 (700 + k))) → R.1.1 = 0 → EX Z 4 (QI Z (RVm R h)) 168 u [some (.ref 94), some (.int (nI i)), none, none] [] := by
    refine ldown _ ?_ ?_
    · intro u b w e95 c24 r0
      refine sg_X7_river_168 hX ⟨fun _ => ?_, fun z => absurd (by rw [k_24]; exact nI_le (Nat.le_refl _) (by omega)) z⟩
      rw [show Int32.toNatClampNeg 52 = 52 from rfl, e95]
      exact L220 0 (by omega) u b w c24 (fun j hj => absurd hj (by omega)) r0
    · intro i hi ih u b w e95 c24 r0
      have v48 : vp_in (24 + nI i) 48 := by rw [k_24, nI_add]; exact vp_in_nI (by omega) (by omega)
      have cl : Int32.toNatClampNeg (24 + nI i) = 24 + i := by rw [k_24, nI_add, nI_clamp (by omega)]
      refine sg_X7_river_168 hX ⟨fun z => absurd z (by rw [k_24]; exact nI_ge hi (by omega)), fun _ => ⟨v48, vp_in_nI (by omega) (by omega), fun u4 e4 => ⟨v48, vp_in_nI (by omega) (by omega), fun u7 e7 => ?_⟩⟩⟩
      rw [cl, nI_clamp (by omega)] at e4 e7
      rw [nI_1]
      have B4 := b.set (a := 100) (k := i) (by omega) (by omega) e4
      have B7 := B4.set (a := 101) (k := i) (by omega) (by omega) e7
      refine ih u7 B7 w (by rw [e7, hs_o (by omega), e4, hs_o (by omega)]; exact e95) (fun k hk => ?_) r0
      by_cases c : k = i
      · subst c
        refine ⟨?_, ?_⟩
        · rw [e7, hs_o (by omega), e4, hs_s]
          exact b.2.2.2.2.2.2.2.at (p := 600 + k) (by unfold plm; omega) (lm_6 (by omega))
        · rw [e7, hs_s]
          exact B4.2.2.2.2.2.2.2.at (p := 700 + k) (by unfold plm; omega) (lm_7 (by omega))
      · obtain ⟨t1, t2⟩ := c24 k (by omega)
        exact ⟨by rw [e7, hs_o (by omega), e4, hs_i c]; exact t1, by rw [e7, hs_i c, e4, hs_o (by omega)]; exact t2⟩
  -- the end of the text
  have TL : ∀ u : AH, FRm h u → u.1 94 21 = nI R.1.1 → R.1.1 ≤ 4 → (¬ R.1.1 = 0 → u.1 94 22 = nI R.1.2.1) → (R.1.1 = 0 → u.1 94 22 = -1 ∧ RMd R.2 u ∧ WFd R.2) → (∀ u2 : AH, u2 = (hset u.1 94 17 0, u.2) → (((u2.1 94 21) ≤ 0 → (∀ v5 : Int32, v5 = (if (u2.1 94 10) = 0 then (0 : Int32) else (u2.1 94 10) + 1) → (∀ u6 : AH, u6 = (hset u2.1 94 9 v5, u2.2) → EX Z 4 (QI Z (RVm R h)) 168 u6 [some (.ref 94), some (.int 0), none, none] []))) ∧ (¬ (u2.1 94 21) ≤ 0 → RVm R h ((-10) - (u2.1 94 21)) u2))) := by
    intro u f e21 r4 e22 ok u2 e2
    have k2 : ∀ k, k ≠ 17 → u2.1 94 k = u.1 94 k := fun k hk => by rw [e2, hs_i hk]
    rw [k2 21 (by omega), k2 10 (by omega), e21, k_0, nI_leI (by omega) (by omega), ← k_0]
    refine ⟨fun z v5 g5 u6 e6 => ?_, fun z => ?_⟩
    · have r0 : R.1.1 = 0 := by omega
      obtain ⟨o22, oR, oW⟩ := ok r0
      have w9 := oW.1
      have x5 : v5 = nI (nnS R.2) := by
        rw [g5, oR.n, nnS]
        by_cases c : R.2 0 = 0
        · rw [if_pos c, if_pos (by rw [c]; rfl)]; rfl
        · rw [if_neg c, if_neg (nI_ne0 (by omega) (by omega)), nI_1]
      rw [x5] at e6
      have k6 : ∀ k, k ≠ 9 → k ≠ 17 → u6.1 94 k = u.1 94 k := fun k h1 h2 => by rw [e6, hs_i h1, k2 k h2]
      have ki : ∀ i, i ≠ 94 → u6.1 i = u.1 i := fun i h1 => by rw [e6, hs_o h1, e2, hs_o h1]
      refine L168 0 (by omega) u6 ⟨by rw [e6, e2]; exact f.1, fun i hi => ?_, by rw [e6, hs_i (by omega), e2, hs_s], ?_, ?_, by rw [e6, hs_s], by rw [k6 22 (by omega) (by omega)]; exact o22, (oR.off (by omega) e2).off (by omega) e6⟩ oW ?_ (fun k hk => absurd hk (by omega)) r0
      · rw [ki i (by omega)]
        funext k
        exact f.2 i k (by unfold chM; omega)
      · rw [k6 25 (by omega) (by omega)]; exact f.2 94 25 (by unfold chM; omega)
      · rw [k6 26 (by omega) (by omega)]; exact f.2 94 26 (by unfold chM; omega)
      · rw [ki 95 (by omega)]
        funext k
        exact f.2 95 k (by unfold chM; omega)
    · have r0 : ¬ R.1.1 = 0 := by omega
      refine ⟨by rw [e2]; exact f.1, fun i hi => ?_, by rw [e2, hs_s], ?_, ?_, fun _ => ⟨rfl, by rw [k2 22 (by omega)]; exact e22 r0, fun i k h1 h2 => ?_⟩, fun y => absurd y r0⟩
      · rw [e2, hs_o (by omega)]
        funext k
        exact f.2 i k (by unfold chM; omega)
      · rw [k2 25 (by omega)]; exact f.2 94 25 (by unfold chM; omega)
      · rw [k2 26 (by omega)]; exact f.2 94 26 (by unfold chM; omega)
      · rw [e2]
        show hset u.1 94 17 0 i k = _
        rw [hset_at h2]
        exact f.2 i k h1
  -- clause by clause
  have LP : ∀ m i, i + m = 401 → ∀ (c : Cur) (d : Nat → Nat) (u : AH), FRm h u → CM T L u c → (c.1 = 0 → RMd d u ∧ u.1 94 23 = nI (kdS d) ∧ WFd d ∧ i ≤ c.2.2) → riverS T L m c d = R → EX Z 4 (QI Z (RVm R h)) 104 u [some (.ref 94), none, none, none] [] := by
    intro m
    induction m with
    | zero =>
      intro i hi c d u f cu r eR
      have eR : (c, d) = R := eR
      have c0 : ¬ c.1 = 0 := fun y => by
        have a := (r y).2.2.2
        have b := cu.pos y
        omega
      refine sg_X7_river_104 hX ⟨fun _ => TL u f ?_ ?_ ?_ ?_, fun z => absurd ((CM_f cu).mp z) c0⟩ <;> rw [← eR]
      · exact cu.1
      · exact cu.2.1
      · exact fun y => (cu.2.2.1 y).2
      · exact fun y => absurd y c0
    | succ m ih =>
      intro i hi c d u f cu r eR
      refine sg_X7_river_104 hX ⟨fun z => ?_, fun z => ?_⟩
      · have c0 : ¬ c.1 = 0 := fun y => z ((CM_f cu).mpr y)
        rw [riverS, if_neg (fun y => c0 y.1)] at eR
        refine TL u f ?_ ?_ ?_ ?_ <;> rw [← eR]
        · exact cu.1
        · exact cu.2.1
        · exact fun y => (cu.2.2.1 y).2
        · exact fun y => absurd y c0
      · have c0 := (CM_f cu).mp z
        obtain ⟨rd, kd, wd, ip⟩ := r c0
        obtain ⟨cp, c22, p0, hp0, e18, esp⟩ := cu.2.2.2 c0
        have hq := sp_le (T := T) cp
        have sp2 := sp_sp (T := T) cp
        refine ⟨_, c_X7_here (hT.fm f) hp0 e18, fun rr u1 p1 => ?_⟩
        obtain ⟨f1, o1, b1, er1⟩ := p1
        rw [esp] at b1 er1
        have F1 := f.tr (FRm.of f1)
        have m1 : CM T L u1 c := ⟨by rw [o1 21 (by omega)]; exact cu.1, cu.2.1, fun x => absurd c0 x, fun _ => ⟨cp, by rw [o1 22 (by omega)]; exact c22, _, hq.2, b1, sp2⟩⟩
        rw [riverS] at eR
        refine sg_X7_river_115 hX ⟨fun y => ?_, fun y => ?_⟩
        · have ql : ¬ spN T L c.2.2 < L := fun x => by
            have := (hT.2.2 _ x).1
            rw [er1, if_pos x] at y
            exact absurd y (nI_pos (by omega))
          rw [if_neg (fun x => ql x.2)] at eR
          refine TL u1 F1 ?_ ?_ ?_ ?_ <;> rw [← eR]
          · exact m1.1
          · exact cu.2.1
          · exact fun y => absurd c0 y
          · exact fun _ => ⟨(m1.2.2.2 c0).2.1, rd.fr f1, wd⟩
        · have ql : spN T L c.2.2 < L := by
            by_cases x : spN T L c.2.2 < L
            · exact x
            · rw [er1, if_neg x] at y
              exact absurd (by decide) y
          rw [if_pos ⟨c0, ql⟩] at eR
          refine ⟨_, c_X7_takeClause (hT.fm F1) m1 c0 (rd.fr f1) (by rw [f1.2.2 23 (by omega)]; exact kd) wd, fun u2 p2 => sg_X7_river_122 hX ?_⟩
          refine ih (i + 1) (by omega) _ _ u2 (F1.tr p2.1) p2.2.1 (fun x => ⟨(p2.2.2 x).1, (p2.2.2 x).2, ?_⟩) eR
          have ck := clause_ok hq.2 wd x
          exact ⟨ck.2.2, by omega⟩
  -- the beginning
  have L57 : ∀ i, i ≤ 10 → ∀ u : AH, FRm h u → CM T L u (0, 0, 0) → u.1 94 10 = 0 → u.1 94 23 = 0 → u.1 94 24 = 0 → (∀ k, k < 24 → u.1 100 (24 + k) = 50 ∧ u.1 101 (24 + k) = 0) → (∀ k, k < i → u.1 97 (10 + k) = 0 ∧ u.1 98 (10 + k) = 0 ∧ u.1 99 (10 + k) = 0 ∧ u.1 102 (10 + k) = 5 ∧ u.1 103 (10 + k) = 1) → EX Z 4 (QI Z (RVm R h)) 57 u [some (.ref 94), some (.int (nI (10 + i))), none, none] [] := by
    refine ldown _ ?_ ?_
    · intro u f m a b c d e
      refine sg_X7_river_57 hX ⟨fun _ => LP 401 0 rfl (0, 0, 0) d0S u f m (fun _ => ⟨⟨fun p hp => ?_, by rw [c]; rfl⟩, by rw [b]; rfl, WF_0, Nat.zero_le _⟩) hR, fun z => absurd (by rw [k_20]; exact nI_le (by omega) (by omega)) z⟩
      unfold plm at hp
      rcases hp with z | z | z | z | z | z | z | z
      · rw [z, lm_0]; exact a
      · rw [show p = 100 + (p - 100) by omega, lm_1 (by omega), d0S, if_neg (by omega), if_neg (by omega), if_neg (by omega)]
        exact (e (p - 100) (by omega)).1
      · rw [show p = 200 + (p - 200) by omega, lm_2 (by omega), d0S, if_neg (by omega), if_neg (by omega), if_neg (by omega)]
        exact (e (p - 200) (by omega)).2.1
      · rw [show p = 300 + (p - 300) by omega, lm_3 (by omega), d0S, if_neg (by omega), if_neg (by omega), if_neg (by omega)]
        exact (e (p - 300) (by omega)).2.2.1
      · rw [show p = 400 + (p - 400) by omega, lm_4 (by omega), d0S, if_pos (by omega)]
        exact (e (p - 400) (by omega)).2.2.2.1
      · rw [show p = 500 + (p - 500) by omega, lm_5 (by omega), d0S, if_neg (by omega), if_pos (by omega)]
        exact (e (p - 500) (by omega)).2.2.2.2
      · rw [show p = 600 + (p - 600) by omega, lm_6 (by omega), d0S, if_neg (by omega), if_neg (by omega), if_pos (by omega)]
        exact (d (p - 600) (by omega)).1
      · rw [show p = 700 + (p - 700) by omega, lm_7 (by omega), d0S, if_neg (by omega), if_neg (by omega), if_neg (by omega)]
        exact (d (p - 700) (by omega)).2
    · intro i hi ih u f m a b c d e
      refine sg_X7_river_57 hX ⟨fun z => absurd z (by rw [k_20]; exact nI_ge (by omega) (by omega)), fun _ => ⟨vp_in_nI (by omega) (by omega), fun u3 e3 => ⟨vp_in_nI (by omega) (by omega), fun u5 e5 => ⟨vp_in_nI (by omega) (by omega), fun u7 e7 => ⟨vp_in_nI (by omega) (by omega), fun u9 e9 => ⟨vp_in_nI (by omega) (by omega), fun u11 e11 => ?_⟩⟩⟩⟩⟩⟩
      rw [nI_clamp (by omega)] at e3 e5 e7 e9 e11
      rw [nI_1, show 10 + i + 1 = 10 + (i + 1) by omega]
      have F := ((((f.set (i := 97) (k := 10 + i) (by unfold chM; omega) e3).set (i := 98) (k := 10 + i) (by unfold chM; omega) e5).set (i := 99) (k := 10 + i) (by unfold chM; omega) e7).set (i := 102) (k := 10 + i) (by unfold chM; omega) e9).set (i := 103) (k := 10 + i) (by unfold chM; omega) e11
      have o : ∀ j, j ≠ 97 → j ≠ 98 → j ≠ 99 → j ≠ 102 → j ≠ 103 → u11.1 j = u.1 j := fun j h1 h2 h3 h4 h5 => by rw [e11, hs_o h5, e9, hs_o h4, e7, hs_o h3, e5, hs_o h2, e3, hs_o h1]
      have o94 := o 94 (by omega) (by omega) (by omega) (by omega) (by omega)
      refine ih u11 F (m.same (fun k _ => by rw [o94])) (by rw [o94]; exact a) (by rw [o94]; exact b) (by rw [o94]; exact c) (by rw [o 100 (by omega) (by omega) (by omega) (by omega) (by omega), o 101 (by omega) (by omega) (by omega) (by omega) (by omega)]; exact d) (fun k hk => ?_)
      by_cases z : k = i
      · subst z
        refine ⟨?_, ?_, ?_, ?_, ?_⟩
        · rw [e11, hs_o (by omega), e9, hs_o (by omega), e7, hs_o (by omega), e5, hs_o (by omega), e3, hs_s]
        · rw [e11, hs_o (by omega), e9, hs_o (by omega), e7, hs_o (by omega), e5, hs_s]
        · rw [e11, hs_o (by omega), e9, hs_o (by omega), e7, hs_s]
        · rw [e11, hs_o (by omega), e9, hs_s]
        · rw [e11, hs_s]
      · obtain ⟨t1, t2, t3, t4, t5⟩ := e k (by omega)
        refine ⟨?_, ?_, ?_, ?_, ?_⟩
        · rw [e11, hs_o (by omega), e9, hs_o (by omega), e7, hs_o (by omega), e5, hs_o (by omega), e3, hs_i (by omega)]; exact t1
        · rw [e11, hs_o (by omega), e9, hs_o (by omega), e7, hs_o (by omega), e5, hs_i (by omega), e3, hs_o (by omega)]; exact t2
        · rw [e11, hs_o (by omega), e9, hs_o (by omega), e7, hs_i (by omega), e5, hs_o (by omega), e3, hs_o (by omega)]; exact t3
        · rw [e11, hs_o (by omega), e9, hs_i (by omega), e7, hs_o (by omega), e5, hs_o (by omega), e3, hs_o (by omega)]; exact t4
        · rw [e11, hs_i (by omega), e9, hs_o (by omega), e7, hs_o (by omega), e5, hs_o (by omega), e3, hs_o (by omega)]; exact t5
  have L21 : ∀ i, i ≤ 24 → ∀ u : AH, FRm h u → CM T L u (0, 0, 0) → u.1 94 10 = 0 → u.1 94 23 = 0 → u.1 94 24 = 0 → (∀ k, k < i → u.1 100 (24 + k) = 50 ∧ u.1 101 (24 + k) = 0) → EX Z 4 (QI Z (RVm R h)) 21 u [some (.ref 94), some (.int (nI i)), none, none] [] := by
    refine ldown _ ?_ ?_
    · intro u f m a b c d
      exact sg_X7_river_21 hX ⟨fun _ => L57 0 (by omega) u f m a b c d (fun k hk => absurd hk (by omega)), fun z => absurd (by rw [k_24]; exact nI_le (Nat.le_refl _) (by omega)) z⟩
    · intro i hi ih u f m a b c d
      have v48 : vp_in (24 + nI i) 48 := by rw [k_24, nI_add]; exact vp_in_nI (by omega) (by omega)
      have cl : Int32.toNatClampNeg (24 + nI i) = 24 + i := by rw [k_24, nI_add, nI_clamp (by omega)]
      refine sg_X7_river_21 hX ⟨fun z => absurd z (by rw [k_24]; exact nI_ge hi (by omega)), fun _ => ⟨v48, fun u3 e3 => ⟨v48, fun u5 e5 => ?_⟩⟩⟩
      rw [cl] at e3 e5
      rw [nI_1]
      have F := (f.set (i := 100) (k := 24 + i) (by unfold chM; omega) e3).set (i := 101) (k := 24 + i) (by unfold chM; omega) e5
      have o94 : u5.1 94 = u.1 94 := by rw [e5, hs_o (by omega), e3, hs_o (by omega)]
      refine ih u5 F (m.same (fun k _ => by rw [o94])) (by rw [o94]; exact a) (by rw [o94]; exact b) (by rw [o94]; exact c) (fun k hk => ?_)
      by_cases z : k = i
      · subst z
        exact ⟨by rw [e5, hs_o (by omega), e3, hs_s], by rw [e5, hs_s]⟩
      · obtain ⟨t1, t2⟩ := d k (by omega)
        exact ⟨by rw [e5, hs_o (by omega), e3, hs_i (by omega)]; exact t1, by rw [e5, hs_i (by omega), e3, hs_o (by omega)]; exact t2⟩
  refine sg_X7_river_0 hX ⟨_, c_X7_beginReading (T := T) (L := L), fun u p => sg_X7_river_4 hX (fun u1 e1 u2 e2 u3 e3 => ?_)⟩
  have F := (((FRm.of p.1).set (i := 94) (k := 10) (by unfold chM; omega) e1).set (i := 94) (k := 23) (by unfold chM; omega) e2).set (i := 94) (k := 24) (by unfold chM; omega) e3
  exact L21 0 (by omega) u3 F (p.2.same (fun k hk => by rw [e3, hs_i (by omega), e2, hs_i (by omega), e1, hs_i (by omega)])) (by rw [e3, hs_i (by omega), e2, hs_i (by omega), e1, hs_s]) (by rw [e3, hs_i (by omega), e2, hs_s]) (by rw [e3, hs_s]) (fun k hk => absurd hk (by omega))
