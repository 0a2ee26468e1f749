set_option maxRecDepth 100000 in
set_option maxHeartbeats 4000000 in
theorem sg_X4_begin_0 {Z : CX × GX} {post : AH → Prop} {h : AH} {x1 : Int32} (hX : OK Z RX4 cX4_begin 2 none 0 0) 
    (w : (∀ u1 : AH, u1 = (hset h.1 89 0 0, h.2) → (∀ u2 : AH, u2 = (hset u1.1 89 1 (1 <<< (x1 &&& 31)), u1.2) → post u2)))
    : EX Z 2 (QV Z post) 0 h [some (.ref 89), some (.int x1)] [] := by
  refine ex_aload_n hX dX4_begin_0 rfl rfl ?_
  refine ex_iconst (v := 0) hX dX4_begin_1 rfl ?_
  refine ex_put hX .int FL_4_18 tyX4 tyX4_ok nmX4 rfl rfl rfl rfl rfl (fun _ => (by decide : 0 < 4)) (fun _ => fs_4_0) dX4_begin_2 ?_
  refine ex_nameH (fun u1 eu1 => ?_)
  replace w := w u1 eu1
  refine ex_aload_n hX dX4_begin_5 rfl rfl ?_
  refine ex_iconst (v := 1) hX dX4_begin_6 rfl ?_
  refine ex_iload_n hX dX4_begin_7 rfl rfl ?_
  refine ex_ishl hX dX4_begin_8 ?_
  refine ex_put hX .int FL_4_22 tyX4 tyX4_ok nmX4 rfl rfl rfl rfl rfl (fun _ => (by decide : 1 < 4)) (fun _ => fs_4_1) dX4_begin_9 ?_
  refine ex_nameH (fun u2 eu2 => ?_)
  replace w := w u2 eu2
  exact ex_vret hX dX4_begin_12 w

set_option maxRecDepth 100000 in
set_option maxHeartbeats 4000000 in
theorem sg_X4_isAt_0 {Z : CX × GX} {post : Int32 → AH → Prop} {h : AH} {x1 : Int32} (hX : OK Z RX4 cX4_isAt 2 (some .boolean) 0 0) 
    (w : (((((h.1 89 1) >>> (x1 &&& 31)) &&& 1) = 0 → post 0 h) ∧ (¬ (((h.1 89 1) >>> (x1 &&& 31)) &&& 1) = 0 → post 1 h)))
    : EX Z 2 (QI Z post) 0 h [some (.ref 89), some (.int x1)] [] := by
  refine ex_aload_n hX dX4_isAt_0 rfl rfl ?_
  refine ex_get hX (.int (h.1 89 1)) FL_4_22 rfl (fun _ => rfl) dX4_isAt_1 ?_
  refine ex_iload_n hX dX4_isAt_4 rfl rfl ?_
  refine ex_ishr hX dX4_isAt_5 ?_
  refine ex_iconst (v := 1) hX dX4_isAt_6 rfl ?_
  refine ex_iand hX dX4_isAt_7 ?_
  refine ex_ifeq hX 15 dX4_isAt_8 (by decide) (fun c1 => ?_) (fun c1 => ?_)
  · replace w := w.1 c1
    refine ex_iconst (v := 0) hX dX4_isAt_15 rfl ?_
    exact ex_iret hX dX4_isAt_16 rfl w
  · replace w := w.2 c1
    refine ex_iconst (v := 1) hX dX4_isAt_11 rfl ?_
    refine ex_goto hX 16 dX4_isAt_12 (by decide) ?_
    exact ex_iret hX dX4_isAt_16 rfl w

set_option maxRecDepth 100000 in
set_option maxHeartbeats 4000000 in
theorem sg_X4_addHour_0 {Z : CX × GX} {post : AH → Prop} {h : AH} {x1 : Nat} {x2 : Nat} {x3 : Int32} (hX : OK Z RX4 cX4_addHour 8 none 0 0) (ox1 : oc x1 = some 0) (ox2 : oc x2 = some 3)
    (w : (((h.1 89 0) < 100 → EX Z 8 (QV Z post) 19 h [some (.ref 89), some (.ref x1), some (.ref x2), some (.int x3), some (.int 0), some (.int 0), some (.int 0), none] []) ∧ (¬ (h.1 89 0) < 100 → post h)))
    : EX Z 8 (QV Z post) 0 h [some (.ref 89), some (.ref x1), some (.ref x2), some (.int x3), none, none, none, none] [] := by
  refine ex_aload_n hX dX4_addHour_0 rfl rfl ?_
  refine ex_get hX (.int (h.1 89 0)) FL_4_18 rfl (fun _ => rfl) dX4_addHour_1 ?_
  refine ex_bipush (v := 100) hX dX4_addHour_4 rfl ?_
  refine ex_icmplt hX 10 dX4_addHour_6 (by decide) (fun c1 => ?_) (fun c1 => ?_)
  · replace w := w.1 c1
    refine ex_iconst (v := 0) hX dX4_addHour_10 rfl ?_
    refine ex_istore (lv' := [some (.ref 89), some (.ref x1), some (.ref x2), some (.int x3), some (.int 0), none, none, none]) hX dX4_addHour_11 (by decide) rfl ?_
    refine ex_iconst (v := 0) hX dX4_addHour_13 rfl ?_
    refine ex_istore (lv' := [some (.ref 89), some (.ref x1), some (.ref x2), some (.int x3), some (.int 0), some (.int 0), none, none]) hX dX4_addHour_14 (by decide) rfl ?_
    refine ex_iconst (v := 0) hX dX4_addHour_16 rfl ?_
    refine ex_istore (lv' := [some (.ref 89), some (.ref x1), some (.ref x2), some (.int x3), some (.int 0), some (.int 0), some (.int 0), none]) hX dX4_addHour_17 (by decide) rfl ?_
    exact w
  · replace w := w.2 c1
    exact ex_vret hX dX4_addHour_9 w

set_option maxRecDepth 100000 in
set_option maxHeartbeats 4000000 in
theorem sg_X4_addHour_19 {Z : CX × GX} {post : AH → Prop} {h : AH} {x1 : Nat} {x2 : Nat} {x3 : Int32} {x4 : Int32} {x5 : Int32} {x6 : Int32} (hX : OK Z RX4 cX4_addHour 8 none 0 0) (ox1 : oc x1 = some 0) (ox2 : oc x2 = some 3)
    (w : ((((h.1 x1 0) - 1) ≤ x6 → (vp_in (h.1 89 0) 100) ∧ (∀ u3 : AH, u3 = (hset h.1 90 (Int32.toNatClampNeg (h.1 89 0)) x4, h.2) → (vp_in (u3.1 89 0) 100) ∧ (∀ u5 : AH, u5 = (hset u3.1 91 (Int32.toNatClampNeg (u3.1 89 0)) x5, u3.2) → (∀ v6 : Int32, v6 = (((u5.1 89 1) &&& x4) <<< (1 &&& 31)) ||| (((u5.1 89 1) &&& x5) >>> (1 &&& 31)) → (∀ u7 : AH, u7 = (hset u5.1 89 1 ((u5.1 89 1) ||| v6), u5.2) → (∀ u8 : AH, u8 = (hset u7.1 89 0 ((u7.1 89 0) + 1), u7.2) → post u8)))))) ∧ (¬ ((h.1 x1 0) - 1) ≤ x6 → (vp_in x6 9) ∧ (((¬ ((h.1 (x2 + 3) (Int32.toNatClampNeg x6)) = 0)) → (vp_in x6 9) ∧ True) ∧ (((¬ ((h.1 (x2 + 3) (Int32.toNatClampNeg x6)) = 0)) → (vp_in x6 9) ∧ True) ∧ EX Z 8 (QV Z post) 19 h [some (.ref 89), some (.ref x1), some (.ref x2), some (.int x3), some (.int (if (¬ ((h.1 (x2 + 3) (Int32.toNatClampNeg x6)) = 0)) then ((if x3 < (-(h.1 (x2 + 4) (Int32.toNatClampNeg x6))) then (x4 : Int32) else x4 ||| (1 <<< (x6 &&& 31))) : Int32) else x4)), some (.int (if (¬ ((h.1 (x2 + 3) (Int32.toNatClampNeg x6)) = 0)) then ((if x3 < (h.1 (x2 + 4) (Int32.toNatClampNeg x6)) then (x5 : Int32) else x5 ||| (1 <<< ((x6 + 1) &&& 31))) : Int32) else x5)), some (.int (x6 + 1)), none] [])))))
    : EX Z 8 (QV Z post) 19 h [some (.ref 89), some (.ref x1), some (.ref x2), some (.int x3), some (.int x4), some (.int x5), some (.int x6), none] [] := by
  refine ex_iload hX dX4_addHour_19 rfl ?_
  refine ex_aload_n hX dX4_addHour_21 rfl rfl ?_
  refine ex_get hX (.int (h.1 x1 0)) FL_4_25 ox1 (fun _ => rfl) dX4_addHour_22 ?_
  refine ex_iconst (v := 1) hX dX4_addHour_25 rfl ?_
  refine ex_isub hX dX4_addHour_26 ?_
  refine ex_icmpge hX 106 dX4_addHour_27 (by decide) (fun c1 => ?_) (fun c1 => ?_)
  · replace w := w.1 c1
    refine ex_aload_n hX dX4_addHour_106 rfl rfl ?_
    refine ex_get hX (.ref 90) FL_4_9 rfl (fun _ => rfl) dX4_addHour_107 ?_
    refine ex_aload_n hX dX4_addHour_110 rfl rfl ?_
    refine ex_get hX (.int (h.1 89 0)) FL_4_18 rfl (fun _ => rfl) dX4_addHour_111 ?_
    refine ex_iload hX dX4_addHour_114 rfl ?_
    obtain ⟨q2, w⟩ := w
    refine ex_iast hX rfl q2 dX4_addHour_116 ?_
    refine ex_nameH (fun u3 eu3 => ?_)
    replace w := w u3 eu3
    refine ex_aload_n hX dX4_addHour_117 rfl rfl ?_
    refine ex_get hX (.ref 91) FL_4_15 rfl (fun _ => rfl) dX4_addHour_118 ?_
    refine ex_aload_n hX dX4_addHour_121 rfl rfl ?_
    refine ex_get hX (.int (u3.1 89 0)) FL_4_18 rfl (fun _ => rfl) dX4_addHour_122 ?_
    refine ex_iload hX dX4_addHour_125 rfl ?_
    obtain ⟨q4, w⟩ := w
    refine ex_iast hX rfl q4 dX4_addHour_127 ?_
    refine ex_nameH (fun u5 eu5 => ?_)
    replace w := w u5 eu5
    refine ex_aload_n hX dX4_addHour_128 rfl rfl ?_
    refine ex_dup hX dX4_addHour_129 rfl ?_
    refine ex_get hX (.int (u5.1 89 1)) FL_4_22 rfl (fun _ => rfl) dX4_addHour_130 ?_
    refine ex_aload_n hX dX4_addHour_133 rfl rfl ?_
    refine ex_get hX (.int (u5.1 89 1)) FL_4_22 rfl (fun _ => rfl) dX4_addHour_134 ?_
    refine ex_iload hX dX4_addHour_137 rfl ?_
    refine ex_iand hX dX4_addHour_139 ?_
    refine ex_iconst (v := 1) hX dX4_addHour_140 rfl ?_
    refine ex_ishl hX dX4_addHour_141 ?_
    refine ex_aload_n hX dX4_addHour_142 rfl rfl ?_
    refine ex_get hX (.int (u5.1 89 1)) FL_4_22 rfl (fun _ => rfl) dX4_addHour_143 ?_
    refine ex_iload hX dX4_addHour_146 rfl ?_
    refine ex_iand hX dX4_addHour_148 ?_
    refine ex_iconst (v := 1) hX dX4_addHour_149 rfl ?_
    refine ex_ishr hX dX4_addHour_150 ?_
    refine ex_ior hX dX4_addHour_151 ?_
    refine ex_nameI (fun v6 ev6 => ?_)
    replace w := w v6 ev6
    refine ex_ior hX dX4_addHour_152 ?_
    refine ex_put hX .int FL_4_22 tyX4 tyX4_ok nmX4 rfl rfl rfl rfl rfl (fun _ => (by decide : 1 < 4)) (fun _ => fs_4_1) dX4_addHour_153 ?_
    refine ex_nameH (fun u7 eu7 => ?_)
    replace w := w u7 eu7
    refine ex_aload_n hX dX4_addHour_156 rfl rfl ?_
    refine ex_dup hX dX4_addHour_157 rfl ?_
    refine ex_get hX (.int (u7.1 89 0)) FL_4_18 rfl (fun _ => rfl) dX4_addHour_158 ?_
    refine ex_iconst (v := 1) hX dX4_addHour_161 rfl ?_
    refine ex_iadd hX dX4_addHour_162 ?_
    refine ex_put hX .int FL_4_18 tyX4 tyX4_ok nmX4 rfl rfl rfl rfl rfl (fun _ => (by decide : 0 < 4)) (fun _ => fs_4_0) dX4_addHour_163 ?_
    refine ex_nameH (fun u8 eu8 => ?_)
    replace w := w u8 eu8
    exact ex_vret hX dX4_addHour_166 w
  · replace w := w.2 c1
    refine ex_aload_n hX dX4_addHour_30 rfl rfl ?_
    refine ex_get hX (.ref (x2 + 3)) FL_4_30 ox2 (fun _ => rfl) dX4_addHour_31 ?_
    refine ex_iload hX dX4_addHour_34 rfl ?_
    obtain ⟨q9, w⟩ := w
    refine ex_iald hX (sh_3_3 ox2) q9 dX4_addHour_36 ?_
    have kc10 : EX Z 8 (QV Z post) 45 h [some (.ref 89), some (.ref x1), some (.ref x2), some (.int x3), some (.int x4), some (.int x5), some (.int x6), none] [.int (bI (¬ ((h.1 (x2 + 3) (Int32.toNatClampNeg x6)) = 0)))] := by
      refine ex_istore (lv' := [some (.ref 89), some (.ref x1), some (.ref x2), some (.int x3), some (.int x4), some (.int x5), some (.int x6), some (.int (bI (¬ ((h.1 (x2 + 3) (Int32.toNatClampNeg x6)) = 0))))]) hX dX4_addHour_45 (by decide) rfl ?_
      refine ex_iload hX dX4_addHour_47 rfl ?_
      obtain ⟨wbc11, w⟩ := w
      have kc11 : EX Z 8 (QV Z post) 73 h [some (.ref 89), some (.ref x1), some (.ref x2), some (.int x3), some (.int (if (¬ ((h.1 (x2 + 3) (Int32.toNatClampNeg x6)) = 0)) then ((if x3 < (-(h.1 (x2 + 4) (Int32.toNatClampNeg x6))) then (x4 : Int32) else x4 ||| (1 <<< (x6 &&& 31))) : Int32) else x4)), some (.int x5), some (.int x6), some (.int (bI (¬ ((h.1 (x2 + 3) (Int32.toNatClampNeg x6)) = 0))))] [] := by
        refine ex_iload hX dX4_addHour_73 rfl ?_
        obtain ⟨wbc14, w⟩ := w
        have kc14 : EX Z 8 (QV Z post) 100 h [some (.ref 89), some (.ref x1), some (.ref x2), some (.int x3), some (.int (if (¬ ((h.1 (x2 + 3) (Int32.toNatClampNeg x6)) = 0)) then ((if x3 < (-(h.1 (x2 + 4) (Int32.toNatClampNeg x6))) then (x4 : Int32) else x4 ||| (1 <<< (x6 &&& 31))) : Int32) else x4)), some (.int (if (¬ ((h.1 (x2 + 3) (Int32.toNatClampNeg x6)) = 0)) then ((if x3 < (h.1 (x2 + 4) (Int32.toNatClampNeg x6)) then (x5 : Int32) else x5 ||| (1 <<< ((x6 + 1) &&& 31))) : Int32) else x5)), some (.int x6), none] [] := by
          refine ex_iinc (v := x6 + 1) (lv' := [some (.ref 89), some (.ref x1), some (.ref x2), some (.int x3), some (.int (if (¬ ((h.1 (x2 + 3) (Int32.toNatClampNeg x6)) = 0)) then ((if x3 < (-(h.1 (x2 + 4) (Int32.toNatClampNeg x6))) then (x4 : Int32) else x4 ||| (1 <<< (x6 &&& 31))) : Int32) else x4)), some (.int (if (¬ ((h.1 (x2 + 3) (Int32.toNatClampNeg x6)) = 0)) then ((if x3 < (h.1 (x2 + 4) (Int32.toNatClampNeg x6)) then (x5 : Int32) else x5 ||| (1 <<< ((x6 + 1) &&& 31))) : Int32) else x5)), some (.int (x6 + 1)), none]) hX dX4_addHour_100 rfl rfl (by decide) rfl ?_
          refine ex_goto hX 19 dX4_addHour_103 (by decide) ?_
          exact w
        refine ex_ifeqB hX 100 dX4_addHour_75 (by decide) (fun c14 => ?_) (fun c14 => ?_)
        · rw [show (if (¬ ((h.1 (x2 + 3) (Int32.toNatClampNeg x6)) = 0)) then ((if x3 < (h.1 (x2 + 4) (Int32.toNatClampNeg x6)) then (x5 : Int32) else x5 ||| (1 <<< ((x6 + 1) &&& 31))) : Int32) else x5) = x5 from if_neg c14] at kc14
          exact ex_forget [some (.ref 89), some (.ref x1), some (.ref x2), some (.int x3), some (.int (if (¬ ((h.1 (x2 + 3) (Int32.toNatClampNeg x6)) = 0)) then ((if x3 < (-(h.1 (x2 + 4) (Int32.toNatClampNeg x6))) then (x4 : Int32) else x4 ||| (1 <<< (x6 &&& 31))) : Int32) else x4)), some (.int x5), some (.int x6), none] ⟨rfl, ⟨rfl, ⟨rfl, ⟨rfl, ⟨rfl, ⟨rfl, ⟨rfl, trivial⟩⟩⟩⟩⟩⟩⟩ kc14
        · replace w := wbc14 c14
          refine ex_aload_n hX dX4_addHour_78 rfl rfl ?_
          refine ex_get hX (.ref (x2 + 4)) FL_4_35 ox2 (fun _ => rfl) dX4_addHour_79 ?_
          refine ex_iload hX dX4_addHour_82 rfl ?_
          obtain ⟨q15, w⟩ := w
          refine ex_iald hX (sh_3_4 ox2) q15 dX4_addHour_84 ?_
          refine ex_iload_n hX dX4_addHour_85 rfl rfl ?_
          have kc16 : EX Z 8 (QV Z post) 100 h [some (.ref 89), some (.ref x1), some (.ref x2), some (.int x3), some (.int (if (¬ ((h.1 (x2 + 3) (Int32.toNatClampNeg x6)) = 0)) then ((if x3 < (-(h.1 (x2 + 4) (Int32.toNatClampNeg x6))) then (x4 : Int32) else x4 ||| (1 <<< (x6 &&& 31))) : Int32) else x4)), some (.int (if x3 < (h.1 (x2 + 4) (Int32.toNatClampNeg x6)) then (x5 : Int32) else x5 ||| (1 <<< ((x6 + 1) &&& 31)))), some (.int x6), none] [] := by
            rw [show (if (¬ ((h.1 (x2 + 3) (Int32.toNatClampNeg x6)) = 0)) then ((if x3 < (h.1 (x2 + 4) (Int32.toNatClampNeg x6)) then (x5 : Int32) else x5 ||| (1 <<< ((x6 + 1) &&& 31))) : Int32) else x5) = (if x3 < (h.1 (x2 + 4) (Int32.toNatClampNeg x6)) then (x5 : Int32) else x5 ||| (1 <<< ((x6 + 1) &&& 31))) from if_pos c14] at kc14
            exact ex_forget [some (.ref 89), some (.ref x1), some (.ref x2), some (.int x3), some (.int (if (¬ ((h.1 (x2 + 3) (Int32.toNatClampNeg x6)) = 0)) then ((if x3 < (-(h.1 (x2 + 4) (Int32.toNatClampNeg x6))) then (x4 : Int32) else x4 ||| (1 <<< (x6 &&& 31))) : Int32) else x4)), some (.int (if x3 < (h.1 (x2 + 4) (Int32.toNatClampNeg x6)) then (x5 : Int32) else x5 ||| (1 <<< ((x6 + 1) &&& 31)))), some (.int x6), none] ⟨rfl, ⟨rfl, ⟨rfl, ⟨rfl, ⟨rfl, ⟨rfl, ⟨rfl, trivial⟩⟩⟩⟩⟩⟩⟩ kc14
          refine ex_icmpgt hX 100 dX4_addHour_86 (by decide) (fun c16 => ?_) (fun c16 => ?_)
          · rw [show (if x3 < (h.1 (x2 + 4) (Int32.toNatClampNeg x6)) then (x5 : Int32) else x5 ||| (1 <<< ((x6 + 1) &&& 31))) = x5 from if_pos c16] at kc16
            exact ex_forget [some (.ref 89), some (.ref x1), some (.ref x2), some (.int x3), some (.int (if (¬ ((h.1 (x2 + 3) (Int32.toNatClampNeg x6)) = 0)) then ((if x3 < (-(h.1 (x2 + 4) (Int32.toNatClampNeg x6))) then (x4 : Int32) else x4 ||| (1 <<< (x6 &&& 31))) : Int32) else x4)), some (.int x5), some (.int x6), none] ⟨rfl, ⟨rfl, ⟨rfl, ⟨rfl, ⟨rfl, ⟨rfl, ⟨rfl, trivial⟩⟩⟩⟩⟩⟩⟩ kc16
          · refine ex_iload hX dX4_addHour_89 rfl ?_
            refine ex_iconst (v := 1) hX dX4_addHour_91 rfl ?_
            refine ex_iload hX dX4_addHour_92 rfl ?_
            refine ex_iconst (v := 1) hX dX4_addHour_94 rfl ?_
            refine ex_iadd hX dX4_addHour_95 ?_
            refine ex_ishl hX dX4_addHour_96 ?_
            refine ex_ior hX dX4_addHour_97 ?_
            refine ex_istore (lv' := [some (.ref 89), some (.ref x1), some (.ref x2), some (.int x3), some (.int (if (¬ ((h.1 (x2 + 3) (Int32.toNatClampNeg x6)) = 0)) then ((if x3 < (-(h.1 (x2 + 4) (Int32.toNatClampNeg x6))) then (x4 : Int32) else x4 ||| (1 <<< (x6 &&& 31))) : Int32) else x4)), some (.int (x5 ||| (1 <<< ((x6 + 1) &&& 31)))), some (.int x6), some (.int (bI (¬ ((h.1 (x2 + 3) (Int32.toNatClampNeg x6)) = 0))))]) hX dX4_addHour_98 (by decide) rfl ?_
            rw [show (if x3 < (h.1 (x2 + 4) (Int32.toNatClampNeg x6)) then (x5 : Int32) else x5 ||| (1 <<< ((x6 + 1) &&& 31))) = x5 ||| (1 <<< ((x6 + 1) &&& 31)) from if_neg c16] at kc16
            exact ex_forget [some (.ref 89), some (.ref x1), some (.ref x2), some (.int x3), some (.int (if (¬ ((h.1 (x2 + 3) (Int32.toNatClampNeg x6)) = 0)) then ((if x3 < (-(h.1 (x2 + 4) (Int32.toNatClampNeg x6))) then (x4 : Int32) else x4 ||| (1 <<< (x6 &&& 31))) : Int32) else x4)), some (.int (x5 ||| (1 <<< ((x6 + 1) &&& 31)))), some (.int x6), none] ⟨rfl, ⟨rfl, ⟨rfl, ⟨rfl, ⟨rfl, ⟨rfl, ⟨rfl, trivial⟩⟩⟩⟩⟩⟩⟩ kc16
      refine ex_ifeqB hX 73 dX4_addHour_49 (by decide) (fun c11 => ?_) (fun c11 => ?_)
      · rw [show (if (¬ ((h.1 (x2 + 3) (Int32.toNatClampNeg x6)) = 0)) then ((if x3 < (-(h.1 (x2 + 4) (Int32.toNatClampNeg x6))) then (x4 : Int32) else x4 ||| (1 <<< (x6 &&& 31))) : Int32) else x4) = x4 from if_neg c11] at kc11
        exact ex_forget [some (.ref 89), some (.ref x1), some (.ref x2), some (.int x3), some (.int x4), some (.int x5), some (.int x6), some (.int (bI (¬ ((h.1 (x2 + 3) (Int32.toNatClampNeg x6)) = 0))))] ⟨rfl, ⟨rfl, ⟨rfl, ⟨rfl, ⟨rfl, ⟨rfl, ⟨rfl, ⟨rfl, trivial⟩⟩⟩⟩⟩⟩⟩⟩ kc11
      · replace w := wbc11 c11
        refine ex_aload_n hX dX4_addHour_52 rfl rfl ?_
        refine ex_get hX (.ref (x2 + 4)) FL_4_35 ox2 (fun _ => rfl) dX4_addHour_53 ?_
        refine ex_iload hX dX4_addHour_56 rfl ?_
        obtain ⟨q12, w⟩ := w
        refine ex_iald hX (sh_3_4 ox2) q12 dX4_addHour_58 ?_
        refine ex_ineg hX dX4_addHour_59 ?_
        refine ex_iload_n hX dX4_addHour_60 rfl rfl ?_
        have kc13 : EX Z 8 (QV Z post) 73 h [some (.ref 89), some (.ref x1), some (.ref x2), some (.int x3), some (.int (if x3 < (-(h.1 (x2 + 4) (Int32.toNatClampNeg x6))) then (x4 : Int32) else x4 ||| (1 <<< (x6 &&& 31)))), some (.int x5), some (.int x6), some (.int (bI (¬ ((h.1 (x2 + 3) (Int32.toNatClampNeg x6)) = 0))))] [] := by
          rw [show (if (¬ ((h.1 (x2 + 3) (Int32.toNatClampNeg x6)) = 0)) then ((if x3 < (-(h.1 (x2 + 4) (Int32.toNatClampNeg x6))) then (x4 : Int32) else x4 ||| (1 <<< (x6 &&& 31))) : Int32) else x4) = (if x3 < (-(h.1 (x2 + 4) (Int32.toNatClampNeg x6))) then (x4 : Int32) else x4 ||| (1 <<< (x6 &&& 31))) from if_pos c11] at kc11
          exact ex_forget [some (.ref 89), some (.ref x1), some (.ref x2), some (.int x3), some (.int (if x3 < (-(h.1 (x2 + 4) (Int32.toNatClampNeg x6))) then (x4 : Int32) else x4 ||| (1 <<< (x6 &&& 31)))), some (.int x5), some (.int x6), some (.int (bI (¬ ((h.1 (x2 + 3) (Int32.toNatClampNeg x6)) = 0))))] ⟨rfl, ⟨rfl, ⟨rfl, ⟨rfl, ⟨rfl, ⟨rfl, ⟨rfl, ⟨rfl, trivial⟩⟩⟩⟩⟩⟩⟩⟩ kc11
        refine ex_icmpgt hX 73 dX4_addHour_61 (by decide) (fun c13 => ?_) (fun c13 => ?_)
        · rw [show (if x3 < (-(h.1 (x2 + 4) (Int32.toNatClampNeg x6))) then (x4 : Int32) else x4 ||| (1 <<< (x6 &&& 31))) = x4 from if_pos c13] at kc13
          exact ex_forget [some (.ref 89), some (.ref x1), some (.ref x2), some (.int x3), some (.int x4), some (.int x5), some (.int x6), some (.int (bI (¬ ((h.1 (x2 + 3) (Int32.toNatClampNeg x6)) = 0))))] ⟨rfl, ⟨rfl, ⟨rfl, ⟨rfl, ⟨rfl, ⟨rfl, ⟨rfl, ⟨rfl, trivial⟩⟩⟩⟩⟩⟩⟩⟩ kc13
        · refine ex_iload hX dX4_addHour_64 rfl ?_
          refine ex_iconst (v := 1) hX dX4_addHour_66 rfl ?_
          refine ex_iload hX dX4_addHour_67 rfl ?_
          refine ex_ishl hX dX4_addHour_69 ?_
          refine ex_ior hX dX4_addHour_70 ?_
          refine ex_istore (lv' := [some (.ref 89), some (.ref x1), some (.ref x2), some (.int x3), some (.int (x4 ||| (1 <<< (x6 &&& 31)))), some (.int x5), some (.int x6), some (.int (bI (¬ ((h.1 (x2 + 3) (Int32.toNatClampNeg x6)) = 0))))]) hX dX4_addHour_71 (by decide) rfl ?_
          rw [show (if x3 < (-(h.1 (x2 + 4) (Int32.toNatClampNeg x6))) then (x4 : Int32) else x4 ||| (1 <<< (x6 &&& 31))) = x4 ||| (1 <<< (x6 &&& 31)) from if_neg c13] at kc13
          exact ex_forget [some (.ref 89), some (.ref x1), some (.ref x2), some (.int x3), some (.int (x4 ||| (1 <<< (x6 &&& 31)))), some (.int x5), some (.int x6), some (.int (bI (¬ ((h.1 (x2 + 3) (Int32.toNatClampNeg x6)) = 0))))] ⟨rfl, ⟨rfl, ⟨rfl, ⟨rfl, ⟨rfl, ⟨rfl, ⟨rfl, ⟨rfl, trivial⟩⟩⟩⟩⟩⟩⟩⟩ kc13
    refine ex_ifeq hX 44 dX4_addHour_37 (by decide) (fun c10 => ?_) (fun c10 => ?_)
    · refine ex_iconst (v := 0) hX dX4_addHour_44 rfl ?_
      rw [show (bI (¬ ((h.1 (x2 + 3) (Int32.toNatClampNeg x6)) = 0))) = 0 from bI_f (fun z => z c10)] at kc10
      exact ex_forget [some (.ref 89), some (.ref x1), some (.ref x2), some (.int x3), some (.int x4), some (.int x5), some (.int x6), none] ⟨rfl, ⟨rfl, ⟨rfl, ⟨rfl, ⟨rfl, ⟨rfl, ⟨rfl, trivial⟩⟩⟩⟩⟩⟩⟩ kc10
    · refine ex_iconst (v := 1) hX dX4_addHour_40 rfl ?_
      refine ex_goto hX 45 dX4_addHour_41 (by decide) ?_
      rw [show (bI (¬ ((h.1 (x2 + 3) (Int32.toNatClampNeg x6)) = 0))) = 1 from bI_t c10] at kc10
      exact ex_forget [some (.ref 89), some (.ref x1), some (.ref x2), some (.int x3), some (.int x4), some (.int x5), some (.int x6), none] ⟨rfl, ⟨rfl, ⟨rfl, ⟨rfl, ⟨rfl, ⟨rfl, ⟨rfl, trivial⟩⟩⟩⟩⟩⟩⟩ kc10

set_option maxRecDepth 100000 in
set_option maxHeartbeats 4000000 in
theorem sg_X4_deedIn_0 {Z : CX × GX} {post : Int32 → AH → Prop} {h : AH} {x1 : Int32} {x2 : Int32} {x3 : Int32} (hX : OK Z RX4 cX4_deedIn 8 (some .int) 1 24) 
    (w : EX Z 8 (QI Z post) 9 h [some (.ref 89), some (.int x1), none, some (.int x3), some (.int x2), some (.int 0), some (.int 0), none] [])
    : EX Z 8 (QI Z post) 0 h [some (.ref 89), some (.int x1), some (.int x2), some (.int x3), none, none, none, none] [] := by
  refine ex_iload_n hX dX4_deedIn_0 rfl rfl ?_
  refine ex_istore (lv' := [some (.ref 89), some (.int x1), some (.int x2), some (.int x3), some (.int x2), none, none, none]) hX dX4_deedIn_1 (by decide) rfl ?_
  refine ex_iconst (v := 0) hX dX4_deedIn_3 rfl ?_
  refine ex_istore (lv' := [some (.ref 89), some (.int x1), some (.int x2), some (.int x3), some (.int x2), some (.int 0), none, none]) hX dX4_deedIn_4 (by decide) rfl ?_
  refine ex_iconst (v := 0) hX dX4_deedIn_6 rfl ?_
  refine ex_istore (lv' := [some (.ref 89), some (.int x1), some (.int x2), some (.int x3), some (.int x2), some (.int 0), some (.int 0), none]) hX dX4_deedIn_7 (by decide) rfl ?_
  exact ex_forget [some (.ref 89), some (.int x1), none, some (.int x3), some (.int x2), some (.int 0), some (.int 0), none] ⟨rfl, ⟨rfl, ⟨rfl, ⟨rfl, ⟨rfl, ⟨rfl, trivial⟩⟩⟩⟩⟩⟩ w

set_option maxRecDepth 100000 in
set_option maxHeartbeats 4000000 in
theorem sg_X4_deedIn_9 {Z : CX × GX} {post : Int32 → AH → Prop} {h : AH} {x1 : Int32} {x3 : Int32} {x4 : Int32} {x5 : Int32} {x6 : Int32} (hX : OK Z RX4 cX4_deedIn 8 (some .int) 1 24) 
    (w : ((x1 < x6 → post x5 h) ∧ (¬ x1 < x6 → (((h.1 89 0) ≤ x6 → post x5 h) ∧ (¬ (h.1 89 0) ≤ x6 → (∃ PP : Int32 → AH → Prop, CI yX4_timelyBehind cX4_timelyBehind 5 (some .int) 0 0 [.ref 89, .int x6, .int x3] h PP ∧ ∀ (r : Int32) (u : AH), PP r u → EX Z 8 (QI Z post) 31 u [some (.ref 89), some (.int x1), none, some (.int x3), some (.int x4), none, some (.int x6), none] (.int r :: [])))))))
    : EX Z 8 (QI Z post) 9 h [some (.ref 89), some (.int x1), none, some (.int x3), some (.int x4), some (.int x5), some (.int x6), none] [] := by
  refine ex_iload hX dX4_deedIn_9 rfl ?_
  refine ex_iload_n hX dX4_deedIn_11 rfl rfl ?_
  refine ex_icmpgt hX 93 dX4_deedIn_12 (by decide) (fun c1 => ?_) (fun c1 => ?_)
  · replace w := w.1 c1
    refine ex_iload hX dX4_deedIn_93 rfl ?_
    exact ex_iret hX dX4_deedIn_95 rfl w
  · replace w := w.2 c1
    refine ex_iload hX dX4_deedIn_15 rfl ?_
    refine ex_aload_n hX dX4_deedIn_17 rfl rfl ?_
    refine ex_get hX (.int (h.1 89 0)) FL_4_18 rfl (fun _ => rfl) dX4_deedIn_18 ?_
    refine ex_icmpge hX 93 dX4_deedIn_21 (by decide) (fun c2 => ?_) (fun c2 => ?_)
    · replace w := w.1 c2
      refine ex_iload hX dX4_deedIn_93 rfl ?_
      exact ex_iret hX dX4_deedIn_95 rfl w
    · replace w := w.2 c2
      refine ex_aload_n hX dX4_deedIn_24 rfl rfl ?_
      refine ex_iload hX dX4_deedIn_25 rfl ?_
      refine ex_iload_n hX dX4_deedIn_27 rfl rfl ?_
      obtain ⟨PP, pM, pK⟩ := w
      exact ex_callIv (ci := 4) (i := 89) (As := [.int x6, .int x3]) (st := []) hX pM CS_4_38 MS_X4_timelyBehind rfl rfl rfl (by decide) rfl (Nat.le_of_ble_eq_true rfl) dX4_deedIn_28 (fun r u hp => ex_forget [some (.ref 89), some (.int x1), none, some (.int x3), some (.int x4), none, some (.int x6), none] ⟨rfl, ⟨rfl, ⟨rfl, ⟨rfl, ⟨rfl, trivial⟩⟩⟩⟩⟩ (pK r u hp))

set_option maxRecDepth 100000 in
set_option maxHeartbeats 4000000 in
theorem sg_X4_deedIn_31 {Z : CX × GX} {post : Int32 → AH → Prop} {h : AH} {x1 : Int32} {x3 : Int32} {x4 : Int32} {x6 : Int32} {s0 : Int32} (hX : OK Z RX4 cX4_deedIn 8 (some .int) 1 24) 
    (w : ((((s0 >>> (x4 &&& 31)) &&& 1) = 0 → (vp_in x6 100) ∧ True) ∧ EX Z 8 (QI Z post) 9 h [some (.ref 89), some (.int x1), none, some (.int x3), some (.int (if ((s0 >>> (x4 &&& 31)) &&& 1) = 0 then ((if ((((h.1 90 (Int32.toNatClampNeg x6)) >>> (x4 &&& 31)) &&& (s0 >>> ((x4 + 1) &&& 31))) &&& 1) = 0 then (x4 + (-1) : Int32) else x4 + 1) : Int32) else x4)), some (.int (if ((s0 >>> (x4 &&& 31)) &&& 1) = 0 then ((if ((((h.1 90 (Int32.toNatClampNeg x6)) >>> (x4 &&& 31)) &&& (s0 >>> ((x4 + 1) &&& 31))) &&& 1) = 0 then (2 : Int32) else 1) : Int32) else 0)), some (.int (x6 + 1)), none] []))
    : EX Z 8 (QI Z post) 31 h [some (.ref 89), some (.int x1), none, some (.int x3), some (.int x4), none, some (.int x6), none] [.int s0] := by
  refine ex_istore (lv' := [some (.ref 89), some (.int x1), none, some (.int x3), some (.int x4), none, some (.int x6), some (.int s0)]) hX dX4_deedIn_31 (by decide) rfl ?_
  refine ex_iload hX dX4_deedIn_33 rfl ?_
  refine ex_iload hX dX4_deedIn_35 rfl ?_
  refine ex_ishr hX dX4_deedIn_37 ?_
  refine ex_iconst (v := 1) hX dX4_deedIn_38 rfl ?_
  refine ex_iand hX dX4_deedIn_39 ?_
  obtain ⟨wac1, w⟩ := w
  have kc1 : EX Z 8 (QI Z post) 87 h [some (.ref 89), some (.int x1), none, some (.int x3), some (.int (if ((s0 >>> (x4 &&& 31)) &&& 1) = 0 then ((if ((((h.1 90 (Int32.toNatClampNeg x6)) >>> (x4 &&& 31)) &&& (s0 >>> ((x4 + 1) &&& 31))) &&& 1) = 0 then (x4 + (-1) : Int32) else x4 + 1) : Int32) else x4)), some (.int (if ((s0 >>> (x4 &&& 31)) &&& 1) = 0 then ((if ((((h.1 90 (Int32.toNatClampNeg x6)) >>> (x4 &&& 31)) &&& (s0 >>> ((x4 + 1) &&& 31))) &&& 1) = 0 then (2 : Int32) else 1) : Int32) else 0)), some (.int x6), none] [] := by
    refine ex_iinc (v := x6 + 1) (lv' := [some (.ref 89), some (.int x1), none, some (.int x3), some (.int (if ((s0 >>> (x4 &&& 31)) &&& 1) = 0 then ((if ((((h.1 90 (Int32.toNatClampNeg x6)) >>> (x4 &&& 31)) &&& (s0 >>> ((x4 + 1) &&& 31))) &&& 1) = 0 then (x4 + (-1) : Int32) else x4 + 1) : Int32) else x4)), some (.int (if ((s0 >>> (x4 &&& 31)) &&& 1) = 0 then ((if ((((h.1 90 (Int32.toNatClampNeg x6)) >>> (x4 &&& 31)) &&& (s0 >>> ((x4 + 1) &&& 31))) &&& 1) = 0 then (2 : Int32) else 1) : Int32) else 0)), some (.int (x6 + 1)), none]) hX dX4_deedIn_87 rfl rfl (by decide) rfl ?_
    refine ex_goto hX 9 dX4_deedIn_90 (by decide) ?_
    exact w
  refine ex_ifeq hX 49 dX4_deedIn_40 (by decide) (fun c1 => ?_) (fun c1 => ?_)
  · replace w := wac1 c1
    refine ex_aload_n hX dX4_deedIn_49 rfl rfl ?_
    refine ex_get hX (.ref 90) FL_4_9 rfl (fun _ => rfl) dX4_deedIn_50 ?_
    refine ex_iload hX dX4_deedIn_53 rfl ?_
    obtain ⟨q2, w⟩ := w
    refine ex_iald hX rfl q2 dX4_deedIn_55 ?_
    refine ex_iload hX dX4_deedIn_56 rfl ?_
    refine ex_ishr hX dX4_deedIn_58 ?_
    refine ex_iload hX dX4_deedIn_59 rfl ?_
    refine ex_iload hX dX4_deedIn_61 rfl ?_
    refine ex_iconst (v := 1) hX dX4_deedIn_63 rfl ?_
    refine ex_iadd hX dX4_deedIn_64 ?_
    refine ex_ishr hX dX4_deedIn_65 ?_
    refine ex_iand hX dX4_deedIn_66 ?_
    refine ex_iconst (v := 1) hX dX4_deedIn_67 rfl ?_
    refine ex_iand hX dX4_deedIn_68 ?_
    have kc3 : EX Z 8 (QI Z post) 87 h [some (.ref 89), some (.int x1), none, some (.int x3), some (.int (if ((((h.1 90 (Int32.toNatClampNeg x6)) >>> (x4 &&& 31)) &&& (s0 >>> ((x4 + 1) &&& 31))) &&& 1) = 0 then (x4 + (-1) : Int32) else x4 + 1)), some (.int (if ((((h.1 90 (Int32.toNatClampNeg x6)) >>> (x4 &&& 31)) &&& (s0 >>> ((x4 + 1) &&& 31))) &&& 1) = 0 then (2 : Int32) else 1)), some (.int x6), none] [] := by
      rw [show (if ((s0 >>> (x4 &&& 31)) &&& 1) = 0 then ((if ((((h.1 90 (Int32.toNatClampNeg x6)) >>> (x4 &&& 31)) &&& (s0 >>> ((x4 + 1) &&& 31))) &&& 1) = 0 then (x4 + (-1) : Int32) else x4 + 1) : Int32) else x4) = (if ((((h.1 90 (Int32.toNatClampNeg x6)) >>> (x4 &&& 31)) &&& (s0 >>> ((x4 + 1) &&& 31))) &&& 1) = 0 then (x4 + (-1) : Int32) else x4 + 1) from if_pos c1] at kc1
      rw [show (if ((s0 >>> (x4 &&& 31)) &&& 1) = 0 then ((if ((((h.1 90 (Int32.toNatClampNeg x6)) >>> (x4 &&& 31)) &&& (s0 >>> ((x4 + 1) &&& 31))) &&& 1) = 0 then (2 : Int32) else 1) : Int32) else 0) = (if ((((h.1 90 (Int32.toNatClampNeg x6)) >>> (x4 &&& 31)) &&& (s0 >>> ((x4 + 1) &&& 31))) &&& 1) = 0 then (2 : Int32) else 1) from if_pos c1] at kc1
      exact ex_forget [some (.ref 89), some (.int x1), none, some (.int x3), some (.int (if ((((h.1 90 (Int32.toNatClampNeg x6)) >>> (x4 &&& 31)) &&& (s0 >>> ((x4 + 1) &&& 31))) &&& 1) = 0 then (x4 + (-1) : Int32) else x4 + 1)), some (.int (if ((((h.1 90 (Int32.toNatClampNeg x6)) >>> (x4 &&& 31)) &&& (s0 >>> ((x4 + 1) &&& 31))) &&& 1) = 0 then (2 : Int32) else 1)), some (.int x6), none] ⟨rfl, ⟨rfl, ⟨rfl, ⟨rfl, ⟨rfl, ⟨rfl, trivial⟩⟩⟩⟩⟩⟩ kc1
    refine ex_ifeq hX 81 dX4_deedIn_69 (by decide) (fun c3 => ?_) (fun c3 => ?_)
    · refine ex_iconst (v := 2) hX dX4_deedIn_81 rfl ?_
      refine ex_istore (lv' := [some (.ref 89), some (.int x1), none, some (.int x3), some (.int x4), some (.int 2), some (.int x6), some (.int s0)]) hX dX4_deedIn_82 (by decide) rfl ?_
      refine ex_iinc (v := x4 + (-1)) (lv' := [some (.ref 89), some (.int x1), none, some (.int x3), some (.int (x4 + (-1))), some (.int 2), some (.int x6), some (.int s0)]) hX dX4_deedIn_84 rfl rfl (by decide) rfl ?_
      rw [show (if ((((h.1 90 (Int32.toNatClampNeg x6)) >>> (x4 &&& 31)) &&& (s0 >>> ((x4 + 1) &&& 31))) &&& 1) = 0 then (x4 + (-1) : Int32) else x4 + 1) = x4 + (-1) from if_pos c3] at kc3
      rw [show (if ((((h.1 90 (Int32.toNatClampNeg x6)) >>> (x4 &&& 31)) &&& (s0 >>> ((x4 + 1) &&& 31))) &&& 1) = 0 then (2 : Int32) else 1) = 2 from if_pos c3] at kc3
      exact ex_forget [some (.ref 89), some (.int x1), none, some (.int x3), some (.int (x4 + (-1))), some (.int 2), some (.int x6), none] ⟨rfl, ⟨rfl, ⟨rfl, ⟨rfl, ⟨rfl, ⟨rfl, trivial⟩⟩⟩⟩⟩⟩ kc3
    · refine ex_iconst (v := 1) hX dX4_deedIn_72 rfl ?_
      refine ex_istore (lv' := [some (.ref 89), some (.int x1), none, some (.int x3), some (.int x4), some (.int 1), some (.int x6), some (.int s0)]) hX dX4_deedIn_73 (by decide) rfl ?_
      refine ex_iinc (v := x4 + 1) (lv' := [some (.ref 89), some (.int x1), none, some (.int x3), some (.int (x4 + 1)), some (.int 1), some (.int x6), some (.int s0)]) hX dX4_deedIn_75 rfl rfl (by decide) rfl ?_
      refine ex_goto hX 87 dX4_deedIn_78 (by decide) ?_
      rw [show (if ((((h.1 90 (Int32.toNatClampNeg x6)) >>> (x4 &&& 31)) &&& (s0 >>> ((x4 + 1) &&& 31))) &&& 1) = 0 then (x4 + (-1) : Int32) else x4 + 1) = x4 + 1 from if_neg c3] at kc3
      rw [show (if ((((h.1 90 (Int32.toNatClampNeg x6)) >>> (x4 &&& 31)) &&& (s0 >>> ((x4 + 1) &&& 31))) &&& 1) = 0 then (2 : Int32) else 1) = 1 from if_neg c3] at kc3
      exact ex_forget [some (.ref 89), some (.int x1), none, some (.int x3), some (.int (x4 + 1)), some (.int 1), some (.int x6), none] ⟨rfl, ⟨rfl, ⟨rfl, ⟨rfl, ⟨rfl, ⟨rfl, trivial⟩⟩⟩⟩⟩⟩ kc3
  · refine ex_iconst (v := 0) hX dX4_deedIn_43 rfl ?_
    refine ex_istore (lv' := [some (.ref 89), some (.int x1), none, some (.int x3), some (.int x4), some (.int 0), some (.int x6), some (.int s0)]) hX dX4_deedIn_44 (by decide) rfl ?_
    refine ex_goto hX 87 dX4_deedIn_46 (by decide) ?_
    rw [show (if ((s0 >>> (x4 &&& 31)) &&& 1) = 0 then ((if ((((h.1 90 (Int32.toNatClampNeg x6)) >>> (x4 &&& 31)) &&& (s0 >>> ((x4 + 1) &&& 31))) &&& 1) = 0 then (x4 + (-1) : Int32) else x4 + 1) : Int32) else x4) = x4 from if_neg c1] at kc1
    rw [show (if ((s0 >>> (x4 &&& 31)) &&& 1) = 0 then ((if ((((h.1 90 (Int32.toNatClampNeg x6)) >>> (x4 &&& 31)) &&& (s0 >>> ((x4 + 1) &&& 31))) &&& 1) = 0 then (2 : Int32) else 1) : Int32) else 0) = 0 from if_neg c1] at kc1
    exact ex_forget [some (.ref 89), some (.int x1), none, some (.int x3), some (.int x4), some (.int 0), some (.int x6), none] ⟨rfl, ⟨rfl, ⟨rfl, ⟨rfl, ⟨rfl, ⟨rfl, trivial⟩⟩⟩⟩⟩⟩ kc1

set_option maxRecDepth 100000 in
set_option maxHeartbeats 4000000 in
theorem sg_X4_timelyBehind_0 {Z : CX × GX} {post : Int32 → AH → Prop} {h : AH} {x1 : Int32} {x2 : Int32} (hX : OK Z RX4 cX4_timelyBehind 5 (some .int) 0 0) 
    (w : EX Z 5 (QI Z post) 12 h [some (.ref 89), some (.int x1), none, some (.int (1 <<< (x2 &&& 31))), some (.int ((h.1 89 0) - 1))] [])
    : EX Z 5 (QI Z post) 0 h [some (.ref 89), some (.int x1), some (.int x2), none, none] [] := by
  refine ex_iconst (v := 1) hX dX4_timelyBehind_0 rfl ?_
  refine ex_iload_n hX dX4_timelyBehind_1 rfl rfl ?_
  refine ex_ishl hX dX4_timelyBehind_2 ?_
  refine ex_istore_n (lv' := [some (.ref 89), some (.int x1), some (.int x2), some (.int (1 <<< (x2 &&& 31))), none]) hX dX4_timelyBehind_3 rfl (by decide) rfl ?_
  refine ex_aload_n hX dX4_timelyBehind_4 rfl rfl ?_
  refine ex_get hX (.int (h.1 89 0)) FL_4_18 rfl (fun _ => rfl) dX4_timelyBehind_5 ?_
  refine ex_iconst (v := 1) hX dX4_timelyBehind_8 rfl ?_
  refine ex_isub hX dX4_timelyBehind_9 ?_
  refine ex_istore (lv' := [some (.ref 89), some (.int x1), some (.int x2), some (.int (1 <<< (x2 &&& 31))), some (.int ((h.1 89 0) - 1))]) hX dX4_timelyBehind_10 (by decide) rfl ?_
  exact ex_forget [some (.ref 89), some (.int x1), none, some (.int (1 <<< (x2 &&& 31))), some (.int ((h.1 89 0) - 1))] ⟨rfl, ⟨rfl, ⟨rfl, ⟨rfl, trivial⟩⟩⟩⟩ w

set_option maxRecDepth 100000 in
set_option maxHeartbeats 4000000 in
theorem sg_X4_timelyBehind_12 {Z : CX × GX} {post : Int32 → AH → Prop} {h : AH} {x1 : Int32} {x3 : Int32} {x4 : Int32} (hX : OK Z RX4 cX4_timelyBehind 5 (some .int) 0 0) 
    (w : ((x4 ≤ x1 → post x3 h) ∧ (¬ x4 ≤ x1 → (vp_in x4 100) ∧ (∀ v3 : Int32, v3 = (h.1 90 (Int32.toNatClampNeg x4)) &&& (x3 >>> (1 &&& 31)) → (vp_in x4 100) ∧ (∀ v5 : Int32, v5 = (h.1 91 (Int32.toNatClampNeg x4)) &&& (x3 <<< (1 &&& 31)) → EX Z 5 (QI Z post) 12 h [some (.ref 89), some (.int x1), none, some (.int (x3 ||| (v3 ||| v5))), some (.int (x4 + (-1)))] [])))))
    : EX Z 5 (QI Z post) 12 h [some (.ref 89), some (.int x1), none, some (.int x3), some (.int x4)] [] := by
  refine ex_iload hX dX4_timelyBehind_12 rfl ?_
  refine ex_iload_n hX dX4_timelyBehind_14 rfl rfl ?_
  refine ex_icmple hX 50 dX4_timelyBehind_15 (by decide) (fun c1 => ?_) (fun c1 => ?_)
  · replace w := w.1 c1
    refine ex_iload_n hX dX4_timelyBehind_50 rfl rfl ?_
    exact ex_iret hX dX4_timelyBehind_51 rfl w
  · replace w := w.2 c1
    refine ex_iload_n hX dX4_timelyBehind_18 rfl rfl ?_
    refine ex_aload_n hX dX4_timelyBehind_19 rfl rfl ?_
    refine ex_get hX (.ref 90) FL_4_9 rfl (fun _ => rfl) dX4_timelyBehind_20 ?_
    refine ex_iload hX dX4_timelyBehind_23 rfl ?_
    obtain ⟨q2, w⟩ := w
    refine ex_iald hX rfl q2 dX4_timelyBehind_25 ?_
    refine ex_iload_n hX dX4_timelyBehind_26 rfl rfl ?_
    refine ex_iconst (v := 1) hX dX4_timelyBehind_27 rfl ?_
    refine ex_ishr hX dX4_timelyBehind_28 ?_
    refine ex_iand hX dX4_timelyBehind_29 ?_
    refine ex_nameI (fun v3 ev3 => ?_)
    replace w := w v3 ev3
    refine ex_aload_n hX dX4_timelyBehind_30 rfl rfl ?_
    refine ex_get hX (.ref 91) FL_4_15 rfl (fun _ => rfl) dX4_timelyBehind_31 ?_
    refine ex_iload hX dX4_timelyBehind_34 rfl ?_
    obtain ⟨q4, w⟩ := w
    refine ex_iald hX rfl q4 dX4_timelyBehind_36 ?_
    refine ex_iload_n hX dX4_timelyBehind_37 rfl rfl ?_
    refine ex_iconst (v := 1) hX dX4_timelyBehind_38 rfl ?_
    refine ex_ishl hX dX4_timelyBehind_39 ?_
    refine ex_iand hX dX4_timelyBehind_40 ?_
    refine ex_nameI (fun v5 ev5 => ?_)
    replace w := w v5 ev5
    refine ex_ior hX dX4_timelyBehind_41 ?_
    refine ex_ior hX dX4_timelyBehind_42 ?_
    refine ex_istore_n (lv' := [some (.ref 89), some (.int x1), none, some (.int (x3 ||| (v3 ||| v5))), some (.int x4)]) hX dX4_timelyBehind_43 rfl (by decide) rfl ?_
    refine ex_iinc (v := x4 + (-1)) (lv' := [some (.ref 89), some (.int x1), none, some (.int (x3 ||| (v3 ||| v5))), some (.int (x4 + (-1)))]) hX dX4_timelyBehind_44 rfl rfl (by decide) rfl ?_
    refine ex_goto hX 12 dX4_timelyBehind_47 (by decide) ?_
    exact w

set_option maxRecDepth 100000 in
set_option maxHeartbeats 4000000 in
theorem sg_X0_tollBetween_0 {Z : CX × GX} {post : Int32 → AH → Prop} {h : AH} {x0 : Nat} {x1 : Int32} {x2 : Int32} (hX : OK Z RX0 cX0_tollBetween 5 (some .int) 1 40) (ox0 : oc x0 = some 0)
    (w : EX Z 5 (QI Z post) 9 h [some (.ref x0), some (.int x1), some (.int x2), some (.int 0), some (.int (if x2 < x1 then x2 else x1))] [])
    : EX Z 5 (QI Z post) 0 h [some (.ref x0), some (.int x1), some (.int x2), none, none] [] := by
  refine ex_iconst (v := 0) hX dX0_tollBetween_0 rfl ?_
  refine ex_istore_n (lv' := [some (.ref x0), some (.int x1), some (.int x2), some (.int 0), none]) hX dX0_tollBetween_1 rfl (by decide) rfl ?_
  refine ex_iload_n hX dX0_tollBetween_2 rfl rfl ?_
  refine ex_iload_n hX dX0_tollBetween_3 rfl rfl ?_
  refine ex_mmin hX ML_0_47 JS_min JI_Math JC_min ⟨Nat.le_of_ble_eq_true rfl, Nat.le_of_ble_eq_true rfl⟩ dX0_tollBetween_4 ?_
  refine ex_istore (lv' := [some (.ref x0), some (.int x1), some (.int x2), some (.int 0), some (.int (if x2 < x1 then x2 else x1))]) hX dX0_tollBetween_7 (by decide) rfl ?_
  exact w

set_option maxRecDepth 100000 in
set_option maxHeartbeats 4000000 in
theorem sg_X0_tollBetween_9 {Z : CX × GX} {post : Int32 → AH → Prop} {h : AH} {x0 : Nat} {x1 : Int32} {x2 : Int32} {x3 : Int32} {x4 : Int32} (hX : OK Z RX0 cX0_tollBetween 5 (some .int) 1 40) (ox0 : oc x0 = some 0)
    (w : (((if x1 < x2 then x2 else x1) ≤ x4 → ((x2 ≤ x1 → post (-x3) h) ∧ (¬ x2 ≤ x1 → post x3 h))) ∧ (¬ (if x1 < x2 then x2 else x1) ≤ x4 → (vp_in x4 9) ∧ (∀ v4 : Int32, v4 = x3 + (h.1 (x0 + 5) (Int32.toNatClampNeg x4)) → EX Z 5 (QI Z post) 9 h [some (.ref x0), some (.int x1), some (.int x2), some (.int v4), some (.int (x4 + 1))] []))))
    : EX Z 5 (QI Z post) 9 h [some (.ref x0), some (.int x1), some (.int x2), some (.int x3), some (.int x4)] [] := by
  refine ex_iload hX dX0_tollBetween_9 rfl ?_
  refine ex_iload_n hX dX0_tollBetween_11 rfl rfl ?_
  refine ex_iload_n hX dX0_tollBetween_12 rfl rfl ?_
  refine ex_mmax hX ML_0_50 JS_max JI_Math JC_max ⟨Nat.le_of_ble_eq_true rfl, Nat.le_of_ble_eq_true rfl⟩ dX0_tollBetween_13 ?_
  refine ex_icmpge hX 35 dX0_tollBetween_16 (by decide) (fun c1 => ?_) (fun c1 => ?_)
  · replace w := w.1 c1
    refine ex_iload_n hX dX0_tollBetween_35 rfl rfl ?_
    refine ex_iload_n hX dX0_tollBetween_36 rfl rfl ?_
    refine ex_icmpge hX 44 dX0_tollBetween_37 (by decide) (fun c2 => ?_) (fun c2 => ?_)
    · replace w := w.1 c2
      refine ex_iload_n hX dX0_tollBetween_44 rfl rfl ?_
      refine ex_ineg hX dX0_tollBetween_45 ?_
      exact ex_iret hX dX0_tollBetween_46 rfl w
    · replace w := w.2 c2
      refine ex_iload_n hX dX0_tollBetween_40 rfl rfl ?_
      refine ex_goto hX 46 dX0_tollBetween_41 (by decide) ?_
      exact ex_iret hX dX0_tollBetween_46 rfl w
  · replace w := w.2 c1
    refine ex_iload_n hX dX0_tollBetween_19 rfl rfl ?_
    refine ex_aload_n hX dX0_tollBetween_20 rfl rfl ?_
    refine ex_get hX (.ref (x0 + 5)) FL_0_24 ox0 (fun _ => rfl) dX0_tollBetween_21 ?_
    refine ex_iload hX dX0_tollBetween_24 rfl ?_
    obtain ⟨q3, w⟩ := w
    refine ex_iald hX (sh_0_5 ox0) q3 dX0_tollBetween_26 ?_
    refine ex_iadd hX dX0_tollBetween_27 ?_
    refine ex_nameI (fun v4 ev4 => ?_)
    replace w := w v4 ev4
    refine ex_istore_n (lv' := [some (.ref x0), some (.int x1), some (.int x2), some (.int v4), some (.int x4)]) hX dX0_tollBetween_28 rfl (by decide) rfl ?_
    refine ex_iinc (v := x4 + 1) (lv' := [some (.ref x0), some (.int x1), some (.int x2), some (.int v4), some (.int (x4 + 1))]) hX dX0_tollBetween_29 rfl rfl (by decide) rfl ?_
    refine ex_goto hX 9 dX0_tollBetween_32 (by decide) ?_
    exact w

set_option maxRecDepth 100000 in
set_option maxHeartbeats 4000000 in
theorem sg_X6_findSoonest_0 {Z : CX × GX} {post : Int32 → AH → Prop} {h : AH} {x1 : Int32} {x2 : Int32} {x3 : Int32} (hX : OK Z RX6 cX6_findSoonest 5 (some .int) 4 123) 
    (w : (∃ PP : AH → Prop, CV yX4_begin cX4_begin 2 0 0 [.ref 89, .int x1] h PP ∧ ∀ u : AH, PP u → EX Z 5 (QI Z post) 8 u [some (.ref 0), none, some (.int x2), some (.int x3), none] []))
    : EX Z 5 (QI Z post) 0 h [some (.ref 0), some (.int x1), some (.int x2), some (.int x3), none] [] := by
  refine ex_aload_n hX dX6_findSoonest_0 rfl rfl ?_
  refine ex_get hX (.ref 89) FL_6_57 rfl (fun _ => rfl) dX6_findSoonest_1 ?_
  refine ex_iload_n hX dX6_findSoonest_4 rfl rfl ?_
  obtain ⟨PP, pM, pK⟩ := w
  exact ex_callVv (ci := 4) (i := 89) (As := [.int x1]) (st := []) hX pM CS_6_242 MS_X4_begin rfl rfl rfl (by decide) rfl (Nat.le_of_ble_eq_true rfl) dX6_findSoonest_5 (fun u hp => ex_forget [some (.ref 0), none, some (.int x2), some (.int x3), none] ⟨rfl, ⟨rfl, ⟨rfl, trivial⟩⟩⟩ (pK u hp))

set_option maxRecDepth 100000 in
set_option maxHeartbeats 4000000 in
theorem sg_X6_findSoonest_8 {Z : CX × GX} {post : Int32 → AH → Prop} {h : AH} {x2 : Int32} {x3 : Int32} (hX : OK Z RX6 cX6_findSoonest 5 (some .int) 4 123) 
    (w : (∃ PP : AH → Prop, CV yX3_becomeAs cX3_becomeAs 2 3 102 [.ref 42, .ref 27] h PP ∧ ∀ u : AH, PP u → EX Z 5 (QI Z post) 19 u [some (.ref 0), none, some (.int x2), some (.int x3), none] []))
    : EX Z 5 (QI Z post) 8 h [some (.ref 0), none, some (.int x2), some (.int x3), none] [] := by
  refine ex_aload_n hX dX6_findSoonest_8 rfl rfl ?_
  refine ex_get hX (.ref 42) FL_6_43 rfl (fun _ => rfl) dX6_findSoonest_9 ?_
  refine ex_aload_n hX dX6_findSoonest_12 rfl rfl ?_
  refine ex_get hX (.ref 27) FL_6_39 rfl (fun _ => rfl) dX6_findSoonest_13 ?_
  obtain ⟨PP, pM, pK⟩ := w
  exact ex_callVv (ci := 3) (i := 42) (As := [.ref 27]) (st := []) hX pM CS_6_198 MS_X3_becomeAs rfl rfl rfl (by decide) rfl (Nat.le_of_ble_eq_true rfl) dX6_findSoonest_16 (fun u hp => pK u hp)

set_option maxRecDepth 100000 in
set_option maxHeartbeats 4000000 in
theorem sg_X6_findSoonest_19 {Z : CX × GX} {post : Int32 → AH → Prop} {h : AH} {x2 : Int32} {x3 : Int32} (hX : OK Z RX6 cX6_findSoonest 5 (some .int) 4 123) 
    (w : EX Z 5 (QI Z post) 22 h [some (.ref 0), none, some (.int x2), some (.int x3), some (.int 0)] [])
    : EX Z 5 (QI Z post) 19 h [some (.ref 0), none, some (.int x2), some (.int x3), none] [] := by
  refine ex_iconst (v := 0) hX dX6_findSoonest_19 rfl ?_
  refine ex_istore (lv' := [some (.ref 0), none, some (.int x2), some (.int x3), some (.int 0)]) hX dX6_findSoonest_20 (by decide) rfl ?_
  exact w

set_option maxRecDepth 100000 in
set_option maxHeartbeats 4000000 in
theorem sg_X6_findSoonest_22 {Z : CX × GX} {post : Int32 → AH → Prop} {h : AH} {x2 : Int32} {x3 : Int32} {x4 : Int32} (hX : OK Z RX6 cX6_findSoonest 5 (some .int) 4 123) 
    (w : ((100 ≤ x4 → (∃ PP : Int32 → AH → Prop, CI yX4_isAt cX4_isAt 2 (some .boolean) 0 0 [.ref 89, .int x2] h PP ∧ ∀ (r : Int32) (u : AH), PP r u → EX Z 5 (QI Z post) 85 u [some (.ref 0), none, none, none, none] (.int r :: []))) ∧ (¬ 100 ≤ x4 → (∃ PP : Int32 → AH → Prop, CI yX4_isAt cX4_isAt 2 (some .boolean) 0 0 [.ref 89, .int x2] h PP ∧ ∀ (r : Int32) (u : AH), PP r u → EX Z 5 (QI Z post) 37 u [some (.ref 0), none, some (.int x2), some (.int x3), some (.int x4)] (.int r :: [])))))
    : EX Z 5 (QI Z post) 22 h [some (.ref 0), none, some (.int x2), some (.int x3), some (.int x4)] [] := by
  refine ex_iload hX dX6_findSoonest_22 rfl ?_
  refine ex_bipush (v := 100) hX dX6_findSoonest_24 rfl ?_
  refine ex_icmpge hX 77 dX6_findSoonest_26 (by decide) (fun c1 => ?_) (fun c1 => ?_)
  · replace w := w.1 c1
    refine ex_aload_n hX dX6_findSoonest_77 rfl rfl ?_
    refine ex_get hX (.ref 89) FL_6_57 rfl (fun _ => rfl) dX6_findSoonest_78 ?_
    refine ex_iload_n hX dX6_findSoonest_81 rfl rfl ?_
    obtain ⟨PP, pM, pK⟩ := w
    exact ex_callIv (ci := 4) (i := 89) (As := [.int x2]) (st := []) hX pM CS_6_244 MS_X4_isAt rfl rfl rfl (by decide) rfl (Nat.le_of_ble_eq_true rfl) dX6_findSoonest_82 (fun r u hp => ex_forget [some (.ref 0), none, none, none, none] ⟨rfl, trivial⟩ (pK r u hp))
  · replace w := w.2 c1
    refine ex_aload_n hX dX6_findSoonest_29 rfl rfl ?_
    refine ex_get hX (.ref 89) FL_6_57 rfl (fun _ => rfl) dX6_findSoonest_30 ?_
    refine ex_iload_n hX dX6_findSoonest_33 rfl rfl ?_
    obtain ⟨PP, pM, pK⟩ := w
    exact ex_callIv (ci := 4) (i := 89) (As := [.int x2]) (st := []) hX pM CS_6_244 MS_X4_isAt rfl rfl rfl (by decide) rfl (Nat.le_of_ble_eq_true rfl) dX6_findSoonest_34 (fun r u hp => pK r u hp)

set_option maxRecDepth 100000 in
set_option maxHeartbeats 4000000 in
theorem sg_X6_findSoonest_37 {Z : CX × GX} {post : Int32 → AH → Prop} {h : AH} {x2 : Int32} {x3 : Int32} {x4 : Int32} {s0 : Int32} (hX : OK Z RX6 cX6_findSoonest 5 (some .int) 4 123) 
    (w : ((¬ s0 = 0 → (∃ PP : Int32 → AH → Prop, CI yX4_isAt cX4_isAt 2 (some .boolean) 0 0 [.ref 89, .int x2] h PP ∧ ∀ (r : Int32) (u : AH), PP r u → EX Z 5 (QI Z post) 85 u [some (.ref 0), none, none, none, none] (.int r :: []))) ∧ (s0 = 0 → (∃ PP : AH → Prop, CV yX3_passHour cX3_passHour 4 3 70 [.ref 42, .ref (h.2 1), .ref (h.2 3)] h PP ∧ ∀ u : AH, PP u → EX Z 5 (QI Z post) 55 u [some (.ref 0), none, some (.int x2), some (.int x3), some (.int x4)] []))))
    : EX Z 5 (QI Z post) 37 h [some (.ref 0), none, some (.int x2), some (.int x3), some (.int x4)] [.int s0] := by
  refine ex_ifne hX 77 dX6_findSoonest_37 (by decide) (fun c1 => ?_) (fun c1 => ?_)
  · replace w := w.1 c1
    refine ex_aload_n hX dX6_findSoonest_77 rfl rfl ?_
    refine ex_get hX (.ref 89) FL_6_57 rfl (fun _ => rfl) dX6_findSoonest_78 ?_
    refine ex_iload_n hX dX6_findSoonest_81 rfl rfl ?_
    obtain ⟨PP, pM, pK⟩ := w
    exact ex_callIv (ci := 4) (i := 89) (As := [.int x2]) (st := []) hX pM CS_6_244 MS_X4_isAt rfl rfl rfl (by decide) rfl (Nat.le_of_ble_eq_true rfl) dX6_findSoonest_82 (fun r u hp => ex_forget [some (.ref 0), none, none, none, none] ⟨rfl, trivial⟩ (pK r u hp))
  · replace w := w.2 c1
    refine ex_aload_n hX dX6_findSoonest_40 rfl rfl ?_
    refine ex_get hX (.ref 42) FL_6_43 rfl (fun _ => rfl) dX6_findSoonest_41 ?_
    refine ex_aload_n hX dX6_findSoonest_44 rfl rfl ?_
    refine ex_gg (fun c2 => ?_)
    refine ex_get hX (.ref (h.2 1)) FL_6_19 rfl (fun _ => rfl) dX6_findSoonest_45 ?_
    refine ex_aload_n hX dX6_findSoonest_48 rfl rfl ?_
    refine ex_gg (fun c3 => ?_)
    refine ex_get hX (.ref (h.2 3)) FL_6_29 rfl (fun _ => rfl) dX6_findSoonest_49 ?_
    obtain ⟨PP, pM, pK⟩ := w
    exact ex_callVv (ci := 3) (i := 42) (As := [.ref (h.2 1), .ref (h.2 3)]) (st := []) hX pM CS_6_162 MS_X3_passHour rfl rfl rfl (by decide) rfl (Nat.le_of_ble_eq_true rfl) dX6_findSoonest_52 (fun u hp => pK u hp)

set_option maxRecDepth 100000 in
set_option maxHeartbeats 4000000 in
theorem sg_X6_findSoonest_55 {Z : CX × GX} {post : Int32 → AH → Prop} {h : AH} {x2 : Int32} {x3 : Int32} {x4 : Int32} (hX : OK Z RX6 cX6_findSoonest 5 (some .int) 4 123) 
    (w : (∃ PP : AH → Prop, CV yX4_addHour cX4_addHour 8 0 0 [.ref 89, .ref (h.2 1), .ref 42, .int x3] h PP ∧ ∀ u : AH, PP u → EX Z 5 (QI Z post) 71 u [some (.ref 0), none, some (.int x2), some (.int x3), some (.int x4)] []))
    : EX Z 5 (QI Z post) 55 h [some (.ref 0), none, some (.int x2), some (.int x3), some (.int x4)] [] := by
  refine ex_aload_n hX dX6_findSoonest_55 rfl rfl ?_
  refine ex_get hX (.ref 89) FL_6_57 rfl (fun _ => rfl) dX6_findSoonest_56 ?_
  refine ex_aload_n hX dX6_findSoonest_59 rfl rfl ?_
  refine ex_gg (fun c1 => ?_)
  refine ex_get hX (.ref (h.2 1)) FL_6_19 rfl (fun _ => rfl) dX6_findSoonest_60 ?_
  refine ex_aload_n hX dX6_findSoonest_63 rfl rfl ?_
  refine ex_get hX (.ref 42) FL_6_43 rfl (fun _ => rfl) dX6_findSoonest_64 ?_
  refine ex_iload_n hX dX6_findSoonest_67 rfl rfl ?_
  obtain ⟨PP, pM, pK⟩ := w
  exact ex_callVv (ci := 4) (i := 89) (As := [.ref (h.2 1), .ref 42, .int x3]) (st := []) hX pM CS_6_247 MS_X4_addHour rfl rfl rfl (by decide) rfl (Nat.le_of_ble_eq_true rfl) dX6_findSoonest_68 (fun u hp => pK u hp)

set_option maxRecDepth 100000 in
set_option maxHeartbeats 4000000 in
theorem sg_X6_findSoonest_71 {Z : CX × GX} {post : Int32 → AH → Prop} {h : AH} {x2 : Int32} {x3 : Int32} {x4 : Int32} (hX : OK Z RX6 cX6_findSoonest 5 (some .int) 4 123) 
    (w : EX Z 5 (QI Z post) 22 h [some (.ref 0), none, some (.int x2), some (.int x3), some (.int (x4 + 1))] [])
    : EX Z 5 (QI Z post) 71 h [some (.ref 0), none, some (.int x2), some (.int x3), some (.int x4)] [] := by
  refine ex_iinc (v := x4 + 1) (lv' := [some (.ref 0), none, some (.int x2), some (.int x3), some (.int (x4 + 1))]) hX dX6_findSoonest_71 rfl rfl (by decide) rfl ?_
  refine ex_goto hX 22 dX6_findSoonest_74 (by decide) ?_
  exact w

set_option maxRecDepth 100000 in
set_option maxHeartbeats 4000000 in
theorem sg_X6_findSoonest_85 {Z : CX × GX} {post : Int32 → AH → Prop} {h : AH} {s0 : Int32} (hX : OK Z RX6 cX6_findSoonest 5 (some .int) 4 123) 
    (w : ((s0 = 0 → post (-1) h) ∧ (¬ s0 = 0 → post (h.1 89 0) h)))
    : EX Z 5 (QI Z post) 85 h [some (.ref 0), none, none, none, none] [.int s0] := by
  refine ex_ifeq hX 98 dX6_findSoonest_85 (by decide) (fun c1 => ?_) (fun c1 => ?_)
  · replace w := w.1 c1
    refine ex_iconst (v := (-1)) hX dX6_findSoonest_98 rfl ?_
    exact ex_iret hX dX6_findSoonest_99 rfl w
  · replace w := w.2 c1
    refine ex_aload_n hX dX6_findSoonest_88 rfl rfl ?_
    refine ex_get hX (.ref 89) FL_6_57 rfl (fun _ => rfl) dX6_findSoonest_89 ?_
    refine ex_get hX (.int (h.1 89 0)) FL_6_251 rfl (fun _ => rfl) dX6_findSoonest_92 ?_
    refine ex_goto hX 99 dX6_findSoonest_95 (by decide) ?_
    exact ex_iret hX dX6_findSoonest_99 rfl w

set_option maxRecDepth 100000 in
set_option maxHeartbeats 4000000 in
theorem sg_X6_boat_0 {Z : CX × GX} {post : Int32 → AH → Prop} {h : AH} {x1 : Int32} {x2 : Int32} {x3 : Int32} {x4 : Int32} (hX : OK Z RX6 cX6_boat 6 (some .int) 5 147) 
    (w : ((¬ (0 ≤ x1 ∧ x1 < h.1 (h.2 1) 0) → post (-100000001) h) ∧ ((0 ≤ x1 ∧ x1 < h.1 (h.2 1) 0) → (((0 ≤ x2 ∧ x2 < h.1 (h.2 1) 0) → ((x3 < 0 → post (-100000002) h) ∧ (¬ x3 < 0 → ((x3 ≤ 999 → (∃ PP : Int32 → AH → Prop, CI yX6_findSoonest cX6_findSoonest 5 (some .int) 4 123 [.ref 0, .int x1, .int x2, .int x3] h PP ∧ ∀ (r : Int32) (u : AH), PP r u → EX Z 6 (QI Z post) 46 u [some (.ref 0), some (.int x1), some (.int x2), none, some (.int x4), none] (.int r :: []))) ∧ (¬ x3 ≤ 999 → post (-100000002) h))))) ∧ (¬ (0 ≤ x2 ∧ x2 < h.1 (h.2 1) 0) → post (-100000001) h)))))
    : EX Z 6 (QI Z post) 0 h [some (.ref 0), some (.int x1), some (.int x2), some (.int x3), some (.int x4), none] [] := by
  refine ex_aload_n hX dX6_boat_0 rfl rfl ?_
  refine ex_gg (fun c1 => ?_)
  refine ex_get hX (.ref (h.2 1)) FL_6_19 rfl (fun _ => rfl) dX6_boat_1 ?_
  refine ex_iload_n hX dX6_boat_4 rfl rfl ?_
  refine ex_pIv (ci := 0) (i := h.2 1) (As := [.int x1]) (st := []) hX (c_X0_isNode (h := h) c1.1) CS_6_122 MS_X0_isNode rfl c1.1 rfl (by decide) rfl (Nat.le_of_ble_eq_true rfl) dX6_boat_5 ?_
  refine ex_ifeqB hX 22 dX6_boat_8 (by decide) (fun c2 => ?_) (fun c2 => ?_)
  · replace w := w.1 c2
    refine ex_ldc hX dX6_boat_22 KC_6_126 ?_
    exact ex_iret hX dX6_boat_24 rfl w
  · replace w := w.2 c2
    refine ex_aload_n hX dX6_boat_11 rfl rfl ?_
    refine ex_gg (fun c3 => ?_)
    refine ex_get hX (.ref (h.2 1)) FL_6_19 rfl (fun _ => rfl) dX6_boat_12 ?_
    refine ex_iload_n hX dX6_boat_15 rfl rfl ?_
    refine ex_pIv (ci := 0) (i := h.2 1) (As := [.int x2]) (st := []) hX (c_X0_isNode (h := h) c3.1) CS_6_122 MS_X0_isNode rfl c3.1 rfl (by decide) rfl (Nat.le_of_ble_eq_true rfl) dX6_boat_16 ?_
    refine ex_ifneB hX 25 dX6_boat_19 (by decide) (fun c4 => ?_) (fun c4 => ?_)
    · replace w := w.1 c4
      refine ex_iload_n hX dX6_boat_25 rfl rfl ?_
      refine ex_iflt hX 36 dX6_boat_26 (by decide) (fun c5 => ?_) (fun c5 => ?_)
      · replace w := w.1 c5
        refine ex_ldc hX dX6_boat_36 KC_6_72 ?_
        exact ex_iret hX dX6_boat_38 rfl w
      · replace w := w.2 c5
        refine ex_iload_n hX dX6_boat_29 rfl rfl ?_
        refine ex_sipush (v := 999) hX dX6_boat_30 rfl ?_
        refine ex_icmple hX 39 dX6_boat_33 (by decide) (fun c6 => ?_) (fun c6 => ?_)
        · replace w := w.1 c6
          refine ex_aload_n hX dX6_boat_39 rfl rfl ?_
          refine ex_iload_n hX dX6_boat_40 rfl rfl ?_
          refine ex_iload_n hX dX6_boat_41 rfl rfl ?_
          refine ex_iload_n hX dX6_boat_42 rfl rfl ?_
          obtain ⟨PP, pM, pK⟩ := w
          exact ex_callIv (ci := 6) (i := 0) (As := [.int x1, .int x2, .int x3]) (st := []) hX pM CS_6_206 MS_X6_findSoonest rfl rfl rfl (by decide) rfl (Nat.le_of_ble_eq_true rfl) dX6_boat_43 (fun r u hp => ex_forget [some (.ref 0), some (.int x1), some (.int x2), none, some (.int x4), none] ⟨rfl, ⟨rfl, ⟨rfl, ⟨rfl, trivial⟩⟩⟩⟩ (pK r u hp))
        · replace w := w.2 c6
          refine ex_ldc hX dX6_boat_36 KC_6_72 ?_
          exact ex_iret hX dX6_boat_38 rfl w
    · replace w := w.2 c4
      refine ex_ldc hX dX6_boat_22 KC_6_126 ?_
      exact ex_iret hX dX6_boat_24 rfl w

set_option maxRecDepth 100000 in
set_option maxHeartbeats 4000000 in
theorem sg_X6_boat_46 {Z : CX × GX} {post : Int32 → AH → Prop} {h : AH} {x1 : Int32} {x2 : Int32} {x4 : Int32} {s0 : Int32} (hX : OK Z RX6 cX6_boat 6 (some .int) 5 147) 
    (w : ((¬ x4 = (-1) → ((¬ x4 = (-2) → ((x4 < 0 → post (-1) h) ∧ (¬ x4 < 0 → ((x4 < s0 → (∃ PP : Int32 → AH → Prop, CI yX4_deedIn cX4_deedIn 8 (some .int) 1 24 [.ref 89, .int x4, .int x1, .int x2] h PP ∧ ∀ (r : Int32) (u : AH), PP r u → EX Z 6 (QI Z post) 110 u [none, none, none, none, none, none] (.int r :: []))) ∧ (¬ x4 < s0 → post (-1) h))))) ∧ (x4 = (-2) → ((¬ s0 = (-1) → (∃ PP : Int32 → AH → Prop, CI yX0_tollBetween cX0_tollBetween 5 (some .int) 1 40 [.ref (h.2 1), .int x1, .int x2] h PP ∧ ∀ (r : Int32) (u : AH), PP r u → EX Z 6 (QI Z post) 84 u [none, none, none, none, none, none] (.int r :: []))) ∧ (s0 = (-1) → post (-100000003) h))))) ∧ (x4 = (-1) → post s0 h)))
    : EX Z 6 (QI Z post) 46 h [some (.ref 0), some (.int x1), some (.int x2), none, some (.int x4), none] [.int s0] := by
  refine ex_istore (lv' := [some (.ref 0), some (.int x1), some (.int x2), none, some (.int x4), some (.int s0)]) hX dX6_boat_46 (by decide) rfl ?_
  refine ex_iload hX dX6_boat_48 rfl ?_
  refine ex_iconst (v := (-1)) hX dX6_boat_50 rfl ?_
  refine ex_icmpne hX 57 dX6_boat_51 (by decide) (fun c1 => ?_) (fun c1 => ?_)
  · replace w := w.1 c1
    refine ex_iload hX dX6_boat_57 rfl ?_
    refine ex_bipush (v := (-2)) hX dX6_boat_59 rfl ?_
    refine ex_icmpne hX 85 dX6_boat_61 (by decide) (fun c2 => ?_) (fun c2 => ?_)
    · replace w := w.1 c2
      refine ex_iload hX dX6_boat_85 rfl ?_
      refine ex_iflt hX 97 dX6_boat_87 (by decide) (fun c3 => ?_) (fun c3 => ?_)
      · replace w := w.1 c3
        refine ex_iconst (v := (-1)) hX dX6_boat_97 rfl ?_
        exact ex_iret hX dX6_boat_98 rfl w
      · replace w := w.2 c3
        refine ex_iload hX dX6_boat_90 rfl ?_
        refine ex_iload hX dX6_boat_92 rfl ?_
        refine ex_icmplt hX 99 dX6_boat_94 (by decide) (fun c4 => ?_) (fun c4 => ?_)
        · replace w := w.1 c4
          refine ex_aload_n hX dX6_boat_99 rfl rfl ?_
          refine ex_get hX (.ref 89) FL_6_57 rfl (fun _ => rfl) dX6_boat_100 ?_
          refine ex_iload hX dX6_boat_103 rfl ?_
          refine ex_iload_n hX dX6_boat_105 rfl rfl ?_
          refine ex_iload_n hX dX6_boat_106 rfl rfl ?_
          obtain ⟨PP, pM, pK⟩ := w
          exact ex_callIv (ci := 4) (i := 89) (As := [.int x4, .int x1, .int x2]) (st := []) hX pM CS_6_213 MS_X4_deedIn rfl rfl rfl (by decide) rfl (Nat.le_of_ble_eq_true rfl) dX6_boat_107 (fun r u hp => ex_forget [none, none, none, none, none, none] trivial (pK r u hp))
        · replace w := w.2 c4
          refine ex_iconst (v := (-1)) hX dX6_boat_97 rfl ?_
          exact ex_iret hX dX6_boat_98 rfl w
    · replace w := w.2 c2
      refine ex_iload hX dX6_boat_64 rfl ?_
      refine ex_iconst (v := (-1)) hX dX6_boat_66 rfl ?_
      refine ex_icmpne hX 75 dX6_boat_67 (by decide) (fun c5 => ?_) (fun c5 => ?_)
      · replace w := w.1 c5
        refine ex_aload_n hX dX6_boat_75 rfl rfl ?_
        refine ex_gg (fun c6 => ?_)
        refine ex_get hX (.ref (h.2 1)) FL_6_19 rfl (fun _ => rfl) dX6_boat_76 ?_
        refine ex_iload_n hX dX6_boat_79 rfl rfl ?_
        refine ex_iload_n hX dX6_boat_80 rfl rfl ?_
        obtain ⟨PP, pM, pK⟩ := w
        exact ex_callIv (ci := 0) (i := h.2 1) (As := [.int x1, .int x2]) (st := []) hX pM CS_6_210 MS_X0_tollBetween rfl c6.1 rfl (by decide) rfl (Nat.le_of_ble_eq_true rfl) dX6_boat_81 (fun r u hp => ex_forget [none, none, none, none, none, none] trivial (pK r u hp))
      · replace w := w.2 c5
        refine ex_ldc hX dX6_boat_70 KC_6_103 ?_
        refine ex_goto hX 84 dX6_boat_72 (by decide) ?_
        exact ex_iret hX dX6_boat_84 rfl w
  · replace w := w.2 c1
    refine ex_iload hX dX6_boat_54 rfl ?_
    exact ex_iret hX dX6_boat_56 rfl w

set_option maxRecDepth 100000 in
set_option maxHeartbeats 4000000 in
theorem sg_X6_boat_84 {Z : CX × GX} {post : Int32 → AH → Prop} {h : AH} {s0 : Int32} (hX : OK Z RX6 cX6_boat 6 (some .int) 5 147) 
    (w : post s0 h)
    : EX Z 6 (QI Z post) 84 h [none, none, none, none, none, none] [.int s0] := by
  exact ex_iret hX dX6_boat_84 rfl w

set_option maxRecDepth 100000 in
set_option maxHeartbeats 4000000 in
theorem sg_X6_boat_110 {Z : CX × GX} {post : Int32 → AH → Prop} {h : AH} {s0 : Int32} (hX : OK Z RX6 cX6_boat 6 (some .int) 5 147) 
    (w : post s0 h)
    : EX Z 6 (QI Z post) 110 h [none, none, none, none, none, none] [.int s0] := by
  exact ex_iret hX dX6_boat_110 rfl w

def setN (p : Nat → Bool) : Nat → Nat
  | 0 => 0
  | m + 1 => if p m = true then setN p m ||| 2 ^ m else setN p m
theorem setN_bit {p : Nat → Bool} {k : Nat} : ∀ m, (setN p m).testBit k = (decide (k < m) && p k) := by
  intro m
  induction m with
  | zero => simp [setN]
  | succ m ih =>
    rw [setN]
    by_cases c : p m = true
    · rw [if_pos c, Nat.testBit_or, ih, Nat.testBit_two_pow]
      by_cases d : m = k
      · subst d; simp [c]
      · have e : decide (k < m + 1) = decide (k < m) := decide_eq_decide.mpr (by omega)
        rw [e]; simp [d]
    · rw [if_neg c, ih]
      by_cases d : m = k
      · subst d; simp [c]
      · have e : decide (k < m + 1) = decide (k < m) := decide_eq_decide.mpr (by omega)
        rw [e]
theorem setN_lt {p : Nat → Bool} (m : Nat) : setN p m < 2 ^ m := Nat.lt_pow_two_of_testBit _ (fun i hi => by rw [setN_bit, decide_eq_false (by omega), Bool.false_and])
def rcN (dn up : Nat → Nat) (a : Nat) : Nat → Nat
  | 0 => 2 ^ a
  | t + 1 => rcN dn up a t ||| ((rcN dn up a t &&& dn t) * 2 ||| (rcN dn up a t &&& up t) / 2)
def glN (dn up : Nat → Nat) (n b : Nat) : Nat → Nat
  | 0 => 2 ^ b
  | d + 1 => glN dn up n b d ||| (dn (n - d - 1) &&& (glN dn up n b d / 2) ||| up (n - d - 1) &&& (glN dn up n b d * 2))
theorem m2_bit (x k : Nat) : (x * 2).testBit k = (decide (1 ≤ k) && x.testBit (k - 1)) := by
  have := Nat.testBit_mul_two_pow x k 1
  rw [Nat.pow_one] at this
  exact this
theorem d2_bit (x k : Nat) : (x / 2).testBit k = x.testBit (k + 1) := by
  have := Nat.testBit_div_two_pow (n := 1) x k
  rw [Nat.pow_one] at this
  exact this
theorem rc_bit {dn up : Nat → Nat} {a t k : Nat} : (rcN dn up a (t + 1)).testBit k = ((rcN dn up a t).testBit k || ((decide (1 ≤ k) && ((rcN dn up a t).testBit (k - 1) && (dn t).testBit (k - 1))) || ((rcN dn up a t).testBit (k + 1) && (up t).testBit (k + 1)))) := by
  rw [rcN, Nat.testBit_or, Nat.testBit_or, m2_bit, d2_bit, Nat.testBit_and, Nat.testBit_and]
theorem gl_bit {dn up : Nat → Nat} {n b d k : Nat} : (glN dn up n b (d + 1)).testBit k = ((glN dn up n b d).testBit k || (((dn (n - d - 1)).testBit k && (glN dn up n b d).testBit (k + 1)) || ((up (n - d - 1)).testBit k && (decide (1 ≤ k) && (glN dn up n b d).testBit (k - 1))))) := by
  rw [glN, Nat.testBit_or, Nat.testBit_or, Nat.testBit_and, Nat.testBit_and, m2_bit, d2_bit]
theorem rc_lt {dn up : Nat → Nat} {a N : Nat} (ha : a < N) (hd : ∀ t, dn t < 2 ^ (N - 1)) : ∀ t, rcN dn up a t < 2 ^ N := by
  have e : 2 ^ N = 2 ^ (N - 1) * 2 := by rw [← Nat.pow_succ]; congr 1; omega
  intro t
  induction t with
  | zero => exact Nat.pow_lt_pow_right (by decide) ha
  | succ t ih =>
    rw [rcN]
    have h1 : rcN dn up a t &&& dn t < 2 ^ (N - 1) := Nat.and_lt_two_pow _ (hd t)
    have h2 : rcN dn up a t &&& up t < 2 ^ N := by rw [Nat.and_comm]; exact Nat.and_lt_two_pow _ ih
    exact Nat.or_lt_two_pow ih (Nat.or_lt_two_pow (by omega) (by omega))
theorem gl_lt {dn up : Nat → Nat} {n b N : Nat} (hb : b < N) (hd : ∀ t, dn t < 2 ^ (N - 1)) (hu : ∀ t, up t < 2 ^ N) : ∀ d, glN dn up n b d < 2 ^ N := by
  have e : 2 ^ (N - 1) ≤ 2 ^ N := Nat.pow_le_pow_right (by decide) (by omega)
  intro d
  induction d with
  | zero => exact Nat.pow_lt_pow_right (by decide) hb
  | succ d ih =>
    rw [glN]
    have h1 : dn (n - d - 1) &&& (glN dn up n b d / 2) < 2 ^ (N - 1) := by rw [Nat.and_comm]; exact Nat.and_lt_two_pow _ (hd _)
    have h2 : up (n - d - 1) &&& (glN dn up n b d * 2) < 2 ^ N := by rw [Nat.and_comm]; exact Nat.and_lt_two_pow _ (hu _)
    exact Nat.or_lt_two_pow ih (Nat.or_lt_two_pow (by omega) h2)
theorem fwbw {dn up : Nat → Nat} {n a b : Nat} : (rcN dn up a n).testBit b = (glN dn up n b n).testBit a := by
  have M : ∀ d, d ≤ n → ((∃ k, (rcN dn up a (n - d)).testBit k = true ∧ (glN dn up n b d).testBit k = true) ↔ (rcN dn up a n).testBit b = true) := by
    intro d
    induction d with
    | zero =>
      intro _
      rw [Nat.sub_zero]
      constructor
      · rintro ⟨k, h1, h2⟩
        rw [glN, Nat.testBit_two_pow] at h2
        rw [of_decide_eq_true h2]; exact h1
      · intro h1
        exact ⟨b, h1, by rw [glN, Nat.testBit_two_pow]; simp⟩
    | succ d ih =>
      intro hd
      rw [← ih (by omega)]
      obtain ⟨t, et⟩ : ∃ t, n - d = t + 1 := ⟨n - d - 1, by omega⟩
      have et2 : n - (d + 1) = t := by omega
      have et3 : n - d - 1 = t := by omega
      rw [et, et2]
      constructor
      · rintro ⟨k, h1, h2⟩
        rw [gl_bit, et3] at h2
        simp only [Bool.or_eq_true, Bool.and_eq_true, decide_eq_true_eq] at h2
        rcases h2 with h2 | ⟨h2, h3⟩ | ⟨h2, h3, h4⟩
        · exact ⟨k, by rw [rc_bit, h1, Bool.true_or], h2⟩
        · refine ⟨k + 1, ?_, h3⟩
          rw [rc_bit, Nat.add_sub_cancel, h1, h2]; simp
        · refine ⟨k - 1, ?_, h4⟩
          rw [rc_bit, show k - 1 + 1 = k by omega, h1, h2]; simp
      · rintro ⟨k, h1, h2⟩
        rw [rc_bit] at h1
        simp only [Bool.or_eq_true, Bool.and_eq_true, decide_eq_true_eq] at h1
        rcases h1 with h1 | ⟨h1, h3, h4⟩ | ⟨h1, h3⟩
        · exact ⟨k, h1, by rw [gl_bit, h2, Bool.true_or]⟩
        · refine ⟨k - 1, h3, ?_⟩
          rw [gl_bit, et3, show k - 1 + 1 = k by omega, h2, h4]; simp
        · refine ⟨k + 1, h1, ?_⟩
          rw [gl_bit, et3, Nat.add_sub_cancel, h2, h3]; simp
  have := M n (Nat.le_refl _)
  rw [Nat.sub_self] at this
  rw [Bool.eq_iff_iff, ← this]
  constructor
  · rintro ⟨k, h1, h2⟩
    rw [rcN, Nat.testBit_two_pow] at h1
    rw [of_decide_eq_true h1]; exact h2
  · intro h1
    exact ⟨a, by rw [rcN, Nat.testBit_two_pow]; simp, h1⟩
def plcN (dn up : Nat → Nat) (n b a : Nat) : Nat → Nat
  | 0 => a
  | h + 1 => if (glN dn up n b (n - h - 1)).testBit (plcN dn up n b a h) = true then plcN dn up n b a h else if ((dn h).testBit (plcN dn up n b a h) && (glN dn up n b (n - h - 1)).testBit (plcN dn up n b a h + 1)) = true then plcN dn up n b a h + 1 else plcN dn up n b a h - 1
def dedN (dn up : Nat → Nat) (n b a h : Nat) : Nat := if (glN dn up n b (n - h - 1)).testBit (plcN dn up n b a h) = true then 0 else if ((dn h).testBit (plcN dn up n b a h) && (glN dn up n b (n - h - 1)).testBit (plcN dn up n b a h + 1)) = true then 1 else 2
theorem plc_ok {dn up : Nat → Nat} {n b a : Nat} (h0 : (glN dn up n b n).testBit a = true) : ∀ h, h ≤ n → (glN dn up n b (n - h)).testBit (plcN dn up n b a h) = true := by
  intro h
  induction h with
  | zero => intro _; exact h0
  | succ h ih =>
    intro hh
    have := ih (by omega)
    rw [show n - h = (n - h - 1) + 1 by omega, gl_bit, show n - (n - h - 1) - 1 = h by omega] at this
    rw [plcN, show n - (h + 1) = n - h - 1 by omega]
    by_cases c : (glN dn up n b (n - h - 1)).testBit (plcN dn up n b a h) = true
    · rw [if_pos c]; exact c
    · rw [if_neg c]
      by_cases d : ((dn h).testBit (plcN dn up n b a h) && (glN dn up n b (n - h - 1)).testBit (plcN dn up n b a h + 1)) = true
      · rw [if_pos d]; exact (Bool.and_eq_true _ _ ▸ d).2
      · rw [if_neg d]
        rw [Bool.eq_false_iff.mpr c, Bool.eq_false_iff.mpr d] at this
        simp only [Bool.false_or, Bool.and_eq_true] at this
        exact this.2.2
theorem plc_up {dn up : Nat → Nat} {n b a h : Nat} (h0 : (glN dn up n b n).testBit a = true) (hh : h < n) (c : ¬ (glN dn up n b (n - h - 1)).testBit (plcN dn up n b a h) = true) (d : ¬ ((dn h).testBit (plcN dn up n b a h) && (glN dn up n b (n - h - 1)).testBit (plcN dn up n b a h + 1)) = true) : 1 ≤ plcN dn up n b a h ∧ (up h).testBit (plcN dn up n b a h) = true ∧ (glN dn up n b (n - h - 1)).testBit (plcN dn up n b a h - 1) = true := by
  have := plc_ok h0 h (by omega)
  rw [show n - h = (n - h - 1) + 1 by omega, gl_bit, show n - (n - h - 1) - 1 = h by omega, Bool.eq_false_iff.mpr c, Bool.eq_false_iff.mpr d] at this
  simp only [Bool.false_or, Bool.and_eq_true, decide_eq_true_eq] at this
  exact ⟨this.2.1, this.1, this.2.2⟩

theorem nx_and (a b : Nat) : nI a &&& nI b = nI (a &&& b) := by
  apply Int32.toBitVec_inj.1
  show BitVec.ofNat 32 a &&& BitVec.ofNat 32 b = BitVec.ofNat 32 (a &&& b)
  apply BitVec.eq_of_getLsbD_eq
  intro i hi
  simp [hi]
theorem nx_or (a b : Nat) : nI a ||| nI b = nI (a ||| b) := by
  apply Int32.toBitVec_inj.1
  show BitVec.ofNat 32 a ||| BitVec.ofNat 32 b = BitVec.ofNat 32 (a ||| b)
  apply BitVec.eq_of_getLsbD_eq
  intro i hi
  simp [hi]
theorem s_l : ∀ n, n < 32 → ((nI n &&& 31).toBitVec.smod 32).toNat = n := by decide +kernel
theorem sh_r {x k : Nat} (hx : x < 2 ^ 31) (hk : k < 32) : nI x >>> (nI k &&& 31) = nI (x / 2 ^ k) := pk_shrN hx _ k (s_l k hk)
theorem sh_l {x k : Nat} (hk : k < 32) (h : x * 2 ^ k < 2 ^ 32) : nI x <<< (nI k &&& 31) = nI (x * 2 ^ k) := pk_shlN _ k (s_l k hk) h
theorem sh_r1 {x : Nat} (hx : x < 2 ^ 31) : nI x >>> ((1 : Int32) &&& 31) = nI (x / 2) := by
  have := sh_r (k := 1) hx (by decide)
  rw [Nat.pow_one] at this
  exact this
theorem sh_l1 {x : Nat} (hx : x < 2 ^ 31) : nI x <<< ((1 : Int32) &&& 31) = nI (x * 2) := by
  have := sh_l (k := 1) (x := x) (by decide) (by omega)
  rw [Nat.pow_one] at this
  exact this
theorem bit_1 {x : Nat} (hx : x < 2 ^ 31) : (nI x &&& 1 = 0) ↔ x.testBit 0 = false := by
  rw [pk_andN (by omega) 1 rfl, k_0, nI_eq (by omega) (by omega), Nat.testBit_zero]
  constructor
  · intro z; exact decide_eq_false (by omega)
  · intro z; have := of_decide_eq_false z; omega
theorem bitT {x k : Nat} (hx : x < 2 ^ 31) (hk : k < 32) : (((nI x >>> (nI k &&& 31)) &&& 1) = 0) ↔ x.testBit k = false := by
  rw [sh_r hx hk, bit_1 (Nat.lt_of_le_of_lt (Nat.div_le_self _ _) hx), Nat.testBit_div_two_pow, Nat.zero_add]
def dB (τ : SG) (r : Int32) (k : Nat) : Bool := decide (¬ τ (10 + k) = 0 ∧ ¬ r < -(τ (20 + k)))
def uB (τ : SG) (r : Int32) (k : Nat) : Bool := decide (1 ≤ k ∧ ¬ τ (10 + (k - 1)) = 0 ∧ ¬ r < τ (20 + (k - 1)))
def dnN (P : PR) (σ : SG) (r : Int32) (t : Nat) : Nat := setN (dB (hoursS P 0 0 (t + 1) σ) r) (pn P - 1)
def upN (P : PR) (σ : SG) (r : Int32) (t : Nat) : Nat := setN (uB (hoursS P 0 0 (t + 1) σ) r) (pn P)
theorem pow10 {x n : Nat} (h : x < 2 ^ n) (hn : n ≤ 10) : x < 1024 := Nat.lt_of_lt_of_le h (Nat.pow_le_pow_right (by decide) hn)
def soonN (P : PR) (σ : SG) (r : Int32) (a b : Nat) : Nat := fstS (fun t => (rcN (dnN P σ r) (upN P σ r) a t).testBit b) 101 0

set_option maxRecDepth 100000 in
set_option maxHeartbeats 4000000 in
theorem c_X4_begin {h : AH} {a1 : Int32}  {a : Nat} (ha : a < 10) (e1 : a1 = nI a) : CV yX4_begin cX4_begin 2 0 0 [.ref 89, .int a1] h (fun u => u.2 = h.2 ∧ (∀ i, i ≠ 89 → u.1 i = h.1 i) ∧ u.1 89 0 = 0 ∧ u.1 89 1 = nI (2 ^ a)) := by
  refine CV.of [some (.ref 89), some (.int a1)] (by decide +kernel) rfl (Nat.le_of_ble_eq_true rfl) rfl (fun Z hX => ?_)
  subst e1
  refine sg_X4_begin_0 hX (fun u1 e1 u2 e2 => ⟨by rw [e2, e1], fun i hi => by rw [e2, hs_o hi, e1, hs_o hi], by rw [e2, hs_i (by omega), e1, hs_s], by rw [e2, hs_s]; exact shl_n a ha⟩)

set_option maxRecDepth 100000 in
set_option maxHeartbeats 4000000 in
theorem c_X4_isAt {h : AH} {a1 : Int32}  {s b : Nat} (hs : s < 1024) (es : h.1 89 1 = nI s) (hb : b < 10) (e1 : a1 = nI b) : CI yX4_isAt cX4_isAt 2 (some .boolean) 0 0 [.ref 89, .int a1] h (fun r u => r = bI (s.testBit b = true) ∧ u = h) := by
  refine CI.of [some (.ref 89), some (.int a1)] (by decide +kernel) rfl (Nat.le_of_ble_eq_true rfl) rfl (fun Z hX => ?_)
  subst e1
  refine sg_X4_isAt_0 hX ?_
  rw [es, bitT (by omega) (by omega)]
  exact ⟨fun z => ⟨by rw [bI_f (by rw [z]; decide)], rfl⟩, fun z => ⟨by rw [bI_t (by rcases Bool.eq_false_or_eq_true (s.testBit b) with d | d; exact d; exact absurd d z)], rfl⟩⟩

set_option maxRecDepth 100000 in
set_option maxHeartbeats 4000000 in
theorem c_X4_addHour {h : AH} {a1 : Nat} {a2 : Nat} {a3 : Int32} (ha1 : oc a1 = some 0) (ha2 : oc a2 = some 3) {s t n : Nat} {τ : SG} (e2 : a2 = 42) (hn : 2 ≤ n ∧ n ≤ 10) (en : h.1 a1 0 = nI n) (hs : s < 1024) (es : h.1 89 1 = nI s) (ht : t < 100) (et : h.1 89 0 = nI t) (eτ : mk (cs h.1 42) = τ) : CV yX4_addHour cX4_addHour 8 0 0 [.ref 89, .ref a1, .ref a2, .int a3] h (fun u => u.2 = h.2 ∧ (∀ i, i ≠ 89 → i ≠ 90 → i ≠ 91 → u.1 i = h.1 i) ∧ u.1 89 0 = nI (t + 1) ∧ u.1 89 1 = nI (s ||| ((s &&& setN (dB τ a3) (n - 1)) * 2 ||| (s &&& setN (uB τ a3) n) / 2)) ∧ u.1 90 = upd (h.1 90) t (nI (setN (dB τ a3) (n - 1))) ∧ u.1 91 = upd (h.1 91) t (nI (setN (uB τ a3) n))) := by
  refine CV.of [some (.ref 89), some (.ref a1), some (.ref a2), some (.int a3), none, none, none, none] (by decide +kernel) rfl (Nat.le_of_ble_eq_true rfl) rfl (fun Z hX => ?_)
  subst e2
  have enm : h.1 a1 0 - 1 = nI (n - 1) := by rw [en, k_1, pk_sub (by omega)]
  have L : ∀ k, k ≤ n - 1 → EX Z 8 (QV Z (fun u => u.2 = h.2 ∧ (∀ i, i ≠ 89 → i ≠ 90 → i ≠ 91 → u.1 i = h.1 i) ∧ u.1 89 0 = nI (t + 1) ∧ u.1 89 1 = nI (s ||| ((s &&& setN (dB τ a3) (n - 1)) * 2 ||| (s &&& setN (uB τ a3) n) / 2)) ∧ u.1 90 = upd (h.1 90) t (nI (setN (dB τ a3) (n - 1))) ∧ u.1 91 = upd (h.1 91) t (nI (setN (uB τ a3) n)))) 19 h [some (.ref 89), some (.ref a1), some (.ref 42), some (.int a3), some (.int (nI (setN (dB τ a3) k))), some (.int (nI (setN (uB τ a3) (k + 1)))), some (.int (nI k)), none] [] := by
    refine ldown _ ?_ ?_
    · refine sg_X4_addHour_19 hX ha1 rfl ⟨fun _ => ?_, fun z => absurd (by rw [enm]; exact nI_le (Nat.le_refl _) (by omega)) z⟩
      rw [show n - 1 + 1 = n by omega]
      have d1 := pow10 (setN_lt (p := dB τ a3) (n - 1)) (by omega)
      have d2 := pow10 (setN_lt (p := uB τ a3) n) (by omega)
      generalize setN (dB τ a3) (n - 1) = d at d1
      generalize setN (uB τ a3) n = e at d2
      have c1 : s &&& d < 1024 := Nat.and_lt_two_pow (n := 10) _ d1
      have c2 : s &&& e < 1024 := Nat.and_lt_two_pow (n := 10) _ d2
      rw [et, nI_clamp (by omega)]
      refine ⟨vp_in_nI (by omega) (by omega), fun u3 e3 => ?_⟩
      have f3 : u3.1 89 0 = nI t := by rw [e3, hs_o (by omega)]; exact et
      rw [f3, nI_clamp (by omega)]
      refine ⟨vp_in_nI (by omega) (by omega), fun u5 e5 => ?_⟩
      have f5 : u5.1 89 1 = nI s := by rw [e5, hs_o (by omega), e3, hs_o (by omega)]; exact es
      rw [f5, nx_and, nx_and, sh_l1 (by omega), sh_r1 (by omega), nx_or]
      intro v6 e6 u7 e7 u8 e8
      rw [e6, nx_or] at e7
      have f7 : u7.1 89 0 = nI t := by rw [e7, hs_i (by omega), e5, hs_o (by omega)]; exact f3
      rw [f7, nI_1] at e8
      refine ⟨by rw [e8, e7, e5, e3], fun i h1 h2 h3 => by rw [e8, hs_o h1, e7, hs_o h1, e5, hs_o h3, e3, hs_o h2], by rw [e8, hs_s], by rw [e8, hs_i (by omega), e7, hs_s], ?_, ?_⟩
      · rw [e8, hs_o (by omega), e7, hs_o (by omega), e5, hs_o (by omega), e3]
        show hset h.1 90 t _ 90 = _
        rw [hset_eq]
      · rw [e8, hs_o (by omega), e7, hs_o (by omega), e5]
        show hset u3.1 91 t _ 91 = _
        rw [hset_eq, e3, hs_o (by omega)]
    · intro k hk ih
      have w10 : h.1 (42 + 3) k = τ (10 + k) := by rw [← eτ]; exact mkc_at (f := h.1) (s := 42) (loc_10 k (by omega)) (by unfold rel; omega)
      have w20 : h.1 (42 + 4) k = τ (20 + k) := by rw [← eτ]; exact mkc_at (f := h.1) (s := 42) (loc_20 k (by omega)) (by unfold rel; omega)
      refine sg_X4_addHour_19 hX ha1 rfl ⟨fun z => absurd z (by rw [enm]; exact nI_ge hk (by omega)), fun _ => ?_⟩
      rw [nI_clamp (by omega), w10, w20, nI_1]
      have o1 : (1 : Int32) <<< (nI k &&& 31) = nI (2 ^ k) := shl_n k (by omega)
      have o2 : (1 : Int32) <<< (nI (k + 1) &&& 31) = nI (2 ^ (k + 1)) := shl_n (k + 1) (by omega)
      rw [o1, o2, nx_or, nx_or]
      have s1 : (if ¬ τ (10 + k) = 0 then (if a3 < -(τ (20 + k)) then nI (setN (dB τ a3) k) else nI (setN (dB τ a3) k ||| 2 ^ k)) else nI (setN (dB τ a3) k)) = nI (setN (dB τ a3) (k + 1)) := by
        rw [setN]
        by_cases c : ¬ τ (10 + k) = 0
        · rw [if_pos c]
          by_cases d : a3 < -(τ (20 + k))
          · rw [if_pos d, if_neg (by unfold dB; rw [decide_eq_false (fun z => z.2 d)]; decide)]
          · rw [if_neg d, if_pos (by unfold dB; exact decide_eq_true ⟨c, d⟩)]
        · rw [if_neg c, if_neg (by unfold dB; rw [decide_eq_false (fun z => c z.1)]; decide)]
      have s2 : (if ¬ τ (10 + k) = 0 then (if a3 < τ (20 + k) then nI (setN (uB τ a3) (k + 1)) else nI (setN (uB τ a3) (k + 1) ||| 2 ^ (k + 1))) else nI (setN (uB τ a3) (k + 1))) = nI (setN (uB τ a3) (k + 1 + 1)) := by
        conv => rhs; rw [setN]
        by_cases c : ¬ τ (10 + k) = 0
        · rw [if_pos c]
          by_cases d : a3 < τ (20 + k)
          · rw [if_pos d, if_neg (by unfold uB; rw [decide_eq_false (fun z => z.2.2 (by rw [Nat.add_sub_cancel]; exact d))]; decide)]
          · rw [if_neg d, if_pos (by unfold uB; exact decide_eq_true ⟨by omega, by rw [Nat.add_sub_cancel]; exact c, by rw [Nat.add_sub_cancel]; exact d⟩)]
        · rw [if_neg c, if_neg (by unfold uB; rw [decide_eq_false (fun z => c (by have := z.2.1; rw [Nat.add_sub_cancel] at this; exact this))]; decide)]
      rw [s1, s2]
      exact ⟨vp_in_nI (by omega) (by omega), fun _ => ⟨vp_in_nI (by omega) (by omega), trivial⟩, fun _ => ⟨vp_in_nI (by omega) (by omega), trivial⟩, ih⟩
  refine sg_X4_addHour_0 hX ha1 rfl ⟨fun _ => ?_, fun z => absurd (by rw [et]; exact nI_lt (b := 100) ht (by omega)) z⟩
  have := L 0 (by omega)
  rw [show setN (uB τ a3) (0 + 1) = 0 by rw [setN, if_neg (by unfold uB; rw [decide_eq_false (fun z => absurd z.1 (by omega))]; decide)]; rfl] at this
  exact this
