set_option maxRecDepth 100000 in
set_option maxHeartbeats 4000000 in
theorem sg_X7_plan_0 {Z : CX × GX} {post : Int32 → AH → Prop} {h : AH}  (hX : OK Z RX7 cX7_plan 2 (some .int) 2 50) 
    (w : ((¬ (h.1 94 9) = 0 → (∃ PP : AH → Prop, CV yX7_beginReading cX7_beginReading 1 0 0 [.ref 94] h PP ∧ ∀ u : AH, PP u → EX Z 2 (QI Z post) 14 u [some (.ref 94), none] [])) ∧ ((h.1 94 9) = 0 → post (-100000003) h)))
    : EX Z 2 (QI Z post) 0 h [some (.ref 94), none] [] := by
  refine ex_aload_n hX dX7_plan_0 rfl rfl ?_
  refine ex_get hX (.int (h.1 94 9)) FL_7_161 rfl (fun _ => rfl) dX7_plan_1 ?_
  refine ex_ifne hX 10 dX7_plan_4 (by decide) (fun c1 => ?_) (fun c1 => ?_)
  · replace w := w.1 c1
    refine ex_aload_n hX dX7_plan_10 rfl rfl ?_
    obtain ⟨PP, pM, pK⟩ := w
    exact ex_callVv (ci := 7) (i := 94) (As := []) (st := []) hX pM CS_7_155 MS_X7_beginReading rfl rfl rfl (by decide) rfl (Nat.le_of_ble_eq_true rfl) dX7_plan_11 (fun u hp => pK u hp)
  · replace w := w.2 c1
    refine ex_ldc hX dX7_plan_7 KC_7_170 ?_
    exact ex_iret hX dX7_plan_9 rfl w

set_option maxRecDepth 100000 in
set_option maxHeartbeats 4000000 in
theorem sg_X7_plan_14 {Z : CX × GX} {post : Int32 → AH → Prop} {h : AH}  (hX : OK Z RX7 cX7_plan 2 (some .int) 2 50) 
    (w : EX Z 2 (QI Z post) 19 (hset h.1 94 15 0, h.2) [some (.ref 94), none] [])
    : EX Z 2 (QI Z post) 14 h [some (.ref 94), none] [] := by
  refine ex_aload_n hX dX7_plan_14 rfl rfl ?_
  refine ex_iconst (v := 0) hX dX7_plan_15 rfl ?_
  refine ex_put hX .int FL_7_171 tyX7 tyX7_ok nmX7 rfl rfl rfl rfl rfl (fun _ => (by decide : 15 < 33)) (fun _ => fs_7_15) dX7_plan_16 ?_
  exact w

set_option maxRecDepth 100000 in
set_option maxHeartbeats 4000000 in
theorem sg_X7_plan_19 {Z : CX × GX} {post : Int32 → AH → Prop} {h : AH}  (hX : OK Z RX7 cX7_plan 2 (some .int) 2 50) 
    (w : ((¬ (h.1 94 21) = 0 → (∀ u2 : AH, u2 = (hset h.1 94 17 0, h.2) → (((u2.1 94 21) ≤ 0 → EX Z 2 (QI Z post) 225 u2 [some (.ref 94), some (.int 0)] []) ∧ (¬ (u2.1 94 21) ≤ 0 → post ((-10) - (u2.1 94 21)) u2)))) ∧ ((h.1 94 21) = 0 → (∃ PP : Int32 → AH → Prop, CI yX7_here cX7_here 1 (some .int) 0 0 [.ref 94] h PP ∧ ∀ (r : Int32) (u : AH), PP r u → EX Z 2 (QI Z post) 30 u [some (.ref 94), none] (.int r :: [])))))
    : EX Z 2 (QI Z post) 19 h [some (.ref 94), none] [] := by
  refine ex_aload_n hX dX7_plan_19 rfl rfl ?_
  refine ex_get hX (.int (h.1 94 21)) FL_7_85 rfl (fun _ => rfl) dX7_plan_20 ?_
  refine ex_ifne hX 203 dX7_plan_23 (by decide) (fun c1 => ?_) (fun c1 => ?_)
  · replace w := w.1 c1
    refine ex_aload_n hX dX7_plan_203 rfl rfl ?_
    refine ex_iconst (v := 0) hX dX7_plan_204 rfl ?_
    refine ex_put hX .int FL_7_76 tyX7 tyX7_ok nmX7 rfl rfl rfl rfl rfl (fun _ => (by decide : 17 < 33)) (fun _ => fs_7_17) dX7_plan_205 ?_
    refine ex_nameH (fun u2 eu2 => ?_)
    replace w := w u2 eu2
    refine ex_aload_n hX dX7_plan_208 rfl rfl ?_
    refine ex_get hX (.int (u2.1 94 21)) FL_7_85 rfl (fun _ => rfl) dX7_plan_209 ?_
    refine ex_ifle hX 223 dX7_plan_212 (by decide) (fun c3 => ?_) (fun c3 => ?_)
    · replace w := w.1 c3
      refine ex_iconst (v := 0) hX dX7_plan_223 rfl ?_
      refine ex_istore_n (lv' := [some (.ref 94), some (.int 0)]) hX dX7_plan_224 rfl (by decide) rfl ?_
      exact w
    · replace w := w.2 c3
      refine ex_bipush (v := (-10)) hX dX7_plan_215 rfl ?_
      refine ex_aload_n hX dX7_plan_217 rfl rfl ?_
      refine ex_get hX (.int (u2.1 94 21)) FL_7_85 rfl (fun _ => rfl) dX7_plan_218 ?_
      refine ex_isub hX dX7_plan_221 ?_
      exact ex_iret hX dX7_plan_222 rfl w
  · replace w := w.2 c1
    refine ex_aload_n hX dX7_plan_26 rfl rfl ?_
    obtain ⟨PP, pM, pK⟩ := w
    exact ex_callIv (ci := 7) (i := 94) (As := []) (st := []) hX pM CS_7_88 MS_X7_here rfl rfl rfl (by decide) rfl (Nat.le_of_ble_eq_true rfl) dX7_plan_27 (fun r u hp => pK r u hp)

set_option maxRecDepth 100000 in
set_option maxHeartbeats 4000000 in
theorem sg_X7_plan_30 {Z : CX × GX} {post : Int32 → AH → Prop} {h : AH} {s0 : Int32} (hX : OK Z RX7 cX7_plan 2 (some .int) 2 50) 
    (w : ((s0 < 0 → (∀ u2 : AH, u2 = (hset h.1 94 17 0, h.2) → (((u2.1 94 21) ≤ 0 → EX Z 2 (QI Z post) 225 u2 [some (.ref 94), some (.int 0)] []) ∧ (¬ (u2.1 94 21) ≤ 0 → post ((-10) - (u2.1 94 21)) u2)))) ∧ (¬ s0 < 0 → (∃ PP : AH → Prop, CV yX7_takeWord cX7_takeWord 2 1 25 [.ref 94] h PP ∧ ∀ u : AH, PP u → EX Z 2 (QI Z post) 37 u [some (.ref 94), none] []))))
    : EX Z 2 (QI Z post) 30 h [some (.ref 94), none] [.int s0] := by
  refine ex_iflt hX 203 dX7_plan_30 (by decide) (fun c1 => ?_) (fun c1 => ?_)
  · replace w := w.1 c1
    refine ex_aload_n hX dX7_plan_203 rfl rfl ?_
    refine ex_iconst (v := 0) hX dX7_plan_204 rfl ?_
    refine ex_put hX .int FL_7_76 tyX7 tyX7_ok nmX7 rfl rfl rfl rfl rfl (fun _ => (by decide : 17 < 33)) (fun _ => fs_7_17) dX7_plan_205 ?_
    refine ex_nameH (fun u2 eu2 => ?_)
    replace w := w u2 eu2
    refine ex_aload_n hX dX7_plan_208 rfl rfl ?_
    refine ex_get hX (.int (u2.1 94 21)) FL_7_85 rfl (fun _ => rfl) dX7_plan_209 ?_
    refine ex_ifle hX 223 dX7_plan_212 (by decide) (fun c3 => ?_) (fun c3 => ?_)
    · replace w := w.1 c3
      refine ex_iconst (v := 0) hX dX7_plan_223 rfl ?_
      refine ex_istore_n (lv' := [some (.ref 94), some (.int 0)]) hX dX7_plan_224 rfl (by decide) rfl ?_
      exact w
    · replace w := w.2 c3
      refine ex_bipush (v := (-10)) hX dX7_plan_215 rfl ?_
      refine ex_aload_n hX dX7_plan_217 rfl rfl ?_
      refine ex_get hX (.int (u2.1 94 21)) FL_7_85 rfl (fun _ => rfl) dX7_plan_218 ?_
      refine ex_isub hX dX7_plan_221 ?_
      exact ex_iret hX dX7_plan_222 rfl w
  · replace w := w.2 c1
    refine ex_aload_n hX dX7_plan_33 rfl rfl ?_
    obtain ⟨PP, pM, pK⟩ := w
    exact ex_callVv (ci := 7) (i := 94) (As := []) (st := []) hX pM CS_7_132 MS_X7_takeWord rfl rfl rfl (by decide) rfl (Nat.le_of_ble_eq_true rfl) dX7_plan_34 (fun u hp => pK u hp)

set_option maxRecDepth 100000 in
set_option maxHeartbeats 4000000 in
theorem sg_X7_plan_37 {Z : CX × GX} {post : Int32 → AH → Prop} {h : AH}  (hX : OK Z RX7 cX7_plan 2 (some .int) 2 50) 
    (w : (∃ PP : Int32 → AH → Prop, CI yX7_isWord cX7_isWord 8 (some .boolean) 0 0 [.ref 94, .int 2, .int 97, .int 116, .int 0, .int 0] h PP ∧ ∀ (r : Int32) (u : AH), PP r u → EX Z 2 (QI Z post) 49 u [some (.ref 94), none] (.int r :: [.ref 94])))
    : EX Z 2 (QI Z post) 37 h [some (.ref 94), none] [] := by
  refine ex_aload_n hX dX7_plan_37 rfl rfl ?_
  refine ex_aload_n hX dX7_plan_38 rfl rfl ?_
  refine ex_iconst (v := 2) hX dX7_plan_39 rfl ?_
  refine ex_bipush (v := 97) hX dX7_plan_40 rfl ?_
  refine ex_bipush (v := 116) hX dX7_plan_42 rfl ?_
  refine ex_iconst (v := 0) hX dX7_plan_44 rfl ?_
  refine ex_iconst (v := 0) hX dX7_plan_45 rfl ?_
  obtain ⟨PP, pM, pK⟩ := w
  exact ex_callIv (ci := 7) (i := 94) (As := [.int 2, .int 97, .int 116, .int 0, .int 0]) (st := [.ref 94]) hX pM CS_7_135 MS_X7_isWord rfl rfl rfl (by decide) rfl (Nat.le_of_ble_eq_true rfl) dX7_plan_46 (fun r u hp => pK r u hp)

set_option maxRecDepth 100000 in
set_option maxHeartbeats 4000000 in
theorem sg_X7_plan_49 {Z : CX × GX} {post : Int32 → AH → Prop} {h : AH} {s0 : Int32} (hX : OK Z RX7 cX7_plan 2 (some .int) 2 50) 
    (w : (∃ PP : Int32 → AH → Prop, CI yX7_want cX7_want 4 (some .boolean) 0 0 [.ref 94, .int s0, .int 1, .int (h.1 94 19)] h PP ∧ ∀ (r : Int32) (u : AH), PP r u → EX Z 2 (QI Z post) 57 u [some (.ref 94), none] (.int r :: [])))
    : EX Z 2 (QI Z post) 49 h [some (.ref 94), none] [.int s0, .ref 94] := by
  refine ex_iconst (v := 1) hX dX7_plan_49 rfl ?_
  refine ex_aload_n hX dX7_plan_50 rfl rfl ?_
  refine ex_get hX (.int (h.1 94 19)) FL_7_92 rfl (fun _ => rfl) dX7_plan_51 ?_
  obtain ⟨PP, pM, pK⟩ := w
  exact ex_callIv (ci := 7) (i := 94) (As := [.int s0, .int 1, .int (h.1 94 19)]) (st := []) hX pM CS_7_106 MS_X7_want rfl rfl rfl (by decide) rfl (Nat.le_of_ble_eq_true rfl) dX7_plan_54 (fun r u hp => pK r u hp)

set_option maxRecDepth 100000 in
set_option maxHeartbeats 4000000 in
theorem sg_X7_plan_57 {Z : CX × GX} {post : Int32 → AH → Prop} {h : AH} {s0 : Int32} (hX : OK Z RX7 cX7_plan 2 (some .int) 2 50) 
    (w : ((s0 = 0 → (∃ PP : AH → Prop, CV yX7_takeEnd cX7_takeEnd 1 1 23 [.ref 94] h PP ∧ ∀ u : AH, PP u → EX Z 2 (QI Z post) 200 u [some (.ref 94), none] [])) ∧ (¬ s0 = 0 → (∃ PP : Int32 → AH → Prop, CI yX7_want cX7_want 4 (some .boolean) 0 0 [.ref 94, .int (bI (¬ (30 ≤ (h.1 94 15)))), .int 3, .int (h.1 94 19)] h PP ∧ ∀ (r : Int32) (u : AH), PP r u → EX Z 2 (QI Z post) 83 u [some (.ref 94), none] (.int r :: [])))))
    : EX Z 2 (QI Z post) 57 h [some (.ref 94), none] [.int s0] := by
  refine ex_ifeq hX 196 dX7_plan_57 (by decide) (fun c1 => ?_) (fun c1 => ?_)
  · replace w := w.1 c1
    refine ex_aload_n hX dX7_plan_196 rfl rfl ?_
    obtain ⟨PP, pM, pK⟩ := w
    exact ex_callVv (ci := 7) (i := 94) (As := []) (st := []) hX pM CS_7_152 MS_X7_takeEnd rfl rfl rfl (by decide) rfl (Nat.le_of_ble_eq_true rfl) dX7_plan_197 (fun u hp => pK u hp)
  · replace w := w.2 c1
    refine ex_aload_n hX dX7_plan_60 rfl rfl ?_
    refine ex_aload_n hX dX7_plan_61 rfl rfl ?_
    refine ex_get hX (.int (h.1 94 15)) FL_7_171 rfl (fun _ => rfl) dX7_plan_62 ?_
    refine ex_bipush (v := 30) hX dX7_plan_65 rfl ?_
    have kc2 : EX Z 2 (QI Z post) 75 h [some (.ref 94), none] [.int (bI (¬ (30 ≤ (h.1 94 15)))), .ref 94] := by
      refine ex_iconst (v := 3) hX dX7_plan_75 rfl ?_
      refine ex_aload_n hX dX7_plan_76 rfl rfl ?_
      refine ex_get hX (.int (h.1 94 19)) FL_7_92 rfl (fun _ => rfl) dX7_plan_77 ?_
      obtain ⟨PP, pM, pK⟩ := w
      exact ex_callIv (ci := 7) (i := 94) (As := [.int (bI (¬ (30 ≤ (h.1 94 15)))), .int 3, .int (h.1 94 19)]) (st := []) hX pM CS_7_106 MS_X7_want rfl rfl rfl (by decide) rfl (Nat.le_of_ble_eq_true rfl) dX7_plan_80 (fun r u hp => pK r u hp)
    refine ex_icmpge hX 74 dX7_plan_67 (by decide) (fun c2 => ?_) (fun c2 => ?_)
    · refine ex_iconst (v := 0) hX dX7_plan_74 rfl ?_
      rw [show (bI (¬ (30 ≤ (h.1 94 15)))) = 0 from bI_f (fun z => z c2)] at kc2
      exact ex_forget [some (.ref 94), none] ⟨rfl, trivial⟩ kc2
    · refine ex_iconst (v := 1) hX dX7_plan_70 rfl ?_
      refine ex_goto hX 75 dX7_plan_71 (by decide) ?_
      rw [show (bI (¬ (30 ≤ (h.1 94 15)))) = 1 from bI_t c2] at kc2
      exact ex_forget [some (.ref 94), none] ⟨rfl, trivial⟩ kc2

set_option maxRecDepth 100000 in
set_option maxHeartbeats 4000000 in
theorem sg_X7_plan_83 {Z : CX × GX} {post : Int32 → AH → Prop} {h : AH} {s0 : Int32} (hX : OK Z RX7 cX7_plan 2 (some .int) 2 50) 
    (w : ((s0 = 0 → (∃ PP : AH → Prop, CV yX7_takeEnd cX7_takeEnd 1 1 23 [.ref 94] h PP ∧ ∀ u : AH, PP u → EX Z 2 (QI Z post) 200 u [some (.ref 94), none] [])) ∧ (¬ s0 = 0 → (∃ PP : Int32 → AH → Prop, CI yX7_takeNumber cX7_takeNumber 6 (some .int) 1 25 [.ref 94, .int 0, .int 999] h PP ∧ ∀ (r : Int32) (u : AH), PP r u → EX Z 2 (QI Z post) 107 u [some (.ref 94), some (.int (30 + (h.1 94 15)))] (.int r :: [.int (30 + (h.1 94 15)), .ref 104])))))
    : EX Z 2 (QI Z post) 83 h [some (.ref 94), none] [.int s0] := by
  refine ex_ifeq hX 196 dX7_plan_83 (by decide) (fun c1 => ?_) (fun c1 => ?_)
  · replace w := w.1 c1
    refine ex_aload_n hX dX7_plan_196 rfl rfl ?_
    obtain ⟨PP, pM, pK⟩ := w
    exact ex_callVv (ci := 7) (i := 94) (As := []) (st := []) hX pM CS_7_152 MS_X7_takeEnd rfl rfl rfl (by decide) rfl (Nat.le_of_ble_eq_true rfl) dX7_plan_197 (fun u hp => pK u hp)
  · replace w := w.2 c1
    refine ex_bipush (v := 30) hX dX7_plan_86 rfl ?_
    refine ex_aload_n hX dX7_plan_88 rfl rfl ?_
    refine ex_get hX (.int (h.1 94 15)) FL_7_171 rfl (fun _ => rfl) dX7_plan_89 ?_
    refine ex_iadd hX dX7_plan_92 ?_
    refine ex_istore_n (lv' := [some (.ref 94), some (.int (30 + (h.1 94 15)))]) hX dX7_plan_93 rfl (by decide) rfl ?_
    refine ex_aload_n hX dX7_plan_94 rfl rfl ?_
    refine ex_get hX (.ref 104) FL_7_38 rfl (fun _ => rfl) dX7_plan_95 ?_
    refine ex_iload_n hX dX7_plan_98 rfl rfl ?_
    refine ex_aload_n hX dX7_plan_99 rfl rfl ?_
    refine ex_iconst (v := 0) hX dX7_plan_100 rfl ?_
    refine ex_sipush (v := 999) hX dX7_plan_101 rfl ?_
    obtain ⟨PP, pM, pK⟩ := w
    exact ex_callIv (ci := 7) (i := 94) (As := [.int 0, .int 999]) (st := [.int (30 + (h.1 94 15)), .ref 104]) hX pM CS_7_114 MS_X7_takeNumber rfl rfl rfl (by decide) rfl (Nat.le_of_ble_eq_true rfl) dX7_plan_104 (fun r u hp => pK r u hp)

set_option maxRecDepth 100000 in
set_option maxHeartbeats 4000000 in
theorem sg_X7_plan_107 {Z : CX × GX} {post : Int32 → AH → Prop} {h : AH} {x1 : Int32} {s0 : Int32} {s1 : Int32} {s2 ns2 : Nat} (hX : OK Z RX7 cX7_plan 2 (some .int) 2 50) (as2 : ac s2 = some (0, ns2))
    (w : (vp_in s1 ns2) ∧ (∀ u2 : AH, u2 = (hset h.1 s2 (Int32.toNatClampNeg s1) s0, h.2) → ((¬ (u2.1 94 21) = 0 → (∃ PP : AH → Prop, CV yX7_takeEnd cX7_takeEnd 1 1 23 [.ref 94] u2 PP ∧ ∀ u : AH, PP u → EX Z 2 (QI Z post) 200 u [some (.ref 94), none] [])) ∧ ((u2.1 94 21) = 0 → ((¬ (u2.1 94 15) = 0 → (vp_in x1 60) ∧ (vp_in (x1 - 1) 60) ∧ True) ∧ (∀ v8 : Int32, v8 = (if (u2.1 94 15) = 0 then (1 : Int32) else (bI (¬ ((u2.1 104 (Int32.toNatClampNeg x1)) < (u2.1 104 (Int32.toNatClampNeg (x1 - 1))))))) → (∃ PP : Int32 → AH → Prop, CI yX7_want cX7_want 4 (some .boolean) 0 0 [.ref 94, .int v8, .int 4, .int (u2.1 94 19)] u2 PP ∧ ∀ (r : Int32) (u : AH), PP r u → EX Z 2 (QI Z post) 153 u [some (.ref 94), some (.int x1)] (.int r :: []))))))))
    : EX Z 2 (QI Z post) 107 h [some (.ref 94), some (.int x1)] [.int s0, .int s1, .ref s2] := by
  obtain ⟨q1, w⟩ := w
  refine ex_iast hX as2 q1 dX7_plan_107 ?_
  refine ex_nameH (fun u2 eu2 => ?_)
  replace w := w u2 eu2
  refine ex_aload_n hX dX7_plan_108 rfl rfl ?_
  refine ex_get hX (.int (u2.1 94 21)) FL_7_85 rfl (fun _ => rfl) dX7_plan_109 ?_
  refine ex_ifne hX 196 dX7_plan_112 (by decide) (fun c3 => ?_) (fun c3 => ?_)
  · replace w := w.1 c3
    refine ex_aload_n hX dX7_plan_196 rfl rfl ?_
    obtain ⟨PP, pM, pK⟩ := w
    exact ex_callVv (ci := 7) (i := 94) (As := []) (st := []) hX pM CS_7_152 MS_X7_takeEnd rfl rfl rfl (by decide) rfl (Nat.le_of_ble_eq_true rfl) dX7_plan_197 (fun u hp => ex_forget [some (.ref 94), none] ⟨rfl, trivial⟩ (pK u hp))
  · replace w := w.2 c3
    refine ex_aload_n hX dX7_plan_115 rfl rfl ?_
    refine ex_aload_n hX dX7_plan_116 rfl rfl ?_
    refine ex_get hX (.int (u2.1 94 15)) FL_7_171 rfl (fun _ => rfl) dX7_plan_117 ?_
    obtain ⟨wbc4, w⟩ := w
    have kc4 : EX Z 2 (QI Z post) 145 u2 [some (.ref 94), some (.int x1)] [.int (if (u2.1 94 15) = 0 then (1 : Int32) else (bI (¬ ((u2.1 104 (Int32.toNatClampNeg x1)) < (u2.1 104 (Int32.toNatClampNeg (x1 - 1))))))), .ref 94] := by
      refine ex_nameI (fun v8 ev8 => ?_)
      replace w := w v8 ev8
      refine ex_iconst (v := 4) hX dX7_plan_145 rfl ?_
      refine ex_aload_n hX dX7_plan_146 rfl rfl ?_
      refine ex_get hX (.int (u2.1 94 19)) FL_7_92 rfl (fun _ => rfl) dX7_plan_147 ?_
      obtain ⟨PP, pM, pK⟩ := w
      exact ex_callIv (ci := 7) (i := 94) (As := [.int v8, .int 4, .int (u2.1 94 19)]) (st := []) hX pM CS_7_106 MS_X7_want rfl rfl rfl (by decide) rfl (Nat.le_of_ble_eq_true rfl) dX7_plan_150 (fun r u hp => pK r u hp)
    refine ex_ifeq hX 140 dX7_plan_120 (by decide) (fun c4 => ?_) (fun c4 => ?_)
    · refine ex_iconst (v := 1) hX dX7_plan_140 rfl ?_
      refine ex_goto hX 145 dX7_plan_141 (by decide) ?_
      rw [show (if (u2.1 94 15) = 0 then (1 : Int32) else (bI (¬ ((u2.1 104 (Int32.toNatClampNeg x1)) < (u2.1 104 (Int32.toNatClampNeg (x1 - 1))))))) = 1 from if_pos c4] at kc4
      exact ex_forget [some (.ref 94), some (.int x1)] ⟨rfl, ⟨rfl, trivial⟩⟩ kc4
    · replace w := wbc4 c4
      refine ex_aload_n hX dX7_plan_123 rfl rfl ?_
      refine ex_get hX (.ref 104) FL_7_38 rfl (fun _ => rfl) dX7_plan_124 ?_
      refine ex_iload_n hX dX7_plan_127 rfl rfl ?_
      obtain ⟨q5, w⟩ := w
      refine ex_iald hX rfl q5 dX7_plan_128 ?_
      refine ex_aload_n hX dX7_plan_129 rfl rfl ?_
      refine ex_get hX (.ref 104) FL_7_38 rfl (fun _ => rfl) dX7_plan_130 ?_
      refine ex_iload_n hX dX7_plan_133 rfl rfl ?_
      refine ex_iconst (v := 1) hX dX7_plan_134 rfl ?_
      refine ex_isub hX dX7_plan_135 ?_
      obtain ⟨q6, w⟩ := w
      refine ex_iald hX rfl q6 dX7_plan_136 ?_
      have kc7 : EX Z 2 (QI Z post) 145 u2 [some (.ref 94), some (.int x1)] [.int (bI (¬ ((u2.1 104 (Int32.toNatClampNeg x1)) < (u2.1 104 (Int32.toNatClampNeg (x1 - 1)))))), .ref 94] := by
        rw [show (if (u2.1 94 15) = 0 then (1 : Int32) else (bI (¬ ((u2.1 104 (Int32.toNatClampNeg x1)) < (u2.1 104 (Int32.toNatClampNeg (x1 - 1))))))) = (bI (¬ ((u2.1 104 (Int32.toNatClampNeg x1)) < (u2.1 104 (Int32.toNatClampNeg (x1 - 1)))))) from if_neg c4] at kc4
        exact ex_forget [some (.ref 94), some (.int x1)] ⟨rfl, ⟨rfl, trivial⟩⟩ kc4
      refine ex_icmplt hX 144 dX7_plan_137 (by decide) (fun c7 => ?_) (fun c7 => ?_)
      · refine ex_iconst (v := 0) hX dX7_plan_144 rfl ?_
        rw [show (bI (¬ ((u2.1 104 (Int32.toNatClampNeg x1)) < (u2.1 104 (Int32.toNatClampNeg (x1 - 1)))))) = 0 from bI_f (fun z => z c7)] at kc7
        exact ex_forget [some (.ref 94), some (.int x1)] ⟨rfl, ⟨rfl, trivial⟩⟩ kc7
      · refine ex_iconst (v := 1) hX dX7_plan_140 rfl ?_
        refine ex_goto hX 145 dX7_plan_141 (by decide) ?_
        rw [show (bI (¬ ((u2.1 104 (Int32.toNatClampNeg x1)) < (u2.1 104 (Int32.toNatClampNeg (x1 - 1)))))) = 1 from bI_t c7] at kc7
        exact ex_forget [some (.ref 94), some (.int x1)] ⟨rfl, ⟨rfl, trivial⟩⟩ kc7

set_option maxRecDepth 100000 in
set_option maxHeartbeats 4000000 in
theorem sg_X7_plan_153 {Z : CX × GX} {post : Int32 → AH → Prop} {h : AH} {x1 : Int32} {s0 : Int32} (hX : OK Z RX7 cX7_plan 2 (some .int) 2 50) 
    (w : ((s0 = 0 → (∃ PP : AH → Prop, CV yX7_takeEnd cX7_takeEnd 1 1 23 [.ref 94] h PP ∧ ∀ u : AH, PP u → EX Z 2 (QI Z post) 200 u [some (.ref 94), none] [])) ∧ (¬ s0 = 0 → (∃ PP : Int32 → AH → Prop, CI yX7_takeNumber cX7_takeNumber 6 (some .int) 1 25 [.ref 94, .int 0, .int ((h.1 94 9) - 2)] h PP ∧ ∀ (r : Int32) (u : AH), PP r u → EX Z 2 (QI Z post) 172 u [some (.ref 94), some (.int x1)] (.int r :: [.int x1, .ref 105])))))
    : EX Z 2 (QI Z post) 153 h [some (.ref 94), some (.int x1)] [.int s0] := by
  refine ex_ifeq hX 196 dX7_plan_153 (by decide) (fun c1 => ?_) (fun c1 => ?_)
  · replace w := w.1 c1
    refine ex_aload_n hX dX7_plan_196 rfl rfl ?_
    obtain ⟨PP, pM, pK⟩ := w
    exact ex_callVv (ci := 7) (i := 94) (As := []) (st := []) hX pM CS_7_152 MS_X7_takeEnd rfl rfl rfl (by decide) rfl (Nat.le_of_ble_eq_true rfl) dX7_plan_197 (fun u hp => ex_forget [some (.ref 94), none] ⟨rfl, trivial⟩ (pK u hp))
  · replace w := w.2 c1
    refine ex_aload_n hX dX7_plan_156 rfl rfl ?_
    refine ex_get hX (.ref 105) FL_7_41 rfl (fun _ => rfl) dX7_plan_157 ?_
    refine ex_iload_n hX dX7_plan_160 rfl rfl ?_
    refine ex_aload_n hX dX7_plan_161 rfl rfl ?_
    refine ex_iconst (v := 0) hX dX7_plan_162 rfl ?_
    refine ex_aload_n hX dX7_plan_163 rfl rfl ?_
    refine ex_get hX (.int (h.1 94 9)) FL_7_161 rfl (fun _ => rfl) dX7_plan_164 ?_
    refine ex_iconst (v := 2) hX dX7_plan_167 rfl ?_
    refine ex_isub hX dX7_plan_168 ?_
    obtain ⟨PP, pM, pK⟩ := w
    exact ex_callIv (ci := 7) (i := 94) (As := [.int 0, .int ((h.1 94 9) - 2)]) (st := [.int x1, .ref 105]) hX pM CS_7_114 MS_X7_takeNumber rfl rfl rfl (by decide) rfl (Nat.le_of_ble_eq_true rfl) dX7_plan_169 (fun r u hp => pK r u hp)

set_option maxRecDepth 100000 in
set_option maxHeartbeats 4000000 in
theorem sg_X7_plan_172 {Z : CX × GX} {post : Int32 → AH → Prop} {h : AH} {x1 : Int32} {s0 : Int32} {s1 : Int32} {s2 ns2 : Nat} (hX : OK Z RX7 cX7_plan 2 (some .int) 2 50) (as2 : ac s2 = some (0, ns2))
    (w : (vp_in s1 ns2) ∧ (∀ u2 : AH, u2 = (hset h.1 s2 (Int32.toNatClampNeg s1) s0, h.2) → (∃ PP : Int32 → AH → Prop, CI yX7_takeNumber cX7_takeNumber 6 (some .int) 1 25 [.ref 94, .int 0, .int 9] u2 PP ∧ ∀ (r : Int32) (u : AH), PP r u → EX Z 2 (QI Z post) 185 u [some (.ref 94), none] (.int r :: [.int x1, .ref 106]))))
    : EX Z 2 (QI Z post) 172 h [some (.ref 94), some (.int x1)] [.int s0, .int s1, .ref s2] := by
  obtain ⟨q1, w⟩ := w
  refine ex_iast hX as2 q1 dX7_plan_172 ?_
  refine ex_nameH (fun u2 eu2 => ?_)
  replace w := w u2 eu2
  refine ex_aload_n hX dX7_plan_173 rfl rfl ?_
  refine ex_get hX (.ref 106) FL_7_44 rfl (fun _ => rfl) dX7_plan_174 ?_
  refine ex_iload_n hX dX7_plan_177 rfl rfl ?_
  refine ex_aload_n hX dX7_plan_178 rfl rfl ?_
  refine ex_iconst (v := 0) hX dX7_plan_179 rfl ?_
  refine ex_bipush (v := 9) hX dX7_plan_180 rfl ?_
  obtain ⟨PP, pM, pK⟩ := w
  exact ex_callIv (ci := 7) (i := 94) (As := [.int 0, .int 9]) (st := [.int x1, .ref 106]) hX pM CS_7_114 MS_X7_takeNumber rfl rfl rfl (by decide) rfl (Nat.le_of_ble_eq_true rfl) dX7_plan_182 (fun r u hp => ex_forget [some (.ref 94), none] ⟨rfl, trivial⟩ (pK r u hp))

set_option maxRecDepth 100000 in
set_option maxHeartbeats 4000000 in
theorem sg_X7_plan_185 {Z : CX × GX} {post : Int32 → AH → Prop} {h : AH} {s0 : Int32} {s1 : Int32} {s2 ns2 : Nat} (hX : OK Z RX7 cX7_plan 2 (some .int) 2 50) (as2 : ac s2 = some (0, ns2))
    (w : (vp_in s1 ns2) ∧ (∀ u2 : AH, u2 = (hset h.1 s2 (Int32.toNatClampNeg s1) s0, h.2) → (∀ u3 : AH, u3 = (hset u2.1 94 15 ((u2.1 94 15) + 1), u2.2) → (∃ PP : AH → Prop, CV yX7_takeEnd cX7_takeEnd 1 1 23 [.ref 94] u3 PP ∧ ∀ u : AH, PP u → EX Z 2 (QI Z post) 200 u [some (.ref 94), none] []))))
    : EX Z 2 (QI Z post) 185 h [some (.ref 94), none] [.int s0, .int s1, .ref s2] := by
  obtain ⟨q1, w⟩ := w
  refine ex_iast hX as2 q1 dX7_plan_185 ?_
  refine ex_nameH (fun u2 eu2 => ?_)
  replace w := w u2 eu2
  refine ex_aload_n hX dX7_plan_186 rfl rfl ?_
  refine ex_dup hX dX7_plan_187 rfl ?_
  refine ex_get hX (.int (u2.1 94 15)) FL_7_171 rfl (fun _ => rfl) dX7_plan_188 ?_
  refine ex_iconst (v := 1) hX dX7_plan_191 rfl ?_
  refine ex_iadd hX dX7_plan_192 ?_
  refine ex_put hX .int FL_7_171 tyX7 tyX7_ok nmX7 rfl rfl rfl rfl rfl (fun _ => (by decide : 15 < 33)) (fun _ => fs_7_15) dX7_plan_193 ?_
  refine ex_nameH (fun u3 eu3 => ?_)
  replace w := w u3 eu3
  refine ex_aload_n hX dX7_plan_196 rfl rfl ?_
  obtain ⟨PP, pM, pK⟩ := w
  exact ex_callVv (ci := 7) (i := 94) (As := []) (st := []) hX pM CS_7_152 MS_X7_takeEnd rfl rfl rfl (by decide) rfl (Nat.le_of_ble_eq_true rfl) dX7_plan_197 (fun u hp => pK u hp)

set_option maxRecDepth 100000 in
set_option maxHeartbeats 4000000 in
theorem sg_X7_plan_200 {Z : CX × GX} {post : Int32 → AH → Prop} {h : AH}  (hX : OK Z RX7 cX7_plan 2 (some .int) 2 50) 
    (w : EX Z 2 (QI Z post) 19 h [some (.ref 94), none] [])
    : EX Z 2 (QI Z post) 200 h [some (.ref 94), none] [] := by
  refine ex_goto hX 19 dX7_plan_200 (by decide) ?_
  exact w

set_option maxRecDepth 100000 in
set_option maxHeartbeats 4000000 in
theorem sg_X7_plan_225 {Z : CX × GX} {post : Int32 → AH → Prop} {h : AH} {x1 : Int32} (hX : OK Z RX7 cX7_plan 2 (some .int) 2 50) 
    (w : (((h.1 94 15) ≤ x1 → (∀ u2 : AH, u2 = (hset h.1 94 14 (h.1 94 15), h.2) → post (u2.1 94 14) u2)) ∧ (¬ (h.1 94 15) ≤ x1 → (vp_in (30 + x1) 60) ∧ (vp_in x1 60) ∧ (∀ u5 : AH, u5 = (hset h.1 104 (Int32.toNatClampNeg x1) (h.1 104 (Int32.toNatClampNeg (30 + x1))), h.2) → (vp_in (30 + x1) 60) ∧ (vp_in x1 60) ∧ (∀ u8 : AH, u8 = (hset u5.1 105 (Int32.toNatClampNeg x1) (u5.1 105 (Int32.toNatClampNeg (30 + x1))), u5.2) → (vp_in (30 + x1) 60) ∧ (vp_in x1 60) ∧ (∀ u11 : AH, u11 = (hset u8.1 106 (Int32.toNatClampNeg x1) (u8.1 106 (Int32.toNatClampNeg (30 + x1))), u8.2) → EX Z 2 (QI Z post) 225 u11 [some (.ref 94), some (.int (x1 + 1))] []))))))
    : EX Z 2 (QI Z post) 225 h [some (.ref 94), some (.int x1)] [] := by
  refine ex_iload_n hX dX7_plan_225 rfl rfl ?_
  refine ex_aload_n hX dX7_plan_226 rfl rfl ?_
  refine ex_get hX (.int (h.1 94 15)) FL_7_171 rfl (fun _ => rfl) dX7_plan_227 ?_
  refine ex_icmpge hX 284 dX7_plan_230 (by decide) (fun c1 => ?_) (fun c1 => ?_)
  · replace w := w.1 c1
    refine ex_aload_n hX dX7_plan_284 rfl rfl ?_
    refine ex_aload_n hX dX7_plan_285 rfl rfl ?_
    refine ex_get hX (.int (h.1 94 15)) FL_7_171 rfl (fun _ => rfl) dX7_plan_286 ?_
    refine ex_put hX .int FL_7_164 tyX7 tyX7_ok nmX7 rfl rfl rfl rfl rfl (fun _ => (by decide : 14 < 33)) (fun _ => fs_7_14) dX7_plan_289 ?_
    refine ex_nameH (fun u2 eu2 => ?_)
    replace w := w u2 eu2
    refine ex_aload_n hX dX7_plan_292 rfl rfl ?_
    refine ex_get hX (.int (u2.1 94 14)) FL_7_164 rfl (fun _ => rfl) dX7_plan_293 ?_
    exact ex_iret hX dX7_plan_296 rfl w
  · replace w := w.2 c1
    refine ex_aload_n hX dX7_plan_233 rfl rfl ?_
    refine ex_get hX (.ref 104) FL_7_38 rfl (fun _ => rfl) dX7_plan_234 ?_
    refine ex_iload_n hX dX7_plan_237 rfl rfl ?_
    refine ex_aload_n hX dX7_plan_238 rfl rfl ?_
    refine ex_get hX (.ref 104) FL_7_38 rfl (fun _ => rfl) dX7_plan_239 ?_
    refine ex_bipush (v := 30) hX dX7_plan_242 rfl ?_
    refine ex_iload_n hX dX7_plan_244 rfl rfl ?_
    refine ex_iadd hX dX7_plan_245 ?_
    obtain ⟨q3, w⟩ := w
    refine ex_iald hX rfl q3 dX7_plan_246 ?_
    obtain ⟨q4, w⟩ := w
    refine ex_iast hX rfl q4 dX7_plan_247 ?_
    refine ex_nameH (fun u5 eu5 => ?_)
    replace w := w u5 eu5
    refine ex_aload_n hX dX7_plan_248 rfl rfl ?_
    refine ex_get hX (.ref 105) FL_7_41 rfl (fun _ => rfl) dX7_plan_249 ?_
    refine ex_iload_n hX dX7_plan_252 rfl rfl ?_
    refine ex_aload_n hX dX7_plan_253 rfl rfl ?_
    refine ex_get hX (.ref 105) FL_7_41 rfl (fun _ => rfl) dX7_plan_254 ?_
    refine ex_bipush (v := 30) hX dX7_plan_257 rfl ?_
    refine ex_iload_n hX dX7_plan_259 rfl rfl ?_
    refine ex_iadd hX dX7_plan_260 ?_
    obtain ⟨q6, w⟩ := w
    refine ex_iald hX rfl q6 dX7_plan_261 ?_
    obtain ⟨q7, w⟩ := w
    refine ex_iast hX rfl q7 dX7_plan_262 ?_
    refine ex_nameH (fun u8 eu8 => ?_)
    replace w := w u8 eu8
    refine ex_aload_n hX dX7_plan_263 rfl rfl ?_
    refine ex_get hX (.ref 106) FL_7_44 rfl (fun _ => rfl) dX7_plan_264 ?_
    refine ex_iload_n hX dX7_plan_267 rfl rfl ?_
    refine ex_aload_n hX dX7_plan_268 rfl rfl ?_
    refine ex_get hX (.ref 106) FL_7_44 rfl (fun _ => rfl) dX7_plan_269 ?_
    refine ex_bipush (v := 30) hX dX7_plan_272 rfl ?_
    refine ex_iload_n hX dX7_plan_274 rfl rfl ?_
    refine ex_iadd hX dX7_plan_275 ?_
    obtain ⟨q9, w⟩ := w
    refine ex_iald hX rfl q9 dX7_plan_276 ?_
    obtain ⟨q10, w⟩ := w
    refine ex_iast hX rfl q10 dX7_plan_277 ?_
    refine ex_nameH (fun u11 eu11 => ?_)
    replace w := w u11 eu11
    refine ex_iinc (v := x1 + 1) (lv' := [some (.ref 94), some (.int (x1 + 1))]) hX dX7_plan_278 rfl rfl (by decide) rfl ?_
    refine ex_goto hX 225 dX7_plan_281 (by decide) ?_
    exact w

def RPd (d : Nat → Nat) (u : AH) : Prop := u.1 94 15 = nI (d 0) ∧ ∀ k, k < d 0 → u.1 104 (30 + k) = nI (d (100 + k)) ∧ u.1 105 (30 + k) = nI (d (200 + k)) ∧ u.1 106 (30 + k) = nI (d (300 + k))
theorem RPd.fr {d : Nat → Nat} {h u : AH} (a : RPd d h) (f : FRt h u) : RPd d u := by
  unfold RPd
  rw [f.2.2 15 (by omega), f.2.1 104 (by omega), f.2.1 105 (by omega), f.2.1 106 (by omega)]
  exact a
theorem ord4_f {T : Nat → Nat} {L g l : Nat} {c : Cur} (h : ¬ (ordF T L l c).1 = 0) : ord4 T L g l c = ordF T L l c := by
  have e2 : ord2 T L g l c = (ordF T L l c, 0, 0) := num_f h
  have e3 : ord3 T L g l c = (ordF T L l c, 0, 0) := by rw [ord3, e2]; exact num_f h
  rw [ord4, e3]
  exact sign_f h
theorem ordF_f {T : Nat → Nat} {L l : Nat} {c : Cur} (h : ¬ (ord1 T L c).1.1 = 0) : ordF T L l c = (ord1 T L c).1 := by
  rw [ordF, findC, if_neg h]
  split <;> rfl
theorem ordR_f {T : Nat → Nat} {L g : Nat} {c : Cur} {d : Nat → Nat} (h : ¬ c.1 = 0) : (ordR T L g c d).1 = c := by
  have e1 : ord1 T L c = (c, 0, 0) := num_f h
  have n1 : ¬ (ord1 T L c).1.1 = 0 := by rw [e1]; exact h
  have eF : ordF T L (latS d) c = c := by rw [ordF_f n1, e1]
  show ord4 T L g (latS d) c = c
  rw [ord4_f (by rw [eF]; exact h), eF]
def RPm (R : Cur × (Nat → Nat)) (h : AH) (r : Int32) (u : AH) : Prop := u.2 = h.2 ∧ u.1 94 17 = 0 ∧ (∀ i k, ¬ chM i k → ¬ (i = 94 ∧ (k = 17 ∨ k = 14)) → ¬ (i = 104 ∨ i = 105 ∨ i = 106) → u.1 i k = h.1 i k) ∧ (¬ R.1.1 = 0 → r = (-10) - nI R.1.1 ∧ u.1 94 22 = nI R.1.2.1 ∧ u.1 94 14 = h.1 94 14 ∧ ∀ i k, (i = 104 ∨ i = 105 ∨ i = 106) → k < 30 → u.1 i k = h.1 i k) ∧ (R.1.1 = 0 → r = nI (R.2 0) ∧ u.1 94 14 = nI (R.2 0) ∧ u.1 94 22 = -1 ∧ ∀ k, k < R.2 0 → u.1 104 k = nI (R.2 (100 + k)) ∧ u.1 105 k = nI (R.2 (200 + k)) ∧ u.1 106 k = nI (R.2 (300 + k)))

set_option maxRecDepth 100000 in
set_option maxHeartbeats 4000000 in
theorem c_X7_plan {h : AH}   {T : Nat → Nat} {L nn : Nat} (hT : TXm T L h) (h9 : h.1 94 9 = nI nn) (hn : nn = 0 ∨ 2 ≤ nn ∧ nn ≤ 10) : CI yX7_plan cX7_plan 2 (some .int) 2 50 [.ref 94] h (fun r u => (nn = 0 → r = -100000003 ∧ u = h) ∧ (¬ nn = 0 → RPm (plansS T L (nn - 1) 31 (0, 0, 0) (fun _ => 0)) h r u)) := by
  refine CI.of [some (.ref 94), none] (by decide +kernel) rfl (Nat.le_of_ble_eq_true rfl) rfl (fun Z hX => ?_)
  have hL := hT.1
  by_cases n0 : nn = 0
  · refine sg_X7_plan_0 hX ⟨fun z => absurd (by rw [h9, n0]; rfl) z, fun _ => ⟨fun _ => ⟨rfl, rfl⟩, fun y => absurd n0 y⟩⟩
  have hg : 1 ≤ nn - 1 ∧ nn - 1 ≤ 9 := by omega
  have e1 : nn - 1 - 1 = nn - 2 := by omega
  generalize hgg : nn - 1 = g at *
  generalize hR : plansS T L g 31 (0, 0, 0) (fun _ => 0) = R
  generalize hpost : (fun (r : Int32) (u : AH) => (nn = 0 → r = -100000003 ∧ u = h) ∧ (¬ nn = 0 → RPm R h r u)) = post
  have PO : ∀ r u, RPm R h r u → post r u := fun r u a => by rw [← hpost]; exact ⟨fun z => absurd z n0, fun _ => a⟩
  have n1 : ¬ (1 : Nat) = 0 := by omega
  have n3 : ¬ (3 : Nat) = 0 := by omega
  have n4 : ¬ (4 : Nat) = 0 := by omega
  -- the plan is taken over
  have L225 : ∀ i, i ≤ R.2 0 → ∀ u : AH, R.1.1 = 0 → R.2 0 ≤ 30 → u.2 = h.2 → u.1 94 17 = 0 → u.1 94 22 = -1 → (∀ i k, ¬ chM i k → ¬ (i = 94 ∧ (k = 17 ∨ k = 14)) → ¬ (i = 104 ∨ i = 105 ∨ i = 106) → u.1 i k = h.1 i k) → RPd R.2 u → (∀ k, k < i → u.1 104 k = nI (R.2 (100 + k)) ∧ u.1 105 k = nI (R.2 (200 + k)) ∧ u.1 106 k = nI (R.2 (300 + k))) → EX Z 2 (QI Z post) 225 u [some (.ref 94), some (.int (nI i))] [] := by
    refine ldown _ ?_ ?_
    · intro u r0 r30 a b c d e f
      refine sg_X7_plan_225 hX ⟨fun _ u2 e2 => PO _ _ ?_, fun z => absurd (by rw [e.1]; exact nI_le (Nat.le_refl _) (by omega)) z⟩
      rw [e.1] at e2
      have o : ∀ i, i ≠ 94 → u2.1 i = u.1 i := fun i hi => by rw [e2, hs_o hi]
      refine ⟨by rw [e2]; exact a, by rw [e2, hs_i (by omega)]; exact b, fun i k h1 h2 h3 => ?_, fun z => absurd r0 z, fun _ => ⟨by rw [e2, hs_s], by rw [e2, hs_s], by rw [e2, hs_i (by omega)]; exact c, ?_⟩⟩
      · rw [e2]
        show hset u.1 94 14 _ i k = _
        rw [hset_at (fun y => h2 ⟨y.1, Or.inr y.2⟩)]
        exact d i k h1 h2 h3
      · rw [o 104 (by omega), o 105 (by omega), o 106 (by omega)]; exact f
    · intro i hi ih u r0 r30 a b c d e f
      have v60 : vp_in (30 + nI i) 60 := by rw [k_30, nI_add]; exact vp_in_nI (by omega) (by omega)
      have cl : Int32.toNatClampNeg (30 + nI i) = 30 + i := by rw [k_30, nI_add, nI_clamp (by omega)]
      refine sg_X7_plan_225 hX ⟨fun z => absurd z (by rw [e.1]; exact nI_ge hi (by omega)), fun _ => ⟨v60, vp_in_nI (by omega) (by omega), fun u5 e5 => ⟨v60, vp_in_nI (by omega) (by omega), fun u8 e8 => ⟨v60, vp_in_nI (by omega) (by omega), fun u11 e11 => ?_⟩⟩⟩⟩
      rw [cl, nI_clamp (by omega)] at e5 e8 e11
      rw [nI_1]
      have o : ∀ j, j ≠ 104 → j ≠ 105 → j ≠ 106 → u11.1 j = u.1 j := fun j h1 h2 h3 => by rw [e11, hs_o h3, e8, hs_o h2, e5, hs_o h1]
      have s4 : ∀ k, k ≠ i → u11.1 104 k = u.1 104 k := fun k hk => by rw [e11, hs_o (by omega), e8, hs_o (by omega), e5, hs_i hk]
      have s5 : ∀ k, k ≠ i → u11.1 105 k = u.1 105 k := fun k hk => by rw [e11, hs_o (by omega), e8, hs_i hk, e5, hs_o (by omega)]
      have s6 : ∀ k, k ≠ i → u11.1 106 k = u.1 106 k := fun k hk => by rw [e11, hs_i hk, e8, hs_o (by omega), e5, hs_o (by omega)]
      have o94 := o 94 (by omega) (by omega) (by omega)
      refine ih u11 r0 r30 (by rw [e11, e8, e5]; exact a) (by rw [o94]; exact b) (by rw [o94]; exact c) (fun j k h1 h2 h3 => by rw [o j (by omega) (by omega) (by omega)]; exact d j k h1 h2 h3) ⟨by rw [o94]; exact e.1, fun k hk => by rw [s4 _ (by omega), s5 _ (by omega), s6 _ (by omega)]; exact e.2 k hk⟩ (fun k hk => ?_)
      obtain ⟨q1, q2, q3⟩ := e.2 i hi
      by_cases z : k = i
      · subst z
        refine ⟨?_, ?_, ?_⟩
        · rw [e11, hs_o (by omega), e8, hs_o (by omega), e5, hs_s]; exact q1
        · rw [e11, hs_o (by omega), e8, hs_s, e5, hs_o (by omega)]; exact q2
        · rw [e11, hs_s, e8, hs_o (by omega), e5, hs_o (by omega)]; exact q3
      · rw [s4 k z, s5 k z, s6 k z]; exact f k (by omega)
  -- the end of the text
  have TL : ∀ u : AH, FRm h u → u.1 94 21 = nI R.1.1 → R.1.1 ≤ 4 → (¬ R.1.1 = 0 → u.1 94 22 = nI R.1.2.1) → (R.1.1 = 0 → u.1 94 22 = -1 ∧ RPd R.2 u ∧ WFo g R.2) → (∀ u2 : AH, u2 = (hset u.1 94 17 0, u.2) → (((u2.1 94 21) ≤ 0 → EX Z 2 (QI Z post) 225 u2 [some (.ref 94), some (.int 0)] []) ∧ (¬ (u2.1 94 21) ≤ 0 → post ((-10) - (u2.1 94 21)) u2))) := by
    intro u f e21 r4 e22 ok u2 e2
    have k2 : ∀ k, k ≠ 17 → u2.1 94 k = u.1 94 k := fun k hk => by rw [e2, hs_i hk]
    have o : ∀ i, i ≠ 94 → u2.1 i = u.1 i := fun i hi => by rw [e2, hs_o hi]
    have fr : ∀ i k, ¬ chM i k → ¬ (i = 94 ∧ k = 17) → u2.1 i k = h.1 i k := fun i k h1 h2 => by
      rw [e2]
      show hset u.1 94 17 0 i k = _
      rw [hset_at h2]
      exact f.2 i k h1
    rw [k2 21 (by omega), e21, k_0, nI_leI (by omega) (by omega), ← k_0]
    refine ⟨fun z => ?_, fun z => PO _ _ ?_⟩
    · have r0 : R.1.1 = 0 := by omega
      obtain ⟨o22, oR, oW⟩ := ok r0
      refine L225 0 (Nat.zero_le _) u2 r0 oW.1 (by rw [e2]; exact f.1) (by rw [e2, hs_s]) (by rw [k2 22 (by omega)]; exact o22) (fun i k h1 h2 h3 => fr i k h1 (fun y => h2 ⟨y.1, Or.inl y.2⟩)) ?_ (fun k hk => absurd hk (by omega))
      unfold RPd
      rw [k2 15 (by omega), o 104 (by omega), o 105 (by omega), o 106 (by omega)]
      exact oR
    · have r0 : ¬ R.1.1 = 0 := by omega
      exact ⟨by rw [e2]; exact f.1, by rw [e2, hs_s], fun i k h1 h2 h3 => fr i k h1 (fun y => h2 ⟨y.1, Or.inl y.2⟩), fun _ => ⟨rfl, by rw [k2 22 (by omega)]; exact e22 r0, fr 94 14 (by unfold chM; omega) (by omega), fun i k h1 h2 => fr i k (by unfold chM; omega) (by omega)⟩, fun y => absurd y r0⟩
  -- order by order
  have LP : ∀ m i, i + m = 31 → ∀ (c : Cur) (d : Nat → Nat) (u : AH), FRm h u → CM T L u c → (c.1 = 0 → RPd d u ∧ WFo g d ∧ d 0 = i) → plansS T L g m c d = R → EX Z 2 (QI Z post) 19 u [some (.ref 94), none] [] := by
    intro m
    induction m with
    | zero =>
      intro i hi c d u f cu r eR
      have eR : (c, d) = R := eR
      have c0 : ¬ c.1 = 0 := fun y => by
        have a := (r y).2.1.1
        have b := (r y).2.2
        omega
      refine sg_X7_plan_19 hX ⟨fun _ => TL u f ?_ ?_ ?_ ?_, fun z => absurd ((CM_f cu).mp z) c0⟩ <;> rw [← eR]
      · exact cu.1
      · exact cu.2.1
      · exact fun y => (cu.2.2.1 y).2
      · exact fun y => absurd y c0
    | succ m ih =>
      intro i hi c d u f cu r eR
      refine sg_X7_plan_19 hX ⟨fun z => ?_, fun z => ?_⟩
      · have c0 : ¬ c.1 = 0 := fun y => z ((CM_f cu).mpr y)
        rw [plansS, if_neg (fun y => c0 y.1)] at eR
        refine TL u f ?_ ?_ ?_ ?_ <;> rw [← eR]
        · exact cu.1
        · exact cu.2.1
        · exact fun y => (cu.2.2.1 y).2
        · exact fun y => absurd y c0
      · have c0 := (CM_f cu).mp z
        obtain ⟨rd, wd, di⟩ := r c0
        obtain ⟨cp, c22, p0, hp0, e18, esp⟩ := cu.2.2.2 c0
        have hq := sp_le (T := T) cp
        have sp2 := sp_sp (T := T) cp
        refine ⟨_, c_X7_here (hT.fm f) hp0 e18, fun rr u1 p1 => ?_⟩
        obtain ⟨f1, o1, b1, er1⟩ := p1
        rw [esp] at b1 er1
        have F1 := f.tr (FRm.of f1)
        have m1 : CM T L u1 c := ⟨by rw [o1 21 (by omega)]; exact cu.1, cu.2.1, fun x => absurd c0 x, fun _ => ⟨cp, by rw [o1 22 (by omega)]; exact c22, _, hq.2, b1, sp2⟩⟩
        rw [plansS] at eR
        refine sg_X7_plan_30 hX ⟨fun y => ?_, fun y => ?_⟩
        · have ql : ¬ spN T L c.2.2 < L := fun x => by
            have := (hT.2.2 _ x).1
            rw [er1, if_pos x] at y
            exact absurd y (nI_pos (by omega))
          rw [if_neg (fun x => ql x.2)] at eR
          refine TL u1 F1 ?_ ?_ ?_ ?_ <;> rw [← eR]
          · exact m1.1
          · exact cu.2.1
          · exact fun y => absurd c0 y
          · exact fun _ => ⟨(m1.2.2.2 c0).2.1, rd.fr f1, wd⟩
        · have ql : spN T L c.2.2 < L := by
            by_cases x : spN T L c.2.2 < L
            · exact x
            · rw [er1, if_neg x] at y
              exact absurd (by decide) y
          rw [if_pos ⟨c0, ql⟩] at eR
          refine ⟨_, c_X7_takeWord (hT.fm F1) m1 c0, fun u2 p2 => ?_⟩
          obtain ⟨f2, s2, l2, -, m2⟩ := p2
          have F2 := F1.tr (FRm.of f2)
          have rd2 := (rd.fr f1).fr f2
          have hq := hq.2
          generalize spN T L c.2.2 = q at *
          -- an order ends
          have EN : ∀ (v : AH) (c2 : Cur), FRm h v → CM T L v c2 → signC T L 59 c2 = (orderS T L g q d).1 → ((orderS T L g q d).1.1 = 0 → RPd (orderS T L g q d).2 v) → ∃ PP : AH → Prop, CV yX7_takeEnd cX7_takeEnd 1 1 23 [.ref 94] v PP ∧ ∀ u : AH, PP u → EX Z 2 (QI Z post) 200 u [some (.ref 94), none] [] := by
            intro v c2 fv mv e g2
            refine ⟨_, c_X7_takeEnd (hT.fm fv) mv, fun w hw => sg_X7_plan_200 hX ?_⟩
            refine ih (i + 1) (by omega) _ _ w (fv.tr (FRm.of hw.1)) (by rw [← e]; exact hw.2) (fun x => ?_) eR
            obtain ⟨-, -, -, -, o5, o6, -⟩ := order_ok hq hg.1 wd x
            exact ⟨(g2 x).fr hw.1, o5, by rw [o6, di]⟩
          refine sg_X7_plan_37 hX ⟨_, c_X7_isWord (i := 5) (by decide) (hT.fm F2) hq s2 l2 (by decide) (by decide) (by decide) (by decide) (by decide), fun rw_ v hv => ?_⟩
          rw [hv.2]
          have gd1 : rw_ = 0 ↔ ¬ isW T L q 5 = true := by rw [hv.1, bI_0]
          refine sg_X7_plan_49 hX ⟨_, c_X7_want (n := 1) (w := q) m2 (by omega) gd1 rfl (fun _ => ⟨hq, s2⟩), fun r3 u3 p3 => ?_⟩
          obtain ⟨f3, o3, m3, er3⟩ := p3
          have F3 := F2.tr (FRm.of f3)
          have rd3 := rd2.fr f3
          have s3 : u3.1 94 19 = nI q := by rw [o3 19 (by omega) (by omega)]; exact s2
          refine sg_X7_plan_57 hX ⟨fun x => ?_, fun x => ?_⟩
          · rw [er3, bI_0] at x
            by_cases w : isW T L q 5 = true
            · rw [if_pos w] at x; exact absurd rfl x
            · rw [if_neg w] at m3
              have m3 : CM T L u3 (1, q, 0) := m3
              have e0 : ord0 T L q d = (1, q, 0) := by rw [ord0, if_neg w]
              have eS : (orderS T L g q d).1 = (1, q, 0) := by rw [orderS, e0]; exact ordR_f n1
              exact EN u3 (1, q, 0) F3 m3 (by rw [sign_f n1, eS]) (fun y => by rw [eS] at y; exact absurd y n1)
          rw [er3, bI_n0] at x
          have w : isW T L q 5 = true := by
            by_cases w : isW T L q 5 = true
            · exact w
            · rw [if_neg w] at x; exact absurd x n1
          rw [if_pos w] at m3
          have w30 := wd.1
          have gd2 : (bI (¬ (30 ≤ (u3.1 94 15))) = 0) ↔ ¬ ¬ d 0 = 30 := by
            rw [bI_0, rd3.1, k_30]
            refine not_congr ?_
            rw [nI_leI (by omega) (by omega)]
            omega
          refine ⟨_, c_X7_want (n := 3) (w := q) m3 (by omega) gd2 rfl (fun _ => ⟨hq, s3⟩), fun r4 u4 p4 => ?_⟩
          obtain ⟨f4, o4, m4, er4⟩ := p4
          have F4 := F3.tr (FRm.of f4)
          have rd4 := rd3.fr f4
          refine sg_X7_plan_83 hX ⟨fun x => ?_, fun x => ?_⟩
          · rw [er4, bI_0] at x
            by_cases t : d 0 = 30
            · rw [if_neg (fun y => y t)] at m4
              have m4 : CM T L u4 (3, q, 0) := m4
              have e0 : ord0 T L q d = (3, q, 0) := by rw [ord0, if_pos w, if_pos t]
              have eS : (orderS T L g q d).1 = (3, q, 0) := by rw [orderS, e0]; exact ordR_f n3
              exact EN u4 (3, q, 0) F4 m4 (by rw [sign_f n3, eS]) (fun y => by rw [eS] at y; exact absurd y n3)
            · rw [if_pos t] at x; exact absurd rfl x
          rw [er4, bI_n0] at x
          have t : ¬ d 0 = 30 := fun t => by
            rw [if_neg (fun y => y t)] at x
            exact absurd x n3
          rw [if_pos t] at m4
          have e0 : ord0 T L q d = (0, 0, leN T L q) := by rw [ord0, if_pos w, if_neg t]
          have eS : orderS T L g q d = ordR T L g (0, 0, leN T L q) d := by rw [orderS, e0]
          rw [rd4.1, k_30, nI_add]
          refine ⟨_, c_X7_takeNumber (lo := 0) (hi := 999) (hT.fm F4) m4 (by omega) (by omega) rfl rfl, fun r5 u5 p5 => ?_⟩
          have F5 := F4.tr (FRm.of p5.1)
          have rd5 := rd4.fr p5.1
          have m5 : CM T L u5 (ord1 T L (0, 0, leN T L q)).1 := p5.2.1
          refine sg_X7_plan_107 hX (show ac 104 = some (0, 60) from rfl) ⟨vp_in_nI (by omega) (by omega), fun u6 e6 => ?_⟩
          rw [nI_clamp (by omega)] at e6
          have F6 := F5.set (i := 104) (k := 30 + d 0) (by unfold chM; omega) e6
          have o6 : ∀ k, u6.1 94 k = u5.1 94 k := fun k => by rw [e6, hs_o (by omega)]
          have m6 : CM T L u6 (ord1 T L (0, 0, leN T L q)).1 := m5.same (fun k _ => o6 k)
          refine ⟨fun y => ?_, fun y => ?_⟩
          · have nf : ¬ (ord1 T L (0, 0, leN T L q)).1.1 = 0 := fun x => y ((CM_f m6).mpr x)
            have eF := ordF_f (l := latS d) nf
            have e4 : (orderS T L g q d).1 = (ord1 T L (0, 0, leN T L q)).1 := by
              rw [eS]
              show ord4 T L g (latS d) (0, 0, leN T L q) = _
              rw [ord4_f (by rw [eF]; exact nf), eF]
            exact EN u6 _ F6 m6 (by rw [sign_f nf, e4]) (fun x => by rw [e4] at x; exact absurd x nf)
          have ok1 := (CM_f m6).mp y
          have b1 : (ord1 T L (0, 0, leN T L q)).2.1 ≤ 999 := (num_ok m4.pos ok1).2.1.2
          obtain ⟨x5, s5, ls5⟩ := p5.2.2 ok1
          have x5 : r5 = nI (ord1 T L (0, 0, leN T L q)).2.1 := x5
          have s5 : u5.1 94 19 = nI (ord1 T L (0, 0, leN T L q)).2.2 := s5
          have ls5 : (ord1 T L (0, 0, leN T L q)).2.2 ≤ L := ls5
          rw [x5] at e6
          have a15 : u6.1 94 15 = nI (d 0) := by rw [o6 15]; exact rd5.1
          have lat : ¬ d 0 = 0 → u6.1 104 (30 + d 0 - 1) = nI (latS d) := fun h0 => by
            rw [e6, hs_i (by omega), latS, if_neg h0, show 30 + d 0 - 1 = 30 + (d 0 - 1) by omega, show 100 + d 0 - 1 = 100 + (d 0 - 1) by omega]
            exact (rd5.2 (d 0 - 1) (by omega)).1
          have l9 := lat_le wd
          refine ⟨fun h0 => ⟨vp_in_nI (by omega) (by omega), ?_, trivial⟩, fun v8 g8 => ?_⟩
          · have h0 : ¬ d 0 = 0 := fun x => h0 (by rw [a15, x]; rfl)
            rw [k_1, pk_sub (by omega)]
            exact vp_in_nI (by omega) (by omega)
          have gd4 : v8 = 0 ↔ ¬ ¬ (ord1 T L (0, 0, leN T L q)).2.1 < latS d := by
            rw [g8]
            by_cases h0 : d 0 = 0
            · rw [if_pos (by rw [a15, h0]; rfl)]
              have : latS d = 0 := by rw [latS, if_pos h0]
              exact ⟨fun x => absurd x (by decide), fun x => absurd (by omega) x⟩
            · rw [if_neg (by rw [a15]; exact nI_ne0 (by omega) (by omega)), k_1, pk_sub (by omega), nI_clamp (by omega), nI_clamp (by omega), lat h0, bI_0]
              refine not_congr (not_congr ?_)
              rw [e6, hs_s, nI_ltI (by omega) (by omega)]
          have s6 : u6.1 94 19 = nI (ord1 T L (0, 0, leN T L q)).2.2 := by rw [o6 19]; exact s5
          refine ⟨_, c_X7_want (n := 4) (w := (ord1 T L (0, 0, leN T L q)).2.2) m6 (by omega) gd4 rfl (fun _ => ⟨ls5, s6⟩), fun r7 u7 p7 => ?_⟩
          obtain ⟨f7, o7, m7, er7⟩ := p7
          have F7 := F6.tr (FRm.of f7)
          have eF : (if ¬ (ord1 T L (0, 0, leN T L q)).2.1 < latS d then (ord1 T L (0, 0, leN T L q)).1 else findC 4 (ord1 T L (0, 0, leN T L q)).2.2 (ord1 T L (0, 0, leN T L q)).1) = ordF T L (latS d) (0, 0, leN T L q) := by
            unfold ordF
            by_cases b : (ord1 T L (0, 0, leN T L q)).2.1 < latS d
            · rw [if_neg (fun x => x b), if_pos b]
            · rw [if_pos b, if_neg b]
          rw [eF] at m7 er7
          refine sg_X7_plan_153 hX ⟨fun x => ?_, fun x => ?_⟩
          · rw [er7, bI_0] at x
            have e4 : (orderS T L g q d).1 = ordF T L (latS d) (0, 0, leN T L q) := by
              rw [eS]
              exact ord4_f x
            exact EN u7 _ F7 m7 (by rw [sign_f x, e4]) (fun y => by rw [e4] at y; exact absurd y x)
          have a9 : u7.1 94 9 = nI nn := by rw [F7.2 94 9 (by unfold chM; omega)]; exact h9
          rw [a9, k_2, pk_sub (by omega), ← e1]
          refine ⟨_, c_X7_takeNumber (lo := 0) (hi := g - 1) (hT.fm F7) m7 (by omega) (by omega) rfl rfl, fun r8 u8 p8 => ?_⟩
          have F8 := F7.tr (FRm.of p8.1)
          have m8 : CM T L u8 (ord2 T L g (latS d) (0, 0, leN T L q)).1 := p8.2.1
          refine sg_X7_plan_172 hX (show ac 105 = some (0, 60) from rfl) ⟨vp_in_nI (by omega) (by omega), fun u9 e9 => ?_⟩
          rw [nI_clamp (by omega)] at e9
          have F9 := F8.set (i := 105) (k := 30 + d 0) (by unfold chM; omega) e9
          have m9 : CM T L u9 (ord2 T L g (latS d) (0, 0, leN T L q)).1 := m8.same (fun k _ => by rw [e9, hs_o (by omega)])
          refine ⟨_, c_X7_takeNumber (lo := 0) (hi := 9) (hT.fm F9) m9 (by omega) (by omega) rfl rfl, fun ra ua pa => ?_⟩
          have Fa := F9.tr (FRm.of pa.1)
          have ma : CM T L ua (ord3 T L g (latS d) (0, 0, leN T L q)).1 := pa.2.1
          refine sg_X7_plan_185 hX (show ac 106 = some (0, 60) from rfl) ⟨vp_in_nI (by omega) (by omega), fun ub eb uc ec => ?_⟩
          rw [nI_clamp (by omega)] at eb
          have Fb := Fa.set (i := 106) (k := 30 + d 0) (by unfold chM; omega) eb
          have b15 : ub.1 94 15 = nI (d 0) := by rw [eb, hs_o (by omega), pa.1.2.2 15 (by omega), e9, hs_o (by omega), p8.1.2.2 15 (by omega), f7.2.2 15 (by omega)]; exact a15
          rw [b15, nI_1] at ec
          have Fc := Fb.set (i := 94) (k := 15) (by unfold chM; omega) ec
          have mc : CM T L uc (ord3 T L g (latS d) (0, 0, leN T L q)).1 := ma.same (fun k hk => by rw [ec, hs_i (by omega), eb, hs_o (by omega)])
          refine EN uc _ Fc mc (by rw [eS]; rfl) (fun y => ?_)
          rw [eS] at y
          have y : (ord4 T L g (latS d) (0, 0, leN T L q)).1 = 0 := y
          obtain ⟨-, -, -, -, -, -, -, k2, k3⟩ := ord_ok m4.pos y
          have x8 : r8 = nI (ord2 T L g (latS d) (0, 0, leN T L q)).2.1 := (p8.2.2 k2).1
          have xa : ra = nI (ord3 T L g (latS d) (0, 0, leN T L q)).2.1 := (pa.2.2 k3).1
          have e2 : (orderS T L g q d).2 = ordD T L g (latS d) (0, 0, leN T L q) d := by
            rw [eS]
            show (if (ord4 T L g (latS d) (0, 0, leN T L q)).1 = 0 then ordD T L g (latS d) (0, 0, leN T L q) d else d) = _
            rw [if_pos y]
          rw [e2]
          obtain ⟨d0, d1, d2, d3, d4⟩ := ordD_at (T := T) (L := L) (g := g) (l := latS d) (c := (0, 0, leN T L q)) (d := d) (by omega)
          refine ⟨by rw [d0, ec, hs_s], fun k hk => ?_⟩
          rw [d0] at hk
          have q4 : uc.1 104 = u6.1 104 := by rw [ec, hs_o (by omega), eb, hs_o (by omega), pa.1.2.1 104 (by omega), e9, hs_o (by omega), p8.1.2.1 104 (by omega), f7.2.1 104 (by omega)]
          have q5 : uc.1 105 = u9.1 105 := by rw [ec, hs_o (by omega), eb, hs_o (by omega), pa.1.2.1 105 (by omega)]
          have q6 : uc.1 106 = ub.1 106 := by rw [ec, hs_o (by omega)]
          rw [q4, q5, q6]
          by_cases k0 : k = d 0
          · subst k0
            rw [d2, d3, d4]
            exact ⟨by rw [e6, hs_s], by rw [e9, hs_s, x8], by rw [eb, hs_s, xa]⟩
          · obtain ⟨t1, t2, t3⟩ := d1 k (by omega)
            obtain ⟨v1, v2, v3⟩ := rd5.2 k (by omega)
            rw [t1, t2, t3]
            refine ⟨?_, ?_, ?_⟩
            · rw [e6, hs_i (by omega)]; exact v1
            · rw [e9, hs_i (by omega), p8.1.2.1 105 (by omega), f7.2.1 105 (by omega), e6, hs_o (by omega)]; exact v2
            · rw [eb, hs_i (by omega), pa.1.2.1 106 (by omega), e9, hs_o (by omega), p8.1.2.1 106 (by omega), f7.2.1 106 (by omega), e6, hs_o (by omega)]; exact v3
  refine sg_X7_plan_0 hX ⟨fun _ => ⟨_, c_X7_beginReading (T := T) (L := L), fun u p => sg_X7_plan_14 hX ?_⟩, fun z => absurd z (by rw [h9]; exact nI_ne0 (by omega) (by omega))⟩
  have F := (FRm.of p.1).set (i := 94) (k := 15) (v := 0) (by unfold chM; omega) rfl
  exact LP 31 0 rfl (0, 0, 0) (fun _ => 0) _ F (p.2.same (fun k hk => by rw [hs_i (by omega)])) (fun _ => ⟨⟨by rw [hs_s]; rfl, fun k hk => absurd hk (Nat.not_lt_zero k)⟩, ⟨Nat.zero_le _, fun k hk => absurd hk (Nat.not_lt_zero k)⟩, rfl⟩) hR
