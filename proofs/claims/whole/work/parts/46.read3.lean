set_option maxRecDepth 100000 in
set_option maxHeartbeats 4000000 in
theorem sg_X0_addBasin_0 {Z : CX × GX} {post : AH → Prop} {h : AH} {x0 : Nat} {x1 : Int32} {x2 : Int32} {x3 : Int32} (hX : OK Z RX0 cX0_addBasin 4 none 1 20) (ox0 : oc x0 = some 0)
    (w : ((¬ (h.1 x0 0 < 9) → post h) ∧ ((h.1 x0 0 < 9) → (vp_in (h.1 x0 0) 10) ∧ (∀ u3 : AH, u3 = (hset h.1 (x0 + 1) (Int32.toNatClampNeg (h.1 x0 0)) x1, h.2) → (vp_in (u3.1 x0 0) 10) ∧ (∀ u5 : AH, u5 = (hset u3.1 (x0 + 2) (Int32.toNatClampNeg (u3.1 x0 0)) x2, u3.2) → (vp_in (u5.1 x0 0) 10) ∧ (∀ u7 : AH, u7 = (hset u5.1 (x0 + 3) (Int32.toNatClampNeg (u5.1 x0 0)) x3, u5.2) → (∀ u8 : AH, u8 = (hset u7.1 x0 0 ((u7.1 x0 0) + 1), u7.2) → post u8)))))))
    : EX Z 4 (QV Z post) 0 h [some (.ref x0), some (.int x1), some (.int x2), some (.int x3)] [] := by
  refine ex_aload_n hX dX0_addBasin_0 rfl rfl ?_
  refine ex_pIv (ci := 0) (i := x0) (As := []) (st := []) hX (c_X0_hasRoom (h := h) ox0) CS_0_37 MS_X0_hasRoom rfl ox0 rfl (by decide) rfl (Nat.le_of_ble_eq_true rfl) dX0_addBasin_1 ?_
  refine ex_ifeqB hX 47 dX0_addBasin_4 (by decide) (fun c1 => ?_) (fun c1 => ?_)
  · replace w := w.1 c1
    exact ex_vret hX dX0_addBasin_47 w
  · replace w := w.2 c1
    refine ex_aload_n hX dX0_addBasin_7 rfl rfl ?_
    refine ex_get hX (.ref (x0 + 1)) FL_0_9 ox0 (fun _ => rfl) dX0_addBasin_8 ?_
    refine ex_aload_n hX dX0_addBasin_11 rfl rfl ?_
    refine ex_get hX (.int (h.1 x0 0)) FL_0_33 ox0 (fun _ => rfl) dX0_addBasin_12 ?_
    refine ex_iload_n hX dX0_addBasin_15 rfl rfl ?_
    obtain ⟨q2, w⟩ := w
    refine ex_iast hX (sh_0_1 ox0) q2 dX0_addBasin_16 ?_
    refine ex_nameH (fun u3 eu3 => ?_)
    replace w := w u3 eu3
    refine ex_aload_n hX dX0_addBasin_17 rfl rfl ?_
    refine ex_get hX (.ref (x0 + 2)) FL_0_15 ox0 (fun _ => rfl) dX0_addBasin_18 ?_
    refine ex_aload_n hX dX0_addBasin_21 rfl rfl ?_
    refine ex_get hX (.int (u3.1 x0 0)) FL_0_33 ox0 (fun _ => rfl) dX0_addBasin_22 ?_
    refine ex_iload_n hX dX0_addBasin_25 rfl rfl ?_
    obtain ⟨q4, w⟩ := w
    refine ex_iast hX (sh_0_2 ox0) q4 dX0_addBasin_26 ?_
    refine ex_nameH (fun u5 eu5 => ?_)
    replace w := w u5 eu5
    refine ex_aload_n hX dX0_addBasin_27 rfl rfl ?_
    refine ex_get hX (.ref (x0 + 3)) FL_0_18 ox0 (fun _ => rfl) dX0_addBasin_28 ?_
    refine ex_aload_n hX dX0_addBasin_31 rfl rfl ?_
    refine ex_get hX (.int (u5.1 x0 0)) FL_0_33 ox0 (fun _ => rfl) dX0_addBasin_32 ?_
    refine ex_iload_n hX dX0_addBasin_35 rfl rfl ?_
    obtain ⟨q6, w⟩ := w
    refine ex_iast hX (sh_0_3 ox0) q6 dX0_addBasin_36 ?_
    refine ex_nameH (fun u7 eu7 => ?_)
    replace w := w u7 eu7
    refine ex_aload_n hX dX0_addBasin_37 rfl rfl ?_
    refine ex_dup hX dX0_addBasin_38 rfl ?_
    refine ex_get hX (.int (u7.1 x0 0)) FL_0_33 ox0 (fun _ => rfl) dX0_addBasin_39 ?_
    refine ex_iconst (v := 1) hX dX0_addBasin_42 rfl ?_
    refine ex_iadd hX dX0_addBasin_43 ?_
    refine ex_put hX .int FL_0_33 tyX0 tyX0_ok nmX0 rfl rfl rfl rfl ox0 (fun _ => (by decide : 0 < 8)) (fun _ => fs_0_0) dX0_addBasin_44 ?_
    refine ex_nameH (fun u8 eu8 => ?_)
    replace w := w u8 eu8
    exact ex_vret hX dX0_addBasin_47 w

set_option maxRecDepth 100000 in
set_option maxHeartbeats 4000000 in
theorem sg_X2_checkPond_0 {Z : CX × GX} {post : AH → Prop} {h : AH} {x1 : Nat} (hX : OK Z RX2 cX2_checkPond 2 none 1 21) (ox1 : oc x1 = some 0)
    (w : (((h.1 1 10) = 0 → (((h.1 x1 0 < 9) → post h) ∧ (¬ (h.1 x1 0 < 9) → (∃ PP : AH → Prop, CV yX2_find cX2_find 2 0 0 [.ref 1, .int 3] h PP ∧ ∀ u : AH, PP u → EX Z 2 (QV Z post) 24 u [none, none] [])))) ∧ (¬ (h.1 1 10) = 0 → (∃ PP : AH → Prop, CV yX2_find cX2_find 2 0 0 [.ref 1, .int 1] h PP ∧ ∀ u : AH, PP u → EX Z 2 (QV Z post) 12 u [some (.ref 1), some (.ref x1)] []))))
    : EX Z 2 (QV Z post) 0 h [some (.ref 1), some (.ref x1)] [] := by
  refine ex_aload_n hX dX2_checkPond_0 rfl rfl ?_
  refine ex_get hX (.int (h.1 1 10)) FL_2_75 rfl (fun _ => rfl) dX2_checkPond_1 ?_
  refine ex_ifeq hX 12 dX2_checkPond_4 (by decide) (fun c1 => ?_) (fun c1 => ?_)
  · replace w := w.1 c1
    refine ex_aload_n hX dX2_checkPond_12 rfl rfl ?_
    refine ex_pIv (ci := 0) (i := x1) (As := []) (st := []) hX (c_X0_hasRoom (h := h) ox1) CS_2_106 MS_X0_hasRoom rfl ox1 rfl (by decide) rfl (Nat.le_of_ble_eq_true rfl) dX2_checkPond_13 ?_
    refine ex_ifneB hX 24 dX2_checkPond_16 (by decide) (fun c2 => ?_) (fun c2 => ?_)
    · replace w := w.1 c2
      exact ex_vret hX dX2_checkPond_24 w
    · replace w := w.2 c2
      refine ex_aload_n hX dX2_checkPond_19 rfl rfl ?_
      refine ex_iconst (v := 3) hX dX2_checkPond_20 rfl ?_
      obtain ⟨PP, pM, pK⟩ := w
      exact ex_callVv (ci := 2) (i := 1) (As := [.int 3]) (st := []) hX pM CS_2_57 MS_X2_find rfl rfl rfl (by decide) rfl (Nat.le_of_ble_eq_true rfl) dX2_checkPond_21 (fun u hp => ex_forget [none, none] trivial (pK u hp))
  · replace w := w.2 c1
    refine ex_aload_n hX dX2_checkPond_7 rfl rfl ?_
    refine ex_iconst (v := 1) hX dX2_checkPond_8 rfl ?_
    obtain ⟨PP, pM, pK⟩ := w
    exact ex_callVv (ci := 2) (i := 1) (As := [.int 1]) (st := []) hX pM CS_2_57 MS_X2_find rfl rfl rfl (by decide) rfl (Nat.le_of_ble_eq_true rfl) dX2_checkPond_9 (fun u hp => pK u hp)

set_option maxRecDepth 100000 in
set_option maxHeartbeats 4000000 in
theorem sg_X2_checkPond_12 {Z : CX × GX} {post : AH → Prop} {h : AH} {x1 : Nat} (hX : OK Z RX2 cX2_checkPond 2 none 1 21) (ox1 : oc x1 = some 0)
    (w : (((h.1 x1 0 < 9) → post h) ∧ (¬ (h.1 x1 0 < 9) → (∃ PP : AH → Prop, CV yX2_find cX2_find 2 0 0 [.ref 1, .int 3] h PP ∧ ∀ u : AH, PP u → EX Z 2 (QV Z post) 24 u [none, none] []))))
    : EX Z 2 (QV Z post) 12 h [some (.ref 1), some (.ref x1)] [] := by
  refine ex_aload_n hX dX2_checkPond_12 rfl rfl ?_
  refine ex_pIv (ci := 0) (i := x1) (As := []) (st := []) hX (c_X0_hasRoom (h := h) ox1) CS_2_106 MS_X0_hasRoom rfl ox1 rfl (by decide) rfl (Nat.le_of_ble_eq_true rfl) dX2_checkPond_13 ?_
  refine ex_ifneB hX 24 dX2_checkPond_16 (by decide) (fun c1 => ?_) (fun c1 => ?_)
  · replace w := w.1 c1
    exact ex_vret hX dX2_checkPond_24 w
  · replace w := w.2 c1
    refine ex_aload_n hX dX2_checkPond_19 rfl rfl ?_
    refine ex_iconst (v := 3) hX dX2_checkPond_20 rfl ?_
    obtain ⟨PP, pM, pK⟩ := w
    exact ex_callVv (ci := 2) (i := 1) (As := [.int 3]) (st := []) hX pM CS_2_57 MS_X2_find rfl rfl rfl (by decide) rfl (Nat.le_of_ble_eq_true rfl) dX2_checkPond_21 (fun u hp => ex_forget [none, none] trivial (pK u hp))

set_option maxRecDepth 100000 in
set_option maxHeartbeats 4000000 in
theorem sg_X2_checkPond_24 {Z : CX × GX} {post : AH → Prop} {h : AH}  (hX : OK Z RX2 cX2_checkPond 2 none 1 21) 
    (w : post h)
    : EX Z 2 (QV Z post) 24 h [none, none] [] := by
  exact ex_vret hX dX2_checkPond_24 w

set_option maxRecDepth 100000 in
set_option maxHeartbeats 4000000 in
theorem sg_X2_readBasin_0 {Z : CX × GX} {post : AH → Prop} {h : AH} {x1 : Nat} (hX : OK Z RX2 cX2_readBasin 5 none 3 63) (ox1 : oc x1 = some 0)
    (w : (∃ PP : Int32 → AH → Prop, CI yX2_takeNumber cX2_takeNumber 3 (some .int) 2 41 [.ref 1, .int 0, .int 999] h PP ∧ ∀ (r : Int32) (u : AH), PP r u → EX Z 5 (QV Z post) 8 u [some (.ref 1), some (.ref x1), none, none, none] (.int r :: [])))
    : EX Z 5 (QV Z post) 0 h [some (.ref 1), some (.ref x1), none, none, none] [] := by
  refine ex_aload_n hX dX2_readBasin_0 rfl rfl ?_
  refine ex_iconst (v := 0) hX dX2_readBasin_1 rfl ?_
  refine ex_sipush (v := 999) hX dX2_readBasin_2 rfl ?_
  obtain ⟨PP, pM, pK⟩ := w
  exact ex_callIv (ci := 2) (i := 1) (As := [.int 0, .int 999]) (st := []) hX pM CS_2_110 MS_X2_takeNumber rfl rfl rfl (by decide) rfl (Nat.le_of_ble_eq_true rfl) dX2_readBasin_5 (fun r u hp => pK r u hp)

set_option maxRecDepth 100000 in
set_option maxHeartbeats 4000000 in
theorem sg_X2_readBasin_8 {Z : CX × GX} {post : AH → Prop} {h : AH} {x1 : Nat} {s0 : Int32} (hX : OK Z RX2 cX2_readBasin 5 none 3 63) (ox1 : oc x1 = some 0)
    (w : (∃ PP : Int32 → AH → Prop, CI yX2_takeNumber cX2_takeNumber 3 (some .int) 2 41 [.ref 1, .int 1, .int 99] h PP ∧ ∀ (r : Int32) (u : AH), PP r u → EX Z 5 (QV Z post) 16 u [some (.ref 1), some (.ref x1), some (.int s0), none, none] (.int r :: [])))
    : EX Z 5 (QV Z post) 8 h [some (.ref 1), some (.ref x1), none, none, none] [.int s0] := by
  refine ex_istore_n (lv' := [some (.ref 1), some (.ref x1), some (.int s0), none, none]) hX dX2_readBasin_8 rfl (by decide) rfl ?_
  refine ex_aload_n hX dX2_readBasin_9 rfl rfl ?_
  refine ex_iconst (v := 1) hX dX2_readBasin_10 rfl ?_
  refine ex_bipush (v := 99) hX dX2_readBasin_11 rfl ?_
  obtain ⟨PP, pM, pK⟩ := w
  exact ex_callIv (ci := 2) (i := 1) (As := [.int 1, .int 99]) (st := []) hX pM CS_2_110 MS_X2_takeNumber rfl rfl rfl (by decide) rfl (Nat.le_of_ble_eq_true rfl) dX2_readBasin_13 (fun r u hp => pK r u hp)

set_option maxRecDepth 100000 in
set_option maxHeartbeats 4000000 in
theorem sg_X2_readBasin_16 {Z : CX × GX} {post : AH → Prop} {h : AH} {x1 : Nat} {x2 : Int32} {s0 : Int32} (hX : OK Z RX2 cX2_readBasin 5 none 3 63) (ox1 : oc x1 = some 0)
    (w : (∃ PP : Int32 → AH → Prop, CI yX2_takeNumber cX2_takeNumber 3 (some .int) 2 41 [.ref 1, .int 0, .int 9999] h PP ∧ ∀ (r : Int32) (u : AH), PP r u → EX Z 5 (QV Z post) 25 u [some (.ref 1), some (.ref x1), some (.int x2), some (.int s0), none] (.int r :: [])))
    : EX Z 5 (QV Z post) 16 h [some (.ref 1), some (.ref x1), some (.int x2), none, none] [.int s0] := by
  refine ex_istore_n (lv' := [some (.ref 1), some (.ref x1), some (.int x2), some (.int s0), none]) hX dX2_readBasin_16 rfl (by decide) rfl ?_
  refine ex_aload_n hX dX2_readBasin_17 rfl rfl ?_
  refine ex_iconst (v := 0) hX dX2_readBasin_18 rfl ?_
  refine ex_sipush (v := 9999) hX dX2_readBasin_19 rfl ?_
  obtain ⟨PP, pM, pK⟩ := w
  exact ex_callIv (ci := 2) (i := 1) (As := [.int 0, .int 9999]) (st := []) hX pM CS_2_110 MS_X2_takeNumber rfl rfl rfl (by decide) rfl (Nat.le_of_ble_eq_true rfl) dX2_readBasin_22 (fun r u hp => pK r u hp)

set_option maxRecDepth 100000 in
set_option maxHeartbeats 4000000 in
theorem sg_X2_readBasin_25 {Z : CX × GX} {post : AH → Prop} {h : AH} {x1 : Nat} {x2 : Int32} {x3 : Int32} {s0 : Int32} (hX : OK Z RX2 cX2_readBasin 5 none 3 63) (ox1 : oc x1 = some 0)
    (w : (∃ PP : AH → Prop, CV yX2_takeSign cX2_takeSign 2 2 41 [.ref 1, .int 59] h PP ∧ ∀ u : AH, PP u → EX Z 5 (QV Z post) 33 u [some (.ref 1), some (.ref x1), some (.int x2), some (.int x3), some (.int s0)] []))
    : EX Z 5 (QV Z post) 25 h [some (.ref 1), some (.ref x1), some (.int x2), some (.int x3), none] [.int s0] := by
  refine ex_istore (lv' := [some (.ref 1), some (.ref x1), some (.int x2), some (.int x3), some (.int s0)]) hX dX2_readBasin_25 (by decide) rfl ?_
  refine ex_aload_n hX dX2_readBasin_27 rfl rfl ?_
  refine ex_bipush (v := 59) hX dX2_readBasin_28 rfl ?_
  obtain ⟨PP, pM, pK⟩ := w
  exact ex_callVv (ci := 2) (i := 1) (As := [.int 59]) (st := []) hX pM CS_2_114 MS_X2_takeSign rfl rfl rfl (by decide) rfl (Nat.le_of_ble_eq_true rfl) dX2_readBasin_30 (fun u hp => pK u hp)

set_option maxRecDepth 100000 in
set_option maxHeartbeats 4000000 in
theorem sg_X2_readBasin_33 {Z : CX × GX} {post : AH → Prop} {h : AH} {x1 : Nat} {x2 : Int32} {x3 : Int32} {x4 : Int32} (hX : OK Z RX2 cX2_readBasin 5 none 3 63) (ox1 : oc x1 = some 0)
    (w : ((¬ (h.1 1 2) = 0 → post h) ∧ ((h.1 1 2) = 0 → (∃ PP : AH → Prop, CV yX0_addBasin cX0_addBasin 4 1 20 [.ref x1, .int x2, .int x3, .int x4] h PP ∧ ∀ u : AH, PP u → EX Z 5 (QV Z post) 48 u [none, none, none, none, none] []))))
    : EX Z 5 (QV Z post) 33 h [some (.ref 1), some (.ref x1), some (.int x2), some (.int x3), some (.int x4)] [] := by
  refine ex_aload_n hX dX2_readBasin_33 rfl rfl ?_
  refine ex_get hX (.int (h.1 1 2)) FL_2_19 rfl (fun _ => rfl) dX2_readBasin_34 ?_
  refine ex_ifne hX 48 dX2_readBasin_37 (by decide) (fun c1 => ?_) (fun c1 => ?_)
  · replace w := w.1 c1
    exact ex_vret hX dX2_readBasin_48 w
  · replace w := w.2 c1
    refine ex_aload_n hX dX2_readBasin_40 rfl rfl ?_
    refine ex_iload_n hX dX2_readBasin_41 rfl rfl ?_
    refine ex_iload_n hX dX2_readBasin_42 rfl rfl ?_
    refine ex_iload hX dX2_readBasin_43 rfl ?_
    obtain ⟨PP, pM, pK⟩ := w
    exact ex_callVv (ci := 0) (i := x1) (As := [.int x2, .int x3, .int x4]) (st := []) hX pM CS_2_118 MS_X0_addBasin rfl ox1 rfl (by decide) rfl (Nat.le_of_ble_eq_true rfl) dX2_readBasin_45 (fun u hp => ex_forget [none, none, none, none, none] trivial (pK u hp))

set_option maxRecDepth 100000 in
set_option maxHeartbeats 4000000 in
theorem sg_X2_readBasin_48 {Z : CX × GX} {post : AH → Prop} {h : AH}  (hX : OK Z RX2 cX2_readBasin 5 none 3 63) 
    (w : post h)
    : EX Z 5 (QV Z post) 48 h [none, none, none, none, none] [] := by
  exact ex_vret hX dX2_readBasin_48 w

set_option maxRecDepth 100000 in
set_option maxHeartbeats 4000000 in
theorem sg_X2_readGate_0 {Z : CX × GX} {post : AH → Prop} {h : AH} {x1 : Nat} (hX : OK Z RX2 cX2_readGate 5 none 3 63) (ox1 : oc x1 = some 0)
    (w : (∃ PP : Int32 → AH → Prop, CI yX2_takeNumber cX2_takeNumber 3 (some .int) 2 41 [.ref 1, .int 0, .int ((h.1 x1 0) - 1)] h PP ∧ ∀ (r : Int32) (u : AH), PP r u → EX Z 5 (QV Z post) 11 u [some (.ref 1), some (.ref x1), none, none, none] (.int r :: [])))
    : EX Z 5 (QV Z post) 0 h [some (.ref 1), some (.ref x1), none, none, none] [] := by
  refine ex_aload_n hX dX2_readGate_0 rfl rfl ?_
  refine ex_iconst (v := 0) hX dX2_readGate_1 rfl ?_
  refine ex_aload_n hX dX2_readGate_2 rfl rfl ?_
  refine ex_get hX (.int (h.1 x1 0)) FL_2_43 ox1 (fun _ => rfl) dX2_readGate_3 ?_
  refine ex_iconst (v := 1) hX dX2_readGate_6 rfl ?_
  refine ex_isub hX dX2_readGate_7 ?_
  obtain ⟨PP, pM, pK⟩ := w
  exact ex_callIv (ci := 2) (i := 1) (As := [.int 0, .int ((h.1 x1 0) - 1)]) (st := []) hX pM CS_2_110 MS_X2_takeNumber rfl rfl rfl (by decide) rfl (Nat.le_of_ble_eq_true rfl) dX2_readGate_8 (fun r u hp => pK r u hp)

set_option maxRecDepth 100000 in
set_option maxHeartbeats 4000000 in
theorem sg_X2_readGate_11 {Z : CX × GX} {post : AH → Prop} {h : AH} {x1 : Nat} {s0 : Int32} (hX : OK Z RX2 cX2_readGate 5 none 3 63) (ox1 : oc x1 = some 0)
    (w : (((((h.1 1 10) >>> (s0 &&& 31)) &&& 1) = 0 → (∃ PP : Int32 → AH → Prop, CI yX2_takeNumber cX2_takeNumber 3 (some .int) 2 41 [.ref 1, .int 0, .int 9] h PP ∧ ∀ (r : Int32) (u : AH), PP r u → EX Z 5 (QV Z post) 35 u [some (.ref 1), some (.ref x1), some (.int s0), none, none] (.int r :: []))) ∧ (¬ (((h.1 1 10) >>> (s0 &&& 31)) &&& 1) = 0 → (∃ PP : AH → Prop, CV yX2_find cX2_find 2 0 0 [.ref 1, .int 3] h PP ∧ ∀ u : AH, PP u → EX Z 5 (QV Z post) 28 u [some (.ref 1), some (.ref x1), some (.int s0), none, none] []))))
    : EX Z 5 (QV Z post) 11 h [some (.ref 1), some (.ref x1), none, none, none] [.int s0] := by
  refine ex_istore_n (lv' := [some (.ref 1), some (.ref x1), some (.int s0), none, none]) hX dX2_readGate_11 rfl (by decide) rfl ?_
  refine ex_aload_n hX dX2_readGate_12 rfl rfl ?_
  refine ex_get hX (.int (h.1 1 10)) FL_2_75 rfl (fun _ => rfl) dX2_readGate_13 ?_
  refine ex_iload_n hX dX2_readGate_16 rfl rfl ?_
  refine ex_ishr hX dX2_readGate_17 ?_
  refine ex_iconst (v := 1) hX dX2_readGate_18 rfl ?_
  refine ex_iand hX dX2_readGate_19 ?_
  refine ex_ifeq hX 28 dX2_readGate_20 (by decide) (fun c1 => ?_) (fun c1 => ?_)
  · replace w := w.1 c1
    refine ex_aload_n hX dX2_readGate_28 rfl rfl ?_
    refine ex_iconst (v := 0) hX dX2_readGate_29 rfl ?_
    refine ex_bipush (v := 9) hX dX2_readGate_30 rfl ?_
    obtain ⟨PP, pM, pK⟩ := w
    exact ex_callIv (ci := 2) (i := 1) (As := [.int 0, .int 9]) (st := []) hX pM CS_2_110 MS_X2_takeNumber rfl rfl rfl (by decide) rfl (Nat.le_of_ble_eq_true rfl) dX2_readGate_32 (fun r u hp => pK r u hp)
  · replace w := w.2 c1
    refine ex_aload_n hX dX2_readGate_23 rfl rfl ?_
    refine ex_iconst (v := 3) hX dX2_readGate_24 rfl ?_
    obtain ⟨PP, pM, pK⟩ := w
    exact ex_callVv (ci := 2) (i := 1) (As := [.int 3]) (st := []) hX pM CS_2_57 MS_X2_find rfl rfl rfl (by decide) rfl (Nat.le_of_ble_eq_true rfl) dX2_readGate_25 (fun u hp => pK u hp)

set_option maxRecDepth 100000 in
set_option maxHeartbeats 4000000 in
theorem sg_X2_readGate_28 {Z : CX × GX} {post : AH → Prop} {h : AH} {x1 : Nat} {x2 : Int32} (hX : OK Z RX2 cX2_readGate 5 none 3 63) (ox1 : oc x1 = some 0)
    (w : (∃ PP : Int32 → AH → Prop, CI yX2_takeNumber cX2_takeNumber 3 (some .int) 2 41 [.ref 1, .int 0, .int 9] h PP ∧ ∀ (r : Int32) (u : AH), PP r u → EX Z 5 (QV Z post) 35 u [some (.ref 1), some (.ref x1), some (.int x2), none, none] (.int r :: [])))
    : EX Z 5 (QV Z post) 28 h [some (.ref 1), some (.ref x1), some (.int x2), none, none] [] := by
  refine ex_aload_n hX dX2_readGate_28 rfl rfl ?_
  refine ex_iconst (v := 0) hX dX2_readGate_29 rfl ?_
  refine ex_bipush (v := 9) hX dX2_readGate_30 rfl ?_
  obtain ⟨PP, pM, pK⟩ := w
  exact ex_callIv (ci := 2) (i := 1) (As := [.int 0, .int 9]) (st := []) hX pM CS_2_110 MS_X2_takeNumber rfl rfl rfl (by decide) rfl (Nat.le_of_ble_eq_true rfl) dX2_readGate_32 (fun r u hp => pK r u hp)

set_option maxRecDepth 100000 in
set_option maxHeartbeats 4000000 in
theorem sg_X2_readGate_35 {Z : CX × GX} {post : AH → Prop} {h : AH} {x1 : Nat} {x2 : Int32} {s0 : Int32} (hX : OK Z RX2 cX2_readGate 5 none 3 63) (ox1 : oc x1 = some 0)
    (w : (∃ PP : Int32 → AH → Prop, CI yX2_takeNumber cX2_takeNumber 3 (some .int) 2 41 [.ref 1, .int 0, .int 99] h PP ∧ ∀ (r : Int32) (u : AH), PP r u → EX Z 5 (QV Z post) 43 u [some (.ref 1), some (.ref x1), some (.int x2), some (.int s0), none] (.int r :: [])))
    : EX Z 5 (QV Z post) 35 h [some (.ref 1), some (.ref x1), some (.int x2), none, none] [.int s0] := by
  refine ex_istore_n (lv' := [some (.ref 1), some (.ref x1), some (.int x2), some (.int s0), none]) hX dX2_readGate_35 rfl (by decide) rfl ?_
  refine ex_aload_n hX dX2_readGate_36 rfl rfl ?_
  refine ex_iconst (v := 0) hX dX2_readGate_37 rfl ?_
  refine ex_bipush (v := 99) hX dX2_readGate_38 rfl ?_
  obtain ⟨PP, pM, pK⟩ := w
  exact ex_callIv (ci := 2) (i := 1) (As := [.int 0, .int 99]) (st := []) hX pM CS_2_110 MS_X2_takeNumber rfl rfl rfl (by decide) rfl (Nat.le_of_ble_eq_true rfl) dX2_readGate_40 (fun r u hp => pK r u hp)

set_option maxRecDepth 100000 in
set_option maxHeartbeats 4000000 in
theorem sg_X2_readGate_43 {Z : CX × GX} {post : AH → Prop} {h : AH} {x1 : Nat} {x2 : Int32} {x3 : Int32} {s0 : Int32} (hX : OK Z RX2 cX2_readGate 5 none 3 63) (ox1 : oc x1 = some 0)
    (w : (∃ PP : AH → Prop, CV yX2_takeSign cX2_takeSign 2 2 41 [.ref 1, .int 59] h PP ∧ ∀ u : AH, PP u → EX Z 5 (QV Z post) 51 u [some (.ref 1), some (.ref x1), some (.int x2), some (.int x3), some (.int s0)] []))
    : EX Z 5 (QV Z post) 43 h [some (.ref 1), some (.ref x1), some (.int x2), some (.int x3), none] [.int s0] := by
  refine ex_istore (lv' := [some (.ref 1), some (.ref x1), some (.int x2), some (.int x3), some (.int s0)]) hX dX2_readGate_43 (by decide) rfl ?_
  refine ex_aload_n hX dX2_readGate_45 rfl rfl ?_
  refine ex_bipush (v := 59) hX dX2_readGate_46 rfl ?_
  obtain ⟨PP, pM, pK⟩ := w
  exact ex_callVv (ci := 2) (i := 1) (As := [.int 59]) (st := []) hX pM CS_2_114 MS_X2_takeSign rfl rfl rfl (by decide) rfl (Nat.le_of_ble_eq_true rfl) dX2_readGate_48 (fun u hp => pK u hp)

set_option maxRecDepth 100000 in
set_option maxHeartbeats 4000000 in
theorem sg_X2_readGate_51 {Z : CX × GX} {post : AH → Prop} {h : AH} {x1 : Nat} {x2 : Int32} {x3 : Int32} {x4 : Int32} (hX : OK Z RX2 cX2_readGate 5 none 3 63) (ox1 : oc x1 = some 0)
    (w : ((¬ (h.1 1 2) = 0 → post h) ∧ ((h.1 1 2) = 0 → ((x2 < 0 → post h) ∧ (¬ x2 < 0 → ((9 ≤ x2 → post h) ∧ (¬ 9 ≤ x2 → (∀ u4 : AH, u4 = (hset h.1 1 10 ((h.1 1 10) ||| (1 <<< (x2 &&& 31))), h.2) → (vp_in x2 9) ∧ (∀ u6 : AH, u6 = (hset u4.1 (x1 + 4) (Int32.toNatClampNeg x2) x3, u4.2) → (vp_in x2 9) ∧ (∀ u8 : AH, u8 = (hset u6.1 (x1 + 5) (Int32.toNatClampNeg x2) x4, u6.2) → post u8))))))))))
    : EX Z 5 (QV Z post) 51 h [some (.ref 1), some (.ref x1), some (.int x2), some (.int x3), some (.int x4)] [] := by
  refine ex_aload_n hX dX2_readGate_51 rfl rfl ?_
  refine ex_get hX (.int (h.1 1 2)) FL_2_19 rfl (fun _ => rfl) dX2_readGate_52 ?_
  refine ex_ifne hX 95 dX2_readGate_55 (by decide) (fun c1 => ?_) (fun c1 => ?_)
  · replace w := w.1 c1
    exact ex_vret hX dX2_readGate_95 w
  · replace w := w.2 c1
    refine ex_iload_n hX dX2_readGate_58 rfl rfl ?_
    refine ex_iflt hX 95 dX2_readGate_59 (by decide) (fun c2 => ?_) (fun c2 => ?_)
    · replace w := w.1 c2
      exact ex_vret hX dX2_readGate_95 w
    · replace w := w.2 c2
      refine ex_iload_n hX dX2_readGate_62 rfl rfl ?_
      refine ex_bipush (v := 9) hX dX2_readGate_63 rfl ?_
      refine ex_icmpge hX 95 dX2_readGate_65 (by decide) (fun c3 => ?_) (fun c3 => ?_)
      · replace w := w.1 c3
        exact ex_vret hX dX2_readGate_95 w
      · replace w := w.2 c3
        refine ex_aload_n hX dX2_readGate_68 rfl rfl ?_
        refine ex_dup hX dX2_readGate_69 rfl ?_
        refine ex_get hX (.int (h.1 1 10)) FL_2_75 rfl (fun _ => rfl) dX2_readGate_70 ?_
        refine ex_iconst (v := 1) hX dX2_readGate_73 rfl ?_
        refine ex_iload_n hX dX2_readGate_74 rfl rfl ?_
        refine ex_ishl hX dX2_readGate_75 ?_
        refine ex_ior hX dX2_readGate_76 ?_
        refine ex_put hX .int FL_2_75 tyX2 tyX2_ok nmX2 rfl rfl rfl rfl rfl (fun _ => (by decide : 10 < 11)) (fun _ => fs_2_10) dX2_readGate_77 ?_
        refine ex_nameH (fun u4 eu4 => ?_)
        replace w := w u4 eu4
        refine ex_aload_n hX dX2_readGate_80 rfl rfl ?_
        refine ex_get hX (.ref (x1 + 4)) FL_2_122 ox1 (fun _ => rfl) dX2_readGate_81 ?_
        refine ex_iload_n hX dX2_readGate_84 rfl rfl ?_
        refine ex_iload_n hX dX2_readGate_85 rfl rfl ?_
        obtain ⟨q5, w⟩ := w
        refine ex_iast hX (sh_0_4 ox1) q5 dX2_readGate_86 ?_
        refine ex_nameH (fun u6 eu6 => ?_)
        replace w := w u6 eu6
        refine ex_aload_n hX dX2_readGate_87 rfl rfl ?_
        refine ex_get hX (.ref (x1 + 5)) FL_2_125 ox1 (fun _ => rfl) dX2_readGate_88 ?_
        refine ex_iload_n hX dX2_readGate_91 rfl rfl ?_
        refine ex_iload hX dX2_readGate_92 rfl ?_
        obtain ⟨q7, w⟩ := w
        refine ex_iast hX (sh_0_5 ox1) q7 dX2_readGate_94 ?_
        refine ex_nameH (fun u8 eu8 => ?_)
        replace w := w u8 eu8
        exact ex_vret hX dX2_readGate_95 w

set_option maxRecDepth 100000 in
set_option maxHeartbeats 4000000 in
theorem sg_X2_readRowOnce_0 {Z : CX × GX} {post : AH → Prop} {h : AH} {x1 nx1 : Nat} {x2 : Int32} {x3 : Int32} (hX : OK Z RX2 cX2_readRowOnce 6 none 3 63) (ax1 : ac x1 = some (0, nx1))
    (w : ((x3 = 0 → EX Z 6 (QV Z post) 12 h [some (.ref 1), some (.ref x1), some (.int x2), none, some (.int 0), none] []) ∧ (¬ x3 = 0 → (∃ PP : AH → Prop, CV yX2_find cX2_find 2 0 0 [.ref 1, .int 3] h PP ∧ ∀ u : AH, PP u → EX Z 6 (QV Z post) 9 u [some (.ref 1), some (.ref x1), some (.int x2), none, none, none] []))))
    : EX Z 6 (QV Z post) 0 h [some (.ref 1), some (.ref x1), some (.int x2), some (.int x3), none, none] [] := by
  refine ex_iload_n hX dX2_readRowOnce_0 rfl rfl ?_
  refine ex_ifeq hX 9 dX2_readRowOnce_1 (by decide) (fun c1 => ?_) (fun c1 => ?_)
  · replace w := w.1 c1
    refine ex_iconst (v := 0) hX dX2_readRowOnce_9 rfl ?_
    refine ex_istore (lv' := [some (.ref 1), some (.ref x1), some (.int x2), some (.int x3), some (.int 0), none]) hX dX2_readRowOnce_10 (by decide) rfl ?_
    exact ex_forget [some (.ref 1), some (.ref x1), some (.int x2), none, some (.int 0), none] ⟨rfl, ⟨rfl, ⟨rfl, ⟨rfl, trivial⟩⟩⟩⟩ w
  · replace w := w.2 c1
    refine ex_aload_n hX dX2_readRowOnce_4 rfl rfl ?_
    refine ex_iconst (v := 3) hX dX2_readRowOnce_5 rfl ?_
    obtain ⟨PP, pM, pK⟩ := w
    exact ex_callVv (ci := 2) (i := 1) (As := [.int 3]) (st := []) hX pM CS_2_57 MS_X2_find rfl rfl rfl (by decide) rfl (Nat.le_of_ble_eq_true rfl) dX2_readRowOnce_6 (fun u hp => ex_forget [some (.ref 1), some (.ref x1), some (.int x2), none, none, none] ⟨rfl, ⟨rfl, ⟨rfl, trivial⟩⟩⟩ (pK u hp))

set_option maxRecDepth 100000 in
set_option maxHeartbeats 4000000 in
theorem sg_X2_readRowOnce_9 {Z : CX × GX} {post : AH → Prop} {h : AH} {x1 nx1 : Nat} {x2 : Int32} (hX : OK Z RX2 cX2_readRowOnce 6 none 3 63) (ax1 : ac x1 = some (0, nx1))
    (w : EX Z 6 (QV Z post) 12 h [some (.ref 1), some (.ref x1), some (.int x2), none, some (.int 0), none] [])
    : EX Z 6 (QV Z post) 9 h [some (.ref 1), some (.ref x1), some (.int x2), none, none, none] [] := by
  refine ex_iconst (v := 0) hX dX2_readRowOnce_9 rfl ?_
  refine ex_istore (lv' := [some (.ref 1), some (.ref x1), some (.int x2), none, some (.int 0), none]) hX dX2_readRowOnce_10 (by decide) rfl ?_
  exact w

set_option maxRecDepth 100000 in
set_option maxHeartbeats 4000000 in
theorem sg_X2_readRowOnce_12 {Z : CX × GX} {post : AH → Prop} {h : AH} {x1 nx1 : Nat} {x2 : Int32} {x4 : Int32} (hX : OK Z RX2 cX2_readRowOnce 6 none 3 63) (ax1 : ac x1 = some (0, nx1))
    (w : (((Int32.ofNat nx1) < x4 → post h) ∧ (¬ (Int32.ofNat nx1) < x4 → ((¬ (h.1 1 2) = 0 → post h) ∧ ((h.1 1 2) = 0 → (∃ PP : Int32 → AH → Prop, CI yX2_takeNumber cX2_takeNumber 3 (some .int) 2 41 [.ref 1, .int 0, .int x2] h PP ∧ ∀ (r : Int32) (u : AH), PP r u → EX Z 6 (QV Z post) 32 u [some (.ref 1), some (.ref x1), some (.int x2), none, some (.int x4), none] (.int r :: [])))))))
    : EX Z 6 (QV Z post) 12 h [some (.ref 1), some (.ref x1), some (.int x2), none, some (.int x4), none] [] := by
  refine ex_iload hX dX2_readRowOnce_12 rfl ?_
  refine ex_aload_n hX dX2_readRowOnce_14 rfl rfl ?_
  refine ex_alen (v := Int32.ofNat nx1) hX ax1 (by decide) rfl dX2_readRowOnce_15 ?_
  refine ex_icmpgt hX 89 dX2_readRowOnce_16 (by decide) (fun c1 => ?_) (fun c1 => ?_)
  · replace w := w.1 c1
    exact ex_vret hX dX2_readRowOnce_89 w
  · replace w := w.2 c1
    refine ex_aload_n hX dX2_readRowOnce_19 rfl rfl ?_
    refine ex_get hX (.int (h.1 1 2)) FL_2_19 rfl (fun _ => rfl) dX2_readRowOnce_20 ?_
    refine ex_ifne hX 89 dX2_readRowOnce_23 (by decide) (fun c2 => ?_) (fun c2 => ?_)
    · replace w := w.1 c2
      exact ex_vret hX dX2_readRowOnce_89 w
    · replace w := w.2 c2
      refine ex_aload_n hX dX2_readRowOnce_26 rfl rfl ?_
      refine ex_iconst (v := 0) hX dX2_readRowOnce_27 rfl ?_
      refine ex_iload_n hX dX2_readRowOnce_28 rfl rfl ?_
      obtain ⟨PP, pM, pK⟩ := w
      exact ex_callIv (ci := 2) (i := 1) (As := [.int 0, .int x2]) (st := []) hX pM CS_2_110 MS_X2_takeNumber rfl rfl rfl (by decide) rfl (Nat.le_of_ble_eq_true rfl) dX2_readRowOnce_29 (fun r u hp => pK r u hp)

set_option maxRecDepth 100000 in
set_option maxHeartbeats 4000000 in
theorem sg_X2_readRowOnce_32 {Z : CX × GX} {post : AH → Prop} {h : AH} {x1 nx1 : Nat} {x2 : Int32} {x4 : Int32} {s0 : Int32} (hX : OK Z RX2 cX2_readRowOnce 6 none 3 63) (ax1 : ac x1 = some (0, nx1))
    (w : (((Int32.ofNat nx1) ≤ x4 → (∃ PP : AH → Prop, CV yX2_find cX2_find 2 0 0 [.ref 1, .int 4] h PP ∧ ∀ u : AH, PP u → EX Z 6 (QV Z post) 55 u [some (.ref 1), some (.ref x1), some (.int x2), none, some (.int x4), none] [])) ∧ (¬ (Int32.ofNat nx1) ≤ x4 → (vp_in x4 nx1) ∧ (∀ u3 : AH, u3 = (hset h.1 x1 (Int32.toNatClampNeg x4) s0, h.2) → (∃ PP : AH → Prop, CV yX2_step cX2_step 1 1 21 [.ref 1] u3 PP ∧ ∀ u : AH, PP u → EX Z 6 (QV Z post) 59 u [some (.ref 1), some (.ref x1), some (.int x2), none, some (.int x4), none] [])))))
    : EX Z 6 (QV Z post) 32 h [some (.ref 1), some (.ref x1), some (.int x2), none, some (.int x4), none] [.int s0] := by
  refine ex_istore (lv' := [some (.ref 1), some (.ref x1), some (.int x2), none, some (.int x4), some (.int s0)]) hX dX2_readRowOnce_32 (by decide) rfl ?_
  refine ex_iload hX dX2_readRowOnce_34 rfl ?_
  refine ex_aload_n hX dX2_readRowOnce_36 rfl rfl ?_
  refine ex_alen (v := Int32.ofNat nx1) hX ax1 (by decide) rfl dX2_readRowOnce_37 ?_
  refine ex_icmpge hX 50 dX2_readRowOnce_38 (by decide) (fun c1 => ?_) (fun c1 => ?_)
  · replace w := w.1 c1
    refine ex_aload_n hX dX2_readRowOnce_50 rfl rfl ?_
    refine ex_iconst (v := 4) hX dX2_readRowOnce_51 rfl ?_
    obtain ⟨PP, pM, pK⟩ := w
    exact ex_callVv (ci := 2) (i := 1) (As := [.int 4]) (st := []) hX pM CS_2_57 MS_X2_find rfl rfl rfl (by decide) rfl (Nat.le_of_ble_eq_true rfl) dX2_readRowOnce_52 (fun u hp => ex_forget [some (.ref 1), some (.ref x1), some (.int x2), none, some (.int x4), none] ⟨rfl, ⟨rfl, ⟨rfl, ⟨rfl, trivial⟩⟩⟩⟩ (pK u hp))
  · replace w := w.2 c1
    refine ex_aload_n hX dX2_readRowOnce_41 rfl rfl ?_
    refine ex_iload hX dX2_readRowOnce_42 rfl ?_
    refine ex_iload hX dX2_readRowOnce_44 rfl ?_
    obtain ⟨q2, w⟩ := w
    refine ex_iast hX ax1 q2 dX2_readRowOnce_46 ?_
    refine ex_nameH (fun u3 eu3 => ?_)
    replace w := w u3 eu3
    refine ex_goto hX 55 dX2_readRowOnce_47 (by decide) ?_
    refine ex_aload_n hX dX2_readRowOnce_55 rfl rfl ?_
    obtain ⟨PP, pM, pK⟩ := w
    exact ex_callVv (ci := 2) (i := 1) (As := []) (st := []) hX pM CS_2_33 MS_X2_step rfl rfl rfl (by decide) rfl (Nat.le_of_ble_eq_true rfl) dX2_readRowOnce_56 (fun u hp => ex_forget [some (.ref 1), some (.ref x1), some (.int x2), none, some (.int x4), none] ⟨rfl, ⟨rfl, ⟨rfl, ⟨rfl, trivial⟩⟩⟩⟩ (pK u hp))

set_option maxRecDepth 100000 in
set_option maxHeartbeats 4000000 in
theorem sg_X2_readRowOnce_55 {Z : CX × GX} {post : AH → Prop} {h : AH} {x1 nx1 : Nat} {x2 : Int32} {x4 : Int32} (hX : OK Z RX2 cX2_readRowOnce 6 none 3 63) (ax1 : ac x1 = some (0, nx1))
    (w : (∃ PP : AH → Prop, CV yX2_step cX2_step 1 1 21 [.ref 1] h PP ∧ ∀ u : AH, PP u → EX Z 6 (QV Z post) 59 u [some (.ref 1), some (.ref x1), some (.int x2), none, some (.int x4), none] []))
    : EX Z 6 (QV Z post) 55 h [some (.ref 1), some (.ref x1), some (.int x2), none, some (.int x4), none] [] := by
  refine ex_aload_n hX dX2_readRowOnce_55 rfl rfl ?_
  obtain ⟨PP, pM, pK⟩ := w
  exact ex_callVv (ci := 2) (i := 1) (As := []) (st := []) hX pM CS_2_33 MS_X2_step rfl rfl rfl (by decide) rfl (Nat.le_of_ble_eq_true rfl) dX2_readRowOnce_56 (fun u hp => pK u hp)

set_option maxRecDepth 100000 in
set_option maxHeartbeats 4000000 in
theorem sg_X2_readRowOnce_59 {Z : CX × GX} {post : AH → Prop} {h : AH} {x1 nx1 : Nat} {x2 : Int32} {x4 : Int32} (hX : OK Z RX2 cX2_readRowOnce 6 none 3 63) (ax1 : ac x1 = some (0, nx1))
    (w : (∃ PP : Int32 → AH → Prop, CI yX2_isSign cX2_isSign 2 (some .boolean) 0 0 [.ref 1, .int 59] h PP ∧ ∀ (r : Int32) (u : AH), PP r u → EX Z 6 (QV Z post) 65 u [some (.ref 1), some (.ref x1), some (.int x2), none, some (.int x4), none] (.int r :: [])))
    : EX Z 6 (QV Z post) 59 h [some (.ref 1), some (.ref x1), some (.int x2), none, some (.int x4), none] [] := by
  refine ex_aload_n hX dX2_readRowOnce_59 rfl rfl ?_
  refine ex_bipush (v := 59) hX dX2_readRowOnce_60 rfl ?_
  obtain ⟨PP, pM, pK⟩ := w
  exact ex_callIv (ci := 2) (i := 1) (As := [.int 59]) (st := []) hX pM CS_2_128 MS_X2_isSign rfl rfl rfl (by decide) rfl (Nat.le_of_ble_eq_true rfl) dX2_readRowOnce_62 (fun r u hp => pK r u hp)

set_option maxRecDepth 100000 in
set_option maxHeartbeats 4000000 in
theorem sg_X2_readRowOnce_65 {Z : CX × GX} {post : AH → Prop} {h : AH} {x1 nx1 : Nat} {x2 : Int32} {x4 : Int32} {s0 : Int32} (hX : OK Z RX2 cX2_readRowOnce 6 none 3 63) (ax1 : ac x1 = some (0, nx1))
    (w : ((s0 = 0 → (∃ PP : Int32 → AH → Prop, CI yX2_isSign cX2_isSign 2 (some .boolean) 0 0 [.ref 1, .int 44] h PP ∧ ∀ (r : Int32) (u : AH), PP r u → EX Z 6 (QV Z post) 75 u [some (.ref 1), some (.ref x1), some (.int x2), none, some (.int x4), none] (.int r :: []))) ∧ (¬ s0 = 0 → post h)))
    : EX Z 6 (QV Z post) 65 h [some (.ref 1), some (.ref x1), some (.int x2), none, some (.int x4), none] [.int s0] := by
  refine ex_ifeq hX 69 dX2_readRowOnce_65 (by decide) (fun c1 => ?_) (fun c1 => ?_)
  · replace w := w.1 c1
    refine ex_aload_n hX dX2_readRowOnce_69 rfl rfl ?_
    refine ex_bipush (v := 44) hX dX2_readRowOnce_70 rfl ?_
    obtain ⟨PP, pM, pK⟩ := w
    exact ex_callIv (ci := 2) (i := 1) (As := [.int 44]) (st := []) hX pM CS_2_128 MS_X2_isSign rfl rfl rfl (by decide) rfl (Nat.le_of_ble_eq_true rfl) dX2_readRowOnce_72 (fun r u hp => pK r u hp)
  · replace w := w.2 c1
    exact ex_vret hX dX2_readRowOnce_68 w

set_option maxRecDepth 100000 in
set_option maxHeartbeats 4000000 in
theorem sg_X2_readRowOnce_75 {Z : CX × GX} {post : AH → Prop} {h : AH} {x1 nx1 : Nat} {x2 : Int32} {x4 : Int32} {s0 : Int32} (hX : OK Z RX2 cX2_readRowOnce 6 none 3 63) (ax1 : ac x1 = some (0, nx1))
    (w : ((¬ s0 = 0 → EX Z 6 (QV Z post) 12 h [some (.ref 1), some (.ref x1), some (.int x2), none, some (.int (x4 + 1)), none] []) ∧ (s0 = 0 → (∃ PP : AH → Prop, CV yX2_find cX2_find 2 0 0 [.ref 1, .int 1] h PP ∧ ∀ u : AH, PP u → EX Z 6 (QV Z post) 83 u [some (.ref 1), some (.ref x1), some (.int x2), none, some (.int x4), none] []))))
    : EX Z 6 (QV Z post) 75 h [some (.ref 1), some (.ref x1), some (.int x2), none, some (.int x4), none] [.int s0] := by
  refine ex_ifne hX 83 dX2_readRowOnce_75 (by decide) (fun c1 => ?_) (fun c1 => ?_)
  · replace w := w.1 c1
    refine ex_iinc (v := x4 + 1) (lv' := [some (.ref 1), some (.ref x1), some (.int x2), none, some (.int (x4 + 1)), none]) hX dX2_readRowOnce_83 rfl rfl (by decide) rfl ?_
    refine ex_goto hX 12 dX2_readRowOnce_86 (by decide) ?_
    exact w
  · replace w := w.2 c1
    refine ex_aload_n hX dX2_readRowOnce_78 rfl rfl ?_
    refine ex_iconst (v := 1) hX dX2_readRowOnce_79 rfl ?_
    obtain ⟨PP, pM, pK⟩ := w
    exact ex_callVv (ci := 2) (i := 1) (As := [.int 1]) (st := []) hX pM CS_2_57 MS_X2_find rfl rfl rfl (by decide) rfl (Nat.le_of_ble_eq_true rfl) dX2_readRowOnce_80 (fun u hp => pK u hp)

set_option maxRecDepth 100000 in
set_option maxHeartbeats 4000000 in
theorem sg_X2_readRowOnce_83 {Z : CX × GX} {post : AH → Prop} {h : AH} {x1 nx1 : Nat} {x2 : Int32} {x4 : Int32} (hX : OK Z RX2 cX2_readRowOnce 6 none 3 63) (ax1 : ac x1 = some (0, nx1))
    (w : EX Z 6 (QV Z post) 12 h [some (.ref 1), some (.ref x1), some (.int x2), none, some (.int (x4 + 1)), none] [])
    : EX Z 6 (QV Z post) 83 h [some (.ref 1), some (.ref x1), some (.int x2), none, some (.int x4), none] [] := by
  refine ex_iinc (v := x4 + 1) (lv' := [some (.ref 1), some (.ref x1), some (.int x2), none, some (.int (x4 + 1)), none]) hX dX2_readRowOnce_83 rfl rfl (by decide) rfl ?_
  refine ex_goto hX 12 dX2_readRowOnce_86 (by decide) ?_
  exact w

set_option maxRecDepth 100000 in
set_option maxHeartbeats 4000000 in
theorem sg_X2_readClause_0 {Z : CX × GX} {post : AH → Prop} {h : AH} {x1 : Nat} (hX : OK Z RX2 cX2_readClause 2 none 5 122) (ox1 : oc x1 = some 0)
    (w : (∃ PP : Int32 → AH → Prop, CI yX2_isWord cX2_isWord 3 (some .boolean) 4 100 [.ref 1, .ref (200 + 0)] h PP ∧ ∀ (r : Int32) (u : AH), PP r u → EX Z 2 (QV Z post) 6 u [some (.ref 1), some (.ref x1)] (.int r :: [])))
    : EX Z 2 (QV Z post) 0 h [some (.ref 1), some (.ref x1)] [] := by
  refine ex_aload_n hX dX2_readClause_0 rfl rfl ?_
  refine ex_ldcS (j := 0) hX dX2_readClause_1 (by decide) rfl ?_
  obtain ⟨PP, pM, pK⟩ := w
  exact ex_callIv (ci := 2) (i := 1) (As := [.ref (200 + 0)]) (st := []) hX pM CS_2_53 MS_X2_isWord rfl rfl rfl (by decide) rfl (Nat.le_of_ble_eq_true rfl) dX2_readClause_3 (fun r u hp => pK r u hp)

set_option maxRecDepth 100000 in
set_option maxHeartbeats 4000000 in
theorem sg_X2_readClause_6 {Z : CX × GX} {post : AH → Prop} {h : AH} {x1 : Nat} {s0 : Int32} (hX : OK Z RX2 cX2_readClause 2 none 5 122) (ox1 : oc x1 = some 0)
    (w : ((s0 = 0 → ((¬ (h.1 x1 0) = 0 → (∃ PP : Int32 → AH → Prop, CI yX2_isWord cX2_isWord 3 (some .boolean) 4 100 [.ref 1, .ref (200 + 1)] h PP ∧ ∀ (r : Int32) (u : AH), PP r u → EX Z 2 (QV Z post) 50 u [some (.ref 1), some (.ref x1)] (.int r :: []))) ∧ ((h.1 x1 0) = 0 → (∃ PP : AH → Prop, CV yX2_find cX2_find 2 0 0 [.ref 1, .int 1] h PP ∧ ∀ u : AH, PP u → EX Z 2 (QV Z post) 41 u [none, none] [])))) ∧ (¬ s0 = 0 → (((h.1 x1 0) ≤ 0 → (∃ PP : AH → Prop, CV yX2_readBasin cX2_readBasin 5 3 63 [.ref 1, .ref x1] h PP ∧ ∀ u : AH, PP u → EX Z 2 (QV Z post) 26 u [none, none] [])) ∧ (¬ (h.1 x1 0) ≤ 0 → (∃ PP : AH → Prop, CV yX2_find cX2_find 2 0 0 [.ref 1, .int 3] h PP ∧ ∀ u : AH, PP u → EX Z 2 (QV Z post) 21 u [some (.ref 1), some (.ref x1)] []))))))
    : EX Z 2 (QV Z post) 6 h [some (.ref 1), some (.ref x1)] [.int s0] := by
  refine ex_ifeq hX 29 dX2_readClause_6 (by decide) (fun c1 => ?_) (fun c1 => ?_)
  · replace w := w.1 c1
    refine ex_aload_n hX dX2_readClause_29 rfl rfl ?_
    refine ex_get hX (.int (h.1 x1 0)) FL_2_43 ox1 (fun _ => rfl) dX2_readClause_30 ?_
    refine ex_ifne hX 44 dX2_readClause_33 (by decide) (fun c2 => ?_) (fun c2 => ?_)
    · replace w := w.1 c2
      refine ex_aload_n hX dX2_readClause_44 rfl rfl ?_
      refine ex_ldcS (j := 1) hX dX2_readClause_45 (by decide) rfl ?_
      obtain ⟨PP, pM, pK⟩ := w
      exact ex_callIv (ci := 2) (i := 1) (As := [.ref (200 + 1)]) (st := []) hX pM CS_2_53 MS_X2_isWord rfl rfl rfl (by decide) rfl (Nat.le_of_ble_eq_true rfl) dX2_readClause_47 (fun r u hp => pK r u hp)
    · replace w := w.2 c2
      refine ex_aload_n hX dX2_readClause_36 rfl rfl ?_
      refine ex_iconst (v := 1) hX dX2_readClause_37 rfl ?_
      obtain ⟨PP, pM, pK⟩ := w
      exact ex_callVv (ci := 2) (i := 1) (As := [.int 1]) (st := []) hX pM CS_2_57 MS_X2_find rfl rfl rfl (by decide) rfl (Nat.le_of_ble_eq_true rfl) dX2_readClause_38 (fun u hp => ex_forget [none, none] trivial (pK u hp))
  · replace w := w.2 c1
    refine ex_aload_n hX dX2_readClause_9 rfl rfl ?_
    refine ex_get hX (.int (h.1 x1 0)) FL_2_43 ox1 (fun _ => rfl) dX2_readClause_10 ?_
    refine ex_ifle hX 21 dX2_readClause_13 (by decide) (fun c3 => ?_) (fun c3 => ?_)
    · replace w := w.1 c3
      refine ex_aload_n hX dX2_readClause_21 rfl rfl ?_
      refine ex_aload_n hX dX2_readClause_22 rfl rfl ?_
      obtain ⟨PP, pM, pK⟩ := w
      exact ex_callVv (ci := 2) (i := 1) (As := [.ref x1]) (st := []) hX pM CS_2_80 MS_X2_readBasin rfl rfl rfl (by decide) rfl (Nat.le_of_ble_eq_true rfl) dX2_readClause_23 (fun u hp => ex_forget [none, none] trivial (pK u hp))
    · replace w := w.2 c3
      refine ex_aload_n hX dX2_readClause_16 rfl rfl ?_
      refine ex_iconst (v := 3) hX dX2_readClause_17 rfl ?_
      obtain ⟨PP, pM, pK⟩ := w
      exact ex_callVv (ci := 2) (i := 1) (As := [.int 3]) (st := []) hX pM CS_2_57 MS_X2_find rfl rfl rfl (by decide) rfl (Nat.le_of_ble_eq_true rfl) dX2_readClause_18 (fun u hp => pK u hp)

set_option maxRecDepth 100000 in
set_option maxHeartbeats 4000000 in
theorem sg_X2_readClause_21 {Z : CX × GX} {post : AH → Prop} {h : AH} {x1 : Nat} (hX : OK Z RX2 cX2_readClause 2 none 5 122) (ox1 : oc x1 = some 0)
    (w : (∃ PP : AH → Prop, CV yX2_readBasin cX2_readBasin 5 3 63 [.ref 1, .ref x1] h PP ∧ ∀ u : AH, PP u → EX Z 2 (QV Z post) 26 u [none, none] []))
    : EX Z 2 (QV Z post) 21 h [some (.ref 1), some (.ref x1)] [] := by
  refine ex_aload_n hX dX2_readClause_21 rfl rfl ?_
  refine ex_aload_n hX dX2_readClause_22 rfl rfl ?_
  obtain ⟨PP, pM, pK⟩ := w
  exact ex_callVv (ci := 2) (i := 1) (As := [.ref x1]) (st := []) hX pM CS_2_80 MS_X2_readBasin rfl rfl rfl (by decide) rfl (Nat.le_of_ble_eq_true rfl) dX2_readClause_23 (fun u hp => ex_forget [none, none] trivial (pK u hp))

set_option maxRecDepth 100000 in
set_option maxHeartbeats 4000000 in
theorem sg_X2_readClause_26 {Z : CX × GX} {post : AH → Prop} {h : AH}  (hX : OK Z RX2 cX2_readClause 2 none 5 122) 
    (w : post h)
    : EX Z 2 (QV Z post) 26 h [none, none] [] := by
  refine ex_goto hX 151 dX2_readClause_26 (by decide) ?_
  exact ex_vret hX dX2_readClause_151 w

set_option maxRecDepth 100000 in
set_option maxHeartbeats 4000000 in
theorem sg_X2_readClause_41 {Z : CX × GX} {post : AH → Prop} {h : AH}  (hX : OK Z RX2 cX2_readClause 2 none 5 122) 
    (w : post h)
    : EX Z 2 (QV Z post) 41 h [none, none] [] := by
  refine ex_goto hX 151 dX2_readClause_41 (by decide) ?_
  exact ex_vret hX dX2_readClause_151 w

set_option maxRecDepth 100000 in
set_option maxHeartbeats 4000000 in
theorem sg_X2_readClause_50 {Z : CX × GX} {post : AH → Prop} {h : AH} {x1 : Nat} {s0 : Int32} (hX : OK Z RX2 cX2_readClause 2 none 5 122) (ox1 : oc x1 = some 0)
    (w : ((s0 = 0 → (∃ PP : Int32 → AH → Prop, CI yX2_isWord cX2_isWord 3 (some .boolean) 4 100 [.ref 1, .ref (200 + 2)] h PP ∧ ∀ (r : Int32) (u : AH), PP r u → EX Z 2 (QV Z post) 72 u [some (.ref 1), some (.ref x1)] (.int r :: []))) ∧ (¬ s0 = 0 → (∃ PP : AH → Prop, CV yX2_checkPond cX2_checkPond 2 1 21 [.ref 1, .ref x1] h PP ∧ ∀ u : AH, PP u → EX Z 2 (QV Z post) 58 u [some (.ref 1), some (.ref x1)] []))))
    : EX Z 2 (QV Z post) 50 h [some (.ref 1), some (.ref x1)] [.int s0] := by
  refine ex_ifeq hX 66 dX2_readClause_50 (by decide) (fun c1 => ?_) (fun c1 => ?_)
  · replace w := w.1 c1
    refine ex_aload_n hX dX2_readClause_66 rfl rfl ?_
    refine ex_ldcS (j := 2) hX dX2_readClause_67 (by decide) rfl ?_
    obtain ⟨PP, pM, pK⟩ := w
    exact ex_callIv (ci := 2) (i := 1) (As := [.ref (200 + 2)]) (st := []) hX pM CS_2_53 MS_X2_isWord rfl rfl rfl (by decide) rfl (Nat.le_of_ble_eq_true rfl) dX2_readClause_69 (fun r u hp => pK r u hp)
  · replace w := w.2 c1
    refine ex_aload_n hX dX2_readClause_53 rfl rfl ?_
    refine ex_aload_n hX dX2_readClause_54 rfl rfl ?_
    obtain ⟨PP, pM, pK⟩ := w
    exact ex_callVv (ci := 2) (i := 1) (As := [.ref x1]) (st := []) hX pM CS_2_85 MS_X2_checkPond rfl rfl rfl (by decide) rfl (Nat.le_of_ble_eq_true rfl) dX2_readClause_55 (fun u hp => pK u hp)

set_option maxRecDepth 100000 in
set_option maxHeartbeats 4000000 in
theorem sg_X2_readClause_58 {Z : CX × GX} {post : AH → Prop} {h : AH} {x1 : Nat} (hX : OK Z RX2 cX2_readClause 2 none 5 122) (ox1 : oc x1 = some 0)
    (w : (∃ PP : AH → Prop, CV yX2_readBasin cX2_readBasin 5 3 63 [.ref 1, .ref x1] h PP ∧ ∀ u : AH, PP u → EX Z 2 (QV Z post) 63 u [none, none] []))
    : EX Z 2 (QV Z post) 58 h [some (.ref 1), some (.ref x1)] [] := by
  refine ex_aload_n hX dX2_readClause_58 rfl rfl ?_
  refine ex_aload_n hX dX2_readClause_59 rfl rfl ?_
  obtain ⟨PP, pM, pK⟩ := w
  exact ex_callVv (ci := 2) (i := 1) (As := [.ref x1]) (st := []) hX pM CS_2_80 MS_X2_readBasin rfl rfl rfl (by decide) rfl (Nat.le_of_ble_eq_true rfl) dX2_readClause_60 (fun u hp => ex_forget [none, none] trivial (pK u hp))

set_option maxRecDepth 100000 in
set_option maxHeartbeats 4000000 in
theorem sg_X2_readClause_63 {Z : CX × GX} {post : AH → Prop} {h : AH}  (hX : OK Z RX2 cX2_readClause 2 none 5 122) 
    (w : post h)
    : EX Z 2 (QV Z post) 63 h [none, none] [] := by
  refine ex_goto hX 151 dX2_readClause_63 (by decide) ?_
  exact ex_vret hX dX2_readClause_151 w

set_option maxRecDepth 100000 in
set_option maxHeartbeats 4000000 in
theorem sg_X2_readClause_72 {Z : CX × GX} {post : AH → Prop} {h : AH} {x1 : Nat} {s0 : Int32} (hX : OK Z RX2 cX2_readClause 2 none 5 122) (ox1 : oc x1 = some 0)
    (w : ((s0 = 0 → (∃ PP : Int32 → AH → Prop, CI yX2_isWord cX2_isWord 3 (some .boolean) 4 100 [.ref 1, .ref (200 + 3)] h PP ∧ ∀ (r : Int32) (u : AH), PP r u → EX Z 2 (QV Z post) 103 u [some (.ref 1), some (.ref x1)] (.int r :: []))) ∧ (¬ s0 = 0 → (∃ PP : AH → Prop, CV yX2_readRowOnce cX2_readRowOnce 6 3 63 [.ref 1, .ref (x1 + 6), .int 99, .int (h.1 1 8)] h PP ∧ ∀ u : AH, PP u → EX Z 2 (QV Z post) 89 u [some (.ref 1), none] []))))
    : EX Z 2 (QV Z post) 72 h [some (.ref 1), some (.ref x1)] [.int s0] := by
  refine ex_ifeq hX 97 dX2_readClause_72 (by decide) (fun c1 => ?_) (fun c1 => ?_)
  · replace w := w.1 c1
    refine ex_aload_n hX dX2_readClause_97 rfl rfl ?_
    refine ex_ldcS (j := 3) hX dX2_readClause_98 (by decide) rfl ?_
    obtain ⟨PP, pM, pK⟩ := w
    exact ex_callIv (ci := 2) (i := 1) (As := [.ref (200 + 3)]) (st := []) hX pM CS_2_53 MS_X2_isWord rfl rfl rfl (by decide) rfl (Nat.le_of_ble_eq_true rfl) dX2_readClause_100 (fun r u hp => pK r u hp)
  · replace w := w.2 c1
    refine ex_aload_n hX dX2_readClause_75 rfl rfl ?_
    refine ex_aload_n hX dX2_readClause_76 rfl rfl ?_
    refine ex_get hX (.ref (x1 + 6)) FL_2_90 ox1 (fun _ => rfl) dX2_readClause_77 ?_
    refine ex_bipush (v := 99) hX dX2_readClause_80 rfl ?_
    refine ex_aload_n hX dX2_readClause_82 rfl rfl ?_
    refine ex_get hX (.int (h.1 1 8)) FL_2_68 rfl (fun _ => rfl) dX2_readClause_83 ?_
    obtain ⟨PP, pM, pK⟩ := w
    exact ex_callVv (ci := 2) (i := 1) (As := [.ref (x1 + 6), .int 99, .int (h.1 1 8)]) (st := []) hX pM CS_2_93 MS_X2_readRowOnce rfl rfl rfl (by decide) rfl (Nat.le_of_ble_eq_true rfl) dX2_readClause_86 (fun u hp => ex_forget [some (.ref 1), none] ⟨rfl, trivial⟩ (pK u hp))

set_option maxRecDepth 100000 in
set_option maxHeartbeats 4000000 in
theorem sg_X2_readClause_89 {Z : CX × GX} {post : AH → Prop} {h : AH}  (hX : OK Z RX2 cX2_readClause 2 none 5 122) 
    (w : (∀ u1 : AH, u1 = (hset h.1 1 8 1, h.2) → post u1))
    : EX Z 2 (QV Z post) 89 h [some (.ref 1), none] [] := by
  refine ex_aload_n hX dX2_readClause_89 rfl rfl ?_
  refine ex_iconst (v := 1) hX dX2_readClause_90 rfl ?_
  refine ex_put hX .boolean FL_2_68 tyX2 tyX2_ok nmX2 rfl rfl rfl rfl rfl (fun _ => (by decide : 8 < 11)) (fun _ => fs_2_8) dX2_readClause_91 ?_
  refine ex_nameH (fun u1 eu1 => ?_)
  replace w := w u1 eu1
  refine ex_goto hX 151 dX2_readClause_94 (by decide) ?_
  exact ex_vret hX dX2_readClause_151 w

set_option maxRecDepth 100000 in
set_option maxHeartbeats 4000000 in
theorem sg_X2_readClause_103 {Z : CX × GX} {post : AH → Prop} {h : AH} {x1 : Nat} {s0 : Int32} (hX : OK Z RX2 cX2_readClause 2 none 5 122) (ox1 : oc x1 = some 0)
    (w : ((s0 = 0 → (∃ PP : Int32 → AH → Prop, CI yX2_isWord cX2_isWord 3 (some .boolean) 4 100 [.ref 1, .ref (200 + 4)] h PP ∧ ∀ (r : Int32) (u : AH), PP r u → EX Z 2 (QV Z post) 135 u [some (.ref 1), some (.ref x1)] (.int r :: []))) ∧ (¬ s0 = 0 → (∃ PP : AH → Prop, CV yX2_readRowOnce cX2_readRowOnce 6 3 63 [.ref 1, .ref (x1 + 7), .int 999, .int (h.1 1 9)] h PP ∧ ∀ u : AH, PP u → EX Z 2 (QV Z post) 121 u [some (.ref 1), none] []))))
    : EX Z 2 (QV Z post) 103 h [some (.ref 1), some (.ref x1)] [.int s0] := by
  refine ex_ifeq hX 129 dX2_readClause_103 (by decide) (fun c1 => ?_) (fun c1 => ?_)
  · replace w := w.1 c1
    refine ex_aload_n hX dX2_readClause_129 rfl rfl ?_
    refine ex_ldcS (j := 4) hX dX2_readClause_130 (by decide) rfl ?_
    obtain ⟨PP, pM, pK⟩ := w
    exact ex_callIv (ci := 2) (i := 1) (As := [.ref (200 + 4)]) (st := []) hX pM CS_2_53 MS_X2_isWord rfl rfl rfl (by decide) rfl (Nat.le_of_ble_eq_true rfl) dX2_readClause_132 (fun r u hp => pK r u hp)
  · replace w := w.2 c1
    refine ex_aload_n hX dX2_readClause_106 rfl rfl ?_
    refine ex_aload_n hX dX2_readClause_107 rfl rfl ?_
    refine ex_get hX (.ref (x1 + 7)) FL_2_99 ox1 (fun _ => rfl) dX2_readClause_108 ?_
    refine ex_sipush (v := 999) hX dX2_readClause_111 rfl ?_
    refine ex_aload_n hX dX2_readClause_114 rfl rfl ?_
    refine ex_get hX (.int (h.1 1 9)) FL_2_72 rfl (fun _ => rfl) dX2_readClause_115 ?_
    obtain ⟨PP, pM, pK⟩ := w
    exact ex_callVv (ci := 2) (i := 1) (As := [.ref (x1 + 7), .int 999, .int (h.1 1 9)]) (st := []) hX pM CS_2_93 MS_X2_readRowOnce rfl rfl rfl (by decide) rfl (Nat.le_of_ble_eq_true rfl) dX2_readClause_118 (fun u hp => ex_forget [some (.ref 1), none] ⟨rfl, trivial⟩ (pK u hp))

set_option maxRecDepth 100000 in
set_option maxHeartbeats 4000000 in
theorem sg_X2_readClause_121 {Z : CX × GX} {post : AH → Prop} {h : AH}  (hX : OK Z RX2 cX2_readClause 2 none 5 122) 
    (w : (∀ u1 : AH, u1 = (hset h.1 1 9 1, h.2) → post u1))
    : EX Z 2 (QV Z post) 121 h [some (.ref 1), none] [] := by
  refine ex_aload_n hX dX2_readClause_121 rfl rfl ?_
  refine ex_iconst (v := 1) hX dX2_readClause_122 rfl ?_
  refine ex_put hX .boolean FL_2_72 tyX2 tyX2_ok nmX2 rfl rfl rfl rfl rfl (fun _ => (by decide : 9 < 11)) (fun _ => fs_2_9) dX2_readClause_123 ?_
  refine ex_nameH (fun u1 eu1 => ?_)
  replace w := w u1 eu1
  refine ex_goto hX 151 dX2_readClause_126 (by decide) ?_
  exact ex_vret hX dX2_readClause_151 w

set_option maxRecDepth 100000 in
set_option maxHeartbeats 4000000 in
theorem sg_X2_readClause_135 {Z : CX × GX} {post : AH → Prop} {h : AH} {x1 : Nat} {s0 : Int32} (hX : OK Z RX2 cX2_readClause 2 none 5 122) (ox1 : oc x1 = some 0)
    (w : ((s0 = 0 → (∃ PP : AH → Prop, CV yX2_find cX2_find 2 0 0 [.ref 1, .int 1] h PP ∧ ∀ u : AH, PP u → EX Z 2 (QV Z post) 151 u [none, none] [])) ∧ (¬ s0 = 0 → (∃ PP : AH → Prop, CV yX2_readGate cX2_readGate 5 3 63 [.ref 1, .ref x1] h PP ∧ ∀ u : AH, PP u → EX Z 2 (QV Z post) 143 u [none, none] []))))
    : EX Z 2 (QV Z post) 135 h [some (.ref 1), some (.ref x1)] [.int s0] := by
  refine ex_ifeq hX 146 dX2_readClause_135 (by decide) (fun c1 => ?_) (fun c1 => ?_)
  · replace w := w.1 c1
    refine ex_aload_n hX dX2_readClause_146 rfl rfl ?_
    refine ex_iconst (v := 1) hX dX2_readClause_147 rfl ?_
    obtain ⟨PP, pM, pK⟩ := w
    exact ex_callVv (ci := 2) (i := 1) (As := [.int 1]) (st := []) hX pM CS_2_57 MS_X2_find rfl rfl rfl (by decide) rfl (Nat.le_of_ble_eq_true rfl) dX2_readClause_148 (fun u hp => ex_forget [none, none] trivial (pK u hp))
  · replace w := w.2 c1
    refine ex_aload_n hX dX2_readClause_138 rfl rfl ?_
    refine ex_aload_n hX dX2_readClause_139 rfl rfl ?_
    obtain ⟨PP, pM, pK⟩ := w
    exact ex_callVv (ci := 2) (i := 1) (As := [.ref x1]) (st := []) hX pM CS_2_103 MS_X2_readGate rfl rfl rfl (by decide) rfl (Nat.le_of_ble_eq_true rfl) dX2_readClause_140 (fun u hp => ex_forget [none, none] trivial (pK u hp))

set_option maxRecDepth 100000 in
set_option maxHeartbeats 4000000 in
theorem sg_X2_readClause_143 {Z : CX × GX} {post : AH → Prop} {h : AH}  (hX : OK Z RX2 cX2_readClause 2 none 5 122) 
    (w : post h)
    : EX Z 2 (QV Z post) 143 h [none, none] [] := by
  refine ex_goto hX 151 dX2_readClause_143 (by decide) ?_
  exact ex_vret hX dX2_readClause_151 w

set_option maxRecDepth 100000 in
set_option maxHeartbeats 4000000 in
theorem sg_X2_readClause_151 {Z : CX × GX} {post : AH → Prop} {h : AH}  (hX : OK Z RX2 cX2_readClause 2 none 5 122) 
    (w : post h)
    : EX Z 2 (QV Z post) 151 h [none, none] [] := by
  exact ex_vret hX dX2_readClause_151 w

/-! the class reads clauses -/
def chC (c w i k : Nat) : Prop := (i = 1 ∧ 2 ≤ k) ∨ (c ≤ i ∧ i < c + w)
def FRd (c w : Nat) (h u : AH) : Prop := u.2 = h.2 ∧ ∀ i k, ¬ chC c w i k → u.1 i k = h.1 i k
theorem hset_at {f : Nat → SG} {i k a j : Nat} {v : Int32} (h : ¬ (a = i ∧ j = k)) : hset f i k v a j = f a j := by
  unfold hset
  by_cases c : a = i
  · rw [if_pos c, upd_ne (fun z => h ⟨c, z⟩)]
  · rw [if_neg c]
theorem FRd.rf {c w : Nat} {h : AH} : FRd c w h h := ⟨rfl, fun _ _ _ => rfl⟩
theorem FRd.tr {c w : Nat} {h u v : AH} (a : FRd c w h u) (b : FRd c w u v) : FRd c w h v := ⟨b.1.trans a.1, fun i k z => (b.2 i k z).trans (a.2 i k z)⟩
theorem FRd.of {c w : Nat} {h u : AH} (a : FRc h u) : FRd c w h u := ⟨a.1, fun i k z => by
  unfold chC at z
  by_cases e : i = 1
  · subst e; exact a.2.2 k (by omega)
  · rw [a.2.1 i e]⟩
theorem FRd.set {c w i k : Nat} {h u u2 : AH} {v : Int32} (a : FRd c w h u) (hk : chC c w i k) (e : u2 = (hset u.1 i k v, u.2)) : FRd c w h u2 := ⟨by rw [e]; exact a.1, fun j l z => by
  rw [e]
  show hset u.1 i k v j l = _
  rw [hset_at (fun y => z (by rw [y.1, y.2]; exact hk))]
  exact a.2 j l z⟩
theorem TXc.fd {T : Nat → Nat} {L c w : Nat} {h u : AH} (a : TXc T L h) (f : FRd c w h u) (hc : 3 ≤ c) : TXc T L u := ⟨a.1, by rw [f.2 1 1 (by unfold chC; omega)]; exact a.2.1, fun j hj => by rw [f.2 2 j (by unfold chC; omega)]; exact a.2.2 j hj⟩
def lcc (c p : Nat) : Nat × Nat := (if p < 800 then c + p / 100 else 1, p % 100)
def plc (p : Nat) : Prop := p = 0 ∨ (100 ≤ p ∧ p < 110) ∨ (200 ≤ p ∧ p < 210) ∨ (300 ≤ p ∧ p < 310) ∨ (400 ≤ p ∧ p < 409) ∨ (500 ≤ p ∧ p < 509) ∨ (600 ≤ p ∧ p < 624) ∨ (700 ≤ p ∧ p < 724) ∨ p = 808 ∨ p = 809 ∨ p = 810
def RCd (c : Nat) (d : Nat → Nat) (u : AH) : Prop := ∀ p, plc p → u.1 (lcc c p).1 (lcc c p).2 = nI (d p)
theorem lcc_c {c p a k : Nat} (hp : p = 100 * a + k) (hk : k < 100) (ha : a < 8) : lcc c p = (c + a, k) := by
  unfold lcc
  rw [if_pos (by omega), show p / 100 = a by omega, show p % 100 = k by omega]
theorem lcc_r {c p k : Nat} (hp : p = 800 + k) (hk : k < 100) : lcc c p = (1, k) := by
  unfold lcc
  rw [if_neg (by omega), show p % 100 = k by omega]
theorem RCd.at {c p a k : Nat} {d : Nat → Nat} {u : AH} (h : RCd c d u) (hp : plc p) (e : lcc c p = (a, k)) : u.1 a k = nI (d p) := by
  have := h p hp
  rw [e] at this
  exact this
theorem RCd.n {c : Nat} {d : Nat → Nat} {u : AH} (h : RCd c d u) : u.1 c 0 = nI (d 0) := h.at (Or.inl rfl) (lcc_c (a := 0) (k := 0) rfl (by omega) (by omega))
theorem lcc_inj {c p q : Nat} (hc : 3 ≤ c) (hp : plc p) (hq : plc q) (e1 : (lcc c p).1 = (lcc c q).1) (e2 : (lcc c p).2 = (lcc c q).2) : p = q := by
  unfold lcc at e1 e2
  unfold plc at hp hq
  dsimp only at e1 e2
  by_cases a : p < 800
  · rw [if_pos a] at e1
    by_cases b : q < 800
    · rw [if_pos b] at e1; omega
    · rw [if_neg b] at e1; omega
  · rw [if_neg a] at e1
    by_cases b : q < 800
    · rw [if_pos b] at e1; omega
    · omega
theorem RCd.set {c p a k v : Nat} {d : Nat → Nat} {u u2 : AH} (h : RCd c d u) (hc : 3 ≤ c) (hp : plc p) (el : lcc c p = (a, k)) (e : u2 = (hset u.1 a k (nI v), u.2)) : RCd c (dset d p v) u2 := by
  intro q hq
  rw [e]
  show hset u.1 a k (nI v) (lcc c q).1 (lcc c q).2 = _
  by_cases z : q = p
  · subst z
    rw [el, ds_eq]
    show hset u.1 a k (nI v) a k = _
    rw [hset_eq, upd_eq]
  · rw [ds_ne z, hset_at]
    · exact h q hq
    · intro y
      refine z (lcc_inj hc hq hp ?_ ?_)
      · rw [y.1, el]
      · rw [y.2, el]
theorem RCd.fr {c : Nat} {d : Nat → Nat} {h u : AH} (a : RCd c d h) (f : FRc h u) (hc : 3 ≤ c) : RCd c d u := by
  intro q hq
  rw [← a q hq]
  unfold plc at hq
  unfold lcc
  by_cases z : q < 800
  · rw [if_pos z]
    show u.1 (c + q / 100) _ = h.1 (c + q / 100) _
    rw [f.2.1 _ (by omega)]
  · rw [if_neg z]
    exact f.2.2 _ (by omega)
theorem chS_w : ∀ i, i < 6 → ∀ k, k < sL.getD i 0 → chS i k = nI (wB i k) ∧ wB i k < 128 := by decide +kernel
theorem by_neg : ∀ b, b < 256 → 128 ≤ b → byS b < 0 := by unfold byS; decide +kernel
theorem by_w {b w : Nat} (hb : b < 256) (hw : w < 128) : byS b = nI w ↔ b = w := by
  by_cases h : b < 128
  · rw [by_id b h, nI_eq (by omega) (by omega)]
  · have := by_neg b hb (by omega)
    constructor
    · intro z
      rw [z] at this
      exact absurd this (nI_pos (by omega))
    · intro z; omega

set_option maxRecDepth 100000 in
set_option maxHeartbeats 4000000 in
theorem c_X2_isWord {h : AH} {a1 : Nat} (ha1 : a1 < 6) {T : Nat → Nat} {L q : Nat} (hT : TXc T L h) (hq : q ≤ L) (e5 : h.1 1 5 = nI q) (k : KD T L q h) : CI yX2_isWord cX2_isWord 3 (some .boolean) 4 100 [.ref 1, .ref (200 + a1)] h (fun r u => r = bI (isW T L q a1 = true) ∧ u = h) := by
  refine CI.of [some (.ref 1), some (.ref (200 + a1)), none] (by decide +kernel) rfl (Nat.le_of_ble_eq_true rfl) rfl (fun Z hX => ?_)
  have hL := hT.1
  have h4 := sL_lt a1 ha1
  have nw : ¬ h.1 1 4 = 1 → ¬ isW T L q a1 = true := fun z y => by
    obtain ⟨-, y1, y2⟩ := isW_lt ha1 y
    rcases k with ⟨k1, -, -⟩ | ⟨-, -, k3, -⟩ | ⟨-, k2, -, -, -⟩ | ⟨-, k2, -, -, -⟩
    · omega
    · exact z k3
    · rw [lt_fg y2] at k2; cases k2
    · rw [y2] at k2; cases k2
  have LP : leN T L q - q = sL.getD a1 0 → ∀ n, n ≤ sL.getD a1 0 → (∀ j, j < n → T (q + j) = wB a1 j) → EX Z 3 (QI Z (fun r u => r = bI (isW T L q a1 = true) ∧ u = h)) 28 h [some (.ref 1), some (.ref (200 + a1)), some (.int (nI n))] [] := by
    intro hl
    have ll := le_le (T := T) hq
    refine ldown _ ?_ ?_
    · intro a
      refine sg_X2_isWord_28 hX ha1 ⟨fun _ => ⟨?_, rfl⟩, fun z => absurd (nI_le (Nat.le_refl _) (by omega)) z⟩
      rw [bI_t (show isW T L q a1 = true from decide_eq_true ⟨hl, a⟩)]
    · intro n hn ih a
      refine sg_X2_isWord_28 hX ha1 ⟨fun z => absurd z (nI_ge hn (by omega)), fun _ => ?_⟩
      rw [e5, nI_add, nI_clamp (by omega), nI_clamp (by omega), nI_1]
      obtain ⟨b, e⟩ := hT.2.2 (q + n) (by omega)
      obtain ⟨w1, w2⟩ := chS_w a1 ha1 n hn
      refine ⟨vp_in_nI (by omega) (by omega), fun v3 e3 => ⟨vp_in_nI hn (by omega), fun z => ?_, fun z => ⟨?_, rfl⟩⟩⟩
      · rw [e3, e, w1, by_w b w2] at z
        refine ih (fun j hj => ?_)
        by_cases c : j = n
        · rw [c]; exact z
        · exact a j (by omega)
      · rw [e3, e, w1, by_w b w2] at z
        rw [bI_f (fun y => z ((of_decide_eq_true y).2 n hn))]
  refine sg_X2_isWord_0 hX ha1 ⟨fun z => ⟨by rw [bI_f (nw z)], rfl⟩, fun z => ?_⟩
  have k6 : h.1 1 6 = nI (leN T L q) := by
    rcases k with ⟨-, k2, -⟩ | ⟨-, -, -, k4⟩ | ⟨-, -, k3, -, -⟩ | ⟨-, -, -, k4, -⟩
    · rw [k2] at z; exact absurd z (by decide)
    · exact k4
    · rw [k3] at z; exact absurd z (by decide)
    · rw [k4] at z; exact absurd z (by decide)
  have ll := le_le (T := T) hq
  rw [k6, e5, pk_sub ll.1, nI_eq (by omega) (by omega)]
  exact ⟨fun y => LP y 0 (by omega) (fun j hj => absurd hj (by omega)), fun y => ⟨by rw [bI_f (fun w => y (of_decide_eq_true w).1)], rfl⟩⟩

set_option maxRecDepth 100000 in
set_option maxHeartbeats 4000000 in
theorem c_X0_addBasin {h : AH} {a0 : Nat} {a1 : Int32} {a2 : Int32} {a3 : Int32} (ha0 : oc a0 = some 0) {d : Nat → Nat} {x1 x2 x3 : Nat} (hd : RCd a0 d h) (h9 : d 0 < 9) (hc : 3 ≤ a0) (e1 : a1 = nI x1) (e2 : a2 = nI x2) (e3 : a3 = nI x3) : CV yX0_addBasin cX0_addBasin 4 1 20 [.ref a0, .int a1, .int a2, .int a3] h (fun u => FRd a0 8 h u ∧ RCd a0 (dset (dset (dset (dset d (100 + d 0) x1) (200 + d 0) x2) (300 + d 0) x3) 0 (d 0 + 1)) u ∧ ∀ k, u.1 1 k = h.1 1 k) := by
  refine CV.of [some (.ref a0), some (.int a1), some (.int a2), some (.int a3)] (by decide +kernel) rfl (Nat.le_of_ble_eq_true rfl) rfl (fun Z hX => ?_)
  subst e1 e2 e3
  have e0 : h.1 a0 0 = nI (d 0) := hd.at (Or.inl rfl) (lcc_c (a := 0) (k := 0) rfl (by omega) (by omega))
  refine sg_X0_addBasin_0 hX ha0 ⟨fun z => absurd (by rw [e0, k_9]; exact nI_lt h9 (by omega)) z, fun _ => ?_⟩
  rw [e0, nI_clamp (by omega)]
  refine ⟨vp_in_nI (by omega) (by omega), fun u3 g3 => ?_⟩
  have f3 : FRd a0 8 h u3 := FRd.rf.set (by unfold chC; omega) g3
  have r3 : RCd a0 (dset d (100 + d 0) x1) u3 := hd.set hc (by unfold plc; omega) (lcc_c (a := 1) (k := d 0) rfl (by omega) (by omega)) g3
  have t3 : u3.1 a0 0 = nI (d 0) := by rw [r3.n, ds_ne (by omega)]
  rw [t3, nI_clamp (by omega)]
  refine ⟨vp_in_nI (by omega) (by omega), fun u5 g5 => ?_⟩
  have f5 := f3.set (by unfold chC; omega) g5
  have r5 := r3.set hc (p := 200 + d 0) (by unfold plc; omega) (lcc_c (a := 2) (k := d 0) rfl (by omega) (by omega)) g5
  have t5 : u5.1 a0 0 = nI (d 0) := by rw [r5.n, ds_ne (by omega), ds_ne (by omega)]
  rw [t5, nI_clamp (by omega)]
  refine ⟨vp_in_nI (by omega) (by omega), fun u7 g7 u8 g8 => ?_⟩
  have f7 := f5.set (by unfold chC; omega) g7
  have r7 := r5.set hc (p := 300 + d 0) (by unfold plc; omega) (lcc_c (a := 3) (k := d 0) rfl (by omega) (by omega)) g7
  have t7 : u7.1 a0 0 = nI (d 0) := by rw [r7.n, ds_ne (by omega), ds_ne (by omega), ds_ne (by omega)]
  rw [t7, nI_1] at g8
  refine ⟨f7.set (by unfold chC; omega) g8, r7.set hc (p := 0) (Or.inl rfl) (lcc_c (a := 0) (k := 0) rfl (by omega) (by omega)) g8, fun k => ?_⟩
  rw [g8, hs_o (by omega), g7, hs_o (by omega), g5, hs_o (by omega), g3, hs_o (by omega)]

theorem CR.same {L : Nat} {h u : AH} {c : Cur} (a : CR L h c) (e : ∀ k, u.1 1 k = h.1 1 k) : CR L u c := by
  unfold CR
  rw [e 2, e 3, e 5, e 6]
  exact a
theorem CR.pos {L : Nat} {h : AH} {c : Cur} (a : CR L h c) : c.1 = 0 → c.2.2 ≤ L := fun z => (a.2.2.2 z).1

set_option maxRecDepth 100000 in
set_option maxHeartbeats 4000000 in
theorem c_X2_readBasin {h : AH} {a1 : Nat} (ha1 : oc a1 = some 0) {T : Nat → Nat} {L : Nat} {c : Cur} {d : Nat → Nat} (hT : TXc T L h) (hC : CR L h c) (hc : 3 ≤ a1) (hR : c.1 = 0 → RCd a1 d h ∧ d 0 < 9) : CV yX2_readBasin cX2_readBasin 5 3 63 [.ref 1, .ref a1] h (fun u => FRd a1 8 h u ∧ CR L u (basS T L c d).1 ∧ ((basS T L c d).1.1 = 0 → RCd a1 (basS T L c d).2 u)) := by
  refine CV.of [some (.ref 1), some (.ref a1), none, none, none] (by decide +kernel) rfl (Nat.le_of_ble_eq_true rfl) rfl (fun Z hX => ?_)
  refine sg_X2_readBasin_0 hX ha1 ⟨_, c_X2_takeNumber (lo := 0) (hi := 999) hT hC (by omega) (by omega) rfl rfl, fun r1 u1 p1 => ?_⟩
  refine sg_X2_readBasin_8 hX ha1 ⟨_, c_X2_takeNumber (lo := 1) (hi := 99) (hT.of p1.1) p1.2.1 (by omega) (by omega) rfl rfl, fun r2 u2 p2 => ?_⟩
  have f2 := p1.1.tr p2.1
  refine sg_X2_readBasin_16 hX ha1 ⟨_, c_X2_takeNumber (lo := 0) (hi := 9999) (hT.of f2) p2.2.1 (by omega) (by omega) rfl rfl, fun r3 u3 p3 => ?_⟩
  have f3 := f2.tr p3.1
  refine sg_X2_readBasin_25 hX ha1 ⟨_, c_X2_takeSign (ch := 59) (hT.of f3) p3.2.1 (Or.inl rfl) rfl, fun u4 p4 => ?_⟩
  have f4 := f3.tr p4.1
  have c4 : CR L u4 (bas4 T L c) := p4.2
  refine sg_X2_readBasin_33 hX ha1 ⟨fun z => ?_, fun z => ?_⟩
  · have n0 : ¬ (bas4 T L c).1 = 0 := fun y => z ((CR_f c4).mpr y)
    exact ⟨FRd.of f4, c4, fun y => absurd y n0⟩
  · have n0 : (bas4 T L c).1 = 0 := (CR_f c4).mp z
    obtain ⟨b0, -, -, -, -, b1, b2, b3⟩ := bas_ok hC.pos n0
    obtain ⟨R, h9⟩ := hR b0
    refine ⟨_, c_X0_addBasin ha1 (R.fr f4 hc) h9 hc (p1.2.2 b1).1 (p2.2.2 b2).1 (p3.2.2 b3).1, fun u5 p5 => sg_X2_readBasin_48 hX ⟨(FRd.of f4).tr p5.1, c4.same p5.2.2, fun _ => ?_⟩⟩
    show RCd a1 (if (bas4 T L c).1 = 0 then basD T L c d else d) u5
    rw [if_pos n0]
    exact p5.2.1

set_option maxRecDepth 100000 in
set_option maxHeartbeats 4000000 in
theorem c_X2_checkPond {h : AH} {a1 : Nat} (ha1 : oc a1 = some 0) {L q e : Nat} {d : Nat → Nat} (hC : CR L h (0, 0, e)) (hR : RCd a1 d h) (hd : WFd d) (hq : q ≤ L) (e5 : h.1 1 5 = nI q) : CV yX2_checkPond cX2_checkPond 2 1 21 [.ref 1, .ref a1] h (fun u => FRc h u ∧ CR L u (if d 810 = 0 then (if d 0 < 9 then (0, 0, e) else (3, q, 0)) else (1, q, 0))) := by
  refine CV.of [some (.ref 1), some (.ref a1)] (by decide +kernel) rfl (Nat.le_of_ble_eq_true rfl) rfl (fun Z hX => ?_)
  obtain ⟨w1, -, -, w4, -⟩ := hd
  have e0 : h.1 a1 0 = nI (d 0) := hR.at (Or.inl rfl) (lcc_c (a := 0) (k := 0) rfl (by omega) (by omega))
  have e10 : h.1 1 10 = nI (d 810) := hR.at (by unfold plc; omega) (lcc_r (k := 10) rfl (by omega))
  have z10 : (h.1 1 10 = 0) ↔ d 810 = 0 := by rw [e10, k_0, nI_eq (by omega) (by omega)]
  have z9 : (h.1 a1 0 < 9) ↔ d 0 < 9 := by rw [e0, k_9, nI_ltI (by omega) (by omega)]
  refine sg_X2_checkPond_0 hX ha1 ⟨fun z => ⟨fun y => ?_, fun y => ?_⟩, fun z => ?_⟩
  · rw [if_pos (z10.mp z), if_pos (z9.mp y)]
    exact ⟨FRc.rf, hC⟩
  · rw [if_pos (z10.mp z), if_neg (fun w => y (z9.mpr w))]
    exact ⟨_, c_X2_find (n := 3) hC (by omega) hq (fun _ => e5) rfl, fun u p => sg_X2_checkPond_24 hX ⟨p.1, p.2.2.2⟩⟩
  · rw [if_neg (fun w => z (z10.mpr w))]
    refine ⟨_, c_X2_find (n := 1) hC (by omega) hq (fun _ => e5) rfl, fun u p => ?_⟩
    have cu : CR L u (1, q, 0) := p.2.2.2
    refine sg_X2_checkPond_12 hX ha1 ⟨fun _ => ⟨p.1, cu⟩, fun _ => ⟨_, c_X2_find (n := 3) (q := 0) cu (by omega) (by omega) (fun w => absurd w (by show ¬ (1 : Nat) = 0; omega)) rfl, fun v r => sg_X2_checkPond_24 hX ⟨p.1.tr r.1, ?_⟩⟩⟩
    have := r.2.2.2
    rw [findC, if_neg (by show ¬ (1 : Nat) = 0; omega)] at this
    exact this

set_option maxRecDepth 100000 in
set_option maxHeartbeats 4000000 in
theorem c_X2_readGate {h : AH} {a1 : Nat} (ha1 : oc a1 = some 0) {T : Nat → Nat} {L : Nat} {c : Cur} {d : Nat → Nat} (hT : TXc T L h) (hC : CR L h c) (hc : 3 ≤ a1) (hR : RCd a1 d h) (hd : WFd d) (h1 : 1 ≤ d 0) : CV yX2_readGate cX2_readGate 5 3 63 [.ref 1, .ref a1] h (fun u => FRd a1 8 h u ∧ CR L u (gateR T L c d).1 ∧ ((gateR T L c d).1.1 = 0 → RCd a1 (gateR T L c d).2 u)) := by
  refine CV.of [some (.ref 1), some (.ref a1), none, none, none] (by decide +kernel) rfl (Nat.le_of_ble_eq_true rfl) rfl (fun Z hX => ?_)
  obtain ⟨w1, -, -, w4, -⟩ := hd
  have e0 : h.1 a1 0 = nI (d 0) := hR.at (Or.inl rfl) (lcc_c (a := 0) (k := 0) rfl (by omega) (by omega))
  refine sg_X2_readGate_0 hX ha1 ?_
  rw [e0, k_1, pk_sub h1]
  refine ⟨_, c_X2_takeNumber (lo := 0) (hi := d 0 - 1) hT hC (by omega) (by omega) rfl rfl, fun r1 u1 p1 => ?_⟩
  have R1 := hR.fr p1.1 hc
  have e10 : u1.1 1 10 = nI (d 810) := R1.at (by unfold plc; omega) (lcc_r (k := 10) rfl (by omega))
  have q1 : CR L u1 (gat1 T L c d).1 := p1.2.1
  -- behind the test of the gate
  have GO : ∀ u2 : AH, FRc h u2 → CR L u2 (gatF T L c d) → ∃ PP : Int32 → AH → Prop, CI yX2_takeNumber cX2_takeNumber 3 (some .int) 2 41 [.ref 1, .int 0, .int 9] u2 PP ∧ ∀ (r : Int32) (u : AH), PP r u → EX Z 5 (QV Z (fun u => FRd a1 8 h u ∧ CR L u (gateR T L c d).1 ∧ ((gateR T L c d).1.1 = 0 → RCd a1 (gateR T L c d).2 u))) 35 u [some (.ref 1), some (.ref a1), some (.int r1), none, none] (.int r :: []) := by
    intro u2 f2 c2
    refine ⟨_, c_X2_takeNumber (lo := 0) (hi := 9) (hT.of f2) c2 (by omega) (by omega) rfl rfl, fun r3 u3 p3 => ?_⟩
    have f3 := f2.tr p3.1
    refine sg_X2_readGate_35 hX ha1 ⟨_, c_X2_takeNumber (lo := 0) (hi := 99) (hT.of f3) p3.2.1 (by omega) (by omega) rfl rfl, fun r4 u4 p4 => ?_⟩
    have f4 := f3.tr p4.1
    refine sg_X2_readGate_43 hX ha1 ⟨_, c_X2_takeSign (ch := 59) (hT.of f4) p4.2.1 (Or.inl rfl) rfl, fun u5 p5 => ?_⟩
    have f5 := f4.tr p5.1
    have c5 : CR L u5 (gat4 T L c d) := p5.2
    have R5 := hR.fr f5 hc
    have bad : ¬ (gat4 T L c d).1 = 0 → FRd a1 8 h u5 ∧ CR L u5 (gateR T L c d).1 ∧ ((gateR T L c d).1.1 = 0 → RCd a1 (gateR T L c d).2 u5) := fun n0 => ⟨FRd.of f5, c5, fun y => absurd y n0⟩
    refine sg_X2_readGate_51 hX ha1 ⟨fun z => bad (fun y => z ((CR_f c5).mpr y)), fun z => ?_⟩
    have n0 := (CR_f c5).mp z
    obtain ⟨g0, -, gk, -, -, g1, gb, g2, g3⟩ := gat_ok hC.pos n0
    have er1 : r1 = nI (gat1 T L c d).2.1 := (p1.2.2 g1).1
    have er3 : r3 = nI (gat2 T L c d).2.1 := (p3.2.2 g2).1
    have er4 : r4 = nI (gat3 T L c d).2.1 := (p4.2.2 g3).1
    rw [er1]
    refine ⟨fun y => absurd y (nI_pos (by omega)), fun _ => ⟨fun y => ?_, fun _ u6 e6 => ?_⟩⟩
    · rw [k_9, nI_leI (by omega) (by omega)] at y
      omega
    · have e10' : u5.1 1 10 = nI (d 810) := R5.at (by unfold plc; omega) (lcc_r (k := 10) rfl (by omega))
      have sh : (1 : Int32) <<< (nI (gat1 T L c d).2.1 &&& 31) = nI (2 ^ (gat1 T L c d).2.1) := by
        have := sh_l (x := 1) (k := (gat1 T L c d).2.1) (by omega) (by rw [Nat.one_mul]; exact Nat.pow_lt_pow_right (by decide) (by omega))
        rw [Nat.one_mul] at this
        exact this
      rw [e10', sh, fa_or] at e6
      have F6 := (FRd.of (c := a1) (w := 8) f5).set (by unfold chC; omega) e6
      have R6 := R5.set hc (p := 810) (by unfold plc; omega) (lcc_r (k := 10) rfl (by omega)) e6
      refine ⟨vp_in_nI (by omega) (by omega), fun u7 e7 => ⟨vp_in_nI (by omega) (by omega), fun u8 e8 => ?_⟩⟩
      rw [nI_clamp (by omega), er3] at e7
      rw [nI_clamp (by omega), er4] at e8
      have F7 := F6.set (by unfold chC; omega) e7
      have R7 := R6.set hc (p := 400 + (gat1 T L c d).2.1) (by unfold plc; omega) (lcc_c (a := 4) (k := (gat1 T L c d).2.1) rfl (by omega) (by omega)) e7
      have F8 := F7.set (by unfold chC; omega) e8
      have R8 := R7.set hc (p := 500 + (gat1 T L c d).2.1) (by unfold plc; omega) (lcc_c (a := 5) (k := (gat1 T L c d).2.1) rfl (by omega) (by omega)) e8
      refine ⟨F8, ?_, fun _ => ?_⟩
      · have k1 : ∀ k, k ≠ 10 → u8.1 1 k = u5.1 1 k := fun k hk => by rw [e8, hs_o (by omega), e7, hs_o (by omega), e6, hs_i hk]
        show CR L u8 (gat4 T L c d)
        unfold CR
        rw [k1 2 (by omega), k1 3 (by omega), k1 5 (by omega), k1 6 (by omega)]
        exact c5
      · show RCd a1 (if (gat4 T L c d).1 = 0 then gatD T L c d else d) u8
        rw [if_pos n0]
        exact R8
  by_cases g1 : (gat1 T L c d).1.1 = 0
  · have gk := (num_ok hC.pos g1).2.1.2
    have gk : (gat1 T L c d).2.1 ≤ d 0 - 1 := gk
    obtain ⟨er1, es1, ls1⟩ := p1.2.2 g1
    have er1 : r1 = nI (gat1 T L c d).2.1 := er1
    have es1 : u1.1 1 5 = nI (gat1 T L c d).2.2 := es1
    have ls1 : (gat1 T L c d).2.2 ≤ L := ls1
    have tb : (((u1.1 1 10) >>> (r1 &&& 31)) &&& 1 = 0) ↔ (d 810).testBit (gat1 T L c d).2.1 = false := by rw [e10, er1]; exact bitT (by omega) (by omega)
    refine sg_X2_readGate_11 hX ha1 ⟨fun z => GO u1 p1.1 ?_, fun z => ⟨_, c_X2_find (n := 3) q1 (by omega) ls1 (fun _ => es1) rfl, fun u2 p2 => sg_X2_readGate_28 hX ha1 (GO u2 (p1.1.tr p2.1) ?_)⟩⟩
    · rw [gatF, if_neg (by rw [tb.mp z]; decide)]
      exact q1
    · have : (d 810).testBit (gat1 T L c d).2.1 = true := by
        cases hb : (d 810).testBit (gat1 T L c d).2.1 with
        | true => rfl
        | false => exact absurd (tb.mpr hb) z
      rw [gatF, if_pos this]
      exact p2.2.2.2
  · have eF : gatF T L c d = (gat1 T L c d).1 := by
      rw [gatF, findC, if_neg g1]
      split <;> rfl
    refine sg_X2_readGate_11 hX ha1 ⟨fun z => GO u1 p1.1 (by rw [eF]; exact q1), fun z => ⟨_, c_X2_find (n := 3) (q := 0) q1 (by omega) (by omega) (fun w => absurd w g1) rfl, fun u2 p2 => sg_X2_readGate_28 hX ha1 (GO u2 (p1.1.tr p2.1) ?_)⟩⟩
    have := p2.2.2.2
    rw [findC, if_neg g1] at this
    rw [eF]
    exact this
