theorem i32_1 : (1 : Int32).toInt = 1 := rfl

set_option maxRecDepth 100000 in
set_option maxHeartbeats 4000000 in
theorem sg_X0_hasRoom_0 {Z : CX × GX} {post : Int32 → AH → Prop} {h : AH} {x0 : Nat} (hX : OK Z RX0 cX0_hasRoom 1 (some .boolean) 0 0) (ox0 : oc x0 = some 0)
    (w : ((9 ≤ (h.1 x0 0) → post 0 h) ∧ (¬ 9 ≤ (h.1 x0 0) → post 1 h)))
    : EX Z 1 (QI Z post) 0 h [some (.ref x0)] [] := by
  refine ex_aload_n hX dX0_hasRoom_0 rfl rfl ?_
  refine ex_get hX (.int (h.1 x0 0)) FL_0_33 ox0 (fun _ => rfl) dX0_hasRoom_1 ?_
  refine ex_bipush (v := 9) hX dX0_hasRoom_4 rfl ?_
  refine ex_icmpge hX 13 dX0_hasRoom_6 (by decide) (fun c1 => ?_) (fun c1 => ?_)
  · replace w := w.1 c1
    refine ex_iconst (v := 0) hX dX0_hasRoom_13 rfl ?_
    exact ex_iret hX dX0_hasRoom_14 rfl w
  · replace w := w.2 c1
    refine ex_iconst (v := 1) hX dX0_hasRoom_9 rfl ?_
    refine ex_goto hX 14 dX0_hasRoom_10 (by decide) ?_
    exact ex_iret hX dX0_hasRoom_14 rfl w

set_option maxRecDepth 100000 in
set_option maxHeartbeats 4000000 in
theorem c_X0_hasRoom {h : AH} {a0 : Nat} (ha0 : oc a0 = some 0)  : CI yX0_hasRoom cX0_hasRoom 1 (some .boolean) 0 0 [.ref a0] h (fun r u => r = bI (h.1 a0 0 < 9) ∧ u = h) := by
  refine CI.of [some (.ref a0)] (by decide +kernel) rfl (Nat.le_of_ble_eq_true rfl) rfl (fun Z hX => ?_)
  refine sg_X0_hasRoom_0 hX ha0 ⟨fun c => ⟨(bI_f (fun z => by simp only [Int32.lt_iff_toInt_lt, Int32.le_iff_toInt_le] at *; omega)).symm, rfl⟩, fun c => ⟨(bI_t (by simp only [Int32.lt_iff_toInt_lt, Int32.le_iff_toInt_le] at *; omega)).symm, rfl⟩⟩

set_option maxRecDepth 100000 in
set_option maxHeartbeats 4000000 in
theorem sg_X0_isNode_0 {Z : CX × GX} {post : Int32 → AH → Prop} {h : AH} {x0 : Nat} {x1 : Int32} (hX : OK Z RX0 cX0_isNode 2 (some .boolean) 0 0) (ox0 : oc x0 = some 0)
    (w : ((x1 < 0 → post 0 h) ∧ (¬ x1 < 0 → (((h.1 x0 0) ≤ x1 → post 0 h) ∧ (¬ (h.1 x0 0) ≤ x1 → post 1 h)))))
    : EX Z 2 (QI Z post) 0 h [some (.ref x0), some (.int x1)] [] := by
  refine ex_iload_n hX dX0_isNode_0 rfl rfl ?_
  refine ex_iflt hX 16 dX0_isNode_1 (by decide) (fun c1 => ?_) (fun c1 => ?_)
  · replace w := w.1 c1
    refine ex_iconst (v := 0) hX dX0_isNode_16 rfl ?_
    exact ex_iret hX dX0_isNode_17 rfl w
  · replace w := w.2 c1
    refine ex_iload_n hX dX0_isNode_4 rfl rfl ?_
    refine ex_aload_n hX dX0_isNode_5 rfl rfl ?_
    refine ex_get hX (.int (h.1 x0 0)) FL_0_33 ox0 (fun _ => rfl) dX0_isNode_6 ?_
    refine ex_icmpge hX 16 dX0_isNode_9 (by decide) (fun c2 => ?_) (fun c2 => ?_)
    · replace w := w.1 c2
      refine ex_iconst (v := 0) hX dX0_isNode_16 rfl ?_
      exact ex_iret hX dX0_isNode_17 rfl w
    · replace w := w.2 c2
      refine ex_iconst (v := 1) hX dX0_isNode_12 rfl ?_
      refine ex_goto hX 17 dX0_isNode_13 (by decide) ?_
      exact ex_iret hX dX0_isNode_17 rfl w

set_option maxRecDepth 100000 in
set_option maxHeartbeats 4000000 in
theorem c_X0_isNode {h : AH} {a0 : Nat} {a1 : Int32} (ha0 : oc a0 = some 0)  : CI yX0_isNode cX0_isNode 2 (some .boolean) 0 0 [.ref a0, .int a1] h (fun r u => r = bI (0 ≤ a1 ∧ a1 < h.1 a0 0) ∧ u = h) := by
  refine CI.of [some (.ref a0), some (.int a1)] (by decide +kernel) rfl (Nat.le_of_ble_eq_true rfl) rfl (fun Z hX => ?_)
  refine sg_X0_isNode_0 hX ha0 ⟨fun c => ⟨(bI_f (fun z => by simp only [Int32.lt_iff_toInt_lt, Int32.le_iff_toInt_le] at *; omega)).symm, rfl⟩, fun c => ⟨fun c2 => ⟨(bI_f (fun z => by simp only [Int32.lt_iff_toInt_lt, Int32.le_iff_toInt_le] at *; omega)).symm, rfl⟩, fun c2 => ⟨(bI_t (by simp only [Int32.lt_iff_toInt_lt, Int32.le_iff_toInt_le] at *; omega)).symm, rfl⟩⟩⟩

set_option maxRecDepth 100000 in
set_option maxHeartbeats 4000000 in
theorem sg_X0_isGate_0 {Z : CX × GX} {post : Int32 → AH → Prop} {h : AH} {x0 : Nat} {x1 : Int32} (hX : OK Z RX0 cX0_isGate 2 (some .boolean) 0 0) (ox0 : oc x0 = some 0)
    (w : ((x1 < 0 → post 0 h) ∧ (¬ x1 < 0 → ((((h.1 x0 0) - 1) ≤ x1 → post 0 h) ∧ (¬ ((h.1 x0 0) - 1) ≤ x1 → post 1 h)))))
    : EX Z 2 (QI Z post) 0 h [some (.ref x0), some (.int x1)] [] := by
  refine ex_iload_n hX dX0_isGate_0 rfl rfl ?_
  refine ex_iflt hX 18 dX0_isGate_1 (by decide) (fun c1 => ?_) (fun c1 => ?_)
  · replace w := w.1 c1
    refine ex_iconst (v := 0) hX dX0_isGate_18 rfl ?_
    exact ex_iret hX dX0_isGate_19 rfl w
  · replace w := w.2 c1
    refine ex_iload_n hX dX0_isGate_4 rfl rfl ?_
    refine ex_aload_n hX dX0_isGate_5 rfl rfl ?_
    refine ex_get hX (.int (h.1 x0 0)) FL_0_33 ox0 (fun _ => rfl) dX0_isGate_6 ?_
    refine ex_iconst (v := 1) hX dX0_isGate_9 rfl ?_
    refine ex_isub hX dX0_isGate_10 ?_
    refine ex_icmpge hX 18 dX0_isGate_11 (by decide) (fun c2 => ?_) (fun c2 => ?_)
    · replace w := w.1 c2
      refine ex_iconst (v := 0) hX dX0_isGate_18 rfl ?_
      exact ex_iret hX dX0_isGate_19 rfl w
    · replace w := w.2 c2
      refine ex_iconst (v := 1) hX dX0_isGate_14 rfl ?_
      refine ex_goto hX 19 dX0_isGate_15 (by decide) ?_
      exact ex_iret hX dX0_isGate_19 rfl w

set_option maxRecDepth 100000 in
set_option maxHeartbeats 4000000 in
theorem c_X0_isGate {h : AH} {a0 : Nat} {a1 : Int32} (ha0 : oc a0 = some 0)  : CI yX0_isGate cX0_isGate 2 (some .boolean) 0 0 [.ref a0, .int a1] h (fun r u => r = bI (0 ≤ a1 ∧ a1 < h.1 a0 0 - 1) ∧ u = h) := by
  refine CI.of [some (.ref a0), some (.int a1)] (by decide +kernel) rfl (Nat.le_of_ble_eq_true rfl) rfl (fun Z hX => ?_)
  refine sg_X0_isGate_0 hX ha0 ⟨fun c => ⟨(bI_f (fun z => by simp only [Int32.lt_iff_toInt_lt, Int32.le_iff_toInt_le] at *; omega)).symm, rfl⟩, fun c => ⟨fun c2 => ⟨(bI_f (fun z => by simp only [Int32.lt_iff_toInt_lt, Int32.le_iff_toInt_le] at *; omega)).symm, rfl⟩, fun c2 => ⟨(bI_t (by simp only [Int32.lt_iff_toInt_lt, Int32.le_iff_toInt_le] at *; omega)).symm, rfl⟩⟩⟩

set_option maxRecDepth 100000 in
set_option maxHeartbeats 4000000 in
theorem sg_X0_isSea_0 {Z : CX × GX} {post : Int32 → AH → Prop} {h : AH} {x0 : Nat} {x1 : Int32} (hX : OK Z RX0 cX0_isSea 2 (some .boolean) 0 0) (ox0 : oc x0 = some 0)
    (w : ((¬ x1 = ((h.1 x0 0) - 1) → post 0 h) ∧ (x1 = ((h.1 x0 0) - 1) → post 1 h)))
    : EX Z 2 (QI Z post) 0 h [some (.ref x0), some (.int x1)] [] := by
  refine ex_iload_n hX dX0_isSea_0 rfl rfl ?_
  refine ex_aload_n hX dX0_isSea_1 rfl rfl ?_
  refine ex_get hX (.int (h.1 x0 0)) FL_0_33 ox0 (fun _ => rfl) dX0_isSea_2 ?_
  refine ex_iconst (v := 1) hX dX0_isSea_5 rfl ?_
  refine ex_isub hX dX0_isSea_6 ?_
  refine ex_icmpne hX 14 dX0_isSea_7 (by decide) (fun c1 => ?_) (fun c1 => ?_)
  · replace w := w.1 c1
    refine ex_iconst (v := 0) hX dX0_isSea_14 rfl ?_
    exact ex_iret hX dX0_isSea_15 rfl w
  · replace w := w.2 c1
    refine ex_iconst (v := 1) hX dX0_isSea_10 rfl ?_
    refine ex_goto hX 15 dX0_isSea_11 (by decide) ?_
    exact ex_iret hX dX0_isSea_15 rfl w

set_option maxRecDepth 100000 in
set_option maxHeartbeats 4000000 in
theorem c_X0_isSea {h : AH} {a0 : Nat} {a1 : Int32} (ha0 : oc a0 = some 0)  : CI yX0_isSea cX0_isSea 2 (some .boolean) 0 0 [.ref a0, .int a1] h (fun r u => r = bI (a1 = h.1 a0 0 - 1) ∧ u = h) := by
  refine CI.of [some (.ref a0), some (.int a1)] (by decide +kernel) rfl (Nat.le_of_ble_eq_true rfl) rfl (fun Z hX => ?_)
  refine sg_X0_isSea_0 hX ha0 ⟨fun c => ⟨(bI_f c).symm, rfl⟩, fun c => ⟨(bI_t c).symm, rfl⟩⟩

set_option maxRecDepth 100000 in
set_option maxHeartbeats 4000000 in
theorem sg_X6_isWeight_0 {Z : CX × GX} {post : Int32 → AH → Prop} {h : AH} {x0 : Int32} (hX : OK Z RX6 cX6_isWeight 1 (some .boolean) 0 0) 
    (w : ((x0 < 1 → post 0 h) ∧ (¬ x0 < 1 → ((999 < x0 → post 0 h) ∧ (¬ 999 < x0 → post 1 h)))))
    : EX Z 1 (QI Z post) 0 h [some (.int x0)] [] := by
  refine ex_iload_n hX dX6_isWeight_0 rfl rfl ?_
  refine ex_iconst (v := 1) hX dX6_isWeight_1 rfl ?_
  refine ex_icmplt hX 16 dX6_isWeight_2 (by decide) (fun c1 => ?_) (fun c1 => ?_)
  · replace w := w.1 c1
    refine ex_iconst (v := 0) hX dX6_isWeight_16 rfl ?_
    exact ex_iret hX dX6_isWeight_17 rfl w
  · replace w := w.2 c1
    refine ex_iload_n hX dX6_isWeight_5 rfl rfl ?_
    refine ex_sipush (v := 999) hX dX6_isWeight_6 rfl ?_
    refine ex_icmpgt hX 16 dX6_isWeight_9 (by decide) (fun c2 => ?_) (fun c2 => ?_)
    · replace w := w.1 c2
      refine ex_iconst (v := 0) hX dX6_isWeight_16 rfl ?_
      exact ex_iret hX dX6_isWeight_17 rfl w
    · replace w := w.2 c2
      refine ex_iconst (v := 1) hX dX6_isWeight_12 rfl ?_
      refine ex_goto hX 17 dX6_isWeight_13 (by decide) ?_
      exact ex_iret hX dX6_isWeight_17 rfl w

set_option maxRecDepth 100000 in
set_option maxHeartbeats 4000000 in
theorem c_X6_isWeight {h : AH} {a0 : Int32}   : CI yX6_isWeight cX6_isWeight 1 (some .boolean) 0 0 [.int a0] h (fun r u => r = bI (1 ≤ a0 ∧ a0 ≤ 999) ∧ u = h) := by
  refine CI.of [some (.int a0)] (by decide +kernel) rfl (Nat.le_of_ble_eq_true rfl) rfl (fun Z hX => ?_)
  refine sg_X6_isWeight_0 hX  ⟨fun c => ⟨(bI_f (fun z => by simp only [Int32.lt_iff_toInt_lt, Int32.le_iff_toInt_le] at *; omega)).symm, rfl⟩, fun c => ⟨fun c2 => ⟨(bI_f (fun z => by simp only [Int32.lt_iff_toInt_lt, Int32.le_iff_toInt_le] at *; omega)).symm, rfl⟩, fun c2 => ⟨(bI_t (by simp only [Int32.lt_iff_toInt_lt, Int32.le_iff_toInt_le] at *; omega)).symm, rfl⟩⟩⟩
