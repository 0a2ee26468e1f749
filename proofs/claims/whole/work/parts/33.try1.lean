def rN (lo hi : Nat) (x : Int32) : Prop := ∃ w : Nat, lo ≤ w ∧ w ≤ hi ∧ x = nI w
def gateA (n : Nat) (x : Int32) : Prop := ∃ k, k + 1 < n ∧ x = nI k
def nodeA (n : Nat) (x : Int32) : Prop := ∃ k, k < n ∧ x = nI k
theorem rnC {lo hi : Nat} {x L M : Int32} (hL : L.toInt = lo) (hM : M.toInt = hi) (hm : hi < 2 ^ 31) : (¬ x < L ∧ x ≤ M) ↔ rN lo hi x := by
  unfold rN
  rw [Int32.lt_iff_toInt_lt, Int32.le_iff_toInt_le, hM, hL]
  constructor
  · rintro ⟨a, b⟩
    obtain ⟨e1, e2, e3⟩ := zi_of (show 0 ≤ x.toInt by omega)
    exact ⟨x.toNatClampNeg, by omega, by omega, e1⟩
  · rintro ⟨w, a, b, rfl⟩
    rw [nI_toInt (by omega)]
    omega
theorem rnM {lo hi : Nat} {x : Int32} {L M : Int64} (hL : L.toInt = lo) (hM : M.toInt = hi) (hm : hi < 2 ^ 31) : (L ≤ Int32.toInt64 x ∧ Int32.toInt64 x ≤ M) ↔ rN lo hi x := by
  unfold rN
  rw [Int64.le_iff_toInt_le, Int64.le_iff_toInt_le, Int32.toInt_toInt64, hM, hL]
  constructor
  · rintro ⟨a, b⟩
    obtain ⟨e1, e2, e3⟩ := zi_of (show 0 ≤ x.toInt by omega)
    exact ⟨x.toNatClampNeg, by omega, by omega, e1⟩
  · rintro ⟨w, a, b, rfl⟩
    rw [nI_toInt (by omega)]
    omega
theorem i0 : ∃ w : Nat, w ≤ 9 ∧ (0 : Int32) = nI w := ⟨0, by omega, rfl⟩
def triedS (P : PR) (σ : SG) (x1 x2 x3 : Int32) : Int32 := if x2 = 0 then hoursS P 0 0 x1.toNatClampNeg σ x3.toNatClampNeg else if x2 = 1 then hoursS P 0 0 x1.toNatClampNeg σ (20 + x3.toNatClampNeg) else levS P (hoursS P 0 0 x1.toNatClampNeg σ) x3.toNatClampNeg
theorem UOK0 {N : Nat} {h : AH} {hw : Int32} (hI : INV N h) (hP : POK (PM h.1)) (hh : ∃ w : Nat, w ≤ 9 ∧ hw = nI w) : UOK N (PM h.1) (mk (ms h.1 0)) hw := ⟨hP, hI.2.2.1.2.2.1, hh⟩

set_option maxRecDepth 100000 in
set_option maxHeartbeats 4000000 in
theorem c_X6_tried {h : AH} {a1 : Int32} {a2 : Int32} {a3 : Int32}  {n N : Nat} (hn : n ≤ 10) (hI : INV N h) (hN : N ≤ 511) (en : h.1 (h.2 1) 0 = nI n) (hP : n = 0 ∨ POK (PM h.1)) : CI yX6_tried cX6_tried 5 (some .int) 5 123 [.ref 0, .int a1, .int a2, .int a3] h (fun r u => T3 (if a2 = 1 then gateA n a3 else nodeA n a3) (rN 1 200 a1 ∧ rN 0 2 a2) (-100000001) (-100000002) (triedS (PM h.1) (mk (ms h.1 0)) a1 a2 a3) r ∧ TC h u) := by
  refine CI.of [some (.ref 0), some (.int a1), some (.int a2), some (.int a3), none] (by decide +kernel) rfl (Nat.le_of_ble_eq_true rfl) rfl (fun Z hX => ?_)
  refine sg_X6_tried_0 hX (fun v4 e4 => ?_)
  have hv : v4 = 0 ↔ ¬ (if a2 = 1 then gateA n a3 else nodeA n a3) := by
    rw [e4]
    by_cases c : a2 = 1
    · rw [if_pos c, if_pos c, bI_0, en, gt1 hn]; rfl
    · rw [if_neg c, if_neg c, bI_0, en, nd1 hn]; rfl
  have r1 := rnC (x := a1) (lo := 1) (hi := 200) (L := 1) (M := 200) rfl rfl (by decide)
  have r2 := rnC (x := a2) (lo := 0) (hi := 2) (L := 0) (M := 2) rfl rfl (by decide)
  refine ⟨fun c => ?_, fun c => ⟨T3.a (hv.mp c), TC.rf⟩⟩
  have hA := Classical.not_not.mp (fun z => c (hv.mpr z))
  refine ⟨fun c1 => ⟨T3.b hA (fun z => (r1.mpr z.1).1 c1), TC.rf⟩, fun c1 => ⟨fun c2 => ⟨T3.b hA (fun z => Int32.not_lt.mpr (r1.mpr z.1).2 c2), TC.rf⟩, fun c2 => ⟨fun c3 => ⟨T3.b hA (fun z => (r2.mpr z.2).1 c3), TC.rf⟩, fun c3 => ⟨fun c4 => ?_, fun c4 => ⟨T3.b hA (fun z => c4 (r2.mpr z.2).2), TC.rf⟩⟩⟩⟩⟩
  have hB : rN 1 200 a1 ∧ rN 0 2 a2 := ⟨r1.mp ⟨c1, Int32.not_lt.mp c2⟩, r2.mp ⟨c3, c4⟩⟩
  have hk : ∃ k, k < n ∧ a3 = nI k ∧ (a2 = 1 → k + 1 < n) := by
    by_cases d : a2 = 1
    · rw [if_pos d] at hA; obtain ⟨k, h1, h2⟩ := hA; exact ⟨k, by omega, h2, fun _ => h1⟩
    · rw [if_neg d] at hA; obtain ⟨k, h1, h2⟩ := hA; exact ⟨k, by omega, h2, fun z => absurd z d⟩
  obtain ⟨k, k1, k2, k3⟩ := hk
  have hP' := hP.resolve_left (by omega)
  obtain ⟨m, m1, m2, m3⟩ := hB.1
  have hT := TOK0 hI hP' i0
  obtain ⟨PP, q1, q2⟩ := ct_begin hI
  refine ⟨PP, q1, fun u hu => sg_X6_tried_69 hX ⟨_, c_X6_passTrialHours m3 m2 hI hN rfl hT (q2 u hu 0), fun v hv => sg_X6_tried_74 hX ?_⟩⟩
  obtain ⟨v1, v2, v3⟩ := hv
  rw [← hI.2.1.1] at hP'
  have g := hI.1
  have eQ : PC v.1 (h.2 1) (h.2 3) = PC h.1 (h.2 1) (h.2 3) := PC_eq g.1 g.2.2.1 (fun i hi => v1.2 i (by omega))
  have ep : pn (PC h.1 (h.2 1) (h.2 3)) = n := pn_C en hn
  have sk := TOK_SOK hT hN m2
  obtain ⟨t, t1, t2⟩ := sk.2.2.1
  obtain ⟨l1, l2⟩ := lvC_eq (f := v.1) (s := 42) (c := h.2 1) (o := h.2 3) (k := k) (t := t) (by rw [eQ]; exact hP') (by omega) (by rw [v3]; exact t2) (by rw [eQ, ep]; exact k1)
  have ck : Int32.toNatClampNeg (nI k) = k := nI_clamp (by omega)
  rw [k2, v1.1, ck]
  have F : ∀ r, r = triedS (PM h.1) (mk (ms h.1 0)) a1 a2 (nI k) → T3 (if a2 = 1 then gateA n (nI k) else nodeA n (nI k)) (rN 1 200 a1 ∧ rN 0 2 a2) (-100000001) (-100000002) (triedS (PM h.1) (mk (ms h.1 0)) a1 a2 (nI k)) r ∧ TC h v := fun r hr => ⟨T3.c (by rw [← k2]; exact hA) hB hr, v1⟩
  have em : a1.toNatClampNeg = m := by rw [m3, nI_clamp (by omega)]
  refine ⟨fun w0 => ⟨fun w1 => ⟨l1, F _ ?_⟩, fun w1 => ⟨vp_in_nI (by have := k3 w1; omega) (by omega), F _ ?_⟩⟩, fun w0 => ⟨vp_in_nI (by omega) (by omega), F _ ?_⟩⟩
  · rw [l2, eQ, hI.2.1.1, v3, triedS, if_neg w0, if_neg w1, ck, em]
  · rw [triedS, if_neg w0, if_pos w1, ck, em, ← v3]; have := k3 w1; exact mkc_at (f := v.1) (s := 42) (loc_20 k (by omega)) (by unfold rel; omega)
  · rw [triedS, if_pos w0, ck, em, ← v3]; exact mkc_at (f := v.1) (s := 42) (loc_w k (by omega)) (by unfold rel; omega)

set_option maxRecDepth 100000 in
set_option maxHeartbeats 4000000 in
theorem c_X7_tried {h : AH} {a1 : Int32} {a2 : Int32} {a3 : Int32}  {n N : Nat} (hn : n ≤ 10) (hI : INV N h) (hN : N ≤ 511) (en : h.1 94 9 = nI n) (hP : n = 0 ∨ POK (PM h.1)) : CI yX7_tried cX7_tried 4 (some .int) 5 118 [.ref 94, .int a1, .int a2, .int a3] h (fun r u => T3 (if a2 = 1 then gateA n a3 else nodeA n a3) (rN 1 200 a1 ∧ rN 0 2 a2) (-100000001) (-100000002) (triedS (PM h.1) (mk (ms h.1 0)) a1 a2 a3) r ∧ TM h u) := by
  refine CI.of [some (.ref 94), some (.int a1), some (.int a2), some (.int a3)] (by decide +kernel) rfl (Nat.le_of_ble_eq_true rfl) rfl (fun Z hX => ?_)
  have tm : TM h h := ⟨TF.rf, hI.2.2.2.2.2.2.2⟩
  have r1 := rnM (x := a1) (lo := 1) (hi := 200) (L := 1) (M := 200) rfl rfl (by decide)
  have r2 := rnM (x := a2) (lo := 0) (hi := 2) (L := 0) (M := 2) rfl rfl (by decide)
  have Q : (if a2 = 1 then gateA n a3 else nodeA n a3) → ((¬ (1 ≤ (Int32.toInt64 a1) ∧ (Int32.toInt64 a1) ≤ 200) → T3 (if a2 = 1 then gateA n a3 else nodeA n a3) (rN 1 200 a1 ∧ rN 0 2 a2) (-100000001) (-100000002) (triedS (PM h.1) (mk (ms h.1 0)) a1 a2 a3) (-100000002) ∧ TM h h) ∧ ((1 ≤ (Int32.toInt64 a1) ∧ (Int32.toInt64 a1) ≤ 200) → (((0 ≤ (Int32.toInt64 a2) ∧ (Int32.toInt64 a2) ≤ 2) → (∃ PP : AH → Prop, CV yX7_tryHours cX7_tryHours 6 4 93 [.ref 94, .int a1, .int 0, .int 0] h PP ∧ ∀ u : AH, PP u → EX Z 4 (QI Z (fun r u => T3 (if a2 = 1 then gateA n a3 else nodeA n a3) (rN 1 200 a1 ∧ rN 0 2 a2) (-100000001) (-100000002) (triedS (PM h.1) (mk (ms h.1 0)) a1 a2 a3) r ∧ TM h u)) 61 u [some (.ref 94), none, some (.int a2), some (.int a3)] [])) ∧ (¬ (0 ≤ (Int32.toInt64 a2) ∧ (Int32.toInt64 a2) ≤ 2) → T3 (if a2 = 1 then gateA n a3 else nodeA n a3) (rN 1 200 a1 ∧ rN 0 2 a2) (-100000001) (-100000002) (triedS (PM h.1) (mk (ms h.1 0)) a1 a2 a3) (-100000002) ∧ TM h h)))) := by
    intro hA
    refine ⟨fun c1 => ⟨T3.b hA (fun z => c1 (r1.mpr z.1)), tm⟩, fun c1 => ⟨fun c2 => ?_, fun c2 => ⟨T3.b hA (fun z => c2 (r2.mpr z.2)), tm⟩⟩⟩
    have hB : rN 1 200 a1 ∧ rN 0 2 a2 := ⟨r1.mp c1, r2.mp c2⟩
    have hk : ∃ k, k < n ∧ a3 = nI k ∧ (a2 = 1 → k + 1 < n) := by
      by_cases d : a2 = 1
      · have hA2 := hA; rw [if_pos d] at hA2; obtain ⟨k, h1, h2⟩ := hA2; exact ⟨k, by omega, h2, fun _ => h1⟩
      · have hA2 := hA; rw [if_neg d] at hA2; obtain ⟨k, h1, h2⟩ := hA2; exact ⟨k, by omega, h2, fun z => absurd z d⟩
    obtain ⟨k, k1, k2, k3⟩ := hk
    have hP' := hP.resolve_left (by omega)
    obtain ⟨m, m1, m2, m3⟩ := hB.1
    refine ⟨_, c_X7_tryHours m3 m2 hN rfl rfl (UOK0 hI hP' i0), fun v hv => sg_X7_tried_61 hX ?_⟩
    obtain ⟨v1, v2, v3⟩ := hv
    have ep : pn (PM h.1) = n := pn_M en hn
    have eQ := TF_P v1.1
    have sk := hours_SOK (H := 0) (hw := 0) hP' hI.2.2.1.2.2.1 i0 m (by omega) (by omega)
    obtain ⟨t, t1, t2⟩ := sk.2.2.1
    obtain ⟨l1, l2⟩ := lvM_eq (f := v.1) (ρ := 200) (k := k) (t := t) (by omega) (by rw [eQ]; exact hP') (by omega) (by rw [v2]; exact t2) (by rw [eQ, ep]; exact k1)
    have ck : Int32.toNatClampNeg (nI k) = k := nI_clamp (by omega)
    have em : a1.toNatClampNeg = m := by rw [m3, nI_clamp (by omega)]
    have i2 : (220 : Int32) + nI k = nI (220 + k) := by rw [show (220 : Int32) = nI 220 from rfl, nI_add]
    have i3 : (200 : Int32) + nI k = nI (200 + k) := by rw [k_200, nI_add]
    have e9 : v.1 94 9 = nI n := by rw [v1.1.2.2.1 9 (by omega) (by omega), en]
    have sea : (nI k = v.1 94 9 - 1) ↔ k = n - 1 := by rw [e9, k_1, pk_sub (by omega), nI_eq (by omega) (by omega)]
    have F : ∀ r, r = triedS (PM h.1) (mk (ms h.1 0)) a1 a2 (nI k) → T3 (if a2 = 1 then gateA n (nI k) else nodeA n (nI k)) (rN 1 200 a1 ∧ rN 0 2 a2) (-100000001) (-100000002) (triedS (PM h.1) (mk (ms h.1 0)) a1 a2 (nI k)) r ∧ TM h v := fun r hr => ⟨T3.c (by rw [← k2]; exact hA) hB hr, v1⟩
    rw [k2, i2, i3, nI_clamp (by omega), nI_clamp (by omega)]
    refine ⟨fun w0 => ⟨fun w1 => ⟨l1, F _ ?_⟩, fun w1 => ⟨vp_in_nI (by omega) (by omega), F _ ?_⟩⟩, fun w0 => ⟨fun w1 => ⟨vp_in_nI (by omega) (by omega), F _ ?_⟩, fun w1 => F _ ?_⟩⟩
    · rw [k_200, l2, eQ, v2, triedS, if_neg w0, if_neg w1, ck, em]
    · have k4 := k3 w1
      rw [triedS, if_neg w0, if_pos w1, ck, em, ← v2, show 220 + k = 200 + (20 + k) by omega]; exact mk_at (f := v.1) (ρ := 200) (by unfold rel; omega)
    · rw [triedS, if_pos w0, ck, em, ← v2]; exact mk_at (f := v.1) (ρ := 200) (by unfold rel; omega)
    · rw [triedS, if_pos w0, ck, em, sea.mp w1, ← ep, hours_sea hP' hI.2.2.1.2.2.1 i0 m (by omega) (by omega)]; exact hI.2.2.1.2.2.2.1.symm
  refine sg_X7_tried_0 hX ⟨fun c => ⟨fun d => Q (by rw [if_neg c]; rw [en, nd2 hn] at d; exact d), fun d => ⟨T3.a (by rw [if_neg c]; rw [en, nd2 hn] at d; exact d), tm⟩⟩, fun c => ⟨fun d => Q (by rw [if_pos c]; rw [en, gt2 hn] at d; exact d), fun d => ⟨T3.a (by rw [if_pos c]; rw [en, gt2 hn] at d; exact d), tm⟩⟩⟩

theorem op_tried {N : Nat} {h : AH} {x y z : Int32} (hI : INV N h) (hNN : N ≤ 511) : OPP yX6_tried cX6_tried 5 5 123 yX7_tried cX7_tried 4 5 118 [.int x, .int y, .int z] N h := by
  obtain ⟨n, hn, e1, e2, hP⟩ := hI.2.1.2.1
  refine OPP.trial hI (c_X6_tried hn hI hNN e1 hP) (fun u iu f1 f2 f3 f4 => ?_)
  have := c_X7_tried (h := u) (a1 := x) (a2 := y) (a3 := z) hn iu hNN (by rw [f3]; exact e2) (by rw [f1]; exact hP)
  rw [f1, f2] at this
  exact this
