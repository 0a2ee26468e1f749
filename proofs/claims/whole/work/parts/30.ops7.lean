def nodeS (P : PR) (σ : SG) (c k : Nat) (w : Int32) : Int32 := if w = 0 then pfl P k else if w = 1 then par P k else if w = 2 then σ k else if w = 3 then levS P σ k else if w = 4 then lgS σ (nI k) c else -100000002

set_option maxRecDepth 100000 in
set_option maxHeartbeats 4000000 in
theorem c_X6_node {h : AH} {a1 : Int32} {a2 : Int32}  {n c t : Nat} (hn : n ≤ 10) (en : h.1 (h.2 1) 0 = nI n) (hc : c ≤ 12) (ec : h.1 34 0 = nI c) (hP : n = 0 ∨ POK (PC h.1 (h.2 1) (h.2 3))) (ht : t < 2 ^ 31) (h50 : mk (cs h.1 27) 50 = nI t) : CI yX6_node cX6_node 3 (some .int) 3 66 [.ref 0, .int a1, .int a2] h (fun r u => (¬ (∃ k, k < n ∧ a1 = nI k) → r = -100000001) ∧ (∀ k, k < n → a1 = nI k → r = nodeS (PC h.1 (h.2 1) (h.2 3)) (mk (cs h.1 27)) c k a2) ∧ u = h) := by
  refine CI.of [some (.ref 0), some (.int a1), some (.int a2)] (by decide +kernel) rfl (Nat.le_of_ble_eq_true rfl) rfl (fun Z hX => ?_)
  refine sg_X6_node_0 hX ⟨fun d => ?_, fun d => ⟨fun _ => rfl, fun k hk ek => absurd (by rw [en]; exact (nd1 hn).mpr ⟨k, hk, ek⟩) d, rfl⟩⟩
  rw [en, nd1 hn] at d
  obtain ⟨k, hk, rfl⟩ := d
  have ck : Int32.toNatClampNeg (nI k) = k := nI_clamp (by omega)
  have b : vp_in (nI k) 10 := vp_in_nI (by omega) (by omega)
  have hP' : POK (PC h.1 (h.2 1) (h.2 3)) := hP.resolve_left (by omega)
  have ep := pn_C (o := h.2 3) en hn
  have yes : ∀ {r : Int32} {u : AH}, u = h → r = nodeS (PC h.1 (h.2 1) (h.2 3)) (mk (cs h.1 27)) c k a2 → (¬ (∃ j, j < n ∧ nI k = nI j) → r = -100000001) ∧ (∀ j, j < n → nI k = nI j → r = nodeS (PC h.1 (h.2 1) (h.2 3)) (mk (cs h.1 27)) c j a2) ∧ u = h := fun e0 e => ⟨fun z => absurd ⟨k, hk, rfl⟩ z, fun j hj ej => by rw [nI_eq (by omega) (by omega)] at ej; subst ej; exact e, e0⟩
  obtain ⟨l1, l2⟩ := lvC_eq (f := h.1) (s := 27) (c := h.2 1) (o := h.2 3) (k := k) hP' ht h50 (by omega)
  rw [ck]
  refine ⟨fun w0 => ⟨b, fun v ev => yes rfl ?_⟩, fun w0 => ⟨fun w1 => ⟨b, fun v ev => yes rfl ?_⟩, fun w1 => ⟨fun w2 => ⟨b, yes rfl ?_⟩, fun w2 => ⟨fun w3 => ⟨l1, yes rfl ?_⟩, fun w3 => ⟨fun w4 => ⟨_, c_X5_lyingIn (s := 27) rfl rfl hc ec, fun r u hu => sg_X6_node_102 hX (yes hu.2 ?_)⟩, fun w4 => yes rfl ?_⟩⟩⟩⟩⟩
  · rw [ev, nodeS, if_pos w0]; exact (cut_in (show k < 10 by omega)).symm
  · rw [ev, nodeS, if_neg w0, if_pos w1]; exact (cut_in (show k < 10 by omega)).symm
  · rw [nodeS, if_neg w0, if_neg w1, if_pos w2]; exact mkc_at (f := h.1) (s := 27) (loc_w k (by omega)) (by unfold rel; omega)
  · rw [nodeS, if_neg w0, if_neg w1, if_neg w2, if_pos w3]; exact l2
  · rw [nodeS, if_neg w0, if_neg w1, if_neg w2, if_neg w3, if_pos w4]; exact hu.1
  · rw [nodeS, if_neg w0, if_neg w1, if_neg w2, if_neg w3, if_neg w4]

set_option maxRecDepth 100000 in
set_option maxHeartbeats 4000000 in
theorem c_X7_node {h : AH} {a1 : Int32} {a2 : Int32}  {n c t : Nat} (hn : n ≤ 10) (en : h.1 94 9 = nI n) (hc : c ≤ 12) (ec : h.1 95 51 = nI c) (hP : n = 0 ∨ POK (PM h.1)) (ht : t < 2 ^ 31) (h50 : mk (ms h.1 0) 50 = nI t) (z1 : pfl (PM h.1) (pn (PM h.1) - 1) = 0) (z2 : par (PM h.1) (pn (PM h.1) - 1) = 0) (z3 : mk (ms h.1 0) (pn (PM h.1) - 1) = 0) : CI yX7_node cX7_node 3 (some .int) 2 46 [.ref 94, .int a1, .int a2] h (fun r u => (¬ (∃ k, k < n ∧ a1 = nI k) → r = -100000001) ∧ (∀ k, k < n → a1 = nI k → r = nodeS (PM h.1) (mk (ms h.1 0)) c k a2) ∧ u = h) := by
  refine CI.of [some (.ref 94), some (.int a1), some (.int a2)] (by decide +kernel) rfl (Nat.le_of_ble_eq_true rfl) rfl (fun Z hX => ?_)
  refine sg_X7_node_0 hX ⟨fun d => ?_, fun d => ⟨fun _ => rfl, fun k hk ek => absurd (by rw [en]; exact (nd2 hn).mpr ⟨k, hk, ek⟩) d, rfl⟩⟩
  rw [en, nd2 hn] at d
  obtain ⟨k, hk, rfl⟩ := d
  have ck : Int32.toNatClampNeg (nI k) = k := nI_clamp (by omega)
  have hP' : POK (PM h.1) := hP.resolve_left (by omega)
  have ep := pn_M en hn
  rw [ep] at z1 z2 z3
  have sea : (nI k = h.1 94 9 - 1) ↔ k = n - 1 := by rw [en, k_1, pk_sub (by omega), nI_eq (by omega) (by omega)]
  have yes : ∀ {r : Int32} {u : AH}, u = h → r = nodeS (PM h.1) (mk (ms h.1 0)) c k a2 → (¬ (∃ j, j < n ∧ nI k = nI j) → r = -100000001) ∧ (∀ j, j < n → nI k = nI j → r = nodeS (PM h.1) (mk (ms h.1 0)) c j a2) ∧ u = h := fun e0 e => ⟨fun z => absurd ⟨k, hk, rfl⟩ z, fun j hj ej => by rw [nI_eq (by omega) (by omega)] at ej; subst ej; exact e, e0⟩
  obtain ⟨l1, l2⟩ := lvM_eq (f := h.1) (ρ := 0) (k := k) (by omega) hP' ht h50 (by omega)
  rw [ck]
  refine ⟨fun w0 => ⟨fun q => ⟨vp_in_nI (by omega) (by omega), yes rfl ?_⟩, fun q => yes rfl ?_⟩, fun w0 => ⟨fun w1 => ⟨fun q => ⟨vp_in_nI (by omega) (by omega), yes rfl ?_⟩, fun q => yes rfl ?_⟩, fun w1 => ⟨fun w2 => ⟨fun q => ⟨vp_in_nI (by omega) (by omega), yes rfl ?_⟩, fun q => yes rfl ?_⟩, fun w2 => ⟨fun w3 => ⟨l1, yes rfl ?_⟩, fun w3 => ⟨fun w4 => ⟨_, c_X7_logsIn hc ec, fun r u hu => sg_X7_node_117 hX (yes hu.2 ?_)⟩, fun w4 => yes rfl ?_⟩⟩⟩⟩⟩
  · rw [nodeS, if_pos w0]; exact (cut_in (show k < 10 by omega)).symm
  · rw [nodeS, if_pos w0, sea.mp q, z1]
  · rw [nodeS, if_neg w0, if_pos w1]; exact (cut_in (show k < 10 by omega)).symm
  · rw [nodeS, if_neg w0, if_pos w1, sea.mp q, z2]
  · rw [nodeS, if_neg w0, if_neg w1, if_pos w2]; exact m0_at (f := h.1) (k := k) (by unfold rel; omega)
  · rw [nodeS, if_neg w0, if_neg w1, if_pos w2, sea.mp q, z3]
  · rw [nodeS, if_neg w0, if_neg w1, if_neg w2, if_pos w3]; exact l2
  · rw [nodeS, if_neg w0, if_neg w1, if_neg w2, if_neg w3, if_pos w4]; exact hu.1
  · rw [nodeS, if_neg w0, if_neg w1, if_neg w2, if_neg w3, if_neg w4]

theorem op_node {N : Nat} {h : AH} {k w : Int32} (hI : INV N h) (hNN : N ≤ 512) : OPP yX6_node cX6_node 3 3 66 yX7_node cX7_node 3 2 46 [.int k, .int w] N h := by
  obtain ⟨n, hn, e1, e2, hP⟩ := hI.2.1.2.1
  obtain ⟨c, hc, c1, c2, c3, c4⟩ := NV_c hI.2.2.1
  obtain ⟨t, ht, t50⟩ := hI.2.2.1.2.2.1.2.2.1
  refine ⟨_, c_X6_node (t := t) hn e1 hc c1 (by rw [hI.2.1.1]; exact hP) (by omega) (by rw [hI.2.2.1.1]; exact t50), fun r u hp => ?_⟩
  obtain ⟨p1, p2, p3⟩ := hp
  subst p3
  refine ⟨_, c_X7_node (t := t) hn e2 hc c2 hP (by omega) t50 hI.2.1.2.2.2.1 hI.2.1.2.2.2.2.1 hI.2.2.1.2.2.2.1, fun r2 u2 hq => ?_⟩
  obtain ⟨q1, q2, q3⟩ := hq
  subst q3
  refine ⟨?_, INV_mono hI (by omega)⟩
  by_cases d : ∃ l, l < n ∧ k = nI l
  · obtain ⟨l, hl, el⟩ := d
    rw [q2 l hl el, p2 l hl el, hI.2.2.1.1, hI.2.1.1]
  · rw [q1 d, p1 d]
