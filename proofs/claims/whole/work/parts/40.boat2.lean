/-- the voyage of t hours that the class keeps -/
def VY (P : PR) (σ : SG) (r : Int32) (u : AH) (t : Nat) : Prop := u.1 89 0 = nI t ∧ ∀ j, j < t → u.1 90 j = nI (dnN P σ r j) ∧ u.1 91 j = nI (upN P σ r j)
theorem dn_lt {P : PR} {σ : SG} {r : Int32} (hn : pn P ≤ 10) (t : Nat) : dnN P σ r t < 2 ^ (pn P - 1) ∧ dnN P σ r t < 1024 := ⟨setN_lt _, pow10 (setN_lt _) (by omega)⟩
theorem up_lt {P : PR} {σ : SG} {r : Int32} (hn : pn P ≤ 10) (t : Nat) : upN P σ r t < 2 ^ (pn P) ∧ upN P σ r t < 1024 := ⟨setN_lt _, pow10 (setN_lt _) (by omega)⟩

set_option maxRecDepth 100000 in
set_option maxHeartbeats 4000000 in
theorem c_X6_findSoonest {h : AH} {a1 : Int32} {a2 : Int32} {a3 : Int32}  {n N a b : Nat} (hI : INV N h) (hN : N ≤ 511) (hn : n ≤ 10) (en : h.1 (h.2 1) 0 = nI n) (hP : POK (PM h.1)) (ha : a < n) (hb : b < n) (e1 : a1 = nI a) (e2 : a2 = nI b) : CI yX6_findSoonest cX6_findSoonest 5 (some .int) 4 123 [.ref 0, .int a1, .int a2, .int a3] h (fun r u => TC h u ∧ (soonN (PM h.1) (mk (ms h.1 0)) a3 a b = 101 → r = -1) ∧ (soonN (PM h.1) (mk (ms h.1 0)) a3 a b ≤ 100 → r = nI (soonN (PM h.1) (mk (ms h.1 0)) a3 a b) ∧ VY (PM h.1) (mk (ms h.1 0)) a3 u (soonN (PM h.1) (mk (ms h.1 0)) a3 a b))) := by
  refine CI.of [some (.ref 0), some (.int a1), some (.int a2), some (.int a3), none] (by decide +kernel) rfl (Nat.le_of_ble_eq_true rfl) rfl (fun Z hX => ?_)
  subst e2
  have ep : pn (PM h.1) = n := by rw [← hI.2.1.1]; exact pn_C en hn
  have hn2 := hP.1
  rw [ep] at hn2
  have b1 := oc0 hI.1.1
  have hT := TOK0 (hw := 0) hI hP i0
  generalize hdn : dnN (PM h.1) (mk (ms h.1 0)) a3 = dn
  generalize hup : upN (PM h.1) (mk (ms h.1 0)) a3 = up
  have hdl : ∀ t, dn t < 2 ^ (n - 1) := fun t => by rw [← hdn, ← ep]; exact (dn_lt hP.1.2 t).1
  have rl : ∀ t, rcN dn up a t < 1024 := fun t => pow10 (rc_lt ha hdl t) hn
  generalize hpost : (fun (r : Int32) (u : AH) => TC h u ∧ (soonN (PM h.1) (mk (ms h.1 0)) a3 a b = 101 → r = -1) ∧ (soonN (PM h.1) (mk (ms h.1 0)) a3 a b ≤ 100 → r = nI (soonN (PM h.1) (mk (ms h.1 0)) a3 a b) ∧ VY (PM h.1) (mk (ms h.1 0)) a3 u (soonN (PM h.1) (mk (ms h.1 0)) a3 a b))) = post
  have es : soonN (PM h.1) (mk (ms h.1 0)) a3 a b = fstS (fun t => (rcN dn up a t).testBit b) 101 0 := by rw [soonN, hdn, hup]
  -- the end, with t hours
  have fin : ∀ (t : Nat) (u : AH), t ≤ 100 → (∀ j, j < t → (rcN dn up a j).testBit b = false) → ((rcN dn up a t).testBit b = true ∨ t = 100) → TC h u → u.1 89 1 = nI (rcN dn up a t) → VY (PM h.1) (mk (ms h.1 0)) a3 u t → ∃ PP : Int32 → AH → Prop, CI yX4_isAt cX4_isAt 2 (some .boolean) 0 0 [.ref 89, .int (nI b)] u PP ∧ ∀ (r : Int32) (v : AH), PP r v → EX Z 5 (QI Z post) 85 v [some (.ref 0), none, none, none, none] (.int r :: []) := by
    intro t u ht hlo hor hu hr hv
    refine ⟨_, c_X4_isAt (rl t) hr (by omega) rfl, fun r v hrv => ?_⟩
    obtain ⟨r1, r2⟩ := hrv
    rw [r2]
    refine sg_X6_findSoonest_85 hX ⟨fun z => ?_, fun z => ?_⟩
    · rw [r1, bI_0] at z
      have e100 : t = 100 := hor.resolve_left z
      have : soonN (PM h.1) (mk (ms h.1 0)) a3 a b = 101 := by
        rw [es]
        refine fst_eq 101 0 101 (by omega) (by omega) (fun j _ hj => ?_) (Or.inl rfl)
        by_cases d : j = 100
        · rw [d, ← e100]; exact Bool.eq_false_iff.mpr z
        · exact hlo j (by omega)
      rw [← hpost]
      exact ⟨hu, fun _ => rfl, fun y => absurd y (by omega)⟩
    · rw [r1, bI_n0] at z
      have : soonN (PM h.1) (mk (ms h.1 0)) a3 a b = t := by
        rw [es]
        exact fst_eq 101 0 t (by omega) (by omega) (fun j _ hj => hlo j hj) (Or.inr z)
      rw [← hpost, this]
      exact ⟨hu, fun y => absurd y (by omega), fun _ => ⟨hv.1, hv⟩⟩
  have L : ∀ t, t ≤ 100 → ∀ u : AH, CT (PM h.1) (mk (ms h.1 0)) 0 0 h u t → (∀ j, j < t → (rcN dn up a j).testBit b = false) → u.1 89 1 = nI (rcN dn up a t) → VY (PM h.1) (mk (ms h.1 0)) a3 u t → EX Z 5 (QI Z post) 22 u [some (.ref 0), none, some (.int (nI b)), some (.int a3), some (.int (nI t))] [] := by
    refine ldown _ ?_ ?_
    · intro u hC hlo hr hv
      exact sg_X6_findSoonest_22 hX ⟨fun _ => fin 100 u (by omega) hlo (Or.inr rfl) hC.1 hr hv, fun z => absurd (by decide : (100 : Int32) ≤ nI 100) z⟩
    · intro t ht ih u hC hlo hr hv
      refine sg_X6_findSoonest_22 hX ⟨fun z => absurd z (nI_ge (b := 100) ht (by omega)), fun _ => ⟨_, c_X4_isAt (rl t) hr (by omega) rfl, fun r v hrv => ?_⟩⟩
      obtain ⟨r1, r2⟩ := hrv
      rw [r2]
      refine sg_X6_findSoonest_37 hX ⟨fun z => fin t u (by omega) hlo (Or.inl (by rw [r1, bI_n0] at z; exact z)) hC.1 hr hv, fun z => ?_⟩
      rw [r1, bI_0] at z
      obtain ⟨PP, q1, q2⟩ := ct_call2 hI hN (by omega) rfl hT hC
      rw [hC.1.1]
      refine ⟨PP, q1, fun u2 hu2 => sg_X6_findSoonest_55 hX ?_⟩
      obtain ⟨f2, hC2⟩ := q2 u2 hu2
      rw [hC2.1.1]
      refine ⟨_, c_X4_addHour (a2 := 42) (s := rcN dn up a t) (t := t) (n := n) hI.1.1 rfl rfl hn2 (by rw [hC2.1.2 (h.2 1) (by omega)]; exact en) (rl t) (by rw [f2.2 89 (by omega)]; exact hr) ht (by rw [f2.2 89 (by omega)]; exact hv.1) hC2.2.2, fun u3 hu3 => sg_X6_findSoonest_71 hX ?_⟩
      obtain ⟨w1, w2, w3, w4, w5, w6⟩ := hu3
      have ed : setN (dB (hoursS (PM h.1) 0 0 (t + 1) (mk (ms h.1 0))) a3) (n - 1) = dn t := by rw [← hdn, dnN, ep]
      have eu : setN (uB (hoursS (PM h.1) 0 0 (t + 1) (mk (ms h.1 0))) a3) n = up t := by rw [← hup, upN, ep]
      rw [ed] at w4 w5
      rw [eu] at w4 w6
      rw [nI_1]
      refine ih u3 ⟨⟨by rw [w1]; exact hC2.1.1, fun i hi => by rw [w2 i (by omega) (by omega) (by omega)]; exact hC2.1.2 i hi⟩, by rw [w2 42 (by omega) (by omega) (by omega)]; exact hC2.2.1, by rw [cs_same (fun i x y => w2 i (by omega) (by omega) (by omega))]; exact hC2.2.2⟩ (fun j hj => ?_) w4 ⟨w3, fun j hj => ?_⟩
      · by_cases d : j = t
        · rw [d]; exact Bool.eq_false_iff.mpr z
        · exact hlo j (by omega)
      · rw [w5, w6, f2.2 90 (by omega), f2.2 91 (by omega)]
        by_cases d : j = t
        · subst d; rw [upd_eq, upd_eq, hdn, hup]; exact ⟨rfl, rfl⟩
        · rw [upd_ne d, upd_ne d]; exact hv.2 j (by omega)
  refine sg_X6_findSoonest_0 hX ⟨_, c_X4_begin (a := a) (by omega) e1, fun u hu => sg_X6_findSoonest_8 hX ?_⟩
  obtain ⟨w1, w2, w3, w4⟩ := hu
  have tu : TC h u := ⟨w1, fun i hi => w2 i (by omega)⟩
  obtain ⟨PP, q1, q2⟩ := ct_begin2 hI tu
  refine ⟨PP, q1, fun u2 hu2 => sg_X6_findSoonest_19 hX ?_⟩
  obtain ⟨f2, hC2⟩ := q2 u2 hu2
  exact L 0 (by omega) u2 (hC2 0) (fun j hj => absurd hj (by omega)) (by rw [f2.2 89 (by omega)]; exact w4) ⟨by rw [f2.2 89 (by omega)]; exact w3, fun j hj => absurd hj (by omega)⟩

set_option maxRecDepth 100000 in
set_option maxHeartbeats 4000000 in
theorem c_X4_timelyBehind {h : AH} {a1 : Int32} {a2 : Int32}  {P : PR} {σ : SG} {r0 : Int32} {s t b : Nat} (hn : 2 ≤ pn P ∧ pn P ≤ 10) (hs : s ≤ 100) (ht : t < s) (hb : b < pn P) (hv : VY P σ r0 h s) (e1 : a1 = nI t) (e2 : a2 = nI b) : CI yX4_timelyBehind cX4_timelyBehind 5 (some .int) 0 0 [.ref 89, .int a1, .int a2] h (fun r u => r = nI (glN (dnN P σ r0) (upN P σ r0) s b (s - t - 1)) ∧ u = h) := by
  refine CI.of [some (.ref 89), some (.int a1), some (.int a2), none, none] (by decide +kernel) rfl (Nat.le_of_ble_eq_true rfl) rfl (fun Z hX => ?_)
  subst e1 e2
  have gl : ∀ d, glN (dnN P σ r0) (upN P σ r0) s b d < 1024 := fun d => pow10 (gl_lt hb (fun t => (dn_lt hn.2 t).1) (fun t => (up_lt hn.2 t).1) d) hn.2
  have L : ∀ d, d ≤ s - t - 1 → EX Z 5 (QI Z (fun r u => r = nI (glN (dnN P σ r0) (upN P σ r0) s b (s - t - 1)) ∧ u = h)) 12 h [some (.ref 89), some (.int (nI t)), none, some (.int (nI (glN (dnN P σ r0) (upN P σ r0) s b d))), some (.int (nI (s - 1 - d)))] [] := by
    refine ldown _ ?_ ?_
    · exact sg_X4_timelyBehind_12 hX ⟨fun _ => ⟨rfl, rfl⟩, fun z => absurd (nI_le (by omega) (by omega)) z⟩
    · intro d hd ih
      refine sg_X4_timelyBehind_12 hX ⟨fun z => absurd z (nI_ge (by omega) (by omega)), fun _ => ?_⟩
      have h1 := hv.2 (s - 1 - d) (by omega)
      have g := gl d
      rw [nI_clamp (by omega), h1.1, h1.2, sh_r1 (by omega), sh_l1 (by omega), nx_and, nx_and]
      refine ⟨vp_in_nI (by omega) (by omega), fun v3 e3 => ⟨vp_in_nI (by omega) (by omega), fun v5 e5 => ?_⟩⟩
      rw [e3, e5, nx_or, nx_or, show s - 1 - d = (s - 1 - (d + 1)) + 1 by omega, pk_m1]
      rw [glN, show s - d - 1 = s - 1 - (d + 1) + 1 by omega] at ih
      exact ih
  have e0 : h.1 89 0 - 1 = nI (s - 1) := by rw [hv.1, k_1, pk_sub (by omega)]
  refine sg_X4_timelyBehind_0 hX ?_
  rw [e0, shl_n b (by omega)]
  have := L 0 (by omega)
  rw [Nat.sub_zero] at this
  exact this

set_option maxRecDepth 100000 in
set_option maxHeartbeats 4000000 in
theorem c_X4_deedIn {h : AH} {a1 : Int32} {a2 : Int32} {a3 : Int32}  {P : PR} {σ : SG} {r0 : Int32} {s i a b : Nat} (hn : 2 ≤ pn P ∧ pn P ≤ 10) (hs : s ≤ 100) (hi : i < s) (hb : b < pn P) (hv : VY P σ r0 h s) (h0 : (glN (dnN P σ r0) (upN P σ r0) s b s).testBit a = true) (e1 : a1 = nI i) (e2 : a2 = nI a) (e3 : a3 = nI b) : CI yX4_deedIn cX4_deedIn 8 (some .int) 1 24 [.ref 89, .int a1, .int a2, .int a3] h (fun r u => r = nI (dedN (dnN P σ r0) (upN P σ r0) s b a i) ∧ u = h) := by
  refine CI.of [some (.ref 89), some (.int a1), some (.int a2), some (.int a3), none, none, none, none] (by decide +kernel) rfl (Nat.le_of_ble_eq_true rfl) rfl (fun Z hX => ?_)
  subst e1 e2 e3
  have gl : ∀ d, glN (dnN P σ r0) (upN P σ r0) s b d < 2 ^ pn P := fun d => gl_lt hb (fun t => (dn_lt hn.2 t).1) (fun t => (up_lt hn.2 t).1) d
  have pl : ∀ t, t ≤ s → plcN (dnN P σ r0) (upN P σ r0) s b a t < pn P := fun t ht => by
    rcases Nat.lt_or_ge (plcN (dnN P σ r0) (upN P σ r0) s b a t) (pn P) with d | d
    · exact d
    · have := plc_ok h0 t ht
      rw [Nat.testBit_lt_two_pow (Nat.lt_of_lt_of_le (gl _) (Nat.pow_le_pow_right (by decide) d))] at this
      cases this
  have L : ∀ t, t ≤ i + 1 → ∀ x5 : Int32, (t = i + 1 → x5 = nI (dedN (dnN P σ r0) (upN P σ r0) s b a i)) → EX Z 8 (QI Z (fun r u => r = nI (dedN (dnN P σ r0) (upN P σ r0) s b a i) ∧ u = h)) 9 h [some (.ref 89), some (.int (nI i)), none, some (.int (nI b)), some (.int (nI (plcN (dnN P σ r0) (upN P σ r0) s b a t))), some (.int x5), some (.int (nI t)), none] [] := by
    refine ldown _ ?_ ?_
    · intro x5 h5
      exact sg_X4_deedIn_9 hX ⟨fun _ => ⟨h5 rfl, rfl⟩, fun z => absurd (nI_lt (by omega) (by omega)) z⟩
    · intro t ht ih x5 _
      refine sg_X4_deedIn_9 hX ⟨fun z => absurd z (nI_nlt (by omega) (by omega)), fun _ => ⟨fun z => absurd z (by rw [hv.1]; exact nI_ge (by omega) (by omega)), fun _ => ⟨_, c_X4_timelyBehind hn hs (show t < s by omega) hb hv rfl rfl, fun r u hu => ?_⟩⟩⟩
      obtain ⟨u1, u2⟩ := hu
      rw [u2, u1]
      have p1 := pl t (by omega)
      have g1 : glN (dnN P σ r0) (upN P σ r0) s b (s - t - 1) < 1024 := pow10 (gl _) hn.2
      have d1 := (dn_lt (P := P) (σ := σ) (r := r0) hn.2 t).2
      refine sg_X4_deedIn_31 hX ?_
      rw [nI_clamp (by omega), (hv.2 t (by omega)).1, nI_1, nI_1]
      have tb := bitT (x := glN (dnN P σ r0) (upN P σ r0) s b (s - t - 1)) (k := plcN (dnN P σ r0) (upN P σ r0) s b a t) (by omega) (by omega)
      have bb : ((((nI (dnN P σ r0 t) >>> (nI (plcN (dnN P σ r0) (upN P σ r0) s b a t) &&& 31)) &&& (nI (glN (dnN P σ r0) (upN P σ r0) s b (s - t - 1)) >>> (nI (plcN (dnN P σ r0) (upN P σ r0) s b a t + 1) &&& 31))) &&& 1) = 0) ↔ ¬ ((dnN P σ r0 t).testBit (plcN (dnN P σ r0) (upN P σ r0) s b a t) && (glN (dnN P σ r0) (upN P σ r0) s b (s - t - 1)).testBit (plcN (dnN P σ r0) (upN P σ r0) s b a t + 1)) = true := by
        rw [sh_r (by omega) (by omega), sh_r (by omega) (by omega), nx_and, bit_1, Nat.testBit_and, Nat.testBit_div_two_pow, Nat.testBit_div_two_pow, Nat.zero_add, Nat.zero_add, Bool.eq_false_iff]
        exact Nat.lt_of_lt_of_le (Nat.and_lt_two_pow (n := 10) _ (Nat.lt_of_le_of_lt (Nat.div_le_self _ _) g1)) (by decide)
      refine ⟨fun _ => ⟨vp_in_nI (by omega) (by omega), trivial⟩, ?_⟩
      by_cases c : (glN (dnN P σ r0) (upN P σ r0) s b (s - t - 1)).testBit (plcN (dnN P σ r0) (upN P σ r0) s b a t) = true
      · have c' : ¬ (glN (dnN P σ r0) (upN P σ r0) s b (s - t - 1)).testBit (plcN (dnN P σ r0) (upN P σ r0) s b a t) = false := by rw [c]; decide
        rw [if_neg (fun z => c' (tb.mp z)), if_neg (fun z => c' (tb.mp z))]
        have := ih 0 (fun z => by rw [show i = t by omega, dedN, if_pos c]; rfl)
        rw [plcN, if_pos c] at this
        exact this
      · rw [if_pos (tb.mpr (Bool.eq_false_iff.mpr c)), if_pos (tb.mpr (Bool.eq_false_iff.mpr c))]
        by_cases d : ((dnN P σ r0 t).testBit (plcN (dnN P σ r0) (upN P σ r0) s b a t) && (glN (dnN P σ r0) (upN P σ r0) s b (s - t - 1)).testBit (plcN (dnN P σ r0) (upN P σ r0) s b a t + 1)) = true
        · rw [if_neg (fun z => bb.mp z d), if_neg (fun z => bb.mp z d)]
          have := ih 1 (fun z => by rw [show i = t by omega, dedN, if_neg c, if_pos d]; rfl)
          rw [plcN, if_neg c, if_pos d] at this
          exact this
        · rw [if_pos (bb.mpr d), if_pos (bb.mpr d)]
          obtain ⟨x1, -, -⟩ := plc_up h0 (show t < s by omega) c d
          have := ih 2 (fun z => by rw [show i = t by omega, dedN, if_neg c, if_neg d]; rfl)
          rw [plcN, if_neg c, if_neg d] at this
          obtain ⟨y, ey⟩ : ∃ y, plcN (dnN P σ r0) (upN P σ r0) s b a t = y + 1 := ⟨plcN (dnN P σ r0) (upN P σ r0) s b a t - 1, by omega⟩
          rw [ey, Nat.add_sub_cancel] at this
          rw [ey, pk_m1]
          exact this
  exact sg_X4_deedIn_0 hX (L 0 (by omega) 0 (fun z => absurd z (by omega)))

def tlN (P : PR) (k : Nat) : Nat := (pto P k).toNatClampNeg
def potN (P : PR) : Nat → Nat
  | 0 => 0
  | k + 1 => potN P k + tlN P k
theorem pot_mono {P : PR} {a b : Nat} (h : a ≤ b) : potN P a ≤ potN P b := by
  induction b with
  | zero => rw [show a = 0 by omega]; exact Nat.le_refl _
  | succ b ih =>
    by_cases c : a = b + 1
    · rw [c]; exact Nat.le_refl _
    · rw [potN]; have := ih (by omega); omega
theorem pot_le {P : PR} (h : ∀ k, k < 9 → ∃ a : Nat, a ≤ 99 ∧ pto P k = nI a) : ∀ k, k ≤ 9 → potN P k ≤ 99 * k := by
  intro k
  induction k with
  | zero => exact fun _ => Nat.le_refl _
  | succ k ih =>
    intro hk
    have := ih (by omega)
    obtain ⟨a, h1, h2⟩ := h k (by omega)
    have : tlN P k ≤ 99 := by rw [tlN, h2, nI_clamp (by omega)]; exact h1
    rw [potN]; omega
theorem tl_of {P : PR} {k : Nat} (h : ∀ k, k < 9 → ∃ a : Nat, a ≤ 99 ∧ pto P k = nI a) (hk : k < 9) : pto P k = nI (tlN P k) ∧ tlN P k ≤ 99 := by
  obtain ⟨a, h1, h2⟩ := h k hk
  rw [tlN, h2, nI_clamp (by omega)]
  exact ⟨rfl, h1⟩

set_option maxRecDepth 100000 in
set_option maxHeartbeats 4000000 in
theorem c_X0_tollBetween {h : AH} {a0 : Nat} {a1 : Int32} {a2 : Int32} (ha0 : oc a0 = some 0) {P : PR} {n o a b : Nat} (hto : ∀ k, k < 9 → ∃ a : Nat, a ≤ 99 ∧ pto P k = nI a) (eP : PC h.1 a0 o = P) (hn : n ≤ 10) (ha : a < n) (hb : b < n) (e1 : a1 = nI a) (e2 : a2 = nI b) : CI yX0_tollBetween cX0_tollBetween 5 (some .int) 1 40 [.ref a0, .int a1, .int a2] h (fun r u => r = nI (potN P b) - nI (potN P a) ∧ u = h) := by
  refine CI.of [some (.ref a0), some (.int a1), some (.int a2), none, none] (by decide +kernel) rfl (Nat.le_of_ble_eq_true rfl) rfl (fun Z hX => ?_)
  subst e1 e2
  have lo : (if nI b < nI a then nI b else nI a) = nI (min a b) := by
    by_cases c : b < a
    · rw [if_pos (nI_lt c (by omega)), Nat.min_eq_right (by omega)]
    · rw [if_neg (nI_nlt (by omega) (by omega)), Nat.min_eq_left (by omega)]
  have hi : (if nI a < nI b then nI b else nI a) = nI (max a b) := by
    by_cases c : a < b
    · rw [if_pos (nI_lt c (by omega)), Nat.max_eq_right (by omega)]
    · rw [if_neg (nI_nlt (by omega) (by omega)), Nat.max_eq_left (by omega)]
  have L : ∀ k, k ≤ max a b → min a b ≤ k → EX Z 5 (QI Z (fun r u => r = nI (potN P b) - nI (potN P a) ∧ u = h)) 9 h [some (.ref a0), some (.int (nI a)), some (.int (nI b)), some (.int (nI (potN P k - potN P (min a b)))), some (.int (nI k))] [] := by
    refine ldown _ ?_ ?_
    · intro _
      refine sg_X0_tollBetween_9 hX ha0 ?_
      rw [hi]
      refine ⟨fun _ => ⟨fun z => ⟨?_, rfl⟩, fun z => ⟨?_, rfl⟩⟩, fun z => absurd (nI_le (Nat.le_refl _) (by omega)) z⟩
      · rw [nI_leI (by omega) (by omega)] at z
        rw [Nat.max_eq_left (by omega), Nat.min_eq_right (by omega), ← pk_sub (pot_mono z), Int32.neg_sub]
      · rw [nI_leI (by omega) (by omega)] at z
        rw [Nat.max_eq_right (by omega), Nat.min_eq_left (by omega), ← pk_sub (pot_mono (by omega))]
    · intro k hk ih hm
      refine sg_X0_tollBetween_9 hX ha0 ?_
      rw [hi]
      have k9 : k < 9 := by omega
      refine ⟨fun z => absurd z (nI_ge hk (by omega)), fun _ => ⟨vp_in_nI (by omega) (by omega), fun v4 e4 => ?_⟩⟩
      have et : h.1 (a0 + 5) k = nI (tlN P k) := by
        rw [← (tl_of hto k9).1, ← eP]
        exact (cut_in k9).symm
      rw [nI_clamp (by omega), et, nI_add, show potN P k - potN P (min a b) + tlN P k = potN P (k + 1) - potN P (min a b) by rw [potN]; have := pot_mono (P := P) hm; omega] at e4
      rw [e4, nI_1]
      exact ih (by omega)
  refine sg_X0_tollBetween_0 hX ha0 ?_
  rw [lo]
  have := L (min a b) (by omega) (Nat.le_refl _)
  rw [Nat.sub_self] at this
  exact this

def boatS (P : PR) (σ : SG) (x1 x2 r i : Int32) : Int32 :=
  let s := soonN P σ r x1.toNatClampNeg x2.toNatClampNeg
  if s = 101 then (if i = -2 then -100000003 else -1)
  else if i = -1 then nI s
  else if i = -2 then nI (potN P x2.toNatClampNeg) - nI (potN P x1.toNatClampNeg)
  else if i < 0 ∨ nI s ≤ i then -1
  else nI (dedN (dnN P σ r) (upN P σ r) s x2.toNatClampNeg x1.toNatClampNeg i.toNatClampNeg)
theorem soon_le {P : PR} {σ : SG} {r : Int32} {a b : Nat} : soonN P σ r a b ≤ 101 ∧ (soonN P σ r a b ≤ 100 → (glN (dnN P σ r) (upN P σ r) (soonN P σ r a b) b (soonN P σ r a b)).testBit a = true) := by
  obtain ⟨h1, h2, h3, h4⟩ := fst_spec (q := fun t => (rcN (dnN P σ r) (upN P σ r) a t).testBit b) 101 0
  refine ⟨by unfold soonN; omega, fun hs => ?_⟩
  rw [← fwbw]
  exact h4.resolve_left (by unfold soonN at hs; omega)

set_option maxRecDepth 100000 in
set_option maxHeartbeats 4000000 in
theorem c_X6_boat {h : AH} {a1 : Int32} {a2 : Int32} {a3 : Int32} {a4 : Int32}  {n N : Nat} (hn : n ≤ 10) (hI : INV N h) (hN : N ≤ 511) (en : h.1 (h.2 1) 0 = nI n) (hP : n = 0 ∨ POK (PM h.1)) : CI yX6_boat cX6_boat 6 (some .int) 5 147 [.ref 0, .int a1, .int a2, .int a3, .int a4] h (fun r u => T3 (nodeA n a1 ∧ nodeA n a2) (rN 0 999 a3) (-100000001) (-100000002) (boatS (PM h.1) (mk (ms h.1 0)) a1 a2 a3 a4) r ∧ TC h u) := by
  refine CI.of [some (.ref 0), some (.int a1), some (.int a2), some (.int a3), some (.int a4), none] (by decide +kernel) rfl (Nat.le_of_ble_eq_true rfl) rfl (fun Z hX => ?_)
  have hA : (0 ≤ a1 ∧ a1 < h.1 (h.2 1) 0) ↔ nodeA n a1 := by rw [en]; exact nd1 hn
  have hA' : (0 ≤ a2 ∧ a2 < h.1 (h.2 1) 0) ↔ nodeA n a2 := by rw [en]; exact nd1 hn
  have r3 := rnC (x := a3) (lo := 0) (hi := 999) (L := 0) (M := 999) rfl rfl (by decide)
  have b1 := oc0 hI.1.1
  refine sg_X6_boat_0 hX ⟨fun c => ⟨T3.a (fun z => c (hA.mpr z.1)), TC.rf⟩, fun c => ⟨fun c1 => ?_, fun c1 => ⟨T3.a (fun z => c1 (hA'.mpr z.2)), TC.rf⟩⟩⟩
  have hA2 : nodeA n a1 ∧ nodeA n a2 := ⟨hA.mp c, hA'.mp c1⟩
  refine ⟨fun c2 => ⟨T3.b hA2 (fun z => (r3.mpr z).1 c2), TC.rf⟩, fun c2 => ⟨fun c3 => ?_, fun c3 => ⟨T3.b hA2 (fun z => c3 (r3.mpr z).2), TC.rf⟩⟩⟩
  have hB := r3.mp ⟨c2, c3⟩
  obtain ⟨⟨a, ha, e1⟩, ⟨b, hb, e2⟩⟩ := id hA2
  have hP' := hP.resolve_left (by omega)
  have ep : pn (PM h.1) = n := by rw [← hI.2.1.1]; exact pn_C en hn
  refine ⟨_, c_X6_findSoonest hI hN hn en hP' ha hb e1 e2, fun s0 u hu => ?_⟩
  obtain ⟨u1, u2, u3⟩ := hu
  obtain ⟨sl, sg⟩ := soon_le (P := PM h.1) (σ := mk (ms h.1 0)) (r := a3) (a := a) (b := b)
  have eR : boatS (PM h.1) (mk (ms h.1 0)) a1 a2 a3 a4 = (if soonN (PM h.1) (mk (ms h.1 0)) a3 a b = 101 then (if a4 = -2 then -100000003 else -1) else if a4 = -1 then nI (soonN (PM h.1) (mk (ms h.1 0)) a3 a b) else if a4 = -2 then nI (potN (PM h.1) b) - nI (potN (PM h.1) a) else if a4 < 0 ∨ nI (soonN (PM h.1) (mk (ms h.1 0)) a3 a b) ≤ a4 then -1 else nI (dedN (dnN (PM h.1) (mk (ms h.1 0)) a3) (upN (PM h.1) (mk (ms h.1 0)) a3) (soonN (PM h.1) (mk (ms h.1 0)) a3 a b) b a a4.toNatClampNeg)) := by
    unfold boatS
    rw [e1, e2, nI_clamp (by omega), nI_clamp (by omega)]
  have ok : ∀ {r : Int32} {v : AH}, r = boatS (PM h.1) (mk (ms h.1 0)) a1 a2 a3 a4 → TC h v → T3 (nodeA n a1 ∧ nodeA n a2) (rN 0 999 a3) (-100000001) (-100000002) (boatS (PM h.1) (mk (ms h.1 0)) a1 a2 a3 a4) r ∧ TC h v := fun x y => ⟨T3.c hA2 hB x, y⟩
  have hn2 := hP'.1
  generalize soonN (PM h.1) (mk (ms h.1 0)) a3 a b = s at *
  by_cases cs : s = 101
  · rw [if_pos cs] at eR
    have es := u2 cs
    refine sg_X6_boat_46 hX ⟨fun d => ⟨fun d2 => ⟨fun d3 => ok (by rw [eR, if_neg d2]) u1, fun d3 => ⟨fun d4 => ?_, fun d4 => ok (by rw [eR, if_neg d2]) u1⟩⟩, fun d2 => ⟨fun d3 => absurd es d3, fun d3 => ok (by rw [eR, if_pos d2]) u1⟩⟩, fun d => ok (by rw [eR, if_neg (by rw [d]; decide), es]) u1⟩
    rw [es] at d4
    exact absurd (Int32.lt_trans d4 (by decide)) d3
  · rw [if_neg cs] at eR
    obtain ⟨es, hv⟩ := u3 (by omega)
    have ns : ¬ s0 = -1 := by
      intro z
      rw [es] at z
      have := congrArg Int32.toInt z
      rw [nI_toInt (by omega)] at this
      have e1 : ((-1 : Int32)).toInt = -1 := rfl
      omega
    refine sg_X6_boat_46 hX ⟨fun d => ⟨fun d2 => ⟨fun d3 => ok (by rw [eR, if_neg d, if_neg d2, if_pos (Or.inl d3)]) u1, fun d3 => ⟨fun d4 => ?_, fun d4 => ok (by rw [eR, if_neg d, if_neg d2, if_pos (Or.inr (by rw [← es]; exact Int32.not_lt.mp d4))]) u1⟩⟩, fun d2 => ⟨fun d3 => ?_, fun d3 => absurd d3 ns⟩⟩, fun d => ok (by rw [eR, if_pos d, es]) u1⟩
    · rw [es] at d4
      obtain ⟨i, i1, i2⟩ := nI_of d3
      have is : i < s := by rw [i2, nI_ltI (by omega) (by omega)] at d4; exact d4
      refine ⟨_, c_X4_deedIn (h := u) (i := i) hn2 (by omega) is (by rw [ep]; exact hb) hv (sg (by omega)) i2 e1 e2, fun r v hrv => ?_⟩
      obtain ⟨y1, y2⟩ := hrv
      rw [y2]
      refine sg_X6_boat_110 hX (ok ?_ u1)
      rw [y1, eR, if_neg d, if_neg d2, if_neg, i2, nI_clamp (by omega)]
      rintro (y | y)
      · exact d3 y
      · exact Int32.not_lt.mpr y d4
    · rw [u1.1]
      have eQ : PC u.1 (h.2 1) (h.2 3) = PM h.1 := by rw [PC_eq hI.1.1 hI.1.2.2.1 (fun i hi => u1.2 i (by omega)), hI.2.1.1]
      refine ⟨_, c_X0_tollBetween (h := u) (n := n) hI.1.1 hI.2.1.2.2.2.2.2 eQ hn ha hb e1 e2, fun r v hrv => ?_⟩
      obtain ⟨y1, y2⟩ := hrv
      rw [y2]
      refine sg_X6_boat_84 hX (ok ?_ u1)
      rw [y1, eR, if_neg d, if_pos d2]
