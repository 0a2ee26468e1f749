theorem and255 (w : Int32) : ∃ b, b < 256 ∧ w &&& 255 = nI b := by
  refine ⟨w.toBitVec.toNat % 256, Nat.mod_lt _ (by decide), ?_⟩
  apply Int32.toBitVec_inj.mp
  apply BitVec.eq_of_toNat_eq
  rw [Int32.toBitVec_and, BitVec.toNat_and]
  show w.toBitVec.toNat &&& 255 = (BitVec.ofNat 32 (w.toBitVec.toNat % 256)).toNat
  rw [BitVec.toNat_ofNat, Nat.mod_eq_of_lt (show w.toBitVec.toNat % 256 < 2 ^ 32 by have := Nat.mod_lt w.toBitVec.toNat (show 0 < 256 by decide); omega)]
  exact Nat.and_two_pow_sub_one_eq_mod w.toBitVec.toNat 8
def cbS (x : Int64) (i : Nat) : Int32 := vp_nar .byte (Int8.toInt32 (Int32.toInt8 (Int64.toInt32 (x >>> (Int32.toInt64 (8 * nI i) &&& 63)))))
def mbS (x : Int64) (i : Nat) : Int32 := Int64.toInt32 ((x >>> (Int32.toInt64 (8 * nI i) &&& 63)) &&& 255)
theorem cb_mb (x : Int64) (i : Nat) : ∃ b, b < 256 ∧ mbS x i = nI b ∧ cbS x i = (nI b).toInt8.toInt32 := by
  unfold cbS mbS
  generalize x >>> (Int32.toInt64 (8 * nI i) &&& 63) = y
  obtain ⟨b, hb, e⟩ := and255 (Int64.toInt32 y)
  refine ⟨b, hb, ?_, ?_⟩
  · rw [Int64.toInt32_and, ← e]; rfl
  · rw [pk_vb, ← e, fa_byte_low]

set_option maxRecDepth 100000 in
set_option maxHeartbeats 4000000 in
theorem c_X2_takeBytes {h : AH} {a1 : Int32} {a2 : Int64}  {L n : Nat} (hL : L ≤ 400) (hn : 1 ≤ n ∧ n ≤ 8) (e1 : a1 = nI n) (el : h.1 1 1 = nI L) : CI yX2_takeBytes cX2_takeBytes 5 (some .boolean) 0 0 [.ref 1, .int a1, .long a2] h (fun r u => (¬ L + n ≤ 400 → r = 0 ∧ u = h) ∧ (L + n ≤ 400 → r = 1 ∧ u.2 = h.2 ∧ (∀ i, i ≠ 1 → i ≠ 2 → u.1 i = h.1 i) ∧ u.1 1 1 = nI (L + n) ∧ (∀ j, j < L → u.1 2 j = h.1 2 j) ∧ ∀ j, j < n → u.1 2 (L + j) = cbS a2 (n - 1 - j))) := by
  refine CI.of [some (.ref 1), some (.int a1), some (.long a2), none, none] (by decide +kernel) rfl (Nat.le_of_ble_eq_true rfl) rfl (fun Z hX => ?_)
  subst e1
  have cmp : (nI n ≤ 400 - h.1 1 1) ↔ L + n ≤ 400 := by
    rw [el, k_400, pk_sub hL, nI_leI (by omega) (by omega)]
    omega
  refine sg_X2_takeBytes_0 hX ⟨fun z => ?_, fun z => ⟨fun _ => ⟨rfl, rfl⟩, fun y => absurd (cmp.mpr y) z⟩⟩
  have ok := cmp.mp z
  have LP : ∀ m, m ≤ n → ∀ (u : AH) (x4 : Int32), x4 = nI m - 1 → u.2 = h.2 → (∀ i, i ≠ 1 → i ≠ 2 → u.1 i = h.1 i) → u.1 1 1 = nI (L + (n - m)) → (∀ j, j < L → u.1 2 j = h.1 2 j) → (∀ j, j < n - m → u.1 2 (L + j) = cbS a2 (n - 1 - j)) → EX Z 5 (QI Z (fun r u => (¬ L + n ≤ 400 → r = 0 ∧ u = h) ∧ (L + n ≤ 400 → r = 1 ∧ u.2 = h.2 ∧ (∀ i, i ≠ 1 → i ≠ 2 → u.1 i = h.1 i) ∧ u.1 1 1 = nI (L + n) ∧ (∀ j, j < L → u.1 2 j = h.1 2 j) ∧ ∀ j, j < n → u.1 2 (L + j) = cbS a2 (n - 1 - j)))) 19 u [some (.ref 1), none, some (.long a2), none, some (.int x4)] [] := by
    intro m
    induction m with
    | zero =>
      intro hm u x4 ex a b c d e
      refine sg_X2_takeBytes_19 hX ⟨fun _ => ⟨fun y => absurd ok y, fun _ => ⟨rfl, a, b, c, d, e⟩⟩, fun y => absurd (by rw [ex]; decide) y⟩
    | succ m ih =>
      intro hm u x4 ex a b c d e
      rw [nI_pred] at ex
      subst ex
      refine sg_X2_takeBytes_19 hX ⟨fun y => absurd y (nI_pos (by omega)), fun _ v2 e2 => ⟨by rw [c]; exact vp_in_nI (by omega) (by omega), fun u4 e4 u5 e5 => ?_⟩⟩
      rw [c, nI_clamp (by omega), e2] at e4
      have e4 : u4 = (hset u.1 2 (L + (n - (m + 1))) (cbS a2 m), u.2) := e4
      have c4 : u4.1 1 1 = nI (L + (n - (m + 1))) := by rw [e4, hs_o (by omega)]; exact c
      rw [c4, nI_1] at e5
      refine ih (by omega) u5 _ ?_ (by rw [e5, e4]; exact a) (fun i h1 h2 => by rw [e5, hs_o h1, e4, hs_o h2]; exact b i h1 h2) ?_ (fun j hj => ?_) (fun j hj => ?_)
      · rw [Int32.sub_eq_add_neg]
      · rw [e5, hs_s, show L + (n - (m + 1)) + 1 = L + (n - m) by omega]
      · rw [e5, hs_o (by omega), e4, hs_i (by omega)]; exact d j hj
      · by_cases z : j = n - (m + 1)
        · subst z
          rw [e5, hs_o (by omega), e4, hs_s, show n - 1 - (n - (m + 1)) = m by omega]
        · rw [e5, hs_o (by omega), e4, hs_i (by omega)]; exact e j (by omega)
  refine LP n (Nat.le_refl _) h _ rfl rfl (fun _ _ _ => rfl) ?_ (fun _ _ => rfl) (fun j hj => absurd hj (by omega))
  rw [el, Nat.sub_self]
  rfl

set_option maxRecDepth 100000 in
set_option maxHeartbeats 4000000 in
theorem c_X7_feed {h : AH} {a1 : Int32} {a2 : Int64}  {L : Nat} (hL : L ≤ 400) (el : h.1 94 17 = nI L) : CI yX7_feed cX7_feed 5 (some .int) 1 25 [.ref 94, .int a1, .long a2] h (fun r u => (¬ (∃ n, (1 ≤ n ∧ n ≤ 8) ∧ a1 = nI n) → r = -100000002 ∧ u = h) ∧ ∀ n, 1 ≤ n ∧ n ≤ 8 → a1 = nI n → (¬ L + n ≤ 400 → r = -100000004 ∧ u = h) ∧ (L + n ≤ 400 → r = nI (L + n) ∧ u.2 = h.2 ∧ (∀ i, i ≠ 94 → i ≠ 107 → u.1 i = h.1 i) ∧ (∀ k, k ≠ 17 → u.1 94 k = h.1 94 k) ∧ u.1 94 17 = nI (L + n) ∧ (∀ j, j < L → u.1 107 j = h.1 107 j) ∧ ∀ j, j < n → u.1 107 (L + j) = mbS a2 (n - 1 - j))) := by
  refine CI.of [some (.ref 94), some (.int a1), some (.long a2), none, none] (by decide +kernel) rfl (Nat.le_of_ble_eq_true rfl) rfl (fun Z hX => ?_)
  have rg : (1 ≤ (Int32.toInt64 a1) ∧ (Int32.toInt64 a1) ≤ 8) ↔ ∃ n, (1 ≤ n ∧ n ≤ 8) ∧ a1 = nI n := by
    constructor
    · rintro ⟨h1, h2⟩
      have h0 : 0 ≤ Int32.toInt64 a1 := by
        rw [Int64.le_iff_toInt_le] at h1 ⊢
        have e1 : (1 : Int64).toInt = 1 := by decide
        have e0 : (0 : Int64).toInt = 0 := by decide
        omega
      have this : (0 ≤ Int32.toInt64 a1 ∧ Int32.toInt64 a1 ≤ 8) := ⟨h0, h2⟩
      obtain ⟨w, w1, w2⟩ := (rngL (m := 8) rfl (by decide)).mp this
      refine ⟨w, ⟨?_, w1⟩, w2⟩
      rw [w2, Int64.le_iff_toInt_le, Int32.toInt_toInt64, nI_toInt (by omega)] at h1
      have : (1 : Int64).toInt = 1 := by decide
      omega
    · rintro ⟨n, hn, rfl⟩
      exact (w64 (lo := 1) (hi := 8) (by decide) (by decide) (by omega) (by omega) (by omega)).mpr hn
  refine sg_X7_feed_0 hX ⟨fun z => ?_, fun z => ⟨fun _ => ⟨rfl, rfl⟩, fun n hn e => absurd (rg.mpr ⟨n, hn, e⟩) z⟩⟩
  obtain ⟨n, hn, e1⟩ := rg.mp z
  subst e1
  have uq : ∀ m, 1 ≤ m ∧ m ≤ 8 → nI n = nI m → m = n := fun m hm e => ((nI_eq (by omega) (by omega)).mp e).symm
  have cmp : (h.1 94 17 + nI n ≤ 400) ↔ L + n ≤ 400 := by rw [el, nI_add, k_400, nI_leI (by omega) (by omega)]
  refine ⟨fun y => ?_, fun y => ⟨fun w => absurd ⟨n, hn, rfl⟩ w, fun m hm e => ?_⟩⟩
  case refine_2 =>
    have := uq m hm e
    subst this
    exact ⟨fun _ => ⟨rfl, rfl⟩, fun w => absurd (cmp.mpr w) y⟩
  have ok := cmp.mp y
  generalize hpost : (fun (r : Int32) (u : AH) => (¬ (∃ n_1, (1 ≤ n_1 ∧ n_1 ≤ 8) ∧ nI n = nI n_1) → r = -100000002 ∧ u = h) ∧ ∀ n_1, 1 ≤ n_1 ∧ n_1 ≤ 8 → nI n = nI n_1 → (¬ L + n_1 ≤ 400 → r = -100000004 ∧ u = h) ∧ (L + n_1 ≤ 400 → r = nI (L + n_1) ∧ u.2 = h.2 ∧ (∀ i, i ≠ 94 → i ≠ 107 → u.1 i = h.1 i) ∧ (∀ k, k ≠ 17 → u.1 94 k = h.1 94 k) ∧ u.1 94 17 = nI (L + n_1) ∧ (∀ j, j < L → u.1 107 j = h.1 107 j) ∧ ∀ j, j < n_1 → u.1 107 (L + j) = mbS a2 (n_1 - 1 - j))) = post
  have LP : ∀ m, m ≤ n → ∀ (u : AH) (x4 : Int32), x4 = nI m - 1 → u.2 = h.2 → (∀ i, i ≠ 94 → i ≠ 107 → u.1 i = h.1 i) → (∀ k, k ≠ 17 → u.1 94 k = h.1 94 k) → u.1 94 17 = nI (L + (n - m)) → (∀ j, j < L → u.1 107 j = h.1 107 j) → (∀ j, j < n - m → u.1 107 (L + j) = mbS a2 (n - 1 - j)) → EX Z 5 (QI Z post) 35 u [some (.ref 94), none, some (.long a2), none, some (.int x4)] [] := by
    intro m
    induction m with
    | zero =>
      intro hm u x4 ex a b b2 c d e
      refine sg_X7_feed_35 hX ⟨fun _ => ?_, fun y => absurd (by rw [ex]; decide) y⟩
      rw [← hpost]
      refine ⟨fun w => absurd ⟨n, hn, rfl⟩ w, fun m hm e' => ?_⟩
      have := uq m hm e'
      subst this
      exact ⟨fun w => absurd ok w, fun _ => ⟨c, a, b, b2, c, d, e⟩⟩
    | succ m ih =>
      intro hm u x4 ex a b b2 c d e
      rw [nI_pred] at ex
      subst ex
      refine sg_X7_feed_35 hX ⟨fun y => absurd y (nI_pos (by omega)), fun _ v2 e2 => ⟨by rw [c]; exact vp_in_nI (by omega) (by omega), fun u4 e4 u5 e5 => ?_⟩⟩
      rw [c, nI_clamp (by omega), e2] at e4
      have e4 : u4 = (hset u.1 107 (L + (n - (m + 1))) (mbS a2 m), u.2) := e4
      have c4 : u4.1 94 17 = nI (L + (n - (m + 1))) := by rw [e4, hs_o (by omega)]; exact c
      rw [c4, nI_1] at e5
      refine ih (by omega) u5 _ ?_ (by rw [e5, e4]; exact a) (fun i h1 h2 => by rw [e5, hs_o h1, e4, hs_o h2]; exact b i h1 h2) (fun k hk => by rw [e5, hs_i hk, e4, hs_o (by omega)]; exact b2 k hk) ?_ (fun j hj => ?_) (fun j hj => ?_)
      · rw [Int32.sub_eq_add_neg]
      · rw [e5, hs_s, show L + (n - (m + 1)) + 1 = L + (n - m) by omega]
      · rw [e5, hs_o (by omega), e4, hs_i (by omega)]; exact d j hj
      · by_cases z : j = n - (m + 1)
        · subst z
          rw [e5, hs_o (by omega), e4, hs_s, show n - 1 - (n - (m + 1)) = m by omega]
        · rw [e5, hs_o (by omega), e4, hs_i (by omega)]; exact e j (by omega)
  refine LP n (Nat.le_refl _) h _ rfl rfl (fun _ _ _ => rfl) (fun _ _ => rfl) ?_ (fun _ _ => rfl) (fun j hj => absurd hj (by omega))
  rw [el, Nat.sub_self]
  rfl

set_option maxRecDepth 100000 in
set_option maxHeartbeats 4000000 in
theorem c_X6_feed {h : AH} {a1 : Int32} {a2 : Int64}  {L : Nat} (hL : L ≤ 400) (el : h.1 1 1 = nI L) : CI yX6_feed cX6_feed 4 (some .int) 1 24 [.ref 0, .int a1, .long a2] h (fun r u => (¬ (∃ n, (1 ≤ n ∧ n ≤ 8) ∧ a1 = nI n) → r = -100000002 ∧ u = h) ∧ ∀ n, 1 ≤ n ∧ n ≤ 8 → a1 = nI n → (¬ L + n ≤ 400 → r = -100000004 ∧ u = h) ∧ (L + n ≤ 400 → r = nI (L + n) ∧ u.2 = h.2 ∧ (∀ i, i ≠ 1 → i ≠ 2 → u.1 i = h.1 i) ∧ u.1 1 1 = nI (L + n) ∧ (∀ j, j < L → u.1 2 j = h.1 2 j) ∧ ∀ j, j < n → u.1 2 (L + j) = cbS a2 (n - 1 - j))) := by
  refine CI.of [some (.ref 0), some (.int a1), some (.long a2), none] (by decide +kernel) rfl (Nat.le_of_ble_eq_true rfl) rfl (fun Z hX => ?_)
  have out : (a1 < 1 ∨ ¬ a1 ≤ 8) → ¬ (∃ n, (1 ≤ n ∧ n ≤ 8) ∧ a1 = nI n) := by
    rintro z ⟨n, hn, rfl⟩
    rw [k_1, k_8, nI_ltI (by omega) (by omega), nI_leI (by omega) (by omega)] at z
    omega
  have bad : (a1 < 1 ∨ ¬ a1 ≤ 8) → (¬ (∃ n, (1 ≤ n ∧ n ≤ 8) ∧ a1 = nI n) → (-100000002 : Int32) = -100000002 ∧ h = h) ∧ ∀ n, 1 ≤ n ∧ n ≤ 8 → a1 = nI n → (¬ L + n ≤ 400 → (-100000002 : Int32) = -100000004 ∧ h = h) ∧ (L + n ≤ 400 → (-100000002 : Int32) = nI (L + n) ∧ h.2 = h.2 ∧ (∀ i, i ≠ 1 → i ≠ 2 → h.1 i = h.1 i) ∧ h.1 1 1 = nI (L + n) ∧ (∀ j, j < L → h.1 2 j = h.1 2 j) ∧ ∀ j, j < n → h.1 2 (L + j) = cbS a2 (n - 1 - j)) := fun z => ⟨fun _ => ⟨rfl, rfl⟩, fun n hn e => absurd ⟨n, hn, e⟩ (out z)⟩
  refine sg_X6_feed_0 hX ⟨fun z => bad (Or.inl z), fun z => ⟨fun y => ?_, fun y => bad (Or.inr y)⟩⟩
  have z0 : ¬ a1 < 0 := fun w => by
    rw [Int32.lt_iff_toInt_lt] at z w
    have : (1 : Int32).toInt = 1 := rfl
    have : (0 : Int32).toInt = 0 := rfl
    omega
  obtain ⟨n, hn, e1⟩ := nI_of z0
  have hn8 : 1 ≤ n ∧ n ≤ 8 := by
    rw [e1, k_1, nI_ltI hn (by omega)] at z
    rw [e1, k_8, nI_leI hn (by omega)] at y
    omega
  subst e1
  refine ⟨_, c_X2_takeBytes hL hn8 rfl el, fun r u p => ?_⟩
  by_cases ok : L + n ≤ 400
  · obtain ⟨p1, p2, p3, p4, p5, p6⟩ := p.2 ok
    refine sg_X6_feed_23 hX ⟨fun w => absurd w (by rw [p1]; decide), fun _ => ⟨fun w => absurd ⟨n, hn8, rfl⟩ w, fun m hm e => ?_⟩⟩
    have := (nI_eq (by omega) (by omega)).mp e
    subst this
    exact ⟨fun w => absurd ok w, fun _ => ⟨p4, p2, p3, p4, p5, p6⟩⟩
  · obtain ⟨p1, p2⟩ := p.1 ok
    refine sg_X6_feed_23 hX ⟨fun _ => ⟨fun w => absurd ⟨n, hn8, rfl⟩ w, fun m hm e => ?_⟩, fun w => absurd p1 w⟩
    have := (nI_eq (by omega) (by omega)).mp e
    subst this
    exact ⟨fun _ => ⟨rfl, p2⟩, fun w => absurd w ok⟩

theorem op_feed {N : Nat} {h : AH} {k : Int32} {b : Int64} (hI : INV N h) : OPP yX6_feed cX6_feed 4 1 24 yX7_feed cX7_feed 5 1 25 [.int k, .long b] N h := by
  obtain ⟨L, hL, l1, l2, l3⟩ := hI.2.2.2.2.1
  refine ⟨_, c_X6_feed hL l1, fun r u hp => ?_⟩
  have h94 : u.1 94 = h.1 94 ∧ u.1 107 = h.1 107 := by
    by_cases c : ∃ n, (1 ≤ n ∧ n ≤ 8) ∧ k = nI n
    · obtain ⟨n, hn, e⟩ := c
      have p2 := hp.2 n hn e
      by_cases ok : L + n ≤ 400
      · obtain ⟨-, -, p3, -⟩ := p2.2 ok
        exact ⟨p3 94 (by omega) (by omega), p3 107 (by omega) (by omega)⟩
      · rw [(p2.1 ok).2]; exact ⟨rfl, rfl⟩
    · rw [(hp.1 c).2]; exact ⟨rfl, rfl⟩
  refine ⟨_, c_X7_feed (h := u) hL (by rw [h94.1]; exact l2), fun r2 u2 hq => ?_⟩
  by_cases c : ∃ n, (1 ≤ n ∧ n ≤ 8) ∧ k = nI n
  · obtain ⟨n, hn, e⟩ := c
    have p2 := hp.2 n hn e
    have q2 := hq.2 n hn e
    by_cases ok : L + n ≤ 400
    · obtain ⟨a1, a2, a3, a4, a5, a6⟩ := p2.2 ok
      obtain ⟨b1, b2, b3, b4, b5, b6, b7⟩ := q2.2 ok
      refine ⟨by rw [b1, a1], ?_⟩
      have eo : ∀ i, i ≠ 1 → i ≠ 2 → i ≠ 94 → i ≠ 107 → u2.1 i = h.1 i := fun i h1 h2 h3 h4 => by rw [b3 i h3 h4, a3 i h1 h2]
      have e94 : ∀ k, k ≠ 17 → u2.1 94 k = h.1 94 k := fun k hk => by rw [b4 k hk, h94.1]
      have e2 : u2.2 = h.2 := by rw [b2, a2]
      obtain ⟨g, r, n0, i, t, f, bb, hv⟩ := hI
      have g' := g
      obtain ⟨g1, g2, g3, g4, g5, g6⟩ := g'
      have x1 := oc0 g1
      have x3 := oc1 g3
      have eP : PM u2.1 = PM h.1 := PM_eq (e94 9 (by omega)) (e94 14 (by omega)) (fun i hi => eo i (by omega) (by omega) (by omega) (by omega))
      have eQ : PC u2.1 (h.2 1) (h.2 3) = PC h.1 (h.2 1) (h.2 3) := by
        unfold PC
        rw [eo (h.2 1) (by omega) (by omega) (by omega) (by omega), eo (h.2 1 + 1) (by omega) (by omega) (by omega) (by omega), eo (h.2 1 + 2) (by omega) (by omega) (by omega) (by omega), eo (h.2 1 + 5) (by omega) (by omega) (by omega) (by omega), eo (h.2 1 + 6) (by omega) (by omega) (by omega) (by omega), eo (h.2 1 + 7) (by omega) (by omega) (by omega) (by omega), eo (h.2 3) (by omega) (by omega) (by omega) (by omega), eo (h.2 3 + 1) (by omega) (by omega) (by omega) (by omega), eo (h.2 3 + 2) (by omega) (by omega) (by omega) (by omega), eo (h.2 3 + 3) (by omega) (by omega) (by omega) (by omega)]
      have f95 := eo 95 (by omega) (by omega) (by omega) (by omega)
      refine ⟨by unfold GV; rw [e2]; exact g, ?_, ?_, ?_, ?_, ?_, ?_, ?_⟩
      · unfold RV
        rw [e2, eP, eQ, eo (h.2 1) (by omega) (by omega) (by omega) (by omega), eo (h.2 3) (by omega) (by omega) (by omega) (by omega), e94 9 (by omega), e94 14 (by omega)]
        exact r
      · obtain ⟨n1, n2, n3⟩ := n0
        refine ⟨?_, by rw [eo 27 (by omega) (by omega) (by omega) (by omega)]; exact n2, ?_⟩
        · rw [cs_same (g := h.1) (s := 27) (fun i h1 h2 => eo i (by omega) (by omega) (by omega) (by omega)), show ms u2.1 0 = ms h.1 0 by unfold ms; rw [f95]]
          exact n1
        · rw [eP, show ms u2.1 0 = ms h.1 0 by unfold ms; rw [f95]]
          exact SV_mono n3 (by omega)
      · intro j hj
        rw [eo 88 (by omega) (by omega) (by omega) (by omega), eo 96 (by omega) (by omega) (by omega) (by omega), cs_same (g := h.1) (s := 57 + 15 * j) (fun i h1 h2 => eo i (by omega) (by omega) (by omega) (by omega)), show ms u2.1 (400 + 200 * j) = ms h.1 (400 + 200 * j) by unfold ms; rw [f95], eo (57 + 15 * j) (by omega) (by omega) (by omega) (by omega), eP]
        exact IV_mono i (by omega) j hj
      · refine ⟨L + n, ok, by rw [b3 1 (by omega) (by omega)]; exact a4, b5, fun j hj => ?_⟩
        by_cases z : j < L
        · obtain ⟨x, xa, xb, xc⟩ := l3 j z
          exact ⟨x, xa, by rw [b6 j z, h94.2]; exact xb, by rw [b3 2 (by omega) (by omega), a5 j z]; exact xc⟩
        · obtain ⟨x, xa, xb, xc⟩ := cb_mb b (n - 1 - (j - L))
          have a6' := a6 (j - L) (by omega)
          have b7' := b7 (j - L) (by omega)
          rw [show L + (j - L) = j by omega] at a6' b7'
          exact ⟨x, xa, by rw [b7']; exact xb, by rw [b3 2 (by omega) (by omega), a6']; exact xc⟩
      · show u2.1 0 13 = u2.1 94 22
        rw [eo 0 (by omega) (by omega) (by omega) (by omega), e94 22 (by omega)]; exact f
      · unfold BV
        rw [eo 0 (by omega) (by omega) (by omega) (by omega), e94 32 (by omega), eo 93 (by omega) (by omega) (by omega) (by omega), eo 112 (by omega) (by omega) (by omega) (by omega)]
        exact bb
      · unfold HV
        rw [e94 25 (by omega), e94 26 (by omega)]
        exact hv
    · obtain ⟨a1, a2⟩ := p2.1 ok
      obtain ⟨b1, b2⟩ := q2.1 ok
      exact ⟨by rw [b1, a1], by rw [b2, a2]; exact INV_mono hI (by omega)⟩
  · obtain ⟨a1, a2⟩ := hp.1 c
    obtain ⟨b1, b2⟩ := hq.1 c
    exact ⟨by rw [b1, a1], by rw [b2, a2]; exact INV_mono hI (by omega)⟩
