theorem cut_cg {n : Nat} {f g : SG} (h : ∀ k, k < n → f k = g k) : cut n f = cut n g := by
  funext k
  unfold cut
  by_cases c : k < n
  · rw [if_pos c, if_pos c, h k c]
  · rw [if_neg c, if_neg c]
theorem SV_pn {N : Nat} {P Q : PR} {σ : SG} (e : pn P = pn Q) (h : SV N P σ) : SV N Q σ := by
  unfold SV SOK at h ⊢
  rw [e] at h
  exact h
/-- the text of both -/
theorem TV_T {h : AH} (h0 : TV h) : ∃ (T : Nat → Nat) (L : Nat), TXc T L h ∧ TXm T L h := by
  obtain ⟨L, hL, a, b, c⟩ := h0
  refine ⟨fun j => (h.1 107 j).toNatClampNeg, L, ⟨hL, a, fun j hj => ?_⟩, hL, b, fun j hj => ?_⟩
  · obtain ⟨x, x1, x2, x3⟩ := c j hj
    have e : (h.1 107 j).toNatClampNeg = x := by rw [x2, nI_clamp (by omega)]
    dsimp only
    rw [e]
    exact ⟨x1, x3⟩
  · obtain ⟨x, x1, x2, x3⟩ := c j hj
    have e : (h.1 107 j).toNatClampNeg = x := by rw [x2, nI_clamp (by omega)]
    dsimp only
    rw [e]
    exact ⟨x1, x2⟩
/-- a text with a fault: only it is gone -/
theorem INV_flt {N : Nat} {h u : AH} (hI : INV N h) (e2 : u.2 = h.2) (eC : ∀ i k, i ≠ 0 → i ≠ 1 → (i < h.2 2 ∨ h.2 2 + 8 ≤ i) → (i < h.2 4 ∨ h.2 4 + 4 ≤ i) → i < 94 → u.1 i k = h.1 i k) (e12 : u.1 0 12 = h.1 0 12) (eM : ∀ i k, 94 ≤ i → ¬ chM i k → ¬ (i = 94 ∧ k = 17) → u.1 i k = h.1 i k) (t1 : u.1 1 1 = 0) (t2 : u.1 94 17 = 0) (hF : u.1 0 13 = u.1 94 22) : INV (N + 1) u := by
  obtain ⟨g, r, n, i, t, f, b, hv⟩ := hI
  obtain ⟨g1, g2, g3, g4, g5, g6⟩ := g
  have b1 := oc0 g1
  have b2 := oc0 g2
  have b3 := oc1 g3
  have b4 := oc1 g4
  obtain ⟨r1, ⟨nn, rn, ra, rb, rc⟩, ⟨mm, sm, sa, sb⟩, rr⟩ := r
  have k9 : u.1 94 9 = h.1 94 9 := eM 94 9 (by omega) (by unfold chM; omega) (by omega)
  have k14 : u.1 94 14 = h.1 94 14 := eM 94 14 (by omega) (by unfold chM; omega) (by omega)
  have m30 : (h.1 94 14).toNatClampNeg ≤ 30 := by rw [sb, nI_clamp (by omega)]; exact sm
  have eP : PM u.1 = PM h.1 := by
    unfold PM
    rw [k9, k14, cut_cg (fun k hk => eM 97 k (by omega) (by unfold chM; omega) (by omega)), cut_cg (fun k hk => eM 98 k (by omega) (by unfold chM; omega) (by omega)), cut_cg (fun k hk => eM 103 k (by omega) (by unfold chM; omega) (by omega)), cut_cg (fun k hk => eM 100 k (by omega) (by unfold chM; omega) (by omega)), cut_cg (fun k hk => eM 101 k (by omega) (by unfold chM; omega) (by omega)), cut_cg (fun k hk => eM 104 k (by omega) (by unfold chM; omega) (by omega)), cut_cg (fun k hk => eM 105 k (by omega) (by unfold chM; omega) (by omega)), cut_cg (fun k hk => eM 106 k (by omega) (by unfold chM; omega) (by omega))]
  have fC : ∀ i, i ≠ 0 → i ≠ 1 → (i < h.2 2 ∨ h.2 2 + 8 ≤ i) → (i < h.2 4 ∨ h.2 4 + 4 ≤ i) → i < 94 → u.1 i = h.1 i := fun i a b c d e => funext fun k => eC i k a b c d e
  have f95 : u.1 95 = h.1 95 := funext fun k => eM 95 k (by omega) (by unfold chM; omega) (by omega)
  have eQ : PC u.1 (h.2 1) (h.2 3) = PC h.1 (h.2 1) (h.2 3) := by
    unfold PC
    rw [fC (h.2 1) (by omega) (by omega) (by omega) (by omega) (by omega), fC (h.2 1 + 1) (by omega) (by omega) (by omega) (by omega) (by omega), fC (h.2 1 + 2) (by omega) (by omega) (by omega) (by omega) (by omega), fC (h.2 1 + 5) (by omega) (by omega) (by omega) (by omega) (by omega), fC (h.2 1 + 6) (by omega) (by omega) (by omega) (by omega) (by omega), fC (h.2 1 + 7) (by omega) (by omega) (by omega) (by omega) (by omega), fC (h.2 3) (by omega) (by omega) (by omega) (by omega) (by omega), fC (h.2 3 + 1) (by omega) (by omega) (by omega) (by omega) (by omega), fC (h.2 3 + 2) (by omega) (by omega) (by omega) (by omega) (by omega), fC (h.2 3 + 3) (by omega) (by omega) (by omega) (by omega) (by omega)]
  refine ⟨by unfold GV; rw [e2]; exact ⟨g1, g2, g3, g4, g5, g6⟩, ?_, ?_, ?_, ?_, hF, ?_, ?_⟩
  · unfold RV
    rw [e2, eP, eQ, fC (h.2 1) (by omega) (by omega) (by omega) (by omega) (by omega), fC (h.2 3) (by omega) (by omega) (by omega) (by omega) (by omega), k9, k14]
    exact ⟨r1, ⟨nn, rn, ra, rb, rc⟩, ⟨mm, sm, sa, sb⟩, rr⟩
  · obtain ⟨n1, n2, n3⟩ := n
    refine ⟨?_, by rw [fC 27 (by omega) (by omega) (by omega) (by omega) (by omega)]; exact n2, ?_⟩
    · rw [cs_same (g := h.1) (s := 27) (fun i h1 h2 => fC i (by omega) (by omega) (by omega) (by omega) (by omega)), show ms u.1 0 = ms h.1 0 by unfold ms; rw [f95]]
      exact n1
    · rw [eP, show ms u.1 0 = ms h.1 0 by unfold ms; rw [f95]]
      exact SV_mono n3 (by omega)
  · intro j hj
    have k96 : u.1 96 j = h.1 96 j := eM 96 j (by omega) (by unfold chM; omega) (by omega)
    rw [k96, fC 88 (by omega) (by omega) (by omega) (by omega) (by omega), cs_same (g := h.1) (s := 57 + 15 * j) (fun i h1 h2 => fC i (by omega) (by omega) (by omega) (by omega) (by omega)), show ms u.1 (400 + 200 * j) = ms h.1 (400 + 200 * j) by unfold ms; rw [f95], fC (57 + 15 * j) (by omega) (by omega) (by omega) (by omega) (by omega), eP]
    exact IV_mono i (by omega) j hj
  · exact ⟨0, by omega, t1, t2, fun j hj => absurd hj (by omega)⟩
  · have k32 : u.1 94 32 = h.1 94 32 := eM 94 32 (by omega) (by unfold chM; omega) (by omega)
    obtain ⟨E, ea, eb, ec, ed⟩ := b
    refine ⟨E, ea, by rw [e12]; exact eb, by rw [k32]; exact ec, ?_⟩
    rw [fC 93 (by omega) (by omega) (by omega) (by omega) (by omega), show u.1 112 = h.1 112 from funext fun k => eM 112 k (by omega) (by unfold chM; omega) (by omega)]
    exact ed
  · have k25 : u.1 94 25 = h.1 94 25 := eM 94 25 (by omega) (by unfold chM; omega) (by omega)
    have k26 : u.1 94 26 = h.1 94 26 := eM 94 26 (by omega) (by unfold chM; omega) (by omega)
    unfold HV
    rw [k25, k26]
    exact hv
theorem sumW_le {σ : SG} : ∀ m : Nat, (∀ k, k < m → (σ k).toInt ≤ 9999) → sumW m σ ≤ 9999 * (m : Int) := by
  intro m
  induction m with
  | zero => intro _; exact Int.le_refl 0
  | succ m ih =>
    intro h
    have a := ih (fun k hk => h k (by omega))
    have b := h m (by omega)
    show sumW m σ + (σ m).toInt ≤ _
    omega

theorem op_river {N : Nat} {h : AH} (hI : INV N h) : OPP yX6_river cX6_river 3 7 165 yX7_river cX7_river 4 4 98 [] N h := by
  obtain ⟨T, L, tc, tm⟩ := TV_T hI.2.2.2.2.1
  have hG := hI.1
  obtain ⟨g1, g2, g3, g4, g5, g6⟩ := hG
  have b1 := oc0 g1
  have b2 := oc0 g2
  have b3 := oc1 g3
  have b4 := oc1 g4
  refine ⟨_, c_X6_river tc hI.1, fun r u hp => ?_⟩
  obtain ⟨p1, p2, p3, p4⟩ := hp
  have h94 : ∀ i, 89 ≤ i → u.1 i = h.1 i := fun i hi => funext fun k => p2 i k (by omega) (by omega) (by omega) (by omega) (by omega) (by omega)
  refine ⟨_, c_X7_river (h := u) (T := T) (L := L) ⟨tm.1, by rw [h94 94 (by omega)]; exact tm.2.1, by rw [h94 107 (by omega)]; exact tm.2.2⟩, fun r2 u2 hq => ?_⟩
  obtain ⟨q1, q2, q3, q4, q5, q6, q7⟩ := hq
  generalize riverS T L 401 (0, 0, 0) d0S = R at *
  by_cases r0 : R.1.1 = 0
  · obtain ⟨s1, s2, s3, s4, s5, s6, s7, s8, s9, sa, sb, sc, sd, se, sf⟩ := p4 r0
    obtain ⟨t1, t2, t3, t4, t5, t6, t7, t8, t9, ta, tb⟩ := q7 r0
    refine ⟨by rw [t1, s1], ?_⟩
    have lo : ∀ i, i < 94 → u2.1 i = u.1 i := fun i hi => q2 i (by omega)
    have i1 : u2.2 1 = h.2 2 := by rw [q1, s2]; rfl
    have i2 : u2.2 2 = h.2 1 := by rw [q1, s2]; rfl
    have i3 : u2.2 3 = h.2 3 := by rw [q1, s2]; rfl
    have i4 : u2.2 4 = h.2 4 := by rw [q1, s2]; rfl
    obtain ⟨w1, w2, w3, w4, w5, w6, w7⟩ := s6
    have nnb : nnS R.2 ≤ 10 := by unfold nnS; split <;> omega
    have nn1 : nnS R.2 - 1 = R.2 0 := by unfold nnS; split <;> omega
    have rc2 : RCd (h.2 2) (dset R.2 0 (nnS R.2)) u2 := fun p hp => by
      rw [← s5 p hp]
      have e : (lcc (h.2 2) p).1 = (if p < 800 then h.2 2 + p / 100 else 1) := rfl
      rw [lo _ (by rw [e]; unfold plc at hp; split <;> omega)]
    have cc : ∀ a k, 1 ≤ a → a < 8 → plc (100 * a + k) → k < 100 → u2.1 (h.2 2 + a) k = nI (R.2 (100 * a + k)) := fun a k h1 h2 h3 h4 => by
      rw [rc2.at h3 (lcc_c rfl h4 h2), ds_ne (by omega)]
    have c1 : ∀ k, k < 10 → u2.1 (h.2 2 + 1) k = nI (R.2 (100 + k)) := fun k hk => cc 1 k (by omega) (by omega) (by unfold plc; omega) (by omega)
    have c2 : ∀ k, k < 10 → u2.1 (h.2 2 + 2) k = nI (R.2 (200 + k)) := fun k hk => cc 2 k (by omega) (by omega) (by unfold plc; omega) (by omega)
    have c5 : ∀ k, k < 9 → u2.1 (h.2 2 + 5) k = nI (R.2 (500 + k)) := fun k hk => cc 5 k (by omega) (by omega) (by unfold plc; omega) (by omega)
    have c6 : ∀ k, k < 24 → u2.1 (h.2 2 + 6) k = nI (R.2 (600 + k)) := fun k hk => cc 6 k (by omega) (by omega) (by unfold plc; omega) (by omega)
    have c7 : ∀ k, k < 24 → u2.1 (h.2 2 + 7) k = nI (R.2 (700 + k)) := fun k hk => cc 7 k (by omega) (by omega) (by unfold plc; omega) (by omega)
    have cn : u2.1 (h.2 2) 0 = nI (nnS R.2) := by rw [rc2.n, ds_eq]
    have on : u2.1 (h.2 3) 0 = 0 := by rw [lo _ (by omega)]; exact s7
    have e10 : ∀ f g : SG, cut (0 : Int32).toNatClampNeg f = cut (0 : Int32).toNatClampNeg g := fun f g => cut_cg (fun k hk => absurd hk (Nat.not_lt_zero k))
    have eP : PC u2.1 (h.2 2) (h.2 3) = PM u2.1 := by
      unfold PC PM
      rw [cn, t2, on, t3, cut_cg (f := u2.1 (h.2 2 + 1)) (g := u2.1 97) (fun k hk => by rw [c1 k hk, (t7 k hk).1]), cut_cg (f := u2.1 (h.2 2 + 2)) (g := u2.1 98) (fun k hk => by rw [c2 k hk, (t7 k hk).2.1]), cut_cg (f := u2.1 (h.2 2 + 5)) (g := u2.1 103) (fun k hk => by rw [c5 k hk, (t8 k hk).1]), cut_cg (f := u2.1 (h.2 2 + 6)) (g := u2.1 100) (fun k hk => by rw [c6 k hk, (t6 k hk).1]), cut_cg (f := u2.1 (h.2 2 + 7)) (g := u2.1 101) (fun k hk => by rw [c7 k hk, (t6 k hk).2]), e10 (u2.1 (h.2 3 + 1)) (u2.1 104), e10 (u2.1 (h.2 3 + 2)) (u2.1 105), e10 (u2.1 (h.2 3 + 3)) (u2.1 106)]
    have pnM : pn (PM u2.1) = nnS R.2 := pn_M t2 nnb
    have pf : ∀ k, k < 10 → pfl (PM u2.1) k = nI (R.2 (100 + k)) := fun k hk => by
      show cut 10 (u2.1 97) k = _
      rw [cut_in hk]; exact (t7 k hk).1
    have pa' : ∀ k, k < 10 → par (PM u2.1) k = nI (R.2 (200 + k)) := fun k hk => by
      show cut 10 (u2.1 98) k = _
      rw [cut_in hk]; exact (t7 k hk).2.1
    have seaz : ∀ b, b = 100 ∨ b = 200 ∨ b = 300 → R.2 (b + R.2 0) = 0 := fun b hb => by
      have := (w5 (R.2 0) (by omega)).2 (by omega)
      rcases hb with rfl | rfl | rfl
      · exact this.1
      · exact this.2.1
      · exact this.2.2
    have s52 : h.1 27 1 = h.1 95 52 := by
      have a1 := mkc_at (f := h.1) (s := 27) (k := 52) (a := 0) (b := 1) rfl (by unfold rel; omega)
      have a2 := mk_at (f := h.1) (ρ := 0) (k := 52) (by unfold rel; omega)
      rw [Nat.zero_add] at a2
      rw [Nat.add_zero] at a1
      rw [a1, hI.2.2.1.1, ← a2]
    have seed := hI.2.2.1.2.2.2.2
    have u52 : u2.1 95 52 = h.1 95 52 := by rw [t9 52 (by omega) (by omega), if_pos rfl, h94 95 (by omega)]
    have u0 : ∀ j, 20 ≤ j → j < 200 → j ≠ 52 → u2.1 95 j = 0 := fun j ja jb jc => by rw [t9 j ja jb, if_neg jc]
    have m51 : ms u2.1 0 51 = 0 := by show u2.1 95 (0 + 51) = 0; exact u0 51 (by omega) (by omega) (by omega)
    have c51 : cs u2.1 27 51 = 0 := by rw [cs_at (a := 7) (b := 0) rfl, lo _ (by omega)]; exact sb
    have relk : ∀ k, rel (0 : Int32).toNatClampNeg k → (k < 10 ∨ (10 ≤ k ∧ k < 19) ∨ (20 ≤ k ∧ k < 29) ∨ (30 ≤ k ∧ k < 39) ∨ (40 ≤ k ∧ k < 49) ∨ k = 50 ∨ k = 51 ∨ k = 52) := fun k hk => by
      rw [show (0 : Int32).toNatClampNeg = 0 from rfl] at hk
      unfold rel at hk
      omega
    have eN : mk (cs u2.1 27) = mk (ms u2.1 0) := by
      refine mk_congr (by rw [c51, m51]) (fun k hk => ?_)
      rw [c51] at hk
      have e0 : ms u2.1 0 k = u2.1 95 k := by show u2.1 95 (0 + k) = _; rw [Nat.zero_add]
      rw [e0]
      rcases relk k hk with z | z | z | z | z | z | z | z
      · rw [cs_at (loc_w k z), lo _ (by omega), (t7 k z).2.2]; exact sc k z
      · obtain ⟨j, rfl⟩ : ∃ j, k = 10 + j := ⟨k - 10, by omega⟩
        rw [cs_at (loc_10 j (by omega)), lo _ (by omega), (t8 j (by omega)).2]; exact (sd j (by omega)).1
      · obtain ⟨j, rfl⟩ : ∃ j, k = 20 + j := ⟨k - 20, by omega⟩
        rw [cs_at (loc_20 j (by omega)), lo _ (by omega), u0 _ (by omega) (by omega) (by omega)]; exact (sd j (by omega)).2.1
      · obtain ⟨j, rfl⟩ : ∃ j, k = 30 + j := ⟨k - 30, by omega⟩
        rw [cs_at (loc_30 j (by omega)), lo _ (by omega), u0 _ (by omega) (by omega) (by omega)]; exact (sd j (by omega)).2.2.1
      · obtain ⟨j, rfl⟩ : ∃ j, k = 40 + j := ⟨k - 40, by omega⟩
        rw [cs_at (loc_40 j (by omega)), lo _ (by omega), u0 _ (by omega) (by omega) (by omega)]; exact (sd j (by omega)).2.2.2
      · subst z
        rw [cs_at (a := 0) (b := 0) rfl, lo _ (by omega), u0 50 (by omega) (by omega) (by omega)]; exact s8
      · subst z
        rw [c51, u0 51 (by omega) (by omega) (by omega)]
      · subst z
        rw [cs_at (a := 0) (b := 1) rfl, lo _ (by omega), u52, ← s52]; exact s9
    have mkv : ∀ k, rel 0 k → mk (ms u2.1 0) k = u2.1 95 k := fun k hk => by
      rw [mk_in (by rw [m51]; exact hk)]
      show u2.1 95 (0 + k) = _
      rw [Nat.zero_add]
    have wat : ∀ k, k < 10 → mk (ms u2.1 0) k = nI (R.2 (300 + k)) := fun k hk => by rw [mkv k (by unfold rel; omega)]; exact (t7 k hk).2.2
    have w99 : ∀ k, k < 10 → R.2 (300 + k) ≤ 9999 := fun k hk => by
      have := w5 k hk
      by_cases c : k < R.2 0
      · exact (this.1 c).2.2.2
      · rw [(this.2 c).2.2]; omega
    have SVn : SV (N + 1) (PM u2.1) (mk (ms u2.1 0)) := by
      refine ⟨⟨fun k hk => ?_, ?_, ⟨0, by omega, ?_⟩, ⟨0, by omega, ?_, fun l hl => absurd hl (by omega)⟩, fun k hk => ?_⟩, ?_, ?_⟩
      · rw [pnM, nn1] at hk
        have := w99 k (by omega)
        rw [wat k (by omega), nI_toInt (by omega)]
        omega
      · rw [pnM, nn1]
        have := sumW_le (σ := mk (ms u2.1 0)) (R.2 0) (fun k hk => by have := w99 k (by omega); rw [wat k (by omega), nI_toInt (by omega)]; omega)
        omega
      · rw [mkv 50 (by unfold rel; omega), u0 50 (by omega) (by omega) (by omega)]; rfl
      · rw [mkv 51 (by unfold rel; omega), u0 51 (by omega) (by omega) (by omega)]; rfl
      · exact ⟨R.2 (400 + k), (w6 k hk).1, by rw [mkv (10 + k) (by unfold rel; omega)]; exact (t8 k hk).2⟩
      · rw [pnM, nn1, wat _ (by omega), seaz 300 (by omega)]; rfl
      · rw [mkv 52 (by unfold rel; omega), u52]
        have a2 := mk_at (f := h.1) (ρ := 0) (k := 52) (by unfold rel; omega)
        rw [Nat.zero_add] at a2
        rw [a2]
        exact seed
    refine ⟨⟨by rw [i1]; exact g2, by rw [i2]; exact g1, by rw [i3]; exact g3, by rw [i4]; exact g4, by rw [i1, i2]; exact fun z => g5 z.symm, by rw [i3, i4]; exact g6⟩, ?_, ⟨eN, ?_, SVn⟩, ?_, ?_, ?_, ?_, ?_⟩
    · unfold RV
      rw [i1, i3, pnM, nn1]
      refine ⟨eP, ⟨nnS R.2, nnb, cn, t2, ?_⟩, ⟨0, by omega, on, t3⟩, by rw [pf _ (by omega), seaz 100 (by omega)]; rfl, by rw [pa' _ (by omega), seaz 200 (by omega)]; rfl, fun k hk => ⟨R.2 (500 + k), (w6 k hk).2, ?_⟩⟩
      · by_cases z : R.2 0 = 0
        · exact Or.inl (by rw [nnS, if_pos z])
        · right
          have e : nnS R.2 = R.2 0 + 1 := by rw [nnS, if_neg z]
          unfold POK
          rw [pnM, nn1]
          refine ⟨by omega, fun k hk => ⟨?_, ?_⟩, fun k hk => ⟨?_, ?_⟩, ?_, fun i hi => ?_⟩
          · have := (w5 k (by omega)).1 hk
            exact ⟨R.2 (200 + k), this.1, this.2.1, pa' k (by omega)⟩
          · have := (w5 k (by omega)).1 hk
            exact ⟨R.2 (100 + k), this.2.2.1, pf k (by omega)⟩
          · exact ⟨R.2 (600 + k), (w7 k hk).1, by show cut 24 (u2.1 100) k = _; rw [cut_in hk]; exact (t6 k hk).1⟩
          · exact ⟨R.2 (700 + k), (w7 k hk).2, by show cut 24 (u2.1 101) k = _; rw [cut_in hk]; exact (t6 k hk).2⟩
          · show (u2.1 94 14).toNatClampNeg ≤ 30
            rw [t3]; exact Nat.zero_le _
          · have hi : i < (u2.1 94 14).toNatClampNeg := hi
            rw [t3] at hi
            exact absurd hi (Nat.not_lt_zero i)
      · show cut 9 (u2.1 103) k = _
        rw [cut_in hk]; exact (t8 k hk).1
    · rw [lo 27 (by omega), sa]; exact hI.2.2.1.2.1
    · intro i hi
      have : u2.1 88 i = 0 ∧ u2.1 96 i = 0 := by
        rw [lo 88 (by omega)]
        rcases (show i = 0 ∨ i = 1 by omega) with rfl | rfl
        · exact ⟨se, ta⟩
        · exact ⟨sf, tb⟩
      rw [this.1, this.2]
      exact ⟨rfl, Or.inl rfl⟩
    · exact ⟨0, by omega, by rw [lo 1 (by omega)]; exact p1, q3, fun j hj => absurd hj (by omega)⟩
    · show u2.1 0 13 = u2.1 94 22
      rw [lo 0 (by omega), t4]; exact s3
    · exact ⟨0, by omega, by rw [lo 0 (by omega)]; exact s4, t5, fun j hj => absurd hj (by omega)⟩
    · unfold HV
      rw [q4, q5, h94 94 (by omega)]
      exact hI.2.2.2.2.2.2.2
  · obtain ⟨s1, s2, s3, s4, s5⟩ := p3 r0
    obtain ⟨t1, t2, t3⟩ := q6 r0
    refine ⟨by rw [t1, s1], INV_flt hI (by rw [q1, s2]) (fun i k h1 h2 h3 h4 h5 => ?_) (by rw [q2 0 (by omega)]; exact s4) (fun i k h1 h2 h3 => ?_) (by rw [q2 1 (by omega)]; exact p1) q3 (by rw [q2 0 (by omega), t2]; exact s3)⟩
    · rw [q2 i (by omega)]
      by_cases z : (27 ≤ i ∧ i < 42 ∨ i = 88 ∨ i = h.2 3)
      · exact s5 i k z
      · exact p2 i k h1 h2 h3 (by omega) (by omega) (by omega)
    · rw [t3 i k h2 h3, h94 i (by omega)]
