set_option maxRecDepth 100000 in
set_option maxHeartbeats 4000000 in
theorem c_X6_keep {h : AH} {a1 : Int32}   : CI yX6_keep cX6_keep 2 (some .int) 4 123 [.ref 0, .int a1] h (fun r u => (¬ (∃ i, i < 2 ∧ a1 = nI i) → r = -100000001 ∧ u = h) ∧ ∀ i, i < 2 → a1 = nI i → r = 1 ∧ u.2 = h.2 ∧ (∀ j, (j < 57 + 15 * i ∨ 57 + 15 * i + 15 ≤ j) → j ≠ 88 → u.1 j = h.1 j) ∧ cs u.1 (57 + 15 * i) = cs h.1 27 ∧ u.1 (57 + 15 * i) 2 = h.1 27 2 ∧ u.1 88 = upd (h.1 88) i 1) := by
  refine CI.of [some (.ref 0), some (.int a1)] (by decide +kernel) rfl (Nat.le_of_ble_eq_true rfl) rfl (fun Z hX => ?_)
  have no : ∀ {r : Int32}, r = -100000001 → ¬ (∃ i, i < 2 ∧ a1 = nI i) → (¬ (∃ i, i < 2 ∧ a1 = nI i) → r = -100000001 ∧ h = h) ∧ ∀ i, i < 2 → a1 = nI i → r = 1 ∧ h.2 = h.2 ∧ (∀ j, (j < 57 + 15 * i ∨ 57 + 15 * i + 15 ≤ j) → j ≠ 88 → h.1 j = h.1 j) ∧ cs h.1 (57 + 15 * i) = cs h.1 27 ∧ h.1 (57 + 15 * i) 2 = h.1 27 2 ∧ h.1 88 = upd (h.1 88) i 1 := fun e z => ⟨fun _ => ⟨e, rfl⟩, fun l hl el => absurd ⟨l, hl, el⟩ z⟩
  have e2 : (2 : Int32) = nI 2 := rfl
  refine sg_X6_keep_0 hX ⟨fun d => no rfl (fun z => ((lg1 (m := 2) (by omega)).mpr z).1 d), fun d => ⟨fun d2 => ?_, fun d2 => no rfl (fun z => d2 ((lg1 (m := 2) (by omega)).mpr z).2)⟩⟩
  obtain ⟨i, hi, rfl⟩ := (lg1 (m := 2) (by omega)).mp ⟨d, d2⟩
  have ci : Int32.toNatClampNeg (nI i) = i := nI_clamp (by omega)
  have b : vp_in (nI i) 2 := vp_in_nI hi (by omega)
  rw [ci]
  refine ⟨b, _, c_X3_becomeAs (sh_img hi) rfl (by omega), fun u hu => sg_X6_keep_25 hX ⟨b, fun u2 e2 => ?_⟩⟩
  obtain ⟨f1, f2, f3⟩ := hu
  rw [ci] at e2
  refine ⟨fun z => absurd ⟨i, hi, rfl⟩ z, fun k hk ek => ?_⟩
  rw [nI_eq (by omega) (by omega)] at ek
  subst ek
  refine ⟨rfl, by rw [e2]; exact f1.1, fun j hj h88 => by rw [e2, hs_o h88]; exact f1.2 j hj, ?_, by rw [e2, hs_o (by omega)]; exact f3, ?_⟩
  · rw [← f2]
    exact cs_same (fun j h1 h2 => by rw [e2, hs_o (by omega)])
  · rw [e2]
    show hset u.1 88 i _ 88 = _
    rw [hset_eq, f1.2 88 (by omega)]
    rfl

set_option maxRecDepth 100000 in
set_option maxHeartbeats 4000000 in
theorem c_X7_keep {h : AH} {a1 : Int32}   : CI yX7_keep cX7_keep 2 (some .int) 1 25 [.ref 94, .int a1] h (fun r u => (¬ (∃ i, i < 2 ∧ a1 = nI i) → r = -100000001 ∧ u = h) ∧ ∀ i, i < 2 → a1 = nI i → r = 1 ∧ u.2 = h.2 ∧ (∀ j, j ≠ 95 → j ≠ 96 → u.1 j = h.1 j) ∧ (∀ j, (j < 400 + 200 * i ∨ 400 + 200 * i + 200 ≤ j) → u.1 95 j = h.1 95 j) ∧ (∀ j, j < 200 → u.1 95 (400 + 200 * i + j) = h.1 95 j) ∧ u.1 96 = upd (h.1 96) i 1) := by
  refine CI.of [some (.ref 94), some (.int a1)] (by decide +kernel) rfl (Nat.le_of_ble_eq_true rfl) rfl (fun Z hX => ?_)
  have w1 : (0 ≤ Int32.toInt64 a1 ∧ Int32.toInt64 a1 ≤ 1) ↔ ∃ i, i < 2 ∧ a1 = nI i := by
    rw [rngL (m := 1) rfl (by decide)]
    exact ⟨fun ⟨w, h1, h2⟩ => ⟨w, by omega, h2⟩, fun ⟨w, h1, h2⟩ => ⟨w, by omega, h2⟩⟩
  refine sg_X7_keep_0 hX ⟨fun d => ?_, fun d => ⟨fun _ => ⟨rfl, rfl⟩, fun i hi ei => absurd (w1.mpr ⟨i, hi, ei⟩) d⟩⟩
  obtain ⟨i, hi, rfl⟩ := w1.mp d
  have ci : Int32.toNatClampNeg (nI i) = i := nI_clamp (by omega)
  have ea : (400 : Int32) + 200 * nI i = nI (400 + 200 * i) := by rw [k_400, k_200, pk_mul, nI_add]
  refine ⟨_, c_X7_copy (ρ1 := 0) (ρ2 := 400 + 200 * i) rfl ea (by omega) (by omega) (by omega), fun u hu => sg_X7_keep_27 hX ⟨vp_in_nI hi (by omega), fun u2 e2 => ?_⟩⟩
  obtain ⟨f1, f2, f3, f4⟩ := hu
  rw [ci] at e2
  refine ⟨fun z => absurd ⟨i, hi, rfl⟩ z, fun k hk ek => ?_⟩
  rw [nI_eq (by omega) (by omega)] at ek
  subst ek
  refine ⟨rfl, by rw [e2]; exact f1, fun j h1 h2 => by rw [e2, hs_o h2]; exact f2 j h1, fun j hj => by rw [e2, hs_o (by decide)]; exact f3 j hj, fun j hj => ?_, ?_⟩
  · rw [e2, hs_o (by decide), f4 j hj, Nat.zero_add]
  · rw [e2]
    show hset u.1 96 i _ 96 = _
    rw [hset_eq, f2 96 (by decide)]
    rfl

theorem op_keep {N : Nat} {h : AH} {v : Int32} (hI : INV N h) : OPP yX6_keep cX6_keep 2 4 123 yX7_keep cX7_keep 2 1 25 [.int v] N h := by
  refine ⟨_, c_X6_keep, fun r u hp => ⟨_, c_X7_keep, fun r2 u2 hq => ?_⟩⟩
  by_cases d : ∃ i, i < 2 ∧ v = nI i
  · obtain ⟨i, hi, ei⟩ := d
    obtain ⟨f0, f1, f2, f3, f4, f5⟩ := hp.2 i hi ei
    obtain ⟨g0, g1, g2, g3, g4, g5⟩ := hq.2 i hi ei
    refine ⟨by rw [g0, f0], ?_⟩
    obtain ⟨gv, rv, nv, iv, tv, fv, bv, hv⟩ := hI
    have eo : ∀ j, j ≠ 95 → j ≠ 96 → j ≠ 88 → (j < 57 + 15 * i ∨ 57 + 15 * i + 15 ≤ j) → u2.1 j = h.1 j := fun j h1 h2 h3 h4 => (g2 j h1 h2).trans (f2 j h4 h3)
    have e95 : ∀ j, (j < 400 + 200 * i ∨ 400 + 200 * i + 200 ≤ j) → u2.1 95 j = h.1 95 j := fun j hj => by rw [g3 j hj, f2 95 (by omega) (by omega)]
    have eP : PM u2.1 = PM h.1 := PM_eq (by rw [eo 94 (by omega) (by omega) (by omega) (by omega)]) (by rw [eo 94 (by omega) (by omega) (by omega) (by omega)]) (fun j hj => eo j (by omega) (by omega) (by omega) (by omega))
    have eQ : PC u2.1 (h.2 1) (h.2 3) = PC h.1 (h.2 1) (h.2 3) := PC_eq gv.1 gv.2.2.1 (fun j hj => eo j (by omega) (by omega) (by omega) (by omega))
    have b1 := oc0 gv.1
    have b3 := oc1 gv.2.2.1
    have e2 : u2.2 = h.2 := g1.trans f1
    refine ⟨by unfold GV; rw [e2]; exact gv, ?_, ?_, ?_, ?_, ?_, ?_, ?_⟩
    · unfold RV
      rw [e2, eP, eQ, eo (h.2 1) (by omega) (by omega) (by omega) (by omega), eo (h.2 3) (by omega) (by omega) (by omega) (by omega), eo 94 (by omega) (by omega) (by omega) (by omega)]
      exact rv
    · unfold NV
      rw [cs_same (g := h.1) (s := 27) (fun j h1 h2 => eo j (by omega) (by omega) (by omega) (by omega)), ms_same (g := h.1) (ρ := 0) (fun j h1 h2 => e95 j (by omega)), eP, eo 27 (by omega) (by omega) (by omega) (by omega)]
      exact NV_mono nv (by omega)
    · intro k hk
      have k88 : u2.1 88 = upd (h.1 88) i 1 := by rw [g2 88 (by omega) (by omega), f5]
      have k96 : u2.1 96 = upd (h.1 96) i 1 := by rw [g5, f2 96 (by omega) (by omega)]
      rw [k88, k96, eP]
      by_cases e : k = i
      · subst e
        rw [upd_eq, upd_eq]
        refine ⟨rfl, Or.inr ⟨rfl, ?_, ?_, ?_⟩⟩
        · rw [cs_same (g := u.1) (s := 57 + 15 * k) (fun j h1 h2 => g2 j (by omega) (by omega)), f3, nv.1]
          exact mk_congr (by show h.1 95 (0 + 51) = u2.1 95 (400 + 200 * k + 51); rw [g4 51 (by omega), f2 95 (by omega) (by omega)]) (fun j hj => by show h.1 95 (0 + j) = u2.1 95 (400 + 200 * k + j); rw [g4 j (by unfold rel at hj; omega), f2 95 (by omega) (by omega), Nat.zero_add])
        · rw [g2 _ (by omega) (by omega), f4]; exact nv.2.1
        · have : mk (ms u2.1 (400 + 200 * k)) = mk (ms h.1 0) := mk_congr (by show u2.1 95 (400 + 200 * k + 51) = h.1 95 (0 + 51); rw [g4 51 (by omega), f2 95 (by omega) (by omega)]) (fun j hj => by show u2.1 95 (400 + 200 * k + j) = h.1 95 (0 + j); rw [g4 j (by unfold rel at hj; omega), f2 95 (by omega) (by omega), Nat.zero_add])
          rw [this]
          exact SV_mono nv.2.2 (by omega)
      · rw [upd_ne e, upd_ne e, cs_same (g := h.1) (s := 57 + 15 * k) (fun j h1 h2 => eo j (by omega) (by omega) (by omega) (by omega)), ms_same (g := h.1) (ρ := 400 + 200 * k) (fun j h1 h2 => e95 j (by omega)), eo (57 + 15 * k) (by omega) (by omega) (by omega) (by omega)]
        exact IV_mono iv (by omega) k hk
    · unfold TV
      rw [eo 1 (by omega) (by omega) (by omega) (by omega), eo 2 (by omega) (by omega) (by omega) (by omega), eo 94 (by omega) (by omega) (by omega) (by omega), eo 107 (by omega) (by omega) (by omega) (by omega)]
      exact tv
    · unfold FV
      rw [eo 0 (by omega) (by omega) (by omega) (by omega), eo 94 (by omega) (by omega) (by omega) (by omega)]
      exact fv
    · unfold BV
      rw [eo 0 (by omega) (by omega) (by omega) (by omega), eo 94 (by omega) (by omega) (by omega) (by omega), eo 93 (by omega) (by omega) (by omega) (by omega), eo 112 (by omega) (by omega) (by omega) (by omega)]
      exact bv
    · unfold HV
      rw [eo 94 (by omega) (by omega) (by omega) (by omega)]
      exact hv
  · obtain ⟨f1, f2⟩ := hp.1 d
    obtain ⟨g1, g2⟩ := hq.1 d
    exact ⟨by rw [g1, f1], by rw [g2, f2]; exact INV_mono hI (by omega)⟩

set_option maxRecDepth 100000 in
set_option maxHeartbeats 4000000 in
theorem c_X6_goBack {h : AH} {a1 : Int32}   : CI yX6_goBack cX6_goBack 2 (some .int) 4 123 [.ref 0, .int a1] h (fun r u => (¬ (∃ i, i < 2 ∧ a1 = nI i) → r = -100000001 ∧ u = h) ∧ ∀ i, i < 2 → a1 = nI i → (h.1 88 i = 0 → r = -100000003 ∧ u = h) ∧ (¬ h.1 88 i = 0 → r = 1 ∧ FC 27 h u ∧ cs u.1 27 = cs h.1 (57 + 15 * i) ∧ u.1 27 2 = h.1 (57 + 15 * i) 2)) := by
  refine CI.of [some (.ref 0), some (.int a1)] (by decide +kernel) rfl (Nat.le_of_ble_eq_true rfl) rfl (fun Z hX => ?_)
  refine sg_X6_goBack_0 hX ⟨fun d => ⟨fun _ => ⟨rfl, rfl⟩, fun l hl el => absurd d ((lg1 (m := 2) (by omega)).mpr ⟨l, hl, el⟩).1⟩, fun d => ⟨fun d2 => ?_, fun d2 => ⟨fun _ => ⟨rfl, rfl⟩, fun l hl el => absurd ((lg1 (m := 2) (by omega)).mpr ⟨l, hl, el⟩).2 d2⟩⟩⟩
  obtain ⟨i, hi, rfl⟩ := (lg1 (m := 2) (by omega)).mp ⟨d, d2⟩
  have ci : Int32.toNatClampNeg (nI i) = i := nI_clamp (by omega)
  have b : vp_in (nI i) 2 := vp_in_nI hi (by omega)
  rw [ci]
  refine ⟨b, fun d3 => ⟨b, _, c_X3_becomeAs rfl (sh_img hi) (by omega), fun u hu => sg_X6_goBack_37 hX ⟨fun z => absurd ⟨i, hi, rfl⟩ z, fun k hk ek => ?_⟩⟩, fun d3 => ⟨fun z => absurd ⟨i, hi, rfl⟩ z, fun k hk ek => ?_⟩⟩
  · rw [nI_eq (by omega) (by omega)] at ek
    subst ek
    exact ⟨fun z => absurd z d3, fun _ => ⟨rfl, hu⟩⟩
  · rw [nI_eq (by omega) (by omega)] at ek
    subst ek
    exact ⟨fun _ => ⟨rfl, rfl⟩, fun z => absurd d3 z⟩

set_option maxRecDepth 100000 in
set_option maxHeartbeats 4000000 in
theorem c_X7_goBack {h : AH} {a1 : Int32}   : CI yX7_goBack cX7_goBack 2 (some .int) 1 25 [.ref 94, .int a1] h (fun r u => (¬ (∃ i, i < 2 ∧ a1 = nI i) → r = -100000001 ∧ u = h) ∧ ∀ i, i < 2 → a1 = nI i → (h.1 96 i = 0 → r = -100000003 ∧ u = h) ∧ (¬ h.1 96 i = 0 → r = 1 ∧ u.2 = h.2 ∧ (∀ j, j ≠ 95 → u.1 j = h.1 j) ∧ (∀ j, 200 ≤ j → u.1 95 j = h.1 95 j) ∧ (∀ j, j < 200 → u.1 95 j = h.1 95 (400 + 200 * i + j)))) := by
  refine CI.of [some (.ref 94), some (.int a1)] (by decide +kernel) rfl (Nat.le_of_ble_eq_true rfl) rfl (fun Z hX => ?_)
  have w1 : (0 ≤ Int32.toInt64 a1 ∧ Int32.toInt64 a1 ≤ 1) ↔ ∃ i, i < 2 ∧ a1 = nI i := by
    rw [rngL (m := 1) rfl (by decide)]
    exact ⟨fun ⟨w, h1, h2⟩ => ⟨w, by omega, h2⟩, fun ⟨w, h1, h2⟩ => ⟨w, by omega, h2⟩⟩
  refine sg_X7_goBack_0 hX ⟨fun d => ?_, fun d => ⟨fun _ => ⟨rfl, rfl⟩, fun i hi ei => absurd (w1.mpr ⟨i, hi, ei⟩) d⟩⟩
  obtain ⟨i, hi, rfl⟩ := w1.mp d
  have ci : Int32.toNatClampNeg (nI i) = i := nI_clamp (by omega)
  have ea : (400 : Int32) + 200 * nI i = nI (400 + 200 * i) := by rw [k_400, k_200, pk_mul, nI_add]
  rw [ci]
  refine ⟨vp_in_nI hi (by omega), fun d3 => ⟨_, c_X7_copy (ρ1 := 400 + 200 * i) (ρ2 := 0) ea rfl (by omega) (by omega) (by omega), fun u hu => sg_X7_goBack_39 hX ⟨fun z => absurd ⟨i, hi, rfl⟩ z, fun k hk ek => ?_⟩⟩, fun d3 => ⟨fun z => absurd ⟨i, hi, rfl⟩ z, fun k hk ek => ?_⟩⟩
  · rw [nI_eq (by omega) (by omega)] at ek
    subst ek
    obtain ⟨f1, f2, f3, f4⟩ := hu
    exact ⟨fun z => absurd z d3, fun _ => ⟨rfl, f1, f2, fun j hj => f3 j (by omega), fun j hj => by have := f4 j hj; rw [Nat.zero_add] at this; exact this⟩⟩
  · rw [nI_eq (by omega) (by omega)] at ek
    subst ek
    exact ⟨fun _ => ⟨rfl, rfl⟩, fun z => absurd d3 z⟩

theorem op_goBack {N : Nat} {h : AH} {v : Int32} (hI : INV N h) : OPP yX6_goBack cX6_goBack 2 4 123 yX7_goBack cX7_goBack 2 1 25 [.int v] N h := by
  refine ⟨_, c_X6_goBack, fun r u hp => ⟨_, c_X7_goBack, fun r2 u2 hq => ?_⟩⟩
  by_cases d : ∃ i, i < 2 ∧ v = nI i
  · obtain ⟨i, hi, ei⟩ := d
    obtain ⟨p1, p2⟩ := hp.2 i hi ei
    obtain ⟨q1, q2⟩ := hq.2 i hi ei
    obtain ⟨kk, ks⟩ := hI.2.2.2.1 i hi
    by_cases d3 : h.1 88 i = 0
    · obtain ⟨f1, f2⟩ := p1 d3
      subst f2
      obtain ⟨g1, g2⟩ := q1 (by rw [← kk]; exact d3)
      exact ⟨by rw [g1, f1], by rw [g2]; exact INV_mono hI (by omega)⟩
    · rcases ks with ks | ⟨ks, m1, m2, m3⟩
      · exact absurd ks d3
      · obtain ⟨f0, f1, f2, f3⟩ := p2 d3
        obtain ⟨g0, g1, g2, g3, g4⟩ := q2 (by rw [f1.2 96 (by omega), ← kk]; exact d3)
        have k95 : u.1 95 = h.1 95 := f1.2 95 (by omega)
        have eo : ∀ j, j ≠ 95 → (j < 27 ∨ 42 ≤ j) → u2.1 j = h.1 j := fun j h1 h2 => (g2 j h1).trans (f1.2 j (by omega))
        have mm : mk (ms u2.1 0) = mk (ms h.1 (400 + 200 * i)) := mk_congr (by show u2.1 95 (0 + 51) = h.1 95 (400 + 200 * i + 51); rw [Nat.zero_add, g4 51 (by omega), k95]) (fun j hj => by show u2.1 95 (0 + j) = h.1 95 (400 + 200 * i + j); rw [Nat.zero_add, g4 j (by unfold rel at hj; omega), k95])
        have eP : PM u2.1 = PM h.1 := PM_eq (by rw [eo 94 (by omega) (by omega)]) (by rw [eo 94 (by omega) (by omega)]) (fun j hj => eo j (by omega) (by omega))
        refine ⟨by rw [g0, f0], INV_of hI (g1.trans f1.1) (fun j hj => eo j (by omega) (by omega)) (fun k _ _ => by rw [eo 94 (by omega) (by omega)]) (fun j hj => by rw [g3 j (by omega), k95]) ?_ ⟨?_, ?_, ?_⟩⟩
        · unfold HV
          rw [eo 94 (by omega) (by omega)]
          exact hI.2.2.2.2.2.2.2
        · rw [mm, ← m1, ← f2, cs_same (g := u.1) (s := 27) (fun j h1 h2 => g2 j (by omega))]
        · rw [g2 27 (by omega), f3]; exact m2
        · rw [eP, mm]; exact SV_mono m3 (by omega)
  · obtain ⟨f1, f2⟩ := hp.1 d
    obtain ⟨g1, g2⟩ := hq.1 d
    exact ⟨by rw [g1, f1], by rw [g2, f2]; exact INV_mono hI (by omega)⟩
