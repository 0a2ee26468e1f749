theorem setS_off {P : PR} {H hw : Int32} {σ : SG} {k : Nat} (hP : POK P) (hk : k < 10 ∨ 19 ≤ k) : setS P H hw σ k = σ k := by
  unfold setS
  have := hP.1.2
  rw [if_neg (by omega)]
  exact planS_off (Nat.le_refl _) hP hk
theorem flow1_off {P : PR} {lev σ : SG} {k j : Nat} (h : j ≠ k ∧ j ≠ k + 1 ∧ j ≠ 20 + k ∧ j ≠ 30 + k ∧ j ≠ 40 + k) : flow1 P lev k σ j = σ j := by
  unfold flow1
  rw [upd_ne (by omega), upd_ne (by omega), upd_ne (by omega), upd_ne (by omega), upd_ne (by omega)]
theorem flowS_off {P : PR} {lev σ : SG} {m j : Nat} (hm : m ≤ 9) (hj : 49 ≤ j ∨ (10 ≤ j ∧ j < 20)) : flowS P lev m σ j = σ j := by
  induction m with
  | zero => rfl
  | succ m ih => rw [flowS, flow1_off (by omega)]; exact ih (by omega)
theorem log1_off {P : PR} {σ : SG} {l j : Nat} (h : j ≠ 60 + l ∧ j ≠ 96 + l ∧ j ≠ 108 + l ∧ j ≠ 120 + l ∧ j ≠ 132 + l) : log1 P l σ j = σ j := by
  unfold log1
  dsimp only
  split
  · rfl
  · rw [upd_ne (by omega), upd_ne (by omega), upd_ne (by omega), upd_ne (by omega), upd_ne (by omega)]
theorem logsS_off {P : PR} {σ : SG} {m j : Nat} (hm : m ≤ 12) (hj : j < 60 ∨ (72 ≤ j ∧ j < 96) ∨ ∃ c l, j = c + l ∧ m ≤ l ∧ l < 12 ∧ (c = 60 ∨ c = 72 ∨ c = 84 ∨ c = 96 ∨ c = 108 ∨ c = 120 ∨ c = 132)) : logsS P m σ j = σ j := by
  induction m with
  | zero => rfl
  | succ m ih =>
    rw [logsS, log1_off ?_]
    · refine ih (by omega) ?_
      rcases hj with h | h | ⟨c, l, h1, h2, h3, h4⟩
      · exact Or.inl h
      · exact Or.inr (Or.inl h)
      · exact Or.inr (Or.inr ⟨c, l, h1, by omega, h3, h4⟩)
    · rcases hj with h | h | ⟨c, l, h1, h2, h3, h4⟩
      · omega
      · omega
      · omega
theorem rainS_off {P : PR} {σ : SG} {j : Nat} (h : j ≠ 0) : rainS P σ j = σ j := upd_ne h

set_option maxRecDepth 100000 in
set_option maxHeartbeats 4000000 in
theorem c_X7_pass {h : AH} {a1 : Int32}  {ρ T : Nat} {B : Int} (hρ : ρ ≤ 600) (ha : a1 = nI ρ) (hP : POK (PM h.1)) (hT : T < 2 ^ 31) (hS : SOK (PM h.1) B T (mk (ms h.1 ρ))) : CV yX7_pass cX7_pass 3 3 71 [.ref 94, .int a1] h (fun u => FM ρ h u ∧ mk (ms u.1 ρ) = hourS (PM h.1) (h.1 94 25) (h.1 94 26) (mk (ms h.1 ρ))) := by
  refine CV.of [some (.ref 94), some (.int a1), none] (by decide +kernel) rfl (Nat.le_of_ble_eq_true rfl) rfl (fun Z hX => ?_)
  subst ha
  obtain ⟨-, -, ⟨t, ht, h50⟩, ⟨c, hc12, h51, hlog⟩, -⟩ := id hS
  generalize hpost : (fun u => FM ρ h u ∧ mk (ms u.1 ρ) = hourS (PM h.1) (h.1 94 25) (h.1 94 26) (mk (ms h.1 ρ))) = post
  have hn := hP.1
  generalize hσ : mk (ms h.1 ρ) = σ at *
  generalize hσ1 : setS (PM h.1) (h.1 94 25) (h.1 94 26) σ = σ1
  generalize hσ2 : flowS (PM h.1) (levS (PM h.1) σ1) (pn (PM h.1) - 1) σ1 = σ2
  have o1 : ∀ j, j < 10 ∨ 19 ≤ j → σ1 j = σ j := fun j hj => by rw [← hσ1]; exact setS_off hP hj
  have o2 : ∀ j, 49 ≤ j → σ2 j = σ j := fun j hj => by rw [← hσ2, flowS_off (by omega) (by omega)]; exact o1 j (by omega)
  have L : ∀ l, l ≤ c → ∀ u : AH, FM ρ h u → mk (ms u.1 ρ) = logsS (PM h.1) l σ2 → EX Z 3 (QV Z post) 12 u [some (.ref 94), some (.int (nI ρ)), some (.int (nI l))] [] := by
    have e51 : ∀ (u : AH) (l : Nat), l ≤ c → mk (ms u.1 ρ) = logsS (PM h.1) l σ2 → u.1 95 (ρ + 51) = nI c := by
      intro u l hl hu
      rw [mk_at (f := u.1) (ρ := ρ) (k := 51) (rel51 _), hu, logsS_off (by omega) (by omega), o2 51 (by omega), h51]
    have i51 : Int32.toNatClampNeg (nI ρ + 51) = ρ + 51 := by rw [k_51, nI_add, nI_clamp (by omega)]
    have b51 : vp_in (nI ρ + 51) 800 := by rw [k_51, nI_add]; exact vp_in_nI (by omega) (by omega)
    refine ldown _ ?_ ?_
    · intro u hF hu
      refine sg_X7_pass_12 hX ⟨b51, fun _ => ?_, fun z => absurd (by rw [i51, e51 u c (Nat.le_refl _) hu]; exact nI_le (Nat.le_refl _) (by omega)) z⟩
      have eP : PM u.1 = PM h.1 := PM_of hF.2.1
      have g50 : mk (ms u.1 ρ) 50 = nI t := by rw [hu, logsS_off (by omega) (by omega), o2 50 (by omega), h50]
      refine ⟨_, c_X7_rainOn hρ rfl (show t < 2 ^ 31 by omega) g50, fun u2 hu2 => ?_⟩
      obtain ⟨F2, m2⟩ := hu2
      rw [eP, hu] at m2
      have i50 : Int32.toNatClampNeg (nI ρ + 50) = ρ + 50 := by rw [k_50, nI_add, nI_clamp (by omega)]
      have b50 : vp_in (nI ρ + 50) 800 := by rw [k_50, nI_add]; exact vp_in_nI (by omega) (by omega)
      refine sg_X7_pass_42 hX ⟨b50, fun v2 e2 => ⟨b50, fun u4 e4 => ?_⟩⟩
      rw [i50] at e2 e4
      have r50 : rel (ms u2.1 ρ 51).toNatClampNeg 50 := by unfold rel; omega
      rw [mk_at r50, m2] at e2
      rw [← hpost]
      refine ⟨(hF.tr F2).tr (by rw [e4]; exact FM.set (by omega)), ?_⟩
      rw [e4]
      refine (mks r50 (by omega)).trans ?_
      rw [m2, e2]
      unfold hourS
      dsimp only
      rw [hσ1, hσ2, o2 51 (by omega), h51, nI_clamp (by omega)]
    · intro l hl ih u hF hu
      have eP : PM u.1 = PM h.1 := PM_of hF.2.1
      obtain ⟨⟨q, hq, eq⟩, hw⟩ := hlog l hl
      have c51 : ms u.1 ρ 51 = nI c := e51 u l (by omega) hu
      refine sg_X7_pass_12 hX ⟨b51, fun z => absurd z (by rw [i51, e51 u l (by omega) hu]; exact nI_ge hl (by omega)), fun _ => ?_⟩
      refine ⟨_, c_X7_goLog (l := l) (q := q) hρ rfl rfl (by rw [eP]; exact hn) (by rw [c51, nI_clamp (by omega)]; exact hl) (by omega) (by rw [eP]; exact hq) ?_ ?_, fun u2 hu2 => ?_⟩
      · rw [hu, logsS_off (by omega) (Or.inr (Or.inr ⟨60, l, rfl, Nat.le_refl _, by omega, by omega⟩)), o2 _ (by omega), eq]
      · rw [hu, logsS_off (by omega) (Or.inr (Or.inr ⟨72, l, rfl, Nat.le_refl _, by omega, by omega⟩)), o2 _ (by omega)]; exact hw
      · obtain ⟨F2, m2⟩ := hu2
        refine sg_X7_pass_31 hX ?_
        rw [nI_1]
        exact ih u2 (hF.tr F2) (by rw [m2, eP, hu, logsS])
  refine sg_X7_pass_0 hX ⟨_, c_X7_setWidths hρ rfl hP, fun u hu => ?_⟩
  obtain ⟨F1, m1⟩ := hu
  rw [hσ, hσ1] at m1
  have eP1 : PM u.1 = PM h.1 := PM_of F1.2.1
  refine sg_X7_pass_5 hX ⟨_, c_X7_flow (t := t) hρ rfl (by rw [eP1]; exact hP) (by omega) (by rw [m1, o1 50 (by omega), h50]), fun u2 hu2 => ?_⟩
  obtain ⟨F2, m2⟩ := hu2
  rw [eP1, m1, hσ2] at m2
  exact sg_X7_pass_10 hX (L 0 (by omega) u2 (F1.tr F2) m2)
