set_option maxRecDepth 100000 in
set_option maxHeartbeats 4000000 in
theorem c_X7_takeHours {h : AH} {a1 na1 : Nat} {a2 : Int32} (ha1 : ac a1 = some (0, na1)) {T : Nat → Nat} {L most base : Nat} {c : Cur} {d : Nat → Nat} (hT : TXm T L h) (hC : CM T L h c) (c0 : c.1 = 0) (hR : RMd d h) (hb : base = 600 ∧ a1 = 100 ∨ base = 700 ∧ a1 = 101) (en : na1 = 48) (hm : most ≤ 999) (e2 : a2 = nI most) : CV yX7_takeHours cX7_takeHours 6 2 50 [.ref 94, .ref a1, .int a2] h (fun u => FRm h u ∧ u.1 94 23 = h.1 94 23 ∧ ∃ c2 : Cur, CM T L u c2 ∧ signC T L 59 c2 = (rowR T L most base 25 0 c d).1 ∧ (c2.1 = 0 → RMd (rowR T L most base 25 0 c d).2 u)) := by
  refine CV.of [some (.ref 94), some (.ref a1), some (.int a2), none, none, none] (by decide +kernel) rfl (Nat.le_of_ble_eq_true rfl) rfl (fun Z hX => ?_)
  subst e2 en
  have hL := hT.1
  generalize hRR : rowR T L most base 25 0 c d = R
  generalize hpost : (fun (u : AH) => FRm h u ∧ u.1 94 23 = h.1 94 23 ∧ ∃ c2 : Cur, CM T L u c2 ∧ signC T L 59 c2 = R.1 ∧ (c2.1 = 0 → RMd R.2 u)) = post
  have OUT : ∀ (u : AH) (x3 x4 : Int32) (c2 : Cur), x4 = 0 → FRm h u → u.1 94 23 = h.1 94 23 → CM T L u c2 → signC T L 59 c2 = R.1 → (c2.1 = 0 → RMd R.2 u) → EX Z 6 (QV Z post) 16 u [some (.ref 94), some (.ref a1), some (.int (nI most)), some (.int x3), some (.int x4), none] [] := by
    intro u x3 x4 c2 hx f a b e g
    refine sg_X7_takeHours_16 hX ha1 ⟨fun _ => ?_, fun z => absurd hx z⟩
    rw [← hpost]
    exact ⟨f, a, c2, b, e, g⟩
  have LP : ∀ m i, i + m = 25 → i ≤ 24 → ∀ (c : Cur) (d : Nat → Nat) (u : AH) (x4 : Int32), ¬ x4 = 0 → c.1 = 0 → FRm h u → u.1 94 23 = h.1 94 23 → CM T L u c → RMd d u → rowR T L most base m i c d = R → EX Z 6 (QV Z post) 16 u [some (.ref 94), some (.ref a1), some (.int (nI most)), some (.int (nI i)), some (.int x4), none] [] := by
    intro m
    induction m with
    | zero => intro i h1 h2; omega
    | succ m ih =>
      intro i hi i24 c d u x4 hx c0 f e23 cu r eR
      refine sg_X7_takeHours_16 hX ha1 ⟨fun z => absurd z hx, fun _ => ⟨_, c_X7_takeNumber (lo := 0) (hi := most) (hT.fm f) cu (by omega) (by omega) rfl rfl, fun v u1 p1 => ?_⟩⟩
      have f1 : FRm h u1 := f.tr (FRm.of p1.1)
      have r1 := r.fr p1.1
      have a23 : u1.1 94 23 = h.1 94 23 := by rw [p1.1.2.2 23 (by omega)]; exact e23
      rw [rowR, if_pos c0] at eR
      refine sg_X7_takeHours_27 hX ha1 ⟨fun z => ?_, fun z => ?_⟩
      · have n0 : ¬ (numC T L 0 most c).1.1 = 0 := fun y => z ((CM_f p1.2.1).mpr y)
        rw [if_neg n0] at eR
        exact OUT u1 _ _ _ rfl f1 a23 p1.2.1 (by rw [sign_f n0, ← eR]) (fun y => absurd y n0)
      · have n0 := (CM_f p1.2.1).mp z
        rw [if_pos n0] at eR
        obtain ⟨ev, es, ls⟩ := p1.2.2 n0
        have gd : (bI (¬ (24 ≤ nI i)) = 0) ↔ ¬ (i < 24) := by
          rw [bI_0, k_24]
          refine not_congr ?_
          rw [nI_leI (by omega) (by omega)]
          omega
        refine ⟨_, c_X7_want (n := 4) (w := (numC T L 0 most c).2.2) p1.2.1 (by omega) gd rfl (fun _ => ⟨ls, es⟩), fun r2 u2 p2 => ?_⟩
        obtain ⟨f2, o2, m2, er2⟩ := p2
        have F2 := f1.tr (FRm.of f2)
        have a23' : u2.1 94 23 = h.1 94 23 := by rw [f2.2.2 23 (by omega)]; exact a23
        by_cases i4 : i < 24
        · rw [if_pos i4] at eR m2 er2
          refine sg_X7_takeHours_56 hX ha1 ⟨fun y => absurd (by rw [er2, bI_t n0]; decide) y, fun _ => ?_⟩
          rw [k_24, nI_add, nI_clamp (by omega)]
          refine ⟨vp_in_nI (by omega) (by omega), fun u4 e4 => ?_⟩
          rw [ev] at e4
          have F4 := F2.set (i := a1) (k := 24 + i) (by unfold chM; omega) e4
          have R4 : RMd (dset d (base + i) (numC T L 0 most c).2.1) u4 := by
            refine (r1.fr f2).set (p := base + i) (a := a1) (k := 24 + i) (by unfold plm; omega) ?_ e4
            rcases hb with ⟨h1, h2⟩ | ⟨h1, h2⟩
            · rw [h1, h2]; exact lm_6 (by omega)
            · rw [h1, h2]; exact lm_7 (by omega)
          have o4 : ∀ k, u4.1 94 k = u2.1 94 k := fun k => by rw [e4, hs_o (by omega)]
          have m4 : CM T L u4 (numC T L 0 most c).1 := m2.same (fun k _ => o4 k)
          obtain ⟨cp, c22, p0, hp0, e18, esp⟩ := m4.2.2.2 n0
          refine ⟨_, c_X7_here (hT.fm F4) hp0 e18, fun r5 u5 p5 => ?_⟩
          obtain ⟨f5, o5, b5, er5⟩ := p5
          rw [esp] at b5 er5
          have hq := (sp_le (T := T) cp).2
          have sp2 := sp_sp (T := T) cp
          generalize hq0 : spN T L (numC T L 0 most c).1.2.2 = q at *
          refine sg_X7_takeHours_86 hX ha1 (fun u6 e6 => ?_)
          have F6 := (F4.tr (FRm.of f5)).set (i := 94) (k := 18) (by unfold chM; omega) e6
          have g23 : u6.1 94 23 = h.1 94 23 := by rw [e6, hs_i (by omega), o5 23 (by omega), o4 23]; exact a23'
          have ft : FRt u4 u6 := f5.set (by omega) e6
          have R6 := R4.fr ft
          have cm : (r5 = 44) ↔ (q < L ∧ T q = 44) := by
            rw [er5]
            by_cases ql : q < L
            · have := (hT.2.2 q ql).1
              rw [if_pos ql, show (44 : Int32) = nI 44 from rfl, nI_eq (by omega) (by omega)]
              exact ⟨fun y => ⟨ql, y⟩, fun y => y.2⟩
            · rw [if_neg ql]
              exact ⟨fun y => absurd y (by decide), fun y => absurd y.1 ql⟩
          have k21 : u6.1 94 21 = 0 := by rw [e6, hs_i (by omega), o5 21 (by omega)]; exact (CM_f m4).mpr n0
          have k22 : u6.1 94 22 = -1 := by rw [e6, hs_i (by omega), o5 22 (by omega)]; exact c22
          by_cases g2 : q < L ∧ T q = 44
          · have n59 : ¬ (q < L ∧ T q = 59) := fun y => by omega
            rw [if_neg n59, if_pos g2] at eR
            rw [b5, bI_t (cm.mpr g2), nI_1] at e6
            rw [nI_1]
            refine ih (i + 1) (by omega) (by omega) (0, 0, q + 1) _ u6 _ (by rw [bI_t (cm.mpr g2)]; decide) rfl F6 g23 ⟨k21, Nat.zero_le _, fun x => absurd rfl x, fun _ => ⟨g2.1, k22, q + 1, g2.1, by rw [e6, hs_s], rfl⟩⟩ R6 eR
          · rw [b5, bI_f (fun y => g2 (cm.mp y)), k_0, nI_add, Nat.add_zero] at e6
            have m6 : CM T L u6 (numC T L 0 most c).1 := ⟨by rw [k21, n0]; rfl, m4.2.1, fun x => absurd n0 x, fun _ => ⟨cp, k22, q, hq, by rw [e6, hs_s], by rw [sp2, hq0]⟩⟩
            refine OUT u6 _ _ (numC T L 0 most c).1 (bI_f (fun y => g2 (cm.mp y))) F6 g23 m6 ?_ (fun _ => ?_)
            · rw [signC, if_pos n0, hq0, signQ, ← eR]
              by_cases g1 : q < L ∧ T q = 59
              · rw [if_pos g1, if_pos g1]
              · rw [if_neg g1, if_neg g1, if_neg g2]
            · have : R.2 = dset d (base + i) (numC T L 0 most c).2.1 := by
                rw [← eR]
                by_cases g1 : q < L ∧ T q = 59
                · rw [if_pos g1]
                · rw [if_neg g1, if_neg g2]
              rw [this]
              exact R6
        · rw [if_neg i4] at eR m2 er2
          rw [findC, if_pos n0] at m2 er2
          have z0 : r2 = 0 := by rw [er2]; exact bI_f (by show ¬ (4 : Nat) = 0; omega)
          refine sg_X7_takeHours_56 hX ha1 ⟨fun _ => ?_, fun y => absurd z0 y⟩
          exact OUT u2 _ _ _ (bI_f (fun y => y z0)) F2 a23' m2 (by rw [sign_f (by show ¬ (4 : Nat) = 0; omega), ← eR]) (fun y => absurd y (by show ¬ (4 : Nat) = 0; omega))
  exact sg_X7_takeHours_0 hX ha1 (LP 25 0 rfl (by omega) c d h _ (by rw [bI_t ((CM_f hC).mpr c0)]; decide) c0 FRm.rf rfl hC hR hRR)

set_option maxRecDepth 100000 in
set_option maxHeartbeats 4000000 in
theorem c_X7_takeGate {h : AH}   {T : Nat → Nat} {L : Nat} {c : Cur} {d : Nat → Nat} (hT : TXm T L h) (hC : CM T L h c) (hR : RMd d h) (hd : WFd d) (h1 : 1 ≤ d 0) : CV yX7_takeGate cX7_takeGate 2 2 50 [.ref 94] h (fun u => FRm h u ∧ u.1 94 23 = h.1 94 23 ∧ ∃ c2 : Cur, CM T L u c2 ∧ signC T L 59 c2 = gat4 T L c d ∧ (c2.1 = 0 → RMd (gatD T L c d) u)) := by
  refine CV.of [some (.ref 94), none] (by decide +kernel) rfl (Nat.le_of_ble_eq_true rfl) rfl (fun Z hX => ?_)
  obtain ⟨w1, -, -, w4, -⟩ := hd
  refine sg_X7_takeGate_0 hX ?_
  rw [hR.n, k_1, pk_sub h1]
  refine ⟨_, c_X7_takeNumber (lo := 0) (hi := d 0 - 1) hT hC (by omega) (by omega) rfl rfl, fun r1 u1 p1 => ?_⟩
  have q1 : CM T L u1 (gat1 T L c d).1 := p1.2.1
  have R1 := hR.fr p1.1
  have a23 : u1.1 94 23 = h.1 94 23 := p1.1.2.2 23 (by omega)
  have bad : ∀ (u : AH), FRm h u → u.1 94 23 = h.1 94 23 → CM T L u (gatF T L c d) → ¬ (gatF T L c d).1 = 0 → FRm h u ∧ u.1 94 23 = h.1 94 23 ∧ ∃ c2 : Cur, CM T L u c2 ∧ signC T L 59 c2 = gat4 T L c d ∧ (c2.1 = 0 → RMd (gatD T L c d) u) := by
    intro u f a m n0
    refine ⟨f, a, _, m, ?_, fun y => absurd y n0⟩
    have e2 : gat2 T L c d = (gatF T L c d, 0, 0) := num_f n0
    have e3 : gat3 T L c d = (gatF T L c d, 0, 0) := by rw [gat3, e2]; exact num_f n0
    rw [gat4, e3]
  refine sg_X7_takeGate_11 hX ⟨fun z => ?_, fun z => ?_⟩
  · have n0 : ¬ (gat1 T L c d).1.1 = 0 := fun y => z ((CM_f q1).mpr y)
    have eF : gatF T L c d = (gat1 T L c d).1 := by
      rw [gatF, findC, if_neg n0]
      split <;> rfl
    exact bad u1 (FRm.of p1.1) a23 (by rw [eF]; exact q1) (by rw [eF]; exact n0)
  have n0 := (CM_f q1).mp z
  have gk : (gat1 T L c d).2.1 ≤ d 0 - 1 := (num_ok hC.pos n0).2.1.2
  obtain ⟨er1, es1, ls1⟩ := p1.2.2 n0
  have er1 : r1 = nI (gat1 T L c d).2.1 := er1
  have es1 : u1.1 94 19 = nI (gat1 T L c d).2.2 := es1
  have ls1 : (gat1 T L c d).2.2 ≤ L := ls1
  have gd : (bI (¬ (((u1.1 94 24) >>> (r1 &&& 31)) &&& 1 = 1)) = 0) ↔ ¬ (¬ (d 810).testBit (gat1 T L c d).2.1 = true) := by
    rw [bI_0, R1.2, er1]
    exact not_congr (not_congr (hasb w4 (by omega)))
  refine ⟨_, c_X7_want (n := 3) (w := (gat1 T L c d).2.2) q1 (by omega) gd rfl (fun _ => ⟨ls1, es1⟩), fun r2 u2 p2 => ?_⟩
  obtain ⟨f2, o2, m2, er2⟩ := p2
  have eq : (if ¬ (d 810).testBit (gat1 T L c d).2.1 = true then (gat1 T L c d).1 else findC 3 (gat1 T L c d).2.2 (gat1 T L c d).1) = gatF T L c d := by
    unfold gatF
    by_cases b : (d 810).testBit (gat1 T L c d).2.1 = true
    · rw [if_neg (fun z => z b), if_pos b]
    · rw [if_pos b, if_neg b]
  rw [eq] at m2 er2
  have F2 := (FRm.of p1.1).tr (FRm.of f2)
  have R2 := R1.fr f2
  have a23' : u2.1 94 23 = h.1 94 23 := by rw [f2.2.2 23 (by omega)]; exact a23
  refine sg_X7_takeGate_44 hX ⟨fun y => ?_, fun y u3 e3 => ?_⟩
  · rw [er2, bI_0] at y
    exact bad u2 F2 a23' m2 y
  rw [er2, bI_n0] at y
  have eF : gatF T L c d = (gat1 T L c d).1 := by
    unfold gatF at y ⊢
    by_cases b : (d 810).testBit (gat1 T L c d).2.1 = true
    · rw [if_pos b, findC, if_pos n0] at y
      exact absurd y (by show ¬ (3 : Nat) = 0; omega)
    · rw [if_neg b]
  have sh : (1 : Int32) <<< (nI (gat1 T L c d).2.1 &&& 31) = nI (2 ^ (gat1 T L c d).2.1) := by
    have := sh_l (x := 1) (k := (gat1 T L c d).2.1) (by omega) (by rw [Nat.one_mul]; exact Nat.pow_lt_pow_right (by decide) (by omega))
    rw [Nat.one_mul] at this
    exact this
  rw [R2.2, er1, sh, fa_or] at e3
  have F3 := F2.set (i := 94) (k := 24) (by unfold chM; omega) e3
  have R3 := R2.set8 e3
  have m3 : CM T L u3 (gatF T L c d) := m2.same (fun k hk => by rw [e3, hs_i (by omega)])
  refine ⟨_, c_X7_takeNumber (lo := 0) (hi := 9) (hT.fm F3) m3 (by omega) (by omega) rfl rfl, fun r4 u4 p4 => ?_⟩
  rw [er1, k_10, nI_add]
  have R4 := R3.fr p4.1
  refine sg_X7_takeGate_74 hX (show ac 102 = some (0, 20) from rfl) ⟨vp_in_nI (by omega) (by omega), fun u5 e5 => ?_⟩
  rw [nI_clamp (by omega)] at e5
  have F5 := (F3.tr (FRm.of p4.1)).set (i := 102) (k := 10 + (gat1 T L c d).2.1) (by unfold chM; omega) e5
  have m5 : CM T L u5 (gat2 T L c d).1 := p4.2.1.same (fun k hk => by rw [e5, hs_o (by omega)])
  refine ⟨_, c_X7_takeNumber (lo := 0) (hi := 99) (hT.fm F5) m5 (by omega) (by omega) rfl rfl, fun r6 u6 p6 => ?_⟩
  rw [k_10, nI_add]
  refine sg_X7_takeGate_90 hX (show ac 103 = some (0, 20) from rfl) ⟨vp_in_nI (by omega) (by omega), fun u7 e7 => ?_⟩
  rw [nI_clamp (by omega)] at e7
  have F7 := (F5.tr (FRm.of p6.1)).set (i := 103) (k := 10 + (gat1 T L c d).2.1) (by unfold chM; omega) e7
  have m7 : CM T L u7 (gat3 T L c d).1 := p6.2.1.same (fun k hk => by rw [e7, hs_o (by omega)])
  refine ⟨F7, ?_, _, m7, rfl, fun x => ?_⟩
  · rw [e7, hs_o (by omega), p6.1.2.2 23 (by omega), e5, hs_o (by omega), p4.1.2.2 23 (by omega), e3, hs_i (by omega)]
    exact a23'
  · have pF : (gatF T L c d).1 = 0 → (gatF T L c d).2.2 ≤ L := m2.pos
    have b2 : (gat2 T L c d).1.1 = 0 := (num_ok (num_p pF) x).1
    have x4 : r4 = nI (gat2 T L c d).2.1 := (p4.2.2 b2).1
    have x6 : r6 = nI (gat3 T L c d).2.1 := (p6.2.2 x).1
    rw [x4] at e5
    rw [x6] at e7
    have R5 := R4.set (p := 400 + (gat1 T L c d).2.1) (by unfold plm; omega) (lm_4 (by omega)) e5
    exact (R5.fr p6.1).set (p := 500 + (gat1 T L c d).2.1) (by unfold plm; omega) (lm_5 (by omega)) e7

set_option maxRecDepth 100000 in
set_option maxHeartbeats 4000000 in
theorem c_X7_takeClause {h : AH}   {T : Nat → Nat} {L : Nat} {c : Cur} {d : Nat → Nat} (hT : TXm T L h) (hC : CM T L h c) (c0 : c.1 = 0) (hR : RMd d h) (hK : h.1 94 23 = nI (kdS d)) (hd : WFd d) : CV yX7_takeClause cX7_takeClause 4 3 75 [.ref 94] h (fun u => FRm h u ∧ CM T L u (clauseS T L (spN T L c.2.2) d).1 ∧ ((clauseS T L (spN T L c.2.2) d).1.1 = 0 → RMd (clauseS T L (spN T L c.2.2) d).2 u ∧ u.1 94 23 = nI (kdS (clauseS T L (spN T L c.2.2) d).2))) := by
  refine CV.of [some (.ref 94), none, none, none] (by decide +kernel) rfl (Nat.le_of_ble_eq_true rfl) rfl (fun Z hX => ?_)
  have hL := hT.1
  have d9 := hd.1
  have hq := (sp_le (T := T) (hC.pos c0)).2
  have kb := kd_b hd.2.1 hd.2.2.1 (f04 (x := d 810))
  have kb7 : kdS d < 512 := kb.2.2.2.2.2.2
  refine sg_X7_takeClause_0 hX ⟨_, c_X7_takeWord hT hC c0, fun u1 p1 => ?_⟩
  obtain ⟨f1, s1, l1, -, m1⟩ := p1
  generalize spN T L c.2.2 = q at *
  have t1 := hT.of f1
  have R1 := hR.fr f1
  have K1 : u1.1 94 23 = nI (kdS d) := by rw [f1.2.2 23 (by omega)]; exact hK
  have n1 : ¬ (1 : Nat) = 0 := by omega
  have n3 : ¬ (3 : Nat) = 0 := by omega
  generalize hRR : clauseS T L q d = R
  -- the end of the clause
  have EN : ∀ (u : AH) (c2 : Cur), FRm h u → CM T L u c2 → signC T L 59 c2 = R.1 → (R.1.1 = 0 → RMd R.2 u ∧ u.1 94 23 = nI (kdS R.2)) → ∃ PP : AH → Prop, CV yX7_takeEnd cX7_takeEnd 1 1 23 [.ref 94] u PP ∧ ∀ u : AH, PP u → EX Z 4 (QV Z (fun u => FRm h u ∧ CM T L u R.1 ∧ (R.1.1 = 0 → RMd R.2 u ∧ u.1 94 23 = nI (kdS R.2)))) 270 u [none, none, none, none] [] := by
    intro u c2 f m e g
    refine ⟨_, c_X7_takeEnd (hT.fm f) m, fun v hv => sg_X7_takeClause_270 hX ⟨f.tr (FRm.of hv.1), by rw [← e]; exact hv.2, fun z => ⟨(g z).1.fr hv.1, ?_⟩⟩⟩
    rw [hv.1.2.2 23 (by omega)]
    exact (g z).2
  have IW : ∀ (u : AH) (i : Nat) (x1 x2 x3 x4 x5 : Int32), FRt u1 u → (∀ k, k ≠ 21 → k ≠ 22 → u.1 94 k = u1.1 94 k) → i < 6 → x1 = nI (sL.getD i 0) → x2 = nI (wB i 0) → x3 = nI (wB i 1) → x4 = nI (wB i 2) → x5 = nI (wB i 3) → CI yX7_isWord cX7_isWord 8 (some .boolean) 0 0 [.ref 94, .int x1, .int x2, .int x3, .int x4, .int x5] u (fun r v => r = bI (isW T L q i = true) ∧ v = u) := fun u i x1 x2 x3 x4 x5 f o hi a b c d e => c_X7_isWord hi (t1.of f) hq (by rw [o 19 (by omega) (by omega)]; exact s1) (by rw [o 20 (by omega) (by omega)]; exact l1) a b c d e
  refine sg_X7_takeClause_4 hX ⟨_, IW u1 0 4 108 97 107 101 FRt.rf (fun _ _ _ => rfl) (by decide) (by decide) (by decide) (by decide) (by decide) (by decide), fun rl v hv => ?_⟩
  rw [hv.2, s1]
  refine sg_X7_takeClause_22 hX ⟨_, IW u1 1 4 112 111 110 100 FRt.rf (fun _ _ _ => rfl) (by decide) (by decide) (by decide) (by decide) (by decide) (by decide), fun rp w hw => ?_⟩
  rw [hw.2]
  have hl := hv.1
  have hp := hw.1
  refine sg_X7_takeClause_36 hX (fun v3 e3 => ?_)
  have z0 : (u1.1 94 10 ≤ 0) ↔ d 0 = 0 := by rw [R1.n, k_0, nI_leI (by omega) (by omega)]; omega
  have gd : v3 = 0 ↔ ¬ (isW T L q 0 = true ∨ ¬ d 0 = 0) := by
    rw [e3, hl]
    by_cases w0 : isW T L q 0 = true
    · rw [bI_t w0, if_neg (by decide)]
      exact ⟨fun y => absurd y (by decide), fun y => absurd (Or.inl w0) y⟩
    · rw [bI_f w0, if_pos rfl, bI_0, z0]
      exact ⟨fun y x => x.elim w0 y, fun y x => y (Or.inr x)⟩
  refine ⟨_, c_X7_want (n := 1) (w := q) m1 (by omega) gd rfl (fun _ => ⟨hq, rfl⟩), fun r2 u2 p2 => ?_⟩
  obtain ⟨f2, o2, m2, er2⟩ := p2
  have F2 := (FRm.of f1).tr (FRm.of f2)
  have R2 := R1.fr f2
  have K2 : u2.1 94 23 = nI (kdS d) := by rw [f2.2.2 23 (by omega)]; exact K1
  refine sg_X7_takeClause_59 hX ⟨fun y => ?_, fun y => ?_⟩
  · rw [er2, bI_0] at y
    by_cases g : isW T L q 0 = true ∨ ¬ d 0 = 0
    · rw [if_pos g] at y; exact absurd rfl y
    · rw [if_neg g] at m2
      have w0 : ¬ isW T L q 0 = true := fun z => g (Or.inl z)
      have dz : d 0 = 0 := Decidable.not_not.mp (fun z => g (Or.inr z))
      rw [clauseS, if_neg w0, if_pos dz] at hRR
      have m2 : CM T L u2 (1, q, 0) := m2
      exact EN u2 (1, q, 0) F2 m2 (by rw [sign_f n1, ← hRR]) (fun z => by rw [← hRR] at z; exact absurd z n1)
  rw [er2, bI_n0] at y
  have g : isW T L q 0 = true ∨ ¬ d 0 = 0 := by
    by_cases g : isW T L q 0 = true ∨ ¬ d 0 = 0
    · exact g
    · rw [if_neg g] at y; exact absurd y n1
  rw [if_pos g] at m2
  clear y er2
  -- a basin
  have BA : ∀ u : AH, FRm h u → CM T L u (0, 0, leN T L q) → RMd d u → u.1 94 23 = nI (kdS d) → d 0 < 9 → R = basS T L (0, 0, leN T L q) d → ∃ PP : AH → Prop, CV yX7_takeNode cX7_takeNode 2 2 50 [.ref 94] u PP ∧ ∀ u : AH, PP u → ∃ PP : AH → Prop, CV yX7_takeEnd cX7_takeEnd 1 1 23 [.ref 94] u PP ∧ ∀ u : AH, PP u → EX Z 4 (QV Z (fun u => FRm h u ∧ CM T L u R.1 ∧ (R.1.1 = 0 → RMd R.2 u ∧ u.1 94 23 = nI (kdS R.2)))) 270 u [none, none, none, none] [] := by
    intro u f m r k h9 eR
    refine ⟨_, c_X7_takeNode (hT.fm f) m r h9, fun v hv => ?_⟩
    refine EN v (bas3 T L (0, 0, leN T L q)).1 (f.tr hv.1) hv.2.2.1 (by rw [eR]; rfl) (fun z => ?_)
    rw [eR] at z ⊢
    have z : (bas4 T L (0, 0, leN T L q)).1 = 0 := z
    have b3 := (bas_ok m.pos z).2.2.2.2.2.2.2
    have e2 : (basS T L (0, 0, leN T L q) d).2 = basD T L (0, 0, leN T L q) d := by
      show (if (bas4 T L (0, 0, leN T L q)).1 = 0 then basD T L (0, 0, leN T L q) d else d) = _
      rw [if_pos z]
    rw [e2]
    refine ⟨hv.2.2.2 b3, ?_⟩
    rw [hv.2.1, k]
    congr 1
    unfold kdS basD
    have o : ∀ j, 800 ≤ j → dset (dset (dset (dset d (100 + d 0) (bas1 T L (0, 0, leN T L q)).2.1) (200 + d 0) (bas2 T L (0, 0, leN T L q)).2.1) (300 + d 0) (bas3 T L (0, 0, leN T L q)).2.1) 0 (d 0 + 1) j = d j := fun j hj => by rw [ds_ne (by omega), ds_ne (by omega), ds_ne (by omega), ds_ne (by omega)]
    rw [o 808 (by omega), o 809 (by omega), o 810 (by omega)]
  unfold clauseS at hRR
  refine ⟨fun w0 => ?_, fun w0 => ?_⟩
  case refine_2 =>
    rw [hl, bI_n0] at w0
    rw [if_pos w0] at hRR
    have z1 : (u2.1 94 10 = 0) ↔ d 0 = 0 := by rw [R2.n, k_0, nI_eq (by omega) (by omega)]
    have gd2 : (bI (u2.1 94 10 = 0) = 0) ↔ ¬ d 0 = 0 := by rw [bI_0]; exact not_congr z1
    refine ⟨_, c_X7_want (n := 3) (w := q) m2 (by omega) gd2 rfl (fun _ => ⟨hq, rfl⟩), fun r3 u3 p3 => ?_⟩
    obtain ⟨f3, o3, m3, er3⟩ := p3
    have F3 := F2.tr (FRm.of f3)
    refine sg_X7_takeClause_84 hX ⟨fun y => ?_, fun y => ?_⟩
    · rw [er3, bI_0] at y
      by_cases dz : d 0 = 0
      · rw [if_pos dz] at y; exact absurd rfl y
      · rw [if_neg dz] at m3 hRR
        rw [bas_f n3] at hRR
        have m3 : CM T L u3 (3, q, 0) := m3
        exact EN u3 (3, q, 0) F3 m3 (by rw [sign_f n3, ← hRR]) (fun z => by rw [← hRR] at z; exact absurd z n3)
    · rw [er3, bI_n0] at y
      have dz : d 0 = 0 := by
        by_cases dz : d 0 = 0
        · exact dz
        · rw [if_neg dz] at y; exact absurd y n3
      rw [if_pos dz] at m3 hRR
      obtain ⟨PP, b1, b2⟩ := BA u3 F3 m3 (R2.fr f3) (by rw [f3.2.2 23 (by omega)]; exact K2) (by omega) hRR.symm
      exact ⟨PP, b1, fun v hv => sg_X7_takeClause_91 hX (b2 v hv)⟩
  rw [hl, bI_0] at w0
  have dz : ¬ d 0 = 0 := g.resolve_left w0
  rw [if_neg w0, if_neg dz] at hRR
  refine ⟨fun w1 => ?_, fun w1 => ?_⟩
  case refine_2 =>
    rw [hp, bI_n0] at w1
    rw [if_pos w1] at hRR
    have gd2 : (bI (¬ (((u2.1 94 23) >>> (2 &&& 31)) &&& 1 = 1)) = 0) ↔ ¬ d 810 = 0 := by
      rw [bI_0, K2]
      have := hasb (t := kdS d) (k := 2) kb7 (by omega)
      have t2 : (kdS d).testBit 2 = true ↔ ¬ d 810 = 0 := by
        refine kb.2.2.1.trans ?_
        by_cases x : d 810 = 0
        · rw [if_pos x]; exact ⟨fun z => absurd z (by omega), fun z => absurd x z⟩
        · rw [if_neg x]; exact ⟨fun _ => x, fun _ => rfl⟩
      refine Iff.trans ?_ t2
      rw [← this]
      exact Decidable.not_not
    refine ⟨_, c_X7_want (n := 1) (w := q) m2 (by omega) gd2 rfl (fun _ => ⟨hq, rfl⟩), fun r3 u3 p3 => ?_⟩
    obtain ⟨f3, o3, m3, er3⟩ := p3
    have F3 := F2.tr (FRm.of f3)
    refine sg_X7_takeClause_120 hX ⟨fun y => ?_, fun y => ?_⟩
    · rw [er3, bI_0] at y
      by_cases x : d 810 = 0
      · rw [if_pos x] at y; exact absurd rfl y
      · rw [if_neg x] at m3 hRR
        rw [bas_f n1] at hRR
        have m3 : CM T L u3 (1, q, 0) := m3
        exact EN u3 (1, q, 0) F3 m3 (by rw [sign_f n1, ← hRR]) (fun z => by rw [← hRR] at z; exact absurd z n1)
    · rw [er3, bI_n0] at y
      have x : d 810 = 0 := by
        by_cases x : d 810 = 0
        · exact x
        · rw [if_neg x] at y; exact absurd y n1
      rw [if_pos x] at m3 hRR
      have R3 := R2.fr f3
      have gd3 : (bI (¬ (9 ≤ (u3.1 94 10))) = 0) ↔ ¬ d 0 < 9 := by
        rw [bI_0, R3.n, k_9]
        refine not_congr ?_
        rw [nI_leI (by omega) (by omega)]
        omega
      refine ⟨_, c_X7_want (n := 3) (w := q) m3 (by omega) gd3 rfl (fun _ => ⟨hq, rfl⟩), fun r4 u4 p4 => ?_⟩
      obtain ⟨f4, o4, m4, er4⟩ := p4
      have F4 := F3.tr (FRm.of f4)
      refine sg_X7_takeClause_143 hX ⟨fun y2 => ?_, fun y2 => ?_⟩
      · rw [er4, bI_0] at y2
        by_cases x9 : d 0 < 9
        · rw [if_pos x9] at y2; exact absurd rfl y2
        · rw [if_neg x9] at m4 hRR
          rw [bas_f n3] at hRR
          have m4 : CM T L u4 (3, q, 0) := m4
          exact EN u4 (3, q, 0) F4 m4 (by rw [sign_f n3, ← hRR]) (fun z => by rw [← hRR] at z; exact absurd z n3)
      · rw [er4, bI_n0] at y2
        have x9 : d 0 < 9 := by
          by_cases x9 : d 0 < 9
          · exact x9
          · rw [if_neg x9] at y2; exact absurd y2 n3
        rw [if_pos x9] at m4 hRR
        obtain ⟨PP, b1, b2⟩ := BA u4 F4 m4 (R3.fr f4) (by rw [f4.2.2 23 (by omega), f3.2.2 23 (by omega)]; exact K2) x9 hRR.symm
        exact ⟨PP, b1, fun v hv => sg_X7_takeClause_150 hX (b2 v hv)⟩
  rw [hp, bI_0] at w1
  rw [if_neg w1] at hRR
  have IW2 := fun i x1 x2 x3 x4 x5 => IW u2 i x1 x2 x3 x4 x5 f2 o2
  refine ⟨_, IW2 2 4 114 97 105 110 (by decide) (by decide) (by decide) (by decide) (by decide) (by decide), fun rr w hw => ?_⟩
  rw [hw.2]
  -- a row of hours
  have RW : ∀ (j base most a1 pl : Nat) (u : AH) (b : Nat), (base = 600 ∧ a1 = 100 ∨ base = 700 ∧ a1 = 101) → (j = 0 ∧ pl = 808 ∧ b = d 808 ∧ most = 99 ∧ base = 600 ∨ j = 1 ∧ pl = 809 ∧ b = d 809 ∧ most = 999 ∧ base = 700) → R = ((rowR T L most base 25 0 (if b = 0 then (0, 0, leN T L q) else (3, q, 0)) d).1, dset (rowR T L most base 25 0 (if b = 0 then (0, 0, leN T L q) else (3, q, 0)) d).2 pl 1) → ∀ (r4 : Int32) (u4 : AH), (FRm u2 u4 ∧ CM T L u4 (if (kdS d).testBit j = true then (3, q, 0) else (0, 0, leN T L q)) ∧ r4 = bI ((if (kdS d).testBit j = true then ((3, q, 0) : Cur) else (0, 0, leN T L q)).1 = 0) ∧ u4.1 94 23 = nI (kdS d ||| 2 ^ j) ∧ ∀ d, RMd d u2 → RMd d u4) → ((r4 = 0 → ∃ PP : AH → Prop, CV yX7_takeEnd cX7_takeEnd 1 1 23 [.ref 94] u4 PP ∧ ∀ u : AH, PP u → EX Z 4 (QV Z (fun u => FRm h u ∧ CM T L u R.1 ∧ (R.1.1 = 0 → RMd R.2 u ∧ u.1 94 23 = nI (kdS R.2)))) 270 u [none, none, none, none] []) ∧ (¬ r4 = 0 → ∃ PP : AH → Prop, CV yX7_takeHours cX7_takeHours 6 2 50 [.ref 94, .ref a1, .int (nI most)] u4 PP ∧ ∀ u : AH, PP u → ∃ PP : AH → Prop, CV yX7_takeEnd cX7_takeEnd 1 1 23 [.ref 94] u PP ∧ ∀ u : AH, PP u → EX Z 4 (QV Z (fun u => FRm h u ∧ CM T L u R.1 ∧ (R.1.1 = 0 → RMd R.2 u ∧ u.1 94 23 = nI (kdS R.2)))) 270 u [none, none, none, none] [])) := by
    intro j base most a1 pl u b hb hj eR r4 u4 p4
    obtain ⟨f4, m4, er4, k4, R4⟩ := p4
    have F4 := F2.tr f4
    have bt : (kdS d).testBit j = true ↔ ¬ b = 0 := by
      rcases hj with ⟨rfl, -, rfl, -⟩ | ⟨rfl, -, rfl, -⟩
      · refine kb.1.trans ?_
        have := hd.2.1
        omega
      · refine kb.2.1.trans ?_
        have := hd.2.2.1
        omega
    refine ⟨fun y => ?_, fun y => ?_⟩
    · rw [er4, bI_0] at y
      by_cases x : (kdS d).testBit j = true
      · rw [if_pos x] at m4
        rw [if_neg (bt.mp x), rowR_f n3] at eR
        exact EN u4 (3, q, 0) F4 m4 (by rw [sign_f n3, eR]) (fun z => by rw [eR] at z; exact absurd z n3)
      · rw [if_neg x] at y; exact absurd rfl y
    · rw [er4, bI_n0] at y
      have x : ¬ (kdS d).testBit j = true := fun x => by rw [if_pos x] at y; exact absurd y n3
      have b0 : b = 0 := Decidable.not_not.mp (fun z => x (bt.mpr z))
      rw [if_neg x] at m4
      rw [if_pos b0] at eR
      have hbb : base = 600 ∧ most = 99 ∨ base = 700 ∧ most = 999 := by omega
      refine ⟨_, c_X7_takeHours (na1 := 48) (by rcases hb with ⟨-, rfl⟩ | ⟨-, rfl⟩ <;> rfl) (base := base) (hT.fm F4) m4 rfl (R4 d R2) hb rfl (by omega) rfl, fun v hv => ?_⟩
      obtain ⟨fv, kv, c2, mv, sv, rv⟩ := hv
      refine EN v c2 (F4.tr fv) mv (by rw [sv, eR]) (fun z => ?_)
      have z0 : c2.1 = 0 := by
        rw [eR] at z
        have z : (rowR T L most base 25 0 (0, 0, leN T L q) d).1.1 = 0 := z
        rw [← sv] at z
        exact (sign_ok mv.pos z).1
      have rk : (rowR T L most base 25 0 (0, 0, leN T L q) d).1.1 = 0 := by
        rw [eR] at z
        exact z
      have same := (rowR_ok (T := T) hbb 25 0 (0, 0, leN T L q) d (fun _ => (le_le hq).2) rk).2.2.1
      rw [eR]
      refine ⟨(rv z0).cg (fun p hp => ds_ne (by omega)), ?_⟩
      rw [kv, k4]
      congr 1
      show _ = kdS (dset (rowR T L most base 25 0 (0, 0, leN T L q) d).2 pl 1)
      unfold kdS
      rcases hj with ⟨rfl, rfl, rfl, -, rfl⟩ | ⟨rfl, rfl, rfl, -, rfl⟩
      · rw [ds_eq, ds_ne (by omega), ds_ne (by omega), same 809 (by omega), same 810 (by omega)]
        exact kb.2.2.2.2.1 b0
      · rw [ds_eq, ds_ne (by omega), ds_ne (by omega), same 808 (by omega), same 810 (by omega)]
        exact kb.2.2.2.2.2.1 b0
  refine sg_X7_takeClause_166 hX ⟨fun w2 => ?_, fun w2 => ?_⟩
  case refine_2 =>
    rw [hw.1, bI_n0] at w2
    rw [if_pos w2] at hRR
    refine ⟨_, c_X7_once (K := kdS d) (j := 0) (w := q) m2 rfl K2 kb7 (by omega) hq rfl rfl, fun r4 u4 p4 => ?_⟩
    obtain ⟨ra, rb⟩ := RW 0 600 99 100 808 u2 (d 808) (Or.inl ⟨rfl, rfl⟩) (Or.inl ⟨rfl, rfl, rfl, rfl, rfl⟩) hRR.symm r4 u4 p4
    refine sg_X7_takeClause_175 hX ⟨ra, fun y => ?_⟩
    obtain ⟨PP, b1, b2⟩ := rb y
    exact ⟨PP, b1, fun v hv => sg_X7_takeClause_188 hX (b2 v hv)⟩
  rw [hw.1, bI_0] at w2
  rw [if_neg w2] at hRR
  refine ⟨_, IW2 3 4 116 105 100 101 (by decide) (by decide) (by decide) (by decide) (by decide) (by decide), fun rt w hw => ?_⟩
  rw [hw.2]
  refine sg_X7_takeClause_204 hX ⟨fun w3 => ?_, fun w3 => ?_⟩
  case refine_2 =>
    rw [hw.1, bI_n0] at w3
    rw [if_pos w3] at hRR
    refine ⟨_, c_X7_once (K := kdS d) (j := 1) (w := q) m2 rfl K2 kb7 (by omega) hq rfl rfl, fun r4 u4 p4 => ?_⟩
    obtain ⟨ra, rb⟩ := RW 1 700 999 101 809 u2 (d 809) (Or.inr ⟨rfl, rfl⟩) (Or.inr ⟨rfl, rfl, rfl, rfl, rfl⟩) hRR.symm r4 u4 p4
    refine sg_X7_takeClause_213 hX ⟨ra, fun y => ?_⟩
    obtain ⟨PP, b1, b2⟩ := rb y
    exact ⟨PP, b1, fun v hv => sg_X7_takeClause_227 hX (b2 v hv)⟩
  rw [hw.1, bI_0] at w3
  rw [if_neg w3] at hRR
  refine ⟨_, IW2 4 4 103 97 116 101 (by decide) (by decide) (by decide) (by decide) (by decide) (by decide), fun rg w hw => ?_⟩
  rw [hw.2]
  have gd4 : rg = 0 ↔ ¬ isW T L q 4 = true := by rw [hw.1, bI_0]
  refine sg_X7_takeClause_244 hX ⟨_, c_X7_want (n := 1) (w := q) m2 (by omega) gd4 rfl (fun _ => ⟨hq, rfl⟩), fun r5 u5 p5 => ?_⟩
  obtain ⟨f5, o5, m5, er5⟩ := p5
  have F5 := F2.tr (FRm.of f5)
  refine sg_X7_takeClause_249 hX ⟨fun y => ?_, fun y u6 e6 => ?_⟩
  · rw [er5, bI_0] at y
    by_cases x : isW T L q 4 = true
    · rw [if_pos x] at y; exact absurd rfl y
    · rw [if_neg x] at m5 hRR
      have m5 : CM T L u5 (1, q, 0) := m5
      exact EN u5 (1, q, 0) F5 m5 (by rw [sign_f n1, ← hRR]) (fun z => by rw [← hRR] at z; exact absurd z n1)
  · rw [er5, bI_n0] at y
    have x : isW T L q 4 = true := by
      by_cases x : isW T L q 4 = true
      · exact x
      · rw [if_neg x] at y; exact absurd y n1
    rw [if_pos x] at m5 hRR
    rw [f5.2.2 23 (by omega), K2, k_4, fa_or] at e6
    have F6 := F5.set (i := 94) (k := 23) (by unfold chM; omega) e6
    have R6 := (R2.fr f5).k23 e6
    have m6 : CM T L u6 (0, 0, leN T L q) := m5.same (fun k hk => by rw [e6, hs_i (by omega)])
    refine ⟨_, c_X7_takeGate (hT.fm F6) m6 R6 hd (by omega), fun v hv => sg_X7_takeClause_266 hX ?_⟩
    obtain ⟨fv, kv, c2, mv, sv, rv⟩ := hv
    refine EN v c2 (F6.tr fv) mv (by rw [sv, ← hRR]; rfl) (fun z => ?_)
    rw [← hRR] at z ⊢
    have z : (gat4 T L (0, 0, leN T L q) d).1 = 0 := z
    have z0 : c2.1 = 0 := by
      rw [← sv] at z
      exact (sign_ok mv.pos z).1
    have e2 : (gateR T L (0, 0, leN T L q) d).2 = gatD T L (0, 0, leN T L q) d := by
      show (if (gat4 T L (0, 0, leN T L q) d).1 = 0 then gatD T L (0, 0, leN T L q) d else d) = _
      rw [if_pos z]
    rw [e2]
    refine ⟨rv z0, ?_⟩
    have gk := (gat_ok m6.pos z).2.2.1
    rw [kv, e6, hs_s]
    congr 1
    unfold gatD
    unfold kdS
    rw [ds_ne (by omega), ds_ne (by omega), ds_ne (by omega), ds_ne (by omega), ds_ne (by omega), ds_ne (by omega), ds_ne (by omega), ds_ne (by omega), ds_eq, if_neg (or_lt hd.2.2.2.1 (by omega)).2]
    exact kb.2.2.2.1
