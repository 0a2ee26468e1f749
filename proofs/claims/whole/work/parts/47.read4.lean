theorem KD_sign {T : Nat → Nat} {L q ch : Nat} {u : AH} (k : KD T L q u) (hc : ch = 59 ∨ ch = 44) : (u.1 1 4 = 3 ∧ q < L ∧ T q = ch) ↔ (q < L ∧ T q = ch) := by
  refine ⟨fun z => z.2, fun z => ⟨?_, z⟩⟩
  have n1 : isLt (T q) = false := by rw [z.2]; rcases hc with rfl | rfl <;> decide
  have n2 : isFg (T q) = false := by rw [z.2]; rcases hc with rfl | rfl <;> decide
  rcases k with ⟨k1, -, -⟩ | ⟨k1, k2, -, -⟩ | ⟨k1, k2, -, -, -⟩ | ⟨-, -, -, k4, -⟩
  · omega
  · rw [n1] at k2; cases k2
  · rw [n2] at k2; cases k2
  · exact k4
theorem KD_pos {T : Nat → Nat} {L q ch : Nat} {u : AH} (k : KD T L q u) (hc : ch = 59 ∨ ch = 44) (z : q < L ∧ T q = ch) : u.1 1 6 = nI (q + 1) := by
  have z4 := ((KD_sign k hc).mpr z).1
  rcases k with ⟨-, k2, -⟩ | ⟨-, -, k3, -⟩ | ⟨-, -, k3, -, -⟩ | ⟨-, -, -, -, k5⟩
  · rw [k2] at z4; exact absurd z4 (by decide)
  · rw [k3] at z4; exact absurd z4 (by decide)
  · rw [k3] at z4; exact absurd z4 (by decide)
  · exact k5
theorem rowR_f {T : Nat → Nat} {L most base m i : Nat} {c : Cur} {d : Nat → Nat} (h : ¬ c.1 = 0) : rowR T L most base m i c d = (c, d) := by
  cases m with
  | zero => rfl
  | succ m => rw [rowR, if_neg h]
theorem pln_row {base i : Nat} (hb : base = 600 ∨ base = 700) (hi : i < 24) : plc (base + i) := by unfold plc; omega

set_option maxRecDepth 100000 in
set_option maxHeartbeats 4000000 in
theorem c_X2_readRowOnce {h : AH} {a1 na1 : Nat} {a2 : Int32} {a3 : Int32} (ha1 : ac a1 = some (0, na1)) {T : Nat → Nat} {L q e t most base cc off : Nat} {d : Nat → Nat} (hT : TXc T L h) (hC : CR L h (0, 0, e)) (hc : 3 ≤ cc) (hR : RCd cc d h) (hq : q ≤ L) (e5 : h.1 1 5 = nI q) (hb : base = 600 ∨ base = 700) (ho : base = 100 * off) (e1 : a1 = cc + off) (en : na1 = 24) (hm : most ≤ 999) (e2 : a2 = nI most) (ht : t ≤ 1) (e3 : a3 = nI t) : CV yX2_readRowOnce cX2_readRowOnce 6 3 63 [.ref 1, .ref a1, .int a2, .int a3] h (fun u => FRd cc 8 h u ∧ CR L u (rowR T L most base 25 0 (if t = 0 then (0, 0, e) else (3, q, 0)) d).1 ∧ ((rowR T L most base 25 0 (if t = 0 then (0, 0, e) else (3, q, 0)) d).1.1 = 0 → RCd cc (rowR T L most base 25 0 (if t = 0 then (0, 0, e) else (3, q, 0)) d).2 u)) := by
  refine CV.of [some (.ref 1), some (.ref a1), some (.int a2), some (.int a3), none, none] (by decide +kernel) rfl (Nat.le_of_ble_eq_true rfl) rfl (fun Z hX => ?_)
  subst e2 e3 en
  have hL := hT.1
  have hof : off = 6 ∨ off = 7 := by omega
  have nofar : (Int32.ofNat 24) = nI 24 := rfl
  -- from the loop's head
  have LP : ∀ m i, i + m = 25 → ∀ (c : Cur) (d : Nat → Nat) (u : AH), FRd cc 8 h u → CR L u c → (c.1 = 0 → RCd cc d u) → ∀ R : Cur × (Nat → Nat), rowR T L most base m i c d = R → EX Z 6 (QV Z (fun u => FRd cc 8 h u ∧ CR L u R.1 ∧ (R.1.1 = 0 → RCd cc R.2 u))) 12 u [some (.ref 1), some (.ref a1), some (.int (nI most)), none, some (.int (nI i)), none] [] := by
    intro m
    induction m with
    | zero =>
      intro i hi c d u f cu r R eR
      subst eR
      refine sg_X2_readRowOnce_12 hX ha1 ⟨fun _ => ⟨f, cu, r⟩, fun z => absurd ?_ z⟩
      rw [nofar]; exact nI_lt (by omega) (by omega)
    | succ m ih =>
      intro i hi c d u f cu r R eR
      refine sg_X2_readRowOnce_12 hX ha1 ⟨fun z => absurd z (by rw [nofar]; exact nI_nlt (by omega) (by omega)), fun _ => ⟨fun z => ?_, fun z => ?_⟩⟩
      · have c0 : ¬ c.1 = 0 := fun y => z ((CR_f cu).mpr y)
        have : R = (c, d) := by rw [← eR, rowR, if_neg c0]
        rw [this]
        exact ⟨f, cu, r⟩
      · have c0 := (CR_f cu).mp z
        have rd := r c0
        have tu := hT.fd f hc
        refine ⟨_, c_X2_takeNumber (lo := 0) (hi := most) tu cu (by omega) (by omega) rfl rfl, fun v u1 p1 => ?_⟩
        have f1 : FRd cc 8 h u1 := f.tr (FRd.of p1.1)
        have t1 := hT.fd f1 hc
        have r1 := rd.fr p1.1 hc
        -- a fault stands: nothing more is read
        have FT : ∀ (w : AH), ¬ R.1.1 = 0 → CR L w R.1 → FRd cc 8 h w → ∃ PP : AH → Prop, CV yX2_step cX2_step 1 1 21 [.ref 1] w PP ∧ ∀ u : AH, PP u → EX Z 6 (QV Z (fun u => FRd cc 8 h u ∧ CR L u R.1 ∧ (R.1.1 = 0 → RCd cc R.2 u))) 59 u [some (.ref 1), some (.ref a1), some (.int (nI most)), none, some (.int (nI i)), none] [] := by
          intro w n2 cw fw
          have tw := hT.fd fw hc
          refine ⟨_, c_X2_step tw cw, fun w2 hw2 => ?_⟩
          rw [hw2.1 n2]
          obtain ⟨b1, b2, b3⟩ := cw.2.2.1 n2
          refine sg_X2_readRowOnce_59 hX ha1 ⟨_, c_X2_isSign (ch := 59) tw b1 b3 (Or.inl rfl) rfl, fun s w3 hw3 => ?_⟩
          rw [hw3.2]
          refine sg_X2_readRowOnce_65 hX ha1 ⟨fun _ => ⟨_, c_X2_isSign (ch := 44) tw b1 b3 (Or.inr rfl) rfl, fun s2 w4 hw4 => ?_⟩, fun _ => ⟨fw, cw, fun y => absurd y n2⟩⟩
          rw [hw4.2]
          have HD : ∀ w5 : AH, FRd cc 8 h w5 → CR L w5 R.1 → EX Z 6 (QV Z (fun u => FRd cc 8 h u ∧ CR L u R.1 ∧ (R.1.1 = 0 → RCd cc R.2 u))) 12 w5 [some (.ref 1), some (.ref a1), some (.int (nI most)), none, some (.int (nI i + 1)), none] [] := fun w5 f5 c5 =>
            sg_X2_readRowOnce_12 hX ha1 ⟨fun _ => ⟨f5, c5, fun y => absurd y n2⟩, fun _ => ⟨fun _ => ⟨f5, c5, fun y => absurd y n2⟩, fun y => absurd ((CR_f c5).mp y) n2⟩⟩
          refine sg_X2_readRowOnce_75 hX ha1 ⟨fun _ => HD w fw cw, fun _ => ⟨_, c_X2_find (n := 1) (q := 0) cw (by omega) (by omega) (fun y => absurd y n2) rfl, fun w6 hw6 => sg_X2_readRowOnce_83 hX ha1 (HD w6 (fw.tr (FRd.of hw6.1)) ?_)⟩⟩
          have := hw6.2.2.2
          rw [findC, if_neg n2] at this
          exact this
        by_cases n0 : (numC T L 0 most c).1.1 = 0
        · obtain ⟨ev, es, ls⟩ := p1.2.2 n0
          by_cases i4 : i < 24
          · refine sg_X2_readRowOnce_32 hX ha1 ⟨fun z => absurd z (by rw [nofar]; exact nI_ge i4 (by omega)), fun _ => ⟨vp_in_nI i4 (by omega), fun u2 e2 => ?_⟩⟩
            rw [nI_clamp (by omega), ev, e1] at e2
            have f2 := f1.set (by unfold chC; omega) e2
            have r2 := r1.set hc (pln_row hb i4) (lcc_c (c := cc) (a := off) (k := i) (by omega) (by omega) (by omega)) e2
            have g1 : ∀ k, u2.1 1 k = u1.1 1 k := fun k => by rw [e2, hs_o (by omega)]
            have cu2 : CR L u2 (numC T L 0 most c).1 := p1.2.1.same g1
            have t2 := hT.fd f2 hc
            refine ⟨_, c_X2_step t2 cu2, fun u3 p3 => ?_⟩
            obtain ⟨g2, g3, g4, g5⟩ := p3.2 n0
            have f3 : FRd cc 8 h u3 := f2.tr (FRd.of g2)
            have t3 := hT.fd f3 hc
            have r3 := r2.fr g2 hc
            have hq2 := (sp_le (T := T) (cu2.pos n0)).2
            rw [rowR, if_pos c0, if_pos n0, if_pos i4] at eR
            have z2 : u3.1 1 2 = 0 := by rw [g3, cu2.1, n0]; rfl
            obtain ⟨bb, hCu⟩ := KD_CR cu2 n0 hq2 g3 g5
            generalize spN T L (numC T L 0 most c).1.2.2 = q2 at *
            have okc : ∀ ch, (ch = 59 ∨ ch = 44) → q2 < L ∧ T q2 = ch → CR L u3 (0, 0, q2 + 1) := fun ch hh hy => ⟨z2, Nat.zero_le _, fun y => absurd rfl y, fun _ => ⟨hy.1, KD_pos g5 hh hy⟩⟩
            refine sg_X2_readRowOnce_59 hX ha1 ⟨_, c_X2_isSign (ch := 59) t3 hq2 g4 (Or.inl rfl) rfl, fun s w3 hw3 => ?_⟩
            rw [hw3.2]
            refine sg_X2_readRowOnce_65 hX ha1 ⟨fun y => ?_, fun y => ?_⟩
            · rw [hw3.1, bI_0, KD_sign g5 (Or.inl rfl)] at y
              rw [if_neg y] at eR
              refine ⟨_, c_X2_isSign (ch := 44) t3 hq2 g4 (Or.inr rfl) rfl, fun s2 w4 hw4 => ?_⟩
              rw [hw4.2]
              refine sg_X2_readRowOnce_75 hX ha1 ⟨fun x => ?_, fun x => ?_⟩
              · rw [hw4.1, bI_n0, KD_sign g5 (Or.inr rfl)] at x
                rw [if_pos x] at eR
                rw [nI_1]
                exact ih (i + 1) (by omega) _ _ u3 f3 (okc 44 (Or.inr rfl) x) (fun _ => r3) R eR
              · rw [hw4.1, bI_0, KD_sign g5 (Or.inr rfl)] at x
                rw [if_neg x] at eR
                refine ⟨_, c_X2_find (n := 1) hCu (by omega) hq2 (fun _ => g4) rfl, fun w6 hw6 => sg_X2_readRowOnce_83 hX ha1 ?_⟩
                have c6 : CR L w6 (1, q2, 0) := hw6.2.2.2
                rw [nI_1]
                exact ih (i + 1) (by omega) (1, q2, 0) _ w6 (f3.tr (FRd.of hw6.1)) c6 (fun y => absurd y (by show ¬ (1 : Nat) = 0; omega)) R (by rw [rowR_f (by show ¬ (1 : Nat) = 0; omega)]; exact eR)
            · rw [hw3.1, bI_n0, KD_sign g5 (Or.inl rfl)] at y
              rw [if_pos y] at eR
              rw [← eR]
              exact ⟨f3, okc 59 (Or.inl rfl) y, fun _ => r3⟩
          · rw [rowR, if_pos c0, if_pos n0, if_neg i4] at eR
            have e4 : R.1 = (4, (numC T L 0 most c).2.2, 0) := by rw [← eR]
            refine sg_X2_readRowOnce_32 hX ha1 ⟨fun z => ⟨_, c_X2_find (n := 4) p1.2.1 (by omega) ls (fun _ => es) rfl, fun w6 hw6 => sg_X2_readRowOnce_55 hX ha1 (FT w6 (by rw [e4]; show ¬ (4 : Nat) = 0; omega) ?_ (f1.tr (FRd.of hw6.1)))⟩, fun z => absurd ?_ z⟩
            · have := hw6.2.2.2
              rw [findC, if_pos n0] at this
              rw [e4]
              exact this
            · rw [nofar]; exact nI_le (by omega) (by omega)
        · rw [rowR, if_pos c0, if_neg n0] at eR
          have e4 : R.1 = (numC T L 0 most c).1 := by rw [← eR]
          have nR : ¬ R.1.1 = 0 := by rw [e4]; exact n0
          refine sg_X2_readRowOnce_32 hX ha1 ⟨fun z => ⟨_, c_X2_find (n := 4) (q := 0) p1.2.1 (by omega) (by omega) (fun y => absurd y n0) rfl, fun w6 hw6 => sg_X2_readRowOnce_55 hX ha1 (FT w6 nR ?_ (f1.tr (FRd.of hw6.1)))⟩, fun z => ?_⟩
          · have := hw6.2.2.2
            rw [findC, if_neg n0] at this
            rw [e4]
            exact this
          · rw [nofar, nI_leI (by omega) (by omega)] at z
            refine ⟨vp_in_nI (by omega) (by omega), fun u2 e2 => ?_⟩
            rw [e1] at e2
            exact FT u2 nR (by rw [e4]; exact p1.2.1.same (fun k => by rw [e2, hs_o (by omega)])) (f1.set (by unfold chC; omega) e2)
  by_cases t0 : t = 0
  · subst t0
    rw [if_pos rfl]
    exact sg_X2_readRowOnce_0 hX ha1 ⟨fun _ => LP 25 0 rfl _ d h FRd.rf hC (fun _ => hR) _ rfl, fun z => absurd rfl z⟩
  · rw [if_neg t0]
    refine sg_X2_readRowOnce_0 hX ha1 ⟨fun z => absurd z (nI_ne0 (by omega) (by omega)), fun _ => ⟨_, c_X2_find (n := 3) hC (by omega) hq (fun _ => e5) rfl, fun u p => sg_X2_readRowOnce_9 hX ha1 ?_⟩⟩
    exact LP 25 0 rfl (3, q, 0) d u (FRd.of p.1) p.2.2.2 (fun y => absurd y (by show ¬ (3 : Nat) = 0; omega)) _ rfl

set_option maxRecDepth 100000 in
set_option maxHeartbeats 4000000 in
theorem c_X2_readClause {h : AH} {a1 : Nat} (ha1 : oc a1 = some 0) {T : Nat → Nat} {L q : Nat} {d : Nat → Nat} (hT : TXc T L h) (hc : 3 ≤ a1) (hq : q < L) (e2 : h.1 1 2 = 0) (e5 : h.1 1 5 = nI q) (k : KD T L q h) (hR : RCd a1 d h) (hd : WFd d) : CV yX2_readClause cX2_readClause 2 5 122 [.ref 1, .ref a1] h (fun u => FRd a1 8 h u ∧ CR L u (clauseS T L q d).1 ∧ ((clauseS T L q d).1.1 = 0 → RCd a1 (clauseS T L q d).2 u)) := by
  refine CV.of [some (.ref 1), some (.ref a1)] (by decide +kernel) rfl (Nat.le_of_ble_eq_true rfl) rfl (fun Z hX => ?_)
  have hL := hT.1
  have d9 := hd.1
  obtain ⟨bb, hCb⟩ : ∃ b, CR L h (0, 0, b) := by
    obtain ⟨b, h1, h2⟩ := KD_b (by omega) k
    exact ⟨b, e2, Nat.zero_le _, fun z => absurd rfl z, fun _ => ⟨h1, h2⟩⟩
  have ql : q ≤ L := by omega
  -- a word was read
  have WD : ∀ i, i < 6 → isW T L q i = true → CR L h (0, 0, leN T L q) := fun i hi w => by
    obtain ⟨-, -, w3⟩ := isW_lt hi w
    have k6 : h.1 1 6 = nI (leN T L q) := by
      rcases k with ⟨k1, -, -⟩ | ⟨-, -, -, k4⟩ | ⟨-, k2, -, -, -⟩ | ⟨-, k2, -, -, -⟩
      · omega
      · exact k4
      · rw [lt_fg w3] at k2; cases k2
      · rw [w3] at k2; cases k2
    exact ⟨e2, Nat.zero_le _, fun z => absurd rfl z, fun _ => ⟨(le_le ql).2, k6⟩⟩
  have F1 : ∀ n, 1 ≤ n ∧ n ≤ 4 → ∃ PP : AH → Prop, CV yX2_find cX2_find 2 0 0 [.ref 1, .int (nI n)] h PP ∧ ∀ v, PP v → FRc h v ∧ CR L v (n, q, 0) := fun n hn => ⟨_, c_X2_find hCb hn ql (fun _ => e5) rfl, fun v hv => ⟨hv.1, hv.2.2.2⟩⟩
  obtain ⟨P1, f1a, f1b⟩ := F1 1 (by omega)
  obtain ⟨P3, f3a, f3b⟩ := F1 3 (by omega)
  have n1 : ¬ (1 : Nat) = 0 := by omega
  have n3 : ¬ (3 : Nat) = 0 := by omega
  have z0 : (h.1 a1 0 = 0) ↔ d 0 = 0 := by rw [hR.n, k_0, nI_eq (by omega) (by omega)]
  have z1 : (h.1 a1 0 ≤ 0) ↔ d 0 = 0 := by rw [hR.n, k_0, nI_leI (by omega) (by omega)]; omega
  have IW : ∀ i, i < 6 → CI yX2_isWord cX2_isWord 3 (some .boolean) 4 100 [.ref 1, .ref (200 + i)] h (fun r u => r = bI (isW T L q i = true) ∧ u = h) := fun i hi => c_X2_isWord hi hT ql e5 k
  unfold clauseS
  refine sg_X2_readClause_0 hX ha1 ⟨_, IW 0 (show (0 : Nat) < 6 by omega), fun r u hu => ?_⟩
  rw [hu.2]
  refine sg_X2_readClause_6 hX ha1 ⟨fun w0 => ?_, fun w0 => ?_⟩
  case refine_2 =>
    rw [hu.1, bI_n0] at w0
    rw [if_pos w0]
    refine ⟨fun z => ?_, fun z => ?_⟩
    · rw [if_pos (z1.mp z)]
      exact ⟨_, c_X2_readBasin ha1 hT (WD 0 (by omega) w0) hc (fun _ => ⟨hR, by have := z1.mp z; omega⟩), fun v hv => sg_X2_readClause_26 hX hv⟩
    · rw [if_neg (fun y => z (z1.mpr y))]
      refine ⟨P3, f3a, fun v hv => ?_⟩
      obtain ⟨fv, cv⟩ := f3b v hv
      refine sg_X2_readClause_21 hX ha1 ⟨_, c_X2_readBasin (d := d) ha1 (hT.of fv) cv hc (fun y => absurd y n3), fun v2 hv2 => sg_X2_readClause_26 hX ⟨(FRd.of fv).tr hv2.1, hv2.2⟩⟩
  rw [hu.1, bI_0] at w0
  rw [if_neg w0]
  refine ⟨fun z => ?_, fun z => ?_⟩
  case refine_2 =>
    rw [if_pos (z0.mp z)]
    exact ⟨P1, f1a, fun v hv => sg_X2_readClause_41 hX ⟨FRd.of (f1b v hv).1, (f1b v hv).2, fun y => absurd y n1⟩⟩
  have nz : ¬ d 0 = 0 := fun y => z (z0.mpr y)
  rw [if_neg nz]
  refine ⟨_, IW 1 (show (1 : Nat) < 6 by omega), fun r u hu => ?_⟩
  rw [hu.2]
  refine sg_X2_readClause_50 hX ha1 ⟨fun w1 => ?_, fun w1 => ?_⟩
  case refine_2 =>
    rw [hu.1, bI_n0] at w1
    rw [if_pos w1]
    refine ⟨_, c_X2_checkPond ha1 (WD 1 (by omega) w1) hR hd ql e5, fun v hv => sg_X2_readClause_58 hX ha1 ?_⟩
    refine ⟨_, c_X2_readBasin (d := d) ha1 (hT.of hv.1) hv.2 hc (fun y => ⟨hR.fr hv.1 hc, ?_⟩), fun v2 hv2 => sg_X2_readClause_63 hX ⟨(FRd.of hv.1).tr hv2.1, hv2.2⟩⟩
    by_cases g : d 810 = 0
    · rw [if_pos g] at y
      by_cases g2 : d 0 < 9
      · exact g2
      · rw [if_neg g2] at y; exact absurd y n3
    · rw [if_neg g] at y; exact absurd y n1
  rw [hu.1, bI_0] at w1
  rw [if_neg w1]
  refine ⟨_, IW 2 (show (2 : Nat) < 6 by omega), fun r u hu => ?_⟩
  rw [hu.2]
  refine sg_X2_readClause_72 hX ha1 ⟨fun w2 => ?_, fun w2 => ?_⟩
  case refine_2 =>
    rw [hu.1, bI_n0] at w2
    rw [if_pos w2]
    have e8 : h.1 1 8 = nI (d 808) := hR.at (by unfold plc; omega) (lcc_r (k := 8) rfl (by omega))
    refine ⟨_, c_X2_readRowOnce (sh_0_6 ha1) (e := leN T L q) (t := d 808) (q := q) (base := 600) (most := 99) (off := 6) hT (WD 2 (by omega) w2) hc hR ql e5 (Or.inl rfl) rfl rfl rfl (by omega) rfl hd.2.1 e8, fun v hv => sg_X2_readClause_89 hX (fun v2 e => ?_)⟩
    refine ⟨hv.1.set (by unfold chC; omega) e, ?_, fun y => (hv.2.2 y).set hc (by unfold plc; omega) (lcc_r (k := 8) rfl (by omega)) e⟩
    have k1 : ∀ k, k ≠ 8 → v2.1 1 k = v.1 1 k := fun k hk => by rw [e, hs_i hk]
    have := hv.2.1
    unfold CR at this ⊢
    rw [k1 2 (by omega), k1 3 (by omega), k1 5 (by omega), k1 6 (by omega)]
    exact this
  rw [hu.1, bI_0] at w2
  rw [if_neg w2]
  refine ⟨_, IW 3 (show (3 : Nat) < 6 by omega), fun r u hu => ?_⟩
  rw [hu.2]
  refine sg_X2_readClause_103 hX ha1 ⟨fun w3 => ?_, fun w3 => ?_⟩
  case refine_2 =>
    rw [hu.1, bI_n0] at w3
    rw [if_pos w3]
    have e9 : h.1 1 9 = nI (d 809) := hR.at (by unfold plc; omega) (lcc_r (k := 9) rfl (by omega))
    refine ⟨_, c_X2_readRowOnce (sh_0_7 ha1) (e := leN T L q) (t := d 809) (q := q) (base := 700) (most := 999) (off := 7) hT (WD 3 (by omega) w3) hc hR ql e5 (Or.inr rfl) rfl rfl rfl (by omega) rfl hd.2.2.1 e9, fun v hv => sg_X2_readClause_121 hX (fun v2 e => ?_)⟩
    refine ⟨hv.1.set (by unfold chC; omega) e, ?_, fun y => (hv.2.2 y).set hc (by unfold plc; omega) (lcc_r (k := 9) rfl (by omega)) e⟩
    have k1 : ∀ k, k ≠ 9 → v2.1 1 k = v.1 1 k := fun k hk => by rw [e, hs_i hk]
    have := hv.2.1
    unfold CR at this ⊢
    rw [k1 2 (by omega), k1 3 (by omega), k1 5 (by omega), k1 6 (by omega)]
    exact this
  rw [hu.1, bI_0] at w3
  rw [if_neg w3]
  refine ⟨_, IW 4 (show (4 : Nat) < 6 by omega), fun r u hu => ?_⟩
  rw [hu.2]
  refine sg_X2_readClause_135 hX ha1 ⟨fun w4 => ?_, fun w4 => ?_⟩
  · rw [hu.1, bI_0] at w4
    rw [if_neg w4]
    exact ⟨P1, f1a, fun v hv => sg_X2_readClause_151 hX ⟨FRd.of (f1b v hv).1, (f1b v hv).2, fun y => absurd y n1⟩⟩
  · rw [hu.1, bI_n0] at w4
    rw [if_pos w4]
    exact ⟨_, c_X2_readGate ha1 hT (WD 4 (by omega) w4) hc hR hd (by omega), fun v hv => sg_X2_readClause_143 hX hv⟩
