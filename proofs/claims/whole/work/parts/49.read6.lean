def ROd (o : Nat) (d : Nat → Nat) (u : AH) : Prop := u.1 o 0 = nI (d 0) ∧ ∀ k, k < d 0 → u.1 (o + 1) k = nI (d (100 + k)) ∧ u.1 (o + 2) k = nI (d (200 + k)) ∧ u.1 (o + 3) k = nI (d (300 + k))
theorem ROd.fr {o : Nat} {d : Nat → Nat} {h u : AH} (a : ROd o d h) (f : FRc h u) (ho : 3 ≤ o) : ROd o d u := by
  unfold ROd
  rw [f.2.1 o (by omega), f.2.1 (o + 1) (by omega), f.2.1 (o + 2) (by omega), f.2.1 (o + 3) (by omega)]
  exact a

set_option maxRecDepth 100000 in
set_option maxHeartbeats 4000000 in
theorem c_X1_addOrder {h : AH} {a0 : Nat} {a1 : Int32} {a2 : Int32} {a3 : Int32} (ha0 : oc a0 = some 1) {d : Nat → Nat} {x1 x2 x3 : Nat} (hd : ROd a0 d h) (h9 : d 0 < 30) (hc : 3 ≤ a0) (e1 : a1 = nI x1) (e2 : a2 = nI x2) (e3 : a3 = nI x3) : CV yX1_addOrder cX1_addOrder 4 0 0 [.ref a0, .int a1, .int a2, .int a3] h (fun u => FRd a0 4 h u ∧ ROd a0 (dset (dset (dset (dset d (100 + d 0) x1) (200 + d 0) x2) (300 + d 0) x3) 0 (d 0 + 1)) u ∧ ∀ k, u.1 1 k = h.1 1 k) := by
  refine CV.of [some (.ref a0), some (.int a1), some (.int a2), some (.int a3)] (by decide +kernel) rfl (Nat.le_of_ble_eq_true rfl) rfl (fun Z hX => ?_)
  subst e1 e2 e3
  have e0 : h.1 a0 0 = nI (d 0) := hd.1
  refine sg_X1_addOrder_0 hX ha0 ⟨fun z => absurd z (by rw [e0, k_30]; exact nI_ge h9 (by omega)), fun _ => ?_⟩
  rw [e0, nI_clamp (by omega)]
  refine ⟨vp_in_nI (by omega) (by omega), fun u3 g3 => ?_⟩
  have f3 : FRd a0 4 h u3 := FRd.rf.set (by unfold chC; omega) g3
  have t3 : u3.1 a0 0 = nI (d 0) := by rw [g3, hs_o (by omega)]; exact e0
  rw [t3, nI_clamp (by omega)]
  refine ⟨vp_in_nI (by omega) (by omega), fun u5 g5 => ?_⟩
  have f5 := f3.set (by unfold chC; omega) g5
  have t5 : u5.1 a0 0 = nI (d 0) := by rw [g5, hs_o (by omega)]; exact t3
  rw [t5, nI_clamp (by omega)]
  refine ⟨vp_in_nI (by omega) (by omega), fun u7 g7 u8 g8 => ?_⟩
  have f7 := f5.set (by unfold chC; omega) g7
  have t7 : u7.1 a0 0 = nI (d 0) := by rw [g7, hs_o (by omega)]; exact t5
  rw [t7, nI_1] at g8
  have z0 : dset (dset (dset (dset d (100 + d 0) x1) (200 + d 0) x2) (300 + d 0) x3) 0 (d 0 + 1) 0 = d 0 + 1 := ds_eq
  refine ⟨f7.set (by unfold chC; omega) g8, ⟨by rw [z0, g8, hs_s], fun k hk => ?_⟩, fun k => ?_⟩
  · rw [z0] at hk
    by_cases e : k = d 0
    · subst e
      refine ⟨?_, ?_, ?_⟩
      · rw [g8, hs_o (by omega), g7, hs_o (by omega), g5, hs_o (by omega), g3, hs_s, ds_ne (by omega), ds_ne (by omega), ds_ne (by omega), ds_eq]
      · rw [g8, hs_o (by omega), g7, hs_o (by omega), g5, hs_s, ds_ne (by omega), ds_ne (by omega), ds_eq]
      · rw [g8, hs_o (by omega), g7, hs_s, ds_ne (by omega), ds_eq]
    · obtain ⟨q1, q2, q3⟩ := hd.2 k (by omega)
      refine ⟨?_, ?_, ?_⟩
      · rw [g8, hs_o (by omega), g7, hs_o (by omega), g5, hs_o (by omega), g3, hs_i e, ds_ne (by omega), ds_ne (by omega), ds_ne (by omega), ds_ne (by omega)]; exact q1
      · rw [g8, hs_o (by omega), g7, hs_o (by omega), g5, hs_i e, g3, hs_o (by omega), ds_ne (by omega), ds_ne (by omega), ds_ne (by omega), ds_ne (by omega)]; exact q2
      · rw [g8, hs_o (by omega), g7, hs_i e, g5, hs_o (by omega), g3, hs_o (by omega), ds_ne (by omega), ds_ne (by omega), ds_ne (by omega), ds_ne (by omega)]; exact q3
  · rw [g8, hs_o (by omega), g7, hs_o (by omega), g5, hs_o (by omega), g3, hs_o (by omega)]

set_option maxRecDepth 100000 in
set_option maxHeartbeats 4000000 in
theorem c_X2_readOrder {h : AH} {a1 : Nat} {a2 : Int32} {a3 : Int32} (ha1 : oc a1 = some 1) {T : Nat → Nat} {L g : Nat} {c : Cur} {d : Nat → Nat} (hT : TXc T L h) (hC : CR L h c) (hc : 3 ≤ a1) (hg : 1 ≤ g ∧ g ≤ 9) (e2 : a2 = nI g) (hR : c.1 = 0 → ROd a1 d h ∧ d 0 < 30 ∧ a3 = nI (latS d) ∧ latS d ≤ 999) : CI yX2_readOrder cX2_readOrder 7 (some .int) 3 63 [.ref 1, .ref a1, .int a2, .int a3] h (fun r u => FRd a1 4 h u ∧ CR L u (ordR T L g c d).1 ∧ ((ordR T L g c d).1.1 = 0 → ROd a1 (ordR T L g c d).2 u ∧ r = nI (ord1 T L c).2.1)) := by
  refine CI.of [some (.ref 1), some (.ref a1), some (.int a2), some (.int a3), none, none, none] (by decide +kernel) rfl (Nat.le_of_ble_eq_true rfl) rfl (fun Z hX => ?_)
  subst e2
  refine sg_X2_readOrder_0 hX ha1 ⟨_, c_X2_takeNumber (lo := 0) (hi := 999) hT hC (by omega) (by omega) rfl rfl, fun r1 u1 p1 => ?_⟩
  have q1 : CR L u1 (ord1 T L c).1 := p1.2.1
  have GO : ∀ u2 : AH, FRc h u2 → CR L u2 (ordF T L (latS d) c) → ∃ PP : Int32 → AH → Prop, CI yX2_takeNumber cX2_takeNumber 3 (some .int) 2 41 [.ref 1, .int 0, .int (nI g - 1)] u2 PP ∧ ∀ (r : Int32) (u : AH), PP r u → EX Z 7 (QI Z (fun r u => FRd a1 4 h u ∧ CR L u (ordR T L g c d).1 ∧ ((ordR T L g c d).1.1 = 0 → ROd a1 (ordR T L g c d).2 u ∧ r = nI (ord1 T L c).2.1))) 29 u [some (.ref 1), some (.ref a1), none, none, some (.int r1), none, none] (.int r :: []) := by
    intro u2 f2 c2
    rw [k_1, pk_sub hg.1]
    refine ⟨_, c_X2_takeNumber (lo := 0) (hi := g - 1) (hT.of f2) c2 (by omega) (by omega) rfl rfl, fun r3 u3 p3 => ?_⟩
    have f3 := f2.tr p3.1
    refine sg_X2_readOrder_29 hX ha1 ⟨_, c_X2_takeNumber (lo := 0) (hi := 9) (hT.of f3) p3.2.1 (by omega) (by omega) rfl rfl, fun r4 u4 p4 => ?_⟩
    have f4 := f3.tr p4.1
    refine sg_X2_readOrder_38 hX ha1 ⟨_, c_X2_takeSign (ch := 59) (hT.of f4) p4.2.1 (Or.inl rfl) rfl, fun u5 p5 => ?_⟩
    have f5 := f4.tr p5.1
    have c5 : CR L u5 (ord4 T L g (latS d) c) := p5.2
    refine sg_X2_readOrder_46 hX ha1 ⟨fun z => ?_, fun z => ?_⟩
    · have n0 : ¬ (ord4 T L g (latS d) c).1 = 0 := fun y => z ((CR_f c5).mpr y)
      exact ⟨FRd.of f5, c5, fun y => absurd y n0⟩
    · have n0 := (CR_f c5).mp z
      obtain ⟨b0, -, -, -, -, -, b1, b2, b3⟩ := ord_ok hC.pos n0
      obtain ⟨R, h9, -⟩ := hR b0
      refine ⟨_, c_X1_addOrder ha1 (R.fr f5 hc) h9 hc (p1.2.2 b1).1 (p3.2.2 b2).1 (p4.2.2 b3).1, fun u6 p6 => sg_X2_readOrder_63 hX ⟨(FRd.of f5).tr p6.1, c5.same p6.2.2, fun _ => ⟨?_, (p1.2.2 b1).1⟩⟩⟩
      show ROd a1 (if (ord4 T L g (latS d) c).1 = 0 then ordD T L g (latS d) c d else d) u6
      rw [if_pos n0]
      exact p6.2.1
  by_cases g1 : (ord1 T L c).1.1 = 0
  · obtain ⟨b0, b1, -⟩ := num_ok hC.pos g1
    have b1 : (ord1 T L c).2.1 ≤ 999 := b1.2
    obtain ⟨-, -, e3, l3⟩ := hR b0
    obtain ⟨er1, es1, ls1⟩ := p1.2.2 g1
    have er1 : r1 = nI (ord1 T L c).2.1 := er1
    have es1 : u1.1 1 5 = nI (ord1 T L c).2.2 := es1
    have ls1 : (ord1 T L c).2.2 ≤ L := ls1
    have cmp : (a3 ≤ r1) ↔ ¬ (ord1 T L c).2.1 < latS d := by rw [e3, er1, nI_leI (by omega) (by omega)]; omega
    refine sg_X2_readOrder_8 hX ha1 ⟨fun z => GO u1 p1.1 ?_, fun z => ⟨_, c_X2_find (n := 4) q1 (by omega) ls1 (fun _ => es1) rfl, fun u2 p2 => sg_X2_readOrder_21 hX ha1 (GO u2 (p1.1.tr p2.1) ?_)⟩⟩
    · rw [ordF, if_neg (cmp.mp z)]
      exact q1
    · rw [ordF, if_pos (Decidable.not_not.mp (fun y => z (cmp.mpr y)))]
      exact p2.2.2.2
  · have eF : ordF T L (latS d) c = (ord1 T L c).1 := by
      rw [ordF, findC, if_neg g1]
      split <;> rfl
    refine sg_X2_readOrder_8 hX ha1 ⟨fun z => GO u1 p1.1 (by rw [eF]; exact q1), fun z => ⟨_, c_X2_find (n := 4) (q := 0) q1 (by omega) (by omega) (fun w => absurd w g1) rfl, fun u2 p2 => sg_X2_readOrder_21 hX ha1 (GO u2 (p1.1.tr p2.1) ?_)⟩⟩
    have := p2.2.2.2
    rw [findC, if_neg g1] at this
    rw [eF]
    exact this

def ROo (L g a1 : Nat) (R : Cur × (Nat → Nat)) (h u : AH) : Prop := u.2 = h.2 ∧ (∀ i k, i ≠ 1 → (i < a1 ∨ a1 + 4 ≤ i) → u.1 i k = h.1 i k) ∧ u.1 1 1 = 0 ∧ u.1 1 2 = nI R.1.1 ∧ R.1.1 ≤ 4 ∧ (¬ R.1.1 = 0 → u.1 1 3 = nI R.1.2.1 ∧ R.1.2.1 ≤ L) ∧ (R.1.1 = 0 → ROd a1 R.2 u ∧ WFo g R.2)
theorem lat_le {g : Nat} {d : Nat → Nat} (h : WFo g d) : latS d ≤ 999 := by
  unfold latS
  by_cases c : d 0 = 0
  · rw [if_pos c]; omega
  · rw [if_neg c, show 100 + d 0 - 1 = 100 + (d 0 - 1) by omega]
    exact (h.2 _ (by omega)).1

set_option maxRecDepth 100000 in
set_option maxHeartbeats 4000000 in
theorem c_X2_readOrders {h : AH} {a1 : Nat} {a2 : Int32} (ha1 : oc a1 = some 1) {T : Nat → Nat} {L g : Nat} (hT : TXc T L h) (hc : 3 ≤ a1) (hg : 1 ≤ g ∧ g ≤ 9) (e2 : a2 = nI g) : CV yX2_readOrders cX2_readOrders 5 5 122 [.ref 1, .ref a1, .int a2] h (ROo L g a1 (plansS T L g 31 (0, 0, 0) (fun _ => 0)) h) := by
  refine CV.of [some (.ref 1), some (.ref a1), some (.int a2), none, none] (by decide +kernel) rfl (Nat.le_of_ble_eq_true rfl) rfl (fun Z hX => ?_)
  subst e2
  have hL := hT.1
  generalize hR : plansS T L g 31 (0, 0, 0) (fun _ => 0) = R
  have n1 : ¬ (1 : Nat) = 0 := by omega
  have n3 : ¬ (3 : Nat) = 0 := by omega
  -- the end
  have TL : ∀ u : AH, FRd a1 4 h u → u.1 1 2 = nI R.1.1 → R.1.1 ≤ 4 → (¬ R.1.1 = 0 → u.1 1 3 = nI R.1.2.1 ∧ R.1.2.1 ≤ L) → (R.1.1 = 0 → ROd a1 R.2 u ∧ WFo g R.2) → (∀ u3 : AH, u3 = (hset u.1 1 1 0, u.2) → ROo L g a1 R h u3) := by
    intro u f e1 e2 e3 e4 u3 g3
    refine ⟨by rw [g3]; exact f.1, fun i k h1 h2 => by rw [g3, hs_o h1]; exact f.2 i k (by unfold chC; omega), by rw [g3, hs_s], by rw [g3, hs_i (by omega)]; exact e1, e2, fun y => by rw [g3, hs_i (by omega)]; exact e3 y, fun y => ⟨?_, (e4 y).2⟩⟩
    have := (e4 y).1
    unfold ROd at this ⊢
    rw [g3, hs_o (by omega), hs_o (by omega), hs_o (by omega), hs_o (by omega)]
    exact this
  have LP : ∀ m i, i + m = 31 → ∀ (c : Cur) (d : Nat → Nat) (u : AH) (x3 : Int32), FRd a1 4 h u → CR L u c → (c.1 = 0 → ROd a1 d u ∧ WFo g d ∧ d 0 = i ∧ x3 = nI (latS d)) → plansS T L g m c d = R → EX Z 5 (QV Z (ROo L g a1 R h)) 14 u [some (.ref 1), some (.ref a1), some (.int (nI g)), some (.int x3), some (.int (nI i))] [] := by
    intro m
    induction m with
    | zero =>
      intro i hi c d u x3 f cu r eR
      have eR : (c, d) = R := eR
      refine sg_X2_readOrders_14 hX ha1 ⟨fun _ => TL u f ?_ ?_ ?_ ?_, fun z => absurd (by rw [k_30]; exact nI_lt (by omega) (by omega)) z⟩ <;> rw [← eR]
      · exact cu.1
      · exact cu.2.1
      · exact fun y => ⟨(cu.2.2.1 y).2.1, (cu.2.2.1 y).1⟩
      · exact fun y => ⟨(r y).1, (r y).2.1⟩
    | succ m ih =>
      intro i hi c d u x3 f cu r eR
      refine sg_X2_readOrders_14 hX ha1 ⟨fun z => absurd z (by rw [k_30]; exact nI_nlt (by omega) (by omega)), fun _ => ⟨fun z => ?_, fun z => ?_⟩⟩
      · have c0 : ¬ c.1 = 0 := fun y => z ((CR_f cu).mpr y)
        rw [plansS, if_neg (fun y => c0 y.1)] at eR
        refine TL u f ?_ ?_ ?_ ?_ <;> rw [← eR]
        · exact cu.1
        · exact cu.2.1
        · exact fun y => ⟨(cu.2.2.1 y).2.1, (cu.2.2.1 y).1⟩
        · exact fun y => ⟨(r y).1, (r y).2.1⟩
      · have c0 := (CR_f cu).mp z
        obtain ⟨rd, wd, di, ex⟩ := r c0
        have tu := hT.fd f hc
        refine ⟨_, c_X2_step tu cu, fun u1 p1 => ?_⟩
        obtain ⟨g1, g2, g3, g4⟩ := p1.2 c0
        have f1 : FRd a1 4 h u1 := f.tr (FRd.of g1)
        have t1 := hT.fd f1 hc
        have hq := (sp_le (T := T) (cu.pos c0)).2
        have z2 : u1.1 1 2 = 0 := by rw [g2]; exact z
        have rd1 := rd.fr g1 hc
        obtain ⟨bb, hCb⟩ := KD_CR cu c0 hq g2 g4
        rw [plansS] at eR
        generalize spN T L c.2.2 = q at *
        refine sg_X2_readOrders_32 hX ha1 ⟨fun y => ?_, fun y => ?_⟩
        · rw [KD_0 hq g4, Decidable.not_not] at y
          rw [if_pos ⟨c0, y⟩] at eR
          -- the order itself
          have OR : ∀ u2 : AH, FRc u1 u2 → CR L u2 (ord0 T L q d) → ∃ PP : Int32 → AH → Prop, CI yX2_readOrder cX2_readOrder 7 (some .int) 3 63 [.ref 1, .ref a1, .int (nI g), .int x3] u2 PP ∧ ∀ (r : Int32) (u : AH), PP r u → EX Z 5 (QV Z (ROo L g a1 R h)) 75 u [some (.ref 1), some (.ref a1), some (.int (nI g)), none, some (.int (nI i))] (.int r :: []) := by
            intro u2 f2 c2
            have ok0 : (ord0 T L q d).1 = 0 → d 0 < 30 := by
              intro x
              unfold ord0 at x
              by_cases w : isW T L q 5 = true
              · rw [if_pos w] at x
                by_cases n : d 0 = 30
                · rw [if_pos n] at x; exact absurd x n3
                · have := wd.1; omega
              · rw [if_neg w] at x; exact absurd x n1
            refine ⟨_, c_X2_readOrder ha1 (t1.of f2) c2 hc hg rfl (fun x => ⟨rd1.fr f2 hc, ok0 x, ex, lat_le wd⟩), fun r3 u3 p3 => sg_X2_readOrders_75 hX ha1 ?_⟩
            rw [nI_1]
            refine ih (i + 1) (by omega) _ _ u3 r3 ((f1.tr (FRd.of f2)).tr p3.1) p3.2.1 (fun x => ?_) eR
            obtain ⟨o1, o2, -, -, o5, o6, o7⟩ := order_ok hq hg.1 wd x
            have oe : ord0 T L q d = (0, 0, leN T L q) := by rw [ord0, if_pos o1, if_neg (by omega)]
            refine ⟨(p3.2.2 x).1, o5, by rw [o6, di], ?_⟩
            rw [(p3.2.2 x).2, o7, oe]
          refine ⟨_, c_X2_isWord (a1 := 5) (show (5 : Nat) < 6 by omega) t1 hq g3 g4, fun r2 v hv => ?_⟩
          rw [hv.2]
          have e30 : (nI i = 30) ↔ d 0 = 30 := by rw [k_30, nI_eq (by omega) (by omega)]; omega
          refine sg_X2_readOrders_48 hX ha1 ⟨fun w => ⟨fun x => OR u1 FRc.rf ?_, fun x => ⟨_, c_X2_find (n := 3) hCb (by omega) hq (fun _ => g3) rfl, fun u2 p2 => sg_X2_readOrders_68 hX ha1 (OR u2 p2.1 ?_)⟩⟩, fun w => ⟨_, c_X2_find (n := 1) hCb (by omega) hq (fun _ => g3) rfl, fun u2 p2 => ?_⟩⟩
          · rw [hv.1, bI_n0] at w
            obtain ⟨-, -, w3⟩ := isW_lt (by decide) w
            rw [ord0, if_pos w, if_neg (fun y => x (e30.mpr y))]
            have k6 : u1.1 1 6 = nI (leN T L q) := by
              rcases g4 with ⟨k1, -, -⟩ | ⟨-, -, -, k4⟩ | ⟨-, k2, -, -, -⟩ | ⟨-, k2, -, -, -⟩
              · omega
              · exact k4
              · rw [lt_fg w3] at k2; cases k2
              · rw [w3] at k2; cases k2
            exact ⟨z2, Nat.zero_le _, fun z => absurd rfl z, fun _ => ⟨(le_le hq).2, k6⟩⟩
          · rw [hv.1, bI_n0] at w
            rw [ord0, if_pos w, if_pos (e30.mp x)]
            exact p2.2.2.2
          · rw [hv.1, bI_0] at w
            have e0 : ord0 T L q d = (1, q, 0) := by rw [ord0, if_neg w]
            have c2 : CR L u2 (1, q, 0) := p2.2.2.2
            refine sg_X2_readOrders_56 hX ha1 ⟨fun x => OR u2 p2.1 (by rw [e0]; exact c2), fun x => ⟨_, c_X2_find (n := 3) (q := 0) c2 (by omega) (by omega) (fun y => absurd y n1) rfl, fun u3 p3 => sg_X2_readOrders_68 hX ha1 (OR u3 (p2.1.tr p3.1) ?_)⟩⟩
            have := p3.2.2.2
            rw [findC, if_neg n1] at this
            rw [e0]
            exact this
        · rw [KD_0 hq g4] at y
          rw [if_neg (fun x => y x.2)] at eR
          refine TL u1 f1 ?_ ?_ ?_ ?_ <;> rw [← eR]
          · rw [z2]; show _ = nI c.1; rw [c0]; rfl
          · exact cu.2.1
          · exact fun x => absurd c0 x
          · exact fun _ => ⟨rd1, wd⟩
  refine sg_X2_readOrders_0 hX ha1 ⟨_, c_X2_begin (cc := a1) (w := 4) (L := L), fun u1 p1 => sg_X2_readOrders_4 hX ha1 (fun u2 e2 => ?_)⟩
  have f2 := p1.1.set (by unfold chC; omega) e2
  have o : ∀ k, u2.1 1 k = u1.1 1 k := fun k => by rw [e2, hs_o (by omega)]
  exact LP 31 0 rfl (0, 0, 0) (fun _ => 0) u2 0 f2 (p1.2.1.same o) (fun _ => ⟨⟨by rw [e2, hs_s]; rfl, fun k hk => absurd hk (Nat.not_lt_zero k)⟩, ⟨Nat.zero_le _, fun k hk => absurd hk (Nat.not_lt_zero k)⟩, rfl, rfl⟩) hR
