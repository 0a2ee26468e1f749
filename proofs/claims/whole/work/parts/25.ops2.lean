theorem m0_at {f : Nat → SG} {k : Nat} (hr : rel (ms f 0 51).toNatClampNeg k) : f 95 k = mk (ms f 0) k := by
  have := mk_at (f := f) (ρ := 0) (k := k) hr
  rw [Nat.zero_add] at this
  exact this
theorem gt3 {x : Int32} {m : Nat} (hm : m ≤ 10) : (0 ≤ Int32.toInt64 x ∧ Int32.toInt64 x ≤ Int32.toInt64 (nI m - 2)) ↔ ∃ k, k + 1 < m ∧ x = nI k := by
  rw [← gt2 hm, ← fa_wide_le, ← fa_wide_le]
  exact Iff.rfl

set_option maxRecDepth 100000 in
set_option maxHeartbeats 4000000 in
theorem c_X6_pour {h : AH} {a1 : Int32} {a2 : Int32}  {n : Nat} (hn : n ≤ 10) (en : h.1 (h.2 1) 0 = nI n) : CI yX6_pour cX6_pour 4 (some .int) 1 21 [.ref 0, .int a1, .int a2] h (fun r u => (¬ (∃ k, k + 1 < n ∧ a1 = nI k) → r = -100000001 ∧ u = h) ∧ ((∃ k, k + 1 < n ∧ a1 = nI k) → (¬ (¬ a2 < 0 ∧ a2 ≤ 9999) → r = -100000002 ∧ u = h) ∧ ((¬ a2 < 0 ∧ a2 ≤ 9999) → r = h.1 28 a1.toNatClampNeg ∧ u = (hset h.1 (27 + 1) a1.toNatClampNeg a2, h.2)))) := by
  refine CI.of [some (.ref 0), some (.int a1), some (.int a2), none] (by decide +kernel) rfl (Nat.le_of_ble_eq_true rfl) rfl (fun Z hX => ?_)
  refine sg_X6_pour_0 hX ⟨fun c => ?_, fun c => ⟨fun c0 => ?_, fun c0 => ?_⟩⟩
  · rw [en, nd1 hn] at c
    have c' : ¬ ∃ k, k + 1 < n ∧ a1 = nI k := fun ⟨k, h1, h2⟩ => c ⟨k, by omega, h2⟩
    exact ⟨fun _ => ⟨rfl, rfl⟩, fun z => absurd z c'⟩
  · rw [en, nd1 hn] at c
    obtain ⟨k, hk, rfl⟩ := c
    have hk1 : k + 1 < n := by
      rcases Nat.lt_or_ge (k + 1) n with z | z
      · exact z
      · exact absurd (by rw [en, k_1, pk_sub (by omega), show n - 1 = k by omega]) c0
    have b : vp_in (nI k) 10 := vp_in_nI (by omega) (by omega)
    have ce : ∃ j, j + 1 < n ∧ nI k = nI j := ⟨k, hk1, rfl⟩
    refine ⟨fun c1 => ⟨fun z => absurd ce z, fun _ => ⟨fun _ => ⟨rfl, rfl⟩, fun z => absurd c1 z.1⟩⟩, fun c1 => ⟨fun c2 => ⟨b, b, fun u7 e7 => ⟨fun z => absurd ce z, fun _ => ⟨fun z => absurd ⟨c1, c2⟩ z, fun _ => ⟨rfl, e7⟩⟩⟩⟩, fun c2 => ⟨fun z => absurd ce z, fun _ => ⟨fun _ => ⟨rfl, rfl⟩, fun z => absurd z.2 c2⟩⟩⟩⟩
  · have c' : ¬ ∃ k, k + 1 < n ∧ a1 = nI k := fun ⟨k, h1, h2⟩ => by
      rw [en, k_1, pk_sub (by omega), h2, nI_eq (by omega) (by omega)] at c0
      omega
    exact ⟨fun _ => ⟨rfl, rfl⟩, fun z => absurd z c'⟩

set_option maxRecDepth 100000 in
set_option maxHeartbeats 4000000 in
theorem c_X7_pour {h : AH} {a1 : Int32} {a2 : Int32}  {n : Nat} (hn : n ≤ 10) (en : h.1 94 9 = nI n) : CI yX7_pour cX7_pour 4 (some .int) 1 25 [.ref 94, .int a1, .int a2] h (fun r u => (¬ (∃ k, k + 1 < n ∧ a1 = nI k) → r = -100000001 ∧ u = h) ∧ ((∃ k, k + 1 < n ∧ a1 = nI k) → (¬ (0 ≤ Int32.toInt64 a2 ∧ Int32.toInt64 a2 ≤ 9999) → r = -100000002 ∧ u = h) ∧ ((0 ≤ Int32.toInt64 a2 ∧ Int32.toInt64 a2 ≤ 9999) → r = h.1 95 a1.toNatClampNeg ∧ u = (hset h.1 95 a1.toNatClampNeg a2, h.2)))) := by
  refine CI.of [some (.ref 94), some (.int a1), some (.int a2), none] (by decide +kernel) rfl (Nat.le_of_ble_eq_true rfl) rfl (fun Z hX => ?_)
  refine sg_X7_pour_0 hX ⟨fun c => ?_, fun c => ?_⟩
  · rw [en, gt3 hn] at c
    have b : vp_in a1 800 := by
      obtain ⟨k, hk, rfl⟩ := c
      exact vp_in_nI (by omega) (by omega)
    refine ⟨fun c1 => ⟨b, b, fun u5 e5 => ⟨fun z => absurd c z, fun _ => ⟨fun z => absurd c1 z, fun _ => ⟨rfl, e5⟩⟩⟩⟩, fun c1 => ⟨fun z => absurd c z, fun _ => ⟨fun _ => ⟨rfl, rfl⟩, fun z => absurd z c1⟩⟩⟩
  · rw [en, gt3 hn] at c
    exact ⟨fun _ => ⟨rfl, rfl⟩, fun z => absurd z c⟩

theorem op_pour {N : Nat} {h : AH} {k w : Int32} (hI : INV N h) : OPP yX6_pour cX6_pour 4 1 21 yX7_pour cX7_pour 4 1 25 [.int k, .int w] N h := by
  obtain ⟨n, hn, e1, e2, hP⟩ := hI.2.1.2.1
  refine ⟨_, c_X6_pour hn e1, fun r u hp => ?_⟩
  have e94 : u.1 94 = h.1 94 := by
    by_cases c : ∃ j, j + 1 < n ∧ k = nI j
    · by_cases d : ¬ w < 0 ∧ w ≤ 9999
      · rw [((hp.2 c).2 d).2]; exact hs_o (by decide)
      · rw [((hp.2 c).1 d).2]
    · rw [(hp.1 c).2]
  refine ⟨_, c_X7_pour (h := u) hn (by rw [e94]; exact e2), fun r2 u2 hq => ?_⟩
  have ww : (¬ w < 0 ∧ w ≤ 9999) ↔ (0 ≤ Int32.toInt64 w ∧ Int32.toInt64 w ≤ 9999) := (rngI (m := 9999) rfl (by decide)).trans (rngL (m := 9999) rfl (by decide)).symm
  by_cases c : ∃ j, j + 1 < n ∧ k = nI j
  · have p1 := hp.2 c
    have q1 := hq.2 c
    by_cases d : ¬ w < 0 ∧ w ≤ 9999
    · obtain ⟨f1, f2⟩ := p1.2 d
      obtain ⟨g1, g2⟩ := q1.2 (ww.mp d)
      obtain ⟨j, hj, rfl⟩ := c
      rw [nI_clamp (by omega)] at f1 f2 g1 g2
      have r0 : ∀ c, rel c j := fun c => by unfold rel; omega
      have k95 : u.1 95 = h.1 95 := by rw [f2]; exact hs_o (by decide)
      refine ⟨?_, ?_⟩
      · rw [g1, f1, k95, m0_at (f := h.1) (r0 _), ← hI.2.2.1.1, ← mkc_at (f := h.1) (s := 27) (loc_w j (by omega)) (r0 _)]
      · refine INV_put hI (loc_w j (by omega)) r0 (by omega) (by omega) f2 g2 ?_
        obtain ⟨⟨s1, s2, s3, s4, s5⟩, s6⟩ := hI.2.2.1.2.2
        have en := pn_M e2 hn
        obtain ⟨v, hv, rfl⟩ := (rngI (m := 9999) rfl (by decide)).mp d
        have o : ∀ i, i ≠ j → upd (mk (ms h.1 0)) j (nI v) i = mk (ms h.1 0) i := fun i hi => upd_ne hi
        have hj0 := s1 j (by rw [en]; omega)
        refine ⟨⟨fun i hi => ?_, ?_, ?_, ?_, fun i hi => by rw [o _ (by omega)]; exact s5 i hi⟩, by rw [o _ (by omega)]; exact s6.1, by rw [o 52 (by omega)]; exact s6.2⟩
        · by_cases hij : i = j
          · subst hij; rw [upd_eq, nI_toInt (by omega)]; omega
          · rw [o i hij]; exact s1 i hi
        · rw [sumW_upd, if_pos (by rw [en]; omega), nI_toInt (by omega)]; omega
        · obtain ⟨t, t1, t2⟩ := s3
          exact ⟨t, by omega, by rw [o 50 (by omega)]; exact t2⟩
        · obtain ⟨cc, c1, c2, c3⟩ := s4
          exact ⟨cc, c1, by rw [o 51 (by omega)]; exact c2, fun l hl => by rw [o _ (by omega), o _ (by omega)]; exact c3 l hl⟩
    · obtain ⟨f1, f2⟩ := p1.1 d
      obtain ⟨g1, g2⟩ := q1.1 (fun z => d (ww.mpr z))
      exact ⟨by rw [g1, f1], by rw [g2, f2]; exact INV_mono hI (by omega)⟩
  · obtain ⟨f1, f2⟩ := hp.1 c
    obtain ⟨g1, g2⟩ := hq.1 c
    exact ⟨by rw [g1, f1], by rw [g2, f2]; exact INV_mono hI (by omega)⟩

set_option maxRecDepth 100000 in
set_option maxHeartbeats 4000000 in
theorem c_X6_seed {h : AH} {a1 : Int32}   : CI yX6_seed cX6_seed 3 (some .int) 0 0 [.ref 0, .int a1] h (fun r u => (¬ 0 ≤ a1 → r = -100000002 ∧ u = h) ∧ (0 ≤ a1 → r = h.1 27 1 ∧ u = (hset h.1 (27 + 0) 1 a1, h.2))) := by
  refine CI.of [some (.ref 0), some (.int a1), none] (by decide +kernel) rfl (Nat.le_of_ble_eq_true rfl) rfl (fun Z hX => ?_)
  exact sg_X6_seed_0 hX ⟨fun c u2 e2 => ⟨fun z => absurd c z, fun _ => ⟨rfl, e2⟩⟩, fun c => ⟨fun _ => ⟨rfl, rfl⟩, fun z => absurd z c⟩⟩

set_option maxRecDepth 100000 in
set_option maxHeartbeats 4000000 in
theorem c_X7_seed {h : AH} {a1 : Int32}   : CI yX7_seed cX7_seed 3 (some .int) 0 0 [.ref 94, .int a1] h (fun r u => (¬ 0 ≤ a1 → r = -100000002 ∧ u = h) ∧ (0 ≤ a1 → r = h.1 95 52 ∧ u = (hset h.1 95 52 a1, h.2))) := by
  refine CI.of [some (.ref 94), some (.int a1), none] (by decide +kernel) rfl (Nat.le_of_ble_eq_true rfl) rfl (fun Z hX => ?_)
  exact sg_X7_seed_0 hX ⟨fun c u2 e2 => ⟨fun z => absurd c z, fun _ => ⟨rfl, e2⟩⟩, fun c => ⟨fun _ => ⟨rfl, rfl⟩, fun z => absurd z c⟩⟩

theorem op_seed {N : Nat} {h : AH} {v : Int32} (hI : INV N h) : OPP yX6_seed cX6_seed 3 0 0 yX7_seed cX7_seed 3 0 0 [.int v] N h := by
  refine ⟨_, c_X6_seed, fun r u hp => ⟨_, c_X7_seed, fun r2 u2 hq => ?_⟩⟩
  by_cases c : 0 ≤ v
  · obtain ⟨f1, f2⟩ := hp.2 c
    obtain ⟨g1, g2⟩ := hq.2 c
    have r52 : ∀ c, rel c 52 := fun c => by unfold rel; omega
    have k95 : u.1 95 = h.1 95 := by rw [f2]; exact hs_o (by decide)
    refine ⟨?_, ?_⟩
    · rw [g1, f1, k95, m0_at (f := h.1) (r52 _), ← hI.2.2.1.1]
      exact (mkc_at (f := h.1) (s := 27) (a := 0) (b := 1) (by decide) (r52 _)).symm
    · refine INV_put hI (a := 0) (b := 1) (by decide) r52 (by omega) (by omega) f2 g2 ?_
      obtain ⟨⟨s1, s2, s3, s4, s5⟩, s6⟩ := SV_mono (M := N + 1) hI.2.2.1.2.2 (by omega)
      obtain ⟨n, hn, e1, e2, hP⟩ := hI.2.1.2.1
      have en := pn_M e2 hn
      have o : ∀ i, i ≠ 52 → upd (mk (ms h.1 0)) 52 v i = mk (ms h.1 0) i := fun i hi => upd_ne hi
      refine ⟨⟨fun i hi => by rw [o i (by omega)]; exact s1 i hi, ?_, by rw [o 50 (by omega)]; exact s3, ?_, fun i hi => by rw [o _ (by omega)]; exact s5 i hi⟩, by rw [o _ (by omega)]; exact s6.1, by rw [upd_eq]; rw [Int32.le_iff_toInt_le] at c; exact c⟩
      · rw [sumW_congr (fun i hi => o i (by omega))]; exact s2
      · obtain ⟨cc, c1, c2, c3⟩ := s4
        exact ⟨cc, c1, by rw [o 51 (by omega)]; exact c2, fun l hl => by rw [o _ (by omega), o _ (by omega)]; exact c3 l hl⟩
  · obtain ⟨f1, f2⟩ := hp.1 c
    obtain ⟨g1, g2⟩ := hq.1 c
    exact ⟨by rw [g1, f1], by rw [g2, f2]; exact INV_mono hI (by omega)⟩

set_option maxRecDepth 100000 in
set_option maxHeartbeats 4000000 in
theorem sg_X6_tear_0 {Z : CX × GX} {post : Int32 → AH → Prop} {h : AH}  (hX : OK Z RX6 cX6_tear 2 (some .int) 0 0) 
    (w : (∀ u1 : AH, u1 = (hset h.1 0 12 0, h.2) → post (h.1 0 12) u1))
    : EX Z 2 (QI Z post) 0 h [some (.ref 0), none] [] := by
  refine ex_aload_n hX dX6_tear_0 rfl rfl ?_
  refine ex_get hX (.int (h.1 0 12)) FL_6_97 rfl (fun _ => rfl) dX6_tear_1 ?_
  refine ex_istore_n (lv' := [some (.ref 0), some (.int (h.1 0 12))]) hX dX6_tear_4 rfl (by decide) rfl ?_
  refine ex_aload_n hX dX6_tear_5 rfl rfl ?_
  refine ex_iconst (v := 0) hX dX6_tear_6 rfl ?_
  refine ex_put hX .int FL_6_97 tyX6 tyX6_ok nmX6 rfl rfl rfl rfl rfl (fun _ => (by decide : 12 < 14)) (fun _ => fs_6_12) dX6_tear_7 ?_
  refine ex_nameH (fun u1 eu1 => ?_)
  replace w := w u1 eu1
  refine ex_iload_n hX dX6_tear_10 rfl rfl ?_
  exact ex_iret hX dX6_tear_11 rfl w

set_option maxRecDepth 100000 in
set_option maxHeartbeats 4000000 in
theorem sg_X7_tear_0 {Z : CX × GX} {post : Int32 → AH → Prop} {h : AH}  (hX : OK Z RX7 cX7_tear 2 (some .int) 0 0) 
    (w : (∀ u1 : AH, u1 = (hset h.1 94 32 0, h.2) → post (h.1 94 32) u1))
    : EX Z 2 (QI Z post) 0 h [some (.ref 94), none] [] := by
  refine ex_aload_n hX dX7_tear_0 rfl rfl ?_
  refine ex_get hX (.int (h.1 94 32)) FL_7_167 rfl (fun _ => rfl) dX7_tear_1 ?_
  refine ex_istore_n (lv' := [some (.ref 94), some (.int (h.1 94 32))]) hX dX7_tear_4 rfl (by decide) rfl ?_
  refine ex_aload_n hX dX7_tear_5 rfl rfl ?_
  refine ex_iconst (v := 0) hX dX7_tear_6 rfl ?_
  refine ex_put hX .int FL_7_167 tyX7 tyX7_ok nmX7 rfl rfl rfl rfl rfl (fun _ => (by decide : 32 < 33)) (fun _ => fs_7_32) dX7_tear_7 ?_
  refine ex_nameH (fun u1 eu1 => ?_)
  replace w := w u1 eu1
  refine ex_iload_n hX dX7_tear_10 rfl rfl ?_
  exact ex_iret hX dX7_tear_11 rfl w

set_option maxRecDepth 100000 in
set_option maxHeartbeats 4000000 in
theorem sg_X6_write_0 {Z : CX × GX} {post : Int32 → AH → Prop} {h : AH} {x1 : Int32} (hX : OK Z RX6 cX6_write 2 (some .int) 0 0) 
    (w : ((x1 < 0 → post (-100000002) h) ∧ (¬ x1 < 0 → ((x1 ≤ 99999 → (((h.1 0 12) < 60 → (vp_in (h.1 0 12) 60) ∧ (∀ u5 : AH, u5 = (hset h.1 93 (Int32.toNatClampNeg (h.1 0 12)) x1, h.2) → (∀ u6 : AH, u6 = (hset u5.1 0 12 ((u5.1 0 12) + 1), u5.2) → post (u6.1 0 12) u6))) ∧ (¬ (h.1 0 12) < 60 → post (-100000004) h))) ∧ (¬ x1 ≤ 99999 → post (-100000002) h)))))
    : EX Z 2 (QI Z post) 0 h [some (.ref 0), some (.int x1)] [] := by
  refine ex_iload_n hX dX6_write_0 rfl rfl ?_
  refine ex_iflt hX 10 dX6_write_1 (by decide) (fun c1 => ?_) (fun c1 => ?_)
  · replace w := w.1 c1
    refine ex_ldc hX dX6_write_10 KC_6_72 ?_
    exact ex_iret hX dX6_write_12 rfl w
  · replace w := w.2 c1
    refine ex_iload_n hX dX6_write_4 rfl rfl ?_
    refine ex_ldc hX dX6_write_5 KC_6_226 ?_
    refine ex_icmple hX 13 dX6_write_7 (by decide) (fun c2 => ?_) (fun c2 => ?_)
    · replace w := w.1 c2
      refine ex_aload_n hX dX6_write_13 rfl rfl ?_
      refine ex_get hX (.int (h.1 0 12)) FL_6_97 rfl (fun _ => rfl) dX6_write_14 ?_
      refine ex_bipush (v := 60) hX dX6_write_17 rfl ?_
      refine ex_icmplt hX 25 dX6_write_19 (by decide) (fun c3 => ?_) (fun c3 => ?_)
      · replace w := w.1 c3
        refine ex_aload_n hX dX6_write_25 rfl rfl ?_
        refine ex_get hX (.ref 93) FL_6_65 rfl (fun _ => rfl) dX6_write_26 ?_
        refine ex_aload_n hX dX6_write_29 rfl rfl ?_
        refine ex_get hX (.int (h.1 0 12)) FL_6_97 rfl (fun _ => rfl) dX6_write_30 ?_
        refine ex_iload_n hX dX6_write_33 rfl rfl ?_
        obtain ⟨q4, w⟩ := w
        refine ex_iast hX rfl q4 dX6_write_34 ?_
        refine ex_nameH (fun u5 eu5 => ?_)
        replace w := w u5 eu5
        refine ex_aload_n hX dX6_write_35 rfl rfl ?_
        refine ex_dup hX dX6_write_36 rfl ?_
        refine ex_get hX (.int (u5.1 0 12)) FL_6_97 rfl (fun _ => rfl) dX6_write_37 ?_
        refine ex_iconst (v := 1) hX dX6_write_40 rfl ?_
        refine ex_iadd hX dX6_write_41 ?_
        refine ex_put hX .int FL_6_97 tyX6 tyX6_ok nmX6 rfl rfl rfl rfl rfl (fun _ => (by decide : 12 < 14)) (fun _ => fs_6_12) dX6_write_42 ?_
        refine ex_nameH (fun u6 eu6 => ?_)
        replace w := w u6 eu6
        refine ex_aload_n hX dX6_write_45 rfl rfl ?_
        refine ex_get hX (.int (u6.1 0 12)) FL_6_97 rfl (fun _ => rfl) dX6_write_46 ?_
        exact ex_iret hX dX6_write_49 rfl w
      · replace w := w.2 c3
        refine ex_ldc hX dX6_write_22 KC_6_80 ?_
        exact ex_iret hX dX6_write_24 rfl w
    · replace w := w.2 c2
      refine ex_ldc hX dX6_write_10 KC_6_72 ?_
      exact ex_iret hX dX6_write_12 rfl w

set_option maxRecDepth 100000 in
set_option maxHeartbeats 4000000 in
theorem sg_X7_write_0 {Z : CX × GX} {post : Int32 → AH → Prop} {h : AH} {x1 : Int32} (hX : OK Z RX7 cX7_write 2 (some .int) 1 25) 
    (w : (((0 ≤ (Int32.toInt64 x1) ∧ (Int32.toInt64 x1) ≤ 99999) → ((¬ (h.1 94 32) = 60 → (vp_in (h.1 94 32) 60) ∧ (∀ u4 : AH, u4 = (hset h.1 112 (Int32.toNatClampNeg (h.1 94 32)) x1, h.2) → (∀ u5 : AH, u5 = (hset u4.1 94 32 ((u4.1 94 32) + 1), u4.2) → post (u5.1 94 32) u5))) ∧ ((h.1 94 32) = 60 → post (-100000004) h))) ∧ (¬ (0 ≤ (Int32.toInt64 x1) ∧ (Int32.toInt64 x1) ≤ 99999) → post (-100000002) h)))
    : EX Z 2 (QI Z post) 0 h [some (.ref 94), some (.int x1)] [] := by
  refine ex_iload_n hX dX7_write_0 rfl rfl ?_
  refine ex_i2l hX dX7_write_1 ?_
  refine ex_lconst (v := 0) hX dX7_write_2 rfl ?_
  refine ex_ldc2 hX dX7_write_3 KL_7_275 ?_
  refine ex_pIs (As := [.long (Int32.toInt64 x1), .long 0, .long 99999]) (st := []) hX (c_X7_in (h := h)) CS_7_71 MS_X7_in rfl (by decide) rfl (Nat.le_of_ble_eq_true rfl) dX7_write_6 ?_
  refine ex_ifneB hX 15 dX7_write_9 (by decide) (fun c1 => ?_) (fun c1 => ?_)
  · replace w := w.1 c1
    refine ex_aload_n hX dX7_write_15 rfl rfl ?_
    refine ex_get hX (.int (h.1 94 32)) FL_7_167 rfl (fun _ => rfl) dX7_write_16 ?_
    refine ex_bipush (v := 60) hX dX7_write_19 rfl ?_
    refine ex_icmpne hX 27 dX7_write_21 (by decide) (fun c2 => ?_) (fun c2 => ?_)
    · replace w := w.1 c2
      refine ex_aload_n hX dX7_write_27 rfl rfl ?_
      refine ex_get hX (.ref 112) FL_7_66 rfl (fun _ => rfl) dX7_write_28 ?_
      refine ex_aload_n hX dX7_write_31 rfl rfl ?_
      refine ex_get hX (.int (h.1 94 32)) FL_7_167 rfl (fun _ => rfl) dX7_write_32 ?_
      refine ex_iload_n hX dX7_write_35 rfl rfl ?_
      obtain ⟨q3, w⟩ := w
      refine ex_iast hX rfl q3 dX7_write_36 ?_
      refine ex_nameH (fun u4 eu4 => ?_)
      replace w := w u4 eu4
      refine ex_aload_n hX dX7_write_37 rfl rfl ?_
      refine ex_dup hX dX7_write_38 rfl ?_
      refine ex_get hX (.int (u4.1 94 32)) FL_7_167 rfl (fun _ => rfl) dX7_write_39 ?_
      refine ex_iconst (v := 1) hX dX7_write_42 rfl ?_
      refine ex_iadd hX dX7_write_43 ?_
      refine ex_put hX .int FL_7_167 tyX7 tyX7_ok nmX7 rfl rfl rfl rfl rfl (fun _ => (by decide : 32 < 33)) (fun _ => fs_7_32) dX7_write_44 ?_
      refine ex_nameH (fun u5 eu5 => ?_)
      replace w := w u5 eu5
      refine ex_aload_n hX dX7_write_47 rfl rfl ?_
      refine ex_get hX (.int (u5.1 94 32)) FL_7_167 rfl (fun _ => rfl) dX7_write_48 ?_
      exact ex_iret hX dX7_write_51 rfl w
    · replace w := w.2 c2
      refine ex_ldc hX dX7_write_24 KC_7_79 ?_
      exact ex_iret hX dX7_write_26 rfl w
  · replace w := w.2 c1
    refine ex_ldc hX dX7_write_12 KC_7_75 ?_
    exact ex_iret hX dX7_write_14 rfl w

/-- the book changes, nothing else -/
theorem INV_book {N : Nat} {h u : AH} (hI : INV N h) (e2 : u.2 = h.2) (eC : ∀ i, i ≠ 0 → i ≠ 93 → i ≠ 94 → i ≠ 112 → u.1 i = h.1 i) (e0 : ∀ k, k ≠ 12 → u.1 0 k = h.1 0 k) (e94 : ∀ k, k ≠ 32 → u.1 94 k = h.1 94 k) (hB : BV u) : INV (N + 1) u := by
  obtain ⟨g, r, n, i, t, f, b, hh⟩ := hI
  have eP : PM u.1 = PM h.1 := PM_eq (e94 9 (by omega)) (e94 14 (by omega)) (fun i hi => eC i (by omega) (by omega) (by omega) (by omega))
  have b1 := oc0 g.1
  have b3 := oc1 g.2.2.1
  have eQ : PC u.1 (h.2 1) (h.2 3) = PC h.1 (h.2 1) (h.2 3) := by
    unfold PC
    rw [eC (h.2 1) (by omega) (by omega) (by omega) (by omega), eC (h.2 1 + 1) (by omega) (by omega) (by omega) (by omega), eC (h.2 1 + 2) (by omega) (by omega) (by omega) (by omega), eC (h.2 1 + 5) (by omega) (by omega) (by omega) (by omega), eC (h.2 1 + 6) (by omega) (by omega) (by omega) (by omega), eC (h.2 1 + 7) (by omega) (by omega) (by omega) (by omega), eC (h.2 3) (by omega) (by omega) (by omega) (by omega), eC (h.2 3 + 1) (by omega) (by omega) (by omega) (by omega), eC (h.2 3 + 2) (by omega) (by omega) (by omega) (by omega), eC (h.2 3 + 3) (by omega) (by omega) (by omega) (by omega)]
  have eM : ∀ ρ, mk (ms u.1 ρ) = mk (ms h.1 ρ) := fun ρ => by unfold ms; rw [eC 95 (by omega) (by omega) (by omega) (by omega)]
  have eS : ∀ s, 27 ≤ s → s ≤ 72 → mk (cs u.1 s) = mk (cs h.1 s) := fun s h1 h2 => by rw [cs_same (fun i h3 h4 => eC i (by omega) (by omega) (by omega) (by omega))]
  refine ⟨by unfold GV; rw [e2]; exact g, ?_, ?_, ?_, ?_, ?_, hB, ?_⟩
  · unfold RV
    rw [e2, eP, eQ, eC (h.2 1) (by omega) (by omega) (by omega) (by omega), eC (h.2 3) (by omega) (by omega) (by omega) (by omega), e94 9 (by omega), e94 14 (by omega)]
    exact r
  · unfold NV
    rw [eM, eS 27 (by omega) (by omega), eP, eC 27 (by omega) (by omega) (by omega) (by omega)]
    exact NV_mono n (by omega)
  · intro k hk
    rw [eM, eS _ (by omega) (by omega), eP, eC 88 (by omega) (by omega) (by omega) (by omega), eC 96 (by omega) (by omega) (by omega) (by omega), eC (57 + 15 * k) (by omega) (by omega) (by omega) (by omega)]
    exact IV_mono i (by omega) k hk
  · unfold TV
    rw [eC 1 (by omega) (by omega) (by omega) (by omega), eC 2 (by omega) (by omega) (by omega) (by omega), eC 107 (by omega) (by omega) (by omega) (by omega), e94 17 (by omega)]
    exact t
  · unfold FV
    rw [e0 13 (by omega), e94 22 (by omega)]
    exact f
  · unfold HV
    rw [e94 25 (by omega), e94 26 (by omega)]
    exact hh

set_option maxRecDepth 100000 in
set_option maxHeartbeats 4000000 in
theorem c_X6_tear {h : AH}    : CI yX6_tear cX6_tear 2 (some .int) 0 0 [.ref 0] h (fun r u => r = h.1 0 12 ∧ u = (hset h.1 0 12 0, h.2)) := by
  refine CI.of [some (.ref 0), none] (by decide +kernel) rfl (Nat.le_of_ble_eq_true rfl) rfl (fun Z hX => ?_)
  exact sg_X6_tear_0 hX (fun u e => ⟨rfl, e⟩)

set_option maxRecDepth 100000 in
set_option maxHeartbeats 4000000 in
theorem c_X7_tear {h : AH}    : CI yX7_tear cX7_tear 2 (some .int) 0 0 [.ref 94] h (fun r u => r = h.1 94 32 ∧ u = (hset h.1 94 32 0, h.2)) := by
  refine CI.of [some (.ref 94), none] (by decide +kernel) rfl (Nat.le_of_ble_eq_true rfl) rfl (fun Z hX => ?_)
  exact sg_X7_tear_0 hX (fun u e => ⟨rfl, e⟩)

theorem op_tear {N : Nat} {h : AH} (hI : INV N h) : OPP yX6_tear cX6_tear 2 0 0 yX7_tear cX7_tear 2 0 0 [] N h := by
  refine ⟨_, c_X6_tear, fun r u hp => ⟨_, c_X7_tear, fun r2 u2 hq => ?_⟩⟩
  obtain ⟨f1, f2⟩ := hp
  obtain ⟨g1, g2⟩ := hq
  obtain ⟨E, h1, h2, h3, h4⟩ := hI.2.2.2.2.2.2.1
  have k94 : u.1 94 = h.1 94 := by rw [f2]; exact hs_o (by decide)
  refine ⟨by rw [g1, k94, f1, h2, h3], INV_book hI (by rw [g2, f2]) (fun i i0 i1 i2 i3 => by rw [g2, hs_o i2, f2, hs_o i0]) (fun k hk => by rw [g2, hs_o (by decide), f2, hs_i hk]) (fun k hk => by rw [g2, hs_i hk, k94]) ⟨0, by omega, ?_, ?_, fun j hj => absurd hj (by omega)⟩⟩
  · rw [g2, hs_o (by decide), f2, hs_s]; rfl
  · rw [g2, hs_s]; rfl

set_option maxRecDepth 100000 in
set_option maxHeartbeats 4000000 in
theorem c_X6_write {h : AH} {a1 : Int32}  {E : Nat} (hE : E ≤ 60) (eE : h.1 0 12 = nI E) : CI yX6_write cX6_write 2 (some .int) 0 0 [.ref 0, .int a1] h (fun r u => (¬ (¬ a1 < 0 ∧ a1 ≤ 99999) → r = -100000002 ∧ u = h) ∧ ((¬ a1 < 0 ∧ a1 ≤ 99999) → (E = 60 → r = -100000004 ∧ u = h) ∧ (E < 60 → r = nI (E + 1) ∧ u.2 = h.2 ∧ (∀ i, i ≠ 0 → i ≠ 93 → u.1 i = h.1 i) ∧ (∀ k, k ≠ 12 → u.1 0 k = h.1 0 k) ∧ u.1 0 12 = nI (E + 1) ∧ u.1 93 = upd (h.1 93) E a1))) := by
  refine CI.of [some (.ref 0), some (.int a1)] (by decide +kernel) rfl (Nat.le_of_ble_eq_true rfl) rfl (fun Z hX => ?_)
  refine sg_X6_write_0 hX ⟨fun c => ⟨fun _ => ⟨rfl, rfl⟩, fun z => absurd c z.1⟩, fun c => ⟨fun c2 => ⟨fun c3 => ?_, fun c3 => ?_⟩, fun c2 => ⟨fun _ => ⟨rfl, rfl⟩, fun z => absurd z.2 c2⟩⟩⟩
  · rw [eE, show (60 : Int32) = nI 60 from rfl, nI_ltI (by omega) (by omega)] at c3
    rw [eE]
    refine ⟨vp_in_nI (by omega) (by omega), fun u5 e5 u6 e6 => ⟨fun z => absurd ⟨c, c2⟩ z, fun _ => ⟨fun z => by omega, fun _ => ?_⟩⟩⟩
    rw [nI_clamp (by omega)] at e5
    have k0 : u5.1 0 12 = nI E := by rw [e5, hs_o (by decide)]; exact eE
    rw [k0, nI_1] at e6
    refine ⟨by rw [e6, hs_s], by rw [e6, e5], fun i i0 i1 => by rw [e6, hs_o i0, e5, hs_o i1], fun k hk => by rw [e6, hs_i hk, e5, hs_o (by decide)], by rw [e6, hs_s], ?_⟩
    rw [e6, hs_o (by decide), e5]
    show hset h.1 93 E a1 93 = _
    rw [hset_eq]
  · rw [eE, show (60 : Int32) = nI 60 from rfl, nI_ltI (by omega) (by omega)] at c3
    exact ⟨fun z => absurd ⟨c, c2⟩ z, fun _ => ⟨fun _ => ⟨rfl, rfl⟩, fun z => absurd z c3⟩⟩

set_option maxRecDepth 100000 in
set_option maxHeartbeats 4000000 in
theorem c_X7_write {h : AH} {a1 : Int32}  {E : Nat} (hE : E ≤ 60) (eE : h.1 94 32 = nI E) : CI yX7_write cX7_write 2 (some .int) 1 25 [.ref 94, .int a1] h (fun r u => (¬ (0 ≤ Int32.toInt64 a1 ∧ Int32.toInt64 a1 ≤ 99999) → r = -100000002 ∧ u = h) ∧ ((0 ≤ Int32.toInt64 a1 ∧ Int32.toInt64 a1 ≤ 99999) → (E = 60 → r = -100000004 ∧ u = h) ∧ (E < 60 → r = nI (E + 1) ∧ u.2 = h.2 ∧ (∀ i, i ≠ 94 → i ≠ 112 → u.1 i = h.1 i) ∧ (∀ k, k ≠ 32 → u.1 94 k = h.1 94 k) ∧ u.1 94 32 = nI (E + 1) ∧ u.1 112 = upd (h.1 112) E a1))) := by
  refine CI.of [some (.ref 94), some (.int a1)] (by decide +kernel) rfl (Nat.le_of_ble_eq_true rfl) rfl (fun Z hX => ?_)
  refine sg_X7_write_0 hX ⟨fun c => ⟨fun c3 => ?_, fun c3 => ?_⟩, fun c => ⟨fun _ => ⟨rfl, rfl⟩, fun z => absurd z c⟩⟩
  · rw [eE, show (60 : Int32) = nI 60 from rfl, nI_eq (by omega) (by omega)] at c3
    rw [eE]
    refine ⟨vp_in_nI (by omega) (by omega), fun u5 e5 u6 e6 => ⟨fun z => absurd c z, fun _ => ⟨fun z => by omega, fun _ => ?_⟩⟩⟩
    rw [nI_clamp (by omega)] at e5
    have k0 : u5.1 94 32 = nI E := by rw [e5, hs_o (by decide)]; exact eE
    rw [k0, nI_1] at e6
    refine ⟨by rw [e6, hs_s], by rw [e6, e5], fun i i0 i1 => by rw [e6, hs_o i0, e5, hs_o i1], fun k hk => by rw [e6, hs_i hk, e5, hs_o (by decide)], by rw [e6, hs_s], ?_⟩
    rw [e6, hs_o (by decide), e5]
    show hset h.1 112 E a1 112 = _
    rw [hset_eq]
  · rw [eE, show (60 : Int32) = nI 60 from rfl, nI_eq (by omega) (by omega)] at c3
    exact ⟨fun z => absurd c z, fun _ => ⟨fun _ => ⟨rfl, rfl⟩, fun z => by omega⟩⟩

theorem op_write {N : Nat} {h : AH} {v : Int32} (hI : INV N h) : OPP yX6_write cX6_write 2 0 0 yX7_write cX7_write 2 1 25 [.int v] N h := by
  obtain ⟨E, h1, h2, h3, h4⟩ := hI.2.2.2.2.2.2.1
  refine ⟨_, c_X6_write h1 h2, fun r u hp => ?_⟩
  have ww : (¬ v < 0 ∧ v ≤ 99999) ↔ (0 ≤ Int32.toInt64 v ∧ Int32.toInt64 v ≤ 99999) := (rngI (m := 99999) rfl (by decide)).trans (rngL (m := 99999) rfl (by decide)).symm
  by_cases c : ¬ v < 0 ∧ v ≤ 99999
  · by_cases d : E = 60
    · obtain ⟨f1, f2⟩ := (hp.2 c).1 d
      subst f2
      refine ⟨_, c_X7_write h1 h3, fun r2 u2 hq => ?_⟩
      obtain ⟨g1, g2⟩ := (hq.2 (ww.mp c)).1 d
      exact ⟨by rw [g1, f1], by rw [g2]; exact INV_mono hI (by omega)⟩
    · obtain ⟨f1, f2, f3, f4, f5, f6⟩ := (hp.2 c).2 (by omega)
      have k94 : u.1 94 = h.1 94 := f3 94 (by omega) (by omega)
      refine ⟨_, c_X7_write (h := u) h1 (by rw [k94]; exact h3), fun r2 u2 hq => ?_⟩
      obtain ⟨g1, g2, g3, g4, g5, g6⟩ := (hq.2 (ww.mp c)).2 (by omega)
      refine ⟨by rw [g1, f1], INV_book hI (g2.trans f2) (fun i i0 i1 i2 i3 => (g3 i i2 i3).trans (f3 i i0 i1)) (fun k hk => by rw [g3 0 (by omega) (by omega)]; exact f4 k hk) (fun k hk => by rw [g4 k hk, k94]) ⟨E + 1, by omega, by rw [g3 0 (by omega) (by omega)]; exact f5, g5, fun j hj => ?_⟩⟩
      rw [g3 93 (by omega) (by omega), f6, g6, f3 112 (by omega) (by omega)]
      by_cases e : j = E
      · subst e
        rw [upd_eq, upd_eq]
        exact ⟨rfl, (rngI (m := 99999) rfl (by decide)).mp c⟩
      · rw [upd_ne e, upd_ne e]; exact h4 j (by omega)
  · obtain ⟨f1, f2⟩ := hp.1 c
    subst f2
    refine ⟨_, c_X7_write h1 h3, fun r2 u2 hq => ?_⟩
    obtain ⟨g1, g2⟩ := hq.1 (fun z => c (ww.mpr z))
    exact ⟨by rw [g1, f1], by rw [g2]; exact INV_mono hI (by omega)⟩
