theorem lg1 {x : Int32} {m : Nat} (hm : m ≤ 12) : (¬ x < 0 ∧ x < nI m) ↔ ∃ k, k < m ∧ x = nI k := by
  constructor
  · rintro ⟨h1, h2⟩
    rw [Int32.lt_iff_toInt_lt, zi_z] at h1
    obtain ⟨e1, e2, e3⟩ := zi_of (show 0 ≤ x.toInt by omega)
    rw [Int32.lt_iff_toInt_lt, nI_toInt (by omega)] at h2
    exact ⟨x.toNatClampNeg, by omega, e1⟩
  · rintro ⟨k, hk, rfl⟩
    exact ⟨nI_pos (by omega), nI_lt hk (by omega)⟩
theorem lg2 {x : Int32} {m : Nat} (hm : m ≤ 12) : (0 ≤ Int32.toInt64 x ∧ Int32.toInt64 x ≤ Int32.toInt64 (nI m - 1)) ↔ ∃ k, k < m ∧ x = nI k := by
  rw [← lg1 hm, Int64.le_iff_toInt_le, Int64.le_iff_toInt_le, Int32.toInt_toInt64, Int32.toInt_toInt64, Int32.lt_iff_toInt_lt, Int32.lt_iff_toInt_lt, nI_toInt (by omega), zi_z, zi_zL]
  have : (nI m - 1).toInt = (m : Int) - 1 := by
    rw [k_1, zi_sub, nI_toInt (by omega), nI_toInt (by omega)] <;> (try rw [nI_toInt (by omega), nI_toInt (by omega)]) <;> omega
  rw [this]
  constructor
  · rintro ⟨a, b⟩; omega
  · rintro ⟨a, b⟩; omega
def woodS (σ : SG) (l : Nat) (w : Int32) : Int32 := if w = 0 then σ (60 + l) else if w = 1 then σ (72 + l) else if w = 2 then σ (84 + l) else if w = 3 then σ (96 + l) else if w = 4 then σ (108 + l) else if w = 5 then σ (120 + l) else if w = 6 then σ (132 + l) else -100000002

set_option maxRecDepth 100000 in
set_option maxHeartbeats 4000000 in
theorem sg_X6_wood_0 {Z : CX × GX} {post : Int32 → AH → Prop} {h : AH} {x1 : Int32} {x2 : Int32} (hX : OK Z RX6 cX6_wood 4 (some .int) 0 0) 
    (w : ((x1 < 0 → post (-100000001) h) ∧ (¬ x1 < 0 → ((x1 < (h.1 (27 + 7) 0) → ((x2 = 0 → (vp_in x1 12) ∧ (∀ v5 : Int32, v5 = h.1 (27 + 7 + 1) (Int32.toNatClampNeg x1) → post v5 h)) ∧ (¬ x2 = 0 → ((x2 = 1 → (vp_in x1 12) ∧ (∀ v8 : Int32, v8 = h.1 (27 + 7 + 2) (Int32.toNatClampNeg x1) → post v8 h)) ∧ (¬ x2 = 1 → ((x2 = 2 → (vp_in x1 12) ∧ (∀ v11 : Int32, v11 = h.1 (27 + 7 + 3) (Int32.toNatClampNeg x1) → post v11 h)) ∧ (¬ x2 = 2 → ((x2 = 3 → (vp_in x1 12) ∧ (∀ v14 : Int32, v14 = h.1 (27 + 7 + 4) (Int32.toNatClampNeg x1) → post v14 h)) ∧ (¬ x2 = 3 → ((x2 = 4 → (vp_in x1 12) ∧ (∀ v17 : Int32, v17 = h.1 (27 + 7 + 5) (Int32.toNatClampNeg x1) → post v17 h)) ∧ (¬ x2 = 4 → ((x2 = 5 → (vp_in x1 12) ∧ (∀ v20 : Int32, v20 = h.1 (27 + 7 + 6) (Int32.toNatClampNeg x1) → post v20 h)) ∧ (¬ x2 = 5 → ((x2 = 6 → (vp_in x1 12) ∧ (∀ v23 : Int32, v23 = h.1 (27 + 7 + 7) (Int32.toNatClampNeg x1) → post v23 h)) ∧ (¬ x2 = 6 → post (-100000002) h))))))))))))))) ∧ (¬ x1 < (h.1 (27 + 7) 0) → post (-100000001) h)))))
    : EX Z 4 (QI Z post) 0 h [some (.ref 0), some (.int x1), some (.int x2), none] [] := by
  refine ex_aload_n hX dX6_wood_0 rfl rfl ?_
  refine ex_get hX (.ref 27) FL_6_39 rfl (fun _ => rfl) dX6_wood_1 ?_
  refine ex_get hX (.ref (27 + 7)) FL_6_111 rfl (fun _ => rfl) dX6_wood_4 ?_
  refine ex_astore_n (lv' := [some (.ref 0), some (.int x1), some (.int x2), some (.ref (27 + 7))]) hX dX6_wood_7 rfl (by decide) rfl ?_
  refine ex_iload_n hX dX6_wood_8 rfl rfl ?_
  refine ex_iflt hX 20 dX6_wood_9 (by decide) (fun c1 => ?_) (fun c1 => ?_)
  · replace w := w.1 c1
    refine ex_ldc hX dX6_wood_20 KC_6_126 ?_
    exact ex_iret hX dX6_wood_22 rfl w
  · replace w := w.2 c1
    refine ex_iload_n hX dX6_wood_12 rfl rfl ?_
    refine ex_aload_n hX dX6_wood_13 rfl rfl ?_
    refine ex_get hX (.int (h.1 (27 + 7) 0)) FL_6_115 (sh_3_7 rfl) (fun _ => rfl) dX6_wood_14 ?_
    refine ex_icmplt hX 23 dX6_wood_17 (by decide) (fun c2 => ?_) (fun c2 => ?_)
    · replace w := w.1 c2
      refine ex_iload_n hX dX6_wood_23 rfl rfl ?_
      by_cases c3 : x2 = 0
      · replace w := w.1 c3
        refine ex_tabIn hX 68 dX6_wood_24 (by rw [c3]; decide) (by rw [c3]; decide) (by rw [c3]; rfl) (by decide) ?_
        refine ex_aload_n hX dX6_wood_68 rfl rfl ?_
        refine ex_get hX (.ref (27 + 7 + 1)) FL_6_179 (sh_3_7 rfl) (fun _ => rfl) dX6_wood_69 ?_
        refine ex_iload_n hX dX6_wood_72 rfl rfl ?_
        obtain ⟨q4, w⟩ := w
        refine ex_iald hX (sh_5_1 (sh_3_7 rfl)) q4 dX6_wood_73 ?_
        refine ex_nameI (fun v5 ev5 => ?_)
        replace w := w v5 ev5
        exact ex_iret hX dX6_wood_74 rfl w
      replace w := w.2 c3
      by_cases c6 : x2 = 1
      · replace w := w.1 c6
        refine ex_tabIn hX 75 dX6_wood_24 (by rw [c6]; decide) (by rw [c6]; decide) (by rw [c6]; rfl) (by decide) ?_
        refine ex_aload_n hX dX6_wood_75 rfl rfl ?_
        refine ex_get hX (.ref (27 + 7 + 2)) FL_6_182 (sh_3_7 rfl) (fun _ => rfl) dX6_wood_76 ?_
        refine ex_iload_n hX dX6_wood_79 rfl rfl ?_
        obtain ⟨q7, w⟩ := w
        refine ex_iald hX (sh_5_2 (sh_3_7 rfl)) q7 dX6_wood_80 ?_
        refine ex_nameI (fun v8 ev8 => ?_)
        replace w := w v8 ev8
        exact ex_iret hX dX6_wood_81 rfl w
      replace w := w.2 c6
      by_cases c9 : x2 = 2
      · replace w := w.1 c9
        refine ex_tabIn hX 82 dX6_wood_24 (by rw [c9]; decide) (by rw [c9]; decide) (by rw [c9]; rfl) (by decide) ?_
        refine ex_aload_n hX dX6_wood_82 rfl rfl ?_
        refine ex_get hX (.ref (27 + 7 + 3)) FL_6_185 (sh_3_7 rfl) (fun _ => rfl) dX6_wood_83 ?_
        refine ex_iload_n hX dX6_wood_86 rfl rfl ?_
        obtain ⟨q10, w⟩ := w
        refine ex_iald hX (sh_5_3 (sh_3_7 rfl)) q10 dX6_wood_87 ?_
        refine ex_nameI (fun v11 ev11 => ?_)
        replace w := w v11 ev11
        exact ex_iret hX dX6_wood_88 rfl w
      replace w := w.2 c9
      by_cases c12 : x2 = 3
      · replace w := w.1 c12
        refine ex_tabIn hX 89 dX6_wood_24 (by rw [c12]; decide) (by rw [c12]; decide) (by rw [c12]; rfl) (by decide) ?_
        refine ex_aload_n hX dX6_wood_89 rfl rfl ?_
        refine ex_get hX (.ref (27 + 7 + 4)) FL_6_188 (sh_3_7 rfl) (fun _ => rfl) dX6_wood_90 ?_
        refine ex_iload_n hX dX6_wood_93 rfl rfl ?_
        obtain ⟨q13, w⟩ := w
        refine ex_iald hX (sh_5_4 (sh_3_7 rfl)) q13 dX6_wood_94 ?_
        refine ex_nameI (fun v14 ev14 => ?_)
        replace w := w v14 ev14
        exact ex_iret hX dX6_wood_95 rfl w
      replace w := w.2 c12
      by_cases c15 : x2 = 4
      · replace w := w.1 c15
        refine ex_tabIn hX 96 dX6_wood_24 (by rw [c15]; decide) (by rw [c15]; decide) (by rw [c15]; rfl) (by decide) ?_
        refine ex_aload_n hX dX6_wood_96 rfl rfl ?_
        refine ex_get hX (.ref (27 + 7 + 5)) FL_6_189 (sh_3_7 rfl) (fun _ => rfl) dX6_wood_97 ?_
        refine ex_iload_n hX dX6_wood_100 rfl rfl ?_
        obtain ⟨q16, w⟩ := w
        refine ex_iald hX (sh_5_5 (sh_3_7 rfl)) q16 dX6_wood_101 ?_
        refine ex_nameI (fun v17 ev17 => ?_)
        replace w := w v17 ev17
        exact ex_iret hX dX6_wood_102 rfl w
      replace w := w.2 c15
      by_cases c18 : x2 = 5
      · replace w := w.1 c18
        refine ex_tabIn hX 103 dX6_wood_24 (by rw [c18]; decide) (by rw [c18]; decide) (by rw [c18]; rfl) (by decide) ?_
        refine ex_aload_n hX dX6_wood_103 rfl rfl ?_
        refine ex_get hX (.ref (27 + 7 + 6)) FL_6_192 (sh_3_7 rfl) (fun _ => rfl) dX6_wood_104 ?_
        refine ex_iload_n hX dX6_wood_107 rfl rfl ?_
        obtain ⟨q19, w⟩ := w
        refine ex_iald hX (sh_5_6 (sh_3_7 rfl)) q19 dX6_wood_108 ?_
        refine ex_nameI (fun v20 ev20 => ?_)
        replace w := w v20 ev20
        exact ex_iret hX dX6_wood_109 rfl w
      replace w := w.2 c18
      by_cases c21 : x2 = 6
      · replace w := w.1 c21
        refine ex_tabIn hX 110 dX6_wood_24 (by rw [c21]; decide) (by rw [c21]; decide) (by rw [c21]; rfl) (by decide) ?_
        refine ex_aload_n hX dX6_wood_110 rfl rfl ?_
        refine ex_get hX (.ref (27 + 7 + 7)) FL_6_195 (sh_3_7 rfl) (fun _ => rfl) dX6_wood_111 ?_
        refine ex_iload_n hX dX6_wood_114 rfl rfl ?_
        obtain ⟨q22, w⟩ := w
        refine ex_iald hX (sh_5_7 (sh_3_7 rfl)) q22 dX6_wood_115 ?_
        refine ex_nameI (fun v23 ev23 => ?_)
        replace w := w v23 ev23
        exact ex_iret hX dX6_wood_116 rfl w
      replace w := w.2 c21
      refine ex_tabOut hX 117 dX6_wood_24 (tabout 6 (by decide) (fun k hk => by rcases (show k = 0 ∨ k = 1 ∨ k = 2 ∨ k = 3 ∨ k = 4 ∨ k = 5 ∨ k = 6 by omega) with rfl | rfl | rfl | rfl | rfl | rfl | rfl <;> assumption)) (by decide) ?_
      refine ex_ldc hX dX6_wood_117 KC_6_72 ?_
      exact ex_iret hX dX6_wood_119 rfl w
    · replace w := w.2 c2
      refine ex_ldc hX dX6_wood_20 KC_6_126 ?_
      exact ex_iret hX dX6_wood_22 rfl w

set_option maxRecDepth 100000 in
set_option maxHeartbeats 4000000 in
theorem sg_X7_wood_0 {Z : CX × GX} {post : Int32 → AH → Prop} {h : AH} {x1 : Int32} {x2 : Int32} (hX : OK Z RX7 cX7_wood 3 (some .int) 1 25) 
    (w : (∀ v1 : Int64, v1 = Int32.toInt64 ((h.1 95 (Int32.toNatClampNeg 51)) - 1) → (((0 ≤ (Int32.toInt64 x1) ∧ (Int32.toInt64 x1) ≤ v1) → ((x2 = 0 → (vp_in (60 + x1) 800) ∧ post (h.1 95 (Int32.toNatClampNeg (60 + x1))) h) ∧ (¬ x2 = 0 → ((x2 = 1 → (vp_in (72 + x1) 800) ∧ post (h.1 95 (Int32.toNatClampNeg (72 + x1))) h) ∧ (¬ x2 = 1 → ((x2 = 2 → (vp_in (84 + x1) 800) ∧ post (h.1 95 (Int32.toNatClampNeg (84 + x1))) h) ∧ (¬ x2 = 2 → ((x2 = 3 → (vp_in (96 + x1) 800) ∧ post (h.1 95 (Int32.toNatClampNeg (96 + x1))) h) ∧ (¬ x2 = 3 → ((x2 = 4 → (vp_in (108 + x1) 800) ∧ post (h.1 95 (Int32.toNatClampNeg (108 + x1))) h) ∧ (¬ x2 = 4 → ((x2 = 5 → (vp_in (120 + x1) 800) ∧ post (h.1 95 (Int32.toNatClampNeg (120 + x1))) h) ∧ (¬ x2 = 5 → ((x2 = 6 → (vp_in (132 + x1) 800) ∧ post (h.1 95 (Int32.toNatClampNeg (132 + x1))) h) ∧ (¬ x2 = 6 → post (-100000002) h))))))))))))))) ∧ (¬ (0 ≤ (Int32.toInt64 x1) ∧ (Int32.toInt64 x1) ≤ v1) → post (-100000001) h))))
    : EX Z 3 (QI Z post) 0 h [some (.ref 94), some (.int x1), some (.int x2)] [] := by
  refine ex_iload_n hX dX7_wood_0 rfl rfl ?_
  refine ex_i2l hX dX7_wood_1 ?_
  refine ex_lconst (v := 0) hX dX7_wood_2 rfl ?_
  refine ex_aload_n hX dX7_wood_3 rfl rfl ?_
  refine ex_get hX (.ref 95) FL_7_7 rfl (fun _ => rfl) dX7_wood_4 ?_
  refine ex_bipush (v := 51) hX dX7_wood_7 rfl ?_
  refine ex_iald hX rfl (show ¬ ((51 : Int32) < 0 ∨ 800 ≤ (51 : Int32).toNatClampNeg) from by decide) dX7_wood_9 ?_
  refine ex_iconst (v := 1) hX dX7_wood_10 rfl ?_
  refine ex_isub hX dX7_wood_11 ?_
  refine ex_i2l hX dX7_wood_12 ?_
  refine ex_nameL (fun v1 ev1 => ?_)
  replace w := w v1 ev1
  refine ex_pIs (As := [.long (Int32.toInt64 x1), .long 0, .long v1]) (st := []) hX (c_X7_in (h := h)) CS_7_71 MS_X7_in rfl (by decide) rfl (Nat.le_of_ble_eq_true rfl) dX7_wood_13 ?_
  refine ex_ifneB hX 22 dX7_wood_16 (by decide) (fun c2 => ?_) (fun c2 => ?_)
  · replace w := w.1 c2
    refine ex_iload_n hX dX7_wood_22 rfl rfl ?_
    by_cases c3 : x2 = 0
    · replace w := w.1 c3
      refine ex_tabIn hX 64 dX7_wood_23 (by rw [c3]; decide) (by rw [c3]; decide) (by rw [c3]; rfl) (by decide) ?_
      refine ex_aload_n hX dX7_wood_64 rfl rfl ?_
      refine ex_get hX (.ref 95) FL_7_7 rfl (fun _ => rfl) dX7_wood_65 ?_
      refine ex_bipush (v := 60) hX dX7_wood_68 rfl ?_
      refine ex_iload_n hX dX7_wood_70 rfl rfl ?_
      refine ex_iadd hX dX7_wood_71 ?_
      obtain ⟨q4, w⟩ := w
      refine ex_iald hX rfl q4 dX7_wood_72 ?_
      exact ex_iret hX dX7_wood_73 rfl w
    replace w := w.2 c3
    by_cases c5 : x2 = 1
    · replace w := w.1 c5
      refine ex_tabIn hX 74 dX7_wood_23 (by rw [c5]; decide) (by rw [c5]; decide) (by rw [c5]; rfl) (by decide) ?_
      refine ex_aload_n hX dX7_wood_74 rfl rfl ?_
      refine ex_get hX (.ref 95) FL_7_7 rfl (fun _ => rfl) dX7_wood_75 ?_
      refine ex_bipush (v := 72) hX dX7_wood_78 rfl ?_
      refine ex_iload_n hX dX7_wood_80 rfl rfl ?_
      refine ex_iadd hX dX7_wood_81 ?_
      obtain ⟨q6, w⟩ := w
      refine ex_iald hX rfl q6 dX7_wood_82 ?_
      exact ex_iret hX dX7_wood_83 rfl w
    replace w := w.2 c5
    by_cases c7 : x2 = 2
    · replace w := w.1 c7
      refine ex_tabIn hX 84 dX7_wood_23 (by rw [c7]; decide) (by rw [c7]; decide) (by rw [c7]; rfl) (by decide) ?_
      refine ex_aload_n hX dX7_wood_84 rfl rfl ?_
      refine ex_get hX (.ref 95) FL_7_7 rfl (fun _ => rfl) dX7_wood_85 ?_
      refine ex_bipush (v := 84) hX dX7_wood_88 rfl ?_
      refine ex_iload_n hX dX7_wood_90 rfl rfl ?_
      refine ex_iadd hX dX7_wood_91 ?_
      obtain ⟨q8, w⟩ := w
      refine ex_iald hX rfl q8 dX7_wood_92 ?_
      exact ex_iret hX dX7_wood_93 rfl w
    replace w := w.2 c7
    by_cases c9 : x2 = 3
    · replace w := w.1 c9
      refine ex_tabIn hX 94 dX7_wood_23 (by rw [c9]; decide) (by rw [c9]; decide) (by rw [c9]; rfl) (by decide) ?_
      refine ex_aload_n hX dX7_wood_94 rfl rfl ?_
      refine ex_get hX (.ref 95) FL_7_7 rfl (fun _ => rfl) dX7_wood_95 ?_
      refine ex_bipush (v := 96) hX dX7_wood_98 rfl ?_
      refine ex_iload_n hX dX7_wood_100 rfl rfl ?_
      refine ex_iadd hX dX7_wood_101 ?_
      obtain ⟨q10, w⟩ := w
      refine ex_iald hX rfl q10 dX7_wood_102 ?_
      exact ex_iret hX dX7_wood_103 rfl w
    replace w := w.2 c9
    by_cases c11 : x2 = 4
    · replace w := w.1 c11
      refine ex_tabIn hX 104 dX7_wood_23 (by rw [c11]; decide) (by rw [c11]; decide) (by rw [c11]; rfl) (by decide) ?_
      refine ex_aload_n hX dX7_wood_104 rfl rfl ?_
      refine ex_get hX (.ref 95) FL_7_7 rfl (fun _ => rfl) dX7_wood_105 ?_
      refine ex_bipush (v := 108) hX dX7_wood_108 rfl ?_
      refine ex_iload_n hX dX7_wood_110 rfl rfl ?_
      refine ex_iadd hX dX7_wood_111 ?_
      obtain ⟨q12, w⟩ := w
      refine ex_iald hX rfl q12 dX7_wood_112 ?_
      exact ex_iret hX dX7_wood_113 rfl w
    replace w := w.2 c11
    by_cases c13 : x2 = 5
    · replace w := w.1 c13
      refine ex_tabIn hX 114 dX7_wood_23 (by rw [c13]; decide) (by rw [c13]; decide) (by rw [c13]; rfl) (by decide) ?_
      refine ex_aload_n hX dX7_wood_114 rfl rfl ?_
      refine ex_get hX (.ref 95) FL_7_7 rfl (fun _ => rfl) dX7_wood_115 ?_
      refine ex_bipush (v := 120) hX dX7_wood_118 rfl ?_
      refine ex_iload_n hX dX7_wood_120 rfl rfl ?_
      refine ex_iadd hX dX7_wood_121 ?_
      obtain ⟨q14, w⟩ := w
      refine ex_iald hX rfl q14 dX7_wood_122 ?_
      exact ex_iret hX dX7_wood_123 rfl w
    replace w := w.2 c13
    by_cases c15 : x2 = 6
    · replace w := w.1 c15
      refine ex_tabIn hX 124 dX7_wood_23 (by rw [c15]; decide) (by rw [c15]; decide) (by rw [c15]; rfl) (by decide) ?_
      refine ex_aload_n hX dX7_wood_124 rfl rfl ?_
      refine ex_get hX (.ref 95) FL_7_7 rfl (fun _ => rfl) dX7_wood_125 ?_
      refine ex_sipush (v := 132) hX dX7_wood_128 rfl ?_
      refine ex_iload_n hX dX7_wood_131 rfl rfl ?_
      refine ex_iadd hX dX7_wood_132 ?_
      obtain ⟨q16, w⟩ := w
      refine ex_iald hX rfl q16 dX7_wood_133 ?_
      exact ex_iret hX dX7_wood_134 rfl w
    replace w := w.2 c15
    refine ex_tabOut hX 135 dX7_wood_23 (tabout 6 (by decide) (fun k hk => by rcases (show k = 0 ∨ k = 1 ∨ k = 2 ∨ k = 3 ∨ k = 4 ∨ k = 5 ∨ k = 6 by omega) with rfl | rfl | rfl | rfl | rfl | rfl | rfl <;> assumption)) (by decide) ?_
    refine ex_ldc hX dX7_wood_135 KC_7_75 ?_
    exact ex_iret hX dX7_wood_137 rfl w
  · replace w := w.2 c2
    refine ex_ldc hX dX7_wood_19 KC_7_185 ?_
    exact ex_iret hX dX7_wood_21 rfl w

set_option maxRecDepth 100000 in
set_option maxHeartbeats 4000000 in
theorem c_X6_wood {h : AH} {a1 : Int32} {a2 : Int32}  {c : Nat} (hc : c ≤ 12) (ec : h.1 34 0 = nI c) (ec2 : cs h.1 27 51 = nI c) : CI yX6_wood cX6_wood 4 (some .int) 0 0 [.ref 0, .int a1, .int a2] h (fun r u => (¬ (∃ l, l < c ∧ a1 = nI l) → r = -100000001) ∧ (∀ l, l < c → a1 = nI l → r = woodS (mk (cs h.1 27)) l a2) ∧ u = h) := by
  refine CI.of [some (.ref 0), some (.int a1), some (.int a2), none] (by decide +kernel) rfl (Nat.le_of_ble_eq_true rfl) rfl (fun Z hX => ?_)
  have key : ∀ (d : ¬ a1 < 0) (d2 : a1 < h.1 34 0), ∃ l, l < c ∧ a1 = nI l := fun d d2 => (lg1 hc).mp ⟨d, by rw [← ec]; exact d2⟩
  have no : ∀ {r : Int32}, r = -100000001 → ¬ (∃ l, l < c ∧ a1 = nI l) → (¬ (∃ l, l < c ∧ a1 = nI l) → r = -100000001) ∧ (∀ l, l < c → a1 = nI l → r = woodS (mk (cs h.1 27)) l a2) ∧ h = h := fun e z => ⟨fun _ => e, fun l hl el => absurd ⟨l, hl, el⟩ z, rfl⟩
  refine sg_X6_wood_0 hX ⟨fun d => no rfl (fun z => ((lg1 hc).mpr z).1 d), fun d => ⟨fun d2 => ?_, fun d2 => no rfl (fun z => d2 (by rw [show h.1 (27 + 7) 0 = h.1 34 0 from rfl, ec]; exact ((lg1 hc).mpr z).2))⟩⟩
  obtain ⟨l, hl, rfl⟩ := key d d2
  have cl : Int32.toNatClampNeg (nI l) = l := nI_clamp (by omega)
  have b : vp_in (nI l) 12 := vp_in_nI (by omega) (by omega)
  have yes : ∀ {r : Int32}, r = woodS (mk (cs h.1 27)) l a2 → (¬ (∃ j, j < c ∧ nI l = nI j) → r = -100000001) ∧ (∀ j, j < c → nI l = nI j → r = woodS (mk (cs h.1 27)) j a2) ∧ h = h := fun e => ⟨fun z => absurd ⟨l, hl, rfl⟩ z, fun j hj ej => by rw [nI_eq (by omega) (by omega)] at ej; subst ej; exact e, rfl⟩
  have rx : ∀ q, (60 ≤ q ∧ q ≤ 132 ∧ q % 12 = 0) → rel (cs h.1 27 51).toNatClampNeg (q + l) := fun q hq => by rw [ec2, nI_clamp (by omega)]; unfold rel; omega
  rw [cl]
  refine ⟨fun w0 => ⟨b, fun v ev => yes ?_⟩, fun w0 => ⟨fun w1 => ⟨b, fun v ev => yes ?_⟩, fun w1 => ⟨fun w2 => ⟨b, fun v ev => yes ?_⟩, fun w2 => ⟨fun w3 => ⟨b, fun v ev => yes ?_⟩, fun w3 => ⟨fun w4 => ⟨b, fun v ev => yes ?_⟩, fun w4 => ⟨fun w5 => ⟨b, fun v ev => yes ?_⟩, fun w5 => ⟨fun w6 => ⟨b, fun v ev => yes ?_⟩, fun w6 => yes ?_⟩⟩⟩⟩⟩⟩⟩
  · rw [ev, woodS, if_pos w0]; exact mkc_at (f := h.1) (s := 27) (loc_60 l (by omega)) (rx 60 (by omega))
  · rw [ev, woodS, if_neg w0, if_pos w1]; exact mkc_at (f := h.1) (s := 27) (loc_72 l (by omega)) (rx 72 (by omega))
  · rw [ev, woodS, if_neg w0, if_neg w1, if_pos w2]; exact mkc_at (f := h.1) (s := 27) (loc_84 l (by omega)) (rx 84 (by omega))
  · rw [ev, woodS, if_neg w0, if_neg w1, if_neg w2, if_pos w3]; exact mkc_at (f := h.1) (s := 27) (loc_96 l (by omega)) (rx 96 (by omega))
  · rw [ev, woodS, if_neg w0, if_neg w1, if_neg w2, if_neg w3, if_pos w4]; exact mkc_at (f := h.1) (s := 27) (loc_108 l (by omega)) (rx 108 (by omega))
  · rw [ev, woodS, if_neg w0, if_neg w1, if_neg w2, if_neg w3, if_neg w4, if_pos w5]; exact mkc_at (f := h.1) (s := 27) (loc_120 l (by omega)) (rx 120 (by omega))
  · rw [ev, woodS, if_neg w0, if_neg w1, if_neg w2, if_neg w3, if_neg w4, if_neg w5, if_pos w6]; exact mkc_at (f := h.1) (s := 27) (loc_132 l (by omega)) (rx 132 (by omega))
  · rw [woodS, if_neg w0, if_neg w1, if_neg w2, if_neg w3, if_neg w4, if_neg w5, if_neg w6]

set_option maxRecDepth 100000 in
set_option maxHeartbeats 4000000 in
theorem c_X7_wood {h : AH} {a1 : Int32} {a2 : Int32}  {c : Nat} (hc : c ≤ 12) (ec : h.1 95 51 = nI c) : CI yX7_wood cX7_wood 3 (some .int) 1 25 [.ref 94, .int a1, .int a2] h (fun r u => (¬ (∃ l, l < c ∧ a1 = nI l) → r = -100000001) ∧ (∀ l, l < c → a1 = nI l → r = woodS (mk (ms h.1 0)) l a2) ∧ u = h) := by
  refine CI.of [some (.ref 94), some (.int a1), some (.int a2)] (by decide +kernel) rfl (Nat.le_of_ble_eq_true rfl) rfl (fun Z hX => ?_)
  have cz : Int32.toNatClampNeg 51 = 51 := by decide
  have no : ∀ {r : Int32}, r = -100000001 → ¬ (∃ l, l < c ∧ a1 = nI l) → (¬ (∃ l, l < c ∧ a1 = nI l) → r = -100000001) ∧ (∀ l, l < c → a1 = nI l → r = woodS (mk (ms h.1 0)) l a2) ∧ h = h := fun e z => ⟨fun _ => e, fun l hl el => absurd ⟨l, hl, el⟩ z, rfl⟩
  refine sg_X7_wood_0 hX (fun v1 e1 => ?_)
  rw [cz, ec] at e1
  rw [e1, lg2 hc]
  refine ⟨fun d => ?_, fun d => no rfl d⟩
  obtain ⟨l, hl, rfl⟩ := d
  have yes : ∀ {r : Int32}, r = woodS (mk (ms h.1 0)) l a2 → (¬ (∃ j, j < c ∧ nI l = nI j) → r = -100000001) ∧ (∀ j, j < c → nI l = nI j → r = woodS (mk (ms h.1 0)) j a2) ∧ h = h := fun e => ⟨fun z => absurd ⟨l, hl, rfl⟩ z, fun j hj ej => by rw [nI_eq (by omega) (by omega)] at ej; subst ej; exact e, rfl⟩
  have bx : ∀ q : Nat, q ≤ 132 → vp_in (nI q + nI l) 800 := fun q hq => by rw [nI_add]; exact vp_in_nI (by omega) (by omega)
  have ix : ∀ q : Nat, q ≤ 132 → Int32.toNatClampNeg (nI q + nI l) = q + l := fun q hq => by rw [nI_add, nI_clamp (by omega)]
  have rx : ∀ q, (60 ≤ q ∧ q ≤ 132 ∧ q % 12 = 0) → h.1 95 (q + l) = mk (ms h.1 0) (q + l) := fun q hq => m0_at (f := h.1) (by rw [show ms h.1 0 51 = nI c from ec, nI_clamp (by omega)]; unfold rel; omega)
  refine ⟨fun w0 => ⟨bx 60 (by omega), yes ?_⟩, fun w0 => ⟨fun w1 => ⟨bx 72 (by omega), yes ?_⟩, fun w1 => ⟨fun w2 => ⟨bx 84 (by omega), yes ?_⟩, fun w2 => ⟨fun w3 => ⟨bx 96 (by omega), yes ?_⟩, fun w3 => ⟨fun w4 => ⟨bx 108 (by omega), yes ?_⟩, fun w4 => ⟨fun w5 => ⟨bx 120 (by omega), yes ?_⟩, fun w5 => ⟨fun w6 => ⟨bx 132 (by omega), yes ?_⟩, fun w6 => yes ?_⟩⟩⟩⟩⟩⟩⟩
  · rw [woodS, if_pos w0, show (60 : Int32) = nI 60 from rfl, ix 60 (by omega)]; exact rx 60 (by omega)
  · rw [woodS, if_neg w0, if_pos w1, show (72 : Int32) = nI 72 from rfl, ix 72 (by omega)]; exact rx 72 (by omega)
  · rw [woodS, if_neg w0, if_neg w1, if_pos w2, show (84 : Int32) = nI 84 from rfl, ix 84 (by omega)]; exact rx 84 (by omega)
  · rw [woodS, if_neg w0, if_neg w1, if_neg w2, if_pos w3, show (96 : Int32) = nI 96 from rfl, ix 96 (by omega)]; exact rx 96 (by omega)
  · rw [woodS, if_neg w0, if_neg w1, if_neg w2, if_neg w3, if_pos w4, show (108 : Int32) = nI 108 from rfl, ix 108 (by omega)]; exact rx 108 (by omega)
  · rw [woodS, if_neg w0, if_neg w1, if_neg w2, if_neg w3, if_neg w4, if_pos w5, show (120 : Int32) = nI 120 from rfl, ix 120 (by omega)]; exact rx 120 (by omega)
  · rw [woodS, if_neg w0, if_neg w1, if_neg w2, if_neg w3, if_neg w4, if_neg w5, if_pos w6, show (132 : Int32) = nI 132 from rfl, ix 132 (by omega)]; exact rx 132 (by omega)
  · rw [woodS, if_neg w0, if_neg w1, if_neg w2, if_neg w3, if_neg w4, if_neg w5, if_neg w6]

theorem op_wood {N : Nat} {h : AH} {k w : Int32} (hI : INV N h) : OPP yX6_wood cX6_wood 4 0 0 yX7_wood cX7_wood 3 1 25 [.int k, .int w] N h := by
  obtain ⟨c, hc, c1, c2, c3, c4⟩ := NV_c hI.2.2.1
  refine ⟨_, c_X6_wood hc c1 c3, fun r u hp => ?_⟩
  obtain ⟨p1, p2, p3⟩ := hp
  subst p3
  refine ⟨_, c_X7_wood hc c2, fun r2 u2 hq => ?_⟩
  obtain ⟨q1, q2, q3⟩ := hq
  subst q3
  refine ⟨?_, INV_mono hI (by omega)⟩
  by_cases d : ∃ l, l < c ∧ k = nI l
  · obtain ⟨l, hl, el⟩ := d
    rw [q2 l hl el, p2 l hl el, hI.2.2.1.1]
  · rw [q1 d, p1 d]

set_option maxRecDepth 100000 in
set_option maxHeartbeats 4000000 in
theorem sg_X7_copy_0 {Z : CX × GX} {post : AH → Prop} {h : AH} {x1 : Int32} {x2 : Int32} (hX : OK Z RX7 cX7_copy 4 none 0 0) 
    (w : EX Z 4 (QV Z post) 2 h [some (.ref 94), some (.int x1), some (.int x2), some (.int 0)] [])
    : EX Z 4 (QV Z post) 0 h [some (.ref 94), some (.int x1), some (.int x2), none] [] := by
  refine ex_iconst (v := 0) hX dX7_copy_0 rfl ?_
  refine ex_istore_n (lv' := [some (.ref 94), some (.int x1), some (.int x2), some (.int 0)]) hX dX7_copy_1 rfl (by decide) rfl ?_
  exact w

set_option maxRecDepth 100000 in
set_option maxHeartbeats 4000000 in
theorem sg_X7_copy_2 {Z : CX × GX} {post : AH → Prop} {h : AH} {x1 : Int32} {x2 : Int32} {x3 : Int32} (hX : OK Z RX7 cX7_copy 4 none 0 0) 
    (w : ((200 ≤ x3 → post h) ∧ (¬ 200 ≤ x3 → (vp_in (x1 + x3) 800) ∧ (vp_in (x2 + x3) 800) ∧ (∀ u4 : AH, u4 = (hset h.1 95 (Int32.toNatClampNeg (x2 + x3)) (h.1 95 (Int32.toNatClampNeg (x1 + x3))), h.2) → EX Z 4 (QV Z post) 2 u4 [some (.ref 94), some (.int x1), some (.int x2), some (.int (x3 + 1))] []))))
    : EX Z 4 (QV Z post) 2 h [some (.ref 94), some (.int x1), some (.int x2), some (.int x3)] [] := by
  refine ex_iload_n hX dX7_copy_2 rfl rfl ?_
  refine ex_sipush (v := 200) hX dX7_copy_3 rfl ?_
  refine ex_icmpge hX 31 dX7_copy_6 (by decide) (fun c1 => ?_) (fun c1 => ?_)
  · replace w := w.1 c1
    exact ex_vret hX dX7_copy_31 w
  · replace w := w.2 c1
    refine ex_aload_n hX dX7_copy_9 rfl rfl ?_
    refine ex_get hX (.ref 95) FL_7_7 rfl (fun _ => rfl) dX7_copy_10 ?_
    refine ex_iload_n hX dX7_copy_13 rfl rfl ?_
    refine ex_iload_n hX dX7_copy_14 rfl rfl ?_
    refine ex_iadd hX dX7_copy_15 ?_
    refine ex_aload_n hX dX7_copy_16 rfl rfl ?_
    refine ex_get hX (.ref 95) FL_7_7 rfl (fun _ => rfl) dX7_copy_17 ?_
    refine ex_iload_n hX dX7_copy_20 rfl rfl ?_
    refine ex_iload_n hX dX7_copy_21 rfl rfl ?_
    refine ex_iadd hX dX7_copy_22 ?_
    obtain ⟨q2, w⟩ := w
    refine ex_iald hX rfl q2 dX7_copy_23 ?_
    obtain ⟨q3, w⟩ := w
    refine ex_iast hX rfl q3 dX7_copy_24 ?_
    refine ex_nameH (fun u4 eu4 => ?_)
    replace w := w u4 eu4
    refine ex_iinc (v := x3 + 1) (lv' := [some (.ref 94), some (.int x1), some (.int x2), some (.int (x3 + 1))]) hX dX7_copy_25 rfl rfl (by decide) rfl ?_
    refine ex_goto hX 2 dX7_copy_28 (by decide) ?_
    exact w

set_option maxRecDepth 100000 in
set_option maxHeartbeats 4000000 in
theorem sg_X6_keep_0 {Z : CX × GX} {post : Int32 → AH → Prop} {h : AH} {x1 : Int32} (hX : OK Z RX6 cX6_keep 2 (some .int) 4 123) 
    (w : ((x1 < 0 → post (-100000001) h) ∧ (¬ x1 < 0 → ((x1 < 2 → (vp_in x1 2) ∧ (∃ PP : AH → Prop, CV yX3_becomeAs cX3_becomeAs 2 3 102 [.ref (57 + 15 * Int32.toNatClampNeg x1), .ref 27] h PP ∧ ∀ u : AH, PP u → EX Z 2 (QI Z post) 25 u [some (.ref 0), some (.int x1)] [])) ∧ (¬ x1 < 2 → post (-100000001) h)))))
    : EX Z 2 (QI Z post) 0 h [some (.ref 0), some (.int x1)] [] := by
  refine ex_iload_n hX dX6_keep_0 rfl rfl ?_
  refine ex_iflt hX 9 dX6_keep_1 (by decide) (fun c1 => ?_) (fun c1 => ?_)
  · replace w := w.1 c1
    refine ex_ldc hX dX6_keep_9 KC_6_126 ?_
    exact ex_iret hX dX6_keep_11 rfl w
  · replace w := w.2 c1
    refine ex_iload_n hX dX6_keep_4 rfl rfl ?_
    refine ex_iconst (v := 2) hX dX6_keep_5 rfl ?_
    refine ex_icmplt hX 12 dX6_keep_6 (by decide) (fun c2 => ?_) (fun c2 => ?_)
    · replace w := w.1 c2
      refine ex_aload_n hX dX6_keep_12 rfl rfl ?_
      refine ex_get hX (.ref 87) FL_6_46 rfl (fun _ => rfl) dX6_keep_13 ?_
      refine ex_iload_n hX dX6_keep_16 rfl rfl ?_
      obtain ⟨q3, w⟩ := w
      refine ex_img hX (q3) dX6_keep_17 ?_
      have c4 : oc (57 + 15 * Int32.toNatClampNeg x1) = some 3 := sh_img (Nat.lt_of_not_le (fun z => (q3) (Or.inr z)))
      refine ex_aload_n hX dX6_keep_18 rfl rfl ?_
      refine ex_get hX (.ref 27) FL_6_39 rfl (fun _ => rfl) dX6_keep_19 ?_
      obtain ⟨PP, pM, pK⟩ := w
      exact ex_callVv (ci := 3) (i := 57 + 15 * Int32.toNatClampNeg x1) (As := [.ref 27]) (st := []) hX pM CS_6_198 MS_X3_becomeAs rfl c4 rfl (by decide) rfl (Nat.le_of_ble_eq_true rfl) dX6_keep_22 (fun u hp => pK u hp)
    · replace w := w.2 c2
      refine ex_ldc hX dX6_keep_9 KC_6_126 ?_
      exact ex_iret hX dX6_keep_11 rfl w

set_option maxRecDepth 100000 in
set_option maxHeartbeats 4000000 in
theorem sg_X6_keep_25 {Z : CX × GX} {post : Int32 → AH → Prop} {h : AH} {x1 : Int32} (hX : OK Z RX6 cX6_keep 2 (some .int) 4 123) 
    (w : (vp_in x1 2) ∧ (∀ u2 : AH, u2 = (hset h.1 88 (Int32.toNatClampNeg x1) (vp_nar .boolean 1), h.2) → post 1 u2))
    : EX Z 2 (QI Z post) 25 h [some (.ref 0), some (.int x1)] [] := by
  refine ex_aload_n hX dX6_keep_25 rfl rfl ?_
  refine ex_get hX (.ref 88) FL_6_50 rfl (fun _ => rfl) dX6_keep_26 ?_
  refine ex_iload_n hX dX6_keep_29 rfl rfl ?_
  refine ex_iconst (v := 1) hX dX6_keep_30 rfl ?_
  obtain ⟨q1, w⟩ := w
  refine ex_zast hX rfl q1 dX6_keep_31 ?_
  refine ex_nameH (fun u2 eu2 => ?_)
  replace w := w u2 eu2
  refine ex_iconst (v := 1) hX dX6_keep_32 rfl ?_
  exact ex_iret hX dX6_keep_33 rfl w

set_option maxRecDepth 100000 in
set_option maxHeartbeats 4000000 in
theorem sg_X7_keep_0 {Z : CX × GX} {post : Int32 → AH → Prop} {h : AH} {x1 : Int32} (hX : OK Z RX7 cX7_keep 2 (some .int) 1 25) 
    (w : (((0 ≤ (Int32.toInt64 x1) ∧ (Int32.toInt64 x1) ≤ 1) → (∃ PP : AH → Prop, CV yX7_copy cX7_copy 4 0 0 [.ref 94, .int 0, .int (400 + (200 * x1))] h PP ∧ ∀ u : AH, PP u → EX Z 2 (QI Z post) 27 u [some (.ref 94), some (.int x1)] [])) ∧ (¬ (0 ≤ (Int32.toInt64 x1) ∧ (Int32.toInt64 x1) ≤ 1) → post (-100000001) h)))
    : EX Z 2 (QI Z post) 0 h [some (.ref 94), some (.int x1)] [] := by
  refine ex_iload_n hX dX7_keep_0 rfl rfl ?_
  refine ex_i2l hX dX7_keep_1 ?_
  refine ex_lconst (v := 0) hX dX7_keep_2 rfl ?_
  refine ex_lconst (v := 1) hX dX7_keep_3 rfl ?_
  refine ex_pIs (As := [.long (Int32.toInt64 x1), .long 0, .long 1]) (st := []) hX (c_X7_in (h := h)) CS_7_71 MS_X7_in rfl (by decide) rfl (Nat.le_of_ble_eq_true rfl) dX7_keep_4 ?_
  refine ex_ifneB hX 13 dX7_keep_7 (by decide) (fun c1 => ?_) (fun c1 => ?_)
  · replace w := w.1 c1
    refine ex_aload_n hX dX7_keep_13 rfl rfl ?_
    refine ex_iconst (v := 0) hX dX7_keep_14 rfl ?_
    refine ex_sipush (v := 400) hX dX7_keep_15 rfl ?_
    refine ex_sipush (v := 200) hX dX7_keep_18 rfl ?_
    refine ex_iload_n hX dX7_keep_21 rfl rfl ?_
    refine ex_imul hX dX7_keep_22 ?_
    refine ex_iadd hX dX7_keep_23 ?_
    obtain ⟨PP, pM, pK⟩ := w
    exact ex_callVv (ci := 7) (i := 94) (As := [.int 0, .int (400 + (200 * x1))]) (st := []) hX pM CS_7_248 MS_X7_copy rfl rfl rfl (by decide) rfl (Nat.le_of_ble_eq_true rfl) dX7_keep_24 (fun u hp => pK u hp)
  · replace w := w.2 c1
    refine ex_ldc hX dX7_keep_10 KC_7_185 ?_
    exact ex_iret hX dX7_keep_12 rfl w

set_option maxRecDepth 100000 in
set_option maxHeartbeats 4000000 in
theorem sg_X7_keep_27 {Z : CX × GX} {post : Int32 → AH → Prop} {h : AH} {x1 : Int32} (hX : OK Z RX7 cX7_keep 2 (some .int) 1 25) 
    (w : (vp_in x1 2) ∧ (∀ u2 : AH, u2 = (hset h.1 96 (Int32.toNatClampNeg x1) (vp_nar .boolean 1), h.2) → post 1 u2))
    : EX Z 2 (QI Z post) 27 h [some (.ref 94), some (.int x1)] [] := by
  refine ex_aload_n hX dX7_keep_27 rfl rfl ?_
  refine ex_get hX (.ref 96) FL_7_13 rfl (fun _ => rfl) dX7_keep_28 ?_
  refine ex_iload_n hX dX7_keep_31 rfl rfl ?_
  refine ex_iconst (v := 1) hX dX7_keep_32 rfl ?_
  obtain ⟨q1, w⟩ := w
  refine ex_zast hX rfl q1 dX7_keep_33 ?_
  refine ex_nameH (fun u2 eu2 => ?_)
  replace w := w u2 eu2
  refine ex_iconst (v := 1) hX dX7_keep_34 rfl ?_
  exact ex_iret hX dX7_keep_35 rfl w

set_option maxRecDepth 100000 in
set_option maxHeartbeats 4000000 in
theorem sg_X6_goBack_0 {Z : CX × GX} {post : Int32 → AH → Prop} {h : AH} {x1 : Int32} (hX : OK Z RX6 cX6_goBack 2 (some .int) 4 123) 
    (w : ((x1 < 0 → post (-100000001) h) ∧ (¬ x1 < 0 → ((x1 < 2 → (vp_in x1 2) ∧ ((¬ (h.1 88 (Int32.toNatClampNeg x1)) = 0 → (vp_in x1 2) ∧ (∃ PP : AH → Prop, CV yX3_becomeAs cX3_becomeAs 2 3 102 [.ref 27, .ref (57 + 15 * Int32.toNatClampNeg x1)] h PP ∧ ∀ u : AH, PP u → EX Z 2 (QI Z post) 37 u [none, none] [])) ∧ ((h.1 88 (Int32.toNatClampNeg x1)) = 0 → post (-100000003) h))) ∧ (¬ x1 < 2 → post (-100000001) h)))))
    : EX Z 2 (QI Z post) 0 h [some (.ref 0), some (.int x1)] [] := by
  refine ex_iload_n hX dX6_goBack_0 rfl rfl ?_
  refine ex_iflt hX 9 dX6_goBack_1 (by decide) (fun c1 => ?_) (fun c1 => ?_)
  · replace w := w.1 c1
    refine ex_ldc hX dX6_goBack_9 KC_6_126 ?_
    exact ex_iret hX dX6_goBack_11 rfl w
  · replace w := w.2 c1
    refine ex_iload_n hX dX6_goBack_4 rfl rfl ?_
    refine ex_iconst (v := 2) hX dX6_goBack_5 rfl ?_
    refine ex_icmplt hX 12 dX6_goBack_6 (by decide) (fun c2 => ?_) (fun c2 => ?_)
    · replace w := w.1 c2
      refine ex_aload_n hX dX6_goBack_12 rfl rfl ?_
      refine ex_get hX (.ref 88) FL_6_50 rfl (fun _ => rfl) dX6_goBack_13 ?_
      refine ex_iload_n hX dX6_goBack_16 rfl rfl ?_
      obtain ⟨q3, w⟩ := w
      refine ex_zald hX rfl q3 dX6_goBack_17 ?_
      refine ex_ifne hX 24 dX6_goBack_18 (by decide) (fun c4 => ?_) (fun c4 => ?_)
      · replace w := w.1 c4
        refine ex_aload_n hX dX6_goBack_24 rfl rfl ?_
        refine ex_get hX (.ref 27) FL_6_39 rfl (fun _ => rfl) dX6_goBack_25 ?_
        refine ex_aload_n hX dX6_goBack_28 rfl rfl ?_
        refine ex_get hX (.ref 87) FL_6_46 rfl (fun _ => rfl) dX6_goBack_29 ?_
        refine ex_iload_n hX dX6_goBack_32 rfl rfl ?_
        obtain ⟨q5, w⟩ := w
        refine ex_img hX (q5) dX6_goBack_33 ?_
        have c6 : oc (57 + 15 * Int32.toNatClampNeg x1) = some 3 := sh_img (Nat.lt_of_not_le (fun z => (q5) (Or.inr z)))
        obtain ⟨PP, pM, pK⟩ := w
        exact ex_callVv (ci := 3) (i := 27) (As := [.ref (57 + 15 * Int32.toNatClampNeg x1)]) (st := []) hX pM CS_6_198 MS_X3_becomeAs rfl rfl rfl (by decide) rfl (Nat.le_of_ble_eq_true rfl) dX6_goBack_34 (fun u hp => ex_forget [none, none] trivial (pK u hp))
      · replace w := w.2 c4
        refine ex_ldc hX dX6_goBack_21 KC_6_103 ?_
        exact ex_iret hX dX6_goBack_23 rfl w
    · replace w := w.2 c2
      refine ex_ldc hX dX6_goBack_9 KC_6_126 ?_
      exact ex_iret hX dX6_goBack_11 rfl w

set_option maxRecDepth 100000 in
set_option maxHeartbeats 4000000 in
theorem sg_X6_goBack_37 {Z : CX × GX} {post : Int32 → AH → Prop} {h : AH}  (hX : OK Z RX6 cX6_goBack 2 (some .int) 4 123) 
    (w : post 1 h)
    : EX Z 2 (QI Z post) 37 h [none, none] [] := by
  refine ex_iconst (v := 1) hX dX6_goBack_37 rfl ?_
  exact ex_iret hX dX6_goBack_38 rfl w

set_option maxRecDepth 100000 in
set_option maxHeartbeats 4000000 in
theorem sg_X7_goBack_0 {Z : CX × GX} {post : Int32 → AH → Prop} {h : AH} {x1 : Int32} (hX : OK Z RX7 cX7_goBack 2 (some .int) 1 25) 
    (w : (((0 ≤ (Int32.toInt64 x1) ∧ (Int32.toInt64 x1) ≤ 1) → (vp_in x1 2) ∧ ((¬ (h.1 96 (Int32.toNatClampNeg x1)) = 0 → (∃ PP : AH → Prop, CV yX7_copy cX7_copy 4 0 0 [.ref 94, .int (400 + (200 * x1)), .int 0] h PP ∧ ∀ u : AH, PP u → EX Z 2 (QI Z post) 39 u [none, none] [])) ∧ ((h.1 96 (Int32.toNatClampNeg x1)) = 0 → post (-100000003) h))) ∧ (¬ (0 ≤ (Int32.toInt64 x1) ∧ (Int32.toInt64 x1) ≤ 1) → post (-100000001) h)))
    : EX Z 2 (QI Z post) 0 h [some (.ref 94), some (.int x1)] [] := by
  refine ex_iload_n hX dX7_goBack_0 rfl rfl ?_
  refine ex_i2l hX dX7_goBack_1 ?_
  refine ex_lconst (v := 0) hX dX7_goBack_2 rfl ?_
  refine ex_lconst (v := 1) hX dX7_goBack_3 rfl ?_
  refine ex_pIs (As := [.long (Int32.toInt64 x1), .long 0, .long 1]) (st := []) hX (c_X7_in (h := h)) CS_7_71 MS_X7_in rfl (by decide) rfl (Nat.le_of_ble_eq_true rfl) dX7_goBack_4 ?_
  refine ex_ifneB hX 13 dX7_goBack_7 (by decide) (fun c1 => ?_) (fun c1 => ?_)
  · replace w := w.1 c1
    refine ex_aload_n hX dX7_goBack_13 rfl rfl ?_
    refine ex_get hX (.ref 96) FL_7_13 rfl (fun _ => rfl) dX7_goBack_14 ?_
    refine ex_iload_n hX dX7_goBack_17 rfl rfl ?_
    obtain ⟨q2, w⟩ := w
    refine ex_zald hX rfl q2 dX7_goBack_18 ?_
    refine ex_ifne hX 25 dX7_goBack_19 (by decide) (fun c3 => ?_) (fun c3 => ?_)
    · replace w := w.1 c3
      refine ex_aload_n hX dX7_goBack_25 rfl rfl ?_
      refine ex_sipush (v := 400) hX dX7_goBack_26 rfl ?_
      refine ex_sipush (v := 200) hX dX7_goBack_29 rfl ?_
      refine ex_iload_n hX dX7_goBack_32 rfl rfl ?_
      refine ex_imul hX dX7_goBack_33 ?_
      refine ex_iadd hX dX7_goBack_34 ?_
      refine ex_iconst (v := 0) hX dX7_goBack_35 rfl ?_
      obtain ⟨PP, pM, pK⟩ := w
      exact ex_callVv (ci := 7) (i := 94) (As := [.int (400 + (200 * x1)), .int 0]) (st := []) hX pM CS_7_248 MS_X7_copy rfl rfl rfl (by decide) rfl (Nat.le_of_ble_eq_true rfl) dX7_goBack_36 (fun u hp => ex_forget [none, none] trivial (pK u hp))
    · replace w := w.2 c3
      refine ex_ldc hX dX7_goBack_22 KC_7_170 ?_
      exact ex_iret hX dX7_goBack_24 rfl w
  · replace w := w.2 c1
    refine ex_ldc hX dX7_goBack_10 KC_7_185 ?_
    exact ex_iret hX dX7_goBack_12 rfl w

set_option maxRecDepth 100000 in
set_option maxHeartbeats 4000000 in
theorem sg_X7_goBack_39 {Z : CX × GX} {post : Int32 → AH → Prop} {h : AH}  (hX : OK Z RX7 cX7_goBack 2 (some .int) 1 25) 
    (w : post 1 h)
    : EX Z 2 (QI Z post) 39 h [none, none] [] := by
  refine ex_iconst (v := 1) hX dX7_goBack_39 rfl ?_
  exact ex_iret hX dX7_goBack_40 rfl w

set_option maxRecDepth 100000 in
set_option maxHeartbeats 4000000 in
theorem c_X7_copy {h : AH} {a1 : Int32} {a2 : Int32}  {ρ1 ρ2 : Nat} (e1 : a1 = nI ρ1) (e2 : a2 = nI ρ2) (h1 : ρ1 ≤ 600) (h2 : ρ2 ≤ 600) (hd : ρ1 + 200 ≤ ρ2 ∨ ρ2 + 200 ≤ ρ1) : CV yX7_copy cX7_copy 4 0 0 [.ref 94, .int a1, .int a2] h (fun u => u.2 = h.2 ∧ (∀ i, i ≠ 95 → u.1 i = h.1 i) ∧ (∀ j, (j < ρ2 ∨ ρ2 + 200 ≤ j) → u.1 95 j = h.1 95 j) ∧ ∀ j, j < 200 → u.1 95 (ρ2 + j) = h.1 95 (ρ1 + j)) := by
  refine CV.of [some (.ref 94), some (.int a1), some (.int a2), none] (by decide +kernel) rfl (Nat.le_of_ble_eq_true rfl) rfl (fun Z hX => ?_)
  subst e1; subst e2
  generalize hpost : (fun u : AH => u.2 = h.2 ∧ (∀ i, i ≠ 95 → u.1 i = h.1 i) ∧ (∀ j, (j < ρ2 ∨ ρ2 + 200 ≤ j) → u.1 95 j = h.1 95 j) ∧ ∀ j, j < 200 → u.1 95 (ρ2 + j) = h.1 95 (ρ1 + j)) = post
  have L : ∀ k, k ≤ 200 → ∀ u : AH, u.2 = h.2 → (∀ i, i ≠ 95 → u.1 i = h.1 i) → (∀ j, (j < ρ2 ∨ ρ2 + 200 ≤ j) → u.1 95 j = h.1 95 j) → (∀ j, j < k → u.1 95 (ρ2 + j) = h.1 95 (ρ1 + j)) → EX Z 4 (QV Z post) 2 u [some (.ref 94), some (.int (nI ρ1)), some (.int (nI ρ2)), some (.int (nI k))] [] := by
    refine ldown _ ?_ ?_
    · intro u u2 u3 u4 u5
      refine sg_X7_copy_2 hX ⟨fun _ => by rw [← hpost]; exact ⟨u2, u3, u4, u5⟩, fun z => absurd (by rw [k_200]; exact nI_le (Nat.le_refl _) (by omega)) z⟩
    · intro k hk ih u u2 u3 u4 u5
      refine sg_X7_copy_2 hX ⟨fun z => absurd z (by rw [k_200]; exact nI_ge hk (by omega)), fun _ => ⟨by rw [nI_add]; exact vp_in_nI (by omega) (by omega), by rw [nI_add]; exact vp_in_nI (by omega) (by omega), fun v ev => ?_⟩⟩
      rw [nI_add, nI_add, nI_clamp (by omega), nI_clamp (by omega), u4 (ρ1 + k) (by omega)] at ev
      rw [nI_1]
      refine ih v (by rw [ev]; exact u2) (fun i hi => by rw [ev, hs_o hi]; exact u3 i hi) (fun j hj => by rw [ev, hs_i (by omega)]; exact u4 j hj) (fun j hj => ?_)
      by_cases e : j = k
      · subst e; rw [ev, hs_s]
      · rw [ev, hs_i (by omega)]; exact u5 j (by omega)
  exact sg_X7_copy_0 hX (L 0 (by omega) h rfl (fun _ _ => rfl) (fun _ _ => rfl) (fun j hj => absurd hj (by omega)))
