/-! WHAT HOLDS BETWEEN TWO CALLS: class and reference say the same (N calls have been) -/
def GV (h : AH) : Prop := oc (h.2 1) = some 0 ∧ oc (h.2 2) = some 0 ∧ oc (h.2 3) = some 1 ∧ oc (h.2 4) = some 1 ∧ h.2 1 ≠ h.2 2 ∧ h.2 3 ≠ h.2 4
def RV (h : AH) : Prop := PC h.1 (h.2 1) (h.2 3) = PM h.1 ∧ (∃ n : Nat, n ≤ 10 ∧ h.1 (h.2 1) 0 = nI n ∧ h.1 94 9 = nI n ∧ (n = 0 ∨ POK (PM h.1))) ∧ (∃ m : Nat, m ≤ 30 ∧ h.1 (h.2 3) 0 = nI m ∧ h.1 94 14 = nI m) ∧ pfl (PM h.1) (pn (PM h.1) - 1) = 0 ∧ par (PM h.1) (pn (PM h.1) - 1) = 0 ∧ ∀ k, k < 9 → ∃ a : Nat, a ≤ 99 ∧ pto (PM h.1) k = nI a
def SV (N : Nat) (P : PR) (σ : SG) : Prop := SOK P (2000000 * (N : Int)) (200 * N) σ ∧ σ (pn P - 1) = 0 ∧ 0 ≤ (σ 52).toInt
def NV (N : Nat) (h : AH) : Prop := mk (cs h.1 27) = mk (ms h.1 0) ∧ h.1 27 2 = 0 ∧ SV N (PM h.1) (mk (ms h.1 0))
def IV (N : Nat) (h : AH) : Prop := ∀ i, i < 2 → h.1 88 i = h.1 96 i ∧ (h.1 88 i = 0 ∨ (h.1 88 i = 1 ∧ mk (cs h.1 (57 + 15 * i)) = mk (ms h.1 (400 + 200 * i)) ∧ h.1 (57 + 15 * i) 2 = 0 ∧ SV N (PM h.1) (mk (ms h.1 (400 + 200 * i)))))
def TV (h : AH) : Prop := ∃ L : Nat, L ≤ 400 ∧ h.1 1 1 = nI L ∧ h.1 94 17 = nI L ∧ ∀ j, j < L → ∃ b : Nat, b < 256 ∧ h.1 107 j = nI b ∧ h.1 2 j = (nI b).toInt8.toInt32
def FV (h : AH) : Prop := h.1 0 13 = h.1 94 22
def BV (h : AH) : Prop := ∃ E : Nat, E ≤ 60 ∧ h.1 0 12 = nI E ∧ h.1 94 32 = nI E ∧ ∀ j, j < E → h.1 93 j = h.1 112 j ∧ ∃ v : Nat, v ≤ 99999 ∧ h.1 112 j = nI v
def HV (h : AH) : Prop := h.1 94 25 = 0 ∧ ∃ w : Nat, w ≤ 9 ∧ h.1 94 26 = nI w
def INV (N : Nat) (h : AH) : Prop := GV h ∧ RV h ∧ NV N h ∧ IV N h ∧ TV h ∧ FV h ∧ BV h ∧ HV h
/-- a call of both: the same answer, and all holds again -/
def OPP (yc : MethodName) (cc : ByteArray) (nc fc lc : Nat) (ym : MethodName) (cm : ByteArray) (nm fm lm : Nat) (A : List Value) (N : Nat) (h : AH) : Prop :=
  ∃ PP : Int32 → AH → Prop, CI yc cc nc (some .int) fc lc (.ref 0 :: A) h PP ∧ ∀ r u, PP r u → ∃ PQ : Int32 → AH → Prop, CI ym cm nm (some .int) fm lm (.ref 94 :: A) u PQ ∧ ∀ r2 u2, PQ r2 u2 → r2 = r ∧ INV (N + 1) u2
theorem SOK_mono {P : PR} {B B2 : Int} {T T2 : Nat} {σ : SG} (h : SOK P B T σ) (hB : B ≤ B2) (hT : T ≤ T2) : SOK P B2 T2 σ := by
  obtain ⟨a, b, ⟨t, c, d⟩, e, f⟩ := h
  exact ⟨a, by omega, ⟨t, by omega, d⟩, e, f⟩
theorem SV_mono {N M : Nat} {P : PR} {σ : SG} (h : SV N P σ) (hM : N ≤ M) : SV M P σ := ⟨SOK_mono h.1 (by omega) (by omega), h.2⟩
theorem NV_mono {N M : Nat} {h : AH} (a : NV N h) (hM : N ≤ M) : NV M h := ⟨a.1, a.2.1, SV_mono a.2.2 hM⟩
theorem IV_mono {N M : Nat} {h : AH} (a : IV N h) (hM : N ≤ M) : IV M h := fun i hi => by
  obtain ⟨b, c⟩ := a i hi
  refine ⟨b, ?_⟩
  rcases c with c | ⟨c, d, e, f⟩
  · exact Or.inl c
  · exact Or.inr ⟨c, d, e, SV_mono f hM⟩
theorem INV_mono {N M : Nat} {h : AH} (a : INV N h) (hM : N ≤ M) : INV M h := ⟨a.1, a.2.1, NV_mono a.2.2.1 hM, IV_mono a.2.2.2.1 hM, a.2.2.2.2⟩
/-- both answer the same and nothing changes -/
theorem OPP.same {yc : MethodName} {cc : ByteArray} {nc fc lc : Nat} {ym : MethodName} {cm : ByteArray} {nm fm lm : Nat} {A : List Value} {N : Nat} {h : AH} (R : Int32) (hI : INV N h) (a : CI yc cc nc (some .int) fc lc (.ref 0 :: A) h (fun r u => r = R ∧ u = h)) (b : CI ym cm nm (some .int) fm lm (.ref 94 :: A) h (fun r u => r = R ∧ u = h)) : OPP yc cc nc fc lc ym cm nm fm lm A N h := by
  refine ⟨_, a, fun r u hp => ?_⟩
  obtain ⟨e1, e2⟩ := hp
  subst e2
  exact ⟨_, b, fun r2 u2 hq => ⟨by rw [hq.1, e1], by rw [hq.2]; exact INV_mono hI (by omega)⟩⟩
/-! numbers of nodes and gates -/
theorem nd1 {x : Int32} {m : Nat} (hm : m ≤ 10) : (0 ≤ x ∧ x < nI m) ↔ ∃ k, k < m ∧ x = nI k := by
  constructor
  · rintro ⟨h1, h2⟩
    rw [Int32.le_iff_toInt_le, zi_z] at h1
    obtain ⟨e1, e2, e3⟩ := zi_of h1
    rw [Int32.lt_iff_toInt_lt, nI_toInt (by omega)] at h2
    exact ⟨x.toNatClampNeg, by omega, e1⟩
  · rintro ⟨k, hk, rfl⟩
    exact ⟨by rw [k_0]; exact nI_le (Nat.zero_le _) (by omega), nI_lt hk (by omega)⟩
theorem nsub {m j : Nat} (hm : m ≤ 10) (hj : j ≤ 2) : (nI m - nI j).toInt = (m : Int) - j := by
  rw [zi_sub, nI_toInt (by omega), nI_toInt (by omega)] <;> rw [nI_toInt (by omega), nI_toInt (by omega)] <;> omega
theorem nd2 {x : Int32} {m : Nat} (hm : m ≤ 10) : (0 ≤ x ∧ x ≤ nI m - 1) ↔ ∃ k, k < m ∧ x = nI k := by
  rw [← nd1 hm, k_1, Int32.le_iff_toInt_le (x := x), nsub hm (by omega), Int32.lt_iff_toInt_lt, nI_toInt (by omega)]
  constructor
  · rintro ⟨a, b⟩; exact ⟨a, by omega⟩
  · rintro ⟨a, b⟩; exact ⟨a, by omega⟩
theorem gt1 {x : Int32} {m : Nat} (hm : m ≤ 10) : (0 ≤ x ∧ x < nI m - 1) ↔ ∃ k, k + 1 < m ∧ x = nI k := by
  constructor
  · rintro ⟨h1, h2⟩
    rw [Int32.le_iff_toInt_le, zi_z] at h1
    obtain ⟨e1, e2, e3⟩ := zi_of h1
    rw [Int32.lt_iff_toInt_lt, k_1, nsub hm (by omega)] at h2
    exact ⟨x.toNatClampNeg, by omega, e1⟩
  · rintro ⟨k, hk, rfl⟩
    refine ⟨by rw [k_0]; exact nI_le (Nat.zero_le _) (by omega), ?_⟩
    rw [Int32.lt_iff_toInt_lt, k_1, nsub hm (by omega), nI_toInt (by omega)]
    omega
theorem gt2 {x : Int32} {m : Nat} (hm : m ≤ 10) : (0 ≤ x ∧ x ≤ nI m - 2) ↔ ∃ k, k + 1 < m ∧ x = nI k := by
  rw [← gt1 hm, k_2, k_1, Int32.le_iff_toInt_le (x := x), nsub hm (by omega), Int32.lt_iff_toInt_lt, nsub hm (by omega)]
  constructor
  · rintro ⟨a, b⟩; exact ⟨a, by omega⟩
  · rintro ⟨a, b⟩; exact ⟨a, by omega⟩

set_option maxRecDepth 100000 in
set_option maxHeartbeats 4000000 in
theorem sg_X6_fault_0 {Z : CX × GX} {post : Int32 → AH → Prop} {h : AH}  (hX : OK Z RX6 cX6_fault 1 (some .int) 0 0) 
    (w : post (h.1 0 13) h)
    : EX Z 1 (QI Z post) 0 h [some (.ref 0)] [] := by
  refine ex_aload_n hX dX6_fault_0 rfl rfl ?_
  refine ex_get hX (.int (h.1 0 13)) FL_6_68 rfl (fun _ => rfl) dX6_fault_1 ?_
  exact ex_iret hX dX6_fault_4 rfl w

set_option maxRecDepth 100000 in
set_option maxHeartbeats 4000000 in
theorem sg_X7_fault_0 {Z : CX × GX} {post : Int32 → AH → Prop} {h : AH}  (hX : OK Z RX7 cX7_fault 1 (some .int) 0 0) 
    (w : post (h.1 94 22) h)
    : EX Z 1 (QI Z post) 0 h [some (.ref 94)] [] := by
  refine ex_aload_n hX dX7_fault_0 rfl rfl ?_
  refine ex_get hX (.int (h.1 94 22)) FL_7_50 rfl (fun _ => rfl) dX7_fault_1 ?_
  exact ex_iret hX dX7_fault_4 rfl w

set_option maxRecDepth 100000 in
set_option maxHeartbeats 4000000 in
theorem sg_X6_gate_0 {Z : CX × GX} {post : Int32 → AH → Prop} {h : AH} {x1 : Int32} {x2 : Int32} (hX : OK Z RX6 cX6_gate 3 (some .int) 1 21) 
    (w : (((0 ≤ x1 ∧ x1 < h.1 (h.2 1) 0 - 1) → ((x2 = 0 → (vp_in x1 9) ∧ post (h.1 (27 + 3) (Int32.toNatClampNeg x1)) h) ∧ (¬ x2 = 0 → ((x2 = 1 → (vp_in x1 9) ∧ (∀ v8 : Int32, v8 = h.1 ((h.2 1) + 5) (Int32.toNatClampNeg x1) → post v8 h)) ∧ (¬ x2 = 1 → ((x2 = 2 → (vp_in x1 9) ∧ post (h.1 (27 + 4) (Int32.toNatClampNeg x1)) h) ∧ (¬ x2 = 2 → ((x2 = 3 → (vp_in x1 9) ∧ post (h.1 (27 + 5) (Int32.toNatClampNeg x1)) h) ∧ (¬ x2 = 3 → ((x2 = 4 → (vp_in x1 9) ∧ post (h.1 (27 + 6) (Int32.toNatClampNeg x1)) h) ∧ (¬ x2 = 4 → post (-100000002) h))))))))))) ∧ (¬ (0 ≤ x1 ∧ x1 < h.1 (h.2 1) 0 - 1) → post (-100000001) h)))
    : EX Z 3 (QI Z post) 0 h [some (.ref 0), some (.int x1), some (.int x2)] [] := by
  refine ex_aload_n hX dX6_gate_0 rfl rfl ?_
  refine ex_gg (fun c1 => ?_)
  refine ex_get hX (.ref (h.2 1)) FL_6_19 rfl (fun _ => rfl) dX6_gate_1 ?_
  refine ex_iload_n hX dX6_gate_4 rfl rfl ?_
  refine ex_pIv (ci := 0) (i := h.2 1) (As := [.int x1]) (st := []) hX (c_X0_isGate (h := h) c1.1) CS_6_144 MS_X0_isGate rfl c1.1 rfl (by decide) rfl (Nat.le_of_ble_eq_true rfl) dX6_gate_5 ?_
  refine ex_ifneB hX 14 dX6_gate_8 (by decide) (fun c2 => ?_) (fun c2 => ?_)
  · replace w := w.1 c2
    refine ex_iload_n hX dX6_gate_14 rfl rfl ?_
    by_cases c3 : x2 = 0
    · replace w := w.1 c3
      refine ex_tabIn hX 48 dX6_gate_15 (by rw [c3]; decide) (by rw [c3]; decide) (by rw [c3]; rfl) (by decide) ?_
      refine ex_aload_n hX dX6_gate_48 rfl rfl ?_
      refine ex_get hX (.ref 27) FL_6_39 rfl (fun _ => rfl) dX6_gate_49 ?_
      refine ex_get hX (.ref (27 + 3)) FL_6_147 rfl (fun _ => rfl) dX6_gate_52 ?_
      refine ex_iload_n hX dX6_gate_55 rfl rfl ?_
      obtain ⟨q4, w⟩ := w
      refine ex_iald hX (sh_3_3 rfl) q4 dX6_gate_56 ?_
      exact ex_iret hX dX6_gate_57 rfl w
    replace w := w.2 c3
    by_cases c5 : x2 = 1
    · replace w := w.1 c5
      refine ex_tabIn hX 58 dX6_gate_15 (by rw [c5]; decide) (by rw [c5]; decide) (by rw [c5]; rfl) (by decide) ?_
      refine ex_aload_n hX dX6_gate_58 rfl rfl ?_
      refine ex_gg (fun c6 => ?_)
      refine ex_get hX (.ref (h.2 1)) FL_6_19 rfl (fun _ => rfl) dX6_gate_59 ?_
      refine ex_get hX (.ref ((h.2 1) + 5)) FL_6_150 c6.1 (fun _ => rfl) dX6_gate_62 ?_
      refine ex_iload_n hX dX6_gate_65 rfl rfl ?_
      obtain ⟨q7, w⟩ := w
      refine ex_iald hX (sh_0_5 c6.1) q7 dX6_gate_66 ?_
      refine ex_nameI (fun v8 ev8 => ?_)
      replace w := w v8 ev8
      exact ex_iret hX dX6_gate_67 rfl w
    replace w := w.2 c5
    by_cases c9 : x2 = 2
    · replace w := w.1 c9
      refine ex_tabIn hX 68 dX6_gate_15 (by rw [c9]; decide) (by rw [c9]; decide) (by rw [c9]; rfl) (by decide) ?_
      refine ex_aload_n hX dX6_gate_68 rfl rfl ?_
      refine ex_get hX (.ref 27) FL_6_39 rfl (fun _ => rfl) dX6_gate_69 ?_
      refine ex_get hX (.ref (27 + 4)) FL_6_153 rfl (fun _ => rfl) dX6_gate_72 ?_
      refine ex_iload_n hX dX6_gate_75 rfl rfl ?_
      obtain ⟨q10, w⟩ := w
      refine ex_iald hX (sh_3_4 rfl) q10 dX6_gate_76 ?_
      exact ex_iret hX dX6_gate_77 rfl w
    replace w := w.2 c9
    by_cases c11 : x2 = 3
    · replace w := w.1 c11
      refine ex_tabIn hX 78 dX6_gate_15 (by rw [c11]; decide) (by rw [c11]; decide) (by rw [c11]; rfl) (by decide) ?_
      refine ex_aload_n hX dX6_gate_78 rfl rfl ?_
      refine ex_get hX (.ref 27) FL_6_39 rfl (fun _ => rfl) dX6_gate_79 ?_
      refine ex_get hX (.ref (27 + 5)) FL_6_156 rfl (fun _ => rfl) dX6_gate_82 ?_
      refine ex_iload_n hX dX6_gate_85 rfl rfl ?_
      obtain ⟨q12, w⟩ := w
      refine ex_iald hX (sh_3_5 rfl) q12 dX6_gate_86 ?_
      exact ex_iret hX dX6_gate_87 rfl w
    replace w := w.2 c11
    by_cases c13 : x2 = 4
    · replace w := w.1 c13
      refine ex_tabIn hX 88 dX6_gate_15 (by rw [c13]; decide) (by rw [c13]; decide) (by rw [c13]; rfl) (by decide) ?_
      refine ex_aload_n hX dX6_gate_88 rfl rfl ?_
      refine ex_get hX (.ref 27) FL_6_39 rfl (fun _ => rfl) dX6_gate_89 ?_
      refine ex_get hX (.ref (27 + 6)) FL_6_159 rfl (fun _ => rfl) dX6_gate_92 ?_
      refine ex_iload_n hX dX6_gate_95 rfl rfl ?_
      obtain ⟨q14, w⟩ := w
      refine ex_iald hX (sh_3_6 rfl) q14 dX6_gate_96 ?_
      exact ex_iret hX dX6_gate_97 rfl w
    replace w := w.2 c13
    refine ex_tabOut hX 98 dX6_gate_15 (tabout 4 (by decide) (fun k hk => by rcases (show k = 0 ∨ k = 1 ∨ k = 2 ∨ k = 3 ∨ k = 4 by omega) with rfl | rfl | rfl | rfl | rfl <;> assumption)) (by decide) ?_
    refine ex_ldc hX dX6_gate_98 KC_6_72 ?_
    exact ex_iret hX dX6_gate_100 rfl w
  · replace w := w.2 c2
    refine ex_ldc hX dX6_gate_11 KC_6_126 ?_
    exact ex_iret hX dX6_gate_13 rfl w

set_option maxRecDepth 100000 in
set_option maxHeartbeats 4000000 in
theorem sg_X7_gate_0 {Z : CX × GX} {post : Int32 → AH → Prop} {h : AH} {x1 : Int32} {x2 : Int32} (hX : OK Z RX7 cX7_gate 3 (some .int) 2 46) 
    (w : (((0 ≤ x1 ∧ x1 ≤ h.1 94 9 - 2) → ((x2 = 0 → (vp_in (10 + x1) 800) ∧ post (h.1 95 (Int32.toNatClampNeg (10 + x1))) h) ∧ (¬ x2 = 0 → ((x2 = 1 → (vp_in x1 20) ∧ post (h.1 103 (Int32.toNatClampNeg x1)) h) ∧ (¬ x2 = 1 → ((x2 = 2 → (vp_in (20 + x1) 800) ∧ post (h.1 95 (Int32.toNatClampNeg (20 + x1))) h) ∧ (¬ x2 = 2 → ((x2 = 3 → (vp_in (30 + x1) 800) ∧ post (h.1 95 (Int32.toNatClampNeg (30 + x1))) h) ∧ (¬ x2 = 3 → ((x2 = 4 → (vp_in (40 + x1) 800) ∧ post (h.1 95 (Int32.toNatClampNeg (40 + x1))) h) ∧ (¬ x2 = 4 → post (-100000002) h))))))))))) ∧ (¬ (0 ≤ x1 ∧ x1 ≤ h.1 94 9 - 2) → post (-100000001) h)))
    : EX Z 3 (QI Z post) 0 h [some (.ref 94), some (.int x1), some (.int x2)] [] := by
  refine ex_aload_n hX dX7_gate_0 rfl rfl ?_
  refine ex_iload_n hX dX7_gate_1 rfl rfl ?_
  refine ex_pIv (ci := 7) (i := 94) (As := [.int x1]) (st := []) hX (c_X7_isGate (h := h)) CS_7_192 MS_X7_isGate rfl rfl rfl (by decide) rfl (Nat.le_of_ble_eq_true rfl) dX7_gate_2 ?_
  refine ex_ifneB hX 11 dX7_gate_5 (by decide) (fun c1 => ?_) (fun c1 => ?_)
  · replace w := w.1 c1
    refine ex_iload_n hX dX7_gate_11 rfl rfl ?_
    by_cases c2 : x2 = 0
    · replace w := w.1 c2
      refine ex_tabIn hX 48 dX7_gate_12 (by rw [c2]; decide) (by rw [c2]; decide) (by rw [c2]; rfl) (by decide) ?_
      refine ex_aload_n hX dX7_gate_48 rfl rfl ?_
      refine ex_get hX (.ref 95) FL_7_7 rfl (fun _ => rfl) dX7_gate_49 ?_
      refine ex_bipush (v := 10) hX dX7_gate_52 rfl ?_
      refine ex_iload_n hX dX7_gate_54 rfl rfl ?_
      refine ex_iadd hX dX7_gate_55 ?_
      obtain ⟨q3, w⟩ := w
      refine ex_iald hX rfl q3 dX7_gate_56 ?_
      exact ex_iret hX dX7_gate_57 rfl w
    replace w := w.2 c2
    by_cases c4 : x2 = 1
    · replace w := w.1 c4
      refine ex_tabIn hX 58 dX7_gate_12 (by rw [c4]; decide) (by rw [c4]; decide) (by rw [c4]; rfl) (by decide) ?_
      refine ex_aload_n hX dX7_gate_58 rfl rfl ?_
      refine ex_get hX (.ref 103) FL_7_35 rfl (fun _ => rfl) dX7_gate_59 ?_
      refine ex_iload_n hX dX7_gate_62 rfl rfl ?_
      obtain ⟨q5, w⟩ := w
      refine ex_iald hX rfl q5 dX7_gate_63 ?_
      exact ex_iret hX dX7_gate_64 rfl w
    replace w := w.2 c4
    by_cases c6 : x2 = 2
    · replace w := w.1 c6
      refine ex_tabIn hX 65 dX7_gate_12 (by rw [c6]; decide) (by rw [c6]; decide) (by rw [c6]; rfl) (by decide) ?_
      refine ex_aload_n hX dX7_gate_65 rfl rfl ?_
      refine ex_get hX (.ref 95) FL_7_7 rfl (fun _ => rfl) dX7_gate_66 ?_
      refine ex_bipush (v := 20) hX dX7_gate_69 rfl ?_
      refine ex_iload_n hX dX7_gate_71 rfl rfl ?_
      refine ex_iadd hX dX7_gate_72 ?_
      obtain ⟨q7, w⟩ := w
      refine ex_iald hX rfl q7 dX7_gate_73 ?_
      exact ex_iret hX dX7_gate_74 rfl w
    replace w := w.2 c6
    by_cases c8 : x2 = 3
    · replace w := w.1 c8
      refine ex_tabIn hX 75 dX7_gate_12 (by rw [c8]; decide) (by rw [c8]; decide) (by rw [c8]; rfl) (by decide) ?_
      refine ex_aload_n hX dX7_gate_75 rfl rfl ?_
      refine ex_get hX (.ref 95) FL_7_7 rfl (fun _ => rfl) dX7_gate_76 ?_
      refine ex_bipush (v := 30) hX dX7_gate_79 rfl ?_
      refine ex_iload_n hX dX7_gate_81 rfl rfl ?_
      refine ex_iadd hX dX7_gate_82 ?_
      obtain ⟨q9, w⟩ := w
      refine ex_iald hX rfl q9 dX7_gate_83 ?_
      exact ex_iret hX dX7_gate_84 rfl w
    replace w := w.2 c8
    by_cases c10 : x2 = 4
    · replace w := w.1 c10
      refine ex_tabIn hX 85 dX7_gate_12 (by rw [c10]; decide) (by rw [c10]; decide) (by rw [c10]; rfl) (by decide) ?_
      refine ex_aload_n hX dX7_gate_85 rfl rfl ?_
      refine ex_get hX (.ref 95) FL_7_7 rfl (fun _ => rfl) dX7_gate_86 ?_
      refine ex_bipush (v := 40) hX dX7_gate_89 rfl ?_
      refine ex_iload_n hX dX7_gate_91 rfl rfl ?_
      refine ex_iadd hX dX7_gate_92 ?_
      obtain ⟨q11, w⟩ := w
      refine ex_iald hX rfl q11 dX7_gate_93 ?_
      exact ex_iret hX dX7_gate_94 rfl w
    replace w := w.2 c10
    refine ex_tabOut hX 95 dX7_gate_12 (tabout 4 (by decide) (fun k hk => by rcases (show k = 0 ∨ k = 1 ∨ k = 2 ∨ k = 3 ∨ k = 4 by omega) with rfl | rfl | rfl | rfl | rfl <;> assumption)) (by decide) ?_
    refine ex_ldc hX dX7_gate_95 KC_7_75 ?_
    exact ex_iret hX dX7_gate_97 rfl w
  · replace w := w.2 c1
    refine ex_ldc hX dX7_gate_8 KC_7_185 ?_
    exact ex_iret hX dX7_gate_10 rfl w

set_option maxRecDepth 100000 in
set_option maxHeartbeats 4000000 in
theorem c_X6_fault {h : AH}   (hF : FV h) : CI yX6_fault cX6_fault 1 (some .int) 0 0 [.ref 0] h (fun r u => r = h.1 94 22 ∧ u = h) := by
  refine CI.of [some (.ref 0)] (by decide +kernel) rfl (Nat.le_of_ble_eq_true rfl) rfl (fun Z hX => ?_)
  exact sg_X6_fault_0 hX ⟨hF, rfl⟩

set_option maxRecDepth 100000 in
set_option maxHeartbeats 4000000 in
theorem c_X7_fault {h : AH}    : CI yX7_fault cX7_fault 1 (some .int) 0 0 [.ref 94] h (fun r u => r = h.1 94 22 ∧ u = h) := by
  refine CI.of [some (.ref 94)] (by decide +kernel) rfl (Nat.le_of_ble_eq_true rfl) rfl (fun Z hX => ?_)
  exact sg_X7_fault_0 hX ⟨rfl, rfl⟩

theorem op_fault {N : Nat} {h : AH} (hI : INV N h) : OPP yX6_fault cX6_fault 1 0 0 yX7_fault cX7_fault 1 0 0 [] N h := OPP.same _ hI (c_X6_fault hI.2.2.2.2.2.1) c_X7_fault
def gateS (P : PR) (σ : SG) (k w : Int32) : Int32 := if 0 ≤ k ∧ k < nI (pn P) - 1 then (if w = 0 then σ (10 + k.toNatClampNeg) else if w = 1 then pto P k.toNatClampNeg else if w = 2 then σ (20 + k.toNatClampNeg) else if w = 3 then σ (30 + k.toNatClampNeg) else if w = 4 then σ (40 + k.toNatClampNeg) else -100000002) else -100000001
theorem pn_C {f : Nat → SG} {c o n : Nat} (h : f c 0 = nI n) (hn : n ≤ 10) : pn (PC f c o) = n := by
  show (f c 0).toNatClampNeg = n
  rw [h, nI_clamp (by omega)]
theorem pn_M {f : Nat → SG} {n : Nat} (h : f 94 9 = nI n) (hn : n ≤ 10) : pn (PM f) = n := by
  show (f 94 9).toNatClampNeg = n
  rw [h, nI_clamp (by omega)]

set_option maxRecDepth 100000 in
set_option maxHeartbeats 4000000 in
theorem c_X6_gate {h : AH} {a1 : Int32} {a2 : Int32}  {n : Nat} (hn : n ≤ 10) (en : h.1 (h.2 1) 0 = nI n) : CI yX6_gate cX6_gate 3 (some .int) 1 21 [.ref 0, .int a1, .int a2] h (fun r u => r = gateS (PC h.1 (h.2 1) (h.2 3)) (mk (cs h.1 27)) a1 a2 ∧ u = h) := by
  refine CI.of [some (.ref 0), some (.int a1), some (.int a2)] (by decide +kernel) rfl (Nat.le_of_ble_eq_true rfl) rfl (fun Z hX => ?_)
  have ep := pn_C (o := h.2 3) en hn
  refine sg_X6_gate_0 hX ⟨fun c => ?_, fun c => ⟨?_, rfl⟩⟩
  · have c' := c
    rw [en, gt1 hn] at c'
    obtain ⟨k, hk, rfl⟩ := c'
    have bk : vp_in (nI k) 9 := vp_in_nI (by omega) (by omega)
    have ck : Int32.toNatClampNeg (nI k) = k := nI_clamp (by omega)
    rw [en] at c
    have e : ∀ w : Int32, gateS (PC h.1 (h.2 1) (h.2 3)) (mk (cs h.1 27)) (nI k) w = (if w = 0 then mk (cs h.1 27) (10 + k) else if w = 1 then pto (PC h.1 (h.2 1) (h.2 3)) k else if w = 2 then mk (cs h.1 27) (20 + k) else if w = 3 then mk (cs h.1 27) (30 + k) else if w = 4 then mk (cs h.1 27) (40 + k) else -100000002) := fun w => by
      unfold gateS
      rw [ep, if_pos c, ck]
    rw [ck]
    refine ⟨fun w0 => ⟨bk, ?_, rfl⟩, fun w0 => ⟨fun w1 => ⟨bk, fun v ev => ⟨?_, rfl⟩⟩, fun w1 => ⟨fun w2 => ⟨bk, ?_, rfl⟩, fun w2 => ⟨fun w3 => ⟨bk, ?_, rfl⟩, fun w3 => ⟨fun w4 => ⟨bk, ?_, rfl⟩, fun w4 => ⟨?_, rfl⟩⟩⟩⟩⟩⟩
    · rw [e, if_pos w0]; exact mkc_at (loc_10 k (by omega)) (by unfold rel; omega)
    · rw [e, if_neg w0, if_pos w1, ev]; exact (cut_in (show k < 9 by omega)).symm
    · rw [e, if_neg w0, if_neg w1, if_pos w2]; exact mkc_at (loc_20 k (by omega)) (by unfold rel; omega)
    · rw [e, if_neg w0, if_neg w1, if_neg w2, if_pos w3]; exact mkc_at (loc_30 k (by omega)) (by unfold rel; omega)
    · rw [e, if_neg w0, if_neg w1, if_neg w2, if_neg w3, if_pos w4]; exact mkc_at (loc_40 k (by omega)) (by unfold rel; omega)
    · rw [e, if_neg w0, if_neg w1, if_neg w2, if_neg w3, if_neg w4]
  · rw [en] at c
    unfold gateS
    rw [ep, if_neg c]

set_option maxRecDepth 100000 in
set_option maxHeartbeats 4000000 in
theorem c_X7_gate {h : AH} {a1 : Int32} {a2 : Int32}  {n : Nat} (hn : n ≤ 10) (en : h.1 94 9 = nI n) : CI yX7_gate cX7_gate 3 (some .int) 2 46 [.ref 94, .int a1, .int a2] h (fun r u => r = gateS (PM h.1) (mk (ms h.1 0)) a1 a2 ∧ u = h) := by
  refine CI.of [some (.ref 94), some (.int a1), some (.int a2)] (by decide +kernel) rfl (Nat.le_of_ble_eq_true rfl) rfl (fun Z hX => ?_)
  have ep := pn_M en hn
  refine sg_X7_gate_0 hX ⟨fun c => ?_, fun c => ⟨?_, rfl⟩⟩
  · rw [en, gt2 hn] at c
    have c2 := (gt1 hn).mpr c
    obtain ⟨k, hk, rfl⟩ := c
    have ck : Int32.toNatClampNeg (nI k) = k := nI_clamp (by omega)
    have e : ∀ w : Int32, gateS (PM h.1) (mk (ms h.1 0)) (nI k) w = (if w = 0 then mk (ms h.1 0) (10 + k) else if w = 1 then pto (PM h.1) k else if w = 2 then mk (ms h.1 0) (20 + k) else if w = 3 then mk (ms h.1 0) (30 + k) else if w = 4 then mk (ms h.1 0) (40 + k) else -100000002) := fun w => by
      unfold gateS
      rw [ep, if_pos c2, ck]
    have bx : ∀ d : Nat, d ≤ 40 → vp_in (nI d + nI k) 800 := fun d hd => by rw [nI_add]; exact vp_in_nI (by omega) (by omega)
    have ix : ∀ d : Nat, d ≤ 40 → Int32.toNatClampNeg (nI d + nI k) = d + k := fun d hd => by rw [nI_add, nI_clamp (by omega)]
    have rx : ∀ d : Nat, (d = 10 ∨ d = 20 ∨ d = 30 ∨ d = 40) → h.1 95 (d + k) = mk (ms h.1 0) (d + k) := fun d hd => by
      have := mk_at (f := h.1) (ρ := 0) (k := d + k) (by unfold rel; omega)
      rw [Nat.zero_add] at this
      exact this
    refine ⟨fun w0 => ⟨bx 10 (by omega), ?_, rfl⟩, fun w0 => ⟨fun w1 => ⟨vp_in_nI (by omega) (by omega), ?_, rfl⟩, fun w1 => ⟨fun w2 => ⟨bx 20 (by omega), ?_, rfl⟩, fun w2 => ⟨fun w3 => ⟨bx 30 (by omega), ?_, rfl⟩, fun w3 => ⟨fun w4 => ⟨bx 40 (by omega), ?_, rfl⟩, fun w4 => ⟨?_, rfl⟩⟩⟩⟩⟩⟩
    · rw [e, if_pos w0, k_10, ix 10 (by omega)]; exact rx 10 (by omega)
    · rw [e, if_neg w0, if_pos w1, ck]; exact (cut_in (show k < 9 by omega)).symm
    · rw [e, if_neg w0, if_neg w1, if_pos w2, k_20, ix 20 (by omega)]; exact rx 20 (by omega)
    · rw [e, if_neg w0, if_neg w1, if_neg w2, if_pos w3, k_30, ix 30 (by omega)]; exact rx 30 (by omega)
    · rw [e, if_neg w0, if_neg w1, if_neg w2, if_neg w3, if_pos w4, k_40, ix 40 (by omega)]; exact rx 40 (by omega)
    · rw [e, if_neg w0, if_neg w1, if_neg w2, if_neg w3, if_neg w4]
  · rw [en, gt2 hn, ← gt1 hn] at c
    unfold gateS
    rw [ep, if_neg c]

theorem op_gate {N : Nat} {h : AH} {k w : Int32} (hI : INV N h) : OPP yX6_gate cX6_gate 3 1 21 yX7_gate cX7_gate 3 2 46 [.int k, .int w] N h := by
  obtain ⟨n, hn, e1, e2, -⟩ := hI.2.1.2.1
  refine OPP.same _ hI (c_X6_gate hn e1) ?_
  rw [hI.2.1.1, hI.2.2.1.1]
  exact c_X7_gate hn e2
