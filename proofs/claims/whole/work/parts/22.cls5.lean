theorem loc_val : ∀ k, k < 144 → ∀ q ∈ loc k, (q.1 = 1 ∧ q.2 < 10) ∨ ((q.1 = 3 ∨ q.1 = 4 ∨ q.1 = 5 ∨ q.1 = 6) ∧ q.2 < 9) ∨ (q.1 = 0 ∧ q.2 < 2) ∨ (q.1 = 7 ∧ q.2 = 0) ∨ (8 ≤ q.1 ∧ q.1 ≤ 14 ∧ q.2 < 12) := by
  intro k hk q hq
  have h := (by decide +kernel : ∀ k, k < 144 → (match loc k with | some q => decide ((q.1 = 1 ∧ q.2 < 10) ∨ ((q.1 = 3 ∨ q.1 = 4 ∨ q.1 = 5 ∨ q.1 = 6) ∧ q.2 < 9) ∨ (q.1 = 0 ∧ q.2 < 2) ∨ (q.1 = 7 ∧ q.2 = 0) ∨ (8 ≤ q.1 ∧ q.1 ≤ 14 ∧ q.2 < 12)) | none => true) = true) k hk
  rw [Option.mem_def.mp hq] at h
  exact of_decide_eq_true h
/-- rows of a State are copied, one by one -/
def CP (s s2 : Nat) (h u : AH) (D : List (Nat × Nat)) : Prop := FC s h u ∧ ∀ q ∈ D, ∀ j, j < q.2 → u.1 (s + q.1) j = h.1 (s2 + q.1) j
theorem CP.row {s s2 a n : Nat} {h u v : AH} {D : List (Nat × Nat)} (hv : v = hcp (u.1, u.2) (s2 + a) (s + a) n) (hd : ∀ q ∈ D, q.1 ≠ a) (ha : a < 15) (hs : s2 + 15 ≤ s ∨ s + 15 ≤ s2) (hC : CP s s2 h u D) : CP s s2 h v ((a, n) :: D) := by
  subst hv
  refine ⟨⟨hC.1.1, fun i hi => (hcp_ne (by omega)).trans (hC.1.2 i hi)⟩, fun q hq j hj => ?_⟩
  rcases List.mem_cons.mp hq with rfl | hq
  · rw [hcp_in hj]; exact congrFun (hC.1.2 (s2 + a) (by omega)) j
  · have := hd q hq
    rw [hcp_ne (by omega)]
    exact hC.2 q hq j hj
theorem CP.keep {s s2 : Nat} {h u v : AH} {D : List (Nat × Nat)} (hC : CP s s2 h u D) (hF : FC s u v) (hk : ∀ q ∈ D, v.1 (s + q.1) = u.1 (s + q.1)) : CP s s2 h v D := ⟨hC.1.tr hF, fun q hq j hj => by rw [hk q hq]; exact hC.2 q hq j hj⟩

set_option maxRecDepth 100000 in
set_option maxHeartbeats 4000000 in
theorem c_X5_copyAll {h : AH} {a0 : Nat} {a1 : Nat} (ha0 : oc a0 = some 5) (ha1 : oc a1 = some 5) {s s2 : Nat} (e0 : a0 = s + 7) (e1 : a1 = s2 + 7) (hs : s2 + 15 ≤ s ∨ s + 15 ≤ s2) : CV yX5_copyAll cX5_copyAll 2 2 81 [.ref a0, .ref a1] h (fun u => u.2 = h.2 ∧ (∀ i, (i < s + 7 ∨ s + 15 ≤ i) → u.1 i = h.1 i) ∧ u.1 (s + 7) 0 = h.1 (s2 + 7) 0 ∧ ∀ a, 8 ≤ a → a ≤ 14 → ∀ j, j < 12 → u.1 (s + a) j = h.1 (s2 + a) j) := by
  refine CV.of [some (.ref a0), some (.ref a1)] (by decide +kernel) rfl (Nat.le_of_ble_eq_true rfl) rfl (fun Z hX => ?_)
  subst e0; subst e1
  refine sg_X5_copyAll_0 hX ha0 ha1 (fun u1 e1 u2 e2 u3 e3 u4 e4 u5 e5 u6 e6 u7 e7 u8 e8 => ?_)
  have F1 : FC s h u1 := by rw [e1]; exact FC.set (a := 7) (by omega)
  have C1 : CP s s2 h u1 [] := ⟨F1, fun q hq => absurd hq List.not_mem_nil⟩
  have C2 := C1.row (a := 8) (n := 12) e2 (by decide) (by omega) hs
  have C3 := C2.row (a := 9) (n := 12) e3 (by decide) (by omega) hs
  have C4 := C3.row (a := 10) (n := 12) e4 (by decide) (by omega) hs
  have C5 := C4.row (a := 11) (n := 12) e5 (by decide) (by omega) hs
  have C6 := C5.row (a := 12) (n := 12) e6 (by decide) (by omega) hs
  have C7 := C6.row (a := 13) (n := 12) e7 (by decide) (by omega) hs
  have C8 := C7.row (a := 14) (n := 12) e8 (by decide) (by omega) hs
  have lo : ∀ i, i < s + 8 → u8.1 i = u1.1 i := fun i hi => by
    rw [e8, hcp_ne (by omega)]; show u7.1 i = _
    rw [e7, hcp_ne (by omega)]; show u6.1 i = _
    rw [e6, hcp_ne (by omega)]; show u5.1 i = _
    rw [e5, hcp_ne (by omega)]; show u4.1 i = _
    rw [e4, hcp_ne (by omega)]; show u3.1 i = _
    rw [e3, hcp_ne (by omega)]; show u2.1 i = _
    rw [e2, hcp_ne (by omega)]
  refine ⟨C8.1.1, fun i hi => ?_, ?_, fun a h1 h2 j hj => ?_⟩
  · rcases hi with hi | hi
    · rw [lo i (by omega), e1]; exact hset_ne (by omega)
    · exact C8.1.2 i (Or.inr hi)
  · rw [lo (s + 7) (by omega), e1]
    show hset h.1 (s + 7) 0 (h.1 (s2 + 7) 0) (s + 7) 0 = _
    rw [hset_eq, upd_eq]
  · rcases (show a = 8 ∨ a = 9 ∨ a = 10 ∨ a = 11 ∨ a = 12 ∨ a = 13 ∨ a = 14 by omega) with rfl | rfl | rfl | rfl | rfl | rfl | rfl
    · exact C8.2 (8, 12) (by decide) j hj
    · exact C8.2 (9, 12) (by decide) j hj
    · exact C8.2 (10, 12) (by decide) j hj
    · exact C8.2 (11, 12) (by decide) j hj
    · exact C8.2 (12, 12) (by decide) j hj
    · exact C8.2 (13, 12) (by decide) j hj
    · exact C8.2 (14, 12) (by decide) j hj

theorem st_dis {s s2 : Nat} (h1 : oc s = some 3) (h2 : oc s2 = some 3) (hn : s ≠ s2) : s2 + 15 ≤ s ∨ s + 15 ≤ s2 := by
  have a := oc3 h1
  have b := oc3 h2
  omega

set_option maxRecDepth 100000 in
set_option maxHeartbeats 4000000 in
theorem c_X3_becomeAs {h : AH} {a0 : Nat} {a1 : Nat} (ha0 : oc a0 = some 3) (ha1 : oc a1 = some 3) (hne : a0 ≠ a1) : CV yX3_becomeAs cX3_becomeAs 2 3 102 [.ref a0, .ref a1] h (fun u => FC a0 h u ∧ cs u.1 a0 = cs h.1 a1 ∧ u.1 a0 2 = h.1 a1 2) := by
  refine CV.of [some (.ref a0), some (.ref a1)] (by decide +kernel) rfl (Nat.le_of_ble_eq_true rfl) rfl (fun Z hX => ?_)
  have hs := st_dis ha0 ha1 hne
  refine sg_X3_becomeAs_0 hX ha0 ha1 (fun u1 e1 u2 e2 u3 e3 u4 e4 u5 e5 u6 e6 u7 e7 u8 e8 => ⟨_, c_X5_copyAll (s := a0) (s2 := a1) (sh_3_7 ha0) (sh_3_7 ha1) rfl rfl hs, fun u hu => sg_X3_becomeAs_90 hX ?_⟩)
  obtain ⟨g1, g2, g3, g4⟩ := hu
  have F1 : FC a0 h u1 := by rw [e1]; exact FC.set0
  have F2 : FC a0 u1 u2 := by rw [e2]; exact FC.set0
  have F3 : FC a0 u2 u3 := by rw [e3]; exact FC.set0
  have C3 : CP a0 a1 h u3 [] := ⟨(F1.tr F2).tr F3, fun q hq => absurd hq List.not_mem_nil⟩
  have C4 := C3.row (a := 1) (n := 10) e4 (by decide) (by omega) hs
  have C5 := C4.row (a := 3) (n := 9) e5 (by decide) (by omega) hs
  have C6 := C5.row (a := 4) (n := 9) e6 (by decide) (by omega) hs
  have C7 := C6.row (a := 5) (n := 9) e7 (by decide) (by omega) hs
  have C8 := C7.row (a := 6) (n := 9) e8 (by decide) (by omega) hs
  have s3 : ∀ j, j < 3 → u3.1 a0 j = h.1 a1 j := by
    intro j hj
    have z1 : u1.1 a1 = h.1 a1 := F1.2 a1 (by omega)
    have z2 : u2.1 a1 = h.1 a1 := (F2.2 a1 (by omega)).trans z1
    rw [e3]
    show hset u2.1 a0 2 (u2.1 a1 2) a0 j = _
    rw [hset_eq, z2]
    by_cases j2 : j = 2
    · subst j2; rw [upd_eq]
    · rw [upd_ne j2, e2]
      show hset u1.1 a0 1 (u1.1 a1 1) a0 j = _
      rw [hset_eq, z1]
      by_cases j1 : j = 1
      · subst j1; rw [upd_eq]
      · rw [upd_ne j1, e1]
        show hset h.1 a0 0 (h.1 a1 0) a0 j = _
        rw [hset_eq, show j = 0 by omega, upd_eq]
  have s8 : u8.1 a0 = u3.1 a0 := by
    rw [e8, hcp_ne (by omega)]; show u7.1 a0 = _
    rw [e7, hcp_ne (by omega)]; show u6.1 a0 = _
    rw [e6, hcp_ne (by omega)]; show u5.1 a0 = _
    rw [e5, hcp_ne (by omega)]; show u4.1 a0 = _
    rw [e4, hcp_ne (by omega)]
  have w8 : ∀ a, 7 ≤ a → a ≤ 14 → u8.1 (a1 + a) = h.1 (a1 + a) := fun a h1 h2 => C8.1.2 (a1 + a) (by omega)
  refine ⟨⟨g1.trans C8.1.1, fun i hi => (g2 i (by omega)).trans (C8.1.2 i hi)⟩, ?_, ?_⟩
  · funext k
    unfold cs
    cases hl : loc k with
    | none => rfl
    | some q =>
      obtain ⟨a, b⟩ := q
      show u.1 (a0 + a) b = h.1 (a1 + a) b
      rcases loc_val k (loc_lt hl) (a, b) hl with ⟨rfl, hb⟩ | ⟨ha, hb⟩ | ⟨rfl, hb⟩ | ⟨rfl, hb⟩ | ⟨h8, h14, hb⟩
      · rw [g2 (a0 + 1) (by omega)]; exact C8.2 (1, 10) (by decide) b hb
      · dsimp only at ha hb
        rcases ha with rfl | rfl | rfl | rfl
        · rw [g2 (a0 + 3) (by omega)]; exact C8.2 (3, 9) (by decide) b hb
        · rw [g2 (a0 + 4) (by omega)]; exact C8.2 (4, 9) (by decide) b hb
        · rw [g2 (a0 + 5) (by omega)]; exact C8.2 (5, 9) (by decide) b hb
        · rw [g2 (a0 + 6) (by omega)]; exact C8.2 (6, 9) (by decide) b hb
      · dsimp only at hb
        rw [g2 (a0 + 0) (by omega)]
        show u8.1 a0 b = h.1 a1 b
        rw [s8]; exact s3 b (by omega)
      · dsimp only at hb
        subst hb
        rw [g3, w8 7 (by omega) (by omega)]
      · rw [g4 a h8 h14 b hb, w8 a (by dsimp only at h8; omega) h14]
  · rw [g2 a0 (by omega), s8]; exact s3 2 (by omega)
