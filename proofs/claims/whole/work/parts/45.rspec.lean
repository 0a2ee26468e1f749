/-! READING: what a river's text and a plan's text say. A river as far as it is read: places 0 basins, 100.. floor, 200.. area, 300.. water, 400.. width, 500.. toll, 600.. rain, 700.. tide, 808 rain told, 809 tide told, 810 the gates told (a set) -/
def dset (d : Nat → Nat) (p v : Nat) : Nat → Nat := fun j => if j = p then v else d j
theorem ds_eq {d : Nat → Nat} {p v : Nat} : dset d p v p = v := if_pos rfl
theorem ds_ne {d : Nat → Nat} {p v j : Nat} (h : j ≠ p) : dset d p v j = d j := if_neg h
def wB (i j : Nat) : Nat := ((sB.getD i []).getD j 0).toNatClampNeg
def isW (T : Nat → Nat) (L q i : Nat) : Bool := decide (leN T L q - q = sL.getD i 0 ∧ ∀ j, j < sL.getD i 0 → T (q + j) = wB i j)
theorem sL_2 : ∀ i, i < 6 → 2 ≤ sL.getD i 0 := by decide
theorem isW_lt {T : Nat → Nat} {L q i : Nat} (hi : i < 6) (h : isW T L q i = true) : q + 2 ≤ leN T L q ∧ q < L ∧ isLt (T q) = true := by
  obtain ⟨h1, -⟩ := of_decide_eq_true h
  have h2 := sL_2 i hi
  by_cases c : L ≤ q ∨ isLt (T q) = false
  · have : leN T L q = q := sc_no c
    omega
  · refine ⟨by omega, Nat.lt_of_not_le (fun z => c (Or.inl z)), ?_⟩
    cases hb : isLt (T q) with
    | true => rfl
    | false => exact absurd (Or.inr hb) c
section SP
variable {T : Nat → Nat} {L lo hi ch : Nat} {c : Cur} {d : Nat → Nat}
theorem sp_le {p : Nat} (h : p ≤ L) : p ≤ spN T L p ∧ spN T L p ≤ L := sc_le h
theorem le_le {p : Nat} (h : p ≤ L) : p ≤ leN T L p ∧ leN T L p ≤ L := sc_le h
theorem fe_le {p : Nat} (h : p ≤ L) : p ≤ feN T L p ∧ feN T L p ≤ L := sc_le h
theorem sp_sp {p : Nat} (h : p ≤ L) : spN T L (spN T L p) = spN T L p := by
  refine sc_no ?_
  by_cases c : L ≤ spN T L p
  · exact Or.inl c
  · exact Or.inr (sc_end (q := fun j => decide (T j = 32)) h (by show spN T L p < L; omega))
theorem num_f (h : ¬ c.1 = 0) : numC T L lo hi c = (c, 0, 0) := by rw [numC, if_neg h]
theorem sign_f (h : ¬ c.1 = 0) : signC T L ch c = c := by rw [signC, if_neg h]
theorem num_ok (hp : c.1 = 0 → c.2.2 ≤ L) (h : (numC T L lo hi c).1.1 = 0) : c.1 = 0 ∧ (lo ≤ (numC T L lo hi c).2.1 ∧ (numC T L lo hi c).2.1 ≤ hi) ∧ c.2.2 ≤ (numC T L lo hi c).1.2.2 ∧ (numC T L lo hi c).1.2.2 ≤ L := by
  by_cases c0 : c.1 = 0
  · have e : numC T L lo hi c = numQ T L lo hi (spN T L c.2.2) := by rw [numC, if_pos c0]
    rw [e] at h ⊢
    have hq := sp_le (T := T) (hp c0)
    generalize spN T L c.2.2 = q at *
    unfold numQ at h ⊢
    by_cases d : q < L ∧ isFg (T q) = true
    · rw [if_pos d] at h ⊢
      by_cases d2 : feN T L q - q ≤ 4 ∧ lo ≤ decN T q (feN T L q - q) ∧ decN T q (feN T L q - q) ≤ hi
      · rw [if_pos d2] at h ⊢
        have hf := fe_le (T := T) hq.2
        exact ⟨c0, d2.2, by show c.2.2 ≤ feN T L q; omega, by show feN T L q ≤ L; omega⟩
      · rw [if_neg d2] at h
        exact absurd h (by show ¬ (2 : Nat) = 0; omega)
    · rw [if_neg d] at h
      exact absurd h (by show ¬ (1 : Nat) = 0; omega)
  · rw [num_f c0] at h
    exact absurd h c0
theorem num_p (hp : c.1 = 0 → c.2.2 ≤ L) : (numC T L lo hi c).1.1 = 0 → (numC T L lo hi c).1.2.2 ≤ L := fun z => (num_ok hp z).2.2.2
theorem sign_ok (hp : c.1 = 0 → c.2.2 ≤ L) (h : (signC T L ch c).1 = 0) : c.1 = 0 ∧ c.2.2 ≤ (signC T L ch c).2.2 ∧ (signC T L ch c).2.2 ≤ L := by
  by_cases c0 : c.1 = 0
  · have e : signC T L ch c = signQ T L ch (spN T L c.2.2) := by rw [signC, if_pos c0]
    rw [e] at h ⊢
    have hq := sp_le (T := T) (hp c0)
    generalize spN T L c.2.2 = q at *
    unfold signQ at h ⊢
    by_cases d : q < L ∧ T q = ch
    · rw [if_pos d]
      exact ⟨c0, by show c.2.2 ≤ q + 1; omega, by show q + 1 ≤ L; omega⟩
    · rw [if_neg d] at h
      exact absurd h (by show ¬ (1 : Nat) = 0; omega)
  · rw [sign_f c0] at h
    exact absurd h c0
end SP
def bas1 (T : Nat → Nat) (L : Nat) (c : Cur) : Cur × Nat × Nat := numC T L 0 999 c
def bas2 (T : Nat → Nat) (L : Nat) (c : Cur) : Cur × Nat × Nat := numC T L 1 99 (bas1 T L c).1
def bas3 (T : Nat → Nat) (L : Nat) (c : Cur) : Cur × Nat × Nat := numC T L 0 9999 (bas2 T L c).1
def bas4 (T : Nat → Nat) (L : Nat) (c : Cur) : Cur := signC T L 59 (bas3 T L c).1
def basD (T : Nat → Nat) (L : Nat) (c : Cur) (d : Nat → Nat) : Nat → Nat := dset (dset (dset (dset d (100 + d 0) (bas1 T L c).2.1) (200 + d 0) (bas2 T L c).2.1) (300 + d 0) (bas3 T L c).2.1) 0 (d 0 + 1)
def basS (T : Nat → Nat) (L : Nat) (c : Cur) (d : Nat → Nat) : Cur × (Nat → Nat) := (bas4 T L c, if (bas4 T L c).1 = 0 then basD T L c d else d)
theorem bas_f {T : Nat → Nat} {L : Nat} {c : Cur} {d : Nat → Nat} (h : ¬ c.1 = 0) : basS T L c d = (c, d) := by
  have e1 : bas1 T L c = (c, 0, 0) := num_f h
  have e2 : bas2 T L c = (c, 0, 0) := by rw [bas2, e1]; exact num_f h
  have e3 : bas3 T L c = (c, 0, 0) := by rw [bas3, e2]; exact num_f h
  have e4 : bas4 T L c = c := by rw [bas4, e3]; exact sign_f h
  rw [basS, e4, if_neg h]
theorem bas_ok {T : Nat → Nat} {L : Nat} {c : Cur} (hp : c.1 = 0 → c.2.2 ≤ L) (h : (bas4 T L c).1 = 0) : c.1 = 0 ∧ (c.2.2 ≤ (bas4 T L c).2.2 ∧ (bas4 T L c).2.2 ≤ L) ∧ (bas1 T L c).2.1 ≤ 999 ∧ (1 ≤ (bas2 T L c).2.1 ∧ (bas2 T L c).2.1 ≤ 99) ∧ (bas3 T L c).2.1 ≤ 9999 ∧ (bas1 T L c).1.1 = 0 ∧ (bas2 T L c).1.1 = 0 ∧ (bas3 T L c).1.1 = 0 := by
  have p1 : (bas1 T L c).1.1 = 0 → (bas1 T L c).1.2.2 ≤ L := num_p hp
  have p2 : (bas2 T L c).1.1 = 0 → (bas2 T L c).1.2.2 ≤ L := num_p p1
  have p3 : (bas3 T L c).1.1 = 0 → (bas3 T L c).1.2.2 ≤ L := num_p p2
  obtain ⟨a1, a2, a3⟩ := sign_ok (T := T) (ch := 59) p3 h
  obtain ⟨b1, b2, b3, -⟩ := num_ok (T := T) (lo := 0) (hi := 9999) p2 a1
  obtain ⟨d1, d2, d3, -⟩ := num_ok (T := T) (lo := 1) (hi := 99) p1 b1
  obtain ⟨e1, e2, e3, -⟩ := num_ok (T := T) (lo := 0) (hi := 999) hp d1
  have f1 : (bas1 T L c).1.2.2 ≤ (bas2 T L c).1.2.2 := d3
  have f2 : (bas2 T L c).1.2.2 ≤ (bas3 T L c).1.2.2 := b3
  have f3 : (bas3 T L c).1.2.2 ≤ (bas4 T L c).2.2 := a2
  have f0 : c.2.2 ≤ (bas1 T L c).1.2.2 := e3
  exact ⟨e1, ⟨by omega, a3⟩, e2.2, d2, b2.2, d1, b1, a1⟩
/-- a row of hours -/
def rowR (T : Nat → Nat) (L most base : Nat) : Nat → Nat → Cur → (Nat → Nat) → Cur × (Nat → Nat)
  | 0, _, c, d => (c, d)
  | m + 1, i, c, d => if c.1 = 0 then (if (numC T L 0 most c).1.1 = 0 then (if i < 24 then (if spN T L (numC T L 0 most c).1.2.2 < L ∧ T (spN T L (numC T L 0 most c).1.2.2) = 59 then ((0, 0, spN T L (numC T L 0 most c).1.2.2 + 1), dset d (base + i) (numC T L 0 most c).2.1) else if spN T L (numC T L 0 most c).1.2.2 < L ∧ T (spN T L (numC T L 0 most c).1.2.2) = 44 then rowR T L most base m (i + 1) (0, 0, spN T L (numC T L 0 most c).1.2.2 + 1) (dset d (base + i) (numC T L 0 most c).2.1) else ((1, spN T L (numC T L 0 most c).1.2.2, 0), dset d (base + i) (numC T L 0 most c).2.1)) else ((4, (numC T L 0 most c).2.2, 0), d)) else ((numC T L 0 most c).1, d)) else (c, d)
def gat1 (T : Nat → Nat) (L : Nat) (c : Cur) (d : Nat → Nat) : Cur × Nat × Nat := numC T L 0 (d 0 - 1) c
def gatF (T : Nat → Nat) (L : Nat) (c : Cur) (d : Nat → Nat) : Cur := if (d 810).testBit (gat1 T L c d).2.1 = true then findC 3 (gat1 T L c d).2.2 (gat1 T L c d).1 else (gat1 T L c d).1
def gat2 (T : Nat → Nat) (L : Nat) (c : Cur) (d : Nat → Nat) : Cur × Nat × Nat := numC T L 0 9 (gatF T L c d)
def gat3 (T : Nat → Nat) (L : Nat) (c : Cur) (d : Nat → Nat) : Cur × Nat × Nat := numC T L 0 99 (gat2 T L c d).1
def gat4 (T : Nat → Nat) (L : Nat) (c : Cur) (d : Nat → Nat) : Cur := signC T L 59 (gat3 T L c d).1
def gatD (T : Nat → Nat) (L : Nat) (c : Cur) (d : Nat → Nat) : Nat → Nat := dset (dset (dset d 810 (d 810 ||| 2 ^ (gat1 T L c d).2.1)) (400 + (gat1 T L c d).2.1) (gat2 T L c d).2.1) (500 + (gat1 T L c d).2.1) (gat3 T L c d).2.1
def gateR (T : Nat → Nat) (L : Nat) (c : Cur) (d : Nat → Nat) : Cur × (Nat → Nat) := (gat4 T L c d, if (gat4 T L c d).1 = 0 then gatD T L c d else d)
theorem gat_ok {T : Nat → Nat} {L : Nat} {c : Cur} {d : Nat → Nat} (hp : c.1 = 0 → c.2.2 ≤ L) (h : (gat4 T L c d).1 = 0) : c.1 = 0 ∧ (c.2.2 ≤ (gat4 T L c d).2.2 ∧ (gat4 T L c d).2.2 ≤ L) ∧ (gat1 T L c d).2.1 ≤ d 0 - 1 ∧ (gat2 T L c d).2.1 ≤ 9 ∧ (gat3 T L c d).2.1 ≤ 99 ∧ (gat1 T L c d).1.1 = 0 ∧ (d 810).testBit (gat1 T L c d).2.1 = false ∧ (gat2 T L c d).1.1 = 0 ∧ (gat3 T L c d).1.1 = 0 := by
  have p1 : (gat1 T L c d).1.1 = 0 → (gat1 T L c d).1.2.2 ≤ L := num_p hp
  have q0 : (gatF T L c d).1 = 0 → (d 810).testBit (gat1 T L c d).2.1 = false ∧ gatF T L c d = (gat1 T L c d).1 := by
    intro z
    by_cases b : (d 810).testBit (gat1 T L c d).2.1 = true
    · rw [gatF, if_pos b, findC] at z
      by_cases g : (gat1 T L c d).1.1 = 0
      · rw [if_pos g] at z
        exact absurd z (by show ¬ (3 : Nat) = 0; omega)
      · rw [if_neg g] at z
        exact absurd z g
    · exact ⟨by simpa using b, by rw [gatF, if_neg b]⟩
  have pF : (gatF T L c d).1 = 0 → (gatF T L c d).2.2 ≤ L := fun z => by
    have := (q0 z).2
    rw [this] at z ⊢
    exact p1 z
  have p2 : (gat2 T L c d).1.1 = 0 → (gat2 T L c d).1.2.2 ≤ L := num_p pF
  have p3 : (gat3 T L c d).1.1 = 0 → (gat3 T L c d).1.2.2 ≤ L := num_p p2
  obtain ⟨a1, a2, a3⟩ := sign_ok (T := T) (ch := 59) p3 h
  obtain ⟨b1, b2, b3, -⟩ := num_ok (T := T) (lo := 0) (hi := 99) p2 a1
  obtain ⟨d1, d2, d3, -⟩ := num_ok (T := T) (lo := 0) (hi := 9) pF b1
  obtain ⟨g1, g2⟩ := q0 d1
  have d1' := d1
  rw [g2] at d1'
  obtain ⟨e1, e2, e3, -⟩ := num_ok (T := T) (lo := 0) (hi := d 0 - 1) hp d1'
  have f1 : (gatF T L c d).2.2 ≤ (gat2 T L c d).1.2.2 := d3
  rw [g2] at f1
  have f2 : (gat2 T L c d).1.2.2 ≤ (gat3 T L c d).1.2.2 := b3
  have f3 : (gat3 T L c d).1.2.2 ≤ (gat4 T L c d).2.2 := a2
  have f0 : c.2.2 ≤ (gat1 T L c d).1.2.2 := e3
  exact ⟨e1, ⟨by omega, a3⟩, e2.2, d2.2, b2.2, d1', g1, b1, a1⟩
/-- a clause that begins at q -/
def clauseS (T : Nat → Nat) (L q : Nat) (d : Nat → Nat) : Cur × (Nat → Nat) :=
  if isW T L q 0 = true then basS T L (if d 0 = 0 then (0, 0, leN T L q) else (3, q, 0)) d
  else if d 0 = 0 then ((1, q, 0), d)
  else if isW T L q 1 = true then basS T L (if d 810 = 0 then (if d 0 < 9 then (0, 0, leN T L q) else (3, q, 0)) else (1, q, 0)) d
  else if isW T L q 2 = true then ((rowR T L 99 600 25 0 (if d 808 = 0 then (0, 0, leN T L q) else (3, q, 0)) d).1, dset (rowR T L 99 600 25 0 (if d 808 = 0 then (0, 0, leN T L q) else (3, q, 0)) d).2 808 1)
  else if isW T L q 3 = true then ((rowR T L 999 700 25 0 (if d 809 = 0 then (0, 0, leN T L q) else (3, q, 0)) d).1, dset (rowR T L 999 700 25 0 (if d 809 = 0 then (0, 0, leN T L q) else (3, q, 0)) d).2 809 1)
  else if isW T L q 4 = true then gateR T L (0, 0, leN T L q) d
  else ((1, q, 0), d)
def riverS (T : Nat → Nat) (L : Nat) : Nat → Cur → (Nat → Nat) → Cur × (Nat → Nat)
  | 0, c, d => (c, d)
  | m + 1, c, d => if c.1 = 0 ∧ spN T L c.2.2 < L then riverS T L m (clauseS T L (spN T L c.2.2) d).1 (clauseS T L (spN T L c.2.2) d).2 else (c, d)
def d0S : Nat → Nat := fun p => if 400 ≤ p ∧ p < 500 then 5 else if 500 ≤ p ∧ p < 600 then 1 else if 600 ≤ p ∧ p < 700 then 50 else 0
def WFd (d : Nat → Nat) : Prop := d 0 ≤ 9 ∧ d 808 ≤ 1 ∧ d 809 ≤ 1 ∧ d 810 < 512 ∧ (∀ k, k < 10 → (k < d 0 → 1 ≤ d (200 + k) ∧ d (200 + k) ≤ 99 ∧ d (100 + k) ≤ 999 ∧ d (300 + k) ≤ 9999) ∧ (¬ k < d 0 → d (100 + k) = 0 ∧ d (200 + k) = 0 ∧ d (300 + k) = 0)) ∧ (∀ k, k < 9 → d (400 + k) ≤ 9 ∧ d (500 + k) ≤ 99) ∧ ∀ k, k < 24 → d (600 + k) ≤ 99 ∧ d (700 + k) ≤ 999
theorem WF_0 : WFd d0S := by
  refine ⟨by decide, by decide, by decide, by decide, fun k hk => ⟨fun h => absurd h (by show ¬ k < d0S 0; rw [show d0S 0 = 0 from rfl]; omega), fun _ => ?_⟩, fun k hk => ?_, fun k hk => ?_⟩ <;> unfold d0S
  · refine ⟨?_, ?_, ?_⟩ <;> rw [if_neg (by omega), if_neg (by omega), if_neg (by omega)]
  · rw [if_pos (by omega), if_neg (by omega), if_pos (by omega)]
    omega
  · rw [if_neg (by omega), if_neg (by omega), if_pos (by omega), if_neg (by omega), if_neg (by omega), if_neg (by omega)]
    omega
theorem WF_row {d : Nat → Nat} {base most k v : Nat} (hb : base = 600 ∧ most = 99 ∨ base = 700 ∧ most = 999) (hk : k < 24) (hv : v ≤ most) (h : WFd d) : WFd (dset d (base + k) v) := by
  obtain ⟨h1, h2, h3, h4, h5, h6, h7⟩ := h
  have o : ∀ j, (j < 600 ∨ 800 ≤ j) → dset d (base + k) v j = d j := fun j hj => ds_ne (by omega)
  refine ⟨by rw [o 0 (by omega)]; exact h1, by rw [o 808 (by omega)]; exact h2, by rw [o 809 (by omega)]; exact h3, by rw [o 810 (by omega)]; exact h4, fun j hj => ?_, fun j hj => ?_, fun j hj => ?_⟩
  · rw [o 0 (by omega), o (100 + j) (by omega), o (200 + j) (by omega), o (300 + j) (by omega)]; exact h5 j hj
  · rw [o (400 + j) (by omega), o (500 + j) (by omega)]; exact h6 j hj
  · have := h7 j hj
    unfold dset
    refine ⟨?_, ?_⟩ <;> split <;> omega
theorem WF_bas {T : Nat → Nat} {L : Nat} {c : Cur} {d : Nat → Nat} (hp : c.1 = 0 → c.2.2 ≤ L) (h : WFd d) (h9 : d 0 < 9) (hk : (basS T L c d).1.1 = 0) : WFd (basS T L c d).2 := by
  have hk : (bas4 T L c).1 = 0 := hk
  obtain ⟨-, -, v1, v2, v3, -⟩ := bas_ok hp hk
  show WFd (if (bas4 T L c).1 = 0 then basD T L c d else d)
  rw [if_pos hk]
  obtain ⟨h1, h2, h3, h4, h5, h6, h7⟩ := h
  unfold basD
  have o : ∀ j, j ≠ 0 → j ≠ 100 + d 0 → j ≠ 200 + d 0 → j ≠ 300 + d 0 → dset (dset (dset (dset d (100 + d 0) (bas1 T L c).2.1) (200 + d 0) (bas2 T L c).2.1) (300 + d 0) (bas3 T L c).2.1) 0 (d 0 + 1) j = d j := fun j a b e f => by rw [ds_ne a, ds_ne f, ds_ne e, ds_ne b]
  have z0 : dset (dset (dset (dset d (100 + d 0) (bas1 T L c).2.1) (200 + d 0) (bas2 T L c).2.1) (300 + d 0) (bas3 T L c).2.1) 0 (d 0 + 1) 0 = d 0 + 1 := ds_eq
  refine ⟨by rw [z0]; omega, by rw [o 808 (by omega) (by omega) (by omega) (by omega)]; exact h2, by rw [o 809 (by omega) (by omega) (by omega) (by omega)]; exact h3, by rw [o 810 (by omega) (by omega) (by omega) (by omega)]; exact h4, fun j hj => ?_, fun j hj => ?_, fun j hj => ?_⟩
  · rw [z0]
    have h5j := h5 j hj
    by_cases e : j = d 0
    · subst e
      refine ⟨fun _ => ?_, fun z => absurd z (by omega)⟩
      have e1 : dset (dset (dset (dset d (100 + d 0) (bas1 T L c).2.1) (200 + d 0) (bas2 T L c).2.1) (300 + d 0) (bas3 T L c).2.1) 0 (d 0 + 1) (100 + d 0) = (bas1 T L c).2.1 := by rw [ds_ne (by omega), ds_ne (by omega), ds_ne (by omega), ds_eq]
      have e2 : dset (dset (dset (dset d (100 + d 0) (bas1 T L c).2.1) (200 + d 0) (bas2 T L c).2.1) (300 + d 0) (bas3 T L c).2.1) 0 (d 0 + 1) (200 + d 0) = (bas2 T L c).2.1 := by rw [ds_ne (by omega), ds_ne (by omega), ds_eq]
      have e3 : dset (dset (dset (dset d (100 + d 0) (bas1 T L c).2.1) (200 + d 0) (bas2 T L c).2.1) (300 + d 0) (bas3 T L c).2.1) 0 (d 0 + 1) (300 + d 0) = (bas3 T L c).2.1 := by rw [ds_ne (by omega), ds_eq]
      rw [e1, e2, e3]
      exact ⟨v2.1, v2.2, v1, v3⟩
    · rw [o (100 + j) (by omega) (by omega) (by omega) (by omega), o (200 + j) (by omega) (by omega) (by omega) (by omega), o (300 + j) (by omega) (by omega) (by omega) (by omega)]
      exact ⟨fun z => h5j.1 (by omega), fun z => h5j.2 (by omega)⟩
  · rw [o (400 + j) (by omega) (by omega) (by omega) (by omega), o (500 + j) (by omega) (by omega) (by omega) (by omega)]; exact h6 j hj
  · rw [o (600 + j) (by omega) (by omega) (by omega) (by omega), o (700 + j) (by omega) (by omega) (by omega) (by omega)]; exact h7 j hj
theorem or_lt {x k : Nat} (hx : x < 512) (hk : k < 9) : x ||| 2 ^ k < 512 ∧ ¬ x ||| 2 ^ k = 0 := by
  have hk2 : 2 ^ k < 2 ^ 9 := Nat.pow_lt_pow_right (by decide) hk
  refine ⟨Nat.or_lt_two_pow (n := 9) hx hk2, fun z => ?_⟩
  have : (x ||| 2 ^ k).testBit k = true := by rw [Nat.testBit_or, Nat.testBit_two_pow_self, Bool.or_true]
  rw [z, Nat.zero_testBit] at this
  cases this
theorem WF_gate {T : Nat → Nat} {L : Nat} {c : Cur} {d : Nat → Nat} (hp : c.1 = 0 → c.2.2 ≤ L) (h : WFd d) (h9 : 0 < d 0) (hk : (gateR T L c d).1.1 = 0) : WFd (gateR T L c d).2 := by
  have hk : (gat4 T L c d).1 = 0 := hk
  obtain ⟨-, -, v1, v2, v3, -⟩ := gat_ok hp hk
  show WFd (if (gat4 T L c d).1 = 0 then gatD T L c d else d)
  rw [if_pos hk]
  obtain ⟨h1, h2, h3, h4, h5, h6, h7⟩ := h
  unfold gatD
  generalize (gat1 T L c d).2.1 = k at *
  generalize (gat2 T L c d).2.1 = w at *
  generalize (gat3 T L c d).2.1 = t at *
  have o : ∀ j, j ≠ 810 → j ≠ 400 + k → j ≠ 500 + k → dset (dset (dset d 810 (d 810 ||| 2 ^ k)) (400 + k) w) (500 + k) t j = d j := fun j a b e => by rw [ds_ne e, ds_ne b, ds_ne a]
  refine ⟨by rw [o 0 (by omega) (by omega) (by omega)]; exact h1, by rw [o 808 (by omega) (by omega) (by omega)]; exact h2, by rw [o 809 (by omega) (by omega) (by omega)]; exact h3, by rw [ds_ne (by omega), ds_ne (by omega), ds_eq]; exact (or_lt h4 (by omega)).1, fun j hj => ?_, fun j hj => ?_, fun j hj => ?_⟩
  · rw [o 0 (by omega) (by omega) (by omega), o (100 + j) (by omega) (by omega) (by omega), o (200 + j) (by omega) (by omega) (by omega), o (300 + j) (by omega) (by omega) (by omega)]; exact h5 j hj
  · have := h6 j hj
    unfold dset
    refine ⟨?_, ?_⟩ <;> (repeat' split) <;> omega
  · rw [o (600 + j) (by omega) (by omega) (by omega), o (700 + j) (by omega) (by omega) (by omega)]; exact h7 j hj
theorem rowR_ok {T : Nat → Nat} {L most base : Nat} (hb : base = 600 ∧ most = 99 ∨ base = 700 ∧ most = 999) : ∀ (m i : Nat) (c : Cur) (d : Nat → Nat), (c.1 = 0 → c.2.2 ≤ L) → (rowR T L most base m i c d).1.1 = 0 → c.1 = 0 ∧ (c.2.2 ≤ (rowR T L most base m i c d).1.2.2 ∧ (rowR T L most base m i c d).1.2.2 ≤ L) ∧ (∀ j, (j < base ∨ base + 24 ≤ j) → (rowR T L most base m i c d).2 j = d j) ∧ (WFd d → WFd (rowR T L most base m i c d).2) := by
  intro m
  induction m with
  | zero => intro i c d hp h; exact ⟨h, ⟨Nat.le_refl _, hp h⟩, fun _ _ => rfl, fun z => z⟩
  | succ m ih =>
    intro i c d hp h
    unfold rowR at h ⊢
    by_cases c0 : c.1 = 0
    · rw [if_pos c0] at h ⊢
      by_cases n0 : (numC T L 0 most c).1.1 = 0
      · rw [if_pos n0] at h ⊢
        obtain ⟨-, n1, n2, n3⟩ := num_ok hp n0
        have hq := sp_le (T := T) n3
        by_cases i4 : i < 24
        · rw [if_pos i4] at h ⊢
          generalize spN T L (numC T L 0 most c).1.2.2 = q at *
          have o : ∀ j, (j < base ∨ base + 24 ≤ j) → dset d (base + i) (numC T L 0 most c).2.1 j = d j := fun j hj => ds_ne (by omega)
          by_cases g1 : q < L ∧ T q = 59
          · rw [if_pos g1] at h ⊢
            exact ⟨c0, ⟨by show c.2.2 ≤ q + 1; omega, by show q + 1 ≤ L; omega⟩, o, WF_row hb i4 n1.2⟩
          · rw [if_neg g1] at h ⊢
            by_cases g2 : q < L ∧ T q = 44
            · rw [if_pos g2] at h ⊢
              obtain ⟨-, ⟨b1, b2⟩, b3, b4⟩ := ih (i + 1) (0, 0, q + 1) (dset d (base + i) (numC T L 0 most c).2.1) (fun _ => by show q + 1 ≤ L; omega) h
              have b1 : q + 1 ≤ _ := b1
              exact ⟨c0, ⟨by omega, b2⟩, fun j hj => by rw [b3 j hj, o j hj], fun z => b4 (WF_row hb i4 n1.2 z)⟩
            · rw [if_neg g2] at h
              exact absurd h (by show ¬ (1 : Nat) = 0; omega)
        · rw [if_neg i4] at h
          exact absurd h (by show ¬ (4 : Nat) = 0; omega)
      · rw [if_neg n0] at h
        exact absurd h n0
    · rw [if_neg c0] at h
      exact absurd h c0
theorem WF_808 {d : Nat → Nat} {p : Nat} (hp : p = 808 ∨ p = 809) (h : WFd d) : WFd (dset d p 1) := by
  obtain ⟨h1, h2, h3, h4, h5, h6, h7⟩ := h
  have o : ∀ j, j ≠ 808 → j ≠ 809 → dset d p 1 j = d j := fun j a b => ds_ne (by omega)
  refine ⟨by rw [o 0 (by omega) (by omega)]; exact h1, by unfold dset; split <;> omega, by unfold dset; split <;> omega, by rw [o 810 (by omega) (by omega)]; exact h4, fun j hj => ?_, fun j hj => ?_, fun j hj => ?_⟩
  · rw [o 0 (by omega) (by omega), o (100 + j) (by omega) (by omega), o (200 + j) (by omega) (by omega), o (300 + j) (by omega) (by omega)]; exact h5 j hj
  · rw [o (400 + j) (by omega) (by omega), o (500 + j) (by omega) (by omega)]; exact h6 j hj
  · rw [o (600 + j) (by omega) (by omega), o (700 + j) (by omega) (by omega)]; exact h7 j hj
/-- a clause without a fault goes on in the text, and what is read keeps its bounds -/
theorem clause_ok {T : Nat → Nat} {L q : Nat} {d : Nat → Nat} (hq : q ≤ L) (hd : WFd d) (h : (clauseS T L q d).1.1 = 0) : q < (clauseS T L q d).1.2.2 ∧ (clauseS T L q d).1.2.2 ≤ L ∧ WFd (clauseS T L q d).2 := by
  have el := le_le (T := T) hq
  have pe : (((0, 0, leN T L q) : Cur).1 = 0 → ((0, 0, leN T L q) : Cur).2.2 ≤ L) := fun _ => el.2
  unfold clauseS at h ⊢
  by_cases w0 : isW T L q 0 = true
  · rw [if_pos w0] at h ⊢
    have := (isW_lt (by decide) w0).1
    by_cases n0 : d 0 = 0
    · rw [if_pos n0] at h ⊢
      obtain ⟨-, ⟨a, b⟩, -⟩ := bas_ok pe h
      have a : leN T L q ≤ (bas4 T L (0, 0, leN T L q)).2.2 := a
      exact ⟨by show q < (bas4 T L (0, 0, leN T L q)).2.2; omega, b, WF_bas pe hd (by omega) h⟩
    · rw [if_neg n0, bas_f (by show ¬ (3 : Nat) = 0; omega)] at h
      exact absurd h (by show ¬ (3 : Nat) = 0; omega)
  rw [if_neg w0] at h ⊢
  by_cases n0 : d 0 = 0
  · rw [if_pos n0] at h
    exact absurd h (by show ¬ (1 : Nat) = 0; omega)
  rw [if_neg n0] at h ⊢
  by_cases w1 : isW T L q 1 = true
  · rw [if_pos w1] at h ⊢
    have := (isW_lt (by decide) w1).1
    by_cases g0 : d 810 = 0
    · rw [if_pos g0] at h ⊢
      by_cases n9 : d 0 < 9
      · rw [if_pos n9] at h ⊢
        obtain ⟨-, ⟨a, b⟩, -⟩ := bas_ok pe h
        have a : leN T L q ≤ (bas4 T L (0, 0, leN T L q)).2.2 := a
        exact ⟨by show q < (bas4 T L (0, 0, leN T L q)).2.2; omega, b, WF_bas pe hd (by omega) h⟩
      · rw [if_neg n9, bas_f (by show ¬ (3 : Nat) = 0; omega)] at h
        exact absurd h (by show ¬ (3 : Nat) = 0; omega)
    · rw [if_neg g0, bas_f (by show ¬ (1 : Nat) = 0; omega)] at h
      exact absurd h (by show ¬ (1 : Nat) = 0; omega)
  rw [if_neg w1] at h ⊢
  by_cases w2 : isW T L q 2 = true
  · rw [if_pos w2] at h ⊢
    have := (isW_lt (by decide) w2).1
    have pc : ((if d 808 = 0 then ((0, 0, leN T L q) : Cur) else (3, q, 0)).1 = 0 → (if d 808 = 0 then ((0, 0, leN T L q) : Cur) else (3, q, 0)).2.2 ≤ L ∧ (if d 808 = 0 then ((0, 0, leN T L q) : Cur) else (3, q, 0)).2.2 = leN T L q) := by
      intro z
      by_cases g : d 808 = 0
      · rw [if_pos g]; exact ⟨el.2, rfl⟩
      · rw [if_neg g] at z; exact absurd z (by show ¬ (3 : Nat) = 0; omega)
    obtain ⟨a, b, -, e⟩ := rowR_ok (T := T) (Or.inl ⟨rfl, rfl⟩) 25 0 _ d (fun z => (pc z).1) h
    have := (pc a).2
    exact ⟨by show q < (rowR T L 99 600 25 0 (if d 808 = 0 then (0, 0, leN T L q) else (3, q, 0)) d).1.2.2; omega, b.2, WF_808 (Or.inl rfl) (e hd)⟩
  rw [if_neg w2] at h ⊢
  by_cases w3 : isW T L q 3 = true
  · rw [if_pos w3] at h ⊢
    have := (isW_lt (by decide) w3).1
    have pc : ((if d 809 = 0 then ((0, 0, leN T L q) : Cur) else (3, q, 0)).1 = 0 → (if d 809 = 0 then ((0, 0, leN T L q) : Cur) else (3, q, 0)).2.2 ≤ L ∧ (if d 809 = 0 then ((0, 0, leN T L q) : Cur) else (3, q, 0)).2.2 = leN T L q) := by
      intro z
      by_cases g : d 809 = 0
      · rw [if_pos g]; exact ⟨el.2, rfl⟩
      · rw [if_neg g] at z; exact absurd z (by show ¬ (3 : Nat) = 0; omega)
    obtain ⟨a, b, -, e⟩ := rowR_ok (T := T) (Or.inr ⟨rfl, rfl⟩) 25 0 _ d (fun z => (pc z).1) h
    have := (pc a).2
    exact ⟨by show q < (rowR T L 999 700 25 0 (if d 809 = 0 then (0, 0, leN T L q) else (3, q, 0)) d).1.2.2; omega, b.2, WF_808 (Or.inr rfl) (e hd)⟩
  rw [if_neg w3] at h ⊢
  by_cases w4 : isW T L q 4 = true
  · rw [if_pos w4] at h ⊢
    have := (isW_lt (by decide) w4).1
    obtain ⟨-, ⟨a, b⟩, -⟩ := gat_ok pe h
    have a : leN T L q ≤ (gat4 T L (0, 0, leN T L q) d).2.2 := a
    exact ⟨by show q < (gat4 T L (0, 0, leN T L q) d).2.2; omega, b, WF_gate pe hd (by omega) h⟩
  · rw [if_neg w4] at h
    exact absurd h (by show ¬ (1 : Nat) = 0; omega)
/-! a plan as far as it is read: 0 how many, 100.. hour, 200.. gate, 300.. width -/
def latS (d : Nat → Nat) : Nat := if d 0 = 0 then 0 else d (100 + d 0 - 1)
def ord0 (T : Nat → Nat) (L q : Nat) (d : Nat → Nat) : Cur := if isW T L q 5 = true then (if d 0 = 30 then (3, q, 0) else (0, 0, leN T L q)) else (1, q, 0)
def ord1 (T : Nat → Nat) (L : Nat) (c : Cur) : Cur × Nat × Nat := numC T L 0 999 c
def ordF (T : Nat → Nat) (L l : Nat) (c : Cur) : Cur := if (ord1 T L c).2.1 < l then findC 4 (ord1 T L c).2.2 (ord1 T L c).1 else (ord1 T L c).1
def ord2 (T : Nat → Nat) (L g l : Nat) (c : Cur) : Cur × Nat × Nat := numC T L 0 (g - 1) (ordF T L l c)
def ord3 (T : Nat → Nat) (L g l : Nat) (c : Cur) : Cur × Nat × Nat := numC T L 0 9 (ord2 T L g l c).1
def ord4 (T : Nat → Nat) (L g l : Nat) (c : Cur) : Cur := signC T L 59 (ord3 T L g l c).1
def ordD (T : Nat → Nat) (L g l : Nat) (c : Cur) (d : Nat → Nat) : Nat → Nat := dset (dset (dset (dset d (100 + d 0) (ord1 T L c).2.1) (200 + d 0) (ord2 T L g l c).2.1) (300 + d 0) (ord3 T L g l c).2.1) 0 (d 0 + 1)
def ordR (T : Nat → Nat) (L g : Nat) (c : Cur) (d : Nat → Nat) : Cur × (Nat → Nat) := (ord4 T L g (latS d) c, if (ord4 T L g (latS d) c).1 = 0 then ordD T L g (latS d) c d else d)
def orderS (T : Nat → Nat) (L g q : Nat) (d : Nat → Nat) : Cur × (Nat → Nat) := ordR T L g (ord0 T L q d) d
def plansS (T : Nat → Nat) (L g : Nat) : Nat → Cur → (Nat → Nat) → Cur × (Nat → Nat)
  | 0, c, d => (c, d)
  | m + 1, c, d => if c.1 = 0 ∧ spN T L c.2.2 < L then plansS T L g m (orderS T L g (spN T L c.2.2) d).1 (orderS T L g (spN T L c.2.2) d).2 else (c, d)
def WFo (g : Nat) (d : Nat → Nat) : Prop := d 0 ≤ 30 ∧ ∀ k, k < d 0 → d (100 + k) ≤ 999 ∧ d (200 + k) < g ∧ d (300 + k) ≤ 9
theorem ordF_ok {T : Nat → Nat} {L l : Nat} {c : Cur} (h : (ordF T L l c).1 = 0) : ¬ (ord1 T L c).2.1 < l ∧ ordF T L l c = (ord1 T L c).1 := by
  by_cases b : (ord1 T L c).2.1 < l
  · rw [ordF, if_pos b, findC] at h
    by_cases g : (ord1 T L c).1.1 = 0
    · rw [if_pos g] at h
      exact absurd h (by show ¬ (4 : Nat) = 0; omega)
    · rw [if_neg g] at h
      exact absurd h g
  · exact ⟨b, by rw [ordF, if_neg b]⟩
theorem ord_ok {T : Nat → Nat} {L g l : Nat} {c : Cur} (hp : c.1 = 0 → c.2.2 ≤ L) (h : (ord4 T L g l c).1 = 0) : c.1 = 0 ∧ (c.2.2 ≤ (ord4 T L g l c).2.2 ∧ (ord4 T L g l c).2.2 ≤ L) ∧ (ord1 T L c).2.1 ≤ 999 ∧ ¬ (ord1 T L c).2.1 < l ∧ (ord2 T L g l c).2.1 ≤ g - 1 ∧ (ord3 T L g l c).2.1 ≤ 9 ∧ (ord1 T L c).1.1 = 0 ∧ (ord2 T L g l c).1.1 = 0 ∧ (ord3 T L g l c).1.1 = 0 := by
  have p1 : (ord1 T L c).1.1 = 0 → (ord1 T L c).1.2.2 ≤ L := num_p hp
  have pF : (ordF T L l c).1 = 0 → (ordF T L l c).2.2 ≤ L := fun z => by
    have := (ordF_ok z).2
    rw [this] at z ⊢
    exact p1 z
  have p2 : (ord2 T L g l c).1.1 = 0 → (ord2 T L g l c).1.2.2 ≤ L := num_p pF
  have p3 : (ord3 T L g l c).1.1 = 0 → (ord3 T L g l c).1.2.2 ≤ L := num_p p2
  obtain ⟨a1, a2, a3⟩ := sign_ok (T := T) (ch := 59) p3 h
  obtain ⟨b1, b2, b3, -⟩ := num_ok (T := T) (lo := 0) (hi := 9) p2 a1
  obtain ⟨d1, d2, d3, -⟩ := num_ok (T := T) (lo := 0) (hi := g - 1) pF b1
  obtain ⟨g1, g2⟩ := ordF_ok d1
  have d1' := d1
  rw [g2] at d1'
  obtain ⟨e1, e2, e3, -⟩ := num_ok (T := T) (lo := 0) (hi := 999) hp d1'
  have f1 : (ordF T L l c).2.2 ≤ (ord2 T L g l c).1.2.2 := d3
  rw [g2] at f1
  have f2 : (ord2 T L g l c).1.2.2 ≤ (ord3 T L g l c).1.2.2 := b3
  have f3 : (ord3 T L g l c).1.2.2 ≤ (ord4 T L g l c).2.2 := a2
  have f0 : c.2.2 ≤ (ord1 T L c).1.2.2 := e3
  exact ⟨e1, ⟨by omega, a3⟩, e2.2, g1, d2.2, b2.2, d1', b1, a1⟩
theorem ordD_at {T : Nat → Nat} {L g l : Nat} {c : Cur} {d : Nat → Nat} (h30 : d 0 < 30) : ordD T L g l c d 0 = d 0 + 1 ∧ (∀ k, k < d 0 → ordD T L g l c d (100 + k) = d (100 + k) ∧ ordD T L g l c d (200 + k) = d (200 + k) ∧ ordD T L g l c d (300 + k) = d (300 + k)) ∧ ordD T L g l c d (100 + d 0) = (ord1 T L c).2.1 ∧ ordD T L g l c d (200 + d 0) = (ord2 T L g l c).2.1 ∧ ordD T L g l c d (300 + d 0) = (ord3 T L g l c).2.1 := by
  unfold ordD
  refine ⟨ds_eq, fun k hk => ⟨?_, ?_, ?_⟩, ?_, ?_, ?_⟩
  · rw [ds_ne (by omega), ds_ne (by omega), ds_ne (by omega), ds_ne (by omega)]
  · rw [ds_ne (by omega), ds_ne (by omega), ds_ne (by omega), ds_ne (by omega)]
  · rw [ds_ne (by omega), ds_ne (by omega), ds_ne (by omega), ds_ne (by omega)]
  · rw [ds_ne (by omega), ds_ne (by omega), ds_ne (by omega), ds_eq]
  · rw [ds_ne (by omega), ds_ne (by omega), ds_eq]
  · rw [ds_ne (by omega), ds_eq]
theorem order_ok {T : Nat → Nat} {L g q : Nat} {d : Nat → Nat} (hq : q ≤ L) (hg : 1 ≤ g) (hd : WFo g d) (h : (orderS T L g q d).1.1 = 0) : isW T L q 5 = true ∧ d 0 < 30 ∧ q < (orderS T L g q d).1.2.2 ∧ (orderS T L g q d).1.2.2 ≤ L ∧ WFo g (orderS T L g q d).2 ∧ (orderS T L g q d).2 0 = d 0 + 1 ∧ latS (orderS T L g q d).2 = (ord1 T L (0, 0, leN T L q)).2.1 := by
  have h4 : (ord4 T L g (latS d) (ord0 T L q d)).1 = 0 := h
  have el := le_le (T := T) hq
  have pe : ((ord0 T L q d).1 = 0 → isW T L q 5 = true ∧ d 0 < 30 ∧ ord0 T L q d = (0, 0, leN T L q)) := by
    intro z
    unfold ord0 at z ⊢
    by_cases w : isW T L q 5 = true
    · rw [if_pos w] at z ⊢
      by_cases n : d 0 = 30
      · rw [if_pos n] at z; exact absurd z (by show ¬ (3 : Nat) = 0; omega)
      · rw [if_neg n]; exact ⟨w, by have := hd.1; omega, rfl⟩
    · rw [if_neg w] at z; exact absurd z (by show ¬ (1 : Nat) = 0; omega)
  have pp : ((ord0 T L q d).1 = 0 → (ord0 T L q d).2.2 ≤ L) := fun z => by rw [(pe z).2.2]; exact el.2
  obtain ⟨a, ⟨b1, b2⟩, v1, v2, v3, v4, -⟩ := ord_ok pp h4
  obtain ⟨w, n, e0⟩ := pe a
  have := (isW_lt (by decide) w).1
  have ed : (orderS T L g q d).2 = ordD T L g (latS d) (ord0 T L q d) d := by
    show (if (ord4 T L g (latS d) (ord0 T L q d)).1 = 0 then ordD T L g (latS d) (ord0 T L q d) d else d) = _
    rw [if_pos h4]
  obtain ⟨s0, s1, s2, s3, s4⟩ := ordD_at (T := T) (L := L) (g := g) (l := latS d) (c := ord0 T L q d) (d := d) n
  rw [ed]
  have e2 : (ord0 T L q d).2.2 = leN T L q := by rw [e0]
  refine ⟨w, n, by show q < (ord4 T L g (latS d) (ord0 T L q d)).2.2; omega, b2, ⟨by rw [s0]; omega, fun k hk => ?_⟩, s0, ?_⟩
  · rw [s0] at hk
    by_cases e : k = d 0
    · subst e
      rw [s2, s3, s4]
      exact ⟨v1, by omega, v4⟩
    · obtain ⟨t1, t2, t3⟩ := s1 k (by omega)
      rw [t1, t2, t3]
      exact hd.2 k (by omega)
  · rw [latS, s0, if_neg (by omega), show 100 + (d 0 + 1) - 1 = 100 + d 0 by omega, s2, e0]
