/-! THE START: what the tables and the given say of it -/
theorem cut0 {n k : Nat} : cut n (fun _ => 0) k = 0 := by
  unfold cut
  split <;> rfl
theorem mk0 {k : Nat} : mk (fun _ => 0) k = 0 := by
  unfold mk
  exact ite_self _
theorem hI_z {i k : Nat} (h0 : i ≠ 0) (h1 : i ≠ 94) : hI.1 i k = 0 := by
  show (if i = 0 then (fun k => if k = 13 then (-1 : Int32) else 0) else if i = 94 then (fun k => if k = 22 then (-1 : Int32) else 0) else fun _ => 0) k = 0
  rw [if_neg h0, if_neg h1]
theorem hI_cs : cs hI.1 27 = fun _ => 0 := by
  funext k
  unfold cs
  cases hl : loc k with
  | none => rfl
  | some q =>
    have := loc_val k (loc_lt hl) q hl
    exact hI_z (by omega) (by omega)
theorem hI_ms {r : Nat} : ms hI.1 r = fun _ => 0 := by
  funext k
  exact hI_z (by omega) (by omega)
theorem INV_0 : INV 0 hI := by
  have pn0 : pn (PM hI.1) = 0 := pn_M (n := 0) rfl (by omega)
  refine ⟨⟨rfl, rfl, rfl, rfl, by decide, by decide⟩, ⟨rfl, ⟨0, by omega, rfl, rfl, Or.inl rfl⟩, ⟨0, by omega, rfl, rfl⟩, (show cut 10 (hI.1 97) (pn (PM hI.1) - 1) = 0 from cut0), (show cut 10 (hI.1 98) (pn (PM hI.1) - 1) = 0 from cut0), fun k hk => ⟨0, by omega, (show cut 9 (hI.1 103) k = 0 from cut0)⟩⟩, ⟨?_, rfl, ?_⟩, ?_, ⟨0, by omega, rfl, rfl, fun j hj => absurd hj (by omega)⟩, rfl, ⟨0, by omega, rfl, rfl, fun j hj => absurd hj (by omega)⟩, ⟨rfl, 0, by omega, rfl⟩⟩
  · rw [hI_cs, hI_ms]
  · rw [hI_ms]
    unfold SV SOK
    rw [pn0]
    refine ⟨⟨fun k hk => absurd hk (by omega), ?_, ⟨0, by omega, mk0⟩, ⟨0, by omega, mk0, fun l hl => absurd hl (by omega)⟩, fun k hk => ⟨0, by omega, mk0⟩⟩, mk0, ?_⟩
    · show (0 : Int) ≤ _
      omega
    · rw [mk0]
      decide
  · intro i hi
    exact ⟨(hI_z (by omega) (by omega)).trans (hI_z (by omega) (by omega)).symm, Or.inl (hI_z (by omega) (by omega))⟩
def rho (f g : Nat → Nat) (q : Nat) (k v : Nat → Nat) (t b : Nat) : Nat → Nat := fun i => if i < 94 then f i else if i = 94 then q else if i < 113 then g (i - 94) else if i < 300 then k (i - 200) else if i < 400 then v (i - 300) else if i = 400 then t else b

set_option maxRecDepth 100000 in
set_option maxHeartbeats 4000000 in
theorem rho_6 {f g k v : Nat → Nat} {q t b i : Nat} {cA : Nat → ClassId} (hi : i < 94) (h7 : i ≠ 87) : (rho f g q k v t b i, ent (rho f g q k v t b) cA hI i) = (f i, ent f cA hI i) := by
  by_cases c0 : i = 0
  · subst c0; rfl
  by_cases c1 : i = 1
  · subst c1; rfl
  by_cases c2 : i = 2
  · subst c2; rfl
  by_cases c3 : i = 3
  · subst c3; rfl
  by_cases c4 : i = 4
  · subst c4; rfl
  by_cases c5 : i = 5
  · subst c5; rfl
  by_cases c6 : i = 6
  · subst c6; rfl
  by_cases c7 : i = 7
  · subst c7; rfl
  by_cases c8 : i = 8
  · subst c8; rfl
  by_cases c9 : i = 9
  · subst c9; rfl
  by_cases c10 : i = 10
  · subst c10; rfl
  by_cases c11 : i = 11
  · subst c11; rfl
  by_cases c12 : i = 12
  · subst c12; rfl
  by_cases c13 : i = 13
  · subst c13; rfl
  by_cases c14 : i = 14
  · subst c14; rfl
  by_cases c15 : i = 15
  · subst c15; rfl
  by_cases c16 : i = 16
  · subst c16; rfl
  by_cases c17 : i = 17
  · subst c17; rfl
  by_cases c18 : i = 18
  · subst c18; rfl
  by_cases c19 : i = 19
  · subst c19; rfl
  by_cases c20 : i = 20
  · subst c20; rfl
  by_cases c21 : i = 21
  · subst c21; rfl
  by_cases c22 : i = 22
  · subst c22; rfl
  by_cases c23 : i = 23
  · subst c23; rfl
  by_cases c24 : i = 24
  · subst c24; rfl
  by_cases c25 : i = 25
  · subst c25; rfl
  by_cases c26 : i = 26
  · subst c26; rfl
  by_cases c27 : i = 27
  · subst c27; rfl
  by_cases c28 : i = 28
  · subst c28; rfl
  by_cases c29 : i = 29
  · subst c29; rfl
  by_cases c30 : i = 30
  · subst c30; rfl
  by_cases c31 : i = 31
  · subst c31; rfl
  by_cases c32 : i = 32
  · subst c32; rfl
  by_cases c33 : i = 33
  · subst c33; rfl
  by_cases c34 : i = 34
  · subst c34; rfl
  by_cases c35 : i = 35
  · subst c35; rfl
  by_cases c36 : i = 36
  · subst c36; rfl
  by_cases c37 : i = 37
  · subst c37; rfl
  by_cases c38 : i = 38
  · subst c38; rfl
  by_cases c39 : i = 39
  · subst c39; rfl
  by_cases c40 : i = 40
  · subst c40; rfl
  by_cases c41 : i = 41
  · subst c41; rfl
  by_cases c42 : i = 42
  · subst c42; rfl
  by_cases c43 : i = 43
  · subst c43; rfl
  by_cases c44 : i = 44
  · subst c44; rfl
  by_cases c45 : i = 45
  · subst c45; rfl
  by_cases c46 : i = 46
  · subst c46; rfl
  by_cases c47 : i = 47
  · subst c47; rfl
  by_cases c48 : i = 48
  · subst c48; rfl
  by_cases c49 : i = 49
  · subst c49; rfl
  by_cases c50 : i = 50
  · subst c50; rfl
  by_cases c51 : i = 51
  · subst c51; rfl
  by_cases c52 : i = 52
  · subst c52; rfl
  by_cases c53 : i = 53
  · subst c53; rfl
  by_cases c54 : i = 54
  · subst c54; rfl
  by_cases c55 : i = 55
  · subst c55; rfl
  by_cases c56 : i = 56
  · subst c56; rfl
  by_cases c57 : i = 57
  · subst c57; rfl
  by_cases c58 : i = 58
  · subst c58; rfl
  by_cases c59 : i = 59
  · subst c59; rfl
  by_cases c60 : i = 60
  · subst c60; rfl
  by_cases c61 : i = 61
  · subst c61; rfl
  by_cases c62 : i = 62
  · subst c62; rfl
  by_cases c63 : i = 63
  · subst c63; rfl
  by_cases c64 : i = 64
  · subst c64; rfl
  by_cases c65 : i = 65
  · subst c65; rfl
  by_cases c66 : i = 66
  · subst c66; rfl
  by_cases c67 : i = 67
  · subst c67; rfl
  by_cases c68 : i = 68
  · subst c68; rfl
  by_cases c69 : i = 69
  · subst c69; rfl
  by_cases c70 : i = 70
  · subst c70; rfl
  by_cases c71 : i = 71
  · subst c71; rfl
  by_cases c72 : i = 72
  · subst c72; rfl
  by_cases c73 : i = 73
  · subst c73; rfl
  by_cases c74 : i = 74
  · subst c74; rfl
  by_cases c75 : i = 75
  · subst c75; rfl
  by_cases c76 : i = 76
  · subst c76; rfl
  by_cases c77 : i = 77
  · subst c77; rfl
  by_cases c78 : i = 78
  · subst c78; rfl
  by_cases c79 : i = 79
  · subst c79; rfl
  by_cases c80 : i = 80
  · subst c80; rfl
  by_cases c81 : i = 81
  · subst c81; rfl
  by_cases c82 : i = 82
  · subst c82; rfl
  by_cases c83 : i = 83
  · subst c83; rfl
  by_cases c84 : i = 84
  · subst c84; rfl
  by_cases c85 : i = 85
  · subst c85; rfl
  by_cases c86 : i = 86
  · subst c86; rfl
  by_cases c87 : i = 87
  · subst c87; exact absurd rfl h7
  by_cases c88 : i = 88
  · subst c88; rfl
  by_cases c89 : i = 89
  · subst c89; rfl
  by_cases c90 : i = 90
  · subst c90; rfl
  by_cases c91 : i = 91
  · subst c91; rfl
  by_cases c92 : i = 92
  · subst c92; rfl
  by_cases c93 : i = 93
  · subst c93; rfl
  omega
set_option maxRecDepth 100000 in
set_option maxHeartbeats 4000000 in
theorem rho_7 {f g k v : Nat → Nat} {q t b i : Nat} {cA : Nat → ClassId} (hi : i < 19) : some (rho f g q k v t b (94 + i), ent (rho f g q k v t b) cA hI (94 + i)) = (wX7 cA q g)[i]? := by
  by_cases c0 : i = 0
  · subst c0; rfl
  by_cases c1 : i = 1
  · subst c1; rfl
  by_cases c2 : i = 2
  · subst c2; rfl
  by_cases c3 : i = 3
  · subst c3; rfl
  by_cases c4 : i = 4
  · subst c4; rfl
  by_cases c5 : i = 5
  · subst c5; rfl
  by_cases c6 : i = 6
  · subst c6; rfl
  by_cases c7 : i = 7
  · subst c7; rfl
  by_cases c8 : i = 8
  · subst c8; rfl
  by_cases c9 : i = 9
  · subst c9; rfl
  by_cases c10 : i = 10
  · subst c10; rfl
  by_cases c11 : i = 11
  · subst c11; rfl
  by_cases c12 : i = 12
  · subst c12; rfl
  by_cases c13 : i = 13
  · subst c13; rfl
  by_cases c14 : i = 14
  · subst c14; rfl
  by_cases c15 : i = 15
  · subst c15; rfl
  by_cases c16 : i = 16
  · subst c16; rfl
  by_cases c17 : i = 17
  · subst c17; rfl
  by_cases c18 : i = 18
  · subst c18; rfl
  omega
theorem w67_at {f g k v : Nat → Nat} {q t b a i : Nat} {cA : Nat → ClassId} {D : va_G} (hi : i < 113) : ∃ e, (wX6 cA a f ++ wX7 cA q g)[i]? = some (rho f g q k v t b i, e) ∧ ∀ H : Heap, va_at D vwCl (rho f g q k v t b i, e) H → va_at D vwCl (rho f g q k v t b i, ent (rho f g q k v t b) cA hI i) H := by
  have l6 : (wX6 cA a f).length = 94 := by unfold wX6; rw [List.length_map, List.length_range]
  by_cases c : i < 94
  · have e6 : (wX6 cA a f ++ wX7 cA q g)[i]? = some (f i, ent f cA hI i) := by
      rw [List.getElem?_append_left (by omega)]
      unfold wX6
      rw [List.getElem?_map, List.getElem?_range c]
      rfl
    by_cases h7 : i = 87
    · subst h7
      exact ⟨ent f cA hI 87, e6, fun H z => img_at (q := f 87) (c := cA 3) (g1 := fun k => some (f (57 + 15 * k))) (g2 := fun j => some (rho f g q k v t b (57 + 15 * j))) rfl rfl z⟩
    · have e := rho_6 (f := f) (g := g) (k := k) (v := v) (q := q) (t := t) (b := b) (cA := cA) c h7
      refine ⟨ent (rho f g q k v t b) cA hI i, by rw [e6, e], fun H z => z⟩
  · refine ⟨ent (rho f g q k v t b) cA hI i, ?_, fun H z => z⟩
    rw [List.getElem?_append_right (by omega), l6, ← rho_7 (f := f) (k := k) (v := v) (t := t) (b := b) (i := i - 94) (by omega), show 94 + (i - 94) = i by omega]
theorem w67_of {f g k v : Nat → Nat} {q t b a : Nat} {cA : Nat → ClassId} {D : va_G} {A : Nat → Prop} {H : Heap} (hP : va_P D vwCl (wX6 cA a f ++ wX7 cA q g) H) (hD : va_D A (wX6 cA a f ++ wX7 cA q g)) : va_P D vwCl (wsw (rho f g q k v t b) cA hI) H ∧ va_D A (wsw (rho f g q k v t b) cA hI) := by
  have at9 : ∀ (i : Nat) (x : Nat × va_E), (wsw (rho f g q k v t b) cA hI)[i]? = some x → i < 113 ∧ x = (rho f g q k v t b i, ent (rho f g q k v t b) cA hI i) := by
    intro i x hx
    by_cases c : i < 113
    · rw [wsw_at c] at hx
      exact ⟨c, (Option.some.inj hx).symm⟩
    · rw [List.getElem?_eq_none (by simp [wsw]; omega)] at hx
      cases hx
  refine ⟨fun i x hx => ?_, fun i j x y h1 h2 e => ?_, fun i x hx => ?_⟩
  · obtain ⟨hi, rfl⟩ := at9 i x hx
    obtain ⟨e, h1, h2⟩ := w67_at (f := f) (g := g) (k := k) (v := v) (q := q) (t := t) (b := b) (a := a) (cA := cA) (D := D) hi
    exact h2 H (hP _ _ h1)
  · obtain ⟨hi, rfl⟩ := at9 i x h1
    obtain ⟨hj, rfl⟩ := at9 j y h2
    obtain ⟨e1, k1, -⟩ := w67_at (f := f) (g := g) (k := k) (v := v) (q := q) (t := t) (b := b) (a := a) (cA := cA) (D := D) hi
    obtain ⟨e2, k2, -⟩ := w67_at (f := f) (g := g) (k := k) (v := v) (q := q) (t := t) (b := b) (a := a) (cA := cA) (D := D) hj
    exact hD.1 _ _ _ _ k1 k2 e
  · obtain ⟨hi, rfl⟩ := at9 i x hx
    obtain ⟨e, h1, -⟩ := w67_at (f := f) (g := g) (k := k) (v := v) (q := q) (t := t) (b := b) (a := a) (cA := cA) (D := D) hi
    exact hD.2 _ (rho f g q k v t b i, e) h1

theorem arr_of {args : Array Value} {s : State} {ty : FieldType} (h : (Cond.arrayClass ty).before args s = true) : ∃ c : ClassId, ArrOfT s c ty ∧ s.vm.findClass ("[" ++ ty.toString) = some c := by
  obtain ⟨c, k, comp, h1, h2, h3⟩ := Cond.arrayClass_spec h
  exact ⟨c, fun n z => ⟨(fun k h => by cases h), k, h2, comp, h3⟩, h1⟩
section ST
variable {s : State} {b : Nat}
theorem K_of (hts : ∀ w ∈ gtbl, w.before #[Value.ref b] s = true) (hAO : (Cond.arrayOver (.object RX3)).before #[Value.ref b] s = true) : ∃ (D : va_G) (cA : Nat → ClassId), va_K D vwCl (tysw cA) s := by
  obtain ⟨c0, i0, k0⟩ := u_known (C := RX0) (T := TX0) (N := 8) (n := 8) hts inX0 (hts _ IT_0)
  obtain ⟨c1, i1, k1⟩ := u_known (C := RX1) (T := TX1) (N := 4) (n := 4) hts inX1 (hts _ IT_1)
  obtain ⟨c2, i2, k2⟩ := u_known (C := RX2) (T := TX2) (N := 11) (n := 11) hts inX2 (hts _ IT_2)
  obtain ⟨c3, i3, k3⟩ := u_known (C := RX3) (T := TX3) (N := 10) (n := 10) hts inX3 (hts _ IT_3)
  obtain ⟨c4, i4, k4⟩ := u_known (C := RX4) (T := TX4) (N := 4) (n := 4) hts inX4 (hts _ IT_4)
  obtain ⟨c5, i5, k5⟩ := u_known (C := RX5) (T := TX5) (N := 8) (n := 8) hts inX5 (hts _ IT_5)
  obtain ⟨c6, i6, k6⟩ := u_known (C := RX6) (T := TX6) (N := 14) (n := 14) hts inX6 (hts _ IT_6)
  obtain ⟨c7, i7, k7⟩ := u_known (C := RX7) (T := TX7) (N := 33) (n := 33) hts inX7 (hts _ IT_7)
  obtain ⟨a0, x0, y0⟩ := arr_of (hts _ AC_int)
  obtain ⟨a1, x1, y1⟩ := arr_of (hts _ AC_byte)
  obtain ⟨a2, x2, y2⟩ := arr_of (hts _ AC_boolean)
  obtain ⟨comp, a3, ka, z1, z2, z3, z4, z5⟩ := Cond.arrayOver_spec hAO
  refine ⟨(fun k => [c0, c1, c2, c3, c4, c5, c6, c7].getD k c0, fun k => [i0, i1, i2, i3, i4, i5, i6, i7].getD k i0), fun k => if k = 0 then a0 else if k = 1 then a1 else if k = 2 then a2 else a3, fun c q hq => ?_, fun k q hq => ?_⟩
  · have hc : c < 8 := (List.getElem?_eq_some_iff.mp hq).1
    rcases (show c = 0 ∨ c = 1 ∨ c = 2 ∨ c = 3 ∨ c = 4 ∨ c = 5 ∨ c = 6 ∨ c = 7 by omega) with rfl | rfl | rfl | rfl | rfl | rfl | rfl | rfl
    · cases hq; exact k0
    · cases hq; exact k1
    · cases hq; exact k2
    · cases hq; exact k3
    · cases hq; exact k4
    · cases hq; exact k5
    · cases hq; exact k6
    · cases hq; exact k7
  · have hc : k < 4 := (List.getElem?_eq_some_iff.mp hq).1
    rcases (show k = 0 ∨ k = 1 ∨ k = 2 ∨ k = 3 by omega) with rfl | rfl | rfl | rfl
    · cases hq; exact ⟨x0, y0⟩
    · cases hq; exact ⟨x1, y1⟩
    · cases hq; exact ⟨x2, y2⟩
    · cases hq; exact ⟨fun n z => ⟨(fun k h => by cases h), ka, z3, comp, z4⟩, ka, comp, z3, z4, z1, z5⟩
theorem NW_of (hts : ∀ w ∈ lw_tbl, w.before #[Value.ref b] s = true) : NW s := by
  have hj : ∀ (j : Nat) {w : Cond}, tables_1[j]? = some w → w.before #[Value.ref b] s = true := fun j w h => hts w (List.mem_append_right _ (List.mem_of_getElem? h))
  exact ⟨va_Nw.of rfl (hj 25 (by decide +kernel)), va_Nw.of rfl (hj 68 (by decide +kernel)), va_Nw.of rfl (hj 116 (by decide +kernel)), va_Nw.of rfl (hj 141 (by decide +kernel)), va_Nw.of rfl (hj 231 (by decide +kernel)), va_Nw.of rfl (hj 147 (by decide +kernel)), va_AO.of (hj 228 (by decide +kernel))⟩
set_option maxRecDepth 100000 in
theorem SX_of (hts : ∀ w ∈ lw_tbl, w.before #[Value.ref b] s = true) (hgv : (Jvm.Cond.and given_1 narrow_1).before #[Value.ref b] s = true) : ∃ (kk vv : Nat → Nat) (t : Nat), ∀ (f g : Nat → Nat) (q b : Nat) (c1 c2 : Nat → ClassId) (d : Nat → Nat → Nat), SX (rho f g q kk vv t b, c1, c2, d, fun x => s.heap.size ≤ x) s s.heap := by
  have hj : ∀ (j : Nat) {w : Cond}, tables_1[j]? = some w → w.before #[Value.ref b] s = true := fun j w h => hts w (List.mem_append_right _ (List.mem_of_getElem? h))
  have hs := flat_of_before _ hgv
  have hA : ∀ a : Nat, a < s.heap.size → ¬ (fun x => s.heap.size ≤ x) a := fun a h1 h2 => absurd h1 (by have h2 : s.heap.size ≤ a := h2; omega)
  obtain ⟨kk, vv, h1, h2⟩ := vk_Sof (args := #[Value.ref b]) (s := s) (N := 6) (tm := fun i => .string RX2 (sI.getD i 0)) (len := sL) (byt := sB) (A := fun x => s.heap.size ≤ x) (by decide) (fun i hi => by
    rcases (show i = 0 ∨ i = 1 ∨ i = 2 ∨ i = 3 ∨ i = 4 ∨ i = 5 by omega) with rfl | rfl | rfl | rfl | rfl | rfl
    · exact hs _ (by decide +kernel)
    · exact hs _ (by decide +kernel)
    · exact hs _ (by decide +kernel)
    · exact hs _ (by decide +kernel)
    · exact hs _ (by decide +kernel)
    · exact hs _ (by decide +kernel)) (fun i hi => by
    rcases (show i = 0 ∨ i = 1 ∨ i = 2 ∨ i = 3 ∨ i = 4 ∨ i = 5 by omega) with rfl | rfl | rfl | rfl | rfl | rfl
    · exact hs _ (by decide +kernel)
    · exact hs _ (by decide +kernel)
    · exact hs _ (by decide +kernel)
    · exact hs _ (by decide +kernel)
    · exact hs _ (by decide +kernel)
    · exact hs _ (by decide +kernel)) (fun i hi => by
    rcases (show i = 0 ∨ i = 1 ∨ i = 2 ∨ i = 3 ∨ i = 4 ∨ i = 5 by omega) with rfl | rfl | rfl | rfl | rfl | rfl
    · exact hs _ (by decide +kernel)
    · exact hs _ (by decide +kernel)
    · exact hs _ (by decide +kernel)
    · exact hs _ (by decide +kernel)
    · exact hs _ (by decide +kernel)
    · exact hs _ (by decide +kernel)) (fun i hi => by
    rcases (show i = 0 ∨ i = 1 ∨ i = 2 ∨ i = 3 ∨ i = 4 ∨ i = 5 by omega) with rfl | rfl | rfl | rfl | rfl | rfl
    · exact hs _ (by decide +kernel)
    · exact hs _ (by decide +kernel)
    · exact hs _ (by decide +kernel)
    · exact hs _ (by decide +kernel)
    · exact hs _ (by decide +kernel)
    · exact hs _ (by decide +kernel)) (fun i hi j hj => by
    rcases (show i = 0 ∨ i = 1 ∨ i = 2 ∨ i = 3 ∨ i = 4 ∨ i = 5 by omega) with rfl | rfl | rfl | rfl | rfl | rfl
    · have hj : j < 4 := hj
      rcases (show j = 0 ∨ j = 1 ∨ j = 2 ∨ j = 3 by omega) with rfl | rfl | rfl | rfl
      · exact hs _ (by decide +kernel)
      · exact hs _ (by decide +kernel)
      · exact hs _ (by decide +kernel)
      · exact hs _ (by decide +kernel)
    · have hj : j < 4 := hj
      rcases (show j = 0 ∨ j = 1 ∨ j = 2 ∨ j = 3 by omega) with rfl | rfl | rfl | rfl
      · exact hs _ (by decide +kernel)
      · exact hs _ (by decide +kernel)
      · exact hs _ (by decide +kernel)
      · exact hs _ (by decide +kernel)
    · have hj : j < 4 := hj
      rcases (show j = 0 ∨ j = 1 ∨ j = 2 ∨ j = 3 by omega) with rfl | rfl | rfl | rfl
      · exact hs _ (by decide +kernel)
      · exact hs _ (by decide +kernel)
      · exact hs _ (by decide +kernel)
      · exact hs _ (by decide +kernel)
    · have hj : j < 4 := hj
      rcases (show j = 0 ∨ j = 1 ∨ j = 2 ∨ j = 3 by omega) with rfl | rfl | rfl | rfl
      · exact hs _ (by decide +kernel)
      · exact hs _ (by decide +kernel)
      · exact hs _ (by decide +kernel)
      · exact hs _ (by decide +kernel)
    · have hj : j < 4 := hj
      rcases (show j = 0 ∨ j = 1 ∨ j = 2 ∨ j = 3 by omega) with rfl | rfl | rfl | rfl
      · exact hs _ (by decide +kernel)
      · exact hs _ (by decide +kernel)
      · exact hs _ (by decide +kernel)
      · exact hs _ (by decide +kernel)
    · have hj : j < 2 := hj
      rcases (show j = 0 ∨ j = 1 by omega) with rfl | rfl
      · exact hs _ (by decide +kernel)
      · exact hs _ (by decide +kernel)) (fun i j hi hj h => by
    rcases (show i = 0 ∨ i = 1 ∨ i = 2 ∨ i = 3 ∨ i = 4 ∨ i = 5 by omega) with rfl | rfl | rfl | rfl | rfl | rfl
    · rcases (show j = 0 ∨ j = 1 ∨ j = 2 ∨ j = 3 ∨ j = 4 ∨ j = 5 by omega) with rfl | rfl | rfl | rfl | rfl | rfl
      · exact absurd rfl h
      · exact Or.inl (hs _ (by decide +kernel))
      · exact Or.inl (hs _ (by decide +kernel))
      · exact Or.inl (hs _ (by decide +kernel))
      · exact Or.inl (hs _ (by decide +kernel))
      · exact Or.inl (hs _ (by decide +kernel))
    · rcases (show j = 0 ∨ j = 1 ∨ j = 2 ∨ j = 3 ∨ j = 4 ∨ j = 5 by omega) with rfl | rfl | rfl | rfl | rfl | rfl
      · exact Or.inr (hs _ (by decide +kernel))
      · exact absurd rfl h
      · exact Or.inl (hs _ (by decide +kernel))
      · exact Or.inl (hs _ (by decide +kernel))
      · exact Or.inl (hs _ (by decide +kernel))
      · exact Or.inl (hs _ (by decide +kernel))
    · rcases (show j = 0 ∨ j = 1 ∨ j = 2 ∨ j = 3 ∨ j = 4 ∨ j = 5 by omega) with rfl | rfl | rfl | rfl | rfl | rfl
      · exact Or.inr (hs _ (by decide +kernel))
      · exact Or.inr (hs _ (by decide +kernel))
      · exact absurd rfl h
      · exact Or.inl (hs _ (by decide +kernel))
      · exact Or.inl (hs _ (by decide +kernel))
      · exact Or.inl (hs _ (by decide +kernel))
    · rcases (show j = 0 ∨ j = 1 ∨ j = 2 ∨ j = 3 ∨ j = 4 ∨ j = 5 by omega) with rfl | rfl | rfl | rfl | rfl | rfl
      · exact Or.inr (hs _ (by decide +kernel))
      · exact Or.inr (hs _ (by decide +kernel))
      · exact Or.inr (hs _ (by decide +kernel))
      · exact absurd rfl h
      · exact Or.inl (hs _ (by decide +kernel))
      · exact Or.inl (hs _ (by decide +kernel))
    · rcases (show j = 0 ∨ j = 1 ∨ j = 2 ∨ j = 3 ∨ j = 4 ∨ j = 5 by omega) with rfl | rfl | rfl | rfl | rfl | rfl
      · exact Or.inr (hs _ (by decide +kernel))
      · exact Or.inr (hs _ (by decide +kernel))
      · exact Or.inr (hs _ (by decide +kernel))
      · exact Or.inr (hs _ (by decide +kernel))
      · exact absurd rfl h
      · exact Or.inl (hs _ (by decide +kernel))
    · rcases (show j = 0 ∨ j = 1 ∨ j = 2 ∨ j = 3 ∨ j = 4 ∨ j = 5 by omega) with rfl | rfl | rfl | rfl | rfl | rfl
      · exact Or.inr (hs _ (by decide +kernel))
      · exact Or.inr (hs _ (by decide +kernel))
      · exact Or.inr (hs _ (by decide +kernel))
      · exact Or.inr (hs _ (by decide +kernel))
      · exact Or.inr (hs _ (by decide +kernel))
      · exact absurd rfl h) hA
  have hZ := va_Zqof (A := fun x => s.heap.size ≤ x) (hj 365 (by decide +kernel)) (hj 11 (by decide +kernel)) (hs (Cond.isRef (.static "jdk/internal/util/Preconditions" "SIOOBE_FORMATTER" "Ljava/util/function/BiFunction;")) (by decide +kernel)) hA
  have hC := va_Zof (A := fun x => s.heap.size ≤ x) (hj 349 (by decide +kernel)) (hj 9 (by decide +kernel)) (va_eqi (hs (Cond.eq (.static "java/lang/String" "COMPACT_STRINGS" "Z") (.int 1)) (by decide +kernel))) hA
  have hN1 := va_Nw.of (w := .methodLinkNest RX3 49 yX6_copyRow RX6) rfl (hj 441 (by decide +kernel))
  have hN2 := va_Nw.of (w := .methodLinkNest RX5 38 yX6_copyRow RX6) rfl (hj 618 (by decide +kernel))
  have hR : ∀ i, i < 6 → vk_R RX2 (sI.getD i 0) (sT.getD i "") (kk i) s := fun i hi => by
    rcases (show i = 0 ∨ i = 1 ∨ i = 2 ∨ i = 3 ∨ i = 4 ∨ i = 5 by omega) with rfl | rfl | rfl | rfl | rfl | rfl
    · exact vk_R.of (hj 335 (by decide +kernel)) (h2 0 (by omega))
    · exact vk_R.of (hj 416 (by decide +kernel)) (h2 1 (by omega))
    · exact vk_R.of (hj 422 (by decide +kernel)) (h2 2 (by omega))
    · exact vk_R.of (hj 427 (by decide +kernel)) (h2 3 (by omega))
    · exact vk_R.of (hj 428 (by decide +kernel)) (h2 4 (by omega))
    · exact vk_R.of (hj 459 (by decide +kernel)) (h2 5 (by omega))
  have key : ∀ (t : Nat) (f g : Nat → Nat) (q b : Nat), (∀ i, i < 6 → rho f g q kk vv t b (200 + i) = kk i) ∧ (∀ i, i < 6 → rho f g q kk vv t b (300 + i) = vv i) ∧ rho f g q kk vv t b 400 = t := fun t f g q b => by
    refine ⟨fun i hi => ?_, fun i hi => ?_, rfl⟩
    · unfold rho
      rw [if_neg (by omega), if_neg (by omega), if_neg (by omega), if_pos (by omega), Nat.add_sub_cancel_left]
    · unfold rho
      rw [if_neg (by omega), if_neg (by omega), if_neg (by omega), if_neg (by omega), if_pos (by omega), Nat.add_sub_cancel_left]
  have fin : ∀ (t : Nat), (va_Z "jdk/internal/util/Preconditions" "SIOOBE_FORMATTER" "Ljava/util/function/BiFunction;" .null (fun x => s.heap.size ≤ x) s s.heap ∨ va_Z "jdk/internal/util/Preconditions" "SIOOBE_FORMATTER" "Ljava/util/function/BiFunction;" (.ref t) (fun x => s.heap.size ≤ x) s s.heap) → ∀ (f g : Nat → Nat) (q b : Nat) (c1 c2 : Nat → ClassId) (d : Nat → Nat → Nat), SX (rho f g q kk vv t b, c1, c2, d, fun x => s.heap.size ≤ x) s s.heap := by
    intro t ht f g q b c1 c2 d
    obtain ⟨e1, e2, e3⟩ := key t f g q b
    refine ⟨⟨fun i hi => ?_, fun i j hi hj e => ?_⟩, fun i hi => ?_, ⟨hC, ?_⟩, hN1, hN2⟩
    · show va_O "java/lang/String" (rho f g q kk vv t b (200 + i)) _ s s.heap ∧ va_OF "java/lang/String" "coder" "B" (.int 0) (rho f g q kk vv t b (200 + i)) _ s s.heap ∧ va_OF "java/lang/String" "value" "[B" (.ref (rho f g q kk vv t b (300 + i))) (rho f g q kk vv t b (200 + i)) _ s s.heap ∧ va_T .byte (rho f g q kk vv t b (300 + i)) _ _ _ s s.heap
      rw [e1 i hi, e2 i hi]
      exact h1.1 i hi
    · have e : rho f g q kk vv t b (200 + i) = rho f g q kk vv t b (200 + j) := e
      rw [e1 i hi, e1 j hj] at e
      exact h1.2 i j hi hj e
    · show vk_R _ _ _ (rho f g q kk vv t b (200 + i)) s
      rw [e1 i hi]
      exact hR i hi
    · exact ht
  rcases hZ with z | ⟨t, z⟩
  · exact ⟨kk, vv, 0, fin 0 (Or.inl z)⟩
  · exact ⟨kk, vv, t, fin t (Or.inr z)⟩
end ST
