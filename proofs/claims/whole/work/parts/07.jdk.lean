section JD
variable {Z : CX × GX} {own : String} {cc : ByteArray} {nL : Nat} {ret : Option FieldType} {fr lo : Nat} {Q : State → Prop} {pc : Nat} {h : AH} {lv : List (Option Value)} {st : List Value}
/-- the locals' words that a list of known locals may forget -/
def lsub : List (Option Value) → List (Option Value) → Prop
  | [], [] => True
  | none :: a, _ :: b => lsub a b
  | some v :: a, some w :: b => v = w ∧ lsub a b
  | _, _ => False
theorem lsub_get : ∀ (a b : List (Option Value)), lsub a b → ∀ (i : Nat) (v : Value), a[i]? = some (some v) → b[i]? = some (some v)
  | [], [], _, i, v, h => by simp at h
  | none :: a, _ :: b, hs, i, v, h => by
    cases i with
    | zero => simp at h
    | succ i => simpa using lsub_get a b hs i v (by simpa using h)
  | some w :: a, some x :: b, hs, i, v, h => by
    obtain ⟨rfl, hs⟩ := hs
    cases i with
    | zero => exact h
    | succ i => simpa using lsub_get a b hs i v (by simpa using h)
theorem ex_forget (lv' : List (Option Value)) (hs : lsub lv' lv) (k : EX Z nL Q pc h lv' st) : EX Z nL Q pc h lv st := fun H locs ls hW hS hl =>
  k H locs ls hW hS ⟨hl.1, hl.2.1, fun q hq => by
    obtain ⟨j, v, h1, h2⟩ := (lvl_mem Z.2.1 q lv' 0).mp hq
    exact hl.2.2 q ((lvl_mem Z.2.1 q lv 0).mpr ⟨j, v, lsub_get _ _ hs j v h1, h2⟩)⟩
theorem tabout {x : Int32} (n : Nat) (hn : n < 1000) (h : ∀ k : Nat, k ≤ n → ¬ x = nI k) : x.toInt < 0 ∨ (n : Int) < x.toInt := by
  rcases Int.lt_or_le x.toInt 0 with q | q
  · exact Or.inl q
  · right
    rcases Int.lt_or_le (n : Int) x.toInt with q2 | q2
    · exact q2
    · exfalso
      have h0 : ¬ x < 0 := by
        intro z
        have := Int32.lt_iff_toInt_lt.mp z
        simp at this
        omega
      obtain ⟨j, hj, rfl⟩ := nI_of h0
      rw [nI_toInt hj] at q2
      exact h j (by omega) rfl
theorem ex_mmax (hX : OK Z own cc nL ret fr lo) {idx : Nat} {x y : Int32} (hl0 : Cond.methodLink own idx Lib.Math.max.name ∈ gtbl) (hs : Cond.static Lib.Math.max.name ∈ gtbl) (hi : Cond.initialized "java/lang/Math" ∈ gtbl) (hc : Cond.code Lib.Math.max.name Lib.Math.max.code 2 (some .int) ∈ gtbl) (hR : 1 ≤ fr ∧ (st.map fun v => v.category).sum + 13 ≤ lo) (d : decode cc pc = .ok (.invokestatic idx, 3)) (k : EX Z nL Q (pc + 3) h lv (.int (if x < y then y else x) :: st)) : EX Z nL Q pc h lv (.int y :: .int x :: st) := fun H locs ls hW hS hl =>
  va_mmax hX.1.1 hX.1.2.1 (hX.1.2.2.1.trans hl.1.symm) hX.1.2.2.2.1 (hX.w hl0) (hX.w hs) (hX.w hi) (hX.w hc) (by rw [hX.2.2.1]; exact hR.1) (by rw [hX.2.2.1, cat_sum]; exact hR.2) (Nat.zero_le _) (Nat.zero_le _) d (k H locs ls hW hS hl)
theorem ex_mmin (hX : OK Z own cc nL ret fr lo) {idx : Nat} {x y : Int32} (hl0 : Cond.methodLink own idx Lib.Math.min.name ∈ gtbl) (hs : Cond.static Lib.Math.min.name ∈ gtbl) (hi : Cond.initialized "java/lang/Math" ∈ gtbl) (hc : Cond.code Lib.Math.min.name Lib.Math.min.code 2 (some .int) ∈ gtbl) (hR : 1 ≤ fr ∧ (st.map fun v => v.category).sum + 13 ≤ lo) (d : decode cc pc = .ok (.invokestatic idx, 3)) (k : EX Z nL Q (pc + 3) h lv (.int (if y < x then y else x) :: st)) : EX Z nL Q pc h lv (.int y :: .int x :: st) := fun H locs ls hW hS hl =>
  va_mmin hX.1.1 hX.1.2.1 (hX.1.2.2.1.trans hl.1.symm) hX.1.2.2.2.1 (hX.w hl0) (hX.w hs) (hX.w hi) (hX.w hc) (by rw [hX.2.2.1]; exact hR.1) (by rw [hX.2.2.1, cat_sum]; exact hR.2) (Nat.zero_le _) (Nat.zero_le _) d (k H locs ls hW hS hl)
theorem ex_mabs (hX : OK Z own cc nL ret fr lo) {idx : Nat} {x : Int32} (hl0 : Cond.methodLink own idx Lib.Math.abs.name ∈ gtbl) (hs : Cond.static Lib.Math.abs.name ∈ gtbl) (hi : Cond.initialized "java/lang/Math" ∈ gtbl) (hc : Cond.code Lib.Math.abs.name Lib.Math.abs.code 1 (some .int) ∈ gtbl) (hR : 1 ≤ fr ∧ (st.map fun v => v.category).sum + 13 ≤ lo) (d : decode cc pc = .ok (.invokestatic idx, 3)) (k : EX Z nL Q (pc + 3) h lv (.int (if 0 ≤ x then x else 0 - x) :: st)) : EX Z nL Q pc h lv (.int x :: st) := fun H locs ls hW hS hl =>
  va_mabs hX.1.1 hX.1.2.1 (hX.1.2.2.1.trans hl.1.symm) hX.1.2.2.2.1 (hX.w hl0) (hX.w hs) (hX.w hi) (hX.w hc) (by rw [hX.2.2.1]; exact hR.1) (by rw [hX.2.2.1, cat_sum]; exact hR.2) (Nat.zero_le _) (Nat.zero_le _) d (k H locs ls hW hS hl)
theorem ex_mmaxL (hX : OK Z own cc nL ret fr lo) {idx : Nat} {x y : Int64} (hl0 : Cond.methodLink own idx Lib.MathLoose.max_long.x ∈ gtbl) (hs : Cond.static Lib.MathLoose.max_long.x ∈ gtbl) (hi : Cond.initialized "java/lang/Math" ∈ gtbl) (hc : Cond.code Lib.MathLoose.max_long.x Lib.MathLoose.max_long.code 4 (some .long) ∈ gtbl) (hR : 1 ≤ fr ∧ (st.map fun v => v.category).sum + 15 ≤ lo) (d : decode cc pc = .ok (.invokestatic idx, 3)) (k : EX Z nL Q (pc + 3) h lv (.long (if y < x then x else y) :: st)) : EX Z nL Q pc h lv (.long y :: .long x :: st) := fun H locs ls hW hS hl =>
  va_mmax_long hX.1.1 hX.1.2.1 (hX.1.2.2.1.trans hl.1.symm) hX.1.2.2.2.1 (hX.w hl0) (hX.w hs) (hX.w hi) (hX.w hc) (by rw [hX.2.2.1]; exact hR.1) (by rw [hX.2.2.1, cat_sum]; exact hR.2) (Nat.zero_le _) (Nat.zero_le _) d (k H locs ls hW hS hl)
theorem ex_mminL (hX : OK Z own cc nL ret fr lo) {idx : Nat} {x y : Int64} (hl0 : Cond.methodLink own idx Lib.MathLoose.min_long.x ∈ gtbl) (hs : Cond.static Lib.MathLoose.min_long.x ∈ gtbl) (hi : Cond.initialized "java/lang/Math" ∈ gtbl) (hc : Cond.code Lib.MathLoose.min_long.x Lib.MathLoose.min_long.code 4 (some .long) ∈ gtbl) (hR : 1 ≤ fr ∧ (st.map fun v => v.category).sum + 15 ≤ lo) (d : decode cc pc = .ok (.invokestatic idx, 3)) (k : EX Z nL Q (pc + 3) h lv (.long (if y < x then y else x) :: st)) : EX Z nL Q pc h lv (.long y :: .long x :: st) := fun H locs ls hW hS hl =>
  va_mmin_long hX.1.1 hX.1.2.1 (hX.1.2.2.1.trans hl.1.symm) hX.1.2.2.2.1 (hX.w hl0) (hX.w hs) (hX.w hi) (hX.w hc) (by rw [hX.2.2.1]; exact hR.1) (by rw [hX.2.2.1, cat_sum]; exact hR.2) (Nat.zero_le _) (Nat.zero_le _) d (k H locs ls hW hS hl)
theorem ex_copy (hX : OK Z own cc nL ret fr lo) {idx a b n0 n1 : Nat} {sp dp n : Int32} (hl0 : Cond.methodLink own idx arraycopyName ∈ gtbl) (hna : Cond.native arraycopyName ∈ gtbl) (hs : Cond.static arraycopyName ∈ gtbl) (hi : Cond.initialized "java/lang/System" ∈ gtbl) (ha : ac a = some (0, n0)) (hb : ac b = some (0, n1)) (h1 : ¬ sp < 0) (h2 : ¬ dp < 0) (h3 : ¬ n < 0) (h4 : sp.toNatClampNeg + n.toNatClampNeg ≤ n0) (h5 : dp.toNatClampNeg + n.toNatClampNeg ≤ n1) (hR : 1 ≤ fr ∧ (st.map fun v => v.category).sum + (nativeFrameWords "java/lang/System" "arraycopy" 5 + 11) ≤ lo) (d : decode cc pc = .ok (.invokestatic idx, 3)) (k : EX Z nL Q (pc + 3) (fun q => if q = b then va_cpy (h.1 a) (h.1 b) sp.toNatClampNeg dp.toNatClampNeg n.toNatClampNeg else h.1 q, h.2) lv st) : EX Z nL Q pc h lv (.int n :: .int dp :: .ref b :: .int sp :: .ref a :: st) := fun H locs ls hW hS hl =>
  va_copyi hX.1.1 hX.1.2.1 (hX.1.2.2.1.trans hl.1.symm) hX.1.2.2.2.1 (hX.w hl0) (hX.w hna) (hX.w hs) (hX.w hi) hX.2.1 hW.1 hW.2.1 hS a b 0 0 (wsw_arr ha) (wsw_arr hb) rfl rfl rfl h1 h2 h3 h4 h5 (fun _ _ => rfl) (by rw [hX.2.2.1]; exact hR.1) (by rw [hX.2.2.1, cat_sum]; exact hR.2) d (fun H1 locs1 g1 g2 g3 => k H1 locs1 ls ⟨by rw [← wsw_acpy hb]; exact g1, by rw [← wsw_acpy hb]; exact g2, hW.2.2⟩ g3 hl)
end JD
