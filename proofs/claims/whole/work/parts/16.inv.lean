theorem bm {x : Int} (h1 : -2147483648 ≤ x) (h2 : x < 2147483648) : x.bmod (2 ^ 32) = x := by
  unfold Int.bmod
  have e : ((2 ^ 32 : Nat) : Int) = 4294967296 := by decide
  rw [e]
  dsimp only
  split <;> omega
theorem bm64 {x : Int} (h1 : -9223372036854775808 ≤ x) (h2 : x < 9223372036854775808) : x.bmod (2 ^ 64) = x := by
  unfold Int.bmod
  have e : ((2 ^ 64 : Nat) : Int) = 18446744073709551616 := by decide
  rw [e]
  dsimp only
  split <;> omega
theorem zi_sub {a b : Int32} (h1 : -2147483648 ≤ a.toInt - b.toInt) (h2 : a.toInt - b.toInt < 2147483648) : (a - b).toInt = a.toInt - b.toInt := by
  rw [Int32.toInt_sub]; exact bm h1 h2
theorem zi_add {a b : Int32} (h1 : -2147483648 ≤ a.toInt + b.toInt) (h2 : a.toInt + b.toInt < 2147483648) : (a + b).toInt = a.toInt + b.toInt := by
  rw [Int32.toInt_add]; exact bm h1 h2
theorem zi_neg {a : Int32} (h1 : -2147483648 < a.toInt) : (-a).toInt = -a.toInt := by
  rw [Int32.toInt_neg]; exact bm (by have := a.toInt_lt; omega) (by omega)
theorem zi_rng (a : Int32) : -2147483648 ≤ a.toInt ∧ a.toInt < 2147483648 := ⟨by have := a.le_toInt; omega, by have := a.toInt_lt; omega⟩
theorem zi_mulL {a b : Int32} : (a.toInt64 * b.toInt64).toInt = a.toInt * b.toInt := by
  rw [Int64.toInt_mul, Int32.toInt_toInt64, Int32.toInt_toInt64]
  obtain ⟨a1, a2⟩ := zi_rng a
  obtain ⟨b1, b2⟩ := zi_rng b
  refine bm64 ?_ ?_
  · have : -(2147483648 * 2147483648) ≤ a.toInt * b.toInt := by
      have h1 : (a.toInt * b.toInt).natAbs ≤ 2147483648 * 2147483648 := by
        rw [Int.natAbs_mul]
        exact Nat.mul_le_mul (by omega) (by omega)
      omega
    omega
  · have h1 : (a.toInt * b.toInt).natAbs ≤ 2147483648 * 2147483648 := by
      rw [Int.natAbs_mul]
      exact Nat.mul_le_mul (by omega) (by omega)
    omega
theorem zi_l2i {x : Int64} (h1 : -2147483648 ≤ x.toInt) (h2 : x.toInt < 2147483648) : x.toInt32.toInt = x.toInt := by
  rw [Int64.toInt_toInt32]; exact bm h1 h2
theorem zi_negL {x : Int64} (h1 : -9223372036854775808 < x.toInt) : (-x).toInt = -x.toInt := by
  rw [Int64.toInt_neg]; exact bm64 (by have := x.toInt_lt; omega) (by omega)
theorem zi_z : (0 : Int32).toInt = 0 := rfl
theorem zi_zL : (0 : Int64).toInt = 0 := rfl
/-- the class's two parts of a flow, against the reference's one number -/
theorem flow_cls {F : Int64} {w w1 : Int32} {sea : Prop} [Decidable sea] (hF : sea → -2147483647 ≤ F.toInt) (hf : -9223372036854775807 ≤ F.toInt) (hw : 0 ≤ w.toInt) (hw1 : ¬ sea → 0 ≤ w1.toInt) {D U : Int64} {V : Int32}
    (eD : D = (if w.toInt64 < (if 0 < F then F else 0) then w.toInt64 else (if 0 < F then F else 0))) (eU : U = (if sea then (if 0 < -F then -F else 0) else (if w1.toInt64 < (if 0 < -F then -F else 0) then w1.toInt64 else (if 0 < -F then -F else 0))))
    (eV : V = Int64.toInt32 (if w.toInt64 < F then w.toInt64 else if F < -(if sea then -F else w1.toInt64) then -(if sea then -F else w1.toInt64) else F)) :
    D.toInt32 - U.toInt32 = V ∧ D.toInt32 = (if 0 < V then V else 0) ∧ U.toInt32 = (if V < 0 then -V else 0) ∧ V.toInt ≤ w.toInt ∧ (¬ sea → -w1.toInt ≤ V.toInt) ∧ (sea → V.toInt = min F.toInt w.toInt) := by
  obtain ⟨wa, wb⟩ := zi_rng w
  obtain ⟨wc, wd⟩ := zi_rng w1
  have nF := zi_negL (x := F) (by omega)
  have tw : w.toInt64.toInt = w.toInt := Int32.toInt_toInt64 w
  have tw1 : w1.toInt64.toInt = w1.toInt := Int32.toInt_toInt64 w1
  have nw1 : (-w1.toInt64).toInt = -w1.toInt := by rw [zi_negL (by omega), tw1]
  have nnF : -(-F) = F := by rw [← Int64.toInt_inj, zi_negL (by rw [nF]; have := F.toInt_lt; omega), nF]; omega
  have key : ∃ d u : Int, D.toInt = d ∧ U.toInt = u ∧ V.toInt = d - u ∧ 0 ≤ d ∧ 0 ≤ u ∧ d < 2147483648 ∧ u < 2147483648 ∧ (d = 0 ∨ u = 0) ∧ d ≤ w.toInt ∧ (¬ sea → u ≤ w1.toInt) ∧ (sea → d - u = min F.toInt w.toInt) := by
    by_cases hp : 0 < F
    · have hp' : 0 < F.toInt := by simpa [Int64.lt_iff_toInt_lt] using hp
      have hn : ¬ 0 < -F := fun z => by rw [Int64.lt_iff_toInt_lt, nF, zi_zL] at z; omega
      rw [if_pos hp] at eD
      rw [if_neg hn] at eU
      have eU0 : U.toInt = 0 := by
        rw [eU]
        split
        · rfl
        · next hs =>
          rw [if_neg (fun z => by rw [Int64.lt_iff_toInt_lt, tw1, zi_zL] at z; have := hw1 hs; omega)]; rfl
      by_cases hc : w.toInt64 < F
      · rw [if_pos hc] at eD eV
        have hc' := Int64.lt_iff_toInt_lt.mp hc
        refine ⟨w.toInt, 0, by rw [eD, tw], eU0, by rw [eV, zi_l2i (by omega) (by omega), tw]; omega, hw, by omega, by omega, by omega, by omega, by omega, fun hs => hw1 hs, fun hs => by omega⟩
      · rw [if_neg hc] at eD eV
        have hc' : ¬ w.toInt64.toInt < F.toInt := fun z => hc (Int64.lt_iff_toInt_lt.mpr z)
        have eV' : V = F.toInt32 := by
          rw [eV]
          congr 1
          by_cases hs : sea
          · rw [if_pos hs, nnF]; rw [if_neg (fun z => by rw [Int64.lt_iff_toInt_lt] at z; omega)]
          · rw [if_neg hs]; rw [if_neg (fun z => by rw [Int64.lt_iff_toInt_lt, nw1] at z; have := hw1 hs; omega)]
        refine ⟨F.toInt, 0, by rw [eD], eU0, by rw [eV', zi_l2i (by omega) (by omega)]; omega, by omega, by omega, by omega, by omega, by omega, by omega, fun hs => hw1 hs, fun hs => by omega⟩
    · have hp' : F.toInt ≤ 0 := by
        rcases Int.lt_or_le 0 F.toInt with z | z
        · exact absurd (Int64.lt_iff_toInt_lt.mpr (by rw [zi_zL]; exact z)) hp
        · exact z
      rw [if_neg hp] at eD
      have eD0 : D.toInt = 0 := by rw [eD, if_neg (fun z => by rw [Int64.lt_iff_toInt_lt, tw, zi_zL] at z; omega)]; rfl
      have hc : ¬ w.toInt64 < F := fun z => by rw [Int64.lt_iff_toInt_lt, tw] at z; omega
      rw [if_neg hc] at eV
      have eM : (if 0 < -F then -F else (0 : Int64)).toInt = -F.toInt := by
        split
        · exact nF
        · next z =>
          have : ¬ 0 < (-F).toInt := fun y => z (Int64.lt_iff_toInt_lt.mpr (by rw [zi_zL]; exact y))
          rw [zi_zL]; omega
      generalize (if 0 < -F then -F else (0 : Int64)) = Mx at eM eU
      by_cases hs : sea
      · rw [if_pos hs] at eU
        rw [if_pos hs, nnF, if_neg (fun z => by rw [Int64.lt_iff_toInt_lt] at z; omega)] at eV
        have := hF hs
        refine ⟨0, -F.toInt, eD0, by rw [eU, eM], by rw [eV, zi_l2i (by omega) (by omega)]; omega, by omega, by omega, by omega, by omega, by omega, by omega, fun z => absurd hs z, fun _ => by omega⟩
      · rw [if_neg hs] at eU
        have h1 := hw1 hs
        rw [if_neg hs] at eV
        by_cases hm : w1.toInt64 < Mx
        · rw [if_pos hm] at eU
          have hm' := Int64.lt_iff_toInt_lt.mp hm
          rw [if_pos (by rw [Int64.lt_iff_toInt_lt, nw1]; omega)] at eV
          refine ⟨0, w1.toInt, eD0, by rw [eU, tw1], by rw [eV, zi_l2i (by omega) (by omega), nw1]; omega, by omega, by omega, by omega, by omega, by omega, by omega, fun _ => by omega, fun z => absurd z hs⟩
        · rw [if_neg hm] at eU
          have hm' : ¬ w1.toInt64.toInt < Mx.toInt := fun z => hm (Int64.lt_iff_toInt_lt.mpr z)
          rw [if_neg (fun z => by rw [Int64.lt_iff_toInt_lt, nw1] at z; omega)] at eV
          refine ⟨0, -F.toInt, eD0, by rw [eU, eM], by rw [eV, zi_l2i (by omega) (by omega)]; omega, by omega, by omega, by omega, by omega, by omega, by omega, fun _ => by omega, fun z => absurd z hs⟩
  obtain ⟨d, u, k1, k2, k3, k4, k5, k6, k7, k8, k9, k10, k11⟩ := key
  have d1 : D.toInt32.toInt = d := by rw [zi_l2i (by omega) (by omega), k1]
  have u1 : U.toInt32.toInt = u := by rw [zi_l2i (by omega) (by omega), k2]
  refine ⟨?_, ?_, ?_, by omega, fun hs => by have := k10 hs; omega, fun hs => by rw [k3]; exact k11 hs⟩
  · rw [← Int32.toInt_inj, zi_sub (by omega) (by omega), d1, u1, k3]
  · rw [← Int32.toInt_inj, d1]
    split
    · next z => rw [Int32.lt_iff_toInt_lt, zi_z] at z; omega
    · next z => rw [Int32.lt_iff_toInt_lt, zi_z] at z; rw [zi_z]; omega
  · rw [← Int32.toInt_inj, u1]
    split
    · next z => rw [Int32.lt_iff_toInt_lt, zi_z] at z; rw [zi_neg (by omega)]; omega
    · next z => rw [Int32.lt_iff_toInt_lt, zi_z] at z; rw [zi_z]; omega
