/-! a truth as the machine has it, and calls of which the answer and the heap behind them are known -/
def bI (p : Prop) [Decidable p] : Int32 := if p then 1 else 0
theorem bI_t {p : Prop} [Decidable p] (h : p) : bI p = 1 := if_pos h
theorem bI_f {p : Prop} [Decidable p] (h : ¬ p) : bI p = 0 := if_neg h
theorem bI_0 {p : Prop} [Decidable p] : bI p = 0 ↔ ¬ p := by
  by_cases h : p <;> simp [bI, h]
theorem bI_n0 {p : Prop} [Decidable p] : ¬ bI p = 0 ↔ p := by
  by_cases h : p <;> simp [bI, h]
theorem bI_nar {p : Prop} [Decidable p] : narrow .boolean (.int (bI p)) = .int (bI p) := by
  by_cases h : p
  · rw [bI_t h]; rfl
  · rw [bI_f h]; rfl
theorem bI_congr {p q : Prop} [Decidable p] [Decidable q] (h : p ↔ q) : bI p = bI q := by
  by_cases hp : p
  · rw [bI_t hp, bI_t (h.mp hp)]
  · rw [bI_f hp, bI_f (fun z => hp (h.mpr z))]
section PU
variable {Z : CX × GX} {own : String} {cc : ByteArray} {nL : Nat} {ret : Option FieldType} {fr lo : Nat} {Q : State → Prop} {pc : Nat} {h : AH} {lv : List (Option Value)} {st : List Value}
theorem ex_ifeqB (hX : OK Z own cc nL ret fr lo) {p : Prop} [Decidable p] {off : Int} (tgt : Nat) (d : decode cc pc = .ok (.ifCond .eq off, 3)) (ht : (pc : Int) + off = (tgt : Int)) (kt : ¬ p → EX Z nL Q tgt h lv st) (kf : p → EX Z nL Q (pc + 3) h lv st) : EX Z nL Q pc h lv (.int (bI p) :: st) := ex_ifeq hX tgt d ht (fun c => kt (bI_0.mp c)) (fun c => kf (bI_n0.mp c))
theorem ex_ifneB (hX : OK Z own cc nL ret fr lo) {p : Prop} [Decidable p] {off : Int} (tgt : Nat) (d : decode cc pc = .ok (.ifCond .ne off, 3)) (ht : (pc : Int) + off = (tgt : Int)) (kt : p → EX Z nL Q tgt h lv st) (kf : ¬ p → EX Z nL Q (pc + 3) h lv st) : EX Z nL Q pc h lv (.int (bI p) :: st) := ex_ifne hX tgt d ht (fun c => kt (bI_n0.mp c)) (fun c => kf (bI_0.mp c))
theorem ex_pIv (hX : OK Z own cc nL ret fr lo) {y : MethodName} {c2 : ByteArray} {n2 : Nat} {r2 : Option FieldType} {f2 l2 : Nat} {i ci N idx n : Nat} {T : u_T} {As st0 : List Value} {r0 : Int32} {u0 : AH} (hM : CI y c2 n2 r2 f2 l2 (.ref i :: As) h (fun r u => r = r0 ∧ u = u0)) (hc : CSv own idx y c2 n2 r2) (hm : MS y n) (hcl : vwCl[ci]? = some (y.cls, T, N)) (ho : oc i = some ci) (hn : As.length = n) (hR : f2 + 1 ≤ fr ∧ 8 + (n2 + 11) + l2 ≤ lo) (hst : st0 = As.reverse ++ .ref i :: st) (hcat : (st.map fun v => v.category).sum ≤ 8) (d : decode cc pc = .ok (.invokevirtual idx, 3))
    (k : EX Z nL Q (pc + 3) u0 lv (.int r0 :: st)) : EX Z nL Q pc h lv st0 := ex_callIv hX hM hc hm hcl ho hn hR hst hcat d (fun r u hp => by rw [hp.1, hp.2]; exact k)
theorem ex_pVv (hX : OK Z own cc nL ret fr lo) {y : MethodName} {c2 : ByteArray} {n2 : Nat} {f2 l2 : Nat} {i ci N idx n : Nat} {T : u_T} {As st0 : List Value} {u0 : AH} (hM : CV y c2 n2 f2 l2 (.ref i :: As) h (fun u => u = u0)) (hc : CSv own idx y c2 n2 none) (hm : MS y n) (hcl : vwCl[ci]? = some (y.cls, T, N)) (ho : oc i = some ci) (hn : As.length = n) (hR : f2 + 1 ≤ fr ∧ 8 + (n2 + 11) + l2 ≤ lo) (hst : st0 = As.reverse ++ .ref i :: st) (hcat : (st.map fun v => v.category).sum ≤ 8) (d : decode cc pc = .ok (.invokevirtual idx, 3))
    (k : EX Z nL Q (pc + 3) u0 lv st) : EX Z nL Q pc h lv st0 := ex_callVv hX hM hc hm hcl ho hn hR hst hcat d (fun u hp => by rw [hp]; exact k)
theorem ex_pIs (hX : OK Z own cc nL ret fr lo) {y : MethodName} {c2 : ByteArray} {n2 : Nat} {r2 : Option FieldType} {f2 l2 : Nat} {idx n : Nat} {As st0 : List Value} {r0 : Int32} {u0 : AH} (hM : CI y c2 n2 r2 f2 l2 As h (fun r u => r = r0 ∧ u = u0)) (hc : CSs own idx y c2 n2 r2) (hm : MS y n) (hn : As.length = n) (hR : f2 + 1 ≤ fr ∧ 8 + (n2 + 11) + l2 ≤ lo) (hst : st0 = As.reverse ++ st) (hcat : (st.map fun v => v.category).sum ≤ 8) (d : decode cc pc = .ok (.invokestatic idx, 3))
    (k : EX Z nL Q (pc + 3) u0 lv (.int r0 :: st)) : EX Z nL Q pc h lv st0 := ex_callIs hX hM hc hm hn hR hst hcat d (fun r u hp => by rw [hp.1, hp.2]; exact k)
theorem ex_pVn (hX : OK Z own cc nL ret fr lo) {y : MethodName} {host : String} {c2 : ByteArray} {n2 : Nat} {f2 l2 : Nat} {idx n : Nat} {As st0 : List Value} {u0 : AH} (hM : CV y c2 n2 f2 l2 As h (fun u => u = u0)) (hc : CSn own idx y host c2 n2 none) (hm : MS y n) (hn : As.length = n) (hR : f2 + 1 ≤ fr ∧ 8 + (n2 + 11) + l2 ≤ lo) (hst : st0 = As.reverse ++ st) (hcat : (st.map fun v => v.category).sum ≤ 8) (d : decode cc pc = .ok (.invokestatic idx, 3))
    (k : EX Z nL Q (pc + 3) u0 lv st) : EX Z nL Q pc h lv st0 := ex_callVn hX hM hc hm hn hR hst hcat d (fun u hp => by rw [hp]; exact k)
end PU
section NM
variable {Z : CX × GX} {own : String} {cc : ByteArray} {nL : Nat} {ret : Option FieldType} {fr lo : Nat} {Q : State → Prop} {pc : Nat} {h : AH} {lv : List (Option Value)} {st : List Value}
theorem ex_nameH (k : ∀ u : AH, u = h → EX Z nL Q pc u lv st) : EX Z nL Q pc h lv st := k h rfl
theorem ex_nameI {e : Int32} (k : ∀ v : Int32, v = e → EX Z nL Q pc h lv (.int v :: st)) : EX Z nL Q pc h lv (.int e :: st) := k e rfl
theorem ex_nameL {e : Int64} (k : ∀ v : Int64, v = e → EX Z nL Q pc h lv (.long v :: st)) : EX Z nL Q pc h lv (.long e :: st) := k e rfl
theorem lg_lt (x y : Int64) : lg_cmp x y < 0 ↔ x < y := by
  unfold lg_cmp
  by_cases h1 : y < x
  · have : ¬ x < y := fun z => by simp only [Int64.lt_iff_toInt_lt] at *; omega
    simp [h1, this]
  · by_cases h2 : x = y
    · subst h2; simp [h1]
    · have : x < y := by
        simp only [Int64.lt_iff_toInt_lt] at *
        have : x.toInt ≠ y.toInt := fun z => h2 (Int64.toInt_inj.mp z)
        omega
      simp [h1, h2, this]
theorem lg_gt (x y : Int64) : 0 < lg_cmp x y ↔ y < x := by
  unfold lg_cmp
  by_cases h1 : y < x
  · simp [h1]
  · by_cases h2 : x = y <;> simp [h1, h2]
theorem lg_ge (x y : Int64) : 0 ≤ lg_cmp x y ↔ ¬ x < y := by rw [← lg_lt, Int32.not_lt]
theorem lg_le (x y : Int64) : lg_cmp x y ≤ 0 ↔ ¬ y < x := by rw [← lg_gt, Int32.not_lt]
theorem ex_ifltL (hX : OK Z own cc nL ret fr lo) {x y : Int64} {off : Int} (tgt : Nat) (d : decode cc pc = .ok (.ifCond .lt off, 3)) (ht : (pc : Int) + off = (tgt : Int)) (kt : x < y → EX Z nL Q tgt h lv st) (kf : ¬ x < y → EX Z nL Q (pc + 3) h lv st) : EX Z nL Q pc h lv (.int (lg_cmp x y) :: st) := ex_iflt hX tgt d ht (fun c => kt ((lg_lt x y).mp c)) (fun c => kf (fun z => c ((lg_lt x y).mpr z)))
theorem ex_ifgeL (hX : OK Z own cc nL ret fr lo) {x y : Int64} {off : Int} (tgt : Nat) (d : decode cc pc = .ok (.ifCond .ge off, 3)) (ht : (pc : Int) + off = (tgt : Int)) (kt : ¬ x < y → EX Z nL Q tgt h lv st) (kf : x < y → EX Z nL Q (pc + 3) h lv st) : EX Z nL Q pc h lv (.int (lg_cmp x y) :: st) := ex_ifge hX tgt d ht (fun c => kt ((lg_ge x y).mp c)) (fun c => kf (Decidable.not_not.mp (fun z => c ((lg_ge x y).mpr z))))
theorem ex_ifgtL (hX : OK Z own cc nL ret fr lo) {x y : Int64} {off : Int} (tgt : Nat) (d : decode cc pc = .ok (.ifCond .gt off, 3)) (ht : (pc : Int) + off = (tgt : Int)) (kt : y < x → EX Z nL Q tgt h lv st) (kf : ¬ y < x → EX Z nL Q (pc + 3) h lv st) : EX Z nL Q pc h lv (.int (lg_cmp x y) :: st) := ex_ifgt hX tgt d ht (fun c => kt ((lg_gt x y).mp c)) (fun c => kf (fun z => c ((lg_gt x y).mpr z)))
theorem ex_ifleL (hX : OK Z own cc nL ret fr lo) {x y : Int64} {off : Int} (tgt : Nat) (d : decode cc pc = .ok (.ifCond .le off, 3)) (ht : (pc : Int) + off = (tgt : Int)) (kt : ¬ y < x → EX Z nL Q tgt h lv st) (kf : y < x → EX Z nL Q (pc + 3) h lv st) : EX Z nL Q pc h lv (.int (lg_cmp x y) :: st) := ex_ifle hX tgt d ht (fun c => kt ((lg_le x y).mp c)) (fun c => kf (Decidable.not_not.mp (fun z => c ((lg_le x y).mpr z))))
end NM
