/-! a truth as the machine has it, and calls of which the answer and the heap behind them are known -/
def bI (p : Prop) [Decidable p] : Int32 := if p then 1 else 0
theorem bI_t {p : Prop} [Decidable p] (h : p) : bI p = 1 := if_pos h
theorem bI_f {p : Prop} [Decidable p] (h : ¬ p) : bI p = 0 := if_neg h
theorem bI_0 {p : Prop} [Decidable p] : bI p = 0 ↔ ¬ p := by
  by_cases h : p <;> simp [bI, h]
theorem bI_n0 {p : Prop} [Decidable p] : ¬ bI p = 0 ↔ p := by
  by_cases h : p <;> simp [bI, h]
theorem bI_nar {p : Prop} [Decidable p] : narrow .boolean (.int (bI p)) = .int (bI p) := by
  by_cases h : p
  · rw [bI_t h]; rfl
  · rw [bI_f h]; rfl
theorem bI_congr {p q : Prop} [Decidable p] [Decidable q] (h : p ↔ q) : bI p = bI q := by
  by_cases hp : p
  · rw [bI_t hp, bI_t (h.mp hp)]
  · rw [bI_f hp, bI_f (fun z => hp (h.mpr z))]
section PU
variable {Z : CX × GX} {own : String} {cc : ByteArray} {nL : Nat} {ret : Option FieldType} {fr lo : Nat} {Q : State → Prop} {pc : Nat} {h : AH} {lv : List (Option Value)} {st : List Value}
theorem ex_ifeqB (hX : OK Z own cc nL ret fr lo) {p : Prop} [Decidable p] {off : Int} (tgt : Nat) (d : decode cc pc = .ok (.ifCond .eq off, 3)) (ht : (pc : Int) + off = (tgt : Int)) (kt : ¬ p → EX Z nL Q tgt h lv st) (kf : p → EX Z nL Q (pc + 3) h lv st) : EX Z nL Q pc h lv (.int (bI p) :: st) := ex_ifeq hX tgt d ht (fun c => kt (bI_0.mp c)) (fun c => kf (bI_n0.mp c))
theorem ex_ifneB (hX : OK Z own cc nL ret fr lo) {p : Prop} [Decidable p] {off : Int} (tgt : Nat) (d : decode cc pc = .ok (.ifCond .ne off, 3)) (ht : (pc : Int) + off = (tgt : Int)) (kt : p → EX Z nL Q tgt h lv st) (kf : ¬ p → EX Z nL Q (pc + 3) h lv st) : EX Z nL Q pc h lv (.int (bI p) :: st) := ex_ifne hX tgt d ht (fun c => kt (bI_n0.mp c)) (fun c => kf (bI_0.mp c))
theorem ex_pIv (hX : OK Z own cc nL ret fr lo) {y : MethodName} {c2 : ByteArray} {n2 : Nat} {r2 : Option FieldType} {f2 l2 : Nat} {i ci N idx n : Nat} {T : u_T} {As st0 : List Value} {r0 : Int32} {u0 : AH} (hM : CI y c2 n2 r2 f2 l2 (.ref i :: As) h (fun r u => r = r0 ∧ u = u0)) (hc : CSv own idx y c2 n2 r2) (hm : MS y n) (hcl : vwCl[ci]? = some (y.cls, T, N)) (ho : oc i = some ci) (hn : As.length = n) (hR : f2 + 1 ≤ fr ∧ 8 + (n2 + 11) + l2 ≤ lo) (hst : st0 = As.reverse ++ .ref i :: st) (hcat : (st.map fun v => v.category).sum ≤ 8) (d : decode cc pc = .ok (.invokevirtual idx, 3))
    (k : EX Z nL Q (pc + 3) u0 lv (.int r0 :: st)) : EX Z nL Q pc h lv st0 := ex_callIv hX hM hc hm hcl ho hn hR hst hcat d (fun r u hp => by rw [hp.1, hp.2]; exact k)
theorem ex_pVv (hX : OK Z own cc nL ret fr lo) {y : MethodName} {c2 : ByteArray} {n2 : Nat} {f2 l2 : Nat} {i ci N idx n : Nat} {T : u_T} {As st0 : List Value} {u0 : AH} (hM : CV y c2 n2 f2 l2 (.ref i :: As) h (fun u => u = u0)) (hc : CSv own idx y c2 n2 none) (hm : MS y n) (hcl : vwCl[ci]? = some (y.cls, T, N)) (ho : oc i = some ci) (hn : As.length = n) (hR : f2 + 1 ≤ fr ∧ 8 + (n2 + 11) + l2 ≤ lo) (hst : st0 = As.reverse ++ .ref i :: st) (hcat : (st.map fun v => v.category).sum ≤ 8) (d : decode cc pc = .ok (.invokevirtual idx, 3))
    (k : EX Z nL Q (pc + 3) u0 lv st) : EX Z nL Q pc h lv st0 := ex_callVv hX hM hc hm hcl ho hn hR hst hcat d (fun u hp => by rw [hp]; exact k)
theorem ex_pIs (hX : OK Z own cc nL ret fr lo) {y : MethodName} {c2 : ByteArray} {n2 : Nat} {r2 : Option FieldType} {f2 l2 : Nat} {idx n : Nat} {As st0 : List Value} {r0 : Int32} {u0 : AH} (hM : CI y c2 n2 r2 f2 l2 As h (fun r u => r = r0 ∧ u = u0)) (hc : CSs own idx y c2 n2 r2) (hm : MS y n) (hn : As.length = n) (hR : f2 + 1 ≤ fr ∧ 8 + (n2 + 11) + l2 ≤ lo) (hst : st0 = As.reverse ++ st) (hcat : (st.map fun v => v.category).sum ≤ 8) (d : decode cc pc = .ok (.invokestatic idx, 3))
    (k : EX Z nL Q (pc + 3) u0 lv (.int r0 :: st)) : EX Z nL Q pc h lv st0 := ex_callIs hX hM hc hm hn hR hst hcat d (fun r u hp => by rw [hp.1, hp.2]; exact k)
theorem ex_pVn (hX : OK Z own cc nL ret fr lo) {y : MethodName} {host : String} {c2 : ByteArray} {n2 : Nat} {f2 l2 : Nat} {idx n : Nat} {As st0 : List Value} {u0 : AH} (hM : CV y c2 n2 f2 l2 As h (fun u => u = u0)) (hc : CSn own idx y host c2 n2 none) (hm : MS y n) (hn : As.length = n) (hR : f2 + 1 ≤ fr ∧ 8 + (n2 + 11) + l2 ≤ lo) (hst : st0 = As.reverse ++ st) (hcat : (st.map fun v => v.category).sum ≤ 8) (d : decode cc pc = .ok (.invokestatic idx, 3))
    (k : EX Z nL Q (pc + 3) u0 lv st) : EX Z nL Q pc h lv st0 := ex_callVn hX hM hc hm hn hR hst hcat d (fun u hp => by rw [hp]; exact k)
end PU
