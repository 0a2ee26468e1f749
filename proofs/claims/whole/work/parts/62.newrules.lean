theorem OI_inst : Cond.instanceMethod Lib.objectInit ∈ gtbl := (tb 21 (by decide +kernel) (by decide +kernel))

theorem OI_code : Cond.code Lib.objectInit ⟨#[0xb1]⟩ 1 none ∈ gtbl := (tb 22 (by decide +kernel) (by decide +kernel))

theorem OI_6 : Cond.methodLink RX6 1 Lib.objectInit ∈ gtbl := (tb 20 (by decide +kernel) (by decide +kernel))

theorem OI_2 : Cond.methodLink RX2 3 Lib.objectInit ∈ gtbl := (tb 28 (by decide +kernel) (by decide +kernel))

theorem OI_0 : Cond.methodLink RX0 3 Lib.objectInit ∈ gtbl := (tb 71 (by decide +kernel) (by decide +kernel))

theorem OI_1 : Cond.methodLink RX1 3 Lib.objectInit ∈ gtbl := (tb 119 (by decide +kernel) (by decide +kernel))

theorem OI_3 : Cond.methodLink RX3 3 Lib.objectInit ∈ gtbl := (tb 144 (by decide +kernel) (by decide +kernel))

theorem OI_5 : Cond.methodLink RX5 3 Lib.objectInit ∈ gtbl := (tb 150 (by decide +kernel) (by decide +kernel))

theorem OI_4 : Cond.methodLink RX4 3 Lib.objectInit ∈ gtbl := (tb 234 (by decide +kernel) (by decide +kernel))

theorem OI_7 : Cond.methodLink RX7 1 Lib.objectInit ∈ gtbl := (tb 731 (by decide +kernel) (by decide +kernel))

theorem AC_int : Cond.arrayClass .int ∈ gtbl := (tb 113 (by decide +kernel) (by decide +kernel))

theorem AC_byte : Cond.arrayClass .byte ∈ gtbl := (tb 65 (by decide +kernel) (by decide +kernel))

theorem AC_boolean : Cond.arrayClass .boolean ∈ gtbl := (tb 249 (by decide +kernel) (by decide +kernel))

theorem MS_X0_init : MS yX0_init 0 := by refine ⟨?_, ?_, ?_⟩ <;> decide +kernel

theorem IN_0 : Cond.instanceMethod yX0_init ∈ gtbl := (tb 69 (by decide +kernel) (by decide +kernel))

theorem IC_0 : Cond.code yX0_init cX0_init 1 none ∈ gtbl := (tb 70 (by decide +kernel) (by decide +kernel))

theorem II_0 : Cond.initialized RX0 ∈ gtbl := (tb 3 (by decide +kernel) (by decide +kernel))

theorem IT_0 : Cond.instantiable RX0 8 ∈ gtbl := (tb 67 (by decide +kernel) (by decide +kernel))

theorem MS_X1_init : MS yX1_init 0 := by refine ⟨?_, ?_, ?_⟩ <;> decide +kernel

theorem IN_1 : Cond.instanceMethod yX1_init ∈ gtbl := (tb 117 (by decide +kernel) (by decide +kernel))

theorem IC_1 : Cond.code yX1_init cX1_init 1 none ∈ gtbl := (tb 118 (by decide +kernel) (by decide +kernel))

theorem II_1 : Cond.initialized RX1 ∈ gtbl := (tb 4 (by decide +kernel) (by decide +kernel))

theorem IT_1 : Cond.instantiable RX1 4 ∈ gtbl := (tb 115 (by decide +kernel) (by decide +kernel))

theorem MS_X2_init : MS yX2_init 0 := by refine ⟨?_, ?_, ?_⟩ <;> decide +kernel

theorem IN_2 : Cond.instanceMethod yX2_init ∈ gtbl := (tb 26 (by decide +kernel) (by decide +kernel))

theorem IC_2 : Cond.code yX2_init cX2_init 1 none ∈ gtbl := (tb 27 (by decide +kernel) (by decide +kernel))

theorem II_2 : Cond.initialized RX2 ∈ gtbl := (tb 2 (by decide +kernel) (by decide +kernel))

theorem IT_2 : Cond.instantiable RX2 11 ∈ gtbl := (tb 24 (by decide +kernel) (by decide +kernel))

theorem MS_X3_init : MS yX3_init 0 := by refine ⟨?_, ?_, ?_⟩ <;> decide +kernel

theorem IN_3 : Cond.instanceMethod yX3_init ∈ gtbl := (tb 142 (by decide +kernel) (by decide +kernel))

theorem IC_3 : Cond.code yX3_init cX3_init 1 none ∈ gtbl := (tb 143 (by decide +kernel) (by decide +kernel))

theorem II_3 : Cond.initialized RX3 ∈ gtbl := (tb 5 (by decide +kernel) (by decide +kernel))

theorem IT_3 : Cond.instantiable RX3 10 ∈ gtbl := (tb 140 (by decide +kernel) (by decide +kernel))

theorem MS_X4_init : MS yX4_init 0 := by refine ⟨?_, ?_, ?_⟩ <;> decide +kernel

theorem IN_4 : Cond.instanceMethod yX4_init ∈ gtbl := (tb 232 (by decide +kernel) (by decide +kernel))

theorem IC_4 : Cond.code yX4_init cX4_init 1 none ∈ gtbl := (tb 233 (by decide +kernel) (by decide +kernel))

theorem II_4 : Cond.initialized RX4 ∈ gtbl := (tb 7 (by decide +kernel) (by decide +kernel))

theorem IT_4 : Cond.instantiable RX4 4 ∈ gtbl := (tb 230 (by decide +kernel) (by decide +kernel))

theorem MS_X5_init : MS yX5_init 0 := by refine ⟨?_, ?_, ?_⟩ <;> decide +kernel

theorem IN_5 : Cond.instanceMethod yX5_init ∈ gtbl := (tb 148 (by decide +kernel) (by decide +kernel))

theorem IC_5 : Cond.code yX5_init cX5_init 1 none ∈ gtbl := (tb 149 (by decide +kernel) (by decide +kernel))

theorem II_5 : Cond.initialized RX5 ∈ gtbl := (tb 6 (by decide +kernel) (by decide +kernel))

theorem IT_5 : Cond.instantiable RX5 8 ∈ gtbl := (tb 146 (by decide +kernel) (by decide +kernel))

theorem MS_X6_init : MS yX6_init 0 := by refine ⟨?_, ?_, ?_⟩ <;> decide +kernel

theorem IN_6 : Cond.instanceMethod yX6_init ∈ gtbl := (tb 18 (by decide +kernel) (by decide +kernel))

theorem IC_6 : Cond.code yX6_init cX6_init 2 none ∈ gtbl := (tb 19 (by decide +kernel) (by decide +kernel))

theorem II_6 : Cond.initialized RX6 ∈ gtbl := (tb 1 (by decide +kernel) (by decide +kernel))

theorem IT_6 : Cond.instantiable RX6 14 ∈ gtbl := (tb 16 (by decide +kernel) (by decide +kernel))

theorem MS_X7_init : MS yX7_init 0 := by refine ⟨?_, ?_, ?_⟩ <;> decide +kernel

theorem IN_7 : Cond.instanceMethod yX7_init ∈ gtbl := (tb 729 (by decide +kernel) (by decide +kernel))

theorem IC_7 : Cond.code yX7_init cX7_init 1 none ∈ gtbl := (tb 730 (by decide +kernel) (by decide +kernel))

theorem II_7 : Cond.initialized RX7 ∈ gtbl := (tb 8 (by decide +kernel) (by decide +kernel))

theorem IT_7 : Cond.instantiable RX7 33 ∈ gtbl := (tb 727 (by decide +kernel) (by decide +kernel))

theorem CK_L_7 : Cond.classLink R_law 7 RX6 ∈ gtbl := (tb 15 (by decide +kernel) (by decide +kernel))

theorem CK_6_7 : Cond.classLink RX6 7 RX2 ∈ gtbl := (tb 23 (by decide +kernel) (by decide +kernel))

theorem CK_6_16 : Cond.classLink RX6 16 RX0 ∈ gtbl := (tb 66 (by decide +kernel) (by decide +kernel))

theorem CK_6_26 : Cond.classLink RX6 26 RX1 ∈ gtbl := (tb 114 (by decide +kernel) (by decide +kernel))

theorem CK_6_36 : Cond.classLink RX6 36 RX3 ∈ gtbl := (tb 139 (by decide +kernel) (by decide +kernel))

theorem CK_3_30 : Cond.classLink RX3 30 RX5 ∈ gtbl := (tb 145 (by decide +kernel) (by decide +kernel))

theorem CK_6_54 : Cond.classLink RX6 54 RX4 ∈ gtbl := (tb 229 (by decide +kernel) (by decide +kernel))

theorem CK_L_10 : Cond.classLink R_law 10 RX7 ∈ gtbl := (tb 726 (by decide +kernel) (by decide +kernel))

theorem LI_6 : Cond.methodLink R_law 9 yX6_init ∈ gtbl := (tb 17 (by decide +kernel) (by decide +kernel))

theorem LI_7 : Cond.methodLink R_law 12 yX7_init ∈ gtbl := (tb 728 (by decide +kernel) (by decide +kernel))

/-! WHAT THE CONSTRUCTORS MAKE -/
abbrev DX : Type := va_G × (Nat → ClassId) × (Nat → Prop)
def NW (U : State) : Prop := va_Nw (.methodLinkNest RX6 9 yX2_init RX6) U ∧ va_Nw (.methodLinkNest RX6 18 yX0_init RX6) U ∧ va_Nw (.methodLinkNest RX6 28 yX1_init RX6) U ∧ va_Nw (.methodLinkNest RX6 38 yX3_init RX6) U ∧ va_Nw (.methodLinkNest RX6 56 yX4_init RX6) U ∧ va_Nw (.methodLinkNest RX3 32 yX5_init RX6) U ∧ va_AO RX3 U
theorem NW.warm {s U : State} (hW : s.WarmedH U.vm) (h : NW s) : NW U := ⟨h.1.warmM hW, h.2.1.warmM hW, h.2.2.1.warmM hW, h.2.2.2.1.warmM hW, h.2.2.2.2.1.warmM hW, h.2.2.2.2.2.1.warmM hW, h.2.2.2.2.2.2.moved hW.alike⟩
theorem NW.same {u U : State} (hv : U.vm = u.vm) (h : NW u) : NW U := ⟨h.1.same rfl hv.symm, h.2.1.same rfl hv.symm, h.2.2.1.same rfl hv.symm, h.2.2.2.1.same rfl hv.symm, h.2.2.2.2.1.same rfl hv.symm, h.2.2.2.2.2.1.same rfl hv.symm, h.2.2.2.2.2.2.moved (by rw [hv]; exact Vm.Alike.refl u.vm)⟩
def NX (Z : CX × DX) (nL cells slots : Nat) (Q : State → Prop) (pc : Nat) (ws : va_W) (lv : List (Nat × Value)) (st : List Value) : Prop :=
  ∀ (H : Heap) (locs : List Loc) (ls : Array Slot), va_P Z.2.1 vwCl ws H → va_D Z.2.2.2 ws → va_S Z.2.2.2 Z.1.2.2.2.2.1.heap H locs → lv_has ls nL lv →
    W Z.1.1 Z.1.2.1 Z.1.2.2.1 Z.1.2.2.2.1 Z.1.2.2.2.2.1 Z.1.2.2.2.2.2.1 Z.1.2.2.2.2.2.2.1 Z.1.2.2.2.2.2.2.2.1 Z.1.2.2.2.2.2.2.2.2.1 Z.1.2.2.2.2.2.2.2.2.2 H locs cells slots Q (F0 Z.1.2.2.2.2.2.1 pc ls st)
def OM (Z : CX × DX) (own : String) (cc : ByteArray) (nL fr lo mc ms : Nat) : Prop :=
  CallFix Z.1.1 Z.1.2.2.2.2.2.1 Z.1.2.2.2.2.2.2.2.2.2 cc nL Z.1.2.2.2.2.1 Z.1.2.2.2.2.2.2.1 gtbl own ∧ va_K Z.2.1 vwCl (tysw Z.2.2.1) Z.1.2.2.2.2.1 ∧ Z.1.2.2.2.1 = { frames := fr, cells := mc, slots := ms, locals := lo } ∧ (∀ q, Z.1.2.2.2.2.1.heap.size ≤ q → Z.2.2.2 q) ∧ NW Z.1.2.2.2.2.1
def ON (Z : CX × DX) (own : String) (cc : ByteArray) (nL fr lo mc ms : Nat) : Prop := OM Z own cc nL fr lo mc ms ∧ Z.1.2.2.2.2.2.2.2.2.1.sig.returnType = none ∧ Z.1.2.2.2.2.2.2.2.2.1.locks = false ∧ Z.1.2.2.2.2.2.2.2.2.1.name = "<init>"
def CN (y : MethodName) (cc : ByteArray) (nL fr lo mc ms ci : Nat) (fs : List Value) (P : Nat → (Nat → Nat) → Prop) (Wf : (Nat → ClassId) → Nat → (Nat → Nat) → va_W) : Prop :=
  ∀ (l : Launch) (D : va_G) (cA : Nat → ClassId) (a sz : Nat), Met l y (.code y cc nL none :: gtbl) { frames := fr, cells := mc, slots := ms, locals := lo } (va_Pc [.ref a] (fun U => U.heap.size = sz ∧ va_P D vwCl [(a, .inr (ci, fs))] U.heap ∧ va_K D vwCl (tysw cA) U ∧ NW U)) (va_Qv (P a) (fun f t => va_P D vwCl (Wf cA a f) t.heap ∧ va_D (va_A [(a, .inr (ci, fs))] sz) (Wf cA a f)) (va_A [(a, .inr (ci, fs))] sz)) mc ms (va_A [(a, .inr (ci, fs))] sz)
abbrev QN (Z : CX × DX) (P : Nat → (Nat → Nat) → Prop) (Wf : (Nat → ClassId) → Nat → (Nat → Nat) → va_W) (mc ms a : Nat) : State → Prop := MQ Z.1.2.2.2.2.2.2.2.1 (va_Qv (P a) (fun f t => va_P Z.2.1 vwCl (Wf Z.2.2.1 a f) t.heap ∧ va_D Z.2.2.2 (Wf Z.2.2.1 a f)) Z.2.2.2) Z.1.2.2.2.2.2.2.1 Z.1.2.2.2.2.1 mc ms Z.2.2.2
theorem va_D1 {A : Nat → Prop} {x : Nat × va_E} (h : A x.1) : va_D A [x] := by
  refine ⟨fun i j p q h1 h2 _ => ?_, fun k q hk => ?_⟩
  · have a := (List.getElem?_eq_some_iff.mp h1).1
    have b := (List.getElem?_eq_some_iff.mp h2).1
    simp at a b
    omega
  · have a := (List.getElem?_eq_some_iff.mp hk).1
    simp at a
    subst a
    cases hk
    exact h
theorem CN.of {y : MethodName} {own : String} {cc : ByteArray} {nL fr lo mc ms ci : Nat} {fs : List Value} {P : Nat → (Nat → Nat) → Prop} {Wf : (Nat → ClassId) → Nat → (Nat → Nat) → va_W} (hy : plainName y.cls = true) (ho : y.cls = own) (hnm : y.name = "<init>") (hnL : 1 ≤ nL) (body : ∀ (Z : CX × DX) (a : Nat), ON Z own cc nL fr lo mc ms → NX Z nL 0 0 (QN Z P Wf mc ms a) 0 [(a, .inr (ci, fs))] [(0, .ref a)] []) : CN y cc nL fr lo mc ms ci fs P Wf := by
  intro l D cA a sz
  refine Met.ofW (cc := cc) (maxL := nL) (ret := none) hy rfl ?_
  intro p e s m args below meth c s₁ B hml hv
  obtain ⟨rfl, hsz, hP, hK, hN⟩ := hv
  subst hsz
  have hts := atoms_spec (ws := .code y cc nL none :: gtbl) B.pre
  have hown : s.vm.findClass own = some m.cls := by rw [← ho]; exact findClass_of_methodNamed B.named
  have hin : meth.name = "<init>" := by rw [← hnm]; exact (name_of_methodNamed B.named B.method).1
  have hl := lv_entry ([.ref a]) (n := nL) hnL
  rw [lg_entry_eq]
  generalize (lg_sl ([.ref a]) ++ List.replicate (nL - (lg_sl ([.ref a])).length) Slot.unset).toArray = ls at hl ⊢
  exact body ((p, l, e, { frames := fr, cells := mc, slots := ms, locals := lo }, s, m, [Value.ref a].toArray, below, meth, c), (D, cA, va_A [(a, .inr (ci, fs))] s.heap.size)) a ⟨⟨⟨B.exec, B.bytes, hml, hown, fun w hw => hts w (List.mem_cons_of_mem _ hw)⟩, hK, rfl, fun q hq => Or.inr hq, hN⟩, B.returns, B.notSynchronized, hin⟩ s.heap [] ls hP (va_D1 (va_A.in (k := 0) rfl)) va_S.rf hl
theorem va_nd_of : ∀ l : List Nat, l.Nodup → va_nd l = true := by
  intro l
  induction l with
  | nil => intro _; rfl
  | cons a t ih =>
    intro h
    obtain ⟨h1, h2⟩ := List.nodup_cons.mp h
    rw [va_nd, ih h2, decide_eq_true h1]
    rfl
theorem jn {A0 : Nat → Prop} {D : va_G} {wr w1 : va_W} {x : Nat × va_E} {H H1 : Heap} (hP : va_P D vwCl (wr ++ [x]) H) (hD : va_D A0 (wr ++ [x])) (hk : ∀ q : Nat, q < H.size → ¬ va_A [x] H.size q → H1[q]? = H[q]?) (hF : ∀ q, va_A [x] H.size q → A0 q) (hP1 : va_P D vwCl w1 H1) (hD1 : va_D (va_A [x] H.size) w1) : va_P D vwCl (wr ++ w1) H1 ∧ va_D A0 (wr ++ w1) := by
  refine va_join (wc := [x]) hP hD [wr.length] (List.range wr.length) ?_ ?_ ?_ ?_ hk hF hP1 hD1
  · simp
  · apply List.ext_getElem?
    intro i
    rw [List.getElem?_map, List.getElem?_map]
    by_cases c : i < wr.length
    · rw [List.getElem?_range c, List.getElem?_eq_getElem c]
      show some (wr ++ [x])[i]? = some (some wr[i])
      rw [List.getElem?_append_left c, List.getElem?_eq_getElem c]
    · rw [List.getElem?_eq_none (by simp; omega), List.getElem?_eq_none (by omega)]
      rfl
  · exact va_nd_of _ List.nodup_range
  · intro i hi hc
    have := List.mem_range.mp hi
    simp at hc
    omega
section NR
variable {Z : CX × DX} {own : String} {cc : ByteArray} {nL fr lo mc ms cells slots : Nat} {Q : State → Prop} {pc : Nat} {ws : va_W} {lv : List (Nat × Value)} {st : List Value}
theorem OM.w (hX : OM Z own cc nL fr lo mc ms) {w : Cond} (hw : w ∈ gtbl) : w.before Z.1.2.2.2.2.2.2.1 Z.1.2.2.2.2.1 = true := hX.1.2.2.2.2 w hw
theorem nx_aload (hX : OM Z own cc nL fr lo mc ms) {q : Fin 4} {i x : Nat} (k : Nat) (d : decode cc pc = .ok (.aload_n q, 1)) (hi : (q : Nat) = i) (hv : lv[k]? = some (i, .ref x)) (kk : NX Z nL cells slots Q (pc + 1) ws lv (.ref x :: st)) : NX Z nL cells slots Q pc ws lv st := fun H locs ls hP hD hS hl => lv_aload_n hX.1.1 hX.1.2.1 d hi (lv_at hl k hv) (kk H locs ls hP hD hS hl)
theorem nx_iload (hX : OM Z own cc nL fr lo mc ms) {q : Fin 4} {i : Nat} {x : Int32} (k : Nat) (d : decode cc pc = .ok (.iload_n q, 1)) (hi : (q : Nat) = i) (hv : lv[k]? = some (i, .int x)) (kk : NX Z nL cells slots Q (pc + 1) ws lv (.int x :: st)) : NX Z nL cells slots Q pc ws lv st := fun H locs ls hP hD hS hl => lv_iload_n hX.1.1 hX.1.2.1 d hi (lv_at hl k hv) (kk H locs ls hP hD hS hl)
theorem nx_iconst (hX : OM Z own cc nL fr lo mc ms) {n : Int} {v : Int32} (d : decode cc pc = .ok (.iconst n, 1)) (hv : Int32.ofInt n = v) (kk : NX Z nL cells slots Q (pc + 1) ws lv (.int v :: st)) : NX Z nL cells slots Q pc ws lv st := fun H locs ls hP hD hS hl => lv_iconst hX.1.1 hX.1.2.1 d hv (kk H locs ls hP hD hS hl)
theorem nx_bipush (hX : OM Z own cc nL fr lo mc ms) {n : Int} {v : Int32} (d : decode cc pc = .ok (.bipush n, 2)) (hv : (Int8.ofInt n).toInt32 = v) (kk : NX Z nL cells slots Q (pc + 2) ws lv (.int v :: st)) : NX Z nL cells slots Q pc ws lv st := fun H locs ls hP hD hS hl => lv_bipush hX.1.1 hX.1.2.1 d hv (kk H locs ls hP hD hS hl)
theorem nx_sipush (hX : OM Z own cc nL fr lo mc ms) {n : Int} {v : Int32} (d : decode cc pc = .ok (.sipush n, 3)) (hv : (Int16.ofInt n).toInt32 = v) (kk : NX Z nL cells slots Q (pc + 3) ws lv (.int v :: st)) : NX Z nL cells slots Q pc ws lv st := fun H locs ls hP hD hS hl => lv_sipush hX.1.1 hX.1.2.1 d hv (kk H locs ls hP hD hS hl)
theorem nx_dup (hX : OM Z own cc nL fr lo mc ms) {x : Nat} (d : decode cc pc = .ok (.dup, 1)) (kk : NX Z nL cells slots Q (pc + 1) ws lv (.ref x :: .ref x :: st)) : NX Z nL cells slots Q pc ws lv (.ref x :: st) := fun H locs ls hP hD hS hl => lv_dup hX.1.1 hX.1.2.1 d rfl (kk H locs ls hP hD hS hl)
theorem nx_goto (hX : OM Z own cc nL fr lo mc ms) {off : Int} (tgt : Nat) (d : decode cc pc = .ok (.goto off, 3)) (ht : (pc : Int) + off = (tgt : Int)) (kk : NX Z nL cells slots Q tgt ws lv st) : NX Z nL cells slots Q pc ws lv st := fun H locs ls hP hD hS hl => lv_goto hX.1.1 hX.1.2.1 d ht (kk H locs ls hP hD hS hl)
theorem nx_icmpge (hX : OM Z own cc nL fr lo mc ms) {x y : Int32} {off : Int} (tgt : Nat) (d : decode cc pc = .ok (.if_icmp .ge off, 3)) (ht : (pc : Int) + off = (tgt : Int)) (kt : y ≤ x → NX Z nL cells slots Q tgt ws lv st) (kf : ¬ y ≤ x → NX Z nL cells slots Q (pc + 3) ws lv st) : NX Z nL cells slots Q pc ws lv (.int y :: .int x :: st) := fun H locs ls hP hD hS hl => lv_icmp_ge hX.1.1 hX.1.2.1 d ht (fun c => kt c H locs ls hP hD hS hl) (fun c => kf c H locs ls hP hD hS hl)
theorem nx_istore (hX : OM Z own cc nL fr lo mc ms) {q : Fin 4} {i : Nat} {x : Int32} {lv' : List (Nat × Value)} (d : decode cc pc = .ok (.istore_n q, 1)) (hi : (q : Nat) = i) (hn : i < nL) (hl' : (i, Value.int x) :: lv.filter (fun q => !(q.1 == i) && !(q.1 + 1 == i && q.2.category == 2)) = lv') (kk : NX Z nL cells slots Q (pc + 1) ws lv' st) : NX Z nL cells slots Q pc ws lv (.int x :: st) := fun H locs ls hP hD hS hl => lv_istore_n hX.1.1 hX.1.2.1 d hi hl hn hl' (fun ls' h' => kk H locs ls' hP hD hS h')
theorem nx_astore (hX : OM Z own cc nL fr lo mc ms) {q : Fin 4} {i : Nat} {x : Nat} {lv' : List (Nat × Value)} (d : decode cc pc = .ok (.astore_n q, 1)) (hi : (q : Nat) = i) (hn : i < nL) (hl' : (i, Value.ref x) :: lv.filter (fun q => !(q.1 == i) && !(q.1 + 1 == i && q.2.category == 2)) = lv') (kk : NX Z nL cells slots Q (pc + 1) ws lv' st) : NX Z nL cells slots Q pc ws lv (.ref x :: st) := fun H locs ls hP hD hS hl => lv_astore_n hX.1.1 hX.1.2.1 d hi hl hn hl' (fun ls' h' => kk H locs ls' hP hD hS h')
theorem nx_iinc (hX : OM Z own cc nL fr lo mc ms) {i k : Nat} {n : Int} {x v : Int32} {lv' : List (Nat × Value)} (d : decode cc pc = .ok (.iinc i n, 3)) (hk : lv[k]? = some (i, .int x)) (hv : x + Int32.ofInt n = v) (hn : i < nL) (hl' : (i, Value.int v) :: lv.filter (fun q => !(q.1 == i) && !(q.1 + 1 == i && q.2.category == 2)) = lv') (kk : NX Z nL cells slots Q (pc + 3) ws lv' st) : NX Z nL cells slots Q pc ws lv st := fun H locs ls hP hD hS hl => lv_iinc hX.1.1 hX.1.2.1 d hl hk hv hn hl' (fun ls' h' => kk H locs ls' hP hD hS h')
theorem nx_widen {k n : Nat} (h1 : cells ≤ k) (h2 : slots ≤ n) (kk : NX Z nL k n Q pc ws lv st) : NX Z nL cells slots Q pc ws lv st := fun H locs ls hP hD hS hl => W.widen h1 h2 (kk H locs ls hP hD hS hl)
theorem nx_objInit (hX : OM Z own cc nL fr lo mc ms) {idx x : Nat} (hlink : Cond.methodLink own idx Lib.objectInit ∈ gtbl) (hfr : 1 ≤ fr) (hlo : (st.map fun v => v.category).sum + 12 ≤ lo) (d : decode cc pc = .ok (.invokespecial idx, 3)) (kk : NX Z nL cells slots Q (pc + 3) ws lv st) : NX Z nL cells slots Q pc ws lv (.ref x :: st) := fun H locs ls hP hD hS hl => by
  refine W.objInit (a := x) (rest := st) hX.1.1 hX.1.2.1 hX.1.2.2.2.1 (hX.w hlink) (hX.w OI_inst) (hX.w OI_code) rfl (by rw [hX.1.2.2.1]; exact hl.1) rfl d (by rw [hX.2.2.1]; exact hfr) (by rw [hX.2.2.1]; show 2 * 0 + _ + 12 ≤ lo; omega) ?_
  exact W.eq (g2 := F0 Z.1.2.2.2.2.2.1 (pc + 3) ls st) rfl (kk H locs ls hP hD hS hl)
theorem nx_newa (hX : OM Z own cc nL fr lo mc ms) {atype : ArrayType} {ty : FieldType} {t : Nat} (hty : newarray.typeOf atype = ty) (hac : Cond.arrayClass ty ∈ gtbl) (ht : (tysw Z.2.2.1)[t]? = some (Z.2.2.1 t, ty)) (hpr : ∀ (U : State) (c : ClassId), va_RA U c ty → U.vm.findClass ("[" ++ ty.toString) = some c) (hdv : defaultValue ty = .int 0) {n : Int32} {N : Nat} (hn : ¬ n < 0) (hN : n.toNatClampNeg = N) (hb : N * componentBytes ty ≤ 536870912) (hc : cells + 1 ≤ mc) (hs : slots + N ≤ ms) (d : decode cc pc = .ok (.newarray atype, 2)) (kk : ∀ q : Nat, NX Z nL (cells + 1) (slots + N) Q (pc + 2) (ws ++ [(q, .inl (Z.2.2.1 t, N, .inl (fun _ => 0)))]) lv (.ref q :: st)) : NX Z nL cells slots Q pc ws lv (.int n :: st) := fun H locs ls hP hD hS hl => by
  refine va_newa (a0 := (N, .inl (fun _ => 0))) hX.1.1 hX.1.2.1 (by rw [hty]; exact hX.w hac) hty hX.2.1 hP hD hS hX.2.2.2.1 (fun cA => by rw [hdv]; rfl) hn hN hb (by rw [hX.2.2.1]; exact hc) (by rw [hX.2.2.1]; exact hs) d (fun q cA H1 hK1 hP1 hD1 hS1 => ?_)
  have h1 := hK1.2 4 (cA, ty) rfl
  have h2 := hX.2.1.2 t _ ht
  have e : cA = Z.2.2.1 t := Option.some.inj ((hpr _ _ h1.2).symm.trans (hpr _ _ h2.2))
  subst e
  exact kk q H1 locs ls hP1 hD1 hS1 hl
theorem nx_newq (hX : OM Z own cc nL fr lo mc ms) {idx : Nat} (hcl : Cond.classLink own idx RX3 ∈ gtbl) {n : Int32} {N : Nat} (hn : ¬ n < 0) (hN : n.toNatClampNeg = N) (hb : N * 4 ≤ 536870912) (hc : cells + 1 ≤ mc) (hs : slots + N ≤ ms) (d : decode cc pc = .ok (.anewarray idx, 3)) (kk : ∀ q : Nat, NX Z nL (cells + 1) (slots + N) Q (pc + 3) (ws ++ [(q, .inl (Z.2.2.1 3, N, .inr (.inr (.inr (.inr (fun _ => none))))))]) lv (.ref q :: st)) : NX Z nL cells slots Q pc ws lv (.int n :: st) := fun H locs ls hP hD hS hl => by
  refine va_newq hX.1.1 hX.1.2.1 hX.1.2.2.2.1 (hX.w hcl) hX.2.2.2.2.2.2.2.2.2.2 hX.2.1 hP hD hS hX.2.2.2.1 hn hN hb (by rw [hX.2.2.1]; exact hc) (by rw [hX.2.2.1]; exact hs) d (fun q cA H1 hK1 hP1 hD1 hS1 => ?_)
  obtain ⟨k1, c1, x1, x2, x3, x4⟩ := (hK1.2 4 (cA, .object RX3) rfl).2
  obtain ⟨k2, c2, y1, y2, y3, y4⟩ := (hX.2.1.2 3 (Z.2.2.1 3, .object RX3) rfl).2
  have e : cA = Z.2.2.1 3 := Option.some.inj (x4.symm.trans y4)
  subst e
  exact kk q H1 locs ls hP1 hD1 hS1 hl
theorem nx_putF (hX : ON Z own cc nL fr lo mc ms) {a ci k N idx : Nat} {T : u_T} {v : Value} {fs : List Value} {tl : va_W} (ty : FieldType) (hF : FL own idx ci k T N) (ty0 : Nat → FieldType) (hty : ∀ k, k < N → parseFieldDescriptor (T k).2.2.1 = some (ty0 k)) (hnm : ∀ a, a < N → ∀ b, b < N → a ≠ b → (T a).2.1 ≠ (T b).2.1) (hfin : (T k).2.2.2 = true) (hdecl : (T k).1 = own) (htk : ty0 k = ty) (hn : narrow ty v = v) (hfit : fits ty v = true) (hlen : k < fs.length) (d : decode cc pc = .ok (.putfield idx, 3)) (kk : NX Z nL cells slots Q (pc + 3) ((a, .inr (ci, fs.set k v)) :: tl) lv st) : NX Z nL cells slots Q pc ((a, .inr (ci, fs)) :: tl) lv (v :: .ref a :: st) := fun H locs ls hP hD hS hl => by
  obtain ⟨C, hc, hk, hlink, hin⟩ := hF
  exact va_putF (C := C) (T := T) (N := N) (ref := (T k).1) (ty := ty) (v := v) hX.1.1.1 hX.1.1.2.1 hX.1.1.2.2.2.2 hin ty0 hty hnm hX.1.1.2.2.2.1 hX.1.2.1 hP hD hS 0 rfl hc k hk (hX.1.w hlink) (fun _ h => h) hfin hX.2.2.2 hdecl (by rw [hty k hk, htk]) hn hfit hlen d (fun H1 locs1 g1 g2 g3 => kk H1 locs1 ls g1 g2 g3 hl)
theorem nx_put (hX : ON Z own cc nL fr lo mc ms) {a ci k N idx : Nat} {T : u_T} {v : Value} {fs : List Value} {tl : va_W} (ty : FieldType) (hF : FL own idx ci k T N) (ty0 : Nat → FieldType) (hty : ∀ k, k < N → parseFieldDescriptor (T k).2.2.1 = some (ty0 k)) (hnm : ∀ a, a < N → ∀ b, b < N → a ≠ b → (T a).2.1 ≠ (T b).2.1) (hfin : (T k).2.2.2 = false) (htk : ty0 k = ty) (hn : narrow ty v = v) (hfit : fits ty v = true) (hlen : k < fs.length) (d : decode cc pc = .ok (.putfield idx, 3)) (kk : NX Z nL cells slots Q (pc + 3) ((a, .inr (ci, fs.set k v)) :: tl) lv st) : NX Z nL cells slots Q pc ((a, .inr (ci, fs)) :: tl) lv (v :: .ref a :: st) := fun H locs ls hP hD hS hl => by
  obtain ⟨C, hc, hk, hlink, hin⟩ := hF
  exact va_put (C := C) (T := T) (N := N) (ref := (T k).1) (ty := ty) (v := v) hX.1.1.1 hX.1.1.2.1 hX.1.1.2.2.2.2 hin ty0 hty hnm hX.1.1.2.2.2.1 hX.1.2.1 hP hD hS 0 rfl hc k hk (hX.1.w hlink) (fun _ h => h) hfin (by rw [hty k hk, htk]) hn hfit hlen d (fun H1 locs1 g1 g2 g3 => kk H1 locs1 ls g1 g2 g3 hl)
theorem nx_get (hX : OM Z own cc nL fr lo mc ms) {a ci k N idx : Nat} {T : u_T} {v : Value} {fs : List Value} {tl : va_W} (hF : FL own idx ci k T N) (hv : fs[k]? = some v) (d : decode cc pc = .ok (.getfield idx, 3)) (kk : NX Z nL cells slots Q (pc + 3) ((a, .inr (ci, fs)) :: tl) lv (v :: st)) : NX Z nL cells slots Q pc ((a, .inr (ci, fs)) :: tl) lv (.ref a :: st) := fun H locs ls hP hD hS hl => by
  obtain ⟨C, hc, hk, hlink, hin⟩ := hF
  exact va_get (C := C) (T := T) (N := N) (ref := (T k).1) hX.1.1 hX.1.2.1 hX.1.2.2.2.2 hin hX.1.2.2.2.1 hX.2.1 hP 0 rfl hc k hk (hX.w hlink) (fun _ h => h) hv d (kk H locs ls hP hD hS hl)
theorem nx_new (hX : OM Z own cc nL fr lo mc ms) {ci N idx : Nat} {C : String} {T : u_T} (ty0 : Nat → FieldType) (hty : ∀ k, k < N → parseFieldDescriptor (T k).2.2.1 = some (ty0 k)) (hin : ∀ w ∈ u_ws C T N, w ∈ gtbl) (hcl : Cond.classLink own idx C ∈ gtbl) (hit : Cond.instantiable C N ∈ gtbl) (hii : Cond.initialized C ∈ gtbl) (hc : vwCl[ci]? = some (C, T, N)) {fs : List Value} (hfs : ∀ j, j < N → defaultValue (ty0 j) = vp_V fs j) (hce : cells + 1 ≤ mc) (hsl : slots + N ≤ ms) (d : decode cc pc = .ok (.new idx, 3)) (kk : ∀ q : Nat, NX Z nL (cells + 1) (slots + N) Q (pc + 3) (ws ++ [(q, .inr (ci, fs))]) lv (.ref q :: st)) : NX Z nL cells slots Q pc ws lv st := fun H locs ls hP hD hS hl =>
  va_new (ci := ci) (fs := fs) (C := C) (T := T) (N := N) hX.1.1 hX.1.2.1 hX.1.2.2.2.2 hin ty0 hty hX.1.2.2.2.1 (hX.w hcl) (hX.w hit) (hX.w hii) hX.2.1 hP hD hS hX.2.2.2.1 hc hfs (by rw [hX.2.2.1]; exact hce) (by rw [hX.2.2.1]; exact hsl) d (fun q H1 hP1 hD1 hS1 => kk q H1 locs ls hP1 hD1 hS1 hl)
theorem nx_blind {D : va_G} {cA : Nat → ClassId} {a sz ci : Nat} {fs : List Value} {av : List Value} : FrameBlind (va_Pc av (fun U => U.heap.size = sz ∧ va_P D vwCl [(a, .inr (ci, fs))] U.heap ∧ va_K D vwCl (tysw cA) U ∧ NW U)) := fun v U g mk hq => ⟨hq.1, hq.2.1, hq.2.2.1, va_K.moved (u := U) (U := U.calling g mk v) (Vm.Alike.refl U.vm) hq.2.2.2.1, hq.2.2.2.2.same rfl⟩
theorem nx_pre (hX : OM Z own cc nL fr lo mc ms) {ci q : Nat} {fs : List Value} {wr : va_W} {H : Heap} {locs : List Loc} (hP : va_P Z.2.1 vwCl (wr ++ [(q, .inr (ci, fs))]) H) (hD : va_D Z.2.2.2 (wr ++ [(q, .inr (ci, fs))])) (hS : va_S Z.2.2.2 Z.1.2.2.2.2.1.heap H locs) : PreS Z.1.2.2.2.2.1 H (va_Pc [.ref q] (fun U => U.heap.size = H.size ∧ va_P Z.2.1 vwCl [(q, .inr (ci, fs))] U.heap ∧ va_K Z.2.1 vwCl (tysw Z.2.2.1) U ∧ NW U)) [.ref q] ∧ ∀ x, va_A [(q, .inr (ci, fs))] H.size x → Z.2.2.2 x := by
  have hl : (wr ++ [(q, .inr (ci, fs))])[wr.length]? = some (q, .inr (ci, fs)) := by simp
  have hPc : va_P Z.2.1 vwCl [(q, .inr (ci, fs))] H := fun k x hk => by
    have a := (List.getElem?_eq_some_iff.mp hk).1
    simp at a
    subst a
    cases hk
    exact hP _ _ hl
  refine ⟨⟨nx_blind, fun U hU hW => ⟨rfl, by rw [hU], by rw [hU]; exact hPc, va_K.moved hW.alike hX.2.1, NW.warm hW hX.2.2.2.2⟩⟩, fun x hx => ?_⟩
  rcases hx with ⟨k, e, hk⟩ | hx
  · have a := (List.getElem?_eq_some_iff.mp hk).1
    simp at a
    subst a
    cases hk
    exact hD.2 _ _ hl
  · exact hX.2.2.2.1 x (Nat.le_trans hS.1 hx)
theorem nx_init (hX : OM Z own cc nL fr lo mc ms) {y : MethodName} {c2 : ByteArray} {n2 f2 l2 mc2 ms2 ci idx q : Nat} {fs : List Value} {P : Nat → (Nat → Nat) → Prop} {Wf : (Nat → ClassId) → Nat → (Nat → Nat) → va_W} {wr : va_W} (hM : CN y c2 n2 f2 l2 mc2 ms2 ci fs P Wf) (hnw : va_Nw (.methodLinkNest own idx y RX6) Z.1.2.2.2.2.1) (hini : Cond.initialized y.cls ∈ gtbl) (hcode : Cond.code y c2 n2 none ∈ gtbl) (hinst : Cond.instanceMethod y ∈ gtbl) (hyn : y.name = "<init>") (hms : MS y 0) (hR : f2 + 1 ≤ fr ∧ 8 + (n2 + 11) + l2 ≤ lo) (hce : cells + mc2 ≤ mc ∧ slots + ms2 ≤ ms) (hcat : (st.map fun v => v.category).sum ≤ 8) (d : decode cc pc = .ok (.invokespecial idx, 3)) (kk : ∀ f, P q f → NX Z nL (cells + mc2) (slots + ms2) Q (pc + 3) (wr ++ Wf Z.2.2.1 q f) lv st) : NX Z nL cells slots Q pc (wr ++ [(q, .inr (ci, fs))]) lv (.ref q :: st) := fun H locs ls hP hD hS hl => by
  obtain ⟨hp, hFc⟩ := nx_pre hX hP hD hS
  refine va_callv (va_runIN (g := F0 Z.1.2.2.2.2.2.1 pc ls (.ref q :: st)) (As := []) (rest := st) hX.1 (hM Z.1.2.1 Z.2.1 Z.2.2.1 q H.size) ⟨va_cnB 0 hX.1.2.2.2.2 (gtb_in hcode) rfl rfl rfl hnw (hX.w hini) hms (by rw [hX.2.2.1]; exact hR), hyn, hX.w hinst⟩ hp rfl rfl hl.1 rfl (lv_room hcat) d (by rw [hX.2.2.1]; exact hce)) hS (fun x _ h => hFc x h) hFc (fun f t H1 locs1 ht hvm hw hB hz1 hk1 hS1 => ?_)
  obtain ⟨hP1, hD1⟩ := hB
  rw [ht] at hP1
  obtain ⟨hP2, hD2⟩ := jn hP hD hk1 hFc hP1 hD1
  exact kk f hw H1 locs1 ls hP2 hD2 hS1 hl
theorem nx_initP (hX : OM Z own cc nL fr lo mc ms) {y : MethodName} {c2 : ByteArray} {n2 f2 l2 mc2 ms2 ci idx q : Nat} {fs : List Value} {P : Nat → (Nat → Nat) → Prop} {Wf : (Nat → ClassId) → Nat → (Nat → Nat) → va_W} {wr : va_W} (hM : CN y c2 n2 f2 l2 mc2 ms2 ci fs P Wf) (hlk : Cond.methodLink own idx y ∈ gtbl) (hini : Cond.initialized y.cls ∈ gtbl) (hcode : Cond.code y c2 n2 none ∈ gtbl) (hinst : Cond.instanceMethod y ∈ gtbl) (hyn : y.name = "<init>") (hms : MS y 0) (hR : f2 + 1 ≤ fr ∧ 8 + (n2 + 11) + l2 ≤ lo) (hce : cells + mc2 ≤ mc ∧ slots + ms2 ≤ ms) (hcat : (st.map fun v => v.category).sum ≤ 8) (d : decode cc pc = .ok (.invokespecial idx, 3)) (kk : ∀ f, P q f → NX Z nL (cells + mc2) (slots + ms2) Q (pc + 3) (wr ++ Wf Z.2.2.1 q f) lv st) : NX Z nL cells slots Q pc (wr ++ [(q, .inr (ci, fs))]) lv (.ref q :: st) := fun H locs ls hP hD hS hl => by
  obtain ⟨hp, hFc⟩ := nx_pre hX hP hD hS
  refine va_callv (va_runI (g := F0 Z.1.2.2.2.2.2.1 pc ls (.ref q :: st)) (As := []) (rest := st) hX.1 (hM Z.1.2.1 Z.2.1 Z.2.2.1 q H.size) ⟨callB_of 0 hX.1.2.2.2.2 (gtb_in hcode) rfl rfl rfl (hX.w hini) (hX.w hlk) hms (by rw [hX.2.2.1]; exact hR), hyn, hX.w hinst⟩ hp rfl rfl hl.1 rfl (lv_room hcat) d (by rw [hX.2.2.1]; exact hce)) hS (fun x _ h => hFc x h) hFc (fun f t H1 locs1 ht hvm hw hB hz1 hk1 hS1 => ?_)
  obtain ⟨hP1, hD1⟩ := hB
  rw [ht] at hP1
  obtain ⟨hP2, hD2⟩ := jn hP hD hk1 hFc hP1 hD1
  exact kk f hw H1 locs1 ls hP2 hD2 hS1 hl
theorem nx_vret (hX : ON Z own cc nL fr lo mc ms) {P : Nat → (Nat → Nat) → Prop} {Wf : (Nat → ClassId) → Nat → (Nat → Nat) → va_W} {a : Nat} (f : Nat → Nat) (hp : P a f) (hw : ws = Wf Z.2.2.1 a f) (d : decode cc pc = .ok (.return_, 1)) : NX Z nL mc ms (QN Z P Wf mc ms a) pc ws lv [] := fun H locs ls hP hD hS hl =>
  W.vret hX.1.1.1 hX.1.1.2.1 hX.2.1 (fun t ht _ => ⟨⟨f, rfl, hp, by rw [ht, ← hw]; exact hP, by rw [← hw]; exact hD⟩, hS.F ht⟩) hS.2.2 d hX.2.2.1
end NR
