/-! calls -/
theorem SX.at {G : GX} {s U : State} {H : Heap} {locs : List Loc} (hx : SX G s s.heap) (hS : va_S G.2.2.2.2 s.heap H locs) (hU : U.heap = H) (hW : s.WarmedH U.vm) : SX G U U.heap := by
  subst hU
  exact ⟨(hx.1.kept hS.2.1).moved hW.alike, fun i hi => (hx.2.1 i hi).warm hW, ⟨(hx.2.2.1.1.kept hS.2.1).moved hW.alike, hx.2.2.1.2.imp (fun z => (z.kept hS.2.1).moved hW.alike) (fun z => (z.kept hS.2.1).moved hW.alike)⟩, hx.2.2.2.1.warmM hW, hx.2.2.2.2.warmM hW⟩
theorem SX.same {G : GX} {u U : State} {H : Heap} (hv : U.vm = u.vm) (hx : SX G u H) : SX G U H :=
  ⟨hx.1.moved (by rw [hv]; exact Vm.Alike.refl u.vm), fun i hi => (hx.2.1 i hi).same hv, ⟨hx.2.2.1.1.moved (by rw [hv]; exact Vm.Alike.refl u.vm), hx.2.2.1.2.imp (fun z => z.moved (by rw [hv]; exact Vm.Alike.refl u.vm)) (fun z => z.moved (by rw [hv]; exact Vm.Alike.refl u.vm))⟩, hx.2.2.2.1.same rfl hv.symm, hx.2.2.2.2.same rfl hv.symm⟩
theorem WP.blind {G : GX} {h : AH} {avs : List Value} : FrameBlind (va_Pc avs (WP G h)) := fun a U g mk hq =>
  ⟨hq.1, hq.2.1, va_K.moved (u := U) (U := U.calling g mk a) (Vm.Alike.refl U.vm) hq.2.2.1, hq.2.2.2.same rfl⟩
/-- what the tables say of a call: of an instance's method, of a static one, of a nest mate's static one -/
def CSv (own : String) (idx : Nat) (y : MethodName) (cc : ByteArray) (nL : Nat) (ret : Option FieldType) : Prop := Cond.methodLink own idx y ∈ gtbl ∧ Cond.instanceMethod y ∈ gtbl ∧ Cond.selects y.cls y y ∈ gtbl ∧ Cond.initialized y.cls ∈ gtbl ∧ Cond.code y cc nL ret ∈ gtbl
def CSs (own : String) (idx : Nat) (y : MethodName) (cc : ByteArray) (nL : Nat) (ret : Option FieldType) : Prop := Cond.methodLink own idx y ∈ gtbl ∧ Cond.static y ∈ gtbl ∧ Cond.initialized y.cls ∈ gtbl ∧ Cond.code y cc nL ret ∈ gtbl
def CSn (own : String) (idx : Nat) (y : MethodName) (host : String) (cc : ByteArray) (nL : Nat) (ret : Option FieldType) : Prop := ((own = RX3 ∧ idx = 49 ∨ own = RX5 ∧ idx = 38) ∧ y = yX6_copyRow ∧ host = RX6) ∧ Cond.static y ∈ gtbl ∧ Cond.initialized y.cls ∈ gtbl ∧ Cond.code y cc nL ret ∈ gtbl
def MS (y : MethodName) (n : Nat) : Prop := y.cls ≠ "java/lang/invoke/MethodHandle" ∧ y.cls ≠ "java/lang/invoke/VarHandle" ∧ (parseMethodDescriptor y.desc).map (fun d => d.parameters.length) = some n
theorem gtb_in {c : Cond} (hc : c ∈ gtbl) : GoodIn gtbl (c :: gtbl) := fun w hw => by
  rcases List.mem_cons.mp hw with rfl | h
  · exact ⟨hc, gt_good hc⟩
  · exact ⟨h, gt_good h⟩
section CALL
variable {Z : CX × GX} {own : String} {cc : ByteArray} {nL : Nat} {ret : Option FieldType} {fr lo : Nat} {Q : State → Prop} {pc : Nat} {h : AH} {lv : List (Option Value)} {st : List Value}
theorem preS_of (hX : OK Z own cc nL ret fr lo) {H : Heap} {locs : List Loc} (hW : WH Z.2 h H) (hS : va_S Z.2.2.2.2.2 Z.1.2.2.2.2.1.heap H locs) (avs : List Value) (As : List Value) (hA : As = avs.map (cv Z.2.1)) : PreS Z.1.2.2.2.2.1 H (va_Pc (avs.map (cv Z.2.1)) (WP Z.2 h)) As :=
  ⟨WP.blind, fun U hU hWm => ⟨by rw [hA], by show WH Z.2 h U.heap; rw [hU]; exact hW, va_K.moved hWm.alike hX.2.1, hX.2.2.2.2.2.at hS hU hWm⟩⟩
theorem cat_sum (ρ : Nat → Nat) (st : List Value) : ((st.map (cv ρ)).map fun v => v.category).sum = (st.map fun v => v.category).sum := by
  rw [List.map_map]
  congr 1
  apply List.map_congr_left
  intro v _
  exact cv_cat ρ v
theorem ex_callIv (hX : OK Z own cc nL ret fr lo) {y : MethodName} {c2 : ByteArray} {n2 : Nat} {r2 : Option FieldType} {f2 l2 : Nat} {i ci N idx n : Nat} {T : u_T} {As st0 : List Value} {post : Int32 → AH → Prop} (hM : CI y c2 n2 r2 f2 l2 (.ref i :: As) h post) (hc : CSv own idx y c2 n2 r2) (hm : MS y n) (hcl : vwCl[ci]? = some (y.cls, T, N)) (ho : oc i = some ci) (hn : As.length = n) (hR : f2 + 1 ≤ fr ∧ 8 + (n2 + 11) + l2 ≤ lo) (hst : st0 = As.reverse ++ .ref i :: st) (hcat : (st.map fun v => v.category).sum ≤ 8) (d : decode cc pc = .ok (.invokevirtual idx, 3))
    (k : ∀ r u, post r u → EX Z nL Q (pc + 3) u lv (.int r :: st)) : EX Z nL Q pc h lv st0 := by
  intro H locs ls hW hS hl
  subst hst
  have hts := hX.1.2.2.2.2
  have hp : PreV Z.1.2.2.2.2.1 H y.cls (Z.2.1 i) (va_Pc ((.ref i :: As).map (cv Z.2.1)) (WP Z.2 h)) (As.map (cv Z.2.1)) := ⟨WP.blind, va_recv hX.2.1 hW.1 hcl (wsw_obj ho), (preS_of hX hW hS (.ref i :: As) _ rfl).2⟩
  refine va_calli (va_runV (g := F0 Z.1.2.2.2.2.2.1 pc ls ((As.reverse ++ .ref i :: st).map (cv Z.2.1))) (As := As.map (cv Z.2.1)) (rest := st.map (cv Z.2.1)) hX.1 (hM Z.1.2.1 Z.2) ⟨callB_of n hts (gtb_in hc.2.2.2.2) rfl rfl rfl (hX.w hc.2.2.2.1) (hX.w hc.1) hm (by rw [hX.2.2.1]; exact hR), hX.w hc.2.1, hX.w hc.2.2.1⟩ hp rfl (by rw [List.length_map]; exact hn) hl.1 (by simp [cv]) (lv_room (by rw [cat_sum]; exact hcat)) d (by rw [hX.2.2.1]; exact ⟨Nat.le_refl _, Nat.le_refl _⟩)) hS (fun q _ z => z) (fun q z => z) (fun r u t H1 locs1 ht _ hpost hB _ _ hS1 => ?_)
  have hB : WH Z.2 u t.heap := hB
  exact k r u hpost H1 locs1 ls (by rw [← ht]; exact hB) hS1 hl
theorem ex_callVv (hX : OK Z own cc nL ret fr lo) {y : MethodName} {c2 : ByteArray} {n2 : Nat} {f2 l2 : Nat} {i ci N idx n : Nat} {T : u_T} {As st0 : List Value} {post : AH → Prop} (hM : CV y c2 n2 f2 l2 (.ref i :: As) h post) (hc : CSv own idx y c2 n2 none) (hm : MS y n) (hcl : vwCl[ci]? = some (y.cls, T, N)) (ho : oc i = some ci) (hn : As.length = n) (hR : f2 + 1 ≤ fr ∧ 8 + (n2 + 11) + l2 ≤ lo) (hst : st0 = As.reverse ++ .ref i :: st) (hcat : (st.map fun v => v.category).sum ≤ 8) (d : decode cc pc = .ok (.invokevirtual idx, 3))
    (k : ∀ u, post u → EX Z nL Q (pc + 3) u lv st) : EX Z nL Q pc h lv st0 := by
  intro H locs ls hW hS hl
  subst hst
  have hts := hX.1.2.2.2.2
  have hp : PreV Z.1.2.2.2.2.1 H y.cls (Z.2.1 i) (va_Pc ((.ref i :: As).map (cv Z.2.1)) (WP Z.2 h)) (As.map (cv Z.2.1)) := ⟨WP.blind, va_recv hX.2.1 hW.1 hcl (wsw_obj ho), (preS_of hX hW hS (.ref i :: As) _ rfl).2⟩
  refine va_callv (va_runV (g := F0 Z.1.2.2.2.2.2.1 pc ls ((As.reverse ++ .ref i :: st).map (cv Z.2.1))) (As := As.map (cv Z.2.1)) (rest := st.map (cv Z.2.1)) hX.1 (hM Z.1.2.1 Z.2) ⟨callB_of n hts (gtb_in hc.2.2.2.2) rfl rfl rfl (hX.w hc.2.2.2.1) (hX.w hc.1) hm (by rw [hX.2.2.1]; exact hR), hX.w hc.2.1, hX.w hc.2.2.1⟩ hp rfl (by rw [List.length_map]; exact hn) hl.1 (by simp [cv]) (lv_room (by rw [cat_sum]; exact hcat)) d (by rw [hX.2.2.1]; exact ⟨Nat.le_refl _, Nat.le_refl _⟩)) hS (fun q _ z => z) (fun q z => z) (fun u t H1 locs1 ht _ hpost hB _ _ hS1 => ?_)
  have hB : WH Z.2 u t.heap := hB
  exact k u hpost H1 locs1 ls (by rw [← ht]; exact hB) hS1 hl
theorem ex_callIs (hX : OK Z own cc nL ret fr lo) {y : MethodName} {c2 : ByteArray} {n2 : Nat} {r2 : Option FieldType} {f2 l2 : Nat} {idx n : Nat} {As st0 : List Value} {post : Int32 → AH → Prop} (hM : CI y c2 n2 r2 f2 l2 As h post) (hc : CSs own idx y c2 n2 r2) (hm : MS y n) (hn : As.length = n) (hR : f2 + 1 ≤ fr ∧ 8 + (n2 + 11) + l2 ≤ lo) (hst : st0 = As.reverse ++ st) (hcat : (st.map fun v => v.category).sum ≤ 8) (d : decode cc pc = .ok (.invokestatic idx, 3))
    (k : ∀ r u, post r u → EX Z nL Q (pc + 3) u lv (.int r :: st)) : EX Z nL Q pc h lv st0 := by
  intro H locs ls hW hS hl
  subst hst
  have hts := hX.1.2.2.2.2
  refine va_calli (va_runS (g := F0 Z.1.2.2.2.2.2.1 pc ls ((As.reverse ++ st).map (cv Z.2.1))) (As := As.map (cv Z.2.1)) (rest := st.map (cv Z.2.1)) hX.1 (hM Z.1.2.1 Z.2) ⟨callB_of n hts (gtb_in hc.2.2.2) rfl rfl rfl (hX.w hc.2.2.1) (hX.w hc.1) hm (by rw [hX.2.2.1]; exact hR), hX.w hc.2.1⟩ (preS_of hX hW hS As _ rfl) rfl (by rw [List.length_map]; exact hn) hl.1 (by simp) (lv_room (by rw [cat_sum]; exact hcat)) d (by rw [hX.2.2.1]; exact ⟨Nat.le_refl _, Nat.le_refl _⟩)) hS (fun q _ z => z) (fun q z => z) (fun r u t H1 locs1 ht _ hpost hB _ _ hS1 => ?_)
  have hB : WH Z.2 u t.heap := hB
  exact k r u hpost H1 locs1 ls (by rw [← ht]; exact hB) hS1 hl
theorem ex_callVn (hX : OK Z own cc nL ret fr lo) {y : MethodName} {host : String} {c2 : ByteArray} {n2 : Nat} {f2 l2 : Nat} {idx n : Nat} {As st0 : List Value} {post : AH → Prop} (hM : CV y c2 n2 f2 l2 As h post) (hc : CSn own idx y host c2 n2 none) (hm : MS y n) (hn : As.length = n) (hR : f2 + 1 ≤ fr ∧ 8 + (n2 + 11) + l2 ≤ lo) (hst : st0 = As.reverse ++ st) (hcat : (st.map fun v => v.category).sum ≤ 8) (d : decode cc pc = .ok (.invokestatic idx, 3))
    (k : ∀ u, post u → EX Z nL Q (pc + 3) u lv st) : EX Z nL Q pc h lv st0 := by
  intro H locs ls hW hS hl
  subst hst
  have hts := hX.1.2.2.2.2
  have hnw : va_Nw (.methodLinkNest own idx y host) Z.1.2.2.2.2.1 := by
    obtain ⟨⟨⟨rfl, rfl⟩ | ⟨rfl, rfl⟩, rfl, rfl⟩, -⟩ := hc
    · exact hX.2.2.2.2.2.2.2.2.1
    · exact hX.2.2.2.2.2.2.2.2.2
  refine va_callv (va_runSN (g := F0 Z.1.2.2.2.2.2.1 pc ls ((As.reverse ++ st).map (cv Z.2.1))) (As := As.map (cv Z.2.1)) (rest := st.map (cv Z.2.1)) hX.1 (hM Z.1.2.1 Z.2) ⟨va_cnB n hts (gtb_in hc.2.2.2) rfl rfl rfl hnw (hX.w hc.2.2.1) hm (by rw [hX.2.2.1]; exact hR), hX.w hc.2.1, trivial⟩ (preS_of hX hW hS As _ rfl) rfl (by rw [List.length_map]; exact hn) hl.1 (by simp) (lv_room (by rw [cat_sum]; exact hcat)) d (by rw [hX.2.2.1]; exact ⟨Nat.le_refl _, Nat.le_refl _⟩)) hS (fun q _ z => z) (fun q z => z) (fun u t H1 locs1 ht _ hpost hB _ _ hS1 => ?_)
  have hB : WH Z.2 u t.heap := hB
  exact k u hpost H1 locs1 ls (by rw [← ht]; exact hB) hS1 hl
end CALL
/-! a contract out of a walk of the body -/
theorem CI.of {y : MethodName} {own : String} {cc : ByteArray} {nL : Nat} {ret : Option FieldType} {fr lo : Nat} {avs : List Value} {h : AH} {post : Int32 → AH → Prop} (lv : List (Option Value)) (hy : plainName y.cls = true) (ho : y.cls = own) (hle : (le avs).length ≤ nL) (hlv : le avs ++ List.replicate (nL - (le avs).length) none = lv) (body : ∀ Z : CX × GX, OK Z own cc nL ret fr lo → EX Z nL (QI Z post) 0 h lv []) : CI y cc nL ret fr lo avs h post := by
  intro l G
  refine Met.ofW (cc := cc) (maxL := nL) (ret := ret) hy rfl ?_
  intro p e s m args below meth c s₁ B hml hv
  obtain ⟨rfl, hWH, hWK, hSX⟩ := hv
  have hts := atoms_spec (ws := .code y cc nL ret :: gtbl) B.pre
  have hown : s.vm.findClass own = some m.cls := by rw [← ho]; exact findClass_of_methodNamed B.named
  have hl := lv_entry (avs.map (cv G.1)) (n := nL) (by rw [lgsl_len]; exact hle)
  rw [lg_entry_eq]
  generalize (lg_sl (avs.map (cv G.1)) ++ List.replicate (nL - (lg_sl (avs.map (cv G.1))).length) Slot.unset).toArray = ls at hl ⊢
  rw [le_args] at hl
  have hl : lv_has ls nL (lvl G.1 0 lv) := by rw [← hlv, lvl_pad]; exact hl
  exact body ((p, l, e, { frames := fr, cells := 0, slots := 0, locals := lo }, s, m, (avs.map (cv G.1)).toArray, below, meth, c), G) ⟨⟨B.exec, B.bytes, hml, hown, fun w hw => hts w (List.mem_cons_of_mem _ hw)⟩, hWK, rfl, B.returns, B.notSynchronized, hSX⟩ s.heap [] ls hWH va_S.rf hl
theorem CV.of {y : MethodName} {own : String} {cc : ByteArray} {nL : Nat} {fr lo : Nat} {avs : List Value} {h : AH} {post : AH → Prop} (lv : List (Option Value)) (hy : plainName y.cls = true) (ho : y.cls = own) (hle : (le avs).length ≤ nL) (hlv : le avs ++ List.replicate (nL - (le avs).length) none = lv) (body : ∀ Z : CX × GX, OK Z own cc nL none fr lo → EX Z nL (QV Z post) 0 h lv []) : CV y cc nL fr lo avs h post := by
  intro l G
  refine Met.ofW (cc := cc) (maxL := nL) (ret := none) hy rfl ?_
  intro p e s m args below meth c s₁ B hml hv
  obtain ⟨rfl, hWH, hWK, hSX⟩ := hv
  have hts := atoms_spec (ws := .code y cc nL none :: gtbl) B.pre
  have hown : s.vm.findClass own = some m.cls := by rw [← ho]; exact findClass_of_methodNamed B.named
  have hl := lv_entry (avs.map (cv G.1)) (n := nL) (by rw [lgsl_len]; exact hle)
  rw [lg_entry_eq]
  generalize (lg_sl (avs.map (cv G.1)) ++ List.replicate (nL - (lg_sl (avs.map (cv G.1))).length) Slot.unset).toArray = ls at hl ⊢
  rw [le_args] at hl
  have hl : lv_has ls nL (lvl G.1 0 lv) := by rw [← hlv, lvl_pad]; exact hl
  exact body ((p, l, e, { frames := fr, cells := 0, slots := 0, locals := lo }, s, m, (avs.map (cv G.1)).toArray, below, meth, c), G) ⟨⟨B.exec, B.bytes, hml, hown, fun w hw => hts w (List.mem_cons_of_mem _ hw)⟩, hWK, rfl, B.returns, B.notSynchronized, hSX⟩ s.heap [] ls hWH va_S.rf hl
