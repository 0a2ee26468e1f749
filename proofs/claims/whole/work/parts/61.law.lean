/-! THE LAW'S OWN LOOP: the machine at a pc of the law, over the world of both -/
def EL (Z : CX × GX) (Q : State → Prop) (pc : Nat) (h : AH) (lv : List (Option Value)) (st : List Value) : Prop :=
  ∀ (H : Heap) (locs : List Loc) (ls : Array Slot), WH Z.2 h H → va_S Z.2.2.2.2.2 Z.1.2.2.2.2.1.heap H locs → lv_has ls 4 (lvl Z.2.1 0 lv) →
    W Z.1.1 Z.1.2.1 Z.1.2.2.1 Z.1.2.2.2.1 Z.1.2.2.2.2.1 Z.1.2.2.2.2.2.1 Z.1.2.2.2.2.2.2.1 Z.1.2.2.2.2.2.2.2.1 Z.1.2.2.2.2.2.2.2.2.1 Z.1.2.2.2.2.2.2.2.2.2 H locs 600000 7302250 Q (F0 Z.1.2.2.2.2.2.1 pc ls (st.map (cv Z.2.1)))
def LOK (Z : CX × GX) (b L : Nat) (xs : Nat → Int32) : Prop :=
  CallFix Z.1.1 Z.1.2.2.2.2.2.1 Z.1.2.2.2.2.2.2.2.2.2 code 4 Z.1.2.2.2.2.1 Z.1.2.2.2.2.2.2.1 gtbl R_law ∧ WK Z.2 Z.1.2.2.2.2.1 ∧ Z.1.2.2.2.1 = room_1 ∧ SX Z.2 Z.1.2.2.2.2.1 Z.1.2.2.2.2.1.heap ∧ va_X b L xs Z.1.2.2.2.2.1 Z.1.2.2.2.2.1.heap ∧ b < Z.1.2.2.2.2.1.heap.size ∧ Z.2.1 500 = b ∧ ¬ Z.2.2.2.2.2 b
section LW
variable {Z : CX × GX} {b L : Nat} {xs : Nat → Int32} {Q : State → Prop} {pc : Nat} {h : AH} {lv : List (Option Value)} {st : List Value}
theorem LOK.w (hX : LOK Z b L xs) {w : Cond} (hw : w ∈ gtbl) : w.before Z.1.2.2.2.2.2.2.1 Z.1.2.2.2.2.1 = true := hX.1.2.2.2.2 w hw
theorem el_iconst (hX : LOK Z b L xs) {n : Int} {v : Int32} (d : decode code pc = .ok (.iconst n, 1)) (hv : Int32.ofInt n = v) (k : EL Z Q (pc + 1) h lv (.int v :: st)) : EL Z Q pc h lv st := fun H locs ls hW hS hl => lv_iconst hX.1.1 hX.1.2.1 d hv (k H locs ls hW hS hl)
theorem el_bipush (hX : LOK Z b L xs) {n : Int} {v : Int32} (d : decode code pc = .ok (.bipush n, 2)) (hv : (Int8.ofInt n).toInt32 = v) (k : EL Z Q (pc + 2) h lv (.int v :: st)) : EL Z Q pc h lv st := fun H locs ls hW hS hl => lv_bipush hX.1.1 hX.1.2.1 d hv (k H locs ls hW hS hl)
theorem el_iload_n (hX : LOK Z b L xs) {q : Fin 4} {i : Nat} {x : Int32} (d : decode code pc = .ok (.iload_n q, 1)) (hi : (q : Nat) = i) (hv : lv[i]? = some (some (.int x))) (k : EL Z Q (pc + 1) h lv (.int x :: st)) : EL Z Q pc h lv st := fun H locs ls hW hS hl => lv_iload_n hX.1.1 hX.1.2.1 d hi (lvl_get hl hv) (k H locs ls hW hS hl)
theorem el_aload_n (hX : LOK Z b L xs) {q : Fin 4} {i x : Nat} (d : decode code pc = .ok (.aload_n q, 1)) (hi : (q : Nat) = i) (hv : lv[i]? = some (some (.ref x))) (k : EL Z Q (pc + 1) h lv (.ref x :: st)) : EL Z Q pc h lv st := fun H locs ls hW hS hl => lv_aload_n hX.1.1 hX.1.2.1 d hi (lvl_get hl hv) (k H locs ls hW hS hl)
theorem el_iadd (hX : LOK Z b L xs) {x y : Int32} (d : decode code pc = .ok (.iadd, 1)) (k : EL Z Q (pc + 1) h lv (.int (x + y) :: st)) : EL Z Q pc h lv (.int y :: .int x :: st) := fun H locs ls hW hS hl => lv_iadd hX.1.1 hX.1.2.1 d (k H locs ls hW hS hl)
theorem el_isub (hX : LOK Z b L xs) {x y : Int32} (d : decode code pc = .ok (.isub, 1)) (k : EL Z Q (pc + 1) h lv (.int (x - y) :: st)) : EL Z Q pc h lv (.int y :: .int x :: st) := fun H locs ls hW hS hl => lv_isub hX.1.1 hX.1.2.1 d (k H locs ls hW hS hl)
theorem el_iand (hX : LOK Z b L xs) {x y : Int32} (d : decode code pc = .ok (.iand, 1)) (k : EL Z Q (pc + 1) h lv (.int (x &&& y) :: st)) : EL Z Q pc h lv (.int y :: .int x :: st) := fun H locs ls hW hS hl => lv_iand hX.1.1 hX.1.2.1 d (k H locs ls hW hS hl)
theorem el_i2l (hX : LOK Z b L xs) {x : Int32} (d : decode code pc = .ok (.i2l, 1)) (k : EL Z Q (pc + 1) h lv (.long x.toInt64 :: st)) : EL Z Q pc h lv (.int x :: st) := fun H locs ls hW hS hl => lv_i2l hX.1.1 hX.1.2.1 d rfl (k H locs ls hW hS hl)
theorem el_lshl (hX : LOK Z b L xs) {x : Int64} {y : Int32} (d : decode code pc = .ok (.lshl, 1)) (k : EL Z Q (pc + 1) h lv (.long (x <<< (y.toInt64 &&& 63)) :: st)) : EL Z Q pc h lv (.int y :: .long x :: st) := fun H locs ls hW hS hl => lv_lshl hX.1.1 hX.1.2.1 d rfl (k H locs ls hW hS hl)
theorem el_ldc2 (hX : LOK Z b L xs) {i : Nat} {v : Int64} (d : decode code pc = .ok (.ldc2_w i, 3)) (hc : Cond.constantLong R_law i v ∈ gtbl) (k : EL Z Q (pc + 3) h lv (.long v :: st)) : EL Z Q pc h lv st := fun H locs ls hW hS hl => lv_ldc2 hX.1.1 hX.1.2.1 hX.1.2.2.2.1 (hX.w hc) d (k H locs ls hW hS hl)
theorem el_land (hX : LOK Z b L xs) {x y : Int64} (d : decode code pc = .ok (.land, 1)) (k : EL Z Q (pc + 1) h lv (.long (x &&& y) :: st)) : EL Z Q pc h lv (.long y :: .long x :: st) := fun H locs ls hW hS hl => lv_land hX.1.1 hX.1.2.1 d (k H locs ls hW hS hl)
theorem el_lor (hX : LOK Z b L xs) {x y : Int64} (d : decode code pc = .ok (.lor, 1)) (k : EL Z Q (pc + 1) h lv (.long (x ||| y) :: st)) : EL Z Q pc h lv (.long y :: .long x :: st) := fun H locs ls hW hS hl => lv_lor hX.1.1 hX.1.2.1 d (k H locs ls hW hS hl)
theorem el_goto (hX : LOK Z b L xs) {off : Int} (tgt : Nat) (d : decode code pc = .ok (.goto off, 3)) (ht : (pc : Int) + off = (tgt : Int)) (k : EL Z Q tgt h lv st) : EL Z Q pc h lv st := fun H locs ls hW hS hl => lv_goto hX.1.1 hX.1.2.1 d ht (k H locs ls hW hS hl)
theorem el_icmpeq (hX : LOK Z b L xs) {x y : Int32} {off : Int} (tgt : Nat) (d : decode code pc = .ok (.if_icmp .eq off, 3)) (ht : (pc : Int) + off = (tgt : Int)) (kt : x = y → EL Z Q tgt h lv st) (kf : ¬ x = y → EL Z Q (pc + 3) h lv st) : EL Z Q pc h lv (.int y :: .int x :: st) := fun H locs ls hW hS hl => lv_icmp_eq hX.1.1 hX.1.2.1 d ht (fun c => kt c H locs ls hW hS hl) (fun c => kf c H locs ls hW hS hl)
theorem el_icmpgt (hX : LOK Z b L xs) {x y : Int32} {off : Int} (tgt : Nat) (d : decode code pc = .ok (.if_icmp .gt off, 3)) (ht : (pc : Int) + off = (tgt : Int)) (kt : y < x → EL Z Q tgt h lv st) (kf : ¬ y < x → EL Z Q (pc + 3) h lv st) : EL Z Q pc h lv (.int y :: .int x :: st) := fun H locs ls hW hS hl => lv_icmp_gt hX.1.1 hX.1.2.1 d ht (fun c => kt c H locs ls hW hS hl) (fun c => kf c H locs ls hW hS hl)
theorem el_tabIn (hX : LOK Z b L xs) {dflt l0 hi : Int} {offs : Array Int} {len : Nat} {x : Int32} {off : Int} (tgt : Nat) (d : decode code pc = .ok (.tableswitch dflt l0 hi offs, len)) (h1 : ¬ x.toInt < l0) (h2 : ¬ hi < x.toInt) (ho : offs[(x.toInt - l0).toNat]? = some off) (ht : (pc : Int) + off = (tgt : Int)) (k : EL Z Q tgt h lv st) : EL Z Q pc h lv (.int x :: st) := fun H locs ls hW hS hl => lv_tableIn hX.1.1 hX.1.2.1 d h1 h2 ho ht (k H locs ls hW hS hl)
theorem el_tabOut (hX : LOK Z b L xs) {dflt l0 hi : Int} {offs : Array Int} {len : Nat} {x : Int32} (tgt : Nat) (d : decode code pc = .ok (.tableswitch dflt l0 hi offs, len)) (h1 : x.toInt < l0 ∨ hi < x.toInt) (ht : (pc : Int) + dflt = (tgt : Int)) (k : EL Z Q tgt h lv st) : EL Z Q pc h lv (.int x :: st) := fun H locs ls hW hS hl => lv_tableOut hX.1.1 hX.1.2.1 d h1 ht (k H locs ls hW hS hl)
theorem el_slen (hX : LOK Z b L xs) (d : decode code pc = .ok (.arraylength, 1)) (k : EL Z Q (pc + 1) h lv (.int (nI L) :: st)) : EL Z Q pc h lv (.ref 500 :: st) := fun H locs ls hW hS hl => by
  obtain ⟨h1, -, -, -, h5, h6, h7, h8⟩ := hX
  show W _ _ _ _ _ _ _ _ _ _ _ _ _ _ _ (F0 _ pc ls (.ref (Z.2.1 500) :: st.map (cv Z.2.1)))
  rw [h7]
  exact va_slen h1.1 h1.2.1 h5 h6 h8 hS d (k H locs ls hW hS hl)
theorem el_sld (hX : LOK Z b L xs) {x : Int32} (hx : vp_in x L) (d : decode code pc = .ok (.iaload, 1)) (k : EL Z Q (pc + 1) h lv (.int (xs x.toNatClampNeg) :: st)) : EL Z Q pc h lv (.int x :: .ref 500 :: st) := fun H locs ls hW hS hl => by
  obtain ⟨h1, -, -, -, h5, h6, h7, h8⟩ := hX
  show W _ _ _ _ _ _ _ _ _ _ _ _ _ _ _ (F0 _ pc ls (.int x :: .ref (Z.2.1 500) :: st.map (cv Z.2.1)))
  rw [h7]
  exact va_sld h1.1 h1.2.1 h5 h6 h8 hS hx d (k H locs ls hW hS hl)
theorem el_iinc (hX : LOK Z b L xs) {x v : Int32} {n : Int} {i0 i1 i2 : Nat} (d : decode code pc = .ok (.iinc 3 n, 3)) (hv : x + Int32.ofInt n = v) (k : EL Z Q (pc + 3) h [some (.ref i0), some (.ref i1), some (.ref i2), some (.int v)] st) : EL Z Q pc h [some (.ref i0), some (.ref i1), some (.ref i2), some (.int x)] st := fun H locs ls hW hS hl =>
  lv_iinc (k := 3) (v := v) (lv' := [(3, .int v), (0, .ref (Z.2.1 i0)), (1, .ref (Z.2.1 i1)), (2, .ref (Z.2.1 i2))]) hX.1.1 hX.1.2.1 d hl rfl hv (by decide) rfl (fun ls' hl' => k H locs ls' hW hS (lv_sub hl' [1, 2, 3, 0] rfl))
theorem el_call (hX : LOK Z b L xs) {y : MethodName} {c2 : ByteArray} {n2 : Nat} {f2 l2 : Nat} {i ci N idx n : Nat} {T : u_T} {As st0 : List Value} {post : Int32 → AH → Prop} (hM : CI y c2 n2 (some .int) f2 l2 (.ref i :: As) h post) (hc : CSv R_law idx y c2 n2 (some .int)) (hm : MS y n) (hcl : vwCl[ci]? = some (y.cls, T, N)) (ho : oc i = some ci) (hn : As.length = n) (hR : f2 + 1 ≤ 11 ∧ 8 + (n2 + 11) + l2 ≤ 388) (hst : st0 = As.reverse ++ .ref i :: st) (hcat : (st.map fun v => v.category).sum ≤ 8) (d : decode code pc = .ok (.invokevirtual idx, 3))
    (k : ∀ r u, post r u → EL Z Q (pc + 3) u lv (.int r :: st)) : EL Z Q pc h lv st0 := by
  intro H locs ls hW hS hl
  subst hst
  obtain ⟨h1, h2, h3, h4, -, -, -, -⟩ := hX
  have hts := h1.2.2.2.2
  have hp : PreV Z.1.2.2.2.2.1 H y.cls (Z.2.1 i) (va_Pc ((.ref i :: As).map (cv Z.2.1)) (WP Z.2 h)) (As.map (cv Z.2.1)) := ⟨WP.blind, va_recv h2 hW.1 hcl (wsw_obj ho), fun U hU hWm => ⟨rfl, by show WH Z.2 h U.heap; rw [hU]; exact hW, va_K.moved hWm.alike h2, h4.at hS hU hWm⟩⟩
  refine va_calli (va_runV (g := F0 Z.1.2.2.2.2.2.1 pc ls ((As.reverse ++ .ref i :: st).map (cv Z.2.1))) (As := As.map (cv Z.2.1)) (rest := st.map (cv Z.2.1)) h1 (hM Z.1.2.1 Z.2) ⟨callB_of n hts (gtb_in hc.2.2.2.2) rfl rfl rfl (hts _ hc.2.2.2.1) (hts _ hc.1) hm (by rw [h3]; exact hR), hts _ hc.2.1, hts _ hc.2.2.1⟩ hp rfl (by rw [List.length_map]; exact hn) hl.1 (by simp [cv]) (lv_room (by rw [cat_sum]; exact hcat)) d (by rw [h3]; exact ⟨Nat.le_refl _, Nat.le_refl _⟩)) hS (fun q _ z => z) (fun q z => z) (fun r u t H1 locs1 ht _ hpost hB _ _ hS1 => ?_)
  have hB : WH Z.2 u t.heap := hB
  exact k r u hpost H1 locs1 ls (by rw [← ht]; exact hB) hS1 hl
/-- script[i + j] -/
theorem el_arg (hX : LOK Z b L xs) {N j : Nat} {jn : Int} (hj : Int32.ofInt jn = nI j) (hL : 5 * N + 5 ≤ L) (h5 : L ≤ 2560) (hj5 : j < 5) (hv0 : lv[0]? = some (some (.ref 500))) (hv3 : lv[3]? = some (some (.int (nI (5 * N))))) (d0 : decode code pc = .ok (.aload_n 0, 1)) (d1 : decode code (pc + 1) = .ok (.iload_n 3, 1)) (d2 : decode code (pc + 2) = .ok (.iconst jn, 1)) (d3 : decode code (pc + 3) = .ok (.iadd, 1)) (d4 : decode code (pc + 4) = .ok (.iaload, 1)) (k : EL Z Q (pc + 5) h lv (.int (xs (5 * N + j)) :: st)) : EL Z Q pc h lv st := by
  refine el_aload_n hX d0 rfl hv0 ?_
  refine el_iload_n hX d1 rfl hv3 ?_
  refine el_iconst hX d2 hj ?_
  refine el_iadd hX d3 ?_
  rw [nI_add]
  refine el_sld hX (vp_in_nI (by omega) (by omega)) d4 ?_
  rw [nI_clamp (by omega)]
  exact k
end LW

theorem lc_0 {Z : CX × GX} {b L : Nat} {xs : Nat → Int32} {Q : State → Prop} {h : AH} {N : Nat} (hX : LOK Z b L xs) (hL : L ≤ 2560) (hN : 5 * N + 5 ≤ L) (hI : INV N h) (K : ∀ u : AH, INV (N + 1) u → EL Z Q 1004 u [some (.ref 500), some (.ref 0), some (.ref 94), some (.int (nI (5 * N)))] []) : EL Z Q 160 h [some (.ref 500), some (.ref 0), some (.ref 94), some (.int (nI (5 * N)))] [] := by
  obtain ⟨PP, c1, k1⟩ := op_feed hI
  refine el_aload_n hX dL_160 rfl rfl ?_
  refine el_arg (N := N) (j := 1) hX rfl hN hL (by omega) rfl rfl dL_161 dL_162 dL_163 dL_164 dL_165 ?_
  refine el_arg (N := N) (j := 2) hX rfl hN hL (by omega) rfl rfl dL_166 dL_167 dL_168 dL_169 dL_170 ?_
  refine el_i2l hX dL_171 ?_
  refine el_bipush (v := 32) hX dL_172 rfl ?_
  refine el_lshl hX dL_174 ?_
  refine el_arg (N := N) (j := 3) hX rfl hN hL (by omega) rfl rfl dL_175 dL_176 dL_177 dL_178 dL_179 ?_
  refine el_i2l hX dL_180 ?_
  refine el_ldc2 hX dL_181 KLL_13 ?_
  refine el_land hX dL_184 ?_
  refine el_lor hX dL_185 ?_
  refine el_call (ci := 6) (i := 0) (As := [.int (xs (5 * N + 1)), .long ((xs (5 * N + 2)).toInt64 <<< ((32 : Int32).toInt64 &&& 63) ||| (xs (5 * N + 3)).toInt64 &&& 4294967295)]) (st := []) hX c1 CSL_15 MS_X6_feed rfl rfl rfl (by decide) rfl (Nat.le_of_ble_eq_true rfl) dL_186 (fun r u hp => ?_)
  obtain ⟨PQ, c2, k2⟩ := k1 r u hp
  refine el_aload_n hX dL_189 rfl rfl ?_
  refine el_arg (N := N) (j := 1) hX rfl hN hL (by omega) rfl rfl dL_190 dL_191 dL_192 dL_193 dL_194 ?_
  refine el_arg (N := N) (j := 2) hX rfl hN hL (by omega) rfl rfl dL_195 dL_196 dL_197 dL_198 dL_199 ?_
  refine el_i2l hX dL_200 ?_
  refine el_bipush (v := 32) hX dL_201 rfl ?_
  refine el_lshl hX dL_203 ?_
  refine el_arg (N := N) (j := 3) hX rfl hN hL (by omega) rfl rfl dL_204 dL_205 dL_206 dL_207 dL_208 ?_
  refine el_i2l hX dL_209 ?_
  refine el_ldc2 hX dL_210 KLL_13 ?_
  refine el_land hX dL_213 ?_
  refine el_lor hX dL_214 ?_
  refine el_call (ci := 7) (i := 94) (As := [.int (xs (5 * N + 1)), .long ((xs (5 * N + 2)).toInt64 <<< ((32 : Int32).toInt64 &&& 63) ||| (xs (5 * N + 3)).toInt64 &&& 4294967295)]) (st := [.int r]) hX c2 CSL_19 MS_X7_feed rfl rfl rfl (by decide) rfl (Nat.le_of_ble_eq_true rfl) dL_215 (fun r2 u2 hq => ?_)
  obtain ⟨e, hi⟩ := k2 r2 u2 hq
  exact el_icmpeq hX 1004 dL_218 (by decide) (fun _ => K u2 hi) (fun z => absurd e.symm z)

theorem lc_1 {Z : CX × GX} {b L : Nat} {xs : Nat → Int32} {Q : State → Prop} {h : AH} {N : Nat} (hX : LOK Z b L xs) (hL : L ≤ 2560) (hN : 5 * N + 5 ≤ L) (hI : INV N h) (K : ∀ u : AH, INV (N + 1) u → EL Z Q 1004 u [some (.ref 500), some (.ref 0), some (.ref 94), some (.int (nI (5 * N)))] []) : EL Z Q 223 h [some (.ref 500), some (.ref 0), some (.ref 94), some (.int (nI (5 * N)))] [] := by
  obtain ⟨PP, c1, k1⟩ := op_river hI
  refine el_aload_n hX dL_223 rfl rfl ?_
  refine el_call (ci := 6) (i := 0) (As := []) (st := []) hX c1 CSL_20 MS_X6_river rfl rfl rfl (by decide) rfl (Nat.le_of_ble_eq_true rfl) dL_224 (fun r u hp => ?_)
  obtain ⟨PQ, c2, k2⟩ := k1 r u hp
  refine el_aload_n hX dL_227 rfl rfl ?_
  refine el_call (ci := 7) (i := 94) (As := []) (st := [.int r]) hX c2 CSL_24 MS_X7_river rfl rfl rfl (by decide) rfl (Nat.le_of_ble_eq_true rfl) dL_228 (fun r2 u2 hq => ?_)
  obtain ⟨e, hi⟩ := k2 r2 u2 hq
  exact el_icmpeq hX 1004 dL_231 (by decide) (fun _ => K u2 hi) (fun z => absurd e.symm z)

theorem lc_2 {Z : CX × GX} {b L : Nat} {xs : Nat → Int32} {Q : State → Prop} {h : AH} {N : Nat} (hX : LOK Z b L xs) (hL : L ≤ 2560) (hN : 5 * N + 5 ≤ L) (hI : INV N h) (K : ∀ u : AH, INV (N + 1) u → EL Z Q 1004 u [some (.ref 500), some (.ref 0), some (.ref 94), some (.int (nI (5 * N)))] []) : EL Z Q 236 h [some (.ref 500), some (.ref 0), some (.ref 94), some (.int (nI (5 * N)))] [] := by
  obtain ⟨PP, c1, k1⟩ := op_plan hI
  refine el_aload_n hX dL_236 rfl rfl ?_
  refine el_call (ci := 6) (i := 0) (As := []) (st := []) hX c1 CSL_25 MS_X6_plan rfl rfl rfl (by decide) rfl (Nat.le_of_ble_eq_true rfl) dL_237 (fun r u hp => ?_)
  obtain ⟨PQ, c2, k2⟩ := k1 r u hp
  refine el_aload_n hX dL_240 rfl rfl ?_
  refine el_call (ci := 7) (i := 94) (As := []) (st := [.int r]) hX c2 CSL_28 MS_X7_plan rfl rfl rfl (by decide) rfl (Nat.le_of_ble_eq_true rfl) dL_241 (fun r2 u2 hq => ?_)
  obtain ⟨e, hi⟩ := k2 r2 u2 hq
  exact el_icmpeq hX 1004 dL_244 (by decide) (fun _ => K u2 hi) (fun z => absurd e.symm z)

theorem lc_3 {Z : CX × GX} {b L : Nat} {xs : Nat → Int32} {Q : State → Prop} {h : AH} {N : Nat} (hX : LOK Z b L xs) (hL : L ≤ 2560) (hN : 5 * N + 5 ≤ L) (hI : INV N h) (K : ∀ u : AH, INV (N + 1) u → EL Z Q 1004 u [some (.ref 500), some (.ref 0), some (.ref 94), some (.int (nI (5 * N)))] []) : EL Z Q 249 h [some (.ref 500), some (.ref 0), some (.ref 94), some (.int (nI (5 * N)))] [] := by
  obtain ⟨PP, c1, k1⟩ := op_fault hI
  refine el_aload_n hX dL_249 rfl rfl ?_
  refine el_call (ci := 6) (i := 0) (As := []) (st := []) hX c1 CSL_29 MS_X6_fault rfl rfl rfl (by decide) rfl (Nat.le_of_ble_eq_true rfl) dL_250 (fun r u hp => ?_)
  obtain ⟨PQ, c2, k2⟩ := k1 r u hp
  refine el_aload_n hX dL_253 rfl rfl ?_
  refine el_call (ci := 7) (i := 94) (As := []) (st := [.int r]) hX c2 CSL_32 MS_X7_fault rfl rfl rfl (by decide) rfl (Nat.le_of_ble_eq_true rfl) dL_254 (fun r2 u2 hq => ?_)
  obtain ⟨e, hi⟩ := k2 r2 u2 hq
  exact el_icmpeq hX 1004 dL_257 (by decide) (fun _ => K u2 hi) (fun z => absurd e.symm z)

theorem lc_4 {Z : CX × GX} {b L : Nat} {xs : Nat → Int32} {Q : State → Prop} {h : AH} {N : Nat} (hX : LOK Z b L xs) (hL : L ≤ 2560) (hN : 5 * N + 5 ≤ L) (hI : INV N h) (K : ∀ u : AH, INV (N + 1) u → EL Z Q 1004 u [some (.ref 500), some (.ref 0), some (.ref 94), some (.int (nI (5 * N)))] []) : EL Z Q 262 h [some (.ref 500), some (.ref 0), some (.ref 94), some (.int (nI (5 * N)))] [] := by
  obtain ⟨PP, c1, k1⟩ := op_told hI
  refine el_aload_n hX dL_262 rfl rfl ?_
  refine el_arg (N := N) (j := 1) hX rfl hN hL (by omega) rfl rfl dL_263 dL_264 dL_265 dL_266 dL_267 ?_
  refine el_call (ci := 6) (i := 0) (As := [.int (xs (5 * N + 1))]) (st := []) hX c1 CSL_33 MS_X6_told rfl rfl rfl (by decide) rfl (Nat.le_of_ble_eq_true rfl) dL_268 (fun r u hp => ?_)
  obtain ⟨PQ, c2, k2⟩ := k1 r u hp
  refine el_aload_n hX dL_271 rfl rfl ?_
  refine el_arg (N := N) (j := 1) hX rfl hN hL (by omega) rfl rfl dL_272 dL_273 dL_274 dL_275 dL_276 ?_
  refine el_call (ci := 7) (i := 94) (As := [.int (xs (5 * N + 1))]) (st := [.int r]) hX c2 CSL_37 MS_X7_told rfl rfl rfl (by decide) rfl (Nat.le_of_ble_eq_true rfl) dL_277 (fun r2 u2 hq => ?_)
  obtain ⟨e, hi⟩ := k2 r2 u2 hq
  exact el_icmpeq hX 1004 dL_280 (by decide) (fun _ => K u2 hi) (fun z => absurd e.symm z)

theorem lc_5 {Z : CX × GX} {b L : Nat} {xs : Nat → Int32} {Q : State → Prop} {h : AH} {N : Nat} (hX : LOK Z b L xs) (hL : L ≤ 2560) (hN : 5 * N + 5 ≤ L) (hI : INV N h) (K : ∀ u : AH, INV (N + 1) u → EL Z Q 1004 u [some (.ref 500), some (.ref 0), some (.ref 94), some (.int (nI (5 * N)))] []) : EL Z Q 285 h [some (.ref 500), some (.ref 0), some (.ref 94), some (.int (nI (5 * N)))] [] := by
  obtain ⟨PP, c1, k1⟩ := op_node hI (by omega)
  refine el_aload_n hX dL_285 rfl rfl ?_
  refine el_arg (N := N) (j := 1) hX rfl hN hL (by omega) rfl rfl dL_286 dL_287 dL_288 dL_289 dL_290 ?_
  refine el_arg (N := N) (j := 2) hX rfl hN hL (by omega) rfl rfl dL_291 dL_292 dL_293 dL_294 dL_295 ?_
  refine el_call (ci := 6) (i := 0) (As := [.int (xs (5 * N + 1)), .int (xs (5 * N + 2))]) (st := []) hX c1 CSL_38 MS_X6_node rfl rfl rfl (by decide) rfl (Nat.le_of_ble_eq_true rfl) dL_296 (fun r u hp => ?_)
  obtain ⟨PQ, c2, k2⟩ := k1 r u hp
  refine el_aload_n hX dL_299 rfl rfl ?_
  refine el_arg (N := N) (j := 1) hX rfl hN hL (by omega) rfl rfl dL_300 dL_301 dL_302 dL_303 dL_304 ?_
  refine el_arg (N := N) (j := 2) hX rfl hN hL (by omega) rfl rfl dL_305 dL_306 dL_307 dL_308 dL_309 ?_
  refine el_call (ci := 7) (i := 94) (As := [.int (xs (5 * N + 1)), .int (xs (5 * N + 2))]) (st := [.int r]) hX c2 CSL_42 MS_X7_node rfl rfl rfl (by decide) rfl (Nat.le_of_ble_eq_true rfl) dL_310 (fun r2 u2 hq => ?_)
  obtain ⟨e, hi⟩ := k2 r2 u2 hq
  exact el_icmpeq hX 1004 dL_313 (by decide) (fun _ => K u2 hi) (fun z => absurd e.symm z)

theorem lc_6 {Z : CX × GX} {b L : Nat} {xs : Nat → Int32} {Q : State → Prop} {h : AH} {N : Nat} (hX : LOK Z b L xs) (hL : L ≤ 2560) (hN : 5 * N + 5 ≤ L) (hI : INV N h) (K : ∀ u : AH, INV (N + 1) u → EL Z Q 1004 u [some (.ref 500), some (.ref 0), some (.ref 94), some (.int (nI (5 * N)))] []) : EL Z Q 318 h [some (.ref 500), some (.ref 0), some (.ref 94), some (.int (nI (5 * N)))] [] := by
  obtain ⟨PP, c1, k1⟩ := op_gate hI
  refine el_aload_n hX dL_318 rfl rfl ?_
  refine el_arg (N := N) (j := 1) hX rfl hN hL (by omega) rfl rfl dL_319 dL_320 dL_321 dL_322 dL_323 ?_
  refine el_arg (N := N) (j := 2) hX rfl hN hL (by omega) rfl rfl dL_324 dL_325 dL_326 dL_327 dL_328 ?_
  refine el_call (ci := 6) (i := 0) (As := [.int (xs (5 * N + 1)), .int (xs (5 * N + 2))]) (st := []) hX c1 CSL_43 MS_X6_gate rfl rfl rfl (by decide) rfl (Nat.le_of_ble_eq_true rfl) dL_329 (fun r u hp => ?_)
  obtain ⟨PQ, c2, k2⟩ := k1 r u hp
  refine el_aload_n hX dL_332 rfl rfl ?_
  refine el_arg (N := N) (j := 1) hX rfl hN hL (by omega) rfl rfl dL_333 dL_334 dL_335 dL_336 dL_337 ?_
  refine el_arg (N := N) (j := 2) hX rfl hN hL (by omega) rfl rfl dL_338 dL_339 dL_340 dL_341 dL_342 ?_
  refine el_call (ci := 7) (i := 94) (As := [.int (xs (5 * N + 1)), .int (xs (5 * N + 2))]) (st := [.int r]) hX c2 CSL_46 MS_X7_gate rfl rfl rfl (by decide) rfl (Nat.le_of_ble_eq_true rfl) dL_343 (fun r2 u2 hq => ?_)
  obtain ⟨e, hi⟩ := k2 r2 u2 hq
  exact el_icmpeq hX 1004 dL_346 (by decide) (fun _ => K u2 hi) (fun z => absurd e.symm z)

theorem lc_7 {Z : CX × GX} {b L : Nat} {xs : Nat → Int32} {Q : State → Prop} {h : AH} {N : Nat} (hX : LOK Z b L xs) (hL : L ≤ 2560) (hN : 5 * N + 5 ≤ L) (hI : INV N h) (K : ∀ u : AH, INV (N + 1) u → EL Z Q 1004 u [some (.ref 500), some (.ref 0), some (.ref 94), some (.int (nI (5 * N)))] []) : EL Z Q 351 h [some (.ref 500), some (.ref 0), some (.ref 94), some (.int (nI (5 * N)))] [] := by
  obtain ⟨PP, c1, k1⟩ := op_go hI (by omega)
  refine el_aload_n hX dL_351 rfl rfl ?_
  refine el_arg (N := N) (j := 1) hX rfl hN hL (by omega) rfl rfl dL_352 dL_353 dL_354 dL_355 dL_356 ?_
  refine el_call (ci := 6) (i := 0) (As := [.int (xs (5 * N + 1))]) (st := []) hX c1 CSL_47 MS_X6_go rfl rfl rfl (by decide) rfl (Nat.le_of_ble_eq_true rfl) dL_357 (fun r u hp => ?_)
  obtain ⟨PQ, c2, k2⟩ := k1 r u hp
  refine el_aload_n hX dL_360 rfl rfl ?_
  refine el_arg (N := N) (j := 1) hX rfl hN hL (by omega) rfl rfl dL_361 dL_362 dL_363 dL_364 dL_365 ?_
  refine el_call (ci := 7) (i := 94) (As := [.int (xs (5 * N + 1))]) (st := [.int r]) hX c2 CSL_50 MS_X7_go rfl rfl rfl (by decide) rfl (Nat.le_of_ble_eq_true rfl) dL_366 (fun r2 u2 hq => ?_)
  obtain ⟨e, hi⟩ := k2 r2 u2 hq
  exact el_icmpeq hX 1004 dL_369 (by decide) (fun _ => K u2 hi) (fun z => absurd e.symm z)

theorem lc_8 {Z : CX × GX} {b L : Nat} {xs : Nat → Int32} {Q : State → Prop} {h : AH} {N : Nat} (hX : LOK Z b L xs) (hL : L ≤ 2560) (hN : 5 * N + 5 ≤ L) (hI : INV N h) (K : ∀ u : AH, INV (N + 1) u → EL Z Q 1004 u [some (.ref 500), some (.ref 0), some (.ref 94), some (.int (nI (5 * N)))] []) : EL Z Q 374 h [some (.ref 500), some (.ref 0), some (.ref 94), some (.int (nI (5 * N)))] [] := by
  obtain ⟨PP, c1, k1⟩ := op_width hI
  refine el_aload_n hX dL_374 rfl rfl ?_
  refine el_arg (N := N) (j := 1) hX rfl hN hL (by omega) rfl rfl dL_375 dL_376 dL_377 dL_378 dL_379 ?_
  refine el_arg (N := N) (j := 2) hX rfl hN hL (by omega) rfl rfl dL_380 dL_381 dL_382 dL_383 dL_384 ?_
  refine el_call (ci := 6) (i := 0) (As := [.int (xs (5 * N + 1)), .int (xs (5 * N + 2))]) (st := []) hX c1 CSL_51 MS_X6_width rfl rfl rfl (by decide) rfl (Nat.le_of_ble_eq_true rfl) dL_385 (fun r u hp => ?_)
  obtain ⟨PQ, c2, k2⟩ := k1 r u hp
  refine el_aload_n hX dL_388 rfl rfl ?_
  refine el_arg (N := N) (j := 1) hX rfl hN hL (by omega) rfl rfl dL_389 dL_390 dL_391 dL_392 dL_393 ?_
  refine el_arg (N := N) (j := 2) hX rfl hN hL (by omega) rfl rfl dL_394 dL_395 dL_396 dL_397 dL_398 ?_
  refine el_call (ci := 7) (i := 94) (As := [.int (xs (5 * N + 1)), .int (xs (5 * N + 2))]) (st := [.int r]) hX c2 CSL_54 MS_X7_width rfl rfl rfl (by decide) rfl (Nat.le_of_ble_eq_true rfl) dL_399 (fun r2 u2 hq => ?_)
  obtain ⟨e, hi⟩ := k2 r2 u2 hq
  exact el_icmpeq hX 1004 dL_402 (by decide) (fun _ => K u2 hi) (fun z => absurd e.symm z)

theorem lc_9 {Z : CX × GX} {b L : Nat} {xs : Nat → Int32} {Q : State → Prop} {h : AH} {N : Nat} (hX : LOK Z b L xs) (hL : L ≤ 2560) (hN : 5 * N + 5 ≤ L) (hI : INV N h) (K : ∀ u : AH, INV (N + 1) u → EL Z Q 1004 u [some (.ref 500), some (.ref 0), some (.ref 94), some (.int (nI (5 * N)))] []) : EL Z Q 407 h [some (.ref 500), some (.ref 0), some (.ref 94), some (.int (nI (5 * N)))] [] := by
  obtain ⟨PP, c1, k1⟩ := op_pour hI
  refine el_aload_n hX dL_407 rfl rfl ?_
  refine el_arg (N := N) (j := 1) hX rfl hN hL (by omega) rfl rfl dL_408 dL_409 dL_410 dL_411 dL_412 ?_
  refine el_arg (N := N) (j := 2) hX rfl hN hL (by omega) rfl rfl dL_413 dL_414 dL_415 dL_416 dL_417 ?_
  refine el_call (ci := 6) (i := 0) (As := [.int (xs (5 * N + 1)), .int (xs (5 * N + 2))]) (st := []) hX c1 CSL_55 MS_X6_pour rfl rfl rfl (by decide) rfl (Nat.le_of_ble_eq_true rfl) dL_418 (fun r u hp => ?_)
  obtain ⟨PQ, c2, k2⟩ := k1 r u hp
  refine el_aload_n hX dL_421 rfl rfl ?_
  refine el_arg (N := N) (j := 1) hX rfl hN hL (by omega) rfl rfl dL_422 dL_423 dL_424 dL_425 dL_426 ?_
  refine el_arg (N := N) (j := 2) hX rfl hN hL (by omega) rfl rfl dL_427 dL_428 dL_429 dL_430 dL_431 ?_
  refine el_call (ci := 7) (i := 94) (As := [.int (xs (5 * N + 1)), .int (xs (5 * N + 2))]) (st := [.int r]) hX c2 CSL_58 MS_X7_pour rfl rfl rfl (by decide) rfl (Nat.le_of_ble_eq_true rfl) dL_432 (fun r2 u2 hq => ?_)
  obtain ⟨e, hi⟩ := k2 r2 u2 hq
  exact el_icmpeq hX 1004 dL_435 (by decide) (fun _ => K u2 hi) (fun z => absurd e.symm z)

theorem lc_10 {Z : CX × GX} {b L : Nat} {xs : Nat → Int32} {Q : State → Prop} {h : AH} {N : Nat} (hX : LOK Z b L xs) (hL : L ≤ 2560) (hN : 5 * N + 5 ≤ L) (hI : INV N h) (K : ∀ u : AH, INV (N + 1) u → EL Z Q 1004 u [some (.ref 500), some (.ref 0), some (.ref 94), some (.int (nI (5 * N)))] []) : EL Z Q 440 h [some (.ref 500), some (.ref 0), some (.ref 94), some (.int (nI (5 * N)))] [] := by
  obtain ⟨PP, c1, k1⟩ := op_showers hI (by omega)
  refine el_aload_n hX dL_440 rfl rfl ?_
  refine el_arg (N := N) (j := 1) hX rfl hN hL (by omega) rfl rfl dL_441 dL_442 dL_443 dL_444 dL_445 ?_
  refine el_arg (N := N) (j := 2) hX rfl hN hL (by omega) rfl rfl dL_446 dL_447 dL_448 dL_449 dL_450 ?_
  refine el_call (ci := 6) (i := 0) (As := [.int (xs (5 * N + 1)), .int (xs (5 * N + 2))]) (st := []) hX c1 CSL_59 MS_X6_showers rfl rfl rfl (by decide) rfl (Nat.le_of_ble_eq_true rfl) dL_451 (fun r u hp => ?_)
  obtain ⟨PQ, c2, k2⟩ := k1 r u hp
  refine el_aload_n hX dL_454 rfl rfl ?_
  refine el_arg (N := N) (j := 1) hX rfl hN hL (by omega) rfl rfl dL_455 dL_456 dL_457 dL_458 dL_459 ?_
  refine el_arg (N := N) (j := 2) hX rfl hN hL (by omega) rfl rfl dL_460 dL_461 dL_462 dL_463 dL_464 ?_
  refine el_call (ci := 7) (i := 94) (As := [.int (xs (5 * N + 1)), .int (xs (5 * N + 2))]) (st := [.int r]) hX c2 CSL_62 MS_X7_showers rfl rfl rfl (by decide) rfl (Nat.le_of_ble_eq_true rfl) dL_465 (fun r2 u2 hq => ?_)
  obtain ⟨e, hi⟩ := k2 r2 u2 hq
  exact el_icmpeq hX 1004 dL_468 (by decide) (fun _ => K u2 hi) (fun z => absurd e.symm z)

theorem lc_11 {Z : CX × GX} {b L : Nat} {xs : Nat → Int32} {Q : State → Prop} {h : AH} {N : Nat} (hX : LOK Z b L xs) (hL : L ≤ 2560) (hN : 5 * N + 5 ≤ L) (hI : INV N h) (K : ∀ u : AH, INV (N + 1) u → EL Z Q 1004 u [some (.ref 500), some (.ref 0), some (.ref 94), some (.int (nI (5 * N)))] []) : EL Z Q 473 h [some (.ref 500), some (.ref 0), some (.ref 94), some (.int (nI (5 * N)))] [] := by
  obtain ⟨PP, c1, k1⟩ := op_log hI
  refine el_aload_n hX dL_473 rfl rfl ?_
  refine el_arg (N := N) (j := 1) hX rfl hN hL (by omega) rfl rfl dL_474 dL_475 dL_476 dL_477 dL_478 ?_
  refine el_arg (N := N) (j := 2) hX rfl hN hL (by omega) rfl rfl dL_479 dL_480 dL_481 dL_482 dL_483 ?_
  refine el_call (ci := 6) (i := 0) (As := [.int (xs (5 * N + 1)), .int (xs (5 * N + 2))]) (st := []) hX c1 CSL_63 MS_X6_log rfl rfl rfl (by decide) rfl (Nat.le_of_ble_eq_true rfl) dL_484 (fun r u hp => ?_)
  obtain ⟨PQ, c2, k2⟩ := k1 r u hp
  refine el_aload_n hX dL_487 rfl rfl ?_
  refine el_arg (N := N) (j := 1) hX rfl hN hL (by omega) rfl rfl dL_488 dL_489 dL_490 dL_491 dL_492 ?_
  refine el_arg (N := N) (j := 2) hX rfl hN hL (by omega) rfl rfl dL_493 dL_494 dL_495 dL_496 dL_497 ?_
  refine el_call (ci := 7) (i := 94) (As := [.int (xs (5 * N + 1)), .int (xs (5 * N + 2))]) (st := [.int r]) hX c2 CSL_66 MS_X7_log rfl rfl rfl (by decide) rfl (Nat.le_of_ble_eq_true rfl) dL_498 (fun r2 u2 hq => ?_)
  obtain ⟨e, hi⟩ := k2 r2 u2 hq
  exact el_icmpeq hX 1004 dL_501 (by decide) (fun _ => K u2 hi) (fun z => absurd e.symm z)

theorem lc_12 {Z : CX × GX} {b L : Nat} {xs : Nat → Int32} {Q : State → Prop} {h : AH} {N : Nat} (hX : LOK Z b L xs) (hL : L ≤ 2560) (hN : 5 * N + 5 ≤ L) (hI : INV N h) (K : ∀ u : AH, INV (N + 1) u → EL Z Q 1004 u [some (.ref 500), some (.ref 0), some (.ref 94), some (.int (nI (5 * N)))] []) : EL Z Q 506 h [some (.ref 500), some (.ref 0), some (.ref 94), some (.int (nI (5 * N)))] [] := by
  obtain ⟨PP, c1, k1⟩ := op_wood hI
  refine el_aload_n hX dL_506 rfl rfl ?_
  refine el_arg (N := N) (j := 1) hX rfl hN hL (by omega) rfl rfl dL_507 dL_508 dL_509 dL_510 dL_511 ?_
  refine el_arg (N := N) (j := 2) hX rfl hN hL (by omega) rfl rfl dL_512 dL_513 dL_514 dL_515 dL_516 ?_
  refine el_call (ci := 6) (i := 0) (As := [.int (xs (5 * N + 1)), .int (xs (5 * N + 2))]) (st := []) hX c1 CSL_67 MS_X6_wood rfl rfl rfl (by decide) rfl (Nat.le_of_ble_eq_true rfl) dL_517 (fun r u hp => ?_)
  obtain ⟨PQ, c2, k2⟩ := k1 r u hp
  refine el_aload_n hX dL_520 rfl rfl ?_
  refine el_arg (N := N) (j := 1) hX rfl hN hL (by omega) rfl rfl dL_521 dL_522 dL_523 dL_524 dL_525 ?_
  refine el_arg (N := N) (j := 2) hX rfl hN hL (by omega) rfl rfl dL_526 dL_527 dL_528 dL_529 dL_530 ?_
  refine el_call (ci := 7) (i := 94) (As := [.int (xs (5 * N + 1)), .int (xs (5 * N + 2))]) (st := [.int r]) hX c2 CSL_70 MS_X7_wood rfl rfl rfl (by decide) rfl (Nat.le_of_ble_eq_true rfl) dL_531 (fun r2 u2 hq => ?_)
  obtain ⟨e, hi⟩ := k2 r2 u2 hq
  exact el_icmpeq hX 1004 dL_534 (by decide) (fun _ => K u2 hi) (fun z => absurd e.symm z)

theorem lc_13 {Z : CX × GX} {b L : Nat} {xs : Nat → Int32} {Q : State → Prop} {h : AH} {N : Nat} (hX : LOK Z b L xs) (hL : L ≤ 2560) (hN : 5 * N + 5 ≤ L) (hI : INV N h) (K : ∀ u : AH, INV (N + 1) u → EL Z Q 1004 u [some (.ref 500), some (.ref 0), some (.ref 94), some (.int (nI (5 * N)))] []) : EL Z Q 539 h [some (.ref 500), some (.ref 0), some (.ref 94), some (.int (nI (5 * N)))] [] := by
  obtain ⟨PP, c1, k1⟩ := op_clear hI
  refine el_aload_n hX dL_539 rfl rfl ?_
  refine el_call (ci := 6) (i := 0) (As := []) (st := []) hX c1 CSL_71 MS_X6_clear rfl rfl rfl (by decide) rfl (Nat.le_of_ble_eq_true rfl) dL_540 (fun r u hp => ?_)
  obtain ⟨PQ, c2, k2⟩ := k1 r u hp
  refine el_aload_n hX dL_543 rfl rfl ?_
  refine el_call (ci := 7) (i := 94) (As := []) (st := [.int r]) hX c2 CSL_74 MS_X7_clear rfl rfl rfl (by decide) rfl (Nat.le_of_ble_eq_true rfl) dL_544 (fun r2 u2 hq => ?_)
  obtain ⟨e, hi⟩ := k2 r2 u2 hq
  exact el_icmpeq hX 1004 dL_547 (by decide) (fun _ => K u2 hi) (fun z => absurd e.symm z)

theorem lc_14 {Z : CX × GX} {b L : Nat} {xs : Nat → Int32} {Q : State → Prop} {h : AH} {N : Nat} (hX : LOK Z b L xs) (hL : L ≤ 2560) (hN : 5 * N + 5 ≤ L) (hI : INV N h) (K : ∀ u : AH, INV (N + 1) u → EL Z Q 1004 u [some (.ref 500), some (.ref 0), some (.ref 94), some (.int (nI (5 * N)))] []) : EL Z Q 552 h [some (.ref 500), some (.ref 0), some (.ref 94), some (.int (nI (5 * N)))] [] := by
  obtain ⟨PP, c1, k1⟩ := op_tried hI (by omega)
  refine el_aload_n hX dL_552 rfl rfl ?_
  refine el_arg (N := N) (j := 1) hX rfl hN hL (by omega) rfl rfl dL_553 dL_554 dL_555 dL_556 dL_557 ?_
  refine el_arg (N := N) (j := 2) hX rfl hN hL (by omega) rfl rfl dL_558 dL_559 dL_560 dL_561 dL_562 ?_
  refine el_arg (N := N) (j := 3) hX rfl hN hL (by omega) rfl rfl dL_563 dL_564 dL_565 dL_566 dL_567 ?_
  refine el_call (ci := 6) (i := 0) (As := [.int (xs (5 * N + 1)), .int (xs (5 * N + 2)), .int (xs (5 * N + 3))]) (st := []) hX c1 CSL_75 MS_X6_tried rfl rfl rfl (by decide) rfl (Nat.le_of_ble_eq_true rfl) dL_568 (fun r u hp => ?_)
  obtain ⟨PQ, c2, k2⟩ := k1 r u hp
  refine el_aload_n hX dL_571 rfl rfl ?_
  refine el_arg (N := N) (j := 1) hX rfl hN hL (by omega) rfl rfl dL_572 dL_573 dL_574 dL_575 dL_576 ?_
  refine el_arg (N := N) (j := 2) hX rfl hN hL (by omega) rfl rfl dL_577 dL_578 dL_579 dL_580 dL_581 ?_
  refine el_arg (N := N) (j := 3) hX rfl hN hL (by omega) rfl rfl dL_582 dL_583 dL_584 dL_585 dL_586 ?_
  refine el_call (ci := 7) (i := 94) (As := [.int (xs (5 * N + 1)), .int (xs (5 * N + 2)), .int (xs (5 * N + 3))]) (st := [.int r]) hX c2 CSL_79 MS_X7_tried rfl rfl rfl (by decide) rfl (Nat.le_of_ble_eq_true rfl) dL_587 (fun r2 u2 hq => ?_)
  obtain ⟨e, hi⟩ := k2 r2 u2 hq
  exact el_icmpeq hX 1004 dL_590 (by decide) (fun _ => K u2 hi) (fun z => absurd e.symm z)

theorem lc_15 {Z : CX × GX} {b L : Nat} {xs : Nat → Int32} {Q : State → Prop} {h : AH} {N : Nat} (hX : LOK Z b L xs) (hL : L ≤ 2560) (hN : 5 * N + 5 ≤ L) (hI : INV N h) (K : ∀ u : AH, INV (N + 1) u → EL Z Q 1004 u [some (.ref 500), some (.ref 0), some (.ref 94), some (.int (nI (5 * N)))] []) : EL Z Q 595 h [some (.ref 500), some (.ref 0), some (.ref 94), some (.int (nI (5 * N)))] [] := by
  obtain ⟨PP, c1, k1⟩ := op_slack hI (by omega)
  refine el_aload_n hX dL_595 rfl rfl ?_
  refine el_arg (N := N) (j := 1) hX rfl hN hL (by omega) rfl rfl dL_596 dL_597 dL_598 dL_599 dL_600 ?_
  refine el_arg (N := N) (j := 2) hX rfl hN hL (by omega) rfl rfl dL_601 dL_602 dL_603 dL_604 dL_605 ?_
  refine el_call (ci := 6) (i := 0) (As := [.int (xs (5 * N + 1)), .int (xs (5 * N + 2))]) (st := []) hX c1 CSL_80 MS_X6_slack rfl rfl rfl (by decide) rfl (Nat.le_of_ble_eq_true rfl) dL_606 (fun r u hp => ?_)
  obtain ⟨PQ, c2, k2⟩ := k1 r u hp
  refine el_aload_n hX dL_609 rfl rfl ?_
  refine el_arg (N := N) (j := 1) hX rfl hN hL (by omega) rfl rfl dL_610 dL_611 dL_612 dL_613 dL_614 ?_
  refine el_arg (N := N) (j := 2) hX rfl hN hL (by omega) rfl rfl dL_615 dL_616 dL_617 dL_618 dL_619 ?_
  refine el_call (ci := 7) (i := 94) (As := [.int (xs (5 * N + 1)), .int (xs (5 * N + 2))]) (st := [.int r]) hX c2 CSL_83 MS_X7_slack rfl rfl rfl (by decide) rfl (Nat.le_of_ble_eq_true rfl) dL_620 (fun r2 u2 hq => ?_)
  obtain ⟨e, hi⟩ := k2 r2 u2 hq
  exact el_icmpeq hX 1004 dL_623 (by decide) (fun _ => K u2 hi) (fun z => absurd e.symm z)

theorem lc_16 {Z : CX × GX} {b L : Nat} {xs : Nat → Int32} {Q : State → Prop} {h : AH} {N : Nat} (hX : LOK Z b L xs) (hL : L ≤ 2560) (hN : 5 * N + 5 ≤ L) (hI : INV N h) (K : ∀ u : AH, INV (N + 1) u → EL Z Q 1004 u [some (.ref 500), some (.ref 0), some (.ref 94), some (.int (nI (5 * N)))] []) : EL Z Q 628 h [some (.ref 500), some (.ref 0), some (.ref 94), some (.int (nI (5 * N)))] [] := by
  obtain ⟨PP, c1, k1⟩ := op_boat hI (by omega)
  refine el_aload_n hX dL_628 rfl rfl ?_
  refine el_arg (N := N) (j := 1) hX rfl hN hL (by omega) rfl rfl dL_629 dL_630 dL_631 dL_632 dL_633 ?_
  refine el_arg (N := N) (j := 2) hX rfl hN hL (by omega) rfl rfl dL_634 dL_635 dL_636 dL_637 dL_638 ?_
  refine el_arg (N := N) (j := 3) hX rfl hN hL (by omega) rfl rfl dL_639 dL_640 dL_641 dL_642 dL_643 ?_
  refine el_arg (N := N) (j := 4) hX rfl hN hL (by omega) rfl rfl dL_644 dL_645 dL_646 dL_647 dL_648 ?_
  refine el_call (ci := 6) (i := 0) (As := [.int (xs (5 * N + 1)), .int (xs (5 * N + 2)), .int (xs (5 * N + 3)), .int (xs (5 * N + 4))]) (st := []) hX c1 CSL_84 MS_X6_boat rfl rfl rfl (by decide) rfl (Nat.le_of_ble_eq_true rfl) dL_649 (fun r u hp => ?_)
  obtain ⟨PQ, c2, k2⟩ := k1 r u hp
  refine el_aload_n hX dL_652 rfl rfl ?_
  refine el_arg (N := N) (j := 1) hX rfl hN hL (by omega) rfl rfl dL_653 dL_654 dL_655 dL_656 dL_657 ?_
  refine el_arg (N := N) (j := 2) hX rfl hN hL (by omega) rfl rfl dL_658 dL_659 dL_660 dL_661 dL_662 ?_
  refine el_arg (N := N) (j := 3) hX rfl hN hL (by omega) rfl rfl dL_663 dL_664 dL_665 dL_666 dL_667 ?_
  refine el_arg (N := N) (j := 4) hX rfl hN hL (by omega) rfl rfl dL_668 dL_669 dL_670 dL_671 dL_672 ?_
  refine el_call (ci := 7) (i := 94) (As := [.int (xs (5 * N + 1)), .int (xs (5 * N + 2)), .int (xs (5 * N + 3)), .int (xs (5 * N + 4))]) (st := [.int r]) hX c2 CSL_88 MS_X7_boat rfl rfl rfl (by decide) rfl (Nat.le_of_ble_eq_true rfl) dL_673 (fun r2 u2 hq => ?_)
  obtain ⟨e, hi⟩ := k2 r2 u2 hq
  exact el_icmpeq hX 1004 dL_676 (by decide) (fun _ => K u2 hi) (fun z => absurd e.symm z)

theorem lc_17 {Z : CX × GX} {b L : Nat} {xs : Nat → Int32} {Q : State → Prop} {h : AH} {N : Nat} (hX : LOK Z b L xs) (hL : L ≤ 2560) (hN : 5 * N + 5 ≤ L) (hI : INV N h) (K : ∀ u : AH, INV (N + 1) u → EL Z Q 1004 u [some (.ref 500), some (.ref 0), some (.ref 94), some (.int (nI (5 * N)))] []) : EL Z Q 681 h [some (.ref 500), some (.ref 0), some (.ref 94), some (.int (nI (5 * N)))] [] := by
  obtain ⟨PP, c1, k1⟩ := op_sent hI (by omega)
  refine el_aload_n hX dL_681 rfl rfl ?_
  refine el_arg (N := N) (j := 1) hX rfl hN hL (by omega) rfl rfl dL_682 dL_683 dL_684 dL_685 dL_686 ?_
  refine el_arg (N := N) (j := 2) hX rfl hN hL (by omega) rfl rfl dL_687 dL_688 dL_689 dL_690 dL_691 ?_
  refine el_arg (N := N) (j := 3) hX rfl hN hL (by omega) rfl rfl dL_692 dL_693 dL_694 dL_695 dL_696 ?_
  refine el_arg (N := N) (j := 4) hX rfl hN hL (by omega) rfl rfl dL_697 dL_698 dL_699 dL_700 dL_701 ?_
  refine el_call (ci := 6) (i := 0) (As := [.int (xs (5 * N + 1)), .int (xs (5 * N + 2)), .int (xs (5 * N + 3)), .int (xs (5 * N + 4))]) (st := []) hX c1 CSL_89 MS_X6_sent rfl rfl rfl (by decide) rfl (Nat.le_of_ble_eq_true rfl) dL_702 (fun r u hp => ?_)
  obtain ⟨PQ, c2, k2⟩ := k1 r u hp
  refine el_aload_n hX dL_705 rfl rfl ?_
  refine el_arg (N := N) (j := 1) hX rfl hN hL (by omega) rfl rfl dL_706 dL_707 dL_708 dL_709 dL_710 ?_
  refine el_arg (N := N) (j := 2) hX rfl hN hL (by omega) rfl rfl dL_711 dL_712 dL_713 dL_714 dL_715 ?_
  refine el_arg (N := N) (j := 3) hX rfl hN hL (by omega) rfl rfl dL_716 dL_717 dL_718 dL_719 dL_720 ?_
  refine el_arg (N := N) (j := 4) hX rfl hN hL (by omega) rfl rfl dL_721 dL_722 dL_723 dL_724 dL_725 ?_
  refine el_call (ci := 7) (i := 94) (As := [.int (xs (5 * N + 1)), .int (xs (5 * N + 2)), .int (xs (5 * N + 3)), .int (xs (5 * N + 4))]) (st := [.int r]) hX c2 CSL_92 MS_X7_sent rfl rfl rfl (by decide) rfl (Nat.le_of_ble_eq_true rfl) dL_726 (fun r2 u2 hq => ?_)
  obtain ⟨e, hi⟩ := k2 r2 u2 hq
  exact el_icmpeq hX 1004 dL_729 (by decide) (fun _ => K u2 hi) (fun z => absurd e.symm z)

theorem lc_18 {Z : CX × GX} {b L : Nat} {xs : Nat → Int32} {Q : State → Prop} {h : AH} {N : Nat} (hX : LOK Z b L xs) (hL : L ≤ 2560) (hN : 5 * N + 5 ≤ L) (hI : INV N h) (K : ∀ u : AH, INV (N + 1) u → EL Z Q 1004 u [some (.ref 500), some (.ref 0), some (.ref 94), some (.int (nI (5 * N)))] []) : EL Z Q 734 h [some (.ref 500), some (.ref 0), some (.ref 94), some (.int (nI (5 * N)))] [] := by
  obtain ⟨PP, c1, k1⟩ := op_ring hI (by omega)
  refine el_aload_n hX dL_734 rfl rfl ?_
  refine el_arg (N := N) (j := 1) hX rfl hN hL (by omega) rfl rfl dL_735 dL_736 dL_737 dL_738 dL_739 ?_
  refine el_arg (N := N) (j := 2) hX rfl hN hL (by omega) rfl rfl dL_740 dL_741 dL_742 dL_743 dL_744 ?_
  refine el_call (ci := 6) (i := 0) (As := [.int (xs (5 * N + 1)), .int (xs (5 * N + 2))]) (st := []) hX c1 CSL_93 MS_X6_ring rfl rfl rfl (by decide) rfl (Nat.le_of_ble_eq_true rfl) dL_745 (fun r u hp => ?_)
  obtain ⟨PQ, c2, k2⟩ := k1 r u hp
  refine el_aload_n hX dL_748 rfl rfl ?_
  refine el_arg (N := N) (j := 1) hX rfl hN hL (by omega) rfl rfl dL_749 dL_750 dL_751 dL_752 dL_753 ?_
  refine el_arg (N := N) (j := 2) hX rfl hN hL (by omega) rfl rfl dL_754 dL_755 dL_756 dL_757 dL_758 ?_
  refine el_call (ci := 7) (i := 94) (As := [.int (xs (5 * N + 1)), .int (xs (5 * N + 2))]) (st := [.int r]) hX c2 CSL_96 MS_X7_ring rfl rfl rfl (by decide) rfl (Nat.le_of_ble_eq_true rfl) dL_759 (fun r2 u2 hq => ?_)
  obtain ⟨e, hi⟩ := k2 r2 u2 hq
  exact el_icmpeq hX 1004 dL_762 (by decide) (fun _ => K u2 hi) (fun z => absurd e.symm z)

theorem lc_19 {Z : CX × GX} {b L : Nat} {xs : Nat → Int32} {Q : State → Prop} {h : AH} {N : Nat} (hX : LOK Z b L xs) (hL : L ≤ 2560) (hN : 5 * N + 5 ≤ L) (hI : INV N h) (K : ∀ u : AH, INV (N + 1) u → EL Z Q 1004 u [some (.ref 500), some (.ref 0), some (.ref 94), some (.int (nI (5 * N)))] []) : EL Z Q 767 h [some (.ref 500), some (.ref 0), some (.ref 94), some (.int (nI (5 * N)))] [] := by
  obtain ⟨PP, c1, k1⟩ := op_drained hI (by omega)
  refine el_aload_n hX dL_767 rfl rfl ?_
  refine el_arg (N := N) (j := 1) hX rfl hN hL (by omega) rfl rfl dL_768 dL_769 dL_770 dL_771 dL_772 ?_
  refine el_arg (N := N) (j := 2) hX rfl hN hL (by omega) rfl rfl dL_773 dL_774 dL_775 dL_776 dL_777 ?_
  refine el_arg (N := N) (j := 3) hX rfl hN hL (by omega) rfl rfl dL_778 dL_779 dL_780 dL_781 dL_782 ?_
  refine el_call (ci := 6) (i := 0) (As := [.int (xs (5 * N + 1)), .int (xs (5 * N + 2)), .int (xs (5 * N + 3))]) (st := []) hX c1 CSL_97 MS_X6_drained rfl rfl rfl (by decide) rfl (Nat.le_of_ble_eq_true rfl) dL_783 (fun r u hp => ?_)
  obtain ⟨PQ, c2, k2⟩ := k1 r u hp
  refine el_aload_n hX dL_786 rfl rfl ?_
  refine el_arg (N := N) (j := 1) hX rfl hN hL (by omega) rfl rfl dL_787 dL_788 dL_789 dL_790 dL_791 ?_
  refine el_arg (N := N) (j := 2) hX rfl hN hL (by omega) rfl rfl dL_792 dL_793 dL_794 dL_795 dL_796 ?_
  refine el_arg (N := N) (j := 3) hX rfl hN hL (by omega) rfl rfl dL_797 dL_798 dL_799 dL_800 dL_801 ?_
  refine el_call (ci := 7) (i := 94) (As := [.int (xs (5 * N + 1)), .int (xs (5 * N + 2)), .int (xs (5 * N + 3))]) (st := [.int r]) hX c2 CSL_100 MS_X7_drained rfl rfl rfl (by decide) rfl (Nat.le_of_ble_eq_true rfl) dL_802 (fun r2 u2 hq => ?_)
  obtain ⟨e, hi⟩ := k2 r2 u2 hq
  exact el_icmpeq hX 1004 dL_805 (by decide) (fun _ => K u2 hi) (fun z => absurd e.symm z)

theorem lc_20 {Z : CX × GX} {b L : Nat} {xs : Nat → Int32} {Q : State → Prop} {h : AH} {N : Nat} (hX : LOK Z b L xs) (hL : L ≤ 2560) (hN : 5 * N + 5 ≤ L) (hI : INV N h) (K : ∀ u : AH, INV (N + 1) u → EL Z Q 1004 u [some (.ref 500), some (.ref 0), some (.ref 94), some (.int (nI (5 * N)))] []) : EL Z Q 810 h [some (.ref 500), some (.ref 0), some (.ref 94), some (.int (nI (5 * N)))] [] := by
  obtain ⟨PP, c1, k1⟩ := op_nearest hI (by omega)
  refine el_aload_n hX dL_810 rfl rfl ?_
  refine el_arg (N := N) (j := 1) hX rfl hN hL (by omega) rfl rfl dL_811 dL_812 dL_813 dL_814 dL_815 ?_
  refine el_arg (N := N) (j := 2) hX rfl hN hL (by omega) rfl rfl dL_816 dL_817 dL_818 dL_819 dL_820 ?_
  refine el_arg (N := N) (j := 3) hX rfl hN hL (by omega) rfl rfl dL_821 dL_822 dL_823 dL_824 dL_825 ?_
  refine el_call (ci := 6) (i := 0) (As := [.int (xs (5 * N + 1)), .int (xs (5 * N + 2)), .int (xs (5 * N + 3))]) (st := []) hX c1 CSL_101 MS_X6_nearest rfl rfl rfl (by decide) rfl (Nat.le_of_ble_eq_true rfl) dL_826 (fun r u hp => ?_)
  obtain ⟨PQ, c2, k2⟩ := k1 r u hp
  refine el_aload_n hX dL_829 rfl rfl ?_
  refine el_arg (N := N) (j := 1) hX rfl hN hL (by omega) rfl rfl dL_830 dL_831 dL_832 dL_833 dL_834 ?_
  refine el_arg (N := N) (j := 2) hX rfl hN hL (by omega) rfl rfl dL_835 dL_836 dL_837 dL_838 dL_839 ?_
  refine el_arg (N := N) (j := 3) hX rfl hN hL (by omega) rfl rfl dL_840 dL_841 dL_842 dL_843 dL_844 ?_
  refine el_call (ci := 7) (i := 94) (As := [.int (xs (5 * N + 1)), .int (xs (5 * N + 2)), .int (xs (5 * N + 3))]) (st := [.int r]) hX c2 CSL_104 MS_X7_nearest rfl rfl rfl (by decide) rfl (Nat.le_of_ble_eq_true rfl) dL_845 (fun r2 u2 hq => ?_)
  obtain ⟨e, hi⟩ := k2 r2 u2 hq
  exact el_icmpeq hX 1004 dL_848 (by decide) (fun _ => K u2 hi) (fun z => absurd e.symm z)

theorem lc_21 {Z : CX × GX} {b L : Nat} {xs : Nat → Int32} {Q : State → Prop} {h : AH} {N : Nat} (hX : LOK Z b L xs) (hL : L ≤ 2560) (hN : 5 * N + 5 ≤ L) (hI : INV N h) (K : ∀ u : AH, INV (N + 1) u → EL Z Q 1004 u [some (.ref 500), some (.ref 0), some (.ref 94), some (.int (nI (5 * N)))] []) : EL Z Q 853 h [some (.ref 500), some (.ref 0), some (.ref 94), some (.int (nI (5 * N)))] [] := by
  obtain ⟨PP, c1, k1⟩ := op_stopped hI (by omega)
  refine el_aload_n hX dL_853 rfl rfl ?_
  refine el_arg (N := N) (j := 1) hX rfl hN hL (by omega) rfl rfl dL_854 dL_855 dL_856 dL_857 dL_858 ?_
  refine el_call (ci := 6) (i := 0) (As := [.int (xs (5 * N + 1))]) (st := []) hX c1 CSL_105 MS_X6_stopped rfl rfl rfl (by decide) rfl (Nat.le_of_ble_eq_true rfl) dL_859 (fun r u hp => ?_)
  obtain ⟨PQ, c2, k2⟩ := k1 r u hp
  refine el_aload_n hX dL_862 rfl rfl ?_
  refine el_arg (N := N) (j := 1) hX rfl hN hL (by omega) rfl rfl dL_863 dL_864 dL_865 dL_866 dL_867 ?_
  refine el_call (ci := 7) (i := 94) (As := [.int (xs (5 * N + 1))]) (st := [.int r]) hX c2 CSL_108 MS_X7_stopped rfl rfl rfl (by decide) rfl (Nat.le_of_ble_eq_true rfl) dL_868 (fun r2 u2 hq => ?_)
  obtain ⟨e, hi⟩ := k2 r2 u2 hq
  exact el_icmpeq hX 1004 dL_871 (by decide) (fun _ => K u2 hi) (fun z => absurd e.symm z)

theorem lc_22 {Z : CX × GX} {b L : Nat} {xs : Nat → Int32} {Q : State → Prop} {h : AH} {N : Nat} (hX : LOK Z b L xs) (hL : L ≤ 2560) (hN : 5 * N + 5 ≤ L) (hI : INV N h) (K : ∀ u : AH, INV (N + 1) u → EL Z Q 1004 u [some (.ref 500), some (.ref 0), some (.ref 94), some (.int (nI (5 * N)))] []) : EL Z Q 876 h [some (.ref 500), some (.ref 0), some (.ref 94), some (.int (nI (5 * N)))] [] := by
  obtain ⟨PP, c1, k1⟩ := op_write hI
  refine el_aload_n hX dL_876 rfl rfl ?_
  refine el_arg (N := N) (j := 1) hX rfl hN hL (by omega) rfl rfl dL_877 dL_878 dL_879 dL_880 dL_881 ?_
  refine el_call (ci := 6) (i := 0) (As := [.int (xs (5 * N + 1))]) (st := []) hX c1 CSL_109 MS_X6_write rfl rfl rfl (by decide) rfl (Nat.le_of_ble_eq_true rfl) dL_882 (fun r u hp => ?_)
  obtain ⟨PQ, c2, k2⟩ := k1 r u hp
  refine el_aload_n hX dL_885 rfl rfl ?_
  refine el_arg (N := N) (j := 1) hX rfl hN hL (by omega) rfl rfl dL_886 dL_887 dL_888 dL_889 dL_890 ?_
  refine el_call (ci := 7) (i := 94) (As := [.int (xs (5 * N + 1))]) (st := [.int r]) hX c2 CSL_112 MS_X7_write rfl rfl rfl (by decide) rfl (Nat.le_of_ble_eq_true rfl) dL_891 (fun r2 u2 hq => ?_)
  obtain ⟨e, hi⟩ := k2 r2 u2 hq
  exact el_icmpeq hX 1004 dL_894 (by decide) (fun _ => K u2 hi) (fun z => absurd e.symm z)

theorem lc_23 {Z : CX × GX} {b L : Nat} {xs : Nat → Int32} {Q : State → Prop} {h : AH} {N : Nat} (hX : LOK Z b L xs) (hL : L ≤ 2560) (hN : 5 * N + 5 ≤ L) (hI : INV N h) (K : ∀ u : AH, INV (N + 1) u → EL Z Q 1004 u [some (.ref 500), some (.ref 0), some (.ref 94), some (.int (nI (5 * N)))] []) : EL Z Q 899 h [some (.ref 500), some (.ref 0), some (.ref 94), some (.int (nI (5 * N)))] [] := by
  obtain ⟨PP, c1, k1⟩ := op_tear hI
  refine el_aload_n hX dL_899 rfl rfl ?_
  refine el_call (ci := 6) (i := 0) (As := []) (st := []) hX c1 CSL_113 MS_X6_tear rfl rfl rfl (by decide) rfl (Nat.le_of_ble_eq_true rfl) dL_900 (fun r u hp => ?_)
  obtain ⟨PQ, c2, k2⟩ := k1 r u hp
  refine el_aload_n hX dL_903 rfl rfl ?_
  refine el_call (ci := 7) (i := 94) (As := []) (st := [.int r]) hX c2 CSL_116 MS_X7_tear rfl rfl rfl (by decide) rfl (Nat.le_of_ble_eq_true rfl) dL_904 (fun r2 u2 hq => ?_)
  obtain ⟨e, hi⟩ := k2 r2 u2 hq
  exact el_icmpeq hX 1004 dL_907 (by decide) (fun _ => K u2 hi) (fun z => absurd e.symm z)

theorem lc_24 {Z : CX × GX} {b L : Nat} {xs : Nat → Int32} {Q : State → Prop} {h : AH} {N : Nat} (hX : LOK Z b L xs) (hL : L ≤ 2560) (hN : 5 * N + 5 ≤ L) (hI : INV N h) (K : ∀ u : AH, INV (N + 1) u → EL Z Q 1004 u [some (.ref 500), some (.ref 0), some (.ref 94), some (.int (nI (5 * N)))] []) : EL Z Q 912 h [some (.ref 500), some (.ref 0), some (.ref 94), some (.int (nI (5 * N)))] [] := by
  obtain ⟨PP, c1, k1⟩ := op_judge hI (by omega)
  refine el_aload_n hX dL_912 rfl rfl ?_
  refine el_arg (N := N) (j := 1) hX rfl hN hL (by omega) rfl rfl dL_913 dL_914 dL_915 dL_916 dL_917 ?_
  refine el_call (ci := 6) (i := 0) (As := [.int (xs (5 * N + 1))]) (st := []) hX c1 CSL_117 MS_X6_judge rfl rfl rfl (by decide) rfl (Nat.le_of_ble_eq_true rfl) dL_918 (fun r u hp => ?_)
  obtain ⟨PQ, c2, k2⟩ := k1 r u hp
  refine el_aload_n hX dL_921 rfl rfl ?_
  refine el_arg (N := N) (j := 1) hX rfl hN hL (by omega) rfl rfl dL_922 dL_923 dL_924 dL_925 dL_926 ?_
  refine el_call (ci := 7) (i := 94) (As := [.int (xs (5 * N + 1))]) (st := [.int r]) hX c2 CSL_120 MS_X7_judge rfl rfl rfl (by decide) rfl (Nat.le_of_ble_eq_true rfl) dL_927 (fun r2 u2 hq => ?_)
  obtain ⟨e, hi⟩ := k2 r2 u2 hq
  exact el_icmpeq hX 1004 dL_930 (by decide) (fun _ => K u2 hi) (fun z => absurd e.symm z)

theorem lc_25 {Z : CX × GX} {b L : Nat} {xs : Nat → Int32} {Q : State → Prop} {h : AH} {N : Nat} (hX : LOK Z b L xs) (hL : L ≤ 2560) (hN : 5 * N + 5 ≤ L) (hI : INV N h) (K : ∀ u : AH, INV (N + 1) u → EL Z Q 1004 u [some (.ref 500), some (.ref 0), some (.ref 94), some (.int (nI (5 * N)))] []) : EL Z Q 935 h [some (.ref 500), some (.ref 0), some (.ref 94), some (.int (nI (5 * N)))] [] := by
  obtain ⟨PP, c1, k1⟩ := op_seed hI
  refine el_aload_n hX dL_935 rfl rfl ?_
  refine el_arg (N := N) (j := 1) hX rfl hN hL (by omega) rfl rfl dL_936 dL_937 dL_938 dL_939 dL_940 ?_
  refine el_call (ci := 6) (i := 0) (As := [.int (xs (5 * N + 1))]) (st := []) hX c1 CSL_121 MS_X6_seed rfl rfl rfl (by decide) rfl (Nat.le_of_ble_eq_true rfl) dL_941 (fun r u hp => ?_)
  obtain ⟨PQ, c2, k2⟩ := k1 r u hp
  refine el_aload_n hX dL_944 rfl rfl ?_
  refine el_arg (N := N) (j := 1) hX rfl hN hL (by omega) rfl rfl dL_945 dL_946 dL_947 dL_948 dL_949 ?_
  refine el_call (ci := 7) (i := 94) (As := [.int (xs (5 * N + 1))]) (st := [.int r]) hX c2 CSL_124 MS_X7_seed rfl rfl rfl (by decide) rfl (Nat.le_of_ble_eq_true rfl) dL_950 (fun r2 u2 hq => ?_)
  obtain ⟨e, hi⟩ := k2 r2 u2 hq
  exact el_icmpeq hX 1004 dL_953 (by decide) (fun _ => K u2 hi) (fun z => absurd e.symm z)

theorem lc_26 {Z : CX × GX} {b L : Nat} {xs : Nat → Int32} {Q : State → Prop} {h : AH} {N : Nat} (hX : LOK Z b L xs) (hL : L ≤ 2560) (hN : 5 * N + 5 ≤ L) (hI : INV N h) (K : ∀ u : AH, INV (N + 1) u → EL Z Q 1004 u [some (.ref 500), some (.ref 0), some (.ref 94), some (.int (nI (5 * N)))] []) : EL Z Q 958 h [some (.ref 500), some (.ref 0), some (.ref 94), some (.int (nI (5 * N)))] [] := by
  obtain ⟨PP, c1, k1⟩ := op_keep hI
  refine el_aload_n hX dL_958 rfl rfl ?_
  refine el_arg (N := N) (j := 1) hX rfl hN hL (by omega) rfl rfl dL_959 dL_960 dL_961 dL_962 dL_963 ?_
  refine el_call (ci := 6) (i := 0) (As := [.int (xs (5 * N + 1))]) (st := []) hX c1 CSL_125 MS_X6_keep rfl rfl rfl (by decide) rfl (Nat.le_of_ble_eq_true rfl) dL_964 (fun r u hp => ?_)
  obtain ⟨PQ, c2, k2⟩ := k1 r u hp
  refine el_aload_n hX dL_967 rfl rfl ?_
  refine el_arg (N := N) (j := 1) hX rfl hN hL (by omega) rfl rfl dL_968 dL_969 dL_970 dL_971 dL_972 ?_
  refine el_call (ci := 7) (i := 94) (As := [.int (xs (5 * N + 1))]) (st := [.int r]) hX c2 CSL_128 MS_X7_keep rfl rfl rfl (by decide) rfl (Nat.le_of_ble_eq_true rfl) dL_973 (fun r2 u2 hq => ?_)
  obtain ⟨e, hi⟩ := k2 r2 u2 hq
  exact el_icmpeq hX 1004 dL_976 (by decide) (fun _ => K u2 hi) (fun z => absurd e.symm z)

theorem lc_27 {Z : CX × GX} {b L : Nat} {xs : Nat → Int32} {Q : State → Prop} {h : AH} {N : Nat} (hX : LOK Z b L xs) (hL : L ≤ 2560) (hN : 5 * N + 5 ≤ L) (hI : INV N h) (K : ∀ u : AH, INV (N + 1) u → EL Z Q 1004 u [some (.ref 500), some (.ref 0), some (.ref 94), some (.int (nI (5 * N)))] []) : EL Z Q 981 h [some (.ref 500), some (.ref 0), some (.ref 94), some (.int (nI (5 * N)))] [] := by
  obtain ⟨PP, c1, k1⟩ := op_goBack hI
  refine el_aload_n hX dL_981 rfl rfl ?_
  refine el_arg (N := N) (j := 1) hX rfl hN hL (by omega) rfl rfl dL_982 dL_983 dL_984 dL_985 dL_986 ?_
  refine el_call (ci := 6) (i := 0) (As := [.int (xs (5 * N + 1))]) (st := []) hX c1 CSL_129 MS_X6_goBack rfl rfl rfl (by decide) rfl (Nat.le_of_ble_eq_true rfl) dL_987 (fun r u hp => ?_)
  obtain ⟨PQ, c2, k2⟩ := k1 r u hp
  refine el_aload_n hX dL_990 rfl rfl ?_
  refine el_arg (N := N) (j := 1) hX rfl hN hL (by omega) rfl rfl dL_991 dL_992 dL_993 dL_994 dL_995 ?_
  refine el_call (ci := 7) (i := 94) (As := [.int (xs (5 * N + 1))]) (st := [.int r]) hX c2 CSL_132 MS_X7_goBack rfl rfl rfl (by decide) rfl (Nat.le_of_ble_eq_true rfl) dL_996 (fun r2 u2 hq => ?_)
  obtain ⟨e, hi⟩ := k2 r2 u2 hq
  exact el_icmpeq hX 1004 dL_999 (by decide) (fun _ => K u2 hi) (fun z => absurd e.symm z)

theorem law_loop {Z : CX × GX} {b L : Nat} {xs : Nat → Int32} {Q : State → Prop} (hX : LOK Z b L xs) (hL : L ≤ 2560) (kE : ∀ (h : AH) (lv : List (Option Value)), EL Z Q 1010 h lv []) : ∀ (n N : Nat), L ≤ 5 * (N + n) → ∀ h : AH, INV N h → 5 * N ≤ L → EL Z Q 18 h [some (.ref 500), some (.ref 0), some (.ref 94), some (.int (nI (5 * N)))] [] := by
  intro n
  induction n with
  | zero =>
    intro N hn h hI hN
    refine el_iload_n hX dL_18 rfl rfl ?_
    refine el_aload_n hX dL_19 rfl rfl ?_
    refine el_slen hX dL_20 ?_
    refine el_iconst (v := 5) hX dL_21 rfl ?_
    refine el_isub hX dL_22 ?_
    refine el_icmpgt hX 1010 dL_23 (by decide) (fun _ => kE _ _) (fun z => absurd ?_ z)
    rw [k_5, Int32.lt_iff_toInt_lt, pk_sub_toInt (by omega) (by omega), nI_toInt (by omega)]
    omega
  | succ n ih =>
    intro N hn h hI hN0
    refine el_iload_n hX dL_18 rfl rfl ?_
    refine el_aload_n hX dL_19 rfl rfl ?_
    refine el_slen hX dL_20 ?_
    refine el_iconst (v := 5) hX dL_21 rfl ?_
    refine el_isub hX dL_22 ?_
    refine el_icmpgt hX 1010 dL_23 (by decide) (fun _ => kE _ _) (fun z => ?_)
    have hN : 5 * N + 5 ≤ L := by
      rw [k_5, Int32.lt_iff_toInt_lt, pk_sub_toInt (by omega) (by omega), nI_toInt (by omega)] at z
      omega
    have K : ∀ u : AH, INV (N + 1) u → EL Z Q 1004 u [some (.ref 500), some (.ref 0), some (.ref 94), some (.int (nI (5 * N)))] [] := by
      intro u hu
      refine el_iinc (v := nI (5 * (N + 1))) hX dL_1004 ?_ ?_
      · show nI (5 * N) + nI 5 = _
        rw [nI_add]
        rfl
      · exact el_goto hX 18 dL_1007 (by decide) (ih (N + 1) (by omega) u hu (by omega))
    refine el_aload_n hX dL_26 rfl rfl ?_
    refine el_iload_n hX dL_27 rfl rfl ?_
    refine el_sld hX (vp_in_nI (by omega) (by omega)) dL_28 ?_
    refine el_bipush (v := 31) hX dL_29 rfl ?_
    refine el_iand hX dL_31 ?_
    obtain ⟨j, hj, e⟩ := pk_andE (xs (nI (5 * N)).toNatClampNeg) (m := 31) 5 (by decide)
    rw [e]
    by_cases c0 : j = 0
    · subst c0
      exact el_tabIn hX 160 dL_32 (by decide) (by decide) rfl (by decide) (lc_0 hX hL hN hI K)
    by_cases c1 : j = 1
    · subst c1
      exact el_tabIn hX 223 dL_32 (by decide) (by decide) rfl (by decide) (lc_1 hX hL hN hI K)
    by_cases c2 : j = 2
    · subst c2
      exact el_tabIn hX 236 dL_32 (by decide) (by decide) rfl (by decide) (lc_2 hX hL hN hI K)
    by_cases c3 : j = 3
    · subst c3
      exact el_tabIn hX 249 dL_32 (by decide) (by decide) rfl (by decide) (lc_3 hX hL hN hI K)
    by_cases c4 : j = 4
    · subst c4
      exact el_tabIn hX 262 dL_32 (by decide) (by decide) rfl (by decide) (lc_4 hX hL hN hI K)
    by_cases c5 : j = 5
    · subst c5
      exact el_tabIn hX 285 dL_32 (by decide) (by decide) rfl (by decide) (lc_5 hX hL hN hI K)
    by_cases c6 : j = 6
    · subst c6
      exact el_tabIn hX 318 dL_32 (by decide) (by decide) rfl (by decide) (lc_6 hX hL hN hI K)
    by_cases c7 : j = 7
    · subst c7
      exact el_tabIn hX 351 dL_32 (by decide) (by decide) rfl (by decide) (lc_7 hX hL hN hI K)
    by_cases c8 : j = 8
    · subst c8
      exact el_tabIn hX 374 dL_32 (by decide) (by decide) rfl (by decide) (lc_8 hX hL hN hI K)
    by_cases c9 : j = 9
    · subst c9
      exact el_tabIn hX 407 dL_32 (by decide) (by decide) rfl (by decide) (lc_9 hX hL hN hI K)
    by_cases c10 : j = 10
    · subst c10
      exact el_tabIn hX 440 dL_32 (by decide) (by decide) rfl (by decide) (lc_10 hX hL hN hI K)
    by_cases c11 : j = 11
    · subst c11
      exact el_tabIn hX 473 dL_32 (by decide) (by decide) rfl (by decide) (lc_11 hX hL hN hI K)
    by_cases c12 : j = 12
    · subst c12
      exact el_tabIn hX 506 dL_32 (by decide) (by decide) rfl (by decide) (lc_12 hX hL hN hI K)
    by_cases c13 : j = 13
    · subst c13
      exact el_tabIn hX 539 dL_32 (by decide) (by decide) rfl (by decide) (lc_13 hX hL hN hI K)
    by_cases c14 : j = 14
    · subst c14
      exact el_tabIn hX 552 dL_32 (by decide) (by decide) rfl (by decide) (lc_14 hX hL hN hI K)
    by_cases c15 : j = 15
    · subst c15
      exact el_tabIn hX 595 dL_32 (by decide) (by decide) rfl (by decide) (lc_15 hX hL hN hI K)
    by_cases c16 : j = 16
    · subst c16
      exact el_tabIn hX 628 dL_32 (by decide) (by decide) rfl (by decide) (lc_16 hX hL hN hI K)
    by_cases c17 : j = 17
    · subst c17
      exact el_tabIn hX 681 dL_32 (by decide) (by decide) rfl (by decide) (lc_17 hX hL hN hI K)
    by_cases c18 : j = 18
    · subst c18
      exact el_tabIn hX 734 dL_32 (by decide) (by decide) rfl (by decide) (lc_18 hX hL hN hI K)
    by_cases c19 : j = 19
    · subst c19
      exact el_tabIn hX 767 dL_32 (by decide) (by decide) rfl (by decide) (lc_19 hX hL hN hI K)
    by_cases c20 : j = 20
    · subst c20
      exact el_tabIn hX 810 dL_32 (by decide) (by decide) rfl (by decide) (lc_20 hX hL hN hI K)
    by_cases c21 : j = 21
    · subst c21
      exact el_tabIn hX 853 dL_32 (by decide) (by decide) rfl (by decide) (lc_21 hX hL hN hI K)
    by_cases c22 : j = 22
    · subst c22
      exact el_tabIn hX 876 dL_32 (by decide) (by decide) rfl (by decide) (lc_22 hX hL hN hI K)
    by_cases c23 : j = 23
    · subst c23
      exact el_tabIn hX 899 dL_32 (by decide) (by decide) rfl (by decide) (lc_23 hX hL hN hI K)
    by_cases c24 : j = 24
    · subst c24
      exact el_tabIn hX 912 dL_32 (by decide) (by decide) rfl (by decide) (lc_24 hX hL hN hI K)
    by_cases c25 : j = 25
    · subst c25
      exact el_tabIn hX 935 dL_32 (by decide) (by decide) rfl (by decide) (lc_25 hX hL hN hI K)
    by_cases c26 : j = 26
    · subst c26
      exact el_tabIn hX 958 dL_32 (by decide) (by decide) rfl (by decide) (lc_26 hX hL hN hI K)
    by_cases c27 : j = 27
    · subst c27
      exact el_tabIn hX 981 dL_32 (by decide) (by decide) rfl (by decide) (lc_27 hX hL hN hI K)
    refine el_tabOut hX 1004 dL_32 (Or.inr ?_) (by decide) (K h (INV_mono hI (by omega)))
    rw [nI_toInt (by omega)]
    omega
