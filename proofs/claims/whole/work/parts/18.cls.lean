theorem Met_ofWF {l : Launch} {y : MethodName} {ws ws' : List Cond} {rm : Room} {Pc : Array Value → State → Prop} {Qc : Array Value → State → Outcome → State → Prop} {mc ms : Nat} {free : Addr → Prop} {cc : ByteArray} {maxL : Nat} {ret : Option FieldType}
    (hy : plainFor y = true) (hw : ws = Cond.code y cc maxL ret :: ws')
    (body : ∀ p e s m args below meth c s₁, BodyLoose p l y (headSpec ws rm) cc maxL ret e s m args below meth c s₁ → c.maxLocals = maxL → Pc args s →
      W p l e (headSpec ws rm).room s m args below meth c s.heap [] 0 0 (MQ below Qc args s mc ms free) (entryFrame m args maxL)) : Met l y ws rm Pc Qc mc ms free := by
  refine MetFree.of_bodySF (code := cc) (maxLocals := maxL) (ret := ret) hy ?_ ?_
  · intro args s m h hn
    obtain ⟨meth, c, h1, h2, h3, h4, h5, h6, -, -⟩ := Cond.code_spec hn (atoms_spec (ws := ws) h _ (by rw [hw]; exact List.mem_cons_self))
    exact ⟨meth, c, h1, h2, h3, h4, h5, h6⟩
  · intro p e s m args below meth c s₁ B hml hP _
    have hh0 : s₁.heap = s.heap := by rw [B.state]; rfl
    obtain ⟨t, a1, o, b1, b2, b3⟩ := body p e s m args below meth c s₁ B hml hP s₁ hh0 (Stand.of_body B)
    exact ⟨t, o, a1, b1, b2, ⟨b3.1, b3.2⟩⟩
theorem CI_ofF {y : MethodName} {own : String} {cc : ByteArray} {nL : Nat} {ret : Option FieldType} {fr lo : Nat} {avs : List Value} {h : AH} {post : Int32 → AH → Prop} (lv : List (Option Value)) (hy : plainFor y = true) (ho : y.cls = own) (hle : (le avs).length ≤ nL) (hlv : le avs ++ List.replicate (nL - (le avs).length) none = lv) (body : ∀ Z : CX × GX, OK Z own cc nL ret fr lo → EX Z nL (QI Z post) 0 h lv []) : CI y cc nL ret fr lo avs h post := by
  intro l G
  refine Met_ofWF (cc := cc) (maxL := nL) (ret := ret) hy rfl ?_
  intro p e s m args below meth c s₁ B hml hv
  obtain ⟨rfl, hWH, hWK, hSX⟩ := hv
  have hts := atoms_spec (ws := .code y cc nL ret :: gtbl) B.pre
  have hown : s.vm.findClass own = some m.cls := by rw [← ho]; exact findClass_of_methodNamed B.named
  have hl := lv_entry (avs.map (cv G.1)) (n := nL) (by rw [lgsl_len]; exact hle)
  rw [lg_entry_eq]
  generalize (lg_sl (avs.map (cv G.1)) ++ List.replicate (nL - (lg_sl (avs.map (cv G.1))).length) Slot.unset).toArray = ls at hl ⊢
  rw [le_args] at hl
  have hl : lv_has ls nL (lvl G.1 0 lv) := by rw [← hlv, lvl_pad]; exact hl
  exact body ((p, l, e, { frames := fr, cells := 0, slots := 0, locals := lo }, s, m, (avs.map (cv G.1)).toArray, below, meth, c), G) ⟨⟨B.exec, B.bytes, hml, hown, fun w hw => hts w (List.mem_cons_of_mem _ hw)⟩, hWK, rfl, B.returns, B.notSynchronized, hSX⟩ s.heap [] ls hWH va_S.rf hl
theorem zi_xor (a b : Nat) : nI a ^^^ nI b = nI (a ^^^ b) := by
  apply Int32.toBitVec_inj.1
  show BitVec.ofNat 32 a ^^^ BitVec.ofNat 32 b = BitVec.ofNat 32 (a ^^^ b)
  apply BitVec.eq_of_getLsbD_eq
  intro i hi
  simp [hi]
def jfm (x y : Int32) : Int32 := if 0 ≤ x ^^^ y then x - x / y * y else if x - x / y * y = 0 then x - x / y * y else x - x / y * y + y
theorem jfm_24 {t : Nat} (h : t < 2 ^ 31) : jfm (nI t) 24 = nI (t % 24) := by
  unfold jfm
  rw [k_24, zi_xor, if_pos (by rw [k_0]; exact nI_le (Nat.zero_le _) (Nat.xor_lt_two_pow h (by decide)))]
  exact pk_rem h (by decide) (by decide)

set_option maxRecDepth 100000 in
set_option maxHeartbeats 4000000 in
theorem sg_J9_floorMod_7cf53_0 {Z : CX × GX} {post : Int32 → AH → Prop} {h : AH} {x0 : Int32} {x1 : Int32} (hX : OK Z "java/lang/Math" cJ9_floorMod_7cf53 3 (some .int) 0 0) 
    (w : (¬ x1 = 0) ∧ ((0 ≤ (x0 ^^^ x1) → post (x0 - x0 / x1 * x1) h) ∧ (¬ 0 ≤ (x0 ^^^ x1) → (((x0 - x0 / x1 * x1) = 0 → post (x0 - x0 / x1 * x1) h) ∧ (¬ (x0 - x0 / x1 * x1) = 0 → post ((x0 - x0 / x1 * x1) + x1) h)))))
    : EX Z 3 (QI Z post) 0 h [some (.int x0), some (.int x1), none] [] := by
  refine ex_iload_n hX dJ9_floorMod_7cf53_0 rfl rfl ?_
  refine ex_iload_n hX dJ9_floorMod_7cf53_1 rfl rfl ?_
  obtain ⟨q1, w⟩ := w
  refine ex_irem hX dJ9_floorMod_7cf53_2 q1 ?_
  refine ex_istore_n (lv' := [some (.int x0), some (.int x1), some (.int (x0 - x0 / x1 * x1))]) hX dJ9_floorMod_7cf53_3 rfl (by decide) rfl ?_
  refine ex_iload_n hX dJ9_floorMod_7cf53_4 rfl rfl ?_
  refine ex_iload_n hX dJ9_floorMod_7cf53_5 rfl rfl ?_
  refine ex_ixor hX dJ9_floorMod_7cf53_6 ?_
  refine ex_ifge hX 18 dJ9_floorMod_7cf53_7 (by decide) (fun c2 => ?_) (fun c2 => ?_)
  · replace w := w.1 c2
    refine ex_iload_n hX dJ9_floorMod_7cf53_18 rfl rfl ?_
    exact ex_iret hX dJ9_floorMod_7cf53_19 rfl w
  · replace w := w.2 c2
    refine ex_iload_n hX dJ9_floorMod_7cf53_10 rfl rfl ?_
    refine ex_ifeq hX 18 dJ9_floorMod_7cf53_11 (by decide) (fun c3 => ?_) (fun c3 => ?_)
    · replace w := w.1 c3
      refine ex_iload_n hX dJ9_floorMod_7cf53_18 rfl rfl ?_
      exact ex_iret hX dJ9_floorMod_7cf53_19 rfl w
    · replace w := w.2 c3
      refine ex_iload_n hX dJ9_floorMod_7cf53_14 rfl rfl ?_
      refine ex_iload_n hX dJ9_floorMod_7cf53_15 rfl rfl ?_
      refine ex_iadd hX dJ9_floorMod_7cf53_16 ?_
      exact ex_iret hX dJ9_floorMod_7cf53_17 rfl w



set_option maxRecDepth 100000 in
set_option maxHeartbeats 4000000 in
theorem c_J9_floorMod_7cf53 {h : AH} {a0 : Int32} {a1 : Int32}  (pr0 : ¬ (a1 : Int32) = 0) : CI yJ9_floorMod_7cf53 cJ9_floorMod_7cf53 3 (some .int) 0 0 [.int a0, .int a1] h (fun r u => r = jfm a0 a1 ∧ u = h) := by
  refine CI_ofF [some (.int a0), some (.int a1), none] (by decide +kernel) rfl (Nat.le_of_ble_eq_true rfl) rfl (fun Z hX => ?_)
  refine sg_J9_floorMod_7cf53_0 hX ⟨pr0, fun c => ⟨by rw [jfm, if_pos c], rfl⟩, fun c => ⟨fun c2 => ⟨by rw [jfm, if_neg c, if_pos c2], rfl⟩, fun c2 => ⟨by rw [jfm, if_neg c, if_neg c2], rfl⟩⟩⟩

set_option maxRecDepth 100000 in
set_option maxHeartbeats 4000000 in
theorem sg_X0_tideAt_0 {Z : CX × GX} {post : Int32 → AH → Prop} {h : AH} {x0 : Nat} {x1 : Int32} (hX : OK Z RX0 cX0_tideAt 2 (some .int) 1 22) (ox0 : oc x0 = some 0)
    (w : (¬ (24 : Int32) = 0) ∧ (vp_in (jfm x1 24) 24) ∧ (∀ v3 : Int32, v3 = h.1 (x0 + 7) (Int32.toNatClampNeg (jfm x1 24)) → post v3 h))
    : EX Z 2 (QI Z post) 0 h [some (.ref x0), some (.int x1)] [] := by
  refine ex_aload_n hX dX0_tideAt_0 rfl rfl ?_
  refine ex_get hX (.ref (x0 + 7)) FL_0_30 ox0 (fun _ => rfl) dX0_tideAt_1 ?_
  refine ex_iload_n hX dX0_tideAt_4 rfl rfl ?_
  refine ex_bipush (v := 24) hX dX0_tideAt_5 rfl ?_
  obtain ⟨q1, w⟩ := w
  refine ex_pIs (As := [.int x1, .int 24]) (st := [.ref (x0 + 7)]) hX (c_J9_floorMod_7cf53 (h := h) q1) CS_0_41 MS_J9_floorMod_7cf53 rfl (by decide) rfl (Nat.le_of_ble_eq_true rfl) dX0_tideAt_7 ?_
  obtain ⟨q2, w⟩ := w
  refine ex_iald hX (sh_0_7 ox0) q2 dX0_tideAt_10 ?_
  refine ex_nameI (fun v3 ev3 => ?_)
  replace w := w v3 ev3
  exact ex_iret hX dX0_tideAt_11 rfl w



set_option maxRecDepth 100000 in
set_option maxHeartbeats 4000000 in
theorem c_X0_tideAt {h : AH} {a0 : Nat} {a1 : Int32} (ha0 : oc a0 = some 0) (pr0 : vp_in (jfm a1 24) 24) : CI yX0_tideAt cX0_tideAt 2 (some .int) 1 22 [.ref a0, .int a1] h (fun r u => r = h.1 (a0 + 7) (Int32.toNatClampNeg (jfm a1 24)) ∧ u = h) := by
  refine CI.of [some (.ref a0), some (.int a1)] (by decide +kernel) rfl (Nat.le_of_ble_eq_true rfl) rfl (fun Z hX => ?_)
  exact sg_X0_tideAt_0 hX ha0 ⟨by decide, pr0, fun v e => ⟨e, rfl⟩⟩

set_option maxRecDepth 100000 in
set_option maxHeartbeats 4000000 in
theorem sg_X0_rainAt_0 {Z : CX × GX} {post : Int32 → AH → Prop} {h : AH} {x0 : Nat} {x1 : Int32} (hX : OK Z RX0 cX0_rainAt 2 (some .int) 1 22) (ox0 : oc x0 = some 0)
    (w : (¬ (24 : Int32) = 0) ∧ (vp_in (jfm x1 24) 24) ∧ (∀ v3 : Int32, v3 = h.1 (x0 + 6) (Int32.toNatClampNeg (jfm x1 24)) → post (v3 - 50) h))
    : EX Z 2 (QI Z post) 0 h [some (.ref x0), some (.int x1)] [] := by
  refine ex_aload_n hX dX0_rainAt_0 rfl rfl ?_
  refine ex_get hX (.ref (x0 + 6)) FL_0_27 ox0 (fun _ => rfl) dX0_rainAt_1 ?_
  refine ex_iload_n hX dX0_rainAt_4 rfl rfl ?_
  refine ex_bipush (v := 24) hX dX0_rainAt_5 rfl ?_
  obtain ⟨q1, w⟩ := w
  refine ex_pIs (As := [.int x1, .int 24]) (st := [.ref (x0 + 6)]) hX (c_J9_floorMod_7cf53 (h := h) q1) CS_0_41 MS_J9_floorMod_7cf53 rfl (by decide) rfl (Nat.le_of_ble_eq_true rfl) dX0_rainAt_7 ?_
  obtain ⟨q2, w⟩ := w
  refine ex_iald hX (sh_0_6 ox0) q2 dX0_rainAt_10 ?_
  refine ex_nameI (fun v3 ev3 => ?_)
  replace w := w v3 ev3
  refine ex_bipush (v := 50) hX dX0_rainAt_11 rfl ?_
  refine ex_isub hX dX0_rainAt_13 ?_
  exact ex_iret hX dX0_rainAt_14 rfl w



set_option maxRecDepth 100000 in
set_option maxHeartbeats 4000000 in
theorem c_X0_rainAt {h : AH} {a0 : Nat} {a1 : Int32} (ha0 : oc a0 = some 0) (pr0 : vp_in (jfm a1 24) 24) : CI yX0_rainAt cX0_rainAt 2 (some .int) 1 22 [.ref a0, .int a1] h (fun r u => r = (h.1 (a0 + 6) (Int32.toNatClampNeg (jfm a1 24)) - 50) ∧ u = h) := by
  refine CI.of [some (.ref a0), some (.int a1)] (by decide +kernel) rfl (Nat.le_of_ble_eq_true rfl) rfl (fun Z hX => ?_)
  exact sg_X0_rainAt_0 hX ha0 ⟨by decide, pr0, fun v e => ⟨by rw [e], rfl⟩⟩

set_option maxRecDepth 100000 in
set_option maxHeartbeats 4000000 in
theorem sg_X3_levelOf_0 {Z : CX × GX} {post : Int32 → AH → Prop} {h : AH} {x0 : Nat} {x1 : Nat} {x2 : Int32} (hX : OK Z RX3 cX3_levelOf 4 (some .int) 2 43) (ox0 : oc x0 = some 3) (ox1 : oc x1 = some 0)
    (w : (vp_in x2 10) ∧ (((x2 = h.1 x1 0 - 1) → (vp_in (jfm (h.1 x0 0) 24) 24) ∧ (∀ v4 : Int32, v4 = h.1 (x1 + 7) (Int32.toNatClampNeg (jfm (h.1 x0 0) 24)) → post v4 h)) ∧ (¬ (x2 = h.1 x1 0 - 1) → ((1 ≤ (h.1 (x1 + 2) (Int32.toNatClampNeg x2)) → (vp_in x2 10) ∧ (vp_in x2 10) ∧ (¬ (h.1 (x1 + 2) (Int32.toNatClampNeg x2)) = 0) ∧ (∀ v9 : Int32, v9 = (h.1 (x0 + 1) (Int32.toNatClampNeg x2)) / (h.1 (x1 + 2) (Int32.toNatClampNeg x2)) → (∀ v10 : Int32, v10 = (h.1 (x1 + 1) (Int32.toNatClampNeg x2)) + v9 → post v10 h))) ∧ (¬ 1 ≤ (h.1 (x1 + 2) (Int32.toNatClampNeg x2)) → (vp_in (jfm (h.1 x0 0) 24) 24) ∧ (∀ v12 : Int32, v12 = h.1 (x1 + 7) (Int32.toNatClampNeg (jfm (h.1 x0 0) 24)) → post v12 h))))))
    : EX Z 4 (QI Z post) 0 h [some (.ref x0), some (.ref x1), some (.int x2), none] [] := by
  refine ex_aload_n hX dX3_levelOf_0 rfl rfl ?_
  refine ex_get hX (.ref (x1 + 2)) FL_3_66 ox1 (fun _ => rfl) dX3_levelOf_1 ?_
  refine ex_iload_n hX dX3_levelOf_4 rfl rfl ?_
  obtain ⟨q1, w⟩ := w
  refine ex_iald hX (sh_0_2 ox1) q1 dX3_levelOf_5 ?_
  refine ex_istore_n (lv' := [some (.ref x0), some (.ref x1), some (.int x2), some (.int (h.1 (x1 + 2) (Int32.toNatClampNeg x2)))]) hX dX3_levelOf_6 rfl (by decide) rfl ?_
  refine ex_aload_n hX dX3_levelOf_7 rfl rfl ?_
  refine ex_iload_n hX dX3_levelOf_8 rfl rfl ?_
  refine ex_pIv (ci := 0) (i := x1) (As := [.int x2]) (st := []) hX (c_X0_isSea (h := h) ox1) CS_3_69 MS_X0_isSea rfl ox1 rfl (by decide) rfl (Nat.le_of_ble_eq_true rfl) dX3_levelOf_9 ?_
  refine ex_ifneB hX 20 dX3_levelOf_12 (by decide) (fun c2 => ?_) (fun c2 => ?_)
  · replace w := w.1 c2
    refine ex_aload_n hX dX3_levelOf_20 rfl rfl ?_
    refine ex_aload_n hX dX3_levelOf_21 rfl rfl ?_
    refine ex_get hX (.int (h.1 x0 0)) FL_3_37 ox0 (fun _ => rfl) dX3_levelOf_22 ?_
    obtain ⟨q3, w⟩ := w
    refine ex_pIv (ci := 0) (i := x1) (As := [.int (h.1 x0 0)]) (st := []) hX (c_X0_tideAt (h := h) ox1 q3) CS_3_73 MS_X0_tideAt rfl ox1 rfl (by decide) rfl (Nat.le_of_ble_eq_true rfl) dX3_levelOf_25 ?_
    refine ex_nameI (fun v4 ev4 => ?_)
    replace w := w v4 ev4
    refine ex_goto hX 46 dX3_levelOf_28 (by decide) ?_
    exact ex_iret hX dX3_levelOf_46 rfl w
  · replace w := w.2 c2
    refine ex_iload_n hX dX3_levelOf_15 rfl rfl ?_
    refine ex_iconst (v := 1) hX dX3_levelOf_16 rfl ?_
    refine ex_icmpge hX 31 dX3_levelOf_17 (by decide) (fun c5 => ?_) (fun c5 => ?_)
    · replace w := w.1 c5
      refine ex_aload_n hX dX3_levelOf_31 rfl rfl ?_
      refine ex_get hX (.ref (x1 + 1)) FL_3_77 ox1 (fun _ => rfl) dX3_levelOf_32 ?_
      refine ex_iload_n hX dX3_levelOf_35 rfl rfl ?_
      obtain ⟨q6, w⟩ := w
      refine ex_iald hX (sh_0_1 ox1) q6 dX3_levelOf_36 ?_
      refine ex_aload_n hX dX3_levelOf_37 rfl rfl ?_
      refine ex_get hX (.ref (x0 + 1)) FL_3_9 ox0 (fun _ => rfl) dX3_levelOf_38 ?_
      refine ex_iload_n hX dX3_levelOf_41 rfl rfl ?_
      obtain ⟨q7, w⟩ := w
      refine ex_iald hX (sh_3_1 ox0) q7 dX3_levelOf_42 ?_
      refine ex_iload_n hX dX3_levelOf_43 rfl rfl ?_
      obtain ⟨q8, w⟩ := w
      refine ex_idiv hX dX3_levelOf_44 q8 ?_
      refine ex_nameI (fun v9 ev9 => ?_)
      replace w := w v9 ev9
      refine ex_iadd hX dX3_levelOf_45 ?_
      refine ex_nameI (fun v10 ev10 => ?_)
      replace w := w v10 ev10
      exact ex_iret hX dX3_levelOf_46 rfl w
    · replace w := w.2 c5
      refine ex_aload_n hX dX3_levelOf_20 rfl rfl ?_
      refine ex_aload_n hX dX3_levelOf_21 rfl rfl ?_
      refine ex_get hX (.int (h.1 x0 0)) FL_3_37 ox0 (fun _ => rfl) dX3_levelOf_22 ?_
      obtain ⟨q11, w⟩ := w
      refine ex_pIv (ci := 0) (i := x1) (As := [.int (h.1 x0 0)]) (st := []) hX (c_X0_tideAt (h := h) ox1 q11) CS_3_73 MS_X0_tideAt rfl ox1 rfl (by decide) rfl (Nat.le_of_ble_eq_true rfl) dX3_levelOf_25 ?_
      refine ex_nameI (fun v12 ev12 => ?_)
      replace w := w v12 ev12
      refine ex_goto hX 46 dX3_levelOf_28 (by decide) ?_
      exact ex_iret hX dX3_levelOf_46 rfl w

def lvC (f : Nat → SG) (s c : Nat) (k : Int32) : Int32 := if k = f c 0 - 1 then f (c + 7) (Int32.toNatClampNeg (jfm (f s 0) 24)) else if 1 ≤ f (c + 2) k.toNatClampNeg then f (c + 1) k.toNatClampNeg + f (s + 1) k.toNatClampNeg / f (c + 2) k.toNatClampNeg else f (c + 7) (Int32.toNatClampNeg (jfm (f s 0) 24))
def LPc (f : Nat → SG) (s c : Nat) (k : Int32) : Prop := vp_in k 10 ∧ vp_in (jfm (f s 0) 24) 24

set_option maxRecDepth 100000 in
set_option maxHeartbeats 4000000 in
theorem c_X3_levelOf {h : AH} {a0 : Nat} {a1 : Nat} {a2 : Int32} (ha0 : oc a0 = some 3) (ha1 : oc a1 = some 0) (pr0 : LPc h.1 a0 a1 a2) : CI yX3_levelOf cX3_levelOf 4 (some .int) 2 43 [.ref a0, .ref a1, .int a2] h (fun r u => r = lvC h.1 a0 a1 a2 ∧ u = h) := by
  refine CI.of [some (.ref a0), some (.ref a1), some (.int a2), none] (by decide +kernel) rfl (Nat.le_of_ble_eq_true rfl) rfl (fun Z hX => ?_)
  refine sg_X3_levelOf_0 hX ha0 ha1 ?_
  obtain ⟨q1, q2⟩ := pr0
  refine ⟨q1, fun c => ⟨q2, fun v e => ⟨by rw [lvC, if_pos c, e], rfl⟩⟩, fun c => ⟨fun c2 => ⟨q1, q1, ?_, fun v7 e7 v8 e8 => ⟨by rw [lvC, if_neg c, if_pos c2, e8, e7], rfl⟩⟩, fun c2 => ⟨q2, fun v e => ⟨by rw [lvC, if_neg c, if_neg c2, e], rfl⟩⟩⟩⟩
  intro z
  rw [z] at c2
  exact absurd c2 (by decide)

set_option maxRecDepth 100000 in
set_option maxHeartbeats 4000000 in
theorem sg_X3_wayFrom_0 {Z : CX × GX} {post : Int32 → AH → Prop} {h : AH} {x0 : Nat} {x1 : Nat} {x2 : Int32} {x3 : Int32} (hX : OK Z RX3 cX3_wayFrom 6 (some .int) 1 21) (ox0 : oc x0 = some 3) (ox1 : oc x1 = some 0)
    (w : (((0 ≤ x2 ∧ x2 < h.1 x1 0 - 1) → (vp_in x2 9) ∧ True) ∧ (∀ v3 : Int32, v3 = (if (0 ≤ x2 ∧ x2 < h.1 x1 0 - 1) then (h.1 (x0 + 4) (Int32.toNatClampNeg x2) : Int32) else 0) → (((0 ≤ (x2 - 1) ∧ (x2 - 1) < h.1 x1 0 - 1) → (vp_in (x2 - 1) 9) ∧ True) ∧ (∀ v6 : Int32, v6 = (if (0 ≤ (x2 - 1) ∧ (x2 - 1) < h.1 x1 0 - 1) then (-(h.1 (x0 + 4) (Int32.toNatClampNeg (x2 - 1))) : Int32) else 0) → ((v3 < x3 → ((v6 < x3 → post 0 h) ∧ (¬ v6 < x3 → post (-1) h))) ∧ (¬ v3 < x3 → ((v3 < v6 → ((v6 < x3 → post 0 h) ∧ (¬ v6 < x3 → post (-1) h))) ∧ (¬ v3 < v6 → post 1 h)))))))))
    : EX Z 6 (QI Z post) 0 h [some (.ref x0), some (.ref x1), some (.int x2), some (.int x3), none, none] [] := by
  refine ex_aload_n hX dX3_wayFrom_0 rfl rfl ?_
  refine ex_iload_n hX dX3_wayFrom_1 rfl rfl ?_
  refine ex_pIv (ci := 0) (i := x1) (As := [.int x2]) (st := []) hX (c_X0_isGate (h := h) ox1) CS_3_142 MS_X0_isGate rfl ox1 rfl (by decide) rfl (Nat.le_of_ble_eq_true rfl) dX3_wayFrom_2 ?_
  obtain ⟨wbc1, w⟩ := w
  have kc1 : EX Z 6 (QI Z post) 18 h [some (.ref x0), some (.ref x1), some (.int x2), some (.int x3), none, none] [.int (if (0 ≤ x2 ∧ x2 < h.1 x1 0 - 1) then (h.1 (x0 + 4) (Int32.toNatClampNeg x2) : Int32) else 0)] := by
    refine ex_nameI (fun v3 ev3 => ?_)
    replace w := w v3 ev3
    refine ex_istore (lv' := [some (.ref x0), some (.ref x1), some (.int x2), some (.int x3), some (.int v3), none]) hX dX3_wayFrom_18 (by decide) rfl ?_
    refine ex_aload_n hX dX3_wayFrom_20 rfl rfl ?_
    refine ex_iload_n hX dX3_wayFrom_21 rfl rfl ?_
    refine ex_iconst (v := 1) hX dX3_wayFrom_22 rfl ?_
    refine ex_isub hX dX3_wayFrom_23 ?_
    refine ex_pIv (ci := 0) (i := x1) (As := [.int (x2 - 1)]) (st := []) hX (c_X0_isGate (h := h) ox1) CS_3_142 MS_X0_isGate rfl ox1 rfl (by decide) rfl (Nat.le_of_ble_eq_true rfl) dX3_wayFrom_24 ?_
    obtain ⟨wbc4, w⟩ := w
    have kc4 : EX Z 6 (QI Z post) 43 h [none, none, none, some (.int x3), some (.int v3), none] [.int (if (0 ≤ (x2 - 1) ∧ (x2 - 1) < h.1 x1 0 - 1) then (-(h.1 (x0 + 4) (Int32.toNatClampNeg (x2 - 1))) : Int32) else 0)] := by
      refine ex_nameI (fun v6 ev6 => ?_)
      replace w := w v6 ev6
      refine ex_istore (lv' := [none, none, none, some (.int x3), some (.int v3), some (.int v6)]) hX dX3_wayFrom_43 (by decide) rfl ?_
      refine ex_iload hX dX3_wayFrom_45 rfl ?_
      refine ex_iload_n hX dX3_wayFrom_47 rfl rfl ?_
      refine ex_icmplt hX 60 dX3_wayFrom_48 (by decide) (fun c7 => ?_) (fun c7 => ?_)
      · replace w := w.1 c7
        refine ex_iload hX dX3_wayFrom_60 rfl ?_
        refine ex_iload_n hX dX3_wayFrom_62 rfl rfl ?_
        refine ex_icmplt hX 70 dX3_wayFrom_63 (by decide) (fun c8 => ?_) (fun c8 => ?_)
        · replace w := w.1 c8
          refine ex_iconst (v := 0) hX dX3_wayFrom_70 rfl ?_
          exact ex_iret hX dX3_wayFrom_71 rfl w
        · replace w := w.2 c8
          refine ex_iconst (v := (-1)) hX dX3_wayFrom_66 rfl ?_
          refine ex_goto hX 71 dX3_wayFrom_67 (by decide) ?_
          exact ex_iret hX dX3_wayFrom_71 rfl w
      · replace w := w.2 c7
        refine ex_iload hX dX3_wayFrom_51 rfl ?_
        refine ex_iload hX dX3_wayFrom_53 rfl ?_
        refine ex_icmplt hX 60 dX3_wayFrom_55 (by decide) (fun c9 => ?_) (fun c9 => ?_)
        · replace w := w.1 c9
          refine ex_iload hX dX3_wayFrom_60 rfl ?_
          refine ex_iload_n hX dX3_wayFrom_62 rfl rfl ?_
          refine ex_icmplt hX 70 dX3_wayFrom_63 (by decide) (fun c10 => ?_) (fun c10 => ?_)
          · replace w := w.1 c10
            refine ex_iconst (v := 0) hX dX3_wayFrom_70 rfl ?_
            exact ex_iret hX dX3_wayFrom_71 rfl w
          · replace w := w.2 c10
            refine ex_iconst (v := (-1)) hX dX3_wayFrom_66 rfl ?_
            refine ex_goto hX 71 dX3_wayFrom_67 (by decide) ?_
            exact ex_iret hX dX3_wayFrom_71 rfl w
        · replace w := w.2 c9
          refine ex_iconst (v := 1) hX dX3_wayFrom_58 rfl ?_
          exact ex_iret hX dX3_wayFrom_59 rfl w
    refine ex_ifeqB hX 42 dX3_wayFrom_27 (by decide) (fun c4 => ?_) (fun c4 => ?_)
    · refine ex_iconst (v := 0) hX dX3_wayFrom_42 rfl ?_
      rw [show (if (0 ≤ (x2 - 1) ∧ (x2 - 1) < h.1 x1 0 - 1) then (-(h.1 (x0 + 4) (Int32.toNatClampNeg (x2 - 1))) : Int32) else 0) = 0 from if_neg c4] at kc4
      exact ex_forget [none, none, none, some (.int x3), some (.int v3), none] ⟨rfl, ⟨rfl, trivial⟩⟩ kc4
    · replace w := wbc4 c4
      refine ex_aload_n hX dX3_wayFrom_30 rfl rfl ?_
      refine ex_get hX (.ref (x0 + 4)) FL_3_21 ox0 (fun _ => rfl) dX3_wayFrom_31 ?_
      refine ex_iload_n hX dX3_wayFrom_34 rfl rfl ?_
      refine ex_iconst (v := 1) hX dX3_wayFrom_35 rfl ?_
      refine ex_isub hX dX3_wayFrom_36 ?_
      obtain ⟨q5, w⟩ := w
      refine ex_iald hX (sh_3_4 ox0) q5 dX3_wayFrom_37 ?_
      refine ex_ineg hX dX3_wayFrom_38 ?_
      refine ex_goto hX 43 dX3_wayFrom_39 (by decide) ?_
      rw [show (if (0 ≤ (x2 - 1) ∧ (x2 - 1) < h.1 x1 0 - 1) then (-(h.1 (x0 + 4) (Int32.toNatClampNeg (x2 - 1))) : Int32) else 0) = -(h.1 (x0 + 4) (Int32.toNatClampNeg (x2 - 1))) from if_pos c4] at kc4
      exact ex_forget [none, none, none, some (.int x3), some (.int v3), none] ⟨rfl, ⟨rfl, trivial⟩⟩ kc4
  refine ex_ifeqB hX 17 dX3_wayFrom_5 (by decide) (fun c1 => ?_) (fun c1 => ?_)
  · refine ex_iconst (v := 0) hX dX3_wayFrom_17 rfl ?_
    rw [show (if (0 ≤ x2 ∧ x2 < h.1 x1 0 - 1) then (h.1 (x0 + 4) (Int32.toNatClampNeg x2) : Int32) else 0) = 0 from if_neg c1] at kc1
    exact ex_forget [some (.ref x0), some (.ref x1), some (.int x2), some (.int x3), none, none] ⟨rfl, ⟨rfl, ⟨rfl, ⟨rfl, trivial⟩⟩⟩⟩ kc1
  · replace w := wbc1 c1
    refine ex_aload_n hX dX3_wayFrom_8 rfl rfl ?_
    refine ex_get hX (.ref (x0 + 4)) FL_3_21 ox0 (fun _ => rfl) dX3_wayFrom_9 ?_
    refine ex_iload_n hX dX3_wayFrom_12 rfl rfl ?_
    obtain ⟨q2, w⟩ := w
    refine ex_iald hX (sh_3_4 ox0) q2 dX3_wayFrom_13 ?_
    refine ex_goto hX 18 dX3_wayFrom_14 (by decide) ?_
    rw [show (if (0 ≤ x2 ∧ x2 < h.1 x1 0 - 1) then (h.1 (x0 + 4) (Int32.toNatClampNeg x2) : Int32) else 0) = h.1 (x0 + 4) (Int32.toNatClampNeg x2) from if_pos c1] at kc1
    exact ex_forget [some (.ref x0), some (.ref x1), some (.int x2), some (.int x3), none, none] ⟨rfl, ⟨rfl, ⟨rfl, ⟨rfl, trivial⟩⟩⟩⟩ kc1

def wfC (f : Nat → SG) (s c : Nat) (k wt : Int32) : Int32 :=
  let down : Int32 := if 0 ≤ k ∧ k < f c 0 - 1 then f (s + 4) k.toNatClampNeg else 0
  let up : Int32 := if 0 ≤ k - 1 ∧ k - 1 < f c 0 - 1 then -(f (s + 4) (Int32.toNatClampNeg (k - 1))) else 0
  if wt ≤ down ∧ up ≤ down then 1 else if wt ≤ up then -1 else 0
def WPc (f : Nat → SG) (c : Nat) (k : Int32) : Prop := (0 ≤ k ∧ k < f c 0 - 1 → vp_in k 9) ∧ (0 ≤ k - 1 ∧ k - 1 < f c 0 - 1 → vp_in (k - 1) 9)

set_option maxRecDepth 100000 in
set_option maxHeartbeats 4000000 in
theorem c_X3_wayFrom {h : AH} {a0 : Nat} {a1 : Nat} {a2 : Int32} {a3 : Int32} (ha0 : oc a0 = some 3) (ha1 : oc a1 = some 0) (pr0 : WPc h.1 a1 a2) : CI yX3_wayFrom cX3_wayFrom 6 (some .int) 1 21 [.ref a0, .ref a1, .int a2, .int a3] h (fun r u => r = wfC h.1 a0 a1 a2 a3 ∧ u = h) := by
  refine CI.of [some (.ref a0), some (.ref a1), some (.int a2), some (.int a3), none, none] (by decide +kernel) rfl (Nat.le_of_ble_eq_true rfl) rfl (fun Z hX => ?_)
  refine sg_X3_wayFrom_0 hX ha0 ha1 ⟨fun c => ⟨pr0.1 c, trivial⟩, fun v3 e3 => ⟨fun c => ⟨pr0.2 c, trivial⟩, fun v6 e6 => ⟨fun c => ⟨fun c2 => ⟨?_, rfl⟩, fun c2 => ⟨?_, rfl⟩⟩, fun c => ⟨fun c2 => ⟨fun c3 => ⟨?_, rfl⟩, fun c3 => ⟨?_, rfl⟩⟩, fun c2 => ⟨?_, rfl⟩⟩⟩⟩⟩
  · show (0 : Int32) = if a3 ≤ _ ∧ _ ≤ _ then 1 else if a3 ≤ _ then -1 else 0
    rw [← e3, ← e6, if_neg (fun z => by simp only [Int32.lt_iff_toInt_lt, Int32.le_iff_toInt_le] at *; omega), if_neg (fun z => by simp only [Int32.lt_iff_toInt_lt, Int32.le_iff_toInt_le] at *; omega)]
  · show (-1 : Int32) = if a3 ≤ _ ∧ _ ≤ _ then 1 else if a3 ≤ _ then -1 else 0
    rw [← e3, ← e6, if_neg (fun z => by simp only [Int32.lt_iff_toInt_lt, Int32.le_iff_toInt_le] at *; omega), if_pos (by simp only [Int32.lt_iff_toInt_lt, Int32.le_iff_toInt_le] at *; omega)]
  · show (0 : Int32) = if a3 ≤ _ ∧ _ ≤ _ then 1 else if a3 ≤ _ then -1 else 0
    rw [← e3, ← e6, if_neg (fun z => by simp only [Int32.lt_iff_toInt_lt, Int32.le_iff_toInt_le] at *; omega), if_neg (fun z => by simp only [Int32.lt_iff_toInt_lt, Int32.le_iff_toInt_le] at *; omega)]
  · show (-1 : Int32) = if a3 ≤ _ ∧ _ ≤ _ then 1 else if a3 ≤ _ then -1 else 0
    rw [← e3, ← e6, if_neg (fun z => by simp only [Int32.lt_iff_toInt_lt, Int32.le_iff_toInt_le] at *; omega), if_pos (by simp only [Int32.lt_iff_toInt_lt, Int32.le_iff_toInt_le] at *; omega)]
  · show (1 : Int32) = if a3 ≤ _ ∧ _ ≤ _ then 1 else if a3 ≤ _ then -1 else 0
    rw [← e3, ← e6, if_pos (by simp only [Int32.lt_iff_toInt_lt, Int32.le_iff_toInt_le] at *; omega)]

/-! a State of the class changes, nothing else -/
def FC (s : Nat) (h u : AH) : Prop := u.2 = h.2 ∧ ∀ i, (i < s ∨ s + 15 ≤ i) → u.1 i = h.1 i
theorem FC.rf {s : Nat} {h : AH} : FC s h h := ⟨rfl, fun _ _ => rfl⟩
theorem FC.tr {s : Nat} {h u v : AH} (a : FC s h u) (b : FC s u v) : FC s h v := ⟨b.1.trans a.1, fun i hi => (b.2 i hi).trans (a.2 i hi)⟩
theorem FC.set {s a k : Nat} {h : AH} {v : Int32} (ha : a < 15) : FC s h (hset h.1 (s + a) k v, h.2) := ⟨rfl, fun i hi => hset_ne (by omega)⟩
theorem FC.set0 {s k : Nat} {h : AH} {v : Int32} : FC s h (hset h.1 s k v, h.2) := ⟨rfl, fun i hi => hset_ne (by omega)⟩
theorem oc0 {c : Nat} (h : oc c = some 0) : c = 3 ∨ c = 11 := (by decide +kernel : ∀ i, i < 113 → oc i = some 0 → i = 3 ∨ i = 11) c (oc_lt h) h
theorem oc1 {c : Nat} (h : oc c = some 1) : c = 19 ∨ c = 23 := (by decide +kernel : ∀ i, i < 113 → oc i = some 1 → i = 19 ∨ i = 23) c (oc_lt h) h
theorem oc3 {c : Nat} (h : oc c = some 3) : c = 27 ∨ c = 42 ∨ c = 57 ∨ c = 72 := (by decide +kernel : ∀ i, i < 113 → oc i = some 3 → i = 27 ∨ i = 42 ∨ i = 57 ∨ i = 72) c (oc_lt h) h
theorem PC_of {h u : AH} {s c o : Nat} (hF : FC s h u) (hs : oc s = some 3) (hc : oc c = some 0) (ho : oc o = some 1) : PC u.1 c o = PC h.1 c o := by
  have a := oc3 hs
  have b := oc0 hc
  have d := oc1 ho
  have e : ∀ i, i < 27 → u.1 i = h.1 i := fun i hi => hF.2 i (by omega)
  unfold PC
  rw [e c (by omega), e (c + 1) (by omega), e (c + 2) (by omega), e (c + 5) (by omega), e (c + 6) (by omega), e (c + 7) (by omega), e o (by omega), e (o + 1) (by omega), e (o + 2) (by omega), e (o + 3) (by omega)]
theorem mkc {f : Nat → SG} {s k a b : Nat} {v : Int32} (hl : loc k = some (a, b)) (hr : rel (cs f s 51).toNatClampNeg k) (hk : k ≠ 51) : mk (cs (hset f (s + a) b v) s) = upd (mk (cs f s)) k v := by
  rw [cs_set hl, mk_upd hr hk]
theorem mkc_at {f : Nat → SG} {s k a b : Nat} (hl : loc k = some (a, b)) (hr : rel (cs f s 51).toNatClampNeg k) : f (s + a) b = mk (cs f s) k := by
  rw [mk_in hr, cs_at hl]
theorem c51 {f : Nat → SG} {s : Nat} : mk (cs f s) 51 = f (s + 7) 0 := by rw [mk_51]; exact cs_at (by decide)
theorem c50 {f : Nat → SG} {s : Nat} : mk (cs f s) 50 = f s 0 := (mkc_at (a := 0) (b := 0) (by decide) (by unfold rel; omega)).symm
theorem lvC_eq {f : Nat → SG} {s c o k t : Nat} (hP : POK (PC f c o)) (ht : t < 2 ^ 31) (h50 : mk (cs f s) 50 = nI t) (hk : k < pn (PC f c o)) : LPc f s c (nI k) ∧ lvC f s c (nI k) = levS (PC f c o) (mk (cs f s)) k := by
  obtain ⟨⟨hn2, hn10⟩, hpa, hpr, -⟩ := id hP
  have en : f c 0 = nI (pn (PC f c o)) := i_pos (by show 0 < pn (PC f c o); omega)
  have es : f c 0 - 1 = nI (pn (PC f c o) - 1) := by rw [en, k_1, pk_sub (by omega)]
  have ek : (nI k = nI (pn (PC f c o) - 1)) ↔ k = pn (PC f c o) - 1 := nI_eq (by omega) (by omega)
  have e50 : f s 0 = nI t := by rw [← c50 (f := f) (s := s), h50]
  have m24 : t % 24 < 24 := Nat.mod_lt _ (by decide)
  unfold LPc lvC levS
  rw [es, e50, jfm_24 ht, nI_clamp (show k < 2 ^ 31 by omega), nI_clamp (show t % 24 < 2 ^ 31 by omega), h50, nI_clamp ht]
  simp only [ek]
  refine ⟨⟨vp_in_nI (by omega) (by omega), vp_in_nI (by omega) (by omega)⟩, ?_⟩
  by_cases q : k = pn (PC f c o) - 1
  · rw [if_pos q, if_pos q]; exact (cut_in m24).symm
  · rw [if_neg q, if_neg q]
    obtain ⟨⟨a, a1, a2, ea⟩, -⟩ := hpa k (by omega)
    have e2 : f (c + 2) k = par (PC f c o) k := (cut_in (by omega)).symm
    rw [if_pos (by rw [e2, ea, k_1]; exact nI_le a1 (by omega)), e2, show f (c + 1) k = pfl (PC f c o) k from (cut_in (by omega)).symm, mkc_at (f := f) (s := s) (a := 1) (b := k) (loc_w k (by omega)) (by unfold rel; omega)]
theorem wfC_eq {f : Nat → SG} {s c o k : Nat} {wt : Int32} (hP : 2 ≤ pn (PC f c o) ∧ pn (PC f c o) ≤ 10) (hk : k < pn (PC f c o)) : WPc f c (nI k) ∧ wfC f s c (nI k) wt = wayS (PC f c o) (mk (cs f s)) k wt := by
  have en : f c 0 = nI (pn (PC f c o)) := i_pos (by show 0 < pn (PC f c o); omega)
  have es : f c 0 - 1 = nI (pn (PC f c o) - 1) := by rw [en, k_1, pk_sub (by omega)]
  have h1 : (0 ≤ nI k ∧ nI k < nI (pn (PC f c o) - 1)) ↔ ¬ k = pn (PC f c o) - 1 := by
    rw [nI_ltI (by omega) (by omega)]
    exact ⟨fun z => by omega, fun z => ⟨by rw [k_0]; exact nI_le (Nat.zero_le _) (by omega), by omega⟩⟩
  have h2 : (0 ≤ nI k - 1 ∧ nI k - 1 < nI (pn (PC f c o) - 1)) ↔ ¬ k = 0 := by
    by_cases z : k = 0
    · subst z
      exact ⟨fun q => absurd q.1 (by decide), fun q => absurd rfl q⟩
    · rw [k_1, pk_sub (by omega), nI_ltI (by omega) (by omega)]
      exact ⟨fun _ => z, fun _ => ⟨by rw [k_0]; exact nI_le (Nat.zero_le _) (by omega), by omega⟩⟩
  refine ⟨⟨fun q => ?_, fun q => ?_⟩, ?_⟩
  · rw [es, h1] at q
    exact vp_in_nI (by omega) (by omega)
  · rw [es, h2] at q
    rw [k_1, pk_sub (by omega)]
    exact vp_in_nI (by omega) (by omega)
  · unfold wfC wayS
    rw [es]
    simp only [h1, h2]
    have e1 : (if ¬ k = pn (PC f c o) - 1 then f (s + 4) (nI k).toNatClampNeg else (0 : Int32)) = (if k = pn (PC f c o) - 1 then 0 else mk (cs f s) (20 + k)) := by
      by_cases z : k = pn (PC f c o) - 1
      · rw [if_neg (fun y => y z), if_pos z]
      · rw [if_pos z, if_neg z, nI_clamp (by omega)]; exact mkc_at (loc_20 k (by omega)) (by unfold rel; omega)
    have e2 : (if ¬ k = 0 then -(f (s + 4) (Int32.toNatClampNeg (nI k - 1))) else (0 : Int32)) = (if k = 0 then 0 else -(mk (cs f s) (20 + k - 1))) := by
      by_cases z : k = 0
      · rw [if_neg (fun y => y z), if_pos z]
      · rw [if_pos z, if_neg z, k_1, pk_sub (by omega), nI_clamp (by omega), show 20 + k - 1 = 20 + (k - 1) by omega, mkc_at (f := f) (s := s) (loc_20 (k - 1) (by omega)) (by unfold rel; omega)]
    rw [e1, e2]
