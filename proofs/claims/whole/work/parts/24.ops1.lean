theorem PM_eq {f g : Nat → SG} (e9 : f 94 9 = g 94 9) (e14 : f 94 14 = g 94 14) (e : ∀ i, (i = 97 ∨ i = 98 ∨ i = 100 ∨ i = 101 ∨ i = 103 ∨ i = 104 ∨ i = 105 ∨ i = 106) → f i = g i) : PM f = PM g := by
  unfold PM
  rw [e9, e14, e 97 (by omega), e 98 (by omega), e 100 (by omega), e 101 (by omega), e 103 (by omega), e 104 (by omega), e 105 (by omega), e 106 (by omega)]
theorem PC_eq {f g : Nat → SG} {c o : Nat} (hc : oc c = some 0) (ho : oc o = some 1) (e : ∀ i, i < 27 → f i = g i) : PC f c o = PC g c o := by
  have b := oc0 hc
  have d := oc1 ho
  unfold PC
  rw [e c (by omega), e (c + 1) (by omega), e (c + 2) (by omega), e (c + 5) (by omega), e (c + 6) (by omega), e (c + 7) (by omega), e o (by omega), e (o + 1) (by omega), e (o + 2) (by omega), e (o + 3) (by omega)]
theorem cs_same {f g : Nat → SG} {s : Nat} (h : ∀ i, s ≤ i → i < s + 15 → f i = g i) : cs f s = cs g s := cs_off (fun k q hq => by
  have h1 := loc_val k (loc_lt hq) q hq
  rw [h (s + q.1) (by omega) (by omega)])
theorem ms_same {f g : Nat → SG} {ρ : Nat} (h : ∀ j, ρ ≤ j → j < ρ + 200 → f 95 j = g 95 j) : mk (ms f ρ) = mk (ms g ρ) := by
  have e : ∀ k, k < 200 → ms f ρ k = ms g ρ k := fun k hk => h (ρ + k) (by omega) (by omega)
  refine mk_congr (e 51 (by omega)) (fun k hk => e k ?_)
  unfold rel at hk
  omega
/-- what an hour, a trial or a change of the state leaves -/
theorem INV_of {N : Nat} {h u : AH} (hI : INV N h) (e2 : u.2 = h.2) (eC : ∀ i, (i < 27 ∨ (57 ≤ i ∧ i < 89) ∨ i = 93 ∨ (96 ≤ i ∧ i < 108) ∨ i = 112) → u.1 i = h.1 i) (e94 : ∀ k, k ≠ 25 → k ≠ 26 → u.1 94 k = h.1 94 k) (e95 : ∀ j, 400 ≤ j → u.1 95 j = h.1 95 j) (hH : HV u) (hN : NV (N + 1) u) : INV (N + 1) u := by
  obtain ⟨g, r, n, i, t, f, b, -⟩ := hI
  have eP : PM u.1 = PM h.1 := PM_eq (e94 9 (by omega) (by omega)) (e94 14 (by omega) (by omega)) (fun i hi => eC i (by omega))
  have eQ : PC u.1 (h.2 1) (h.2 3) = PC h.1 (h.2 1) (h.2 3) := PC_eq g.1 g.2.2.1 (fun i hi => eC i (by omega))
  have b1 := oc0 g.1
  have b3 := oc1 g.2.2.1
  refine ⟨by unfold GV; rw [e2]; exact g, ?_, hN, ?_, ?_, ?_, ?_, hH⟩
  · unfold RV
    rw [e2, eP, eQ, eC (h.2 1) (by omega), eC (h.2 3) (by omega), e94 9 (by omega) (by omega), e94 14 (by omega) (by omega)]
    exact r
  · intro k hk
    have e1 : mk (cs u.1 (57 + 15 * k)) = mk (cs h.1 (57 + 15 * k)) := by rw [cs_same (fun i h1 h2 => eC i (by omega))]
    have e3 : mk (ms u.1 (400 + 200 * k)) = mk (ms h.1 (400 + 200 * k)) := ms_same (fun j h1 h2 => e95 j (by omega))
    rw [eC 88 (by omega), eC 96 (by omega), eC (57 + 15 * k) (by omega), e1, e3, eP]
    exact IV_mono i (by omega) k hk
  · unfold TV
    rw [eC 1 (by omega), eC 2 (by omega), eC 107 (by omega), e94 17 (by omega) (by omega)]
    exact t
  · unfold FV
    rw [eC 0 (by omega), e94 22 (by omega) (by omega)]
    exact f
  · unfold BV
    rw [eC 0 (by omega), eC 93 (by omega), eC 112 (by omega), e94 32 (by omega) (by omega)]
    exact b
theorem hs_o {f : Nat → SG} {i k a : Nat} {v : Int32} {g : Nat → Nat} (h : a ≠ i) : ((hset f i k v, g) : AH).1 a = f a := hset_ne h
theorem hs_i {f : Nat → SG} {i k j : Nat} {v : Int32} {g : Nat → Nat} (h : j ≠ k) : ((hset f i k v, g) : AH).1 i j = f i j := by
  show hset f i k v i j = _
  rw [hset_eq, upd_ne h]
theorem hs_s {f : Nat → SG} {i k : Nat} {v : Int32} {g : Nat → Nat} : ((hset f i k v, g) : AH).1 i k = v := by
  show hset f i k v i k = _
  rw [hset_eq, upd_eq]
/-- one place of the state is set, by both -/
theorem INV_put {N k a b : Nat} {h u u2 : AH} {v : Int32} (hI : INV N h) (hl : loc k = some (a, b)) (hr : ∀ c, rel c k) (hk : k ≠ 51) (hk2 : k < 200) (eu : u = (hset h.1 (27 + a) b v, h.2)) (eu2 : u2 = (hset u.1 95 k v, u.2)) (hS : SV (N + 1) (PM h.1) (upd (mk (ms h.1 0)) k v)) : INV (N + 1) u2 := by
  have hv := loc_val k (loc_lt hl) (a, b) hl
  dsimp only at hv
  have e95 : u2.1 95 = upd (h.1 95) k v := by
    rw [eu2]
    show hset u.1 95 k v 95 = _
    rw [hset_eq, eu, hs_o (by omega)]
  have eo : ∀ i, i ≠ 95 → i ≠ 27 + a → u2.1 i = h.1 i := fun i h1 h2 => by
    rw [eu2, hs_o h1, eu, hs_o h2]
  have eP : PM u2.1 = PM h.1 := PM_eq (by rw [eo 94 (by omega) (by omega)]) (by rw [eo 94 (by omega) (by omega)]) (fun i hi => eo i (by omega) (by omega))
  have mm : mk (ms u2.1 0) = upd (mk (ms h.1 0)) k v := by
    have : ms u2.1 0 = upd (ms h.1 0) k v := by
      funext j
      show u2.1 95 (0 + j) = _
      rw [Nat.zero_add, e95]
      unfold upd ms
      rw [Nat.zero_add]
    rw [this, mk_upd (hr _) hk]
  have mc : mk (cs u2.1 27) = upd (mk (cs h.1 27)) k v := by
    have : cs u2.1 27 = cs (hset h.1 (27 + a) b v) 27 := cs_same (fun i h1 h2 => by rw [eu2, hs_o (by omega), eu])
    rw [this]
    exact mkc hl (hr _) hk
  refine INV_of hI (by rw [eu2, eu]) (fun i hi => eo i (by omega) (by omega)) (fun k _ _ => by rw [eo 94 (by omega) (by omega)]) (fun j hj => by rw [e95, upd_ne (by omega)]) ?_ ⟨by rw [mc, mm, hI.2.2.1.1], ?_, by rw [eP, mm]; exact hS⟩
  · unfold HV
    rw [eo 94 (by omega) (by omega)]
    exact hI.2.2.2.2.2.2.2
  · by_cases c : 27 + a = 27
    · rw [eu2, hs_o (by omega), eu]
      show hset h.1 (27 + a) b v 27 2 = _
      rw [c, hset_eq, upd_ne (by omega)]
      exact hI.2.2.1.2.1
    · rw [eo 27 (by omega) (by omega)]
      exact hI.2.2.1.2.1

set_option maxRecDepth 100000 in
set_option maxHeartbeats 4000000 in
theorem sg_X6_width_0 {Z : CX × GX} {post : Int32 → AH → Prop} {h : AH} {x1 : Int32} {x2 : Int32} (hX : OK Z RX6 cX6_width 4 (some .int) 1 21) 
    (w : (((0 ≤ x1 ∧ x1 < h.1 (h.2 1) 0 - 1) → ((x2 < 0 → post (-100000002) h) ∧ (¬ x2 < 0 → ((x2 ≤ 9 → (vp_in x1 9) ∧ (vp_in x1 9) ∧ (∀ u7 : AH, u7 = (hset h.1 (27 + 3) (Int32.toNatClampNeg x1) x2, h.2) → post (h.1 (27 + 3) (Int32.toNatClampNeg x1)) u7)) ∧ (¬ x2 ≤ 9 → post (-100000002) h))))) ∧ (¬ (0 ≤ x1 ∧ x1 < h.1 (h.2 1) 0 - 1) → post (-100000001) h)))
    : EX Z 4 (QI Z post) 0 h [some (.ref 0), some (.int x1), some (.int x2), none] [] := by
  refine ex_aload_n hX dX6_width_0 rfl rfl ?_
  refine ex_gg (fun c1 => ?_)
  refine ex_get hX (.ref (h.2 1)) FL_6_19 rfl (fun _ => rfl) dX6_width_1 ?_
  refine ex_iload_n hX dX6_width_4 rfl rfl ?_
  refine ex_pIv (ci := 0) (i := h.2 1) (As := [.int x1]) (st := []) hX (c_X0_isGate (h := h) c1.1) CS_6_144 MS_X0_isGate rfl c1.1 rfl (by decide) rfl (Nat.le_of_ble_eq_true rfl) dX6_width_5 ?_
  refine ex_ifneB hX 14 dX6_width_8 (by decide) (fun c2 => ?_) (fun c2 => ?_)
  · replace w := w.1 c2
    refine ex_iload_n hX dX6_width_14 rfl rfl ?_
    refine ex_iflt hX 24 dX6_width_15 (by decide) (fun c3 => ?_) (fun c3 => ?_)
    · replace w := w.1 c3
      refine ex_ldc hX dX6_width_24 KC_6_72 ?_
      exact ex_iret hX dX6_width_26 rfl w
    · replace w := w.2 c3
      refine ex_iload_n hX dX6_width_18 rfl rfl ?_
      refine ex_bipush (v := 9) hX dX6_width_19 rfl ?_
      refine ex_icmple hX 27 dX6_width_21 (by decide) (fun c4 => ?_) (fun c4 => ?_)
      · replace w := w.1 c4
        refine ex_aload_n hX dX6_width_27 rfl rfl ?_
        refine ex_get hX (.ref 27) FL_6_39 rfl (fun _ => rfl) dX6_width_28 ?_
        refine ex_get hX (.ref (27 + 3)) FL_6_147 rfl (fun _ => rfl) dX6_width_31 ?_
        refine ex_iload_n hX dX6_width_34 rfl rfl ?_
        obtain ⟨q5, w⟩ := w
        refine ex_iald hX (sh_3_3 rfl) q5 dX6_width_35 ?_
        refine ex_istore_n (lv' := [some (.ref 0), some (.int x1), some (.int x2), some (.int (h.1 (27 + 3) (Int32.toNatClampNeg x1)))]) hX dX6_width_36 rfl (by decide) rfl ?_
        refine ex_aload_n hX dX6_width_37 rfl rfl ?_
        refine ex_get hX (.ref 27) FL_6_39 rfl (fun _ => rfl) dX6_width_38 ?_
        refine ex_get hX (.ref (27 + 3)) FL_6_147 rfl (fun _ => rfl) dX6_width_41 ?_
        refine ex_iload_n hX dX6_width_44 rfl rfl ?_
        refine ex_iload_n hX dX6_width_45 rfl rfl ?_
        obtain ⟨q6, w⟩ := w
        refine ex_iast hX (sh_3_3 rfl) q6 dX6_width_46 ?_
        refine ex_nameH (fun u7 eu7 => ?_)
        replace w := w u7 eu7
        refine ex_iload_n hX dX6_width_47 rfl rfl ?_
        exact ex_iret hX dX6_width_48 rfl w
      · replace w := w.2 c4
        refine ex_ldc hX dX6_width_24 KC_6_72 ?_
        exact ex_iret hX dX6_width_26 rfl w
  · replace w := w.2 c2
    refine ex_ldc hX dX6_width_11 KC_6_126 ?_
    exact ex_iret hX dX6_width_13 rfl w

set_option maxRecDepth 100000 in
set_option maxHeartbeats 4000000 in
theorem sg_X7_width_0 {Z : CX × GX} {post : Int32 → AH → Prop} {h : AH} {x1 : Int32} {x2 : Int32} (hX : OK Z RX7 cX7_width 4 (some .int) 2 46) 
    (w : (((0 ≤ x1 ∧ x1 ≤ h.1 94 9 - 2) → (((0 ≤ (Int32.toInt64 x2) ∧ (Int32.toInt64 x2) ≤ 9) → (vp_in (10 + x1) 800) ∧ (vp_in (10 + x1) 800) ∧ (∀ u5 : AH, u5 = (hset h.1 95 (Int32.toNatClampNeg (10 + x1)) x2, h.2) → post (h.1 95 (Int32.toNatClampNeg (10 + x1))) u5)) ∧ (¬ (0 ≤ (Int32.toInt64 x2) ∧ (Int32.toInt64 x2) ≤ 9) → post (-100000002) h))) ∧ (¬ (0 ≤ x1 ∧ x1 ≤ h.1 94 9 - 2) → post (-100000001) h)))
    : EX Z 4 (QI Z post) 0 h [some (.ref 94), some (.int x1), some (.int x2), none] [] := by
  refine ex_aload_n hX dX7_width_0 rfl rfl ?_
  refine ex_iload_n hX dX7_width_1 rfl rfl ?_
  refine ex_pIv (ci := 7) (i := 94) (As := [.int x1]) (st := []) hX (c_X7_isGate (h := h)) CS_7_192 MS_X7_isGate rfl rfl rfl (by decide) rfl (Nat.le_of_ble_eq_true rfl) dX7_width_2 ?_
  refine ex_ifneB hX 11 dX7_width_5 (by decide) (fun c1 => ?_) (fun c1 => ?_)
  · replace w := w.1 c1
    refine ex_iload_n hX dX7_width_11 rfl rfl ?_
    refine ex_i2l hX dX7_width_12 ?_
    refine ex_lconst (v := 0) hX dX7_width_13 rfl ?_
    refine ex_ldc2 hX dX7_width_14 KL_7_228 ?_
    refine ex_pIs (As := [.long (Int32.toInt64 x2), .long 0, .long 9]) (st := []) hX (c_X7_in (h := h)) CS_7_71 MS_X7_in rfl (by decide) rfl (Nat.le_of_ble_eq_true rfl) dX7_width_17 ?_
    refine ex_ifneB hX 26 dX7_width_20 (by decide) (fun c2 => ?_) (fun c2 => ?_)
    · replace w := w.1 c2
      refine ex_aload_n hX dX7_width_26 rfl rfl ?_
      refine ex_get hX (.ref 95) FL_7_7 rfl (fun _ => rfl) dX7_width_27 ?_
      refine ex_bipush (v := 10) hX dX7_width_30 rfl ?_
      refine ex_iload_n hX dX7_width_32 rfl rfl ?_
      refine ex_iadd hX dX7_width_33 ?_
      obtain ⟨q3, w⟩ := w
      refine ex_iald hX rfl q3 dX7_width_34 ?_
      refine ex_istore_n (lv' := [some (.ref 94), some (.int x1), some (.int x2), some (.int (h.1 95 (Int32.toNatClampNeg (10 + x1))))]) hX dX7_width_35 rfl (by decide) rfl ?_
      refine ex_aload_n hX dX7_width_36 rfl rfl ?_
      refine ex_get hX (.ref 95) FL_7_7 rfl (fun _ => rfl) dX7_width_37 ?_
      refine ex_bipush (v := 10) hX dX7_width_40 rfl ?_
      refine ex_iload_n hX dX7_width_42 rfl rfl ?_
      refine ex_iadd hX dX7_width_43 ?_
      refine ex_iload_n hX dX7_width_44 rfl rfl ?_
      obtain ⟨q4, w⟩ := w
      refine ex_iast hX rfl q4 dX7_width_45 ?_
      refine ex_nameH (fun u5 eu5 => ?_)
      replace w := w u5 eu5
      refine ex_iload_n hX dX7_width_46 rfl rfl ?_
      exact ex_iret hX dX7_width_47 rfl w
    · replace w := w.2 c2
      refine ex_ldc hX dX7_width_23 KC_7_75 ?_
      exact ex_iret hX dX7_width_25 rfl w
  · replace w := w.2 c1
    refine ex_ldc hX dX7_width_8 KC_7_185 ?_
    exact ex_iret hX dX7_width_10 rfl w

set_option maxRecDepth 100000 in
set_option maxHeartbeats 4000000 in
theorem sg_X6_pour_0 {Z : CX × GX} {post : Int32 → AH → Prop} {h : AH} {x1 : Int32} {x2 : Int32} (hX : OK Z RX6 cX6_pour 4 (some .int) 1 21) 
    (w : ((¬ (0 ≤ x1 ∧ x1 < h.1 (h.2 1) 0) → post (-100000001) h) ∧ ((0 ≤ x1 ∧ x1 < h.1 (h.2 1) 0) → ((¬ (x1 = h.1 (h.2 1) 0 - 1) → ((x2 < 0 → post (-100000002) h) ∧ (¬ x2 < 0 → ((x2 ≤ 9999 → (vp_in x1 10) ∧ (vp_in x1 10) ∧ (∀ u9 : AH, u9 = (hset h.1 (27 + 1) (Int32.toNatClampNeg x1) x2, h.2) → post (h.1 (27 + 1) (Int32.toNatClampNeg x1)) u9)) ∧ (¬ x2 ≤ 9999 → post (-100000002) h))))) ∧ ((x1 = h.1 (h.2 1) 0 - 1) → post (-100000001) h)))))
    : EX Z 4 (QI Z post) 0 h [some (.ref 0), some (.int x1), some (.int x2), none] [] := by
  refine ex_aload_n hX dX6_pour_0 rfl rfl ?_
  refine ex_gg (fun c1 => ?_)
  refine ex_get hX (.ref (h.2 1)) FL_6_19 rfl (fun _ => rfl) dX6_pour_1 ?_
  refine ex_iload_n hX dX6_pour_4 rfl rfl ?_
  refine ex_pIv (ci := 0) (i := h.2 1) (As := [.int x1]) (st := []) hX (c_X0_isNode (h := h) c1.1) CS_6_122 MS_X0_isNode rfl c1.1 rfl (by decide) rfl (Nat.le_of_ble_eq_true rfl) dX6_pour_5 ?_
  refine ex_ifeqB hX 22 dX6_pour_8 (by decide) (fun c2 => ?_) (fun c2 => ?_)
  · replace w := w.1 c2
    refine ex_ldc hX dX6_pour_22 KC_6_126 ?_
    exact ex_iret hX dX6_pour_24 rfl w
  · replace w := w.2 c2
    refine ex_aload_n hX dX6_pour_11 rfl rfl ?_
    refine ex_gg (fun c3 => ?_)
    refine ex_get hX (.ref (h.2 1)) FL_6_19 rfl (fun _ => rfl) dX6_pour_12 ?_
    refine ex_iload_n hX dX6_pour_15 rfl rfl ?_
    refine ex_pIv (ci := 0) (i := h.2 1) (As := [.int x1]) (st := []) hX (c_X0_isSea (h := h) c3.1) CS_6_166 MS_X0_isSea rfl c3.1 rfl (by decide) rfl (Nat.le_of_ble_eq_true rfl) dX6_pour_16 ?_
    refine ex_ifeqB hX 25 dX6_pour_19 (by decide) (fun c4 => ?_) (fun c4 => ?_)
    · replace w := w.1 c4
      refine ex_iload_n hX dX6_pour_25 rfl rfl ?_
      refine ex_iflt hX 36 dX6_pour_26 (by decide) (fun c5 => ?_) (fun c5 => ?_)
      · replace w := w.1 c5
        refine ex_ldc hX dX6_pour_36 KC_6_72 ?_
        exact ex_iret hX dX6_pour_38 rfl w
      · replace w := w.2 c5
        refine ex_iload_n hX dX6_pour_29 rfl rfl ?_
        refine ex_sipush (v := 9999) hX dX6_pour_30 rfl ?_
        refine ex_icmple hX 39 dX6_pour_33 (by decide) (fun c6 => ?_) (fun c6 => ?_)
        · replace w := w.1 c6
          refine ex_aload_n hX dX6_pour_39 rfl rfl ?_
          refine ex_get hX (.ref 27) FL_6_39 rfl (fun _ => rfl) dX6_pour_40 ?_
          refine ex_get hX (.ref (27 + 1)) FL_6_133 rfl (fun _ => rfl) dX6_pour_43 ?_
          refine ex_iload_n hX dX6_pour_46 rfl rfl ?_
          obtain ⟨q7, w⟩ := w
          refine ex_iald hX (sh_3_1 rfl) q7 dX6_pour_47 ?_
          refine ex_istore_n (lv' := [some (.ref 0), some (.int x1), some (.int x2), some (.int (h.1 (27 + 1) (Int32.toNatClampNeg x1)))]) hX dX6_pour_48 rfl (by decide) rfl ?_
          refine ex_aload_n hX dX6_pour_49 rfl rfl ?_
          refine ex_get hX (.ref 27) FL_6_39 rfl (fun _ => rfl) dX6_pour_50 ?_
          refine ex_get hX (.ref (27 + 1)) FL_6_133 rfl (fun _ => rfl) dX6_pour_53 ?_
          refine ex_iload_n hX dX6_pour_56 rfl rfl ?_
          refine ex_iload_n hX dX6_pour_57 rfl rfl ?_
          obtain ⟨q8, w⟩ := w
          refine ex_iast hX (sh_3_1 rfl) q8 dX6_pour_58 ?_
          refine ex_nameH (fun u9 eu9 => ?_)
          replace w := w u9 eu9
          refine ex_iload_n hX dX6_pour_59 rfl rfl ?_
          exact ex_iret hX dX6_pour_60 rfl w
        · replace w := w.2 c6
          refine ex_ldc hX dX6_pour_36 KC_6_72 ?_
          exact ex_iret hX dX6_pour_38 rfl w
    · replace w := w.2 c4
      refine ex_ldc hX dX6_pour_22 KC_6_126 ?_
      exact ex_iret hX dX6_pour_24 rfl w

set_option maxRecDepth 100000 in
set_option maxHeartbeats 4000000 in
theorem sg_X7_pour_0 {Z : CX × GX} {post : Int32 → AH → Prop} {h : AH} {x1 : Int32} {x2 : Int32} (hX : OK Z RX7 cX7_pour 4 (some .int) 1 25) 
    (w : (((0 ≤ (Int32.toInt64 x1) ∧ (Int32.toInt64 x1) ≤ (Int32.toInt64 ((h.1 94 9) - 2))) → (((0 ≤ (Int32.toInt64 x2) ∧ (Int32.toInt64 x2) ≤ 9999) → (vp_in x1 800) ∧ (vp_in x1 800) ∧ (∀ u5 : AH, u5 = (hset h.1 95 (Int32.toNatClampNeg x1) x2, h.2) → post (h.1 95 (Int32.toNatClampNeg x1)) u5)) ∧ (¬ (0 ≤ (Int32.toInt64 x2) ∧ (Int32.toInt64 x2) ≤ 9999) → post (-100000002) h))) ∧ (¬ (0 ≤ (Int32.toInt64 x1) ∧ (Int32.toInt64 x1) ≤ (Int32.toInt64 ((h.1 94 9) - 2))) → post (-100000001) h)))
    : EX Z 4 (QI Z post) 0 h [some (.ref 94), some (.int x1), some (.int x2), none] [] := by
  refine ex_iload_n hX dX7_pour_0 rfl rfl ?_
  refine ex_i2l hX dX7_pour_1 ?_
  refine ex_lconst (v := 0) hX dX7_pour_2 rfl ?_
  refine ex_aload_n hX dX7_pour_3 rfl rfl ?_
  refine ex_get hX (.int (h.1 94 9)) FL_7_161 rfl (fun _ => rfl) dX7_pour_4 ?_
  refine ex_iconst (v := 2) hX dX7_pour_7 rfl ?_
  refine ex_isub hX dX7_pour_8 ?_
  refine ex_i2l hX dX7_pour_9 ?_
  refine ex_pIs (As := [.long (Int32.toInt64 x1), .long 0, .long (Int32.toInt64 ((h.1 94 9) - 2))]) (st := []) hX (c_X7_in (h := h)) CS_7_71 MS_X7_in rfl (by decide) rfl (Nat.le_of_ble_eq_true rfl) dX7_pour_10 ?_
  refine ex_ifneB hX 19 dX7_pour_13 (by decide) (fun c1 => ?_) (fun c1 => ?_)
  · replace w := w.1 c1
    refine ex_iload_n hX dX7_pour_19 rfl rfl ?_
    refine ex_i2l hX dX7_pour_20 ?_
    refine ex_lconst (v := 0) hX dX7_pour_21 rfl ?_
    refine ex_ldc2 hX dX7_pour_22 KL_7_230 ?_
    refine ex_pIs (As := [.long (Int32.toInt64 x2), .long 0, .long 9999]) (st := []) hX (c_X7_in (h := h)) CS_7_71 MS_X7_in rfl (by decide) rfl (Nat.le_of_ble_eq_true rfl) dX7_pour_25 ?_
    refine ex_ifneB hX 34 dX7_pour_28 (by decide) (fun c2 => ?_) (fun c2 => ?_)
    · replace w := w.1 c2
      refine ex_aload_n hX dX7_pour_34 rfl rfl ?_
      refine ex_get hX (.ref 95) FL_7_7 rfl (fun _ => rfl) dX7_pour_35 ?_
      refine ex_iload_n hX dX7_pour_38 rfl rfl ?_
      obtain ⟨q3, w⟩ := w
      refine ex_iald hX rfl q3 dX7_pour_39 ?_
      refine ex_istore_n (lv' := [some (.ref 94), some (.int x1), some (.int x2), some (.int (h.1 95 (Int32.toNatClampNeg x1)))]) hX dX7_pour_40 rfl (by decide) rfl ?_
      refine ex_aload_n hX dX7_pour_41 rfl rfl ?_
      refine ex_get hX (.ref 95) FL_7_7 rfl (fun _ => rfl) dX7_pour_42 ?_
      refine ex_iload_n hX dX7_pour_45 rfl rfl ?_
      refine ex_iload_n hX dX7_pour_46 rfl rfl ?_
      obtain ⟨q4, w⟩ := w
      refine ex_iast hX rfl q4 dX7_pour_47 ?_
      refine ex_nameH (fun u5 eu5 => ?_)
      replace w := w u5 eu5
      refine ex_iload_n hX dX7_pour_48 rfl rfl ?_
      exact ex_iret hX dX7_pour_49 rfl w
    · replace w := w.2 c2
      refine ex_ldc hX dX7_pour_31 KC_7_75 ?_
      exact ex_iret hX dX7_pour_33 rfl w
  · replace w := w.2 c1
    refine ex_ldc hX dX7_pour_16 KC_7_185 ?_
    exact ex_iret hX dX7_pour_18 rfl w

set_option maxRecDepth 100000 in
set_option maxHeartbeats 4000000 in
theorem sg_X6_seed_0 {Z : CX × GX} {post : Int32 → AH → Prop} {h : AH} {x1 : Int32} (hX : OK Z RX6 cX6_seed 3 (some .int) 0 0) 
    (w : ((0 ≤ x1 → (∀ u2 : AH, u2 = (hset h.1 27 1 x1, h.2) → post (h.1 27 1) u2)) ∧ (¬ 0 ≤ x1 → post (-100000002) h)))
    : EX Z 3 (QI Z post) 0 h [some (.ref 0), some (.int x1), none] [] := by
  refine ex_iload_n hX dX6_seed_0 rfl rfl ?_
  refine ex_ifge hX 7 dX6_seed_1 (by decide) (fun c1 => ?_) (fun c1 => ?_)
  · replace w := w.1 c1
    refine ex_aload_n hX dX6_seed_7 rfl rfl ?_
    refine ex_get hX (.ref 27) FL_6_39 rfl (fun _ => rfl) dX6_seed_8 ?_
    refine ex_get hX (.int (h.1 27 1)) FL_6_239 rfl (fun _ => rfl) dX6_seed_11 ?_
    refine ex_istore_n (lv' := [some (.ref 0), some (.int x1), some (.int (h.1 27 1))]) hX dX6_seed_14 rfl (by decide) rfl ?_
    refine ex_aload_n hX dX6_seed_15 rfl rfl ?_
    refine ex_get hX (.ref 27) FL_6_39 rfl (fun _ => rfl) dX6_seed_16 ?_
    refine ex_iload_n hX dX6_seed_19 rfl rfl ?_
    refine ex_put hX .int FL_6_239 tyX3 tyX3_ok nmX3 rfl rfl rfl rfl rfl (fun _ => (by decide : 1 < 10)) (fun _ => fs_3_1) dX6_seed_20 ?_
    refine ex_nameH (fun u2 eu2 => ?_)
    replace w := w u2 eu2
    refine ex_iload_n hX dX6_seed_23 rfl rfl ?_
    exact ex_iret hX dX6_seed_24 rfl w
  · replace w := w.2 c1
    refine ex_ldc hX dX6_seed_4 KC_6_72 ?_
    exact ex_iret hX dX6_seed_6 rfl w

set_option maxRecDepth 100000 in
set_option maxHeartbeats 4000000 in
theorem sg_X7_seed_0 {Z : CX × GX} {post : Int32 → AH → Prop} {h : AH} {x1 : Int32} (hX : OK Z RX7 cX7_seed 3 (some .int) 0 0) 
    (w : ((0 ≤ x1 → (∀ u2 : AH, u2 = (hset h.1 95 (Int32.toNatClampNeg 52) x1, h.2) → post (h.1 95 (Int32.toNatClampNeg 52)) u2)) ∧ (¬ 0 ≤ x1 → post (-100000002) h)))
    : EX Z 3 (QI Z post) 0 h [some (.ref 94), some (.int x1), none] [] := by
  refine ex_iload_n hX dX7_seed_0 rfl rfl ?_
  refine ex_ifge hX 7 dX7_seed_1 (by decide) (fun c1 => ?_) (fun c1 => ?_)
  · replace w := w.1 c1
    refine ex_aload_n hX dX7_seed_7 rfl rfl ?_
    refine ex_get hX (.ref 95) FL_7_7 rfl (fun _ => rfl) dX7_seed_8 ?_
    refine ex_bipush (v := 52) hX dX7_seed_11 rfl ?_
    refine ex_iald hX rfl (show ¬ ((52 : Int32) < 0 ∨ 800 ≤ (52 : Int32).toNatClampNeg) from by decide) dX7_seed_13 ?_
    refine ex_istore_n (lv' := [some (.ref 94), some (.int x1), some (.int (h.1 95 (Int32.toNatClampNeg 52)))]) hX dX7_seed_14 rfl (by decide) rfl ?_
    refine ex_aload_n hX dX7_seed_15 rfl rfl ?_
    refine ex_get hX (.ref 95) FL_7_7 rfl (fun _ => rfl) dX7_seed_16 ?_
    refine ex_bipush (v := 52) hX dX7_seed_19 rfl ?_
    refine ex_iload_n hX dX7_seed_21 rfl rfl ?_
    refine ex_iast hX rfl (show ¬ ((52 : Int32) < 0 ∨ 800 ≤ (52 : Int32).toNatClampNeg) from by decide) dX7_seed_22 ?_
    refine ex_nameH (fun u2 eu2 => ?_)
    replace w := w u2 eu2
    refine ex_iload_n hX dX7_seed_23 rfl rfl ?_
    exact ex_iret hX dX7_seed_24 rfl w
  · replace w := w.2 c1
    refine ex_ldc hX dX7_seed_4 KC_7_75 ?_
    exact ex_iret hX dX7_seed_6 rfl w

theorem rngL {x : Int32} {m : Nat} {M : Int64} (hM : M.toInt = m) (hm : m < 2 ^ 31) : (0 ≤ Int32.toInt64 x ∧ Int32.toInt64 x ≤ M) ↔ ∃ w : Nat, w ≤ m ∧ x = nI w := by
  rw [Int64.le_iff_toInt_le, Int64.le_iff_toInt_le, Int32.toInt_toInt64, hM, zi_zL]
  constructor
  · rintro ⟨h1, h2⟩
    obtain ⟨e1, e2, e3⟩ := zi_of h1
    exact ⟨x.toNatClampNeg, by omega, e1⟩
  · rintro ⟨w, hw, rfl⟩
    rw [nI_toInt (by omega)]
    omega
theorem rngI {x : Int32} {m : Nat} {M : Int32} (hM : M.toInt = m) (hm : m < 2 ^ 31) : (¬ x < 0 ∧ x ≤ M) ↔ ∃ w : Nat, w ≤ m ∧ x = nI w := by
  rw [Int32.lt_iff_toInt_lt, Int32.le_iff_toInt_le, hM, zi_z]
  constructor
  · rintro ⟨h1, h2⟩
    obtain ⟨e1, e2, e3⟩ := zi_of (show 0 ≤ x.toInt by omega)
    exact ⟨x.toNatClampNeg, by omega, e1⟩
  · rintro ⟨w, hw, rfl⟩
    rw [nI_toInt (by omega)]
    omega

set_option maxRecDepth 100000 in
set_option maxHeartbeats 4000000 in
theorem c_X6_width {h : AH} {a1 : Int32} {a2 : Int32}  {n : Nat} (hn : n ≤ 10) (en : h.1 (h.2 1) 0 = nI n) : CI yX6_width cX6_width 4 (some .int) 1 21 [.ref 0, .int a1, .int a2] h (fun r u => (¬ (0 ≤ a1 ∧ a1 < h.1 (h.2 1) 0 - 1) → r = -100000001 ∧ u = h) ∧ ((0 ≤ a1 ∧ a1 < h.1 (h.2 1) 0 - 1) → (¬ (¬ a2 < 0 ∧ a2 ≤ 9) → r = -100000002 ∧ u = h) ∧ ((¬ a2 < 0 ∧ a2 ≤ 9) → r = h.1 30 a1.toNatClampNeg ∧ u = (hset h.1 (27 + 3) a1.toNatClampNeg a2, h.2)))) := by
  refine CI.of [some (.ref 0), some (.int a1), some (.int a2), none] (by decide +kernel) rfl (Nat.le_of_ble_eq_true rfl) rfl (fun Z hX => ?_)
  refine sg_X6_width_0 hX ⟨fun c => ?_, fun c => ⟨fun _ => ⟨rfl, rfl⟩, fun z => absurd z c⟩⟩
  have b : vp_in a1 9 := by
    rw [en, gt1 hn] at c
    obtain ⟨k, hk, rfl⟩ := c
    exact vp_in_nI (by omega) (by omega)
  refine ⟨fun c1 => ⟨fun z => absurd c z, fun _ => ⟨fun _ => ⟨rfl, rfl⟩, fun z => absurd c1 z.1⟩⟩, fun c1 => ⟨fun c2 => ⟨b, b, fun u7 e7 => ⟨fun z => absurd c z, fun _ => ⟨fun z => absurd ⟨c1, c2⟩ z, fun _ => ⟨rfl, e7⟩⟩⟩⟩, fun c2 => ⟨fun z => absurd c z, fun _ => ⟨fun _ => ⟨rfl, rfl⟩, fun z => absurd z.2 c2⟩⟩⟩⟩

set_option maxRecDepth 100000 in
set_option maxHeartbeats 4000000 in
theorem c_X7_width {h : AH} {a1 : Int32} {a2 : Int32}  {n : Nat} (hn : n ≤ 10) (en : h.1 94 9 = nI n) : CI yX7_width cX7_width 4 (some .int) 2 46 [.ref 94, .int a1, .int a2] h (fun r u => (¬ (0 ≤ a1 ∧ a1 ≤ h.1 94 9 - 2) → r = -100000001 ∧ u = h) ∧ ((0 ≤ a1 ∧ a1 ≤ h.1 94 9 - 2) → (¬ (0 ≤ Int32.toInt64 a2 ∧ Int32.toInt64 a2 ≤ 9) → r = -100000002 ∧ u = h) ∧ ((0 ≤ Int32.toInt64 a2 ∧ Int32.toInt64 a2 ≤ 9) → r = h.1 95 (10 + a1.toNatClampNeg) ∧ u = (hset h.1 95 (10 + a1.toNatClampNeg) a2, h.2)))) := by
  refine CI.of [some (.ref 94), some (.int a1), some (.int a2), none] (by decide +kernel) rfl (Nat.le_of_ble_eq_true rfl) rfl (fun Z hX => ?_)
  refine sg_X7_width_0 hX ⟨fun c => ?_, fun c => ⟨fun _ => ⟨rfl, rfl⟩, fun z => absurd z c⟩⟩
  have b : vp_in (10 + a1) 800 ∧ Int32.toNatClampNeg (10 + a1) = 10 + a1.toNatClampNeg := by
    rw [en, gt2 hn] at c
    obtain ⟨k, hk, rfl⟩ := c
    rw [k_10, nI_add, nI_clamp (by omega), nI_clamp (by omega)]
    exact ⟨vp_in_nI (by omega) (by omega), rfl⟩
  refine ⟨fun c1 => ⟨b.1, b.1, fun u5 e5 => ⟨fun z => absurd c z, fun _ => ⟨fun z => absurd c1 z, fun _ => ⟨by rw [b.2], by rw [e5, b.2]⟩⟩⟩⟩, fun c1 => ⟨fun z => absurd c z, fun _ => ⟨fun _ => ⟨rfl, rfl⟩, fun z => absurd z c1⟩⟩⟩

theorem op_width {N : Nat} {h : AH} {k w : Int32} (hI : INV N h) : OPP yX6_width cX6_width 4 1 21 yX7_width cX7_width 4 2 46 [.int k, .int w] N h := by
  obtain ⟨n, hn, e1, e2, hP⟩ := hI.2.1.2.1
  refine ⟨_, c_X6_width hn e1, fun r u hp => ?_⟩
  have e94 : u.1 94 = h.1 94 := by
    by_cases c : 0 ≤ k ∧ k < h.1 (h.2 1) 0 - 1
    · by_cases d : ¬ w < 0 ∧ w ≤ 9
      · rw [((hp.2 c).2 d).2]; exact hs_o (by decide)
      · rw [((hp.2 c).1 d).2]
    · rw [(hp.1 c).2]
  refine ⟨_, c_X7_width (h := u) hn (by rw [e94]; exact e2), fun r2 u2 hq => ?_⟩
  rw [e1] at hp
  rw [e94, e2] at hq
  have ww : (¬ w < 0 ∧ w ≤ 9) ↔ (0 ≤ Int32.toInt64 w ∧ Int32.toInt64 w ≤ 9) := (rngI (m := 9) rfl (by decide)).trans (rngL (m := 9) rfl (by decide)).symm
  by_cases c : ∃ j, j + 1 < n ∧ k = nI j
  · have p1 := hp.2 ((gt1 hn).mpr c)
    have q1 := hq.2 ((gt2 hn).mpr c)
    by_cases d : ¬ w < 0 ∧ w ≤ 9
    · obtain ⟨f1, f2⟩ := p1.2 d
      obtain ⟨g1, g2⟩ := q1.2 (ww.mp d)
      obtain ⟨j, hj, rfl⟩ := c
      rw [nI_clamp (by omega)] at f1 f2 g1 g2
      have r10 : ∀ c, rel c (10 + j) := fun c => by unfold rel; omega
      have k95 : u.1 95 = h.1 95 := by rw [f2]; exact hs_o (by decide)
      refine ⟨?_, ?_⟩
      · rw [g1, f1, k95]
        have a1 := mkc_at (f := h.1) (s := 27) (loc_10 j (by omega)) (r10 _)
        have a2 := mk_at (f := h.1) (ρ := 0) (k := 10 + j) (r10 _)
        rw [Nat.zero_add] at a2
        rw [a2, ← hI.2.2.1.1, ← a1]
      · refine INV_put hI (loc_10 j (by omega)) r10 (by omega) (by omega) f2 g2 ?_
        obtain ⟨⟨s1, s2, s3, s4, s5⟩, s6⟩ := SV_mono (M := N + 1) hI.2.2.1.2.2 (by omega)
        have en := pn_M e2 hn
        have o : ∀ i, i ≠ 10 + j → upd (mk (ms h.1 0)) (10 + j) w i = mk (ms h.1 0) i := fun i hi => upd_ne hi
        refine ⟨⟨fun i hi => by rw [o i (by omega)]; exact s1 i hi, ?_, by rw [o 50 (by omega)]; exact s3, ?_, fun i hi => ?_⟩, by rw [o _ (by omega)]; exact s6.1, by rw [o 52 (by omega)]; exact s6.2⟩
        · rw [sumW_congr (fun i hi => o i (by omega))]; exact s2
        · obtain ⟨cc, c1, c2, c3⟩ := s4
          exact ⟨cc, c1, by rw [o 51 (by omega)]; exact c2, fun l hl => by rw [o _ (by omega), o _ (by omega)]; exact c3 l hl⟩
        · by_cases hij : i = j
          · subst hij
            rw [upd_eq]
            exact (rngI (m := 9) rfl (by decide)).mp d
          · rw [o _ (by omega)]; exact s5 i hi
    · obtain ⟨f1, f2⟩ := p1.1 d
      obtain ⟨g1, g2⟩ := q1.1 (fun z => d (ww.mpr z))
      exact ⟨by rw [g1, f1], by rw [g2, f2]; exact INV_mono hI (by omega)⟩
  · obtain ⟨f1, f2⟩ := hp.1 (fun z => c ((gt1 hn).mp z))
    obtain ⟨g1, g2⟩ := hq.1 (fun z => c ((gt2 hn).mp z))
    exact ⟨by rw [g1, f1], by rw [g2, f2]; exact INV_mono hI (by omega)⟩
