theorem flow_sea {P : PR} {lev σ : SG} {m : Nat} (hn : 2 ≤ pn P ∧ pn P ≤ 10) (hm : m ≤ pn P - 1) : flowS P lev m σ (pn P - 1) = σ (pn P - 1) := by
  induction m with
  | zero => rfl
  | succ m ih =>
    rw [flowS]
    have := ih (by omega)
    generalize flowS P lev m σ = τ at this ⊢
    rw [← this]
    unfold flow1
    rw [upd_ne (by omega), upd_ne (by omega)]
    by_cases e : pn P - 1 = m + 1
    · rw [e, upd_eq, if_pos rfl, k_0]; exact Int32.add_zero _
    · rw [upd_ne e, upd_ne (by omega), upd_ne (by omega)]
theorem hour_sea {P : PR} {σ : SG} {H hw : Int32} (hP : POK P) {B : Int} {T : Nat} (hS : SOK P B T σ) : hourS P H hw σ (pn P - 1) = σ (pn P - 1) := by
  have hn := hP.1
  obtain ⟨c, hc, h51, -⟩ := hS.2.2.2.1
  unfold hourS
  have e51 : (flowS P (levS P (setS P H hw σ)) (pn P - 1) (setS P H hw σ) 51).toNatClampNeg = c := by rw [flowS_off (by omega) (by omega), setS_off hP (by omega), h51, nI_clamp (by omega)]
  rw [upd_ne (by omega), rainS_off (by omega), e51, logsS_off (by omega) (by omega), flow_sea hn (Nat.le_refl _), setS_off hP (by omega)]
theorem hour_wid {P : PR} {σ : SG} {H hw : Int32} (hP : POK P) {B : Int} {T k : Nat} (hS : SOK P B T σ) (hk : k < 9) : hourS P H hw σ (10 + k) = setS P H hw σ (10 + k) := by
  have hn := hP.1
  obtain ⟨c, hc, h51, -⟩ := hS.2.2.2.1
  unfold hourS
  have e51 : (flowS P (levS P (setS P H hw σ)) (pn P - 1) (setS P H hw σ) 51).toNatClampNeg = c := by rw [flowS_off (by omega) (by omega), setS_off hP (by omega), h51, nI_clamp (by omega)]
  rw [upd_ne (by omega), rainS_off (by omega), e51, logsS_off (by omega) (by omega), flowS_off (by omega) (by omega)]
theorem hours_held {P : PR} {σ : SG} {H hw : Int32} {B : Int} {T : Nat} (hP : POK P) (hS : SOK P B T σ) (hh : ∃ w : Nat, w ≤ 9 ∧ hw = nI w) (h0 : ∀ j, j < pn P - 1 → heldB H j → σ (10 + j) = hw) : ∀ n : Nat, B + 9040 * n ≤ 1073741824 → T + n < 2147483646 → ∀ j, j < pn P - 1 → heldB H j → hoursS P H hw n σ (10 + j) = hw := by
  intro n
  cases n with
  | zero => exact fun _ _ => h0
  | succ n =>
    intro h1 h2 j hj hb
    have hn := hP.1
    rw [hoursS, hour_wid hP (hours_SOK (H := H) hP hS hh n (by omega) (by omega)) (by omega)]
    unfold setS
    rw [if_pos (by omega), show 10 + j - 10 = j by omega]
    exact if_pos hb
theorem held0 {k : Nat} (hk : k < 9) : ¬ heldB 0 k := (by decide +kernel : ∀ k, k < 9 → ¬ ((0 : Int32) >>> (nI k &&& 31)) &&& 1 = 1) k hk
/-- k hours of a State of the class -/
def CL (s c o : Nat) (hw : Int32) (h u : AH) (k : Nat) : Prop := FC s h u ∧ u.1 s 2 = h.1 s 2 ∧ mk (cs u.1 s) = hoursS (PC h.1 c o) (h.1 s 2) hw k (mk (cs h.1 s))
theorem CL.z {s c o : Nat} {hw : Int32} {h : AH} : CL s c o hw h h 0 := ⟨FC.rf, rfl, rfl⟩
theorem cl_call {s c o k T : Nat} {hw : Int32} {h u : AH} {B : Int} (hs : oc s = some 3) (hc : oc c = some 0) (ho : oc o = some 1) (hP : POK (PC h.1 c o)) (hS : SOK (PC h.1 c o) B T (mk (cs h.1 s))) (hwd : ∃ w : Nat, w ≤ 9 ∧ hw = nI w) (hh : ∀ j, j < pn (PC h.1 c o) - 1 → heldB (h.1 s 2) j → mk (cs h.1 s) (10 + j) = hw) (hB : B + 9040 * k ≤ 1073741824) (hT : T + k < 2147483646) (hC : CL s c o hw h u k) :
    CV yX3_passHour cX3_passHour 4 3 70 [.ref s, .ref c, .ref o] u (fun u2 => FC s u u2 ∧ u2.1 s 2 = u.1 s 2 ∧ mk (cs u2.1 s) = hourS (PC u.1 c o) (u.1 s 2) hw (mk (cs u.1 s))) := by
  obtain ⟨f1, f2, f3⟩ := hC
  have eP : PC u.1 c o = PC h.1 c o := PC_of f1 hs hc ho
  refine c_X3_passHour (T := T + k) (B := B + 9040 * k) hs hc ho (by rw [eP]; exact hP) hT hB ?_ hwd ?_
  · rw [eP, f3]; exact hours_SOK hP hS hwd k hB hT
  · rw [eP, f2, f3]; exact hours_held hP hS hwd hh k hB hT
theorem cl_next {s c o k : Nat} {hw : Int32} {h u u2 : AH} (hs : oc s = some 3) (hc : oc c = some 0) (ho : oc o = some 1) (hC : CL s c o hw h u k) (hp : FC s u u2 ∧ u2.1 s 2 = u.1 s 2 ∧ mk (cs u2.1 s) = hourS (PC u.1 c o) (u.1 s 2) hw (mk (cs u.1 s))) : CL s c o hw h u2 (k + 1) := by
  obtain ⟨f1, f2, f3⟩ := hC
  obtain ⟨g1, g2, g3⟩ := hp
  have eP : PC u.1 c o = PC h.1 c o := PC_of f1 hs hc ho
  exact ⟨f1.tr g1, g2.trans f2, by rw [g3, eP, f2, f3]; rfl⟩
/-- k hours of a row of the reference -/
def ML (ρ : Nat) (h u : AH) (k : Nat) : Prop := FM ρ h u ∧ mk (ms u.1 ρ) = hoursS (PM h.1) (h.1 94 25) (h.1 94 26) k (mk (ms h.1 ρ))
theorem ML.z {ρ : Nat} {h : AH} : ML ρ h h 0 := ⟨FM.rf, rfl⟩
theorem ml_call {ρ k T : Nat} {h u : AH} {B : Int} (hρ : ρ ≤ 600) (hP : POK (PM h.1)) (hS : SOK (PM h.1) B T (mk (ms h.1 ρ))) (hwd : ∃ w : Nat, w ≤ 9 ∧ h.1 94 26 = nI w) (hB : B + 9040 * k ≤ 1073741824) (hT : T + k < 2147483646) (hC : ML ρ h u k) :
    CV yX7_pass cX7_pass 3 3 71 [.ref 94, .int (nI ρ)] u (fun u2 => FM ρ u u2 ∧ mk (ms u2.1 ρ) = hourS (PM u.1) (u.1 94 25) (u.1 94 26) (mk (ms u.1 ρ))) := by
  obtain ⟨f1, f3⟩ := hC
  have eP : PM u.1 = PM h.1 := PM_of f1.2.1
  refine c_X7_pass (T := T + k) (B := B + 9040 * k) hρ rfl (by rw [eP]; exact hP) (by omega) ?_
  rw [eP, f3]
  exact hours_SOK hP hS hwd k hB hT
theorem ml_next {ρ k : Nat} {h u u2 : AH} (hC : ML ρ h u k) (hp : FM ρ u u2 ∧ mk (ms u2.1 ρ) = hourS (PM u.1) (u.1 94 25) (u.1 94 26) (mk (ms u.1 ρ))) : ML ρ h u2 (k + 1) := by
  obtain ⟨f1, f3⟩ := hC
  obtain ⟨g1, g3⟩ := hp
  have eP : PM u.1 = PM h.1 := PM_of f1.2.1
  exact ⟨f1.tr g1, by rw [g3, eP, f1.2.1 94 (by decide) (by decide), f3]; rfl⟩
theorem hours_sea {P : PR} {σ : SG} {H hw : Int32} {B : Int} {T : Nat} (hP : POK P) (hS : SOK P B T σ) (hh : ∃ w : Nat, w ≤ 9 ∧ hw = nI w) : ∀ n : Nat, B + 9040 * n ≤ 1073741824 → T + n < 2147483646 → hoursS P H hw n σ (pn P - 1) = σ (pn P - 1) := by
  intro n
  induction n with
  | zero => exact fun _ _ => rfl
  | succ n ih =>
    intro h1 h2
    rw [hoursS, hour_sea hP (hours_SOK (H := H) hP hS hh n (by omega) (by omega))]
    exact ih (by omega) (by omega)
theorem hour_seed {P : PR} {σ : SG} {H hw : Int32} (hP : POK P) {B : Int} {T : Nat} (hS : SOK P B T σ) : hourS P H hw σ 52 = σ 52 := by
  have hn := hP.1
  obtain ⟨c, hc, h51, -⟩ := hS.2.2.2.1
  unfold hourS
  have e51 : (flowS P (levS P (setS P H hw σ)) (pn P - 1) (setS P H hw σ) 51).toNatClampNeg = c := by rw [flowS_off (by omega) (by omega), setS_off hP (by omega), h51, nI_clamp (by omega)]
  rw [upd_ne (by omega), rainS_off (by omega), e51, logsS_off (by omega) (by omega), flowS_off (by omega) (by omega), setS_off hP (by omega)]
theorem hours_seed {P : PR} {σ : SG} {H hw : Int32} {B : Int} {T : Nat} (hP : POK P) (hS : SOK P B T σ) (hh : ∃ w : Nat, w ≤ 9 ∧ hw = nI w) : ∀ n : Nat, B + 9040 * n ≤ 1073741824 → T + n < 2147483646 → hoursS P H hw n σ 52 = σ 52 := by
  intro n
  induction n with
  | zero => exact fun _ _ => rfl
  | succ n ih =>
    intro h1 h2
    rw [hoursS, hour_seed hP (hours_SOK (H := H) hP hS hh n (by omega) (by omega))]
    exact ih (by omega) (by omega)
theorem SV_hours {P : PR} {σ : SG} {H hw : Int32} {N n : Nat} (hP : POK P) (hS : SV N P σ) (hh : ∃ w : Nat, w ≤ 9 ∧ hw = nI w) (hN : N ≤ 511) (hn : n ≤ 200) : SV (N + 1) P (hoursS P H hw n σ) :=
  ⟨SOK_mono (hours_SOK hP hS.1 hh n (by omega) (by omega)) (by omega) (by omega), by rw [hours_sea hP hS.1 hh n (by omega) (by omega)]; exact hS.2.1, by rw [hours_seed hP hS.1 hh n (by omega) (by omega)]; exact hS.2.2⟩
theorem rngh {x : Int32} {m : Nat} {M : Int32} (hM : M.toInt = m) (hm : m < 2 ^ 31) : (¬ x < 1 ∧ x ≤ M) ↔ ∃ w : Nat, 1 ≤ w ∧ w ≤ m ∧ x = nI w := by
  have h1 : (1 : Int32).toInt = 1 := rfl
  rw [Int32.lt_iff_toInt_lt, Int32.le_iff_toInt_le, hM, h1]
  constructor
  · rintro ⟨a, b⟩
    obtain ⟨e1, e2, e3⟩ := zi_of (show 0 ≤ x.toInt by omega)
    exact ⟨x.toNatClampNeg, by omega, by omega, e1⟩
  · rintro ⟨w, a, b, rfl⟩
    rw [nI_toInt (by omega)]
    omega
theorem rngH {x : Int32} {m : Nat} {M : Int64} (hM : M.toInt = m) (hm : m < 2 ^ 31) : (1 ≤ Int32.toInt64 x ∧ Int32.toInt64 x ≤ M) ↔ ∃ w : Nat, 1 ≤ w ∧ w ≤ m ∧ x = nI w := by
  have h1 : (1 : Int64).toInt = 1 := rfl
  rw [Int64.le_iff_toInt_le, Int64.le_iff_toInt_le, Int32.toInt_toInt64, hM, h1]
  constructor
  · rintro ⟨a, b⟩
    obtain ⟨e1, e2, e3⟩ := zi_of (show 0 ≤ x.toInt by omega)
    exact ⟨x.toNatClampNeg, by omega, by omega, e1⟩
  · rintro ⟨w, a, b, rfl⟩
    rw [nI_toInt (by omega)]
    omega

set_option maxRecDepth 100000 in
set_option maxHeartbeats 4000000 in
theorem sg_X6_go_0 {Z : CX × GX} {post : Int32 → AH → Prop} {h : AH} {x1 : Int32} (hX : OK Z RX6 cX6_go 3 (some .int) 4 93) 
    (w : ((x1 < 1 → post (-100000002) h) ∧ (¬ x1 < 1 → ((x1 ≤ 200 → ((¬ (h.1 (h.2 1) 0) = 0 → EX Z 3 (QI Z post) 30 h [some (.ref 0), some (.int x1), some (.int 0)] []) ∧ ((h.1 (h.2 1) 0) = 0 → post (-100000003) h))) ∧ (¬ x1 ≤ 200 → post (-100000002) h)))))
    : EX Z 3 (QI Z post) 0 h [some (.ref 0), some (.int x1), none] [] := by
  refine ex_iload_n hX dX6_go_0 rfl rfl ?_
  refine ex_iconst (v := 1) hX dX6_go_1 rfl ?_
  refine ex_icmplt hX 12 dX6_go_2 (by decide) (fun c1 => ?_) (fun c1 => ?_)
  · replace w := w.1 c1
    refine ex_ldc hX dX6_go_12 KC_6_72 ?_
    exact ex_iret hX dX6_go_14 rfl w
  · replace w := w.2 c1
    refine ex_iload_n hX dX6_go_5 rfl rfl ?_
    refine ex_sipush (v := 200) hX dX6_go_6 rfl ?_
    refine ex_icmple hX 15 dX6_go_9 (by decide) (fun c2 => ?_) (fun c2 => ?_)
    · replace w := w.1 c2
      refine ex_aload_n hX dX6_go_15 rfl rfl ?_
      refine ex_gg (fun c3 => ?_)
      refine ex_get hX (.ref (h.2 1)) FL_6_19 rfl (fun _ => rfl) dX6_go_16 ?_
      refine ex_get hX (.int (h.1 (h.2 1) 0)) FL_6_100 c3.1 (fun _ => rfl) dX6_go_19 ?_
      refine ex_ifne hX 28 dX6_go_22 (by decide) (fun c4 => ?_) (fun c4 => ?_)
      · replace w := w.1 c4
        refine ex_iconst (v := 0) hX dX6_go_28 rfl ?_
        refine ex_istore_n (lv' := [some (.ref 0), some (.int x1), some (.int 0)]) hX dX6_go_29 rfl (by decide) rfl ?_
        exact w
      · replace w := w.2 c4
        refine ex_ldc hX dX6_go_25 KC_6_103 ?_
        exact ex_iret hX dX6_go_27 rfl w
    · replace w := w.2 c2
      refine ex_ldc hX dX6_go_12 KC_6_72 ?_
      exact ex_iret hX dX6_go_14 rfl w

set_option maxRecDepth 100000 in
set_option maxHeartbeats 4000000 in
theorem sg_X6_go_30 {Z : CX × GX} {post : Int32 → AH → Prop} {h : AH} {x1 : Int32} {x2 : Int32} (hX : OK Z RX6 cX6_go 3 (some .int) 4 93) 
    (w : ((x1 ≤ x2 → post (h.1 27 0) h) ∧ (¬ x1 ≤ x2 → (∃ PP : AH → Prop, CV yX3_passHour cX3_passHour 4 3 70 [.ref 27, .ref (h.2 1), .ref (h.2 3)] h PP ∧ ∀ u : AH, PP u → EX Z 3 (QI Z post) 50 u [some (.ref 0), some (.int x1), some (.int x2)] []))))
    : EX Z 3 (QI Z post) 30 h [some (.ref 0), some (.int x1), some (.int x2)] [] := by
  refine ex_iload_n hX dX6_go_30 rfl rfl ?_
  refine ex_iload_n hX dX6_go_31 rfl rfl ?_
  refine ex_icmpge hX 56 dX6_go_32 (by decide) (fun c1 => ?_) (fun c1 => ?_)
  · replace w := w.1 c1
    refine ex_aload_n hX dX6_go_56 rfl rfl ?_
    refine ex_get hX (.ref 27) FL_6_39 rfl (fun _ => rfl) dX6_go_57 ?_
    refine ex_get hX (.int (h.1 27 0)) FL_6_108 rfl (fun _ => rfl) dX6_go_60 ?_
    exact ex_iret hX dX6_go_63 rfl w
  · replace w := w.2 c1
    refine ex_aload_n hX dX6_go_35 rfl rfl ?_
    refine ex_get hX (.ref 27) FL_6_39 rfl (fun _ => rfl) dX6_go_36 ?_
    refine ex_aload_n hX dX6_go_39 rfl rfl ?_
    refine ex_gg (fun c2 => ?_)
    refine ex_get hX (.ref (h.2 1)) FL_6_19 rfl (fun _ => rfl) dX6_go_40 ?_
    refine ex_aload_n hX dX6_go_43 rfl rfl ?_
    refine ex_gg (fun c3 => ?_)
    refine ex_get hX (.ref (h.2 3)) FL_6_29 rfl (fun _ => rfl) dX6_go_44 ?_
    obtain ⟨PP, pM, pK⟩ := w
    exact ex_callVv (ci := 3) (i := 27) (As := [.ref (h.2 1), .ref (h.2 3)]) (st := []) hX pM CS_6_162 MS_X3_passHour rfl rfl rfl (by decide) rfl (Nat.le_of_ble_eq_true rfl) dX6_go_47 (fun u hp => pK u hp)

set_option maxRecDepth 100000 in
set_option maxHeartbeats 4000000 in
theorem sg_X6_go_50 {Z : CX × GX} {post : Int32 → AH → Prop} {h : AH} {x1 : Int32} {x2 : Int32} (hX : OK Z RX6 cX6_go 3 (some .int) 4 93) 
    (w : EX Z 3 (QI Z post) 30 h [some (.ref 0), some (.int x1), some (.int (x2 + 1))] [])
    : EX Z 3 (QI Z post) 50 h [some (.ref 0), some (.int x1), some (.int x2)] [] := by
  refine ex_iinc (v := x2 + 1) (lv' := [some (.ref 0), some (.int x1), some (.int (x2 + 1))]) hX dX6_go_50 rfl rfl (by decide) rfl ?_
  refine ex_goto hX 30 dX6_go_53 (by decide) ?_
  exact w

set_option maxRecDepth 100000 in
set_option maxHeartbeats 4000000 in
theorem sg_X7_go_0 {Z : CX × GX} {post : Int32 → AH → Prop} {h : AH} {x1 : Int32} (hX : OK Z RX7 cX7_go 3 (some .int) 4 93) 
    (w : (((1 ≤ (Int32.toInt64 x1) ∧ (Int32.toInt64 x1) ≤ 200) → ((¬ (h.1 94 9) = 0 → (∀ u3 : AH, u3 = (hset h.1 94 25 0, h.2) → EX Z 3 (QI Z post) 32 u3 [some (.ref 94), some (.int x1), some (.int 0)] [])) ∧ ((h.1 94 9) = 0 → post (-100000003) h))) ∧ (¬ (1 ≤ (Int32.toInt64 x1) ∧ (Int32.toInt64 x1) ≤ 200) → post (-100000002) h)))
    : EX Z 3 (QI Z post) 0 h [some (.ref 94), some (.int x1), none] [] := by
  refine ex_iload_n hX dX7_go_0 rfl rfl ?_
  refine ex_i2l hX dX7_go_1 ?_
  refine ex_lconst (v := 1) hX dX7_go_2 rfl ?_
  refine ex_ldc2 hX dX7_go_3 KL_7_223 ?_
  refine ex_pIs (As := [.long (Int32.toInt64 x1), .long 1, .long 200]) (st := []) hX (c_X7_in (h := h)) CS_7_71 MS_X7_in rfl (by decide) rfl (Nat.le_of_ble_eq_true rfl) dX7_go_6 ?_
  refine ex_ifneB hX 15 dX7_go_9 (by decide) (fun c1 => ?_) (fun c1 => ?_)
  · replace w := w.1 c1
    refine ex_aload_n hX dX7_go_15 rfl rfl ?_
    refine ex_get hX (.int (h.1 94 9)) FL_7_161 rfl (fun _ => rfl) dX7_go_16 ?_
    refine ex_ifne hX 25 dX7_go_19 (by decide) (fun c2 => ?_) (fun c2 => ?_)
    · replace w := w.1 c2
      refine ex_aload_n hX dX7_go_25 rfl rfl ?_
      refine ex_iconst (v := 0) hX dX7_go_26 rfl ?_
      refine ex_put hX .int FL_7_195 tyX7 tyX7_ok nmX7 rfl rfl rfl rfl rfl (fun _ => (by decide : 25 < 33)) (fun _ => fs_7_25) dX7_go_27 ?_
      refine ex_nameH (fun u3 eu3 => ?_)
      replace w := w u3 eu3
      refine ex_iconst (v := 0) hX dX7_go_30 rfl ?_
      refine ex_istore_n (lv' := [some (.ref 94), some (.int x1), some (.int 0)]) hX dX7_go_31 rfl (by decide) rfl ?_
      exact w
    · replace w := w.2 c2
      refine ex_ldc hX dX7_go_22 KC_7_170 ?_
      exact ex_iret hX dX7_go_24 rfl w
  · replace w := w.2 c1
    refine ex_ldc hX dX7_go_12 KC_7_75 ?_
    exact ex_iret hX dX7_go_14 rfl w

set_option maxRecDepth 100000 in
set_option maxHeartbeats 4000000 in
theorem sg_X7_go_32 {Z : CX × GX} {post : Int32 → AH → Prop} {h : AH} {x1 : Int32} {x2 : Int32} (hX : OK Z RX7 cX7_go 3 (some .int) 4 93) 
    (w : ((x1 ≤ x2 → post (h.1 95 (Int32.toNatClampNeg 50)) h) ∧ (¬ x1 ≤ x2 → (∃ PP : AH → Prop, CV yX7_pass cX7_pass 3 3 71 [.ref 94, .int 0] h PP ∧ ∀ u : AH, PP u → EX Z 3 (QI Z post) 42 u [some (.ref 94), some (.int x1), some (.int x2)] []))))
    : EX Z 3 (QI Z post) 32 h [some (.ref 94), some (.int x1), some (.int x2)] [] := by
  refine ex_iload_n hX dX7_go_32 rfl rfl ?_
  refine ex_iload_n hX dX7_go_33 rfl rfl ?_
  refine ex_icmpge hX 48 dX7_go_34 (by decide) (fun c1 => ?_) (fun c1 => ?_)
  · replace w := w.1 c1
    refine ex_aload_n hX dX7_go_48 rfl rfl ?_
    refine ex_get hX (.ref 95) FL_7_7 rfl (fun _ => rfl) dX7_go_49 ?_
    refine ex_bipush (v := 50) hX dX7_go_52 rfl ?_
    refine ex_iald hX rfl (show ¬ ((50 : Int32) < 0 ∨ 800 ≤ (50 : Int32).toNatClampNeg) from by decide) dX7_go_54 ?_
    exact ex_iret hX dX7_go_55 rfl w
  · replace w := w.2 c1
    refine ex_aload_n hX dX7_go_37 rfl rfl ?_
    refine ex_iconst (v := 0) hX dX7_go_38 rfl ?_
    obtain ⟨PP, pM, pK⟩ := w
    exact ex_callVv (ci := 7) (i := 94) (As := [.int 0]) (st := []) hX pM CS_7_225 MS_X7_pass rfl rfl rfl (by decide) rfl (Nat.le_of_ble_eq_true rfl) dX7_go_39 (fun u hp => pK u hp)

set_option maxRecDepth 100000 in
set_option maxHeartbeats 4000000 in
theorem sg_X7_go_42 {Z : CX × GX} {post : Int32 → AH → Prop} {h : AH} {x1 : Int32} {x2 : Int32} (hX : OK Z RX7 cX7_go 3 (some .int) 4 93) 
    (w : EX Z 3 (QI Z post) 32 h [some (.ref 94), some (.int x1), some (.int (x2 + 1))] [])
    : EX Z 3 (QI Z post) 42 h [some (.ref 94), some (.int x1), some (.int x2)] [] := by
  refine ex_iinc (v := x2 + 1) (lv' := [some (.ref 94), some (.int x1), some (.int (x2 + 1))]) hX dX7_go_42 rfl rfl (by decide) rfl ?_
  refine ex_goto hX 32 dX7_go_45 (by decide) ?_
  exact w

set_option maxRecDepth 100000 in
set_option maxHeartbeats 4000000 in
theorem c_X6_go {h : AH} {a1 : Int32}  {n N : Nat} {hw : Int32} (hn : n ≤ 10) (hg : GV h) (en : h.1 (h.2 1) 0 = nI n) (hP : n = 0 ∨ POK (PC h.1 (h.2 1) (h.2 3))) (hN : N ≤ 511) (hS : SOK (PC h.1 (h.2 1) (h.2 3)) (2000000 * (N : Int)) (200 * N) (mk (cs h.1 27))) (hwd : ∃ w : Nat, w ≤ 9 ∧ hw = nI w) (h2 : h.1 27 2 = 0) : CI yX6_go cX6_go 3 (some .int) 4 93 [.ref 0, .int a1] h (fun r u => (¬ (∃ w, 1 ≤ w ∧ w ≤ 200 ∧ a1 = nI w) → r = -100000002 ∧ u = h) ∧ ∀ w, 1 ≤ w → w ≤ 200 → a1 = nI w → (n = 0 → r = -100000003 ∧ u = h) ∧ (n ≠ 0 → r = u.1 27 0 ∧ CL 27 (h.2 1) (h.2 3) hw h u w)) := by
  refine CI.of [some (.ref 0), some (.int a1), none] (by decide +kernel) rfl (Nat.le_of_ble_eq_true rfl) rfl (fun Z hX => ?_)
  generalize hpost : (fun (r : Int32) (u : AH) => (¬ (∃ w, 1 ≤ w ∧ w ≤ 200 ∧ a1 = nI w) → r = -100000002 ∧ u = h) ∧ ∀ w, 1 ≤ w → w ≤ 200 → a1 = nI w → (n = 0 → r = -100000003 ∧ u = h) ∧ (n ≠ 0 → r = u.1 27 0 ∧ CL 27 (h.2 1) (h.2 3) hw h u w)) = post
  have rg := rngh (x := a1) (m := 200) (M := 200) rfl (by decide)
  have no : (¬ (∃ w, 1 ≤ w ∧ w ≤ 200 ∧ a1 = nI w)) → post (-100000002) h := fun z => by rw [← hpost]; exact ⟨fun _ => ⟨rfl, rfl⟩, fun w w1 w2 w3 => absurd ⟨w, w1, w2, w3⟩ z⟩
  refine sg_X6_go_0 hX ⟨fun c => no (fun z => (rg.mpr z).1 c), fun c => ⟨fun c2 => ?_, fun c2 => no (fun z => c2 (rg.mpr z).2)⟩⟩
  obtain ⟨w, w1, w2, rfl⟩ := rg.mp ⟨c, c2⟩
  have en0 : (h.1 (h.2 1) 0 = 0) ↔ n = 0 := by rw [en, k_0, nI_eq (by omega) (by omega)]
  have yes : ∀ (r : Int32) (u : AH), ((n = 0 → r = -100000003 ∧ u = h) ∧ (n ≠ 0 → r = u.1 27 0 ∧ CL 27 (h.2 1) (h.2 3) hw h u w)) → post r u := fun r u hu => by
    rw [← hpost]
    exact ⟨fun z => absurd ⟨w, w1, w2, rfl⟩ z, fun v v1 v2 ev => by rw [nI_eq (by omega) (by omega)] at ev; subst ev; exact hu⟩
  refine ⟨fun c3 => ?_, fun c3 => yes _ _ ⟨fun _ => ⟨rfl, rfl⟩, fun z => absurd (en0.mp c3) z⟩⟩
  have hn0 : n ≠ 0 := fun z => c3 (en0.mpr z)
  have hP' := hP.resolve_left hn0
  have L : ∀ k, k ≤ w → ∀ u : AH, CL 27 (h.2 1) (h.2 3) hw h u k → EX Z 3 (QI Z post) 30 u [some (.ref 0), some (.int (nI w)), some (.int (nI k))] [] := by
    refine ldown _ ?_ ?_
    · intro u hC
      exact sg_X6_go_30 hX ⟨fun _ => yes _ _ ⟨fun z => absurd z hn0, fun _ => ⟨rfl, hC⟩⟩, fun z => absurd (nI_le (Nat.le_refl _) (by omega)) z⟩
    · intro k hk ih u hC
      have e2 : u.2 = h.2 := hC.1.1
      refine sg_X6_go_30 hX ⟨fun z => absurd z (nI_ge hk (by omega)), fun _ => ?_⟩
      rw [e2]
      refine ⟨_, cl_call (T := 200 * N) (B := 2000000 * (N : Int)) rfl hg.1 hg.2.2.1 hP' hS hwd (fun j hj hb => absurd (by rw [h2] at hb; exact hb) (held0 (by have := hP'.1.2; omega))) (by omega) (by omega) hC, fun u2 hu2 => sg_X6_go_50 hX ?_⟩
      rw [nI_1]
      exact ih u2 (cl_next rfl hg.1 hg.2.2.1 hC hu2)
  exact L 0 (by omega) h CL.z

set_option maxRecDepth 100000 in
set_option maxHeartbeats 4000000 in
theorem c_X7_go {h : AH} {a1 : Int32}  {n N : Nat} (hn : n ≤ 10) (en : h.1 94 9 = nI n) (hP : n = 0 ∨ POK (PM h.1)) (hN : N ≤ 511) (hS : SOK (PM h.1) (2000000 * (N : Int)) (200 * N) (mk (ms h.1 0))) (hH : HV h) : CI yX7_go cX7_go 3 (some .int) 4 93 [.ref 94, .int a1] h (fun r u => (¬ (∃ w, 1 ≤ w ∧ w ≤ 200 ∧ a1 = nI w) → r = -100000002 ∧ u = h) ∧ ∀ w, 1 ≤ w → w ≤ 200 → a1 = nI w → (n = 0 → r = -100000003 ∧ u = h) ∧ (n ≠ 0 → r = u.1 95 50 ∧ ML 0 h u w)) := by
  refine CI.of [some (.ref 94), some (.int a1), none] (by decide +kernel) rfl (Nat.le_of_ble_eq_true rfl) rfl (fun Z hX => ?_)
  generalize hpost : (fun (r : Int32) (u : AH) => (¬ (∃ w, 1 ≤ w ∧ w ≤ 200 ∧ a1 = nI w) → r = -100000002 ∧ u = h) ∧ ∀ w, 1 ≤ w → w ≤ 200 → a1 = nI w → (n = 0 → r = -100000003 ∧ u = h) ∧ (n ≠ 0 → r = u.1 95 50 ∧ ML 0 h u w)) = post
  have rg := rngH (x := a1) (m := 200) (M := 200) rfl (by decide)
  refine sg_X7_go_0 hX ⟨fun c => ?_, fun c => by rw [← hpost]; exact ⟨fun _ => ⟨rfl, rfl⟩, fun w w1 w2 w3 => absurd (rg.mpr ⟨w, w1, w2, w3⟩) c⟩⟩
  obtain ⟨w, w1, w2, rfl⟩ := rg.mp c
  have en0 : (h.1 94 9 = 0) ↔ n = 0 := by rw [en, k_0, nI_eq (by omega) (by omega)]
  have yes : ∀ (r : Int32) (u : AH), ((n = 0 → r = -100000003 ∧ u = h) ∧ (n ≠ 0 → r = u.1 95 50 ∧ ML 0 h u w)) → post r u := fun r u hu => by
    rw [← hpost]
    exact ⟨fun z => absurd ⟨w, w1, w2, rfl⟩ z, fun v v1 v2 ev => by rw [nI_eq (by omega) (by omega)] at ev; subst ev; exact hu⟩
  refine ⟨fun c3 u3 e3 => ?_, fun c3 => yes _ _ ⟨fun _ => ⟨rfl, rfl⟩, fun z => absurd (en0.mp c3) z⟩⟩
  have hn0 : n ≠ 0 := fun z => c3 (en0.mpr z)
  have hP' := hP.resolve_left hn0
  have e3h : u3 = h := by
    rw [e3]
    refine Prod.ext ?_ rfl
    funext i
    show hset h.1 94 25 0 i = h.1 i
    by_cases e : i = 94
    · subst e; rw [hset_eq]; exact upd_same hH.1
    · exact hset_ne e
  rw [e3h]
  have L : ∀ k, k ≤ w → ∀ u : AH, ML 0 h u k → EX Z 3 (QI Z post) 32 u [some (.ref 94), some (.int (nI w)), some (.int (nI k))] [] := by
    refine ldown _ ?_ ?_
    · intro u hC
      exact sg_X7_go_32 hX ⟨fun _ => yes _ _ ⟨fun z => absurd z hn0, fun _ => ⟨rfl, hC⟩⟩, fun z => absurd (nI_le (Nat.le_refl _) (by omega)) z⟩
    · intro k hk ih u hC
      refine sg_X7_go_32 hX ⟨fun z => absurd z (nI_ge hk (by omega)), fun _ => ⟨_, ml_call (ρ := 0) (T := 200 * N) (B := 2000000 * (N : Int)) (by omega) hP' hS hH.2 (by omega) (by omega) hC, fun u2 hu2 => sg_X7_go_42 hX ?_⟩⟩
      rw [nI_1]
      exact ih u2 (ml_next hC hu2)
  exact L 0 (by omega) h ML.z

theorem PM_ML {ρ k : Nat} {h u : AH} (hC : ML ρ h u k) : PM u.1 = PM h.1 := PM_of hC.1.2.1
theorem op_go {N : Nat} {h : AH} {x : Int32} (hI : INV N h) (hNN : N ≤ 511) : OPP yX6_go cX6_go 3 4 93 yX7_go cX7_go 3 4 93 [.int x] N h := by
  obtain ⟨n, hn, e1, e2, hP⟩ := hI.2.1.2.1
  have eR := hI.2.1.1
  have eN := hI.2.2.1.1
  have hS := hI.2.2.1.2.2
  have hH := hI.2.2.2.2.2.2.2
  refine ⟨_, c_X6_go (N := N) (hw := h.1 94 26) hn hI.1 e1 (by rw [eR]; exact hP) hNN (by rw [eR, eN]; exact hS.1) hH.2 hI.2.2.1.2.1, fun r u hp => ?_⟩
  by_cases d : ∃ w, 1 ≤ w ∧ w ≤ 200 ∧ x = nI w
  · obtain ⟨w, w1, w2, ew⟩ := d
    obtain ⟨p1, p2⟩ := hp.2 w w1 w2 ew
    by_cases d2 : n = 0
    · obtain ⟨f1, f2⟩ := p1 d2
      subst f2
      refine ⟨_, c_X7_go (N := N) hn e2 hP hNN hS.1 hH, fun r2 u2 hq => ?_⟩
      obtain ⟨g1, g2⟩ := (hq.2 w w1 w2 ew).1 d2
      exact ⟨by rw [g1, f1], by rw [g2]; exact INV_mono hI (by omega)⟩
    · obtain ⟨f1, f2⟩ := p2 d2
      have k94 : u.1 94 = h.1 94 := f2.1.2 94 (by omega)
      have k95 : u.1 95 = h.1 95 := f2.1.2 95 (by omega)
      have mu : ms u.1 0 = ms h.1 0 := by unfold ms; rw [k95]
      have pu : PM u.1 = PM h.1 := PM_eq (by rw [k94]) (by rw [k94]) (fun i hi => f2.1.2 i (by omega))
      have hHu : HV u := by unfold HV; rw [k94]; exact hH
      refine ⟨_, c_X7_go (h := u) (N := N) hn (by rw [k94]; exact e2) (by rw [pu]; exact hP) hNN (by rw [pu, mu]; exact hS.1) hHu, fun r2 u2 hq => ?_⟩
      obtain ⟨g1, g2⟩ := (hq.2 w w1 w2 ew).2 d2
      have f3 := f2.2.2
      rw [eR, eN, hI.2.2.1.2.1] at f3
      have g3 := g2.2
      rw [pu, mu, k94, hH.1] at g3
      have m1 := m0_at (f := u2.1) (k := 50) (by unfold rel; omega)
      have m2 := c50 (f := u.1) (s := 27)
      have eo : ∀ i, i ≠ 95 → i ≠ 108 → (i < 27 ∨ 42 ≤ i) → u2.1 i = h.1 i := fun i a b c => by rw [g2.1.2.1 i a b]; exact f2.1.2 i (by omega)
      have es : ∀ i, 27 ≤ i → i < 42 → u2.1 i = u.1 i := fun i a b => g2.1.2.1 i (by omega) (by omega)
      have pu2 : PM u2.1 = PM h.1 := by rw [PM_of g2.1.2.1, pu]
      refine ⟨by rw [g1, f1, m1, ← m2, f3, g3], INV_of hI (by rw [g2.1.1, f2.1.1]) (fun i hi => eo i (by omega) (by omega) (by omega)) (fun k _ _ => by rw [eo 94 (by omega) (by omega) (by omega)]) (fun j hj => by rw [g2.1.2.2 j (by omega), k95]) ?_ ⟨?_, ?_, ?_⟩⟩
      · unfold HV; rw [eo 94 (by omega) (by omega) (by omega)]; exact hH
      · rw [cs_same (fun i a b => es i a (by omega)), f3, g3]
      · rw [es 27 (by omega) (by omega), f2.2.1]; exact hI.2.2.1.2.1
      · rw [pu2, g3]; exact SV_hours (hP.resolve_left d2) hS hH.2 hNN w2
  · obtain ⟨f1, f2⟩ := hp.1 d
    subst f2
    refine ⟨_, c_X7_go (N := N) hn e2 hP hNN hS.1 hH, fun r2 u2 hq => ?_⟩
    obtain ⟨g1, g2⟩ := hq.1 d
    exact ⟨by rw [g1, f1], by rw [g2]; exact INV_mono hI (by omega)⟩
