/-! WHAT IS TRIED: the trial State of the class, the second row of the reference -/
def T3 (A B : Prop) (c1 c2 R r : Int32) : Prop := (¬ A → r = c1) ∧ (A → ¬ B → r = c2) ∧ (A → B → r = R)
theorem T3.a {A B : Prop} {c1 c2 R : Int32} (h : ¬ A) : T3 A B c1 c2 R c1 := ⟨fun _ => rfl, fun z => absurd z h, fun z => absurd z h⟩
theorem T3.b {A B : Prop} {c1 c2 R : Int32} (h : A) (h2 : ¬ B) : T3 A B c1 c2 R c2 := ⟨fun z => absurd h z, fun _ _ => rfl, fun _ z => absurd z h2⟩
theorem T3.c {A B : Prop} {c1 c2 R r : Int32} (h : A) (h2 : B) (e : r = R) : T3 A B c1 c2 R r := ⟨fun z => absurd h z, fun _ z => absurd h2 z, fun _ _ => e⟩
theorem T3.det {A B : Prop} {c1 c2 R r r2 : Int32} (h : T3 A B c1 c2 R r) (k : T3 A B c1 c2 R r2) : r2 = r := by
  by_cases a : A
  · by_cases b : B
    · rw [h.2.2 a b, k.2.2 a b]
    · rw [h.2.1 a b, k.2.1 a b]
  · rw [h.1 a, k.1 a]
def TC (h u : AH) : Prop := u.2 = h.2 ∧ ∀ i, (i < 42 ∨ (57 ≤ i ∧ i < 89) ∨ 93 ≤ i) → u.1 i = h.1 i
theorem TC.rf {h : AH} : TC h h := ⟨rfl, fun _ _ => rfl⟩
theorem TC.tr {h u v : AH} (a : TC h u) (b : TC u v) : TC h v := ⟨b.1.trans a.1, fun i hi => (b.2 i hi).trans (a.2 i hi)⟩
theorem TC.of {h u : AH} (a : FC 42 h u) : TC h u := ⟨a.1, fun i hi => a.2 i (by omega)⟩
theorem TC.set {h : AH} {i k : Nat} {v : Int32} (hi : (42 ≤ i ∧ i < 57) ∨ (89 ≤ i ∧ i < 93)) : TC h (hset h.1 i k v, h.2) := ⟨rfl, fun j hj => hset_ne (by omega)⟩
def TF (h v : AH) : Prop := v.2 = h.2 ∧ (∀ i, i ≠ 94 → i ≠ 95 → (i < 108 ∨ 111 < i) → v.1 i = h.1 i) ∧ (∀ k, k ≠ 25 → k ≠ 26 → v.1 94 k = h.1 94 k) ∧ ∀ j, (j < 200 ∨ 400 ≤ j) → v.1 95 j = h.1 95 j
theorem TF.rf {h : AH} : TF h h := ⟨rfl, fun _ _ _ _ => rfl, fun _ _ _ => rfl, fun _ _ => rfl⟩
theorem TF.tr {h u v : AH} (a : TF h u) (b : TF u v) : TF h v := ⟨b.1.trans a.1, fun i h1 h2 h3 => (b.2.1 i h1 h2 h3).trans (a.2.1 i h1 h2 h3), fun k h1 h2 => (b.2.2.1 k h1 h2).trans (a.2.2.1 k h1 h2), fun j hj => (b.2.2.2 j hj).trans (a.2.2.2 j hj)⟩
theorem TF.of {h u : AH} (a : FM 200 h u) : TF h u := ⟨a.1, fun i h1 h2 h3 => a.2.1 i h2 (by omega), fun k _ _ => by rw [a.2.1 94 (by omega) (by omega)], fun j hj => a.2.2 j (by omega)⟩
theorem TF.set {h : AH} {i k : Nat} {v : Int32} (hi : 108 ≤ i ∧ i ≤ 111) : TF h (hset h.1 i k v, h.2) := ⟨rfl, fun j h1 h2 h3 => hset_ne (by omega), fun j _ _ => by show hset h.1 i k v 94 j = _; rw [hset_ne (by omega)], fun j _ => by show hset h.1 i k v 95 j = _; rw [hset_ne (by omega)]⟩
theorem TF.held {h : AH} {k : Nat} {v : Int32} (hk : k = 25 ∨ k = 26) : TF h (hset h.1 94 k v, h.2) := ⟨rfl, fun j h1 _ _ => hset_ne h1, fun j a b => hs_i (by omega), fun j _ => by show hset h.1 94 k v 95 j = _; rw [hset_ne (by omega)]⟩
theorem TF_P {h v : AH} (a : TF h v) : PM v.1 = PM h.1 := PM_eq (a.2.2.1 9 (by omega) (by omega)) (a.2.2.1 14 (by omega) (by omega)) (fun i hi => a.2.1 i (by omega) (by omega) (by omega))
theorem TF_m {h v : AH} (a : TF h v) : mk (ms v.1 0) = mk (ms h.1 0) := ms_same (fun j h1 h2 => a.2.2.2 j (by omega))
theorem TC_P {h v : AH} (a : TC h v) : PM v.1 = PM h.1 := PM_eq (by rw [a.2 94 (by omega)]) (by rw [a.2 94 (by omega)]) (fun i hi => a.2 i (by omega))
theorem TC_m {h v : AH} (a : TC h v) : ms v.1 0 = ms h.1 0 := by unfold ms; rw [a.2 95 (by omega)]
def TM (h v : AH) : Prop := TF h v ∧ HV v
theorem INV_at {N M : Nat} {h u : AH} (hM : N ≤ M) (hI : INV N h) (e2 : u.2 = h.2) (eC : ∀ i, (i < 27 ∨ (57 ≤ i ∧ i < 89) ∨ i = 93 ∨ (96 ≤ i ∧ i < 108) ∨ i = 112) → u.1 i = h.1 i) (e94 : ∀ k, k ≠ 25 → k ≠ 26 → u.1 94 k = h.1 94 k) (e95 : ∀ j, 400 ≤ j → u.1 95 j = h.1 95 j) (hH : HV u) (hN : NV M u) : INV M u := by
  obtain ⟨g, r, n, i, t, f, b, -⟩ := hI
  have eP : PM u.1 = PM h.1 := PM_eq (e94 9 (by omega) (by omega)) (e94 14 (by omega) (by omega)) (fun i hi => eC i (by omega))
  have eQ : PC u.1 (h.2 1) (h.2 3) = PC h.1 (h.2 1) (h.2 3) := PC_eq g.1 g.2.2.1 (fun i hi => eC i (by omega))
  have b1 := oc0 g.1
  have b3 := oc1 g.2.2.1
  refine ⟨by unfold GV; rw [e2]; exact g, ?_, hN, ?_, ?_, ?_, ?_, hH⟩
  · unfold RV
    rw [e2, eP, eQ, eC (h.2 1) (by omega), eC (h.2 3) (by omega), e94 9 (by omega) (by omega), e94 14 (by omega) (by omega)]
    exact r
  · intro k hk
    have e1 : mk (cs u.1 (57 + 15 * k)) = mk (cs h.1 (57 + 15 * k)) := by rw [cs_same (fun i h1 h2 => eC i (by omega))]
    have e3 : mk (ms u.1 (400 + 200 * k)) = mk (ms h.1 (400 + 200 * k)) := ms_same (fun j h1 h2 => e95 j (by omega))
    rw [eC 88 (by omega), eC 96 (by omega), eC (57 + 15 * k) (by omega), e1, e3, eP]
    exact IV_mono i hM k hk
  · unfold TV
    rw [eC 1 (by omega), eC 2 (by omega), eC 107 (by omega), e94 17 (by omega) (by omega)]
    exact t
  · unfold FV
    rw [eC 0 (by omega), e94 22 (by omega) (by omega)]
    exact f
  · unfold BV
    rw [eC 0 (by omega), eC 93 (by omega), eC 112 (by omega), e94 32 (by omega) (by omega)]
    exact b
theorem TC_INV {N : Nat} {h u : AH} (hI : INV N h) (a : TC h u) : INV N u := by
  refine INV_at (Nat.le_refl _) hI a.1 (fun i hi => a.2 i (by omega)) (fun k _ _ => by rw [a.2 94 (by omega)]) (fun j _ => by rw [a.2 95 (by omega)]) ?_ ⟨?_, ?_, ?_⟩
  · unfold HV; rw [a.2 94 (by omega)]; exact hI.2.2.2.2.2.2.2
  · rw [cs_same (fun i h1 h2 => a.2 i (by omega)), TC_m a]; exact hI.2.2.1.1
  · rw [a.2 27 (by omega)]; exact hI.2.2.1.2.1
  · rw [TC_P a, TC_m a]; exact hI.2.2.1.2.2
theorem TM_INV {N : Nat} {h u : AH} (hI : INV N h) (a : TM h u) : INV (N + 1) u := by
  obtain ⟨a, hH⟩ := a
  refine INV_at (by omega) hI a.1 (fun i hi => a.2.1 i (by omega) (by omega) (by omega)) a.2.2.1 (fun j hj => a.2.2.2 j (by omega)) hH (NV_mono ⟨?_, ?_, ?_⟩ (Nat.le_succ N))
  · rw [cs_same (fun i h1 h2 => a.2.1 i (by omega) (by omega) (by omega)), TF_m a]; exact hI.2.2.1.1
  · rw [a.2.1 27 (by omega) (by omega) (by omega)]; exact hI.2.2.1.2.1
  · rw [TF_P a, TF_m a]; exact hI.2.2.1.2.2
theorem OPP.trial {yc : MethodName} {cc : ByteArray} {nc fc lc : Nat} {ym : MethodName} {cm : ByteArray} {nm fm lm : Nat} {Ar : List Value} {N : Nat} {h : AH} {A B : Prop} {c1 c2 R : Int32} (hI : INV N h) (a : CI yc cc nc (some .int) fc lc (.ref 0 :: Ar) h (fun r u => T3 A B c1 c2 R r ∧ TC h u)) (b : ∀ u, INV N u → PM u.1 = PM h.1 → ms u.1 0 = ms h.1 0 → u.1 94 = h.1 94 → u.1 112 = h.1 112 → CI ym cm nm (some .int) fm lm (.ref 94 :: Ar) u (fun r v => T3 A B c1 c2 R r ∧ TM u v)) : OPP yc cc nc fc lc ym cm nm fm lm Ar N h := by
  refine ⟨_, a, fun r u hp => ?_⟩
  exact ⟨_, b u (TC_INV hI hp.2) (TC_P hp.2) (TC_m hp.2) (hp.2.2 94 (by omega)) (hp.2.2 112 (by omega)), fun r2 u2 hq => ⟨T3.det hp.1 hq.1, TM_INV (TC_INV hI hp.2) hq.2⟩⟩
/-! a gate is held -/
theorem planS_upd {P : PR} {σ : SG} {v : Int32} {k : Nat} (hk : k ≠ 50) : ∀ m j, j ≠ k → planS P m (upd σ k v) j = planS P m σ j := by
  intro m
  induction m with
  | zero => exact fun j hj => upd_ne hj
  | succ m ih =>
    intro j hj
    unfold planS
    rw [upd_ne (Ne.symm hk)]
    by_cases c : poh P m = σ 50
    · rw [if_pos c, if_pos c]
      by_cases d : j = 10 + (pog P m).toNatClampNeg
      · rw [d, upd_eq, upd_eq]
      · rw [upd_ne d, upd_ne d]; exact ih j hj
    · rw [if_neg c, if_neg c]; exact ih j hj
theorem hourS_hold {P : PR} {H hw : Int32} {σ : SG} {k : Nat} (hn : pn P ≤ 10) (hk : k < pn P - 1) (hb : heldB H k) : hourS P H hw (upd σ (10 + k) hw) = hourS P H hw σ := by
  have e : setS P H hw (upd σ (10 + k) hw) = setS P H hw σ := by
    funext j
    unfold setS
    by_cases c : 10 ≤ j ∧ j < 10 + (pn P - 1)
    · rw [if_pos c, if_pos c]
      by_cases d : j = 10 + k
      · have hb2 : heldB H (j - 10) := by rw [show j - 10 = k by omega]; exact hb
        rw [if_pos hb2, if_pos hb2]
      · rw [planS_upd (by omega) _ _ d]
    · rw [if_neg c, if_neg c, planS_upd (by omega) _ _ (by omega)]
  unfold hourS
  rw [e]
theorem hoursS_hold {P : PR} {H hw : Int32} {σ : SG} {k : Nat} (hn : pn P ≤ 10) (hk : k < pn P - 1) (hb : heldB H k) : ∀ n : Nat, 1 ≤ n → hoursS P H hw n (upd σ (10 + k) hw) = hoursS P H hw n σ := by
  intro n
  induction n with
  | zero => intro z; omega
  | succ n ih =>
    intro _
    rw [hoursS, hoursS]
    by_cases c : n = 0
    · subst c; exact hourS_hold hn hk hb
    · rw [ih (by omega)]
/-! the class -/
def CT (P : PR) (σ : SG) (H hw : Int32) (h v : AH) (k : Nat) : Prop := TC h v ∧ v.1 42 2 = H ∧ mk (cs v.1 42) = hoursS P H hw k σ
/-- what is tried may be tried -/
def TOK (N : Nat) (P : PR) (σ : SG) (H hw : Int32) : Prop := POK P ∧ SOK P (2000000 * (N : Int)) (200 * N) σ ∧ (∃ w : Nat, w ≤ 9 ∧ hw = nI w) ∧ ∀ j, j < pn P - 1 → heldB H j → σ (10 + j) = hw
theorem TOK_SOK {N k : Nat} {P : PR} {σ : SG} {H hw : Int32} (hT : TOK N P σ H hw) (hN : N ≤ 511) (hk : k ≤ 200) : SOK P (2000000 * (N : Int) + 9040 * k) (200 * N + k) (hoursS P H hw k σ) := hours_SOK hT.1 hT.2.1 hT.2.2.1 k (by omega) (by omega)
theorem ct_call {N k : Nat} {P : PR} {σ : SG} {H hw : Int32} {h v : AH} (hI : INV N h) (hN : N ≤ 511) (hk : k < 200) (eP : PM h.1 = P) (hT : TOK N P σ H hw) (hC : CT P σ H hw h v k) : ∃ PP : AH → Prop, CV yX3_passHour cX3_passHour 4 3 70 [.ref 42, .ref (h.2 1), .ref (h.2 3)] v PP ∧ ∀ u, PP u → CT P σ H hw h u (k + 1) := by
  obtain ⟨c1, c2, c3⟩ := hC
  have g := hI.1
  have b1 := oc0 g.1
  have b3 := oc1 g.2.2.1
  have eQ : PC v.1 (h.2 1) (h.2 3) = P := by rw [PC_eq g.1 g.2.2.1 (fun i hi => c1.2 i (by omega)), hI.2.1.1, eP]
  refine ⟨_, c_X3_passHour (T := 200 * N + k) (B := 2000000 * (N : Int) + 9040 * k) (hw := hw) rfl g.1 g.2.2.1 (by rw [eQ]; exact hT.1) (by omega) (by omega) (by rw [eQ, c3]; exact TOK_SOK hT hN (by omega)) hT.2.2.1 ?_, fun u hu => ?_⟩
  · rw [eQ, c2, c3]; exact hours_held hT.1 hT.2.1 hT.2.2.1 hT.2.2.2 k (by omega) (by omega)
  · rw [eQ, c2, c3] at hu
    exact ⟨c1.tr (TC.of hu.1), hu.2.1, hu.2.2⟩
theorem ct_begin {N : Nat} {h : AH} (hI : INV N h) : ∃ PP : AH → Prop, CV yX3_becomeAs cX3_becomeAs 2 3 102 [.ref 42, .ref 27] h PP ∧ ∀ u, PP u → ∀ hw, CT (PM h.1) (mk (ms h.1 0)) 0 hw h u 0 :=
  ⟨_, c_X3_becomeAs rfl rfl (by decide), fun u hu hw => ⟨TC.of hu.1, by rw [hu.2.2]; exact hI.2.2.1.2.1, by rw [hu.2.1]; exact hI.2.2.1.1⟩⟩
theorem TOK0 {N : Nat} {h : AH} {hw : Int32} (hI : INV N h) (hP : POK (PM h.1)) (hh : ∃ w : Nat, w ≤ 9 ∧ hw = nI w) : TOK N (PM h.1) (mk (ms h.1 0)) 0 hw :=
  ⟨hP, hI.2.2.1.2.2.1, hh, fun j hj hb => absurd hb (held0 (by have := hP.1.2; omega))⟩
/-! the reference -/
def MT (P : PR) (σ : SG) (H hw : Int32) (h v : AH) (k : Nat) : Prop := TF h v ∧ v.1 94 25 = H ∧ v.1 94 26 = hw ∧ mk (ms v.1 200) = hoursS P H hw k σ
def UOK (N : Nat) (P : PR) (σ : SG) (hw : Int32) : Prop := POK P ∧ SOK P (2000000 * (N : Int)) (200 * N) σ ∧ ∃ w : Nat, w ≤ 9 ∧ hw = nI w
theorem mt_call {N k : Nat} {P : PR} {σ : SG} {H hw : Int32} {h v : AH} (hN : N ≤ 511) (hk : k < 200) (eP : PM h.1 = P) (hT : UOK N P σ hw) (hC : MT P σ H hw h v k) : ∃ PP : AH → Prop, CV yX7_pass cX7_pass 3 3 71 [.ref 94, .int 200] v PP ∧ ∀ u, PP u → MT P σ H hw h u (k + 1) ∧ FM 200 v u := by
  obtain ⟨c1, c2, c3, c4⟩ := hC
  have eQ : PM v.1 = P := by rw [TF_P c1, eP]
  refine ⟨_, c_X7_pass (ρ := 200) (T := 200 * N + k) (B := 2000000 * (N : Int) + 9040 * k) (by omega) rfl (by rw [eQ]; exact hT.1) (by omega) (by rw [eQ, c4]; exact hours_SOK hT.1 hT.2.1 hT.2.2 k (by omega) (by omega)), fun u hu => ?_⟩
  obtain ⟨d1, d2⟩ := hu
  rw [eQ, c2, c3, c4] at d2
  have e94 := d1.2.1 94 (by omega) (by omega)
  exact ⟨⟨c1.tr (TF.of d1), by rw [e94, c2], by rw [e94, c3], d2⟩, d1⟩

set_option maxRecDepth 100000 in
set_option maxHeartbeats 4000000 in
theorem sg_X6_passTrialHours_0 {Z : CX × GX} {post : AH → Prop} {h : AH} {x1 : Int32} (hX : OK Z RX6 cX6_passTrialHours 3 none 4 93) 
    (w : EX Z 3 (QV Z post) 2 h [some (.ref 0), some (.int x1), some (.int 0)] [])
    : EX Z 3 (QV Z post) 0 h [some (.ref 0), some (.int x1), none] [] := by
  refine ex_iconst (v := 0) hX dX6_passTrialHours_0 rfl ?_
  refine ex_istore_n (lv' := [some (.ref 0), some (.int x1), some (.int 0)]) hX dX6_passTrialHours_1 rfl (by decide) rfl ?_
  exact w

set_option maxRecDepth 100000 in
set_option maxHeartbeats 4000000 in
theorem sg_X6_passTrialHours_2 {Z : CX × GX} {post : AH → Prop} {h : AH} {x1 : Int32} {x2 : Int32} (hX : OK Z RX6 cX6_passTrialHours 3 none 4 93) 
    (w : ((x1 ≤ x2 → post h) ∧ (¬ x1 ≤ x2 → (∃ PP : AH → Prop, CV yX3_passHour cX3_passHour 4 3 70 [.ref 42, .ref (h.2 1), .ref (h.2 3)] h PP ∧ ∀ u : AH, PP u → EX Z 3 (QV Z post) 22 u [some (.ref 0), some (.int x1), some (.int x2)] []))))
    : EX Z 3 (QV Z post) 2 h [some (.ref 0), some (.int x1), some (.int x2)] [] := by
  refine ex_iload_n hX dX6_passTrialHours_2 rfl rfl ?_
  refine ex_iload_n hX dX6_passTrialHours_3 rfl rfl ?_
  refine ex_icmpge hX 28 dX6_passTrialHours_4 (by decide) (fun c1 => ?_) (fun c1 => ?_)
  · replace w := w.1 c1
    exact ex_vret hX dX6_passTrialHours_28 w
  · replace w := w.2 c1
    refine ex_aload_n hX dX6_passTrialHours_7 rfl rfl ?_
    refine ex_get hX (.ref 42) FL_6_43 rfl (fun _ => rfl) dX6_passTrialHours_8 ?_
    refine ex_aload_n hX dX6_passTrialHours_11 rfl rfl ?_
    refine ex_gg (fun c2 => ?_)
    refine ex_get hX (.ref (h.2 1)) FL_6_19 rfl (fun _ => rfl) dX6_passTrialHours_12 ?_
    refine ex_aload_n hX dX6_passTrialHours_15 rfl rfl ?_
    refine ex_gg (fun c3 => ?_)
    refine ex_get hX (.ref (h.2 3)) FL_6_29 rfl (fun _ => rfl) dX6_passTrialHours_16 ?_
    obtain ⟨PP, pM, pK⟩ := w
    exact ex_callVv (ci := 3) (i := 42) (As := [.ref (h.2 1), .ref (h.2 3)]) (st := []) hX pM CS_6_162 MS_X3_passHour rfl rfl rfl (by decide) rfl (Nat.le_of_ble_eq_true rfl) dX6_passTrialHours_19 (fun u hp => pK u hp)

set_option maxRecDepth 100000 in
set_option maxHeartbeats 4000000 in
theorem sg_X6_passTrialHours_22 {Z : CX × GX} {post : AH → Prop} {h : AH} {x1 : Int32} {x2 : Int32} (hX : OK Z RX6 cX6_passTrialHours 3 none 4 93) 
    (w : EX Z 3 (QV Z post) 2 h [some (.ref 0), some (.int x1), some (.int (x2 + 1))] [])
    : EX Z 3 (QV Z post) 22 h [some (.ref 0), some (.int x1), some (.int x2)] [] := by
  refine ex_iinc (v := x2 + 1) (lv' := [some (.ref 0), some (.int x1), some (.int (x2 + 1))]) hX dX6_passTrialHours_22 rfl rfl (by decide) rfl ?_
  refine ex_goto hX 2 dX6_passTrialHours_25 (by decide) ?_
  exact w

set_option maxRecDepth 100000 in
set_option maxHeartbeats 4000000 in
theorem sg_X7_tryHours_0 {Z : CX × GX} {post : AH → Prop} {h : AH} {x1 : Int32} {x2 : Int32} {x3 : Int32} (hX : OK Z RX7 cX7_tryHours 6 none 4 93) 
    (w : (∀ u1 : AH, u1 = (hset h.1 94 25 x2, h.2) → (∀ u2 : AH, u2 = (hset u1.1 94 26 x3, u1.2) → (∃ PP : AH → Prop, CV yX7_copy cX7_copy 4 0 0 [.ref 94, .int 0, .int 200] u2 PP ∧ ∀ u : AH, PP u → EX Z 6 (QV Z post) 18 u [some (.ref 94), some (.int x1), none, none, none, none] []))))
    : EX Z 6 (QV Z post) 0 h [some (.ref 94), some (.int x1), some (.int x2), some (.int x3), none, none] [] := by
  refine ex_aload_n hX dX7_tryHours_0 rfl rfl ?_
  refine ex_iload_n hX dX7_tryHours_1 rfl rfl ?_
  refine ex_put hX .int FL_7_195 tyX7 tyX7_ok nmX7 rfl rfl rfl rfl rfl (fun _ => (by decide : 25 < 33)) (fun _ => fs_7_25) dX7_tryHours_2 ?_
  refine ex_nameH (fun u1 eu1 => ?_)
  replace w := w u1 eu1
  refine ex_aload_n hX dX7_tryHours_5 rfl rfl ?_
  refine ex_iload_n hX dX7_tryHours_6 rfl rfl ?_
  refine ex_put hX .int FL_7_198 tyX7 tyX7_ok nmX7 rfl rfl rfl rfl rfl (fun _ => (by decide : 26 < 33)) (fun _ => fs_7_26) dX7_tryHours_7 ?_
  refine ex_nameH (fun u2 eu2 => ?_)
  replace w := w u2 eu2
  refine ex_aload_n hX dX7_tryHours_10 rfl rfl ?_
  refine ex_iconst (v := 0) hX dX7_tryHours_11 rfl ?_
  refine ex_sipush (v := 200) hX dX7_tryHours_12 rfl ?_
  obtain ⟨PP, pM, pK⟩ := w
  exact ex_callVv (ci := 7) (i := 94) (As := [.int 0, .int 200]) (st := []) hX pM CS_7_248 MS_X7_copy rfl rfl rfl (by decide) rfl (Nat.le_of_ble_eq_true rfl) dX7_tryHours_15 (fun u hp => ex_forget [some (.ref 94), some (.int x1), none, none, none, none] ⟨rfl, ⟨rfl, trivial⟩⟩ (pK u hp))

set_option maxRecDepth 100000 in
set_option maxHeartbeats 4000000 in
theorem sg_X7_tryHours_18 {Z : CX × GX} {post : AH → Prop} {h : AH} {x1 : Int32} (hX : OK Z RX7 cX7_tryHours 6 none 4 93) 
    (w : EX Z 6 (QV Z post) 21 h [some (.ref 94), some (.int x1), none, none, some (.int 0), none] [])
    : EX Z 6 (QV Z post) 18 h [some (.ref 94), some (.int x1), none, none, none, none] [] := by
  refine ex_iconst (v := 0) hX dX7_tryHours_18 rfl ?_
  refine ex_istore (lv' := [some (.ref 94), some (.int x1), none, none, some (.int 0), none]) hX dX7_tryHours_19 (by decide) rfl ?_
  exact w

set_option maxRecDepth 100000 in
set_option maxHeartbeats 4000000 in
theorem sg_X7_tryHours_21 {Z : CX × GX} {post : AH → Prop} {h : AH} {x1 : Int32} {x4 : Int32} (hX : OK Z RX7 cX7_tryHours 6 none 4 93) 
    (w : ((x1 ≤ x4 → (∀ u2 : AH, u2 = (hset h.1 94 25 0, h.2) → post u2)) ∧ (¬ x1 ≤ x4 → (∃ PP : AH → Prop, CV yX7_pass cX7_pass 3 3 71 [.ref 94, .int 200] h PP ∧ ∀ u : AH, PP u → EX Z 6 (QV Z post) 34 u [some (.ref 94), some (.int x1), none, none, some (.int x4), none] []))))
    : EX Z 6 (QV Z post) 21 h [some (.ref 94), some (.int x1), none, none, some (.int x4), none] [] := by
  refine ex_iload hX dX7_tryHours_21 rfl ?_
  refine ex_iload_n hX dX7_tryHours_23 rfl rfl ?_
  refine ex_icmpge hX 108 dX7_tryHours_24 (by decide) (fun c1 => ?_) (fun c1 => ?_)
  · replace w := w.1 c1
    refine ex_aload_n hX dX7_tryHours_108 rfl rfl ?_
    refine ex_iconst (v := 0) hX dX7_tryHours_109 rfl ?_
    refine ex_put hX .int FL_7_195 tyX7 tyX7_ok nmX7 rfl rfl rfl rfl rfl (fun _ => (by decide : 25 < 33)) (fun _ => fs_7_25) dX7_tryHours_110 ?_
    refine ex_nameH (fun u2 eu2 => ?_)
    replace w := w u2 eu2
    exact ex_vret hX dX7_tryHours_113 w
  · replace w := w.2 c1
    refine ex_aload_n hX dX7_tryHours_27 rfl rfl ?_
    refine ex_sipush (v := 200) hX dX7_tryHours_28 rfl ?_
    obtain ⟨PP, pM, pK⟩ := w
    exact ex_callVv (ci := 7) (i := 94) (As := [.int 200]) (st := []) hX pM CS_7_225 MS_X7_pass rfl rfl rfl (by decide) rfl (Nat.le_of_ble_eq_true rfl) dX7_tryHours_31 (fun u hp => pK u hp)

set_option maxRecDepth 100000 in
set_option maxHeartbeats 4000000 in
theorem sg_X7_tryHours_34 {Z : CX × GX} {post : AH → Prop} {h : AH} {x1 : Int32} {x4 : Int32} (hX : OK Z RX7 cX7_tryHours 6 none 4 93) 
    (w : EX Z 6 (QV Z post) 37 h [some (.ref 94), some (.int x1), none, none, some (.int x4), some (.int 0)] [])
    : EX Z 6 (QV Z post) 34 h [some (.ref 94), some (.int x1), none, none, some (.int x4), none] [] := by
  refine ex_iconst (v := 0) hX dX7_tryHours_34 rfl ?_
  refine ex_istore (lv' := [some (.ref 94), some (.int x1), none, none, some (.int x4), some (.int 0)]) hX dX7_tryHours_35 (by decide) rfl ?_
  exact w

set_option maxRecDepth 100000 in
set_option maxHeartbeats 4000000 in
theorem sg_X7_tryHours_37 {Z : CX × GX} {post : AH → Prop} {h : AH} {x1 : Int32} {x4 : Int32} {x5 : Int32} (hX : OK Z RX7 cX7_tryHours 6 none 4 93) 
    (w : ((((h.1 94 9) - 1) ≤ x5 → EX Z 6 (QV Z post) 21 h [some (.ref 94), some (.int x1), none, none, some (.int (x4 + 1)), none] []) ∧ (¬ ((h.1 94 9) - 1) ≤ x5 → (vp_in (220 + x5) 800) ∧ (vp_in ((9 * x4) + x5) 1800) ∧ (∀ u4 : AH, u4 = (hset h.1 109 (Int32.toNatClampNeg ((9 * x4) + x5)) (h.1 95 (Int32.toNatClampNeg (220 + x5))), h.2) → (vp_in (210 + x5) 800) ∧ (vp_in ((9 * x4) + x5) 1800) ∧ (∀ u7 : AH, u7 = (hset u4.1 110 (Int32.toNatClampNeg ((9 * x4) + x5)) (u4.1 95 (Int32.toNatClampNeg (210 + x5))), u4.2) → EX Z 6 (QV Z post) 37 u7 [some (.ref 94), some (.int x1), none, none, some (.int x4), some (.int (x5 + 1))] [])))))
    : EX Z 6 (QV Z post) 37 h [some (.ref 94), some (.int x1), none, none, some (.int x4), some (.int x5)] [] := by
  refine ex_iload hX dX7_tryHours_37 rfl ?_
  refine ex_aload_n hX dX7_tryHours_39 rfl rfl ?_
  refine ex_get hX (.int (h.1 94 9)) FL_7_161 rfl (fun _ => rfl) dX7_tryHours_40 ?_
  refine ex_iconst (v := 1) hX dX7_tryHours_43 rfl ?_
  refine ex_isub hX dX7_tryHours_44 ?_
  refine ex_icmpge hX 102 dX7_tryHours_45 (by decide) (fun c1 => ?_) (fun c1 => ?_)
  · replace w := w.1 c1
    refine ex_iinc (v := x4 + 1) (lv' := [some (.ref 94), some (.int x1), none, none, some (.int (x4 + 1)), some (.int x5)]) hX dX7_tryHours_102 rfl rfl (by decide) rfl ?_
    refine ex_goto hX 21 dX7_tryHours_105 (by decide) ?_
    exact ex_forget [some (.ref 94), some (.int x1), none, none, some (.int (x4 + 1)), none] ⟨rfl, ⟨rfl, ⟨rfl, trivial⟩⟩⟩ w
  · replace w := w.2 c1
    refine ex_aload_n hX dX7_tryHours_48 rfl rfl ?_
    refine ex_get hX (.ref 109) FL_7_57 rfl (fun _ => rfl) dX7_tryHours_49 ?_
    refine ex_bipush (v := 9) hX dX7_tryHours_52 rfl ?_
    refine ex_iload hX dX7_tryHours_54 rfl ?_
    refine ex_imul hX dX7_tryHours_56 ?_
    refine ex_iload hX dX7_tryHours_57 rfl ?_
    refine ex_iadd hX dX7_tryHours_59 ?_
    refine ex_aload_n hX dX7_tryHours_60 rfl rfl ?_
    refine ex_get hX (.ref 95) FL_7_7 rfl (fun _ => rfl) dX7_tryHours_61 ?_
    refine ex_sipush (v := 220) hX dX7_tryHours_64 rfl ?_
    refine ex_iload hX dX7_tryHours_67 rfl ?_
    refine ex_iadd hX dX7_tryHours_69 ?_
    obtain ⟨q2, w⟩ := w
    refine ex_iald hX rfl q2 dX7_tryHours_70 ?_
    obtain ⟨q3, w⟩ := w
    refine ex_iast hX rfl q3 dX7_tryHours_71 ?_
    refine ex_nameH (fun u4 eu4 => ?_)
    replace w := w u4 eu4
    refine ex_aload_n hX dX7_tryHours_72 rfl rfl ?_
    refine ex_get hX (.ref 110) FL_7_60 rfl (fun _ => rfl) dX7_tryHours_73 ?_
    refine ex_bipush (v := 9) hX dX7_tryHours_76 rfl ?_
    refine ex_iload hX dX7_tryHours_78 rfl ?_
    refine ex_imul hX dX7_tryHours_80 ?_
    refine ex_iload hX dX7_tryHours_81 rfl ?_
    refine ex_iadd hX dX7_tryHours_83 ?_
    refine ex_aload_n hX dX7_tryHours_84 rfl rfl ?_
    refine ex_get hX (.ref 95) FL_7_7 rfl (fun _ => rfl) dX7_tryHours_85 ?_
    refine ex_sipush (v := 210) hX dX7_tryHours_88 rfl ?_
    refine ex_iload hX dX7_tryHours_91 rfl ?_
    refine ex_iadd hX dX7_tryHours_93 ?_
    obtain ⟨q5, w⟩ := w
    refine ex_iald hX rfl q5 dX7_tryHours_94 ?_
    obtain ⟨q6, w⟩ := w
    refine ex_iast hX rfl q6 dX7_tryHours_95 ?_
    refine ex_nameH (fun u7 eu7 => ?_)
    replace w := w u7 eu7
    refine ex_iinc (v := x5 + 1) (lv' := [some (.ref 94), some (.int x1), none, none, some (.int x4), some (.int (x5 + 1))]) hX dX7_tryHours_96 rfl rfl (by decide) rfl ?_
    refine ex_goto hX 37 dX7_tryHours_99 (by decide) ?_
    exact w

set_option maxRecDepth 100000 in
set_option maxHeartbeats 4000000 in
theorem sg_X6_tried_0 {Z : CX × GX} {post : Int32 → AH → Prop} {h : AH} {x1 : Int32} {x2 : Int32} {x3 : Int32} (hX : OK Z RX6 cX6_tried 5 (some .int) 5 123) 
    (w : (∀ v4 : Int32, v4 = (if x2 = 1 then (bI (0 ≤ x3 ∧ x3 < h.1 (h.2 1) 0 - 1) : Int32) else bI (0 ≤ x3 ∧ x3 < h.1 (h.2 1) 0)) → ((¬ v4 = 0 → ((x1 < 1 → post (-100000002) h) ∧ (¬ x1 < 1 → ((200 < x1 → post (-100000002) h) ∧ (¬ 200 < x1 → ((x2 < 0 → post (-100000002) h) ∧ (¬ x2 < 0 → ((x2 ≤ 2 → (∃ PP : AH → Prop, CV yX3_becomeAs cX3_becomeAs 2 3 102 [.ref 42, .ref 27] h PP ∧ ∀ u : AH, PP u → EX Z 5 (QI Z post) 69 u [some (.ref 0), some (.int x1), some (.int x2), some (.int x3), none] [])) ∧ (¬ x2 ≤ 2 → post (-100000002) h))))))))) ∧ (v4 = 0 → post (-100000001) h))))
    : EX Z 5 (QI Z post) 0 h [some (.ref 0), some (.int x1), some (.int x2), some (.int x3), none] [] := by
  refine ex_iload_n hX dX6_tried_0 rfl rfl ?_
  refine ex_iconst (v := 1) hX dX6_tried_1 rfl ?_
  have kc1 : EX Z 5 (QI Z post) 24 h [some (.ref 0), some (.int x1), some (.int x2), some (.int x3), none] [.int (if x2 = 1 then (bI (0 ≤ x3 ∧ x3 < h.1 (h.2 1) 0 - 1) : Int32) else bI (0 ≤ x3 ∧ x3 < h.1 (h.2 1) 0))] := by
    refine ex_nameI (fun v4 ev4 => ?_)
    replace w := w v4 ev4
    refine ex_istore (lv' := [some (.ref 0), some (.int x1), some (.int x2), some (.int x3), some (.int v4)]) hX dX6_tried_24 (by decide) rfl ?_
    refine ex_iload hX dX6_tried_26 rfl ?_
    refine ex_ifne hX 34 dX6_tried_28 (by decide) (fun c5 => ?_) (fun c5 => ?_)
    · replace w := w.1 c5
      refine ex_iload_n hX dX6_tried_34 rfl rfl ?_
      refine ex_iconst (v := 1) hX dX6_tried_35 rfl ?_
      refine ex_icmplt hX 55 dX6_tried_36 (by decide) (fun c6 => ?_) (fun c6 => ?_)
      · replace w := w.1 c6
        refine ex_ldc hX dX6_tried_55 KC_6_72 ?_
        exact ex_iret hX dX6_tried_57 rfl w
      · replace w := w.2 c6
        refine ex_iload_n hX dX6_tried_39 rfl rfl ?_
        refine ex_sipush (v := 200) hX dX6_tried_40 rfl ?_
        refine ex_icmpgt hX 55 dX6_tried_43 (by decide) (fun c7 => ?_) (fun c7 => ?_)
        · replace w := w.1 c7
          refine ex_ldc hX dX6_tried_55 KC_6_72 ?_
          exact ex_iret hX dX6_tried_57 rfl w
        · replace w := w.2 c7
          refine ex_iload_n hX dX6_tried_46 rfl rfl ?_
          refine ex_iflt hX 55 dX6_tried_47 (by decide) (fun c8 => ?_) (fun c8 => ?_)
          · replace w := w.1 c8
            refine ex_ldc hX dX6_tried_55 KC_6_72 ?_
            exact ex_iret hX dX6_tried_57 rfl w
          · replace w := w.2 c8
            refine ex_iload_n hX dX6_tried_50 rfl rfl ?_
            refine ex_iconst (v := 2) hX dX6_tried_51 rfl ?_
            refine ex_icmple hX 58 dX6_tried_52 (by decide) (fun c9 => ?_) (fun c9 => ?_)
            · replace w := w.1 c9
              refine ex_aload_n hX dX6_tried_58 rfl rfl ?_
              refine ex_get hX (.ref 42) FL_6_43 rfl (fun _ => rfl) dX6_tried_59 ?_
              refine ex_aload_n hX dX6_tried_62 rfl rfl ?_
              refine ex_get hX (.ref 27) FL_6_39 rfl (fun _ => rfl) dX6_tried_63 ?_
              obtain ⟨PP, pM, pK⟩ := w
              exact ex_callVv (ci := 3) (i := 42) (As := [.ref 27]) (st := []) hX pM CS_6_198 MS_X3_becomeAs rfl rfl rfl (by decide) rfl (Nat.le_of_ble_eq_true rfl) dX6_tried_66 (fun u hp => ex_forget [some (.ref 0), some (.int x1), some (.int x2), some (.int x3), none] ⟨rfl, ⟨rfl, ⟨rfl, ⟨rfl, trivial⟩⟩⟩⟩ (pK u hp))
            · replace w := w.2 c9
              refine ex_ldc hX dX6_tried_55 KC_6_72 ?_
              exact ex_iret hX dX6_tried_57 rfl w
    · replace w := w.2 c5
      refine ex_ldc hX dX6_tried_31 KC_6_126 ?_
      exact ex_iret hX dX6_tried_33 rfl w
  refine ex_icmpne hX 16 dX6_tried_2 (by decide) (fun c1 => ?_) (fun c1 => ?_)
  · refine ex_aload_n hX dX6_tried_16 rfl rfl ?_
    refine ex_gg (fun c2 => ?_)
    refine ex_get hX (.ref (h.2 1)) FL_6_19 rfl (fun _ => rfl) dX6_tried_17 ?_
    refine ex_iload_n hX dX6_tried_20 rfl rfl ?_
    refine ex_pIv (ci := 0) (i := h.2 1) (As := [.int x3]) (st := []) hX (c_X0_isNode (h := h) c2.1) CS_6_122 MS_X0_isNode rfl c2.1 rfl (by decide) rfl (Nat.le_of_ble_eq_true rfl) dX6_tried_21 ?_
    rw [show (if x2 = 1 then (bI (0 ≤ x3 ∧ x3 < h.1 (h.2 1) 0 - 1) : Int32) else bI (0 ≤ x3 ∧ x3 < h.1 (h.2 1) 0)) = bI (0 ≤ x3 ∧ x3 < h.1 (h.2 1) 0) from if_neg c1] at kc1
    exact ex_forget [some (.ref 0), some (.int x1), some (.int x2), some (.int x3), none] ⟨rfl, ⟨rfl, ⟨rfl, ⟨rfl, trivial⟩⟩⟩⟩ kc1
  · refine ex_aload_n hX dX6_tried_5 rfl rfl ?_
    refine ex_gg (fun c3 => ?_)
    refine ex_get hX (.ref (h.2 1)) FL_6_19 rfl (fun _ => rfl) dX6_tried_6 ?_
    refine ex_iload_n hX dX6_tried_9 rfl rfl ?_
    refine ex_pIv (ci := 0) (i := h.2 1) (As := [.int x3]) (st := []) hX (c_X0_isGate (h := h) c3.1) CS_6_144 MS_X0_isGate rfl c3.1 rfl (by decide) rfl (Nat.le_of_ble_eq_true rfl) dX6_tried_10 ?_
    refine ex_goto hX 24 dX6_tried_13 (by decide) ?_
    rw [show (if x2 = 1 then (bI (0 ≤ x3 ∧ x3 < h.1 (h.2 1) 0 - 1) : Int32) else bI (0 ≤ x3 ∧ x3 < h.1 (h.2 1) 0)) = bI (0 ≤ x3 ∧ x3 < h.1 (h.2 1) 0 - 1) from if_pos c1] at kc1
    exact ex_forget [some (.ref 0), some (.int x1), some (.int x2), some (.int x3), none] ⟨rfl, ⟨rfl, ⟨rfl, ⟨rfl, trivial⟩⟩⟩⟩ kc1

set_option maxRecDepth 100000 in
set_option maxHeartbeats 4000000 in
theorem sg_X6_tried_69 {Z : CX × GX} {post : Int32 → AH → Prop} {h : AH} {x1 : Int32} {x2 : Int32} {x3 : Int32} (hX : OK Z RX6 cX6_tried 5 (some .int) 5 123) 
    (w : (∃ PP : AH → Prop, CV yX6_passTrialHours cX6_passTrialHours 3 4 93 [.ref 0, .int x1] h PP ∧ ∀ u : AH, PP u → EX Z 5 (QI Z post) 74 u [some (.ref 0), none, some (.int x2), some (.int x3), none] []))
    : EX Z 5 (QI Z post) 69 h [some (.ref 0), some (.int x1), some (.int x2), some (.int x3), none] [] := by
  refine ex_aload_n hX dX6_tried_69 rfl rfl ?_
  refine ex_iload_n hX dX6_tried_70 rfl rfl ?_
  obtain ⟨PP, pM, pK⟩ := w
  exact ex_callVv (ci := 6) (i := 0) (As := [.int x1]) (st := []) hX pM CS_6_202 MS_X6_passTrialHours rfl rfl rfl (by decide) rfl (Nat.le_of_ble_eq_true rfl) dX6_tried_71 (fun u hp => ex_forget [some (.ref 0), none, some (.int x2), some (.int x3), none] ⟨rfl, ⟨rfl, ⟨rfl, trivial⟩⟩⟩ (pK u hp))

set_option maxRecDepth 100000 in
set_option maxHeartbeats 4000000 in
theorem sg_X6_tried_74 {Z : CX × GX} {post : Int32 → AH → Prop} {h : AH} {x2 : Int32} {x3 : Int32} (hX : OK Z RX6 cX6_tried 5 (some .int) 5 123) 
    (w : ((¬ x2 = 0 → ((¬ x2 = 1 → (LPc h.1 42 (h.2 1) x3) ∧ post (lvC h.1 42 (h.2 1) x3) h) ∧ (x2 = 1 → (vp_in x3 9) ∧ post (h.1 (42 + 4) (Int32.toNatClampNeg x3)) h))) ∧ (x2 = 0 → (vp_in x3 10) ∧ post (h.1 (42 + 1) (Int32.toNatClampNeg x3)) h)))
    : EX Z 5 (QI Z post) 74 h [some (.ref 0), none, some (.int x2), some (.int x3), none] [] := by
  refine ex_iload_n hX dX6_tried_74 rfl rfl ?_
  refine ex_ifne hX 88 dX6_tried_75 (by decide) (fun c1 => ?_) (fun c1 => ?_)
  · replace w := w.1 c1
    refine ex_iload_n hX dX6_tried_88 rfl rfl ?_
    refine ex_iconst (v := 1) hX dX6_tried_89 rfl ?_
    refine ex_icmpne hX 105 dX6_tried_90 (by decide) (fun c2 => ?_) (fun c2 => ?_)
    · replace w := w.1 c2
      refine ex_aload_n hX dX6_tried_105 rfl rfl ?_
      refine ex_get hX (.ref 42) FL_6_43 rfl (fun _ => rfl) dX6_tried_106 ?_
      refine ex_aload_n hX dX6_tried_109 rfl rfl ?_
      refine ex_gg (fun c3 => ?_)
      refine ex_get hX (.ref (h.2 1)) FL_6_19 rfl (fun _ => rfl) dX6_tried_110 ?_
      refine ex_iload_n hX dX6_tried_113 rfl rfl ?_
      obtain ⟨q4, w⟩ := w
      refine ex_pIv (ci := 3) (i := 42) (As := [.ref (h.2 1), .int x3]) (st := []) hX (c_X3_levelOf (h := h) rfl c3.1 q4) CS_6_136 MS_X3_levelOf rfl rfl rfl (by decide) rfl (Nat.le_of_ble_eq_true rfl) dX6_tried_114 ?_
      exact ex_iret hX dX6_tried_117 rfl w
    · replace w := w.2 c2
      refine ex_aload_n hX dX6_tried_93 rfl rfl ?_
      refine ex_get hX (.ref 42) FL_6_43 rfl (fun _ => rfl) dX6_tried_94 ?_
      refine ex_get hX (.ref (42 + 4)) FL_6_153 rfl (fun _ => rfl) dX6_tried_97 ?_
      refine ex_iload_n hX dX6_tried_100 rfl rfl ?_
      obtain ⟨q5, w⟩ := w
      refine ex_iald hX (sh_3_4 rfl) q5 dX6_tried_101 ?_
      refine ex_goto hX 117 dX6_tried_102 (by decide) ?_
      exact ex_iret hX dX6_tried_117 rfl w
  · replace w := w.2 c1
    refine ex_aload_n hX dX6_tried_78 rfl rfl ?_
    refine ex_get hX (.ref 42) FL_6_43 rfl (fun _ => rfl) dX6_tried_79 ?_
    refine ex_get hX (.ref (42 + 1)) FL_6_133 rfl (fun _ => rfl) dX6_tried_82 ?_
    refine ex_iload_n hX dX6_tried_85 rfl rfl ?_
    obtain ⟨q6, w⟩ := w
    refine ex_iald hX (sh_3_1 rfl) q6 dX6_tried_86 ?_
    exact ex_iret hX dX6_tried_87 rfl w

set_option maxRecDepth 100000 in
set_option maxHeartbeats 4000000 in
theorem sg_X7_tried_0 {Z : CX × GX} {post : Int32 → AH → Prop} {h : AH} {x1 : Int32} {x2 : Int32} {x3 : Int32} (hX : OK Z RX7 cX7_tried 4 (some .int) 5 118) 
    (w : ((¬ x2 = 1 → (((0 ≤ x3 ∧ x3 ≤ h.1 94 9 - 1) → ((¬ (1 ≤ (Int32.toInt64 x1) ∧ (Int32.toInt64 x1) ≤ 200) → post (-100000002) h) ∧ ((1 ≤ (Int32.toInt64 x1) ∧ (Int32.toInt64 x1) ≤ 200) → (((0 ≤ (Int32.toInt64 x2) ∧ (Int32.toInt64 x2) ≤ 2) → (∃ PP : AH → Prop, CV yX7_tryHours cX7_tryHours 6 4 93 [.ref 94, .int x1, .int 0, .int 0] h PP ∧ ∀ u : AH, PP u → EX Z 4 (QI Z post) 61 u [some (.ref 94), none, some (.int x2), some (.int x3)] [])) ∧ (¬ (0 ≤ (Int32.toInt64 x2) ∧ (Int32.toInt64 x2) ≤ 2) → post (-100000002) h))))) ∧ (¬ (0 ≤ x3 ∧ x3 ≤ h.1 94 9 - 1) → post (-100000001) h))) ∧ (x2 = 1 → (((0 ≤ x3 ∧ x3 ≤ h.1 94 9 - 2) → ((¬ (1 ≤ (Int32.toInt64 x1) ∧ (Int32.toInt64 x1) ≤ 200) → post (-100000002) h) ∧ ((1 ≤ (Int32.toInt64 x1) ∧ (Int32.toInt64 x1) ≤ 200) → (((0 ≤ (Int32.toInt64 x2) ∧ (Int32.toInt64 x2) ≤ 2) → (∃ PP : AH → Prop, CV yX7_tryHours cX7_tryHours 6 4 93 [.ref 94, .int x1, .int 0, .int 0] h PP ∧ ∀ u : AH, PP u → EX Z 4 (QI Z post) 61 u [some (.ref 94), none, some (.int x2), some (.int x3)] [])) ∧ (¬ (0 ≤ (Int32.toInt64 x2) ∧ (Int32.toInt64 x2) ≤ 2) → post (-100000002) h))))) ∧ (¬ (0 ≤ x3 ∧ x3 ≤ h.1 94 9 - 2) → post (-100000001) h)))))
    : EX Z 4 (QI Z post) 0 h [some (.ref 94), some (.int x1), some (.int x2), some (.int x3)] [] := by
  refine ex_iload_n hX dX7_tried_0 rfl rfl ?_
  refine ex_iconst (v := 1) hX dX7_tried_1 rfl ?_
  refine ex_icmpne hX 16 dX7_tried_2 (by decide) (fun c1 => ?_) (fun c1 => ?_)
  · replace w := w.1 c1
    refine ex_aload_n hX dX7_tried_16 rfl rfl ?_
    refine ex_iload_n hX dX7_tried_17 rfl rfl ?_
    refine ex_pIv (ci := 7) (i := 94) (As := [.int x3]) (st := []) hX (c_X7_isNode (h := h)) CS_7_181 MS_X7_isNode rfl rfl rfl (by decide) rfl (Nat.le_of_ble_eq_true rfl) dX7_tried_18 ?_
    refine ex_ifneB hX 27 dX7_tried_21 (by decide) (fun c2 => ?_) (fun c2 => ?_)
    · replace w := w.1 c2
      refine ex_iload_n hX dX7_tried_27 rfl rfl ?_
      refine ex_i2l hX dX7_tried_28 ?_
      refine ex_lconst (v := 1) hX dX7_tried_29 rfl ?_
      refine ex_ldc2 hX dX7_tried_30 KL_7_223 ?_
      refine ex_pIs (As := [.long (Int32.toInt64 x1), .long 1, .long 200]) (st := []) hX (c_X7_in (h := h)) CS_7_71 MS_X7_in rfl (by decide) rfl (Nat.le_of_ble_eq_true rfl) dX7_tried_33 ?_
      refine ex_ifeqB hX 51 dX7_tried_36 (by decide) (fun c3 => ?_) (fun c3 => ?_)
      · replace w := w.1 c3
        refine ex_ldc hX dX7_tried_51 KC_7_75 ?_
        exact ex_iret hX dX7_tried_53 rfl w
      · replace w := w.2 c3
        refine ex_iload_n hX dX7_tried_39 rfl rfl ?_
        refine ex_i2l hX dX7_tried_40 ?_
        refine ex_lconst (v := 0) hX dX7_tried_41 rfl ?_
        refine ex_ldc2 hX dX7_tried_42 KL_7_251 ?_
        refine ex_pIs (As := [.long (Int32.toInt64 x2), .long 0, .long 2]) (st := []) hX (c_X7_in (h := h)) CS_7_71 MS_X7_in rfl (by decide) rfl (Nat.le_of_ble_eq_true rfl) dX7_tried_45 ?_
        refine ex_ifneB hX 54 dX7_tried_48 (by decide) (fun c4 => ?_) (fun c4 => ?_)
        · replace w := w.1 c4
          refine ex_aload_n hX dX7_tried_54 rfl rfl ?_
          refine ex_iload_n hX dX7_tried_55 rfl rfl ?_
          refine ex_iconst (v := 0) hX dX7_tried_56 rfl ?_
          refine ex_iconst (v := 0) hX dX7_tried_57 rfl ?_
          obtain ⟨PP, pM, pK⟩ := w
          exact ex_callVv (ci := 7) (i := 94) (As := [.int x1, .int 0, .int 0]) (st := []) hX pM CS_7_253 MS_X7_tryHours rfl rfl rfl (by decide) rfl (Nat.le_of_ble_eq_true rfl) dX7_tried_58 (fun u hp => ex_forget [some (.ref 94), none, some (.int x2), some (.int x3)] ⟨rfl, ⟨rfl, ⟨rfl, trivial⟩⟩⟩ (pK u hp))
        · replace w := w.2 c4
          refine ex_ldc hX dX7_tried_51 KC_7_75 ?_
          exact ex_iret hX dX7_tried_53 rfl w
    · replace w := w.2 c2
      refine ex_ldc hX dX7_tried_24 KC_7_185 ?_
      exact ex_iret hX dX7_tried_26 rfl w
  · replace w := w.2 c1
    refine ex_aload_n hX dX7_tried_5 rfl rfl ?_
    refine ex_iload_n hX dX7_tried_6 rfl rfl ?_
    refine ex_pIv (ci := 7) (i := 94) (As := [.int x3]) (st := []) hX (c_X7_isGate (h := h)) CS_7_192 MS_X7_isGate rfl rfl rfl (by decide) rfl (Nat.le_of_ble_eq_true rfl) dX7_tried_7 ?_
    refine ex_ifneB hX 27 dX7_tried_10 (by decide) (fun c5 => ?_) (fun c5 => ?_)
    · replace w := w.1 c5
      refine ex_iload_n hX dX7_tried_27 rfl rfl ?_
      refine ex_i2l hX dX7_tried_28 ?_
      refine ex_lconst (v := 1) hX dX7_tried_29 rfl ?_
      refine ex_ldc2 hX dX7_tried_30 KL_7_223 ?_
      refine ex_pIs (As := [.long (Int32.toInt64 x1), .long 1, .long 200]) (st := []) hX (c_X7_in (h := h)) CS_7_71 MS_X7_in rfl (by decide) rfl (Nat.le_of_ble_eq_true rfl) dX7_tried_33 ?_
      refine ex_ifeqB hX 51 dX7_tried_36 (by decide) (fun c6 => ?_) (fun c6 => ?_)
      · replace w := w.1 c6
        refine ex_ldc hX dX7_tried_51 KC_7_75 ?_
        exact ex_iret hX dX7_tried_53 rfl w
      · replace w := w.2 c6
        refine ex_iload_n hX dX7_tried_39 rfl rfl ?_
        refine ex_i2l hX dX7_tried_40 ?_
        refine ex_lconst (v := 0) hX dX7_tried_41 rfl ?_
        refine ex_ldc2 hX dX7_tried_42 KL_7_251 ?_
        refine ex_pIs (As := [.long (Int32.toInt64 x2), .long 0, .long 2]) (st := []) hX (c_X7_in (h := h)) CS_7_71 MS_X7_in rfl (by decide) rfl (Nat.le_of_ble_eq_true rfl) dX7_tried_45 ?_
        refine ex_ifneB hX 54 dX7_tried_48 (by decide) (fun c7 => ?_) (fun c7 => ?_)
        · replace w := w.1 c7
          refine ex_aload_n hX dX7_tried_54 rfl rfl ?_
          refine ex_iload_n hX dX7_tried_55 rfl rfl ?_
          refine ex_iconst (v := 0) hX dX7_tried_56 rfl ?_
          refine ex_iconst (v := 0) hX dX7_tried_57 rfl ?_
          obtain ⟨PP, pM, pK⟩ := w
          exact ex_callVv (ci := 7) (i := 94) (As := [.int x1, .int 0, .int 0]) (st := []) hX pM CS_7_253 MS_X7_tryHours rfl rfl rfl (by decide) rfl (Nat.le_of_ble_eq_true rfl) dX7_tried_58 (fun u hp => ex_forget [some (.ref 94), none, some (.int x2), some (.int x3)] ⟨rfl, ⟨rfl, ⟨rfl, trivial⟩⟩⟩ (pK u hp))
        · replace w := w.2 c7
          refine ex_ldc hX dX7_tried_51 KC_7_75 ?_
          exact ex_iret hX dX7_tried_53 rfl w
    · replace w := w.2 c5
      refine ex_goto hX 24 dX7_tried_13 (by decide) ?_
      refine ex_ldc hX dX7_tried_24 KC_7_185 ?_
      exact ex_iret hX dX7_tried_26 rfl w

set_option maxRecDepth 100000 in
set_option maxHeartbeats 4000000 in
theorem sg_X7_tried_61 {Z : CX × GX} {post : Int32 → AH → Prop} {h : AH} {x2 : Int32} {x3 : Int32} (hX : OK Z RX7 cX7_tried 4 (some .int) 5 118) 
    (w : ((¬ x2 = 0 → ((¬ x2 = 1 → (LPm h.1 200 x3) ∧ post (lvM h.1 200 x3) h) ∧ (x2 = 1 → (vp_in (220 + x3) 800) ∧ post (h.1 95 (Int32.toNatClampNeg (220 + x3))) h))) ∧ (x2 = 0 → ((¬ x3 = (h.1 94 9 - 1) → (vp_in (200 + x3) 800) ∧ post (h.1 95 (Int32.toNatClampNeg (200 + x3))) h) ∧ (x3 = (h.1 94 9 - 1) → post 0 h)))))
    : EX Z 4 (QI Z post) 61 h [some (.ref 94), none, some (.int x2), some (.int x3)] [] := by
  refine ex_iload_n hX dX7_tried_61 rfl rfl ?_
  refine ex_ifne hX 90 dX7_tried_62 (by decide) (fun c1 => ?_) (fun c1 => ?_)
  · replace w := w.1 c1
    refine ex_iload_n hX dX7_tried_90 rfl rfl ?_
    refine ex_iconst (v := 1) hX dX7_tried_91 rfl ?_
    refine ex_icmpne hX 108 dX7_tried_92 (by decide) (fun c2 => ?_) (fun c2 => ?_)
    · replace w := w.1 c2
      refine ex_aload_n hX dX7_tried_108 rfl rfl ?_
      refine ex_sipush (v := 200) hX dX7_tried_109 rfl ?_
      refine ex_iload_n hX dX7_tried_112 rfl rfl ?_
      obtain ⟨q3, w⟩ := w
      refine ex_pIv (ci := 7) (i := 94) (As := [.int 200, .int x3]) (st := []) hX (c_X7_levelOf (h := h) q3) CS_7_186 MS_X7_levelOf rfl rfl rfl (by decide) rfl (Nat.le_of_ble_eq_true rfl) dX7_tried_113 ?_
      exact ex_iret hX dX7_tried_116 rfl w
    · replace w := w.2 c2
      refine ex_aload_n hX dX7_tried_95 rfl rfl ?_
      refine ex_get hX (.ref 95) FL_7_7 rfl (fun _ => rfl) dX7_tried_96 ?_
      refine ex_sipush (v := 220) hX dX7_tried_99 rfl ?_
      refine ex_iload_n hX dX7_tried_102 rfl rfl ?_
      refine ex_iadd hX dX7_tried_103 ?_
      obtain ⟨q4, w⟩ := w
      refine ex_iald hX rfl q4 dX7_tried_104 ?_
      refine ex_goto hX 116 dX7_tried_105 (by decide) ?_
      exact ex_iret hX dX7_tried_116 rfl w
  · replace w := w.2 c1
    refine ex_iload_n hX dX7_tried_65 rfl rfl ?_
    refine ex_aload_n hX dX7_tried_66 rfl rfl ?_
    refine ex_pIv (ci := 7) (i := 94) (As := []) (st := [.int x3]) hX (c_X7_sea (h := h)) CS_7_174 MS_X7_sea rfl rfl rfl (by decide) rfl (Nat.le_of_ble_eq_true rfl) dX7_tried_67 ?_
    refine ex_icmpne hX 77 dX7_tried_70 (by decide) (fun c5 => ?_) (fun c5 => ?_)
    · replace w := w.1 c5
      refine ex_aload_n hX dX7_tried_77 rfl rfl ?_
      refine ex_get hX (.ref 95) FL_7_7 rfl (fun _ => rfl) dX7_tried_78 ?_
      refine ex_sipush (v := 200) hX dX7_tried_81 rfl ?_
      refine ex_iload_n hX dX7_tried_84 rfl rfl ?_
      refine ex_iadd hX dX7_tried_85 ?_
      obtain ⟨q6, w⟩ := w
      refine ex_iald hX rfl q6 dX7_tried_86 ?_
      refine ex_goto hX 116 dX7_tried_87 (by decide) ?_
      exact ex_iret hX dX7_tried_116 rfl w
    · replace w := w.2 c5
      refine ex_iconst (v := 0) hX dX7_tried_73 rfl ?_
      refine ex_goto hX 116 dX7_tried_74 (by decide) ?_
      exact ex_iret hX dX7_tried_116 rfl w

set_option maxRecDepth 100000 in
set_option maxHeartbeats 4000000 in
theorem c_X6_passTrialHours {h : AH} {a1 : Int32}  {g : AH} {N n : Nat} {P : PR} {σ : SG} {H hw : Int32} (e1 : a1 = nI n) (hn : n ≤ 200) (hI : INV N g) (hN : N ≤ 511) (eP : PM g.1 = P) (hT : TOK N P σ H hw) (hC : CT P σ H hw g h 0) : CV yX6_passTrialHours cX6_passTrialHours 3 4 93 [.ref 0, .int a1] h (fun u => CT P σ H hw g u n) := by
  refine CV.of [some (.ref 0), some (.int a1), none] (by decide +kernel) rfl (Nat.le_of_ble_eq_true rfl) rfl (fun Z hX => ?_)
  subst e1
  have L : ∀ k, k ≤ n → ∀ u : AH, CT P σ H hw g u k → EX Z 3 (QV Z (fun u => CT P σ H hw g u n)) 2 u [some (.ref 0), some (.int (nI n)), some (.int (nI k))] [] := by
    refine ldown _ ?_ ?_
    · intro u hC
      exact sg_X6_passTrialHours_2 hX ⟨fun _ => hC, fun z => absurd (nI_le (Nat.le_refl _) (by omega)) z⟩
    · intro k hk ih u hC
      refine sg_X6_passTrialHours_2 hX ⟨fun z => absurd z (nI_ge hk (by omega)), fun _ => ?_⟩
      rw [hC.1.1]
      obtain ⟨PP, q1, q2⟩ := ct_call hI hN (by omega) eP hT hC
      refine ⟨PP, q1, fun u2 hu2 => sg_X6_passTrialHours_22 hX ?_⟩
      rw [nI_1]
      exact ih u2 (q2 u2 hu2)
  exact sg_X6_passTrialHours_0 hX (L 0 (by omega) h hC)

/-- the records of n hours -/
def RC (P : PR) (σ : SG) (H hw : Int32) (v : AH) (n : Nat) : Prop := ∀ t, t < n → ∀ k, k < pn P - 1 → v.1 109 (9 * t + k) = hoursS P H hw (t + 1) σ (20 + k) ∧ v.1 110 (9 * t + k) = hoursS P H hw (t + 1) σ (10 + k)

set_option maxRecDepth 100000 in
set_option maxHeartbeats 4000000 in
theorem c_X7_tryHours {h : AH} {a1 : Int32} {a2 : Int32} {a3 : Int32}  {N n : Nat} {P : PR} {σ : SG} (e1 : a1 = nI n) (hn : n ≤ 200) (hN : N ≤ 511) (eP : PM h.1 = P) (eS : mk (ms h.1 0) = σ) (hT : UOK N P σ a3) : CV yX7_tryHours cX7_tryHours 6 4 93 [.ref 94, .int a1, .int a2, .int a3] h (fun v => TM h v ∧ mk (ms v.1 200) = hoursS P a2 a3 n σ ∧ RC P σ a2 a3 v n) := by
  refine CV.of [some (.ref 94), some (.int a1), some (.int a2), some (.int a3), none, none] (by decide +kernel) rfl (Nat.le_of_ble_eq_true rfl) rfl (fun Z hX => ?_)
  subst e1
  have hp := hT.1.1
  have en : h.1 94 9 = nI (pn P) := by
    have : pn P = (h.1 94 9).toNatClampNeg := by rw [← eP]; rfl
    rw [this]
    by_cases c : 0 ≤ (h.1 94 9).toInt
    · exact (zi_of c).1
    · exact absurd hp.1 (by rw [this]; unfold Int32.toNatClampNeg; omega)
  refine sg_X7_tryHours_0 hX (fun u1 e1 u2 e2 => ⟨_, c_X7_copy (ρ1 := 0) (ρ2 := 200) rfl rfl (by omega) (by omega) (by omega), fun u hu => ?_⟩)
  obtain ⟨v1, v2, v3, v4⟩ := hu
  have f2 : TF h u2 := by rw [e2, e1]; exact (TF.held (Or.inl rfl)).tr (TF.held (Or.inr rfl))
  have f3 : TF u2 u := ⟨v1, fun i _ h2 _ => v2 i h2, fun k _ _ => by rw [v2 94 (by omega)], fun j hj => v3 j (by omega)⟩
  have f := f2.tr f3
  have x25 : u.1 94 25 = a2 := by rw [v2 94 (by omega), e2, hs_i (by omega), e1, hs_s]
  have x26 : u.1 94 26 = a3 := by rw [v2 94 (by omega), e2, hs_s]
  have em : mk (ms u.1 200) = σ := by
    have q : ∀ j, j < 200 → ms u.1 200 j = ms h.1 0 j := fun j hj => by
      show u.1 95 (200 + j) = h.1 95 (0 + j)
      rw [v4 j hj, f2.2.2.2 (0 + j) (by omega)]
    rw [← eS]
    refine mk_congr (q 51 (by omega)) (fun k hk => q k ?_)
    unfold rel at hk
    omega
  refine sg_X7_tryHours_18 hX ?_
  have L : ∀ k, k ≤ n → ∀ u : AH, MT P σ a2 a3 h u k ∧ RC P σ a2 a3 u k → EX Z 6 (QV Z (fun v => TM h v ∧ mk (ms v.1 200) = hoursS P a2 a3 n σ ∧ RC P σ a2 a3 v n)) 21 u [some (.ref 94), some (.int (nI n)), none, none, some (.int (nI k)), none] [] := by
    refine ldown _ ?_ ?_
    · intro u hu
      obtain ⟨⟨d1, d2, d3, d4⟩, d5⟩ := hu
      refine sg_X7_tryHours_21 hX ⟨fun _ w ew => ?_, fun z => absurd (nI_le (Nat.le_refl _) (by omega)) z⟩
      have o : ∀ i, i ≠ 94 → w.1 i = u.1 i := fun i hi => by rw [ew]; exact hs_o hi
      refine ⟨⟨d1.tr (by rw [ew]; exact TF.held (Or.inl rfl)), by rw [ew]; exact hs_s, ?_⟩, ?_, ?_⟩
      · rw [ew, hs_i (by omega), d3]; exact hT.2.2
      · rw [← d4]; unfold ms; rw [o 95 (by omega)]
      · unfold RC; rw [o 109 (by omega), o 110 (by omega)]; exact d5
    · intro t ht ih u hu
      obtain ⟨d1, d5⟩ := hu
      obtain ⟨PP, q1, q2⟩ := mt_call (N := N) hN (by omega) eP hT d1
      refine sg_X7_tryHours_21 hX ⟨fun z => absurd z (nI_ge ht (by omega)), fun _ => ⟨PP, q1, fun u2 hu2 => sg_X7_tryHours_34 hX ?_⟩⟩
      obtain ⟨w1, w2⟩ := q2 u2 hu2
      have d6 : RC P σ a2 a3 u2 t := by unfold RC; rw [w2.2.1 109 (by omega) (by omega), w2.2.1 110 (by omega) (by omega)]; exact d5
      have M : ∀ k, k ≤ pn P - 1 → ∀ v : AH, (MT P σ a2 a3 h v (t + 1) ∧ RC P σ a2 a3 v t ∧ ∀ j, j < k → v.1 109 (9 * t + j) = hoursS P a2 a3 (t + 1) σ (20 + j) ∧ v.1 110 (9 * t + j) = hoursS P a2 a3 (t + 1) σ (10 + j)) → EX Z 6 (QV Z (fun v => TM h v ∧ mk (ms v.1 200) = hoursS P a2 a3 n σ ∧ RC P σ a2 a3 v n)) 37 v [some (.ref 94), some (.int (nI n)), none, none, some (.int (nI t)), some (.int (nI k))] [] := by
        refine ldown _ ?_ ?_
        · intro v hv
          obtain ⟨g1, g2, g3⟩ := hv
          have ev : v.1 94 9 - 1 = nI (pn P - 1) := by rw [g1.1.2.2.1 9 (by omega) (by omega), en, k_1, pk_sub (by omega)]
          refine sg_X7_tryHours_37 hX ⟨fun _ => ?_, fun z => absurd (by rw [ev]; exact nI_le (Nat.le_refl _) (by omega)) z⟩
          rw [nI_1]
          refine ih v ⟨g1, fun s hs j hj => ?_⟩
          by_cases c : s = t
          · subst c; exact g3 j hj
          · exact g2 s (by omega) j hj
        · intro k hk ihm v hv
          obtain ⟨g1, g2, g3⟩ := hv
          have ev : v.1 94 9 - 1 = nI (pn P - 1) := by rw [g1.1.2.2.1 9 (by omega) (by omega), en, k_1, pk_sub (by omega)]
          have i1 : (9 : Int32) * nI t + nI k = nI (9 * t + k) := by rw [show (9 : Int32) = nI 9 from rfl, show nI 9 * nI t = nI (9 * t) from (Int32.ofNat_mul 9 t).symm, nI_add]
          have i2 : (220 : Int32) + nI k = nI (220 + k) := by rw [show (220 : Int32) = nI 220 from rfl, nI_add]
          have i3 : (210 : Int32) + nI k = nI (210 + k) := by rw [show (210 : Int32) = nI 210 from rfl, nI_add]
          refine sg_X7_tryHours_37 hX ⟨fun z => absurd z (by rw [ev]; exact nI_ge hk (by omega)), fun _ => ?_⟩
          rw [i1, i2, i3, nI_clamp (by omega), nI_clamp (by omega), nI_clamp (by omega)]
          refine ⟨vp_in_nI (by omega) (by omega), vp_in_nI (by omega) (by omega), fun u4 e4 => ⟨vp_in_nI (by omega) (by omega), vp_in_nI (by omega) (by omega), fun u7 e7 => ?_⟩⟩
          rw [nI_1]
          have m1 : v.1 95 (200 + (20 + k)) = _ := mk_at (f := v.1) (ρ := 200) (k := 20 + k) (by unfold rel; omega)
          have m2 : v.1 95 (200 + (10 + k)) = _ := mk_at (f := v.1) (ρ := 200) (k := 10 + k) (by unfold rel; omega)
          rw [g1.2.2.2, show 200 + (20 + k) = 220 + k by omega] at m1
          rw [g1.2.2.2, show 200 + (10 + k) = 210 + k by omega] at m2
          have x95 : u4.1 95 = v.1 95 := by rw [e4]; exact hs_o (by omega)
          have y95 : u7.1 95 = v.1 95 := by rw [e7, hs_o (by omega), x95]
          have y94 : u7.1 94 = v.1 94 := by rw [e7, hs_o (by omega), e4]; exact hs_o (by omega)
          have y109 : u7.1 109 = upd (v.1 109) (9 * t + k) (hoursS P a2 a3 (t + 1) σ (20 + k)) := by
            rw [e7, hs_o (by omega), e4]
            show hset v.1 109 (9 * t + k) _ 109 = _
            rw [hset_eq, m1]
          have y110 : u7.1 110 = upd (v.1 110) (9 * t + k) (hoursS P a2 a3 (t + 1) σ (10 + k)) := by
            rw [e7]
            show hset u4.1 110 (9 * t + k) _ 110 = _
            rw [hset_eq, x95, m2, e4, hs_o (by omega)]
          have yt : TF v u7 := by
            have z1 : TF v u4 := by rw [e4]; exact TF.set (by omega)
            have z2 : TF u4 u7 := by rw [e7]; exact TF.set (by omega)
            exact z1.tr z2
          refine ihm u7 ⟨⟨g1.1.tr yt, by rw [y94]; exact g1.2.1, by rw [y94]; exact g1.2.2.1, by rw [← g1.2.2.2]; unfold ms; rw [y95]⟩, fun s hs j hj => ?_, fun j hj => ?_⟩
          · rw [y109, y110, upd_ne (by omega), upd_ne (by omega)]; exact g2 s hs j hj
          · rw [y109, y110]
            by_cases c : j = k
            · subst c; rw [upd_eq, upd_eq]; exact ⟨rfl, rfl⟩
            · rw [upd_ne (by omega), upd_ne (by omega)]; exact g3 j (by omega)
      exact M 0 (by omega) u2 ⟨w1, d6, fun j hj => absurd hj (by omega)⟩
  exact L 0 (by omega) u ⟨⟨f, x25, x26, em⟩, fun s hs => absurd hs (by omega)⟩
