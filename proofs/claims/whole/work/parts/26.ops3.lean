theorem mk_eq {σ τ : SG} {c d : Nat} (hs : σ 51 = nI c) (ht : τ 51 = nI d) (hc : c ≤ 12) (hd : d ≤ 12) (φ : SG) (h : ∀ j, rel d j → τ j = φ j) (h0 : ∀ j, ¬ rel d j → φ j = 0) : mk τ = φ := by
  funext j
  by_cases hr : rel d j
  · rw [mk_in (by rw [ht, nI_clamp (by omega)]; exact hr), h j hr]
  · rw [mk_out (by rw [ht, nI_clamp (by omega)]; exact hr), h0 j hr]
/-- a log more -/
def growS (c : Nat) (k w : Int32) (σ : SG) : SG := fun j => if j = 51 then nI (c + 1) else if j = 60 + c ∨ j = 84 + c then k else if j = 72 + c then w else if j = 96 + c ∨ j = 108 + c ∨ j = 120 + c ∨ j = 132 + c then 0 else σ j
theorem mk_grow {σ τ : SG} {c : Nat} {k w : Int32} (hc : c < 12) (hs : σ 51 = nI c) (ht : ∀ j, j < 200 → τ j = growS c k w σ j) : mk τ = growS c k w (mk σ) := by
  have h51 : τ 51 = nI (c + 1) := by rw [ht 51 (by omega)]; rfl
  refine mk_eq hs h51 (by omega) (by omega) _ (fun j hr => ?_) (fun j hr => ?_)
  · rw [ht j (by unfold rel at hr; omega)]
    unfold growS
    by_cases e1 : j = 51
    · rw [if_pos e1, if_pos e1]
    · rw [if_neg e1, if_neg e1]
      by_cases e2 : j = 60 + c ∨ j = 84 + c
      · rw [if_pos e2, if_pos e2]
      · rw [if_neg e2, if_neg e2]
        by_cases e3 : j = 72 + c
        · rw [if_pos e3, if_pos e3]
        · rw [if_neg e3, if_neg e3]
          by_cases e4 : j = 96 + c ∨ j = 108 + c ∨ j = 120 + c ∨ j = 132 + c
          · rw [if_pos e4, if_pos e4]
          · rw [if_neg e4, if_neg e4]
            exact (mk_in (by rw [hs, nI_clamp (by omega)]; unfold rel at hr ⊢; omega)).symm
  · unfold growS
    unfold rel at hr
    rw [if_neg (by omega), if_neg (by omega), if_neg (by omega), if_neg (by omega)]
    exact mk_out (by rw [hs, nI_clamp (by omega)]; unfold rel; omega)
/-- no log any more -/
def noneS (σ : SG) : SG := fun j => if j = 51 then 0 else if 53 ≤ j then 0 else σ j
theorem mk_none {σ τ : SG} {c : Nat} (hc : c ≤ 12) (hs : σ 51 = nI c) (ht : ∀ j, j < 200 → τ j = upd σ 51 0 j) : mk τ = noneS (mk σ) := by
  have h51 : τ 51 = nI 0 := by rw [ht 51 (by omega), upd_eq]; rfl
  refine mk_eq hs h51 hc (by omega) _ (fun j hr => ?_) (fun j hr => ?_)
  · have hj : j < 53 := by unfold rel at hr; omega
    rw [ht j (by omega)]
    unfold noneS
    by_cases e1 : j = 51
    · rw [if_pos e1, e1, upd_eq]
    · rw [if_neg e1, if_neg (by omega), upd_ne e1]
      exact (mk_in (by rw [hs, nI_clamp (by omega)]; unfold rel at hr ⊢; omega)).symm
  · unfold noneS
    unfold rel at hr
    rw [if_neg (by omega)]
    by_cases e : 53 ≤ j
    · rw [if_pos e]
    · rw [if_neg e]
      exact mk_out (by rw [hs, nI_clamp (by omega)]; unfold rel; omega)
/-- the logs of the state change, by both -/
theorem INV_logs {N : Nat} {h u u2 : AH} {σ' : SG} (hI : INV N h) (eu2 : u.2 = h.2) (eu : ∀ i, (i < 34 ∨ 42 ≤ i) → u.1 i = h.1 i) (eu3 : u2.2 = u.2) (eu4 : ∀ i, i ≠ 95 → u2.1 i = u.1 i) (e95 : ∀ j, 200 ≤ j → u2.1 95 j = u.1 95 j) (m1 : mk (cs u.1 27) = σ') (m2 : mk (ms u2.1 0) = σ') (hS : SV (N + 1) (PM h.1) σ') : INV (N + 1) u2 := by
  have eo : ∀ i, i ≠ 95 → (i < 34 ∨ 42 ≤ i) → u2.1 i = h.1 i := fun i h1 h2 => (eu4 i h1).trans (eu i h2)
  have eP : PM u2.1 = PM h.1 := PM_eq (by rw [eo 94 (by omega) (by omega)]) (by rw [eo 94 (by omega) (by omega)]) (fun i hi => eo i (by omega) (by omega))
  have mc : mk (cs u2.1 27) = σ' := by rw [← m1, cs_same (fun i h1 h2 => eu4 i (by omega))]
  refine INV_of hI (eu3.trans eu2) (fun i hi => eo i (by omega) (by omega)) (fun k _ _ => by rw [eo 94 (by omega) (by omega)]) (fun j hj => by rw [e95 j (by omega), eu 95 (by omega)]) ?_ ⟨by rw [mc, m2], by rw [eo 27 (by omega) (by omega)]; exact hI.2.2.1.2.1, by rw [eP, m2]; exact hS⟩
  unfold HV
  rw [eo 94 (by omega) (by omega)]
  exact hI.2.2.2.2.2.2.2
theorem NV_c {N : Nat} {h : AH} (hN : NV N h) : ∃ c : Nat, c ≤ 12 ∧ h.1 34 0 = nI c ∧ h.1 95 51 = nI c ∧ cs h.1 27 51 = nI c ∧ ms h.1 0 51 = nI c := by
  obtain ⟨c, h1, h2, -⟩ := hN.2.2.1.2.2.2.1
  have a : cs h.1 27 51 = nI c := by rw [← mk_51 (cs h.1 27), hN.1, h2]
  have b : ms h.1 0 51 = nI c := by rw [← mk_51 (ms h.1 0), h2]
  refine ⟨c, h1, ?_, ?_, a, b⟩
  · rw [← a]; exact (cs_at (f := h.1) (s := 27) (k := 51) (a := 7) (b := 0) (by decide)).symm
  · exact b

set_option maxRecDepth 100000 in
set_option maxHeartbeats 4000000 in
theorem sg_X6_clear_0 {Z : CX × GX} {post : Int32 → AH → Prop} {h : AH}  (hX : OK Z RX6 cX6_clear 2 (some .int) 0 0) 
    (w : (∀ u1 : AH, u1 = (hset h.1 (27 + 7) 0 0, h.2) → post (h.1 (27 + 7) 0) u1))
    : EX Z 2 (QI Z post) 0 h [some (.ref 0), none] [] := by
  refine ex_aload_n hX dX6_clear_0 rfl rfl ?_
  refine ex_get hX (.ref 27) FL_6_39 rfl (fun _ => rfl) dX6_clear_1 ?_
  refine ex_get hX (.ref (27 + 7)) FL_6_111 rfl (fun _ => rfl) dX6_clear_4 ?_
  refine ex_get hX (.int (h.1 (27 + 7) 0)) FL_6_115 (sh_3_7 rfl) (fun _ => rfl) dX6_clear_7 ?_
  refine ex_istore_n (lv' := [some (.ref 0), some (.int (h.1 (27 + 7) 0))]) hX dX6_clear_10 rfl (by decide) rfl ?_
  refine ex_aload_n hX dX6_clear_11 rfl rfl ?_
  refine ex_get hX (.ref 27) FL_6_39 rfl (fun _ => rfl) dX6_clear_12 ?_
  refine ex_get hX (.ref (27 + 7)) FL_6_111 rfl (fun _ => rfl) dX6_clear_15 ?_
  refine ex_iconst (v := 0) hX dX6_clear_18 rfl ?_
  refine ex_put hX .int FL_6_115 tyX5 tyX5_ok nmX5 rfl rfl rfl rfl (sh_3_7 rfl) (fun _ => (by decide : 0 < 8)) (fun _ => fs_5_0) dX6_clear_19 ?_
  refine ex_nameH (fun u1 eu1 => ?_)
  replace w := w u1 eu1
  refine ex_iload_n hX dX6_clear_22 rfl rfl ?_
  exact ex_iret hX dX6_clear_23 rfl w

set_option maxRecDepth 100000 in
set_option maxHeartbeats 4000000 in
theorem sg_X7_clear_0 {Z : CX × GX} {post : Int32 → AH → Prop} {h : AH}  (hX : OK Z RX7 cX7_clear 2 (some .int) 0 0) 
    (w : (∀ u1 : AH, u1 = (hset h.1 95 (Int32.toNatClampNeg 51) 0, h.2) → post (h.1 95 (Int32.toNatClampNeg 51)) u1))
    : EX Z 2 (QI Z post) 0 h [some (.ref 94), none] [] := by
  refine ex_aload_n hX dX7_clear_0 rfl rfl ?_
  refine ex_get hX (.ref 95) FL_7_7 rfl (fun _ => rfl) dX7_clear_1 ?_
  refine ex_bipush (v := 51) hX dX7_clear_4 rfl ?_
  refine ex_iald hX rfl (show ¬ ((51 : Int32) < 0 ∨ 800 ≤ (51 : Int32).toNatClampNeg) from by decide) dX7_clear_6 ?_
  refine ex_istore_n (lv' := [some (.ref 94), some (.int (h.1 95 (Int32.toNatClampNeg 51)))]) hX dX7_clear_7 rfl (by decide) rfl ?_
  refine ex_aload_n hX dX7_clear_8 rfl rfl ?_
  refine ex_get hX (.ref 95) FL_7_7 rfl (fun _ => rfl) dX7_clear_9 ?_
  refine ex_bipush (v := 51) hX dX7_clear_12 rfl ?_
  refine ex_iconst (v := 0) hX dX7_clear_14 rfl ?_
  refine ex_iast hX rfl (show ¬ ((51 : Int32) < 0 ∨ 800 ≤ (51 : Int32).toNatClampNeg) from by decide) dX7_clear_15 ?_
  refine ex_nameH (fun u1 eu1 => ?_)
  replace w := w u1 eu1
  refine ex_iload_n hX dX7_clear_16 rfl rfl ?_
  exact ex_iret hX dX7_clear_17 rfl w

set_option maxRecDepth 100000 in
set_option maxHeartbeats 4000000 in
theorem c_X6_clear {h : AH}    : CI yX6_clear cX6_clear 2 (some .int) 0 0 [.ref 0] h (fun r u => r = h.1 34 0 ∧ u = (hset h.1 34 0 0, h.2)) := by
  refine CI.of [some (.ref 0), none] (by decide +kernel) rfl (Nat.le_of_ble_eq_true rfl) rfl (fun Z hX => ?_)
  exact sg_X6_clear_0 hX (fun u e => ⟨rfl, e⟩)

set_option maxRecDepth 100000 in
set_option maxHeartbeats 4000000 in
theorem c_X7_clear {h : AH}    : CI yX7_clear cX7_clear 2 (some .int) 0 0 [.ref 94] h (fun r u => r = h.1 95 51 ∧ u = (hset h.1 95 51 0, h.2)) := by
  refine CI.of [some (.ref 94), none] (by decide +kernel) rfl (Nat.le_of_ble_eq_true rfl) rfl (fun Z hX => ?_)
  exact sg_X7_clear_0 hX (fun u e => ⟨rfl, e⟩)

theorem op_clear {N : Nat} {h : AH} (hI : INV N h) : OPP yX6_clear cX6_clear 2 0 0 yX7_clear cX7_clear 2 0 0 [] N h := by
  refine ⟨_, c_X6_clear, fun r u hp => ⟨_, c_X7_clear, fun r2 u2 hq => ?_⟩⟩
  obtain ⟨f1, f2⟩ := hp
  obtain ⟨g1, g2⟩ := hq
  obtain ⟨c, hc, c1, c2, c3, c4⟩ := NV_c hI.2.2.1
  have k95 : u.1 95 = h.1 95 := by rw [f2]; exact hs_o (by decide)
  refine ⟨by rw [g1, k95, f1, c1, c2], INV_logs (u := u) (σ' := noneS (mk (ms h.1 0))) hI (by rw [f2]) (fun i hi => by rw [f2, hs_o (by omega)]) (by rw [g2]) (fun i hi => by rw [g2, hs_o hi]) (fun j hj => by rw [g2, hs_i (by omega)]) ?_ ?_ ?_⟩
  · rw [← hI.2.2.1.1]
    refine mk_none hc c3 (fun j hj => ?_)
    rw [f2]
    exact congrFun (cs_set (f := h.1) (s := 27) (k := 51) (a := 7) (b := 0) (v := 0) (by decide)) j
  · refine mk_none hc c4 (fun j hj => ?_)
    show u2.1 95 (0 + j) = _
    rw [Nat.zero_add, g2]
    show hset u.1 95 51 0 95 j = _
    rw [hset_eq, k95]
    unfold upd ms
    rw [Nat.zero_add]
  · obtain ⟨⟨s1, s2, s3, s4, s5⟩, s6⟩ := SV_mono (M := N + 1) hI.2.2.1.2.2 (by omega)
    obtain ⟨n, hn, e1, e2, hP⟩ := hI.2.1.2.1
    have en := pn_M e2 hn
    have o : ∀ i, i < 51 → noneS (mk (ms h.1 0)) i = mk (ms h.1 0) i := fun i hi => by unfold noneS; rw [if_neg (by omega), if_neg (by omega)]
    refine ⟨⟨fun i hi => by rw [o i (by omega)]; exact s1 i hi, ?_, by rw [o 50 (by omega)]; exact s3, ⟨0, by omega, rfl, fun l hl => absurd hl (by omega)⟩, fun i hi => by rw [o _ (by omega)]; exact s5 i hi⟩, by rw [o _ (by omega)]; exact s6.1, by rw [show noneS (mk (ms h.1 0)) 52 = mk (ms h.1 0) 52 by unfold noneS; rw [if_neg (by omega), if_neg (by omega)]]; exact s6.2⟩
    rw [sumW_congr (fun i hi => o i (by omega))]; exact s2

set_option maxRecDepth 100000 in
set_option maxHeartbeats 4000000 in
theorem sg_X6_log_0 {Z : CX × GX} {post : Int32 → AH → Prop} {h : AH} {x1 : Int32} {x2 : Int32} (hX : OK Z RX6 cX6_log 3 (some .int) 1 23) 
    (w : (((0 ≤ x1 ∧ x1 < h.1 (h.2 1) 0) → (((1 ≤ x2 ∧ x2 ≤ 999) → (∃ PP : Int32 → AH → Prop, CI yX5_setIn cX5_setIn 4 (some .int) 0 0 [.ref (27 + 7), .int x1, .int x2] h PP ∧ ∀ (r : Int32) (u : AH), PP r u → EX Z 3 (QI Z post) 36 u [none, none, none] (.int r :: []))) ∧ (¬ (1 ≤ x2 ∧ x2 ≤ 999) → post (-100000002) h))) ∧ (¬ (0 ≤ x1 ∧ x1 < h.1 (h.2 1) 0) → post (-100000001) h)))
    : EX Z 3 (QI Z post) 0 h [some (.ref 0), some (.int x1), some (.int x2)] [] := by
  refine ex_aload_n hX dX6_log_0 rfl rfl ?_
  refine ex_gg (fun c1 => ?_)
  refine ex_get hX (.ref (h.2 1)) FL_6_19 rfl (fun _ => rfl) dX6_log_1 ?_
  refine ex_iload_n hX dX6_log_4 rfl rfl ?_
  refine ex_pIv (ci := 0) (i := h.2 1) (As := [.int x1]) (st := []) hX (c_X0_isNode (h := h) c1.1) CS_6_122 MS_X0_isNode rfl c1.1 rfl (by decide) rfl (Nat.le_of_ble_eq_true rfl) dX6_log_5 ?_
  refine ex_ifneB hX 14 dX6_log_8 (by decide) (fun c2 => ?_) (fun c2 => ?_)
  · replace w := w.1 c2
    refine ex_iload_n hX dX6_log_14 rfl rfl ?_
    refine ex_pIs (As := [.int x2]) (st := []) hX (c_X6_isWeight (h := h)) CS_6_172 MS_X6_isWeight rfl (by decide) rfl (Nat.le_of_ble_eq_true rfl) dX6_log_15 ?_
    refine ex_ifneB hX 24 dX6_log_18 (by decide) (fun c3 => ?_) (fun c3 => ?_)
    · replace w := w.1 c3
      refine ex_aload_n hX dX6_log_24 rfl rfl ?_
      refine ex_get hX (.ref 27) FL_6_39 rfl (fun _ => rfl) dX6_log_25 ?_
      refine ex_get hX (.ref (27 + 7)) FL_6_111 rfl (fun _ => rfl) dX6_log_28 ?_
      refine ex_iload_n hX dX6_log_31 rfl rfl ?_
      refine ex_iload_n hX dX6_log_32 rfl rfl ?_
      obtain ⟨PP, pM, pK⟩ := w
      exact ex_callIv (ci := 5) (i := 27 + 7) (As := [.int x1, .int x2]) (st := []) hX pM CS_6_175 MS_X5_setIn rfl (sh_3_7 rfl) rfl (by decide) rfl (Nat.le_of_ble_eq_true rfl) dX6_log_33 (fun r u hp => ex_forget [none, none, none] trivial (pK r u hp))
    · replace w := w.2 c3
      refine ex_ldc hX dX6_log_21 KC_6_72 ?_
      exact ex_iret hX dX6_log_23 rfl w
  · replace w := w.2 c2
    refine ex_ldc hX dX6_log_11 KC_6_126 ?_
    exact ex_iret hX dX6_log_13 rfl w

set_option maxRecDepth 100000 in
set_option maxHeartbeats 4000000 in
theorem sg_X6_log_36 {Z : CX × GX} {post : Int32 → AH → Prop} {h : AH} {s0 : Int32} (hX : OK Z RX6 cX6_log 3 (some .int) 1 23) 
    (w : post s0 h)
    : EX Z 3 (QI Z post) 36 h [none, none, none] [.int s0] := by
  exact ex_iret hX dX6_log_36 rfl w

set_option maxRecDepth 100000 in
set_option maxHeartbeats 4000000 in
theorem sg_X7_log_0 {Z : CX × GX} {post : Int32 → AH → Prop} {h : AH} {x1 : Int32} {x2 : Int32} (hX : OK Z RX7 cX7_log 4 (some .int) 2 46) 
    (w : (((0 ≤ x1 ∧ x1 ≤ h.1 94 9 - 1) → (((1 ≤ (Int32.toInt64 x2) ∧ (Int32.toInt64 x2) ≤ 999) → ((¬ (h.1 95 (Int32.toNatClampNeg 51)) = 12 → (vp_in (60 + (h.1 95 (Int32.toNatClampNeg 51))) 800) ∧ (∀ u5 : AH, u5 = (hset h.1 95 (Int32.toNatClampNeg (60 + (h.1 95 (Int32.toNatClampNeg 51)))) x1, h.2) → (vp_in (72 + (h.1 95 (Int32.toNatClampNeg 51))) 800) ∧ (∀ u7 : AH, u7 = (hset u5.1 95 (Int32.toNatClampNeg (72 + (h.1 95 (Int32.toNatClampNeg 51)))) x2, u5.2) → (vp_in (84 + (h.1 95 (Int32.toNatClampNeg 51))) 800) ∧ (∀ u9 : AH, u9 = (hset u7.1 95 (Int32.toNatClampNeg (84 + (h.1 95 (Int32.toNatClampNeg 51)))) x1, u7.2) → (vp_in (96 + (h.1 95 (Int32.toNatClampNeg 51))) 800) ∧ (∀ u11 : AH, u11 = (hset u9.1 95 (Int32.toNatClampNeg (96 + (h.1 95 (Int32.toNatClampNeg 51)))) 0, u9.2) → (vp_in (108 + (h.1 95 (Int32.toNatClampNeg 51))) 800) ∧ (∀ u13 : AH, u13 = (hset u11.1 95 (Int32.toNatClampNeg (108 + (h.1 95 (Int32.toNatClampNeg 51)))) 0, u11.2) → (vp_in (120 + (h.1 95 (Int32.toNatClampNeg 51))) 800) ∧ (∀ u15 : AH, u15 = (hset u13.1 95 (Int32.toNatClampNeg (120 + (h.1 95 (Int32.toNatClampNeg 51)))) 0, u13.2) → (vp_in (132 + (h.1 95 (Int32.toNatClampNeg 51))) 800) ∧ (∀ u17 : AH, u17 = (hset u15.1 95 (Int32.toNatClampNeg (132 + (h.1 95 (Int32.toNatClampNeg 51)))) 0, u15.2) → (∀ u18 : AH, u18 = (hset u17.1 95 (Int32.toNatClampNeg 51) ((h.1 95 (Int32.toNatClampNeg 51)) + 1), u17.2) → post (h.1 95 (Int32.toNatClampNeg 51)) u18))))))))) ∧ ((h.1 95 (Int32.toNatClampNeg 51)) = 12 → post (-100000004) h))) ∧ (¬ (1 ≤ (Int32.toInt64 x2) ∧ (Int32.toInt64 x2) ≤ 999) → post (-100000002) h))) ∧ (¬ (0 ≤ x1 ∧ x1 ≤ h.1 94 9 - 1) → post (-100000001) h)))
    : EX Z 4 (QI Z post) 0 h [some (.ref 94), some (.int x1), some (.int x2), none] [] := by
  refine ex_aload_n hX dX7_log_0 rfl rfl ?_
  refine ex_iload_n hX dX7_log_1 rfl rfl ?_
  refine ex_pIv (ci := 7) (i := 94) (As := [.int x1]) (st := []) hX (c_X7_isNode (h := h)) CS_7_181 MS_X7_isNode rfl rfl rfl (by decide) rfl (Nat.le_of_ble_eq_true rfl) dX7_log_2 ?_
  refine ex_ifneB hX 11 dX7_log_5 (by decide) (fun c1 => ?_) (fun c1 => ?_)
  · replace w := w.1 c1
    refine ex_iload_n hX dX7_log_11 rfl rfl ?_
    refine ex_i2l hX dX7_log_12 ?_
    refine ex_lconst (v := 1) hX dX7_log_13 rfl ?_
    refine ex_ldc2 hX dX7_log_14 KL_7_246 ?_
    refine ex_pIs (As := [.long (Int32.toInt64 x2), .long 1, .long 999]) (st := []) hX (c_X7_in (h := h)) CS_7_71 MS_X7_in rfl (by decide) rfl (Nat.le_of_ble_eq_true rfl) dX7_log_17 ?_
    refine ex_ifneB hX 26 dX7_log_20 (by decide) (fun c2 => ?_) (fun c2 => ?_)
    · replace w := w.1 c2
      refine ex_aload_n hX dX7_log_26 rfl rfl ?_
      refine ex_get hX (.ref 95) FL_7_7 rfl (fun _ => rfl) dX7_log_27 ?_
      refine ex_bipush (v := 51) hX dX7_log_30 rfl ?_
      refine ex_iald hX rfl (show ¬ ((51 : Int32) < 0 ∨ 800 ≤ (51 : Int32).toNatClampNeg) from by decide) dX7_log_32 ?_
      refine ex_bipush (v := 12) hX dX7_log_33 rfl ?_
      refine ex_icmpne hX 41 dX7_log_35 (by decide) (fun c3 => ?_) (fun c3 => ?_)
      · replace w := w.1 c3
        refine ex_aload_n hX dX7_log_41 rfl rfl ?_
        refine ex_get hX (.ref 95) FL_7_7 rfl (fun _ => rfl) dX7_log_42 ?_
        refine ex_bipush (v := 51) hX dX7_log_45 rfl ?_
        refine ex_iald hX rfl (show ¬ ((51 : Int32) < 0 ∨ 800 ≤ (51 : Int32).toNatClampNeg) from by decide) dX7_log_47 ?_
        refine ex_istore_n (lv' := [some (.ref 94), some (.int x1), some (.int x2), some (.int (h.1 95 (Int32.toNatClampNeg 51)))]) hX dX7_log_48 rfl (by decide) rfl ?_
        refine ex_aload_n hX dX7_log_49 rfl rfl ?_
        refine ex_get hX (.ref 95) FL_7_7 rfl (fun _ => rfl) dX7_log_50 ?_
        refine ex_bipush (v := 60) hX dX7_log_53 rfl ?_
        refine ex_iload_n hX dX7_log_55 rfl rfl ?_
        refine ex_iadd hX dX7_log_56 ?_
        refine ex_iload_n hX dX7_log_57 rfl rfl ?_
        obtain ⟨q4, w⟩ := w
        refine ex_iast hX rfl q4 dX7_log_58 ?_
        refine ex_nameH (fun u5 eu5 => ?_)
        replace w := w u5 eu5
        refine ex_aload_n hX dX7_log_59 rfl rfl ?_
        refine ex_get hX (.ref 95) FL_7_7 rfl (fun _ => rfl) dX7_log_60 ?_
        refine ex_bipush (v := 72) hX dX7_log_63 rfl ?_
        refine ex_iload_n hX dX7_log_65 rfl rfl ?_
        refine ex_iadd hX dX7_log_66 ?_
        refine ex_iload_n hX dX7_log_67 rfl rfl ?_
        obtain ⟨q6, w⟩ := w
        refine ex_iast hX rfl q6 dX7_log_68 ?_
        refine ex_nameH (fun u7 eu7 => ?_)
        replace w := w u7 eu7
        refine ex_aload_n hX dX7_log_69 rfl rfl ?_
        refine ex_get hX (.ref 95) FL_7_7 rfl (fun _ => rfl) dX7_log_70 ?_
        refine ex_bipush (v := 84) hX dX7_log_73 rfl ?_
        refine ex_iload_n hX dX7_log_75 rfl rfl ?_
        refine ex_iadd hX dX7_log_76 ?_
        refine ex_iload_n hX dX7_log_77 rfl rfl ?_
        obtain ⟨q8, w⟩ := w
        refine ex_iast hX rfl q8 dX7_log_78 ?_
        refine ex_nameH (fun u9 eu9 => ?_)
        replace w := w u9 eu9
        refine ex_aload_n hX dX7_log_79 rfl rfl ?_
        refine ex_get hX (.ref 95) FL_7_7 rfl (fun _ => rfl) dX7_log_80 ?_
        refine ex_bipush (v := 96) hX dX7_log_83 rfl ?_
        refine ex_iload_n hX dX7_log_85 rfl rfl ?_
        refine ex_iadd hX dX7_log_86 ?_
        refine ex_iconst (v := 0) hX dX7_log_87 rfl ?_
        obtain ⟨q10, w⟩ := w
        refine ex_iast hX rfl q10 dX7_log_88 ?_
        refine ex_nameH (fun u11 eu11 => ?_)
        replace w := w u11 eu11
        refine ex_aload_n hX dX7_log_89 rfl rfl ?_
        refine ex_get hX (.ref 95) FL_7_7 rfl (fun _ => rfl) dX7_log_90 ?_
        refine ex_bipush (v := 108) hX dX7_log_93 rfl ?_
        refine ex_iload_n hX dX7_log_95 rfl rfl ?_
        refine ex_iadd hX dX7_log_96 ?_
        refine ex_iconst (v := 0) hX dX7_log_97 rfl ?_
        obtain ⟨q12, w⟩ := w
        refine ex_iast hX rfl q12 dX7_log_98 ?_
        refine ex_nameH (fun u13 eu13 => ?_)
        replace w := w u13 eu13
        refine ex_aload_n hX dX7_log_99 rfl rfl ?_
        refine ex_get hX (.ref 95) FL_7_7 rfl (fun _ => rfl) dX7_log_100 ?_
        refine ex_bipush (v := 120) hX dX7_log_103 rfl ?_
        refine ex_iload_n hX dX7_log_105 rfl rfl ?_
        refine ex_iadd hX dX7_log_106 ?_
        refine ex_iconst (v := 0) hX dX7_log_107 rfl ?_
        obtain ⟨q14, w⟩ := w
        refine ex_iast hX rfl q14 dX7_log_108 ?_
        refine ex_nameH (fun u15 eu15 => ?_)
        replace w := w u15 eu15
        refine ex_aload_n hX dX7_log_109 rfl rfl ?_
        refine ex_get hX (.ref 95) FL_7_7 rfl (fun _ => rfl) dX7_log_110 ?_
        refine ex_sipush (v := 132) hX dX7_log_113 rfl ?_
        refine ex_iload_n hX dX7_log_116 rfl rfl ?_
        refine ex_iadd hX dX7_log_117 ?_
        refine ex_iconst (v := 0) hX dX7_log_118 rfl ?_
        obtain ⟨q16, w⟩ := w
        refine ex_iast hX rfl q16 dX7_log_119 ?_
        refine ex_nameH (fun u17 eu17 => ?_)
        replace w := w u17 eu17
        refine ex_aload_n hX dX7_log_120 rfl rfl ?_
        refine ex_get hX (.ref 95) FL_7_7 rfl (fun _ => rfl) dX7_log_121 ?_
        refine ex_bipush (v := 51) hX dX7_log_124 rfl ?_
        refine ex_iload_n hX dX7_log_126 rfl rfl ?_
        refine ex_iconst (v := 1) hX dX7_log_127 rfl ?_
        refine ex_iadd hX dX7_log_128 ?_
        refine ex_iast hX rfl (show ¬ ((51 : Int32) < 0 ∨ 800 ≤ (51 : Int32).toNatClampNeg) from by decide) dX7_log_129 ?_
        refine ex_nameH (fun u18 eu18 => ?_)
        replace w := w u18 eu18
        refine ex_iload_n hX dX7_log_130 rfl rfl ?_
        exact ex_iret hX dX7_log_131 rfl w
      · replace w := w.2 c3
        refine ex_ldc hX dX7_log_38 KC_7_79 ?_
        exact ex_iret hX dX7_log_40 rfl w
    · replace w := w.2 c2
      refine ex_ldc hX dX7_log_23 KC_7_75 ?_
      exact ex_iret hX dX7_log_25 rfl w
  · replace w := w.2 c1
    refine ex_ldc hX dX7_log_8 KC_7_185 ?_
    exact ex_iret hX dX7_log_10 rfl w

theorem grow_upd {c : Nat} {k w : Int32} {σ : SG} (j : Nat) : upd (upd (upd (upd (upd (upd (upd (upd σ (60 + c) k) (72 + c) w) (84 + c) k) (96 + c) 0) (108 + c) 0) (120 + c) 0) (132 + c) 0) 51 (nI (c + 1)) j = growS c k w σ j := by
  unfold growS
  by_cases e1 : j = 51
  · subst e1; rw [upd_eq, if_pos rfl]
  · rw [upd_ne e1, if_neg e1]
    by_cases e7 : j = 132 + c
    · subst e7; rw [upd_eq, if_neg (by omega), if_neg (by omega), if_pos (by omega)]
    · rw [upd_ne e7]
      by_cases e6 : j = 120 + c
      · subst e6; rw [upd_eq, if_neg (by omega), if_neg (by omega), if_pos (by omega)]
      · rw [upd_ne e6]
        by_cases e5 : j = 108 + c
        · subst e5; rw [upd_eq, if_neg (by omega), if_neg (by omega), if_pos (by omega)]
        · rw [upd_ne e5]
          by_cases e4 : j = 96 + c
          · subst e4; rw [upd_eq, if_neg (by omega), if_neg (by omega), if_pos (by omega)]
          · rw [upd_ne e4]
            by_cases e3 : j = 84 + c
            · subst e3; rw [upd_eq, if_pos (by omega)]
            · rw [upd_ne e3]
              by_cases e2 : j = 72 + c
              · subst e2; rw [upd_eq, if_neg (by omega), if_pos (by omega)]
              · rw [upd_ne e2]
                by_cases e0 : j = 60 + c
                · subst e0; rw [upd_eq, if_pos (by omega)]
                · rw [upd_ne e0, if_neg (by omega), if_neg (by omega), if_neg (by omega)]

set_option maxRecDepth 100000 in
set_option maxHeartbeats 4000000 in
theorem c_X5_setIn {h : AH} {a0 : Nat} {a1 : Int32} {a2 : Int32} (ha0 : oc a0 = some 5) {c : Nat} (e0 : a0 = 34) (hc : c ≤ 12) (ec : h.1 34 0 = nI c) : CI yX5_setIn cX5_setIn 4 (some .int) 0 0 [.ref a0, .int a1, .int a2] h (fun r u => (c = 12 → r = -100000004 ∧ u = h) ∧ (c < 12 → r = nI c ∧ u.2 = h.2 ∧ (∀ i, (i < 34 ∨ 42 ≤ i) → u.1 i = h.1 i) ∧ (∀ j, j < 200 → cs u.1 27 j = growS c a1 a2 (cs h.1 27) j))) := by
  refine CI.of [some (.ref a0), some (.int a1), some (.int a2), none] (by decide +kernel) rfl (Nat.le_of_ble_eq_true rfl) rfl (fun Z hX => ?_)
  subst e0
  refine sg_X5_setIn_0 hX rfl ⟨fun d => ?_, fun d => ⟨fun _ => ⟨rfl, rfl⟩, fun z => absurd (by rw [ec, k_12, nI_ltI (by omega) (by omega)]; exact z) d⟩⟩
  rw [ec, k_12, nI_ltI (by omega) (by omega)] at d
  have b : vp_in (nI c) 12 := vp_in_nI d (by omega)
  rw [ec, nI_clamp (by omega)]
  refine ⟨b, fun u3 e3 => ⟨b, fun u5 e5 => ⟨b, fun u7 e7 => ⟨b, fun u9 e9 => ⟨b, fun u11 e11 => ⟨b, fun u13 e13 => ⟨b, fun u15 e15 u16 e16 => ⟨fun z => by omega, fun _ => ⟨rfl, ?_, ?_, ?_⟩⟩⟩⟩⟩⟩⟩⟩⟩
  · rw [e16, e15, e13, e11, e9, e7, e5, e3]
  · intro i hi
    rw [e16, hs_o (by omega), e15, hs_o (by omega), e13, hs_o (by omega), e11, hs_o (by omega), e9, hs_o (by omega), e7, hs_o (by omega), e5, hs_o (by omega), e3, hs_o (by omega)]
  · have k0 : u15.1 34 0 = nI c := by rw [e15, hs_o (by omega), e13, hs_o (by omega), e11, hs_o (by omega), e9, hs_o (by omega), e7, hs_o (by omega), e5, hs_o (by omega), e3, hs_o (by omega), ec]
    rw [k0, nI_1] at e16
    have m3 : cs u3.1 27 = upd (cs h.1 27) (60 + c) a1 := by rw [e3]; exact cs_set (s := 27) (loc_60 c d)
    have m5 : cs u5.1 27 = upd (cs u3.1 27) (72 + c) a2 := by rw [e5]; exact cs_set (s := 27) (loc_72 c d)
    have m7 : cs u7.1 27 = upd (cs u5.1 27) (84 + c) a1 := by rw [e7]; exact cs_set (s := 27) (loc_84 c d)
    have m9 : cs u9.1 27 = upd (cs u7.1 27) (96 + c) 0 := by rw [e9]; exact cs_set (s := 27) (loc_96 c d)
    have m11 : cs u11.1 27 = upd (cs u9.1 27) (108 + c) 0 := by rw [e11]; exact cs_set (s := 27) (loc_108 c d)
    have m13 : cs u13.1 27 = upd (cs u11.1 27) (120 + c) 0 := by rw [e13]; exact cs_set (s := 27) (loc_120 c d)
    have m15 : cs u15.1 27 = upd (cs u13.1 27) (132 + c) 0 := by rw [e15]; exact cs_set (s := 27) (loc_132 c d)
    have m16 : cs u16.1 27 = upd (cs u15.1 27) 51 (nI (c + 1)) := by rw [e16]; exact cs_set (s := 27) (k := 51) (a := 7) (b := 0) (by decide)
    intro j hj
    rw [m16, m15, m13, m11, m9, m7, m5, m3]
    exact grow_upd j

set_option maxRecDepth 100000 in
set_option maxHeartbeats 4000000 in
theorem c_X6_log {h : AH} {a1 : Int32} {a2 : Int32}  {n c : Nat} (hn : n ≤ 10) (en : h.1 (h.2 1) 0 = nI n) (hc : c ≤ 12) (ec : h.1 34 0 = nI c) : CI yX6_log cX6_log 3 (some .int) 1 23 [.ref 0, .int a1, .int a2] h (fun r u => (¬ (∃ k, k < n ∧ a1 = nI k) → r = -100000001 ∧ u = h) ∧ ((∃ k, k < n ∧ a1 = nI k) → (¬ (1 ≤ a2 ∧ a2 ≤ 999) → r = -100000002 ∧ u = h) ∧ ((1 ≤ a2 ∧ a2 ≤ 999) → (c = 12 → r = -100000004 ∧ u = h) ∧ (c < 12 → r = nI c ∧ u.2 = h.2 ∧ (∀ i, (i < 34 ∨ 42 ≤ i) → u.1 i = h.1 i) ∧ (∀ j, j < 200 → cs u.1 27 j = growS c a1 a2 (cs h.1 27) j))))) := by
  refine CI.of [some (.ref 0), some (.int a1), some (.int a2)] (by decide +kernel) rfl (Nat.le_of_ble_eq_true rfl) rfl (fun Z hX => ?_)
  refine sg_X6_log_0 hX ⟨fun d => ⟨fun d2 => ⟨_, c_X5_setIn (a0 := 34) rfl rfl hc ec, fun r u hu => ?_⟩, fun d2 => ?_⟩, fun d => ?_⟩
  · rw [en, nd1 hn] at d
    refine sg_X6_log_36 hX ?_
    exact ⟨fun z => absurd d z, fun _ => ⟨fun z => absurd d2 z, fun _ => hu⟩⟩
  · rw [en, nd1 hn] at d
    exact ⟨fun z => absurd d z, fun _ => ⟨fun _ => ⟨rfl, rfl⟩, fun z => absurd z d2⟩⟩
  · rw [en, nd1 hn] at d
    exact ⟨fun _ => ⟨rfl, rfl⟩, fun z => absurd z d⟩

set_option maxRecDepth 100000 in
set_option maxHeartbeats 4000000 in
theorem c_X7_log {h : AH} {a1 : Int32} {a2 : Int32}  {n c : Nat} (hn : n ≤ 10) (en : h.1 94 9 = nI n) (hc : c ≤ 12) (ec : h.1 95 51 = nI c) : CI yX7_log cX7_log 4 (some .int) 2 46 [.ref 94, .int a1, .int a2] h (fun r u => (¬ (∃ k, k < n ∧ a1 = nI k) → r = -100000001 ∧ u = h) ∧ ((∃ k, k < n ∧ a1 = nI k) → (¬ (1 ≤ Int32.toInt64 a2 ∧ Int32.toInt64 a2 ≤ 999) → r = -100000002 ∧ u = h) ∧ ((1 ≤ Int32.toInt64 a2 ∧ Int32.toInt64 a2 ≤ 999) → (c = 12 → r = -100000004 ∧ u = h) ∧ (c < 12 → r = nI c ∧ u.2 = h.2 ∧ (∀ i, i ≠ 95 → u.1 i = h.1 i) ∧ (∀ j, 200 ≤ j → u.1 95 j = h.1 95 j) ∧ (∀ j, j < 200 → ms u.1 0 j = growS c a1 a2 (ms h.1 0) j))))) := by
  refine CI.of [some (.ref 94), some (.int a1), some (.int a2), none] (by decide +kernel) rfl (Nat.le_of_ble_eq_true rfl) rfl (fun Z hX => ?_)
  have cz : Int32.toNatClampNeg 51 = 51 := by decide
  refine sg_X7_log_0 hX ⟨fun d => ?_, fun d => ?_⟩
  · rw [en, nd2 hn] at d
    refine ⟨fun d2 => ?_, fun d2 => ⟨fun z => absurd d z, fun _ => ⟨fun _ => ⟨rfl, rfl⟩, fun z => absurd z d2⟩⟩⟩
    rw [cz, ec, k_12, nI_eq (by omega) (by omega)]
    refine ⟨fun d3 => ?_, fun d3 => ⟨fun z => absurd d z, fun _ => ⟨fun z => absurd d2 z, fun _ => ⟨fun _ => ⟨rfl, rfl⟩, fun z => by omega⟩⟩⟩⟩
    have bx : ∀ q : Nat, q ≤ 132 → vp_in (nI q + nI c) 800 := fun q hq => by rw [nI_add]; exact vp_in_nI (by omega) (by omega)
    have ix : ∀ q : Nat, q ≤ 132 → Int32.toNatClampNeg (nI q + nI c) = q + c := fun q hq => by rw [nI_add, nI_clamp (by omega)]
    rw [show (60 : Int32) = nI 60 from rfl, show (72 : Int32) = nI 72 from rfl, show (84 : Int32) = nI 84 from rfl, show (96 : Int32) = nI 96 from rfl, show (108 : Int32) = nI 108 from rfl, show (120 : Int32) = nI 120 from rfl, show (132 : Int32) = nI 132 from rfl, ix 60 (by omega), ix 72 (by omega), ix 84 (by omega), ix 96 (by omega), ix 108 (by omega), ix 120 (by omega), ix 132 (by omega), nI_1]
    refine ⟨bx 60 (by omega), fun u3 e3 => ⟨bx 72 (by omega), fun u5 e5 => ⟨bx 84 (by omega), fun u7 e7 => ⟨bx 96 (by omega), fun u9 e9 => ⟨bx 108 (by omega), fun u11 e11 => ⟨bx 120 (by omega), fun u13 e13 => ⟨bx 132 (by omega), fun u15 e15 u16 e16 => ⟨fun z => absurd d z, fun _ => ⟨fun z => absurd d2 z, fun _ => ⟨fun z => absurd z d3, fun _ => ⟨rfl, ?_, ?_, ?_, ?_⟩⟩⟩⟩⟩⟩⟩⟩⟩⟩⟩
    · rw [e16, e15, e13, e11, e9, e7, e5, e3]
    · intro i hi
      rw [e16, hs_o hi, e15, hs_o hi, e13, hs_o hi, e11, hs_o hi, e9, hs_o hi, e7, hs_o hi, e5, hs_o hi, e3, hs_o hi]
    · intro j hj
      rw [e16, hs_i (by omega), e15, hs_i (by omega), e13, hs_i (by omega), e11, hs_i (by omega), e9, hs_i (by omega), e7, hs_i (by omega), e5, hs_i (by omega), e3, hs_i (by omega)]
    · have st : ∀ (u v : AH) (q : Nat) (x : Int32), v = (hset u.1 95 q x, u.2) → ms v.1 0 = upd (ms u.1 0) q x := by
        intro u v q x e
        have := ms_set (f := u.1) (ρ := 0) (k := q) (v := x)
        rw [Nat.zero_add] at this
        rw [e]; exact this
      intro j hj
      rw [st _ _ _ _ e16, st _ _ _ _ e15, st _ _ _ _ e13, st _ _ _ _ e11, st _ _ _ _ e9, st _ _ _ _ e7, st _ _ _ _ e5, st _ _ _ _ e3]
      exact grow_upd j
  · rw [en, nd2 hn] at d
    exact ⟨fun _ => ⟨rfl, rfl⟩, fun z => absurd z d⟩

theorem rng1 {x : Int32} : (1 ≤ x ∧ x ≤ 999) ↔ (1 ≤ Int32.toInt64 x ∧ Int32.toInt64 x ≤ 999) := by
  rw [Int32.le_iff_toInt_le, Int32.le_iff_toInt_le, Int64.le_iff_toInt_le, Int64.le_iff_toInt_le, Int32.toInt_toInt64]
  exact Iff.rfl
theorem op_log {N : Nat} {h : AH} {k w : Int32} (hI : INV N h) : OPP yX6_log cX6_log 3 1 23 yX7_log cX7_log 4 2 46 [.int k, .int w] N h := by
  obtain ⟨n, hn, e1, e2, hP⟩ := hI.2.1.2.1
  obtain ⟨c, hc, c1, c2, c3, c4⟩ := NV_c hI.2.2.1
  refine ⟨_, c_X6_log hn e1 hc c1, fun r u hp => ?_⟩
  by_cases d : ∃ j, j < n ∧ k = nI j
  · by_cases d2 : 1 ≤ w ∧ w ≤ 999
    · by_cases d3 : c = 12
      · obtain ⟨f1, f2⟩ := ((hp.2 d).2 d2).1 d3
        subst f2
        refine ⟨_, c_X7_log hn e2 hc c2, fun r2 u2 hq => ?_⟩
        obtain ⟨g1, g2⟩ := ((hq.2 d).2 (rng1.mp d2)).1 d3
        exact ⟨by rw [g1, f1], by rw [g2]; exact INV_mono hI (by omega)⟩
      · obtain ⟨f1, f2, f3, f4⟩ := ((hp.2 d).2 d2).2 (by omega)
        refine ⟨_, c_X7_log (h := u) hn (by rw [f3 94 (by omega)]; exact e2) hc (by rw [f3 95 (by omega)]; exact c2), fun r2 u2 hq => ?_⟩
        obtain ⟨g1, g2, g3, g4, g5⟩ := ((hq.2 d).2 (rng1.mp d2)).2 (by omega)
        have mu : ms u.1 0 = ms h.1 0 := by unfold ms; rw [f3 95 (by omega)]
        rw [mu] at g5
        refine ⟨by rw [g1, f1], INV_logs (u := u) (σ' := growS c k w (mk (ms h.1 0))) hI f2 f3 g2 g3 g4 (by rw [← hI.2.2.1.1]; exact mk_grow (by omega) c3 f4) (mk_grow (by omega) c4 g5) ?_⟩
        obtain ⟨⟨s1, s2, s3, s4, s5⟩, s6⟩ := SV_mono (M := N + 1) hI.2.2.1.2.2 (by omega)
        have en := pn_M e2 hn
        have o : ∀ i, i < 51 → growS c k w (mk (ms h.1 0)) i = mk (ms h.1 0) i := fun i hi => by unfold growS; rw [if_neg (by omega), if_neg (by omega), if_neg (by omega), if_neg (by omega)]
        refine ⟨⟨fun i hi => by rw [o i (by omega)]; exact s1 i hi, ?_, by rw [o 50 (by omega)]; exact s3, ⟨c + 1, by omega, rfl, fun l hl => ?_⟩, fun i hi => by rw [o _ (by omega)]; exact s5 i hi⟩, by rw [o _ (by omega)]; exact s6.1, by rw [show growS c k w (mk (ms h.1 0)) 52 = mk (ms h.1 0) 52 by unfold growS; rw [if_neg (by omega), if_neg (by omega), if_neg (by omega), if_neg (by omega)]]; exact s6.2⟩
        · rw [sumW_congr (fun i hi => o i (by omega))]; exact s2
        · obtain ⟨cc, q1, q2, q3⟩ := s4
          have ecc : cc = c := by
            have : nI cc = nI c := by rw [← q2, mk_51, c4]
            exact (nI_eq (by omega) (by omega)).mp this
          subst ecc
          by_cases el : l = cc
          · subst el
            unfold growS
            rw [if_neg (by omega), if_pos (by omega), if_neg (by omega), if_neg (by omega), if_pos (by omega), en]
            obtain ⟨j, hj, ej⟩ := d
            refine ⟨⟨j, hj, ej⟩, ?_⟩
            have := d2.1
            simp only [Int32.le_iff_toInt_le, Int32.lt_iff_toInt_lt] at *
            exact Int.lt_of_lt_of_le (by decide) this
          · have o2 : ∀ q, (q = 60 ∨ q = 72) → growS cc k w (mk (ms h.1 0)) (q + l) = mk (ms h.1 0) (q + l) := fun q hq => by unfold growS; rw [if_neg (by omega), if_neg (by omega), if_neg (by omega), if_neg (by omega)]
            rw [o2 60 (by omega), o2 72 (by omega)]
            exact q3 l (by omega)
    · obtain ⟨f1, f2⟩ := (hp.2 d).1 d2
      subst f2
      refine ⟨_, c_X7_log hn e2 hc c2, fun r2 u2 hq => ?_⟩
      obtain ⟨g1, g2⟩ := (hq.2 d).1 (fun z => d2 (rng1.mpr z))
      exact ⟨by rw [g1, f1], by rw [g2]; exact INV_mono hI (by omega)⟩
  · obtain ⟨f1, f2⟩ := hp.1 d
    subst f2
    refine ⟨_, c_X7_log hn e2 hc c2, fun r2 u2 hq => ?_⟩
    obtain ⟨g1, g2⟩ := hq.1 d
    exact ⟨by rw [g1, f1], by rw [g2]; exact INV_mono hI (by omega)⟩
