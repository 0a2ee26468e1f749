set_option maxRecDepth 100000 in
set_option maxHeartbeats 4000000 in
theorem sg_X7_wayFrom_0 {Z : CX × GX} {post : Int32 → AH → Prop} {h : AH} {x1 : Int32} {x2 : Int32} {x3 : Int32} (hX : OK Z RX7 cX7_wayFrom 6 (some .int) 1 20) 
    (w : ((¬ x2 = (h.1 94 9 - 1) → (vp_in ((x1 + 20) + x2) 800) ∧ True) ∧ (∀ v3 : Int32, v3 = (if x2 = (h.1 94 9 - 1) then (0 : Int32) else h.1 95 (Int32.toNatClampNeg ((x1 + 20) + x2))) → ((¬ x2 = 0 → (vp_in (((x1 + 20) + x2) - 1) 800) ∧ True) ∧ (∀ v6 : Int32, v6 = (if x2 = 0 then (0 : Int32) else -(h.1 95 (Int32.toNatClampNeg (((x1 + 20) + x2) - 1)))) → ((v3 < x3 → ((v6 < x3 → post 0 h) ∧ (¬ v6 < x3 → post (-1) h))) ∧ (¬ v3 < x3 → ((v3 < v6 → ((v6 < x3 → post 0 h) ∧ (¬ v6 < x3 → post (-1) h))) ∧ (¬ v3 < v6 → post 1 h)))))))))
    : EX Z 6 (QI Z post) 0 h [some (.ref 94), some (.int x1), some (.int x2), some (.int x3), none, none] [] := by
  refine ex_iload_n hX dX7_wayFrom_0 rfl rfl ?_
  refine ex_aload_n hX dX7_wayFrom_1 rfl rfl ?_
  refine ex_pIv (ci := 7) (i := 94) (As := []) (st := [.int x2]) hX (c_X7_sea (h := h)) CS_7_174 MS_X7_sea rfl rfl rfl (by decide) rfl (Nat.le_of_ble_eq_true rfl) dX7_wayFrom_2 ?_
  obtain ⟨wac1, w⟩ := w
  have kc1 : EX Z 6 (QI Z post) 23 h [some (.ref 94), some (.int x1), some (.int x2), some (.int x3), none, none] [.int (if x2 = (h.1 94 9 - 1) then (0 : Int32) else h.1 95 (Int32.toNatClampNeg ((x1 + 20) + x2)))] := by
    refine ex_nameI (fun v3 ev3 => ?_)
    replace w := w v3 ev3
    refine ex_istore (lv' := [some (.ref 94), some (.int x1), some (.int x2), some (.int x3), some (.int v3), none]) hX dX7_wayFrom_23 (by decide) rfl ?_
    refine ex_iload_n hX dX7_wayFrom_25 rfl rfl ?_
    obtain ⟨wac4, w⟩ := w
    have kc4 : EX Z 6 (QI Z post) 47 h [none, none, none, some (.int x3), some (.int v3), none] [.int (if x2 = 0 then (0 : Int32) else -(h.1 95 (Int32.toNatClampNeg (((x1 + 20) + x2) - 1))))] := by
      refine ex_nameI (fun v6 ev6 => ?_)
      replace w := w v6 ev6
      refine ex_istore (lv' := [none, none, none, some (.int x3), some (.int v3), some (.int v6)]) hX dX7_wayFrom_47 (by decide) rfl ?_
      refine ex_iload hX dX7_wayFrom_49 rfl ?_
      refine ex_iload_n hX dX7_wayFrom_51 rfl rfl ?_
      refine ex_icmplt hX 64 dX7_wayFrom_52 (by decide) (fun c7 => ?_) (fun c7 => ?_)
      · replace w := w.1 c7
        refine ex_iload hX dX7_wayFrom_64 rfl ?_
        refine ex_iload_n hX dX7_wayFrom_66 rfl rfl ?_
        refine ex_icmplt hX 74 dX7_wayFrom_67 (by decide) (fun c8 => ?_) (fun c8 => ?_)
        · replace w := w.1 c8
          refine ex_iconst (v := 0) hX dX7_wayFrom_74 rfl ?_
          exact ex_iret hX dX7_wayFrom_75 rfl w
        · replace w := w.2 c8
          refine ex_iconst (v := (-1)) hX dX7_wayFrom_70 rfl ?_
          refine ex_goto hX 75 dX7_wayFrom_71 (by decide) ?_
          exact ex_iret hX dX7_wayFrom_75 rfl w
      · replace w := w.2 c7
        refine ex_iload hX dX7_wayFrom_55 rfl ?_
        refine ex_iload hX dX7_wayFrom_57 rfl ?_
        refine ex_icmplt hX 64 dX7_wayFrom_59 (by decide) (fun c9 => ?_) (fun c9 => ?_)
        · replace w := w.1 c9
          refine ex_iload hX dX7_wayFrom_64 rfl ?_
          refine ex_iload_n hX dX7_wayFrom_66 rfl rfl ?_
          refine ex_icmplt hX 74 dX7_wayFrom_67 (by decide) (fun c10 => ?_) (fun c10 => ?_)
          · replace w := w.1 c10
            refine ex_iconst (v := 0) hX dX7_wayFrom_74 rfl ?_
            exact ex_iret hX dX7_wayFrom_75 rfl w
          · replace w := w.2 c10
            refine ex_iconst (v := (-1)) hX dX7_wayFrom_70 rfl ?_
            refine ex_goto hX 75 dX7_wayFrom_71 (by decide) ?_
            exact ex_iret hX dX7_wayFrom_75 rfl w
        · replace w := w.2 c9
          refine ex_iconst (v := 1) hX dX7_wayFrom_62 rfl ?_
          exact ex_iret hX dX7_wayFrom_63 rfl w
    refine ex_ifne hX 33 dX7_wayFrom_26 (by decide) (fun c4 => ?_) (fun c4 => ?_)
    · replace w := wac4 c4
      refine ex_aload_n hX dX7_wayFrom_33 rfl rfl ?_
      refine ex_get hX (.ref 95) FL_7_7 rfl (fun _ => rfl) dX7_wayFrom_34 ?_
      refine ex_iload_n hX dX7_wayFrom_37 rfl rfl ?_
      refine ex_bipush (v := 20) hX dX7_wayFrom_38 rfl ?_
      refine ex_iadd hX dX7_wayFrom_40 ?_
      refine ex_iload_n hX dX7_wayFrom_41 rfl rfl ?_
      refine ex_iadd hX dX7_wayFrom_42 ?_
      refine ex_iconst (v := 1) hX dX7_wayFrom_43 rfl ?_
      refine ex_isub hX dX7_wayFrom_44 ?_
      obtain ⟨q5, w⟩ := w
      refine ex_iald hX rfl q5 dX7_wayFrom_45 ?_
      refine ex_ineg hX dX7_wayFrom_46 ?_
      rw [show (if x2 = 0 then (0 : Int32) else -(h.1 95 (Int32.toNatClampNeg (((x1 + 20) + x2) - 1)))) = -(h.1 95 (Int32.toNatClampNeg (((x1 + 20) + x2) - 1))) from if_neg c4] at kc4
      exact ex_forget [none, none, none, some (.int x3), some (.int v3), none] ⟨rfl, ⟨rfl, trivial⟩⟩ kc4
    · refine ex_iconst (v := 0) hX dX7_wayFrom_29 rfl ?_
      refine ex_goto hX 47 dX7_wayFrom_30 (by decide) ?_
      rw [show (if x2 = 0 then (0 : Int32) else -(h.1 95 (Int32.toNatClampNeg (((x1 + 20) + x2) - 1)))) = 0 from if_pos c4] at kc4
      exact ex_forget [none, none, none, some (.int x3), some (.int v3), none] ⟨rfl, ⟨rfl, trivial⟩⟩ kc4
  refine ex_icmpne hX 12 dX7_wayFrom_5 (by decide) (fun c1 => ?_) (fun c1 => ?_)
  · replace w := wac1 c1
    refine ex_aload_n hX dX7_wayFrom_12 rfl rfl ?_
    refine ex_get hX (.ref 95) FL_7_7 rfl (fun _ => rfl) dX7_wayFrom_13 ?_
    refine ex_iload_n hX dX7_wayFrom_16 rfl rfl ?_
    refine ex_bipush (v := 20) hX dX7_wayFrom_17 rfl ?_
    refine ex_iadd hX dX7_wayFrom_19 ?_
    refine ex_iload_n hX dX7_wayFrom_20 rfl rfl ?_
    refine ex_iadd hX dX7_wayFrom_21 ?_
    obtain ⟨q2, w⟩ := w
    refine ex_iald hX rfl q2 dX7_wayFrom_22 ?_
    rw [show (if x2 = (h.1 94 9 - 1) then (0 : Int32) else h.1 95 (Int32.toNatClampNeg ((x1 + 20) + x2))) = h.1 95 (Int32.toNatClampNeg ((x1 + 20) + x2)) from if_neg c1] at kc1
    exact ex_forget [some (.ref 94), some (.int x1), some (.int x2), some (.int x3), none, none] ⟨rfl, ⟨rfl, ⟨rfl, ⟨rfl, trivial⟩⟩⟩⟩ kc1
  · refine ex_iconst (v := 0) hX dX7_wayFrom_8 rfl ?_
    refine ex_goto hX 23 dX7_wayFrom_9 (by decide) ?_
    rw [show (if x2 = (h.1 94 9 - 1) then (0 : Int32) else h.1 95 (Int32.toNatClampNeg ((x1 + 20) + x2))) = 0 from if_pos c1] at kc1
    exact ex_forget [some (.ref 94), some (.int x1), some (.int x2), some (.int x3), none, none] ⟨rfl, ⟨rfl, ⟨rfl, ⟨rfl, trivial⟩⟩⟩⟩ kc1

def wfM (f : Nat → SG) (r k wt : Int32) : Int32 :=
  let down : Int32 := if k = f 94 9 - 1 then 0 else f 95 (Int32.toNatClampNeg ((r + 20) + k))
  let up : Int32 := if k = 0 then 0 else -(f 95 (Int32.toNatClampNeg (((r + 20) + k) - 1)))
  if wt ≤ down ∧ up ≤ down then 1 else if wt ≤ up then -1 else 0
def WPm (f : Nat → SG) (r k : Int32) : Prop := (¬ k = f 94 9 - 1 → vp_in ((r + 20) + k) 800) ∧ (¬ k = 0 → vp_in (((r + 20) + k) - 1) 800)

set_option maxRecDepth 100000 in
set_option maxHeartbeats 4000000 in
theorem c_X7_wayFrom {h : AH} {a1 : Int32} {a2 : Int32} {a3 : Int32}  (pr0 : WPm h.1 a1 a2) : CI yX7_wayFrom cX7_wayFrom 6 (some .int) 1 20 [.ref 94, .int a1, .int a2, .int a3] h (fun r u => r = wfM h.1 a1 a2 a3 ∧ u = h) := by
  refine CI.of [some (.ref 94), some (.int a1), some (.int a2), some (.int a3), none, none] (by decide +kernel) rfl (Nat.le_of_ble_eq_true rfl) rfl (fun Z hX => ?_)
  refine sg_X7_wayFrom_0 hX ⟨fun c => ⟨pr0.1 c, trivial⟩, fun v3 e3 => ⟨fun c => ⟨pr0.2 c, trivial⟩, fun v6 e6 => ⟨fun c => ⟨fun c2 => ⟨?_, rfl⟩, fun c2 => ⟨?_, rfl⟩⟩, fun c => ⟨fun c2 => ⟨fun c3 => ⟨?_, rfl⟩, fun c3 => ⟨?_, rfl⟩⟩, fun c2 => ⟨?_, rfl⟩⟩⟩⟩⟩
  · show (0 : Int32) = if a3 ≤ _ ∧ _ ≤ _ then 1 else if a3 ≤ _ then -1 else 0
    rw [← e3, ← e6, if_neg (fun z => by simp only [Int32.lt_iff_toInt_lt, Int32.le_iff_toInt_le] at *; omega), if_neg (fun z => by simp only [Int32.lt_iff_toInt_lt, Int32.le_iff_toInt_le] at *; omega)]
  · show (-1 : Int32) = if a3 ≤ _ ∧ _ ≤ _ then 1 else if a3 ≤ _ then -1 else 0
    rw [← e3, ← e6, if_neg (fun z => by simp only [Int32.lt_iff_toInt_lt, Int32.le_iff_toInt_le] at *; omega), if_pos (by simp only [Int32.lt_iff_toInt_lt, Int32.le_iff_toInt_le] at *; omega)]
  · show (0 : Int32) = if a3 ≤ _ ∧ _ ≤ _ then 1 else if a3 ≤ _ then -1 else 0
    rw [← e3, ← e6, if_neg (fun z => by simp only [Int32.lt_iff_toInt_lt, Int32.le_iff_toInt_le] at *; omega), if_neg (fun z => by simp only [Int32.lt_iff_toInt_lt, Int32.le_iff_toInt_le] at *; omega)]
  · show (-1 : Int32) = if a3 ≤ _ ∧ _ ≤ _ then 1 else if a3 ≤ _ then -1 else 0
    rw [← e3, ← e6, if_neg (fun z => by simp only [Int32.lt_iff_toInt_lt, Int32.le_iff_toInt_le] at *; omega), if_pos (by simp only [Int32.lt_iff_toInt_lt, Int32.le_iff_toInt_le] at *; omega)]
  · show (1 : Int32) = if a3 ≤ _ ∧ _ ≤ _ then 1 else if a3 ≤ _ then -1 else 0
    rw [← e3, ← e6, if_pos (by simp only [Int32.lt_iff_toInt_lt, Int32.le_iff_toInt_le] at *; omega)]

theorem wfM_eq {f : Nat → SG} {ρ k : Nat} {wt : Int32} (hρ : ρ ≤ 600) (hP : 2 ≤ pn (PM f) ∧ pn (PM f) ≤ 10) (hk : k < pn (PM f)) : WPm f (nI ρ) (nI k) ∧ wfM f (nI ρ) (nI k) wt = wayS (PM f) (mk (ms f ρ)) k wt := by
  have en : f 94 9 = nI (pn (PM f)) := i_pos (by show 0 < pn (PM f); omega)
  have es : f 94 9 - 1 = nI (pn (PM f) - 1) := by rw [en, k_1, pk_sub (by omega)]
  have ek : (nI k = nI (pn (PM f) - 1)) ↔ k = pn (PM f) - 1 := nI_eq (by omega) (by omega)
  have ek0 : (nI k = 0) ↔ k = 0 := by rw [k_0]; exact nI_eq (by omega) (by omega)
  have i20 : Int32.toNatClampNeg ((nI ρ + 20) + nI k) = ρ + (20 + k) := by rw [k_20, nI_add, nI_add, nI_clamp (by omega)]; omega
  have j20 : Int32.toNatClampNeg (((nI ρ + 20) + nI k) - 1) = ρ + (20 + k - 1) := by rw [k_20, nI_add, nI_add, k_1, pk_sub (by omega), nI_clamp (by omega)]; omega
  refine ⟨⟨fun c => by rw [k_20, nI_add, nI_add]; exact vp_in_nI (by omega) (by omega), fun c => by rw [k_20, nI_add, nI_add, k_1, pk_sub (by omega)]; exact vp_in_nI (by omega) (by omega)⟩, ?_⟩
  unfold wfM wayS
  rw [es, i20, j20]
  simp only [ek, ek0]
  have e1 : (if k = pn (PM f) - 1 then (0 : Int32) else f 95 (ρ + (20 + k))) = (if k = pn (PM f) - 1 then 0 else mk (ms f ρ) (20 + k)) := by
    split
    · rfl
    · exact mk_at (by unfold rel; omega)
  have e2 : (if k = 0 then (0 : Int32) else -(f 95 (ρ + (20 + k - 1)))) = (if k = 0 then 0 else -(mk (ms f ρ) (20 + k - 1))) := by
    split
    · rfl
    · rw [mk_at (f := f) (ρ := ρ) (k := 20 + k - 1) (by unfold rel; omega)]
  rw [e1, e2]

theorem wayS_cases {P : PR} {σ : SG} {k : Nat} {wt : Int32} (hw : 0 < wt) (hk : k < pn P) : (wayS P σ k wt = 1 ∧ k < pn P - 1) ∨ (wayS P σ k wt = -1 ∧ 0 < k) ∨ wayS P σ k wt = 0 := by
  have hz : ∀ x : Int32, wt ≤ x → x = 0 → False := fun x h1 h2 => by subst h2; simp only [Int32.lt_iff_toInt_lt, Int32.le_iff_toInt_le] at *; omega
  show ((if wt ≤ (if k = pn P - 1 then (0 : Int32) else σ (20 + k)) ∧ (if k = 0 then (0 : Int32) else -(σ (20 + k - 1))) ≤ (if k = pn P - 1 then (0 : Int32) else σ (20 + k)) then (1 : Int32) else if wt ≤ (if k = 0 then (0 : Int32) else -(σ (20 + k - 1))) then -1 else 0) = 1 ∧ k < pn P - 1) ∨ ((if wt ≤ (if k = pn P - 1 then (0 : Int32) else σ (20 + k)) ∧ (if k = 0 then (0 : Int32) else -(σ (20 + k - 1))) ≤ (if k = pn P - 1 then (0 : Int32) else σ (20 + k)) then (1 : Int32) else if wt ≤ (if k = 0 then (0 : Int32) else -(σ (20 + k - 1))) then -1 else 0) = -1 ∧ 0 < k) ∨ (if wt ≤ (if k = pn P - 1 then (0 : Int32) else σ (20 + k)) ∧ (if k = 0 then (0 : Int32) else -(σ (20 + k - 1))) ≤ (if k = pn P - 1 then (0 : Int32) else σ (20 + k)) then (1 : Int32) else if wt ≤ (if k = 0 then (0 : Int32) else -(σ (20 + k - 1))) then -1 else 0) = 0
  have hd : k = pn P - 1 → (if k = pn P - 1 then (0 : Int32) else σ (20 + k)) = 0 := fun e => if_pos e
  have hu : k = 0 → (if k = 0 then (0 : Int32) else -(σ (20 + k - 1))) = 0 := fun e => if_pos e
  generalize (if k = pn P - 1 then (0 : Int32) else σ (20 + k)) = down at hd ⊢
  generalize (if k = 0 then (0 : Int32) else -(σ (20 + k - 1))) = up at hu ⊢
  by_cases c : wt ≤ down ∧ up ≤ down
  · refine Or.inl ⟨if_pos c, ?_⟩
    rcases Nat.lt_or_ge k (pn P - 1) with q | q
    · exact q
    · exact (hz _ c.1 (hd (by omega))).elim
  · by_cases c2 : wt ≤ up
    · refine Or.inr (Or.inl ⟨by rw [if_neg c, if_pos c2], ?_⟩)
      rcases Nat.eq_zero_or_pos k with q | q
      · exact (hz _ c2 (hu q)).elim
      · exact q
    · exact Or.inr (Or.inr (by rw [if_neg c, if_neg c2]))

set_option maxRecDepth 100000 in
set_option maxHeartbeats 4000000 in
theorem sg_X7_goLog_0 {Z : CX × GX} {post : AH → Prop} {h : AH} {x1 : Int32} {x2 : Int32} (hX : OK Z RX7 cX7_goLog 5 none 2 45) 
    (w : (vp_in ((x1 + 60) + x2) 800) ∧ (∀ v2 : Int32, v2 = h.1 95 (Int32.toNatClampNeg ((x1 + 60) + x2)) → (vp_in ((x1 + 72) + x2) 800) ∧ (∀ v4 : Int32, v4 = h.1 95 (Int32.toNatClampNeg ((x1 + 72) + x2)) → (WPm h.1 x1 v2) ∧ (((wfM h.1 x1 v2 v4) = 0 → post h) ∧ (¬ (wfM h.1 x1 v2 v4) = 0 → (((wfM h.1 x1 v2 v4) ≤ 0 → (vp_in ((x1 + 60) + x2) 800) ∧ True) ∧ (¬ (wfM h.1 x1 v2 v4) ≤ 0 → (vp_in ((x1 + 60) + x2) 800) ∧ True) ∧ (∀ v10 : Int32, v10 = (if (wfM h.1 x1 v2 v4) ≤ 0 then ((h.1 95 (Int32.toNatClampNeg ((x1 + 60) + x2))) - 1 : Int32) else h.1 95 (Int32.toNatClampNeg ((x1 + 60) + x2))) → (vp_in ((x1 + 96) + x2) 800) ∧ (∀ v12 : Int32, v12 = h.1 95 (Int32.toNatClampNeg ((x1 + 96) + x2)) → (vp_in v10 20) ∧ (∀ v14 : Int32, v14 = (wfM h.1 x1 v2 v4) * (h.1 103 (Int32.toNatClampNeg v10)) → (vp_in ((x1 + 96) + x2) 800) ∧ (∀ u16 : AH, u16 = (hset h.1 95 (Int32.toNatClampNeg ((x1 + 96) + x2)) (v12 + v14), h.2) → (vp_in ((x1 + 108) + x2) 800) ∧ (∀ v18 : Int32, v18 = u16.1 95 (Int32.toNatClampNeg ((x1 + 108) + x2)) → (vp_in ((x1 + 132) + x2) 800) ∧ (∀ v20 : Int32, v20 = u16.1 95 (Int32.toNatClampNeg ((x1 + 132) + x2)) → (vp_in ((x1 + 108) + x2) 800) ∧ (∀ u23 : AH, u23 = (hset u16.1 95 (Int32.toNatClampNeg ((x1 + 108) + x2)) (v18 + (bI (v20 = (-(wfM h.1 x1 v2 v4))))), u16.2) → (vp_in ((x1 + 132) + x2) 800) ∧ (∀ u25 : AH, u25 = (hset u23.1 95 (Int32.toNatClampNeg ((x1 + 132) + x2)) (wfM h.1 x1 v2 v4), u23.2) → (vp_in ((x1 + 60) + x2) 800) ∧ (∀ v27 : Int32, v27 = u25.1 95 (Int32.toNatClampNeg ((x1 + 60) + x2)) → (vp_in ((x1 + 60) + x2) 800) ∧ (∀ u29 : AH, u29 = (hset u25.1 95 (Int32.toNatClampNeg ((x1 + 60) + x2)) (v27 + (wfM h.1 x1 v2 v4)), u25.2) → (vp_in ((x1 + 120) + x2) 800) ∧ (∀ v31 : Int32, v31 = u29.1 95 (Int32.toNatClampNeg ((x1 + 120) + x2)) → (vp_in ((x1 + 60) + x2) 800) ∧ (∀ v33 : Int32, v33 = u29.1 95 (Int32.toNatClampNeg ((x1 + 60) + x2)) → (vp_in ((x1 + 84) + x2) 800) ∧ (∀ v35 : Int32, v35 = u29.1 95 (Int32.toNatClampNeg ((x1 + 84) + x2)) → (vp_in ((x1 + 120) + x2) 800) ∧ (∀ u38 : AH, u38 = (hset u29.1 95 (Int32.toNatClampNeg ((x1 + 120) + x2)) (v31 + (bI (v33 = v35))), u29.2) → post u38))))))))))))))))))))
    : EX Z 5 (QV Z post) 0 h [some (.ref 94), some (.int x1), some (.int x2), none, none] [] := by
  refine ex_aload_n hX dX7_goLog_0 rfl rfl ?_
  refine ex_iload_n hX dX7_goLog_1 rfl rfl ?_
  refine ex_aload_n hX dX7_goLog_2 rfl rfl ?_
  refine ex_get hX (.ref 95) FL_7_7 rfl (fun _ => rfl) dX7_goLog_3 ?_
  refine ex_iload_n hX dX7_goLog_6 rfl rfl ?_
  refine ex_bipush (v := 60) hX dX7_goLog_7 rfl ?_
  refine ex_iadd hX dX7_goLog_9 ?_
  refine ex_iload_n hX dX7_goLog_10 rfl rfl ?_
  refine ex_iadd hX dX7_goLog_11 ?_
  obtain ⟨q1, w⟩ := w
  refine ex_iald hX rfl q1 dX7_goLog_12 ?_
  refine ex_nameI (fun v2 ev2 => ?_)
  replace w := w v2 ev2
  refine ex_aload_n hX dX7_goLog_13 rfl rfl ?_
  refine ex_get hX (.ref 95) FL_7_7 rfl (fun _ => rfl) dX7_goLog_14 ?_
  refine ex_iload_n hX dX7_goLog_17 rfl rfl ?_
  refine ex_bipush (v := 72) hX dX7_goLog_18 rfl ?_
  refine ex_iadd hX dX7_goLog_20 ?_
  refine ex_iload_n hX dX7_goLog_21 rfl rfl ?_
  refine ex_iadd hX dX7_goLog_22 ?_
  obtain ⟨q3, w⟩ := w
  refine ex_iald hX rfl q3 dX7_goLog_23 ?_
  refine ex_nameI (fun v4 ev4 => ?_)
  replace w := w v4 ev4
  obtain ⟨q5, w⟩ := w
  refine ex_pIv (ci := 7) (i := 94) (As := [.int x1, .int v2, .int v4]) (st := []) hX (c_X7_wayFrom (h := h) q5) CS_7_205 MS_X7_wayFrom rfl rfl rfl (by decide) rfl (Nat.le_of_ble_eq_true rfl) dX7_goLog_24 ?_
  refine ex_istore_n (lv' := [some (.ref 94), some (.int x1), some (.int x2), some (.int (wfM h.1 x1 v2 v4)), none]) hX dX7_goLog_27 rfl (by decide) rfl ?_
  refine ex_iload_n hX dX7_goLog_28 rfl rfl ?_
  refine ex_ifeq hX 202 dX7_goLog_29 (by decide) (fun c6 => ?_) (fun c6 => ?_)
  · replace w := w.1 c6
    exact ex_vret hX dX7_goLog_202 w
  · replace w := w.2 c6
    refine ex_iload_n hX dX7_goLog_32 rfl rfl ?_
    obtain ⟨wac7, wbc7, w⟩ := w
    have kc7 : EX Z 5 (QV Z post) 63 h [some (.ref 94), some (.int x1), some (.int x2), some (.int (wfM h.1 x1 v2 v4)), none] [.int (if (wfM h.1 x1 v2 v4) ≤ 0 then ((h.1 95 (Int32.toNatClampNeg ((x1 + 60) + x2))) - 1 : Int32) else h.1 95 (Int32.toNatClampNeg ((x1 + 60) + x2)))] := by
      refine ex_nameI (fun v10 ev10 => ?_)
      replace w := w v10 ev10
      refine ex_istore (lv' := [some (.ref 94), some (.int x1), some (.int x2), some (.int (wfM h.1 x1 v2 v4)), some (.int v10)]) hX dX7_goLog_63 (by decide) rfl ?_
      refine ex_aload_n hX dX7_goLog_65 rfl rfl ?_
      refine ex_get hX (.ref 95) FL_7_7 rfl (fun _ => rfl) dX7_goLog_66 ?_
      refine ex_iload_n hX dX7_goLog_69 rfl rfl ?_
      refine ex_bipush (v := 96) hX dX7_goLog_70 rfl ?_
      refine ex_iadd hX dX7_goLog_72 ?_
      refine ex_iload_n hX dX7_goLog_73 rfl rfl ?_
      refine ex_iadd hX dX7_goLog_74 ?_
      refine ex_dup2 hX dX7_goLog_75 rfl rfl ?_
      obtain ⟨q11, w⟩ := w
      refine ex_iald hX rfl q11 dX7_goLog_76 ?_
      refine ex_nameI (fun v12 ev12 => ?_)
      replace w := w v12 ev12
      refine ex_iload_n hX dX7_goLog_77 rfl rfl ?_
      refine ex_aload_n hX dX7_goLog_78 rfl rfl ?_
      refine ex_get hX (.ref 103) FL_7_35 rfl (fun _ => rfl) dX7_goLog_79 ?_
      refine ex_iload hX dX7_goLog_82 rfl ?_
      obtain ⟨q13, w⟩ := w
      refine ex_iald hX rfl q13 dX7_goLog_84 ?_
      refine ex_imul hX dX7_goLog_85 ?_
      refine ex_nameI (fun v14 ev14 => ?_)
      replace w := w v14 ev14
      refine ex_iadd hX dX7_goLog_86 ?_
      obtain ⟨q15, w⟩ := w
      refine ex_iast hX rfl q15 dX7_goLog_87 ?_
      refine ex_nameH (fun u16 eu16 => ?_)
      replace w := w u16 eu16
      refine ex_aload_n hX dX7_goLog_88 rfl rfl ?_
      refine ex_get hX (.ref 95) FL_7_7 rfl (fun _ => rfl) dX7_goLog_89 ?_
      refine ex_iload_n hX dX7_goLog_92 rfl rfl ?_
      refine ex_bipush (v := 108) hX dX7_goLog_93 rfl ?_
      refine ex_iadd hX dX7_goLog_95 ?_
      refine ex_iload_n hX dX7_goLog_96 rfl rfl ?_
      refine ex_iadd hX dX7_goLog_97 ?_
      refine ex_dup2 hX dX7_goLog_98 rfl rfl ?_
      obtain ⟨q17, w⟩ := w
      refine ex_iald hX rfl q17 dX7_goLog_99 ?_
      refine ex_nameI (fun v18 ev18 => ?_)
      replace w := w v18 ev18
      refine ex_aload_n hX dX7_goLog_100 rfl rfl ?_
      refine ex_get hX (.ref 95) FL_7_7 rfl (fun _ => rfl) dX7_goLog_101 ?_
      refine ex_iload_n hX dX7_goLog_104 rfl rfl ?_
      refine ex_sipush (v := 132) hX dX7_goLog_105 rfl ?_
      refine ex_iadd hX dX7_goLog_108 ?_
      refine ex_iload_n hX dX7_goLog_109 rfl rfl ?_
      refine ex_iadd hX dX7_goLog_110 ?_
      obtain ⟨q19, w⟩ := w
      refine ex_iald hX rfl q19 dX7_goLog_111 ?_
      refine ex_nameI (fun v20 ev20 => ?_)
      replace w := w v20 ev20
      refine ex_iload_n hX dX7_goLog_112 rfl rfl ?_
      refine ex_ineg hX dX7_goLog_113 ?_
      have kc21 : EX Z 5 (QV Z post) 122 u16 [some (.ref 94), some (.int x1), some (.int x2), some (.int (wfM h.1 x1 v2 v4)), none] [.int (bI (v20 = (-(wfM h.1 x1 v2 v4)))), .int v18, .int ((x1 + 108) + x2), .ref 95] := by
        refine ex_pIs (As := [.int (bI (v20 = (-(wfM h.1 x1 v2 v4))))]) (st := [.int v18, .int ((x1 + 108) + x2), .ref 95]) hX (c_X7_oneB (h := u16)) CS_7_125 MS_X7_one rfl (by decide) rfl (Nat.le_of_ble_eq_true rfl) dX7_goLog_122 ?_
        refine ex_iadd hX dX7_goLog_125 ?_
        obtain ⟨q22, w⟩ := w
        refine ex_iast hX rfl q22 dX7_goLog_126 ?_
        refine ex_nameH (fun u23 eu23 => ?_)
        replace w := w u23 eu23
        refine ex_aload_n hX dX7_goLog_127 rfl rfl ?_
        refine ex_get hX (.ref 95) FL_7_7 rfl (fun _ => rfl) dX7_goLog_128 ?_
        refine ex_iload_n hX dX7_goLog_131 rfl rfl ?_
        refine ex_sipush (v := 132) hX dX7_goLog_132 rfl ?_
        refine ex_iadd hX dX7_goLog_135 ?_
        refine ex_iload_n hX dX7_goLog_136 rfl rfl ?_
        refine ex_iadd hX dX7_goLog_137 ?_
        refine ex_iload_n hX dX7_goLog_138 rfl rfl ?_
        obtain ⟨q24, w⟩ := w
        refine ex_iast hX rfl q24 dX7_goLog_139 ?_
        refine ex_nameH (fun u25 eu25 => ?_)
        replace w := w u25 eu25
        refine ex_aload_n hX dX7_goLog_140 rfl rfl ?_
        refine ex_get hX (.ref 95) FL_7_7 rfl (fun _ => rfl) dX7_goLog_141 ?_
        refine ex_iload_n hX dX7_goLog_144 rfl rfl ?_
        refine ex_bipush (v := 60) hX dX7_goLog_145 rfl ?_
        refine ex_iadd hX dX7_goLog_147 ?_
        refine ex_iload_n hX dX7_goLog_148 rfl rfl ?_
        refine ex_iadd hX dX7_goLog_149 ?_
        refine ex_dup2 hX dX7_goLog_150 rfl rfl ?_
        obtain ⟨q26, w⟩ := w
        refine ex_iald hX rfl q26 dX7_goLog_151 ?_
        refine ex_nameI (fun v27 ev27 => ?_)
        replace w := w v27 ev27
        refine ex_iload_n hX dX7_goLog_152 rfl rfl ?_
        refine ex_iadd hX dX7_goLog_153 ?_
        obtain ⟨q28, w⟩ := w
        refine ex_iast hX rfl q28 dX7_goLog_154 ?_
        refine ex_nameH (fun u29 eu29 => ?_)
        replace w := w u29 eu29
        refine ex_aload_n hX dX7_goLog_155 rfl rfl ?_
        refine ex_get hX (.ref 95) FL_7_7 rfl (fun _ => rfl) dX7_goLog_156 ?_
        refine ex_iload_n hX dX7_goLog_159 rfl rfl ?_
        refine ex_bipush (v := 120) hX dX7_goLog_160 rfl ?_
        refine ex_iadd hX dX7_goLog_162 ?_
        refine ex_iload_n hX dX7_goLog_163 rfl rfl ?_
        refine ex_iadd hX dX7_goLog_164 ?_
        refine ex_dup2 hX dX7_goLog_165 rfl rfl ?_
        obtain ⟨q30, w⟩ := w
        refine ex_iald hX rfl q30 dX7_goLog_166 ?_
        refine ex_nameI (fun v31 ev31 => ?_)
        replace w := w v31 ev31
        refine ex_aload_n hX dX7_goLog_167 rfl rfl ?_
        refine ex_get hX (.ref 95) FL_7_7 rfl (fun _ => rfl) dX7_goLog_168 ?_
        refine ex_iload_n hX dX7_goLog_171 rfl rfl ?_
        refine ex_bipush (v := 60) hX dX7_goLog_172 rfl ?_
        refine ex_iadd hX dX7_goLog_174 ?_
        refine ex_iload_n hX dX7_goLog_175 rfl rfl ?_
        refine ex_iadd hX dX7_goLog_176 ?_
        obtain ⟨q32, w⟩ := w
        refine ex_iald hX rfl q32 dX7_goLog_177 ?_
        refine ex_nameI (fun v33 ev33 => ?_)
        replace w := w v33 ev33
        refine ex_aload_n hX dX7_goLog_178 rfl rfl ?_
        refine ex_get hX (.ref 95) FL_7_7 rfl (fun _ => rfl) dX7_goLog_179 ?_
        refine ex_iload_n hX dX7_goLog_182 rfl rfl ?_
        refine ex_bipush (v := 84) hX dX7_goLog_183 rfl ?_
        refine ex_iadd hX dX7_goLog_185 ?_
        refine ex_iload_n hX dX7_goLog_186 rfl rfl ?_
        refine ex_iadd hX dX7_goLog_187 ?_
        obtain ⟨q34, w⟩ := w
        refine ex_iald hX rfl q34 dX7_goLog_188 ?_
        refine ex_nameI (fun v35 ev35 => ?_)
        replace w := w v35 ev35
        have kc36 : EX Z 5 (QV Z post) 197 u29 [none, none, none, none, none] [.int (bI (v33 = v35)), .int v31, .int ((x1 + 120) + x2), .ref 95] := by
          refine ex_pIs (As := [.int (bI (v33 = v35))]) (st := [.int v31, .int ((x1 + 120) + x2), .ref 95]) hX (c_X7_oneB (h := u29)) CS_7_125 MS_X7_one rfl (by decide) rfl (Nat.le_of_ble_eq_true rfl) dX7_goLog_197 ?_
          refine ex_iadd hX dX7_goLog_200 ?_
          obtain ⟨q37, w⟩ := w
          refine ex_iast hX rfl q37 dX7_goLog_201 ?_
          refine ex_nameH (fun u38 eu38 => ?_)
          replace w := w u38 eu38
          exact ex_vret hX dX7_goLog_202 w
        refine ex_icmpne hX 196 dX7_goLog_189 (by decide) (fun c36 => ?_) (fun c36 => ?_)
        · refine ex_iconst (v := 0) hX dX7_goLog_196 rfl ?_
          rw [show (bI (v33 = v35)) = 0 from bI_f c36] at kc36
          exact ex_forget [none, none, none, none, none] trivial kc36
        · refine ex_iconst (v := 1) hX dX7_goLog_192 rfl ?_
          refine ex_goto hX 197 dX7_goLog_193 (by decide) ?_
          rw [show (bI (v33 = v35)) = 1 from bI_t c36] at kc36
          exact ex_forget [none, none, none, none, none] trivial kc36
      refine ex_icmpne hX 121 dX7_goLog_114 (by decide) (fun c21 => ?_) (fun c21 => ?_)
      · refine ex_iconst (v := 0) hX dX7_goLog_121 rfl ?_
        rw [show (bI (v20 = (-(wfM h.1 x1 v2 v4)))) = 0 from bI_f c21] at kc21
        exact ex_forget [some (.ref 94), some (.int x1), some (.int x2), some (.int (wfM h.1 x1 v2 v4)), none] ⟨rfl, ⟨rfl, ⟨rfl, ⟨rfl, trivial⟩⟩⟩⟩ kc21
      · refine ex_iconst (v := 1) hX dX7_goLog_117 rfl ?_
        refine ex_goto hX 122 dX7_goLog_118 (by decide) ?_
        rw [show (bI (v20 = (-(wfM h.1 x1 v2 v4)))) = 1 from bI_t c21] at kc21
        exact ex_forget [some (.ref 94), some (.int x1), some (.int x2), some (.int (wfM h.1 x1 v2 v4)), none] ⟨rfl, ⟨rfl, ⟨rfl, ⟨rfl, trivial⟩⟩⟩⟩ kc21
    refine ex_ifle hX 50 dX7_goLog_33 (by decide) (fun c7 => ?_) (fun c7 => ?_)
    · replace w := wac7 c7
      refine ex_aload_n hX dX7_goLog_50 rfl rfl ?_
      refine ex_get hX (.ref 95) FL_7_7 rfl (fun _ => rfl) dX7_goLog_51 ?_
      refine ex_iload_n hX dX7_goLog_54 rfl rfl ?_
      refine ex_bipush (v := 60) hX dX7_goLog_55 rfl ?_
      refine ex_iadd hX dX7_goLog_57 ?_
      refine ex_iload_n hX dX7_goLog_58 rfl rfl ?_
      refine ex_iadd hX dX7_goLog_59 ?_
      obtain ⟨q8, w⟩ := w
      refine ex_iald hX rfl q8 dX7_goLog_60 ?_
      refine ex_iconst (v := 1) hX dX7_goLog_61 rfl ?_
      refine ex_isub hX dX7_goLog_62 ?_
      rw [show (if (wfM h.1 x1 v2 v4) ≤ 0 then ((h.1 95 (Int32.toNatClampNeg ((x1 + 60) + x2))) - 1 : Int32) else h.1 95 (Int32.toNatClampNeg ((x1 + 60) + x2))) = (h.1 95 (Int32.toNatClampNeg ((x1 + 60) + x2))) - 1 from if_pos c7] at kc7
      exact ex_forget [some (.ref 94), some (.int x1), some (.int x2), some (.int (wfM h.1 x1 v2 v4)), none] ⟨rfl, ⟨rfl, ⟨rfl, ⟨rfl, trivial⟩⟩⟩⟩ kc7
    · replace w := wbc7 c7
      refine ex_aload_n hX dX7_goLog_36 rfl rfl ?_
      refine ex_get hX (.ref 95) FL_7_7 rfl (fun _ => rfl) dX7_goLog_37 ?_
      refine ex_iload_n hX dX7_goLog_40 rfl rfl ?_
      refine ex_bipush (v := 60) hX dX7_goLog_41 rfl ?_
      refine ex_iadd hX dX7_goLog_43 ?_
      refine ex_iload_n hX dX7_goLog_44 rfl rfl ?_
      refine ex_iadd hX dX7_goLog_45 ?_
      obtain ⟨q9, w⟩ := w
      refine ex_iald hX rfl q9 dX7_goLog_46 ?_
      refine ex_goto hX 63 dX7_goLog_47 (by decide) ?_
      rw [show (if (wfM h.1 x1 v2 v4) ≤ 0 then ((h.1 95 (Int32.toNatClampNeg ((x1 + 60) + x2))) - 1 : Int32) else h.1 95 (Int32.toNatClampNeg ((x1 + 60) + x2))) = h.1 95 (Int32.toNatClampNeg ((x1 + 60) + x2)) from if_neg c7] at kc7
      exact ex_forget [some (.ref 94), some (.int x1), some (.int x2), some (.int (wfM h.1 x1 v2 v4)), none] ⟨rfl, ⟨rfl, ⟨rfl, ⟨rfl, trivial⟩⟩⟩⟩ kc7

set_option maxRecDepth 100000 in
set_option maxHeartbeats 4000000 in
theorem sg_X7_rainOn_0 {Z : CX × GX} {post : AH → Prop} {h : AH} {x1 : Int32} (hX : OK Z RX7 cX7_rainOn 3 none 0 0) 
    (w : (vp_in x1 800) ∧ (vp_in (x1 + 50) 800) ∧ (∀ v3 : Int32, v3 = (h.1 95 (Int32.toNatClampNeg (x1 + 50))) - (h.1 95 (Int32.toNatClampNeg (x1 + 50))) / 24 * 24 → (vp_in v3 48) ∧ (∀ v5 : Int32, v5 = (h.1 95 (Int32.toNatClampNeg x1)) + (h.1 100 (Int32.toNatClampNeg v3)) → (∀ v7 : Int32, v7 = (if 0 ≤ (v5 - 50) then (v5 - 50 : Int32) else 0) → (vp_in x1 800) ∧ (∀ u9 : AH, u9 = (hset h.1 95 (Int32.toNatClampNeg x1) v7, h.2) → post u9)))))
    : EX Z 3 (QV Z post) 0 h [some (.ref 94), some (.int x1), none] [] := by
  refine ex_aload_n hX dX7_rainOn_0 rfl rfl ?_
  refine ex_get hX (.ref 95) FL_7_7 rfl (fun _ => rfl) dX7_rainOn_1 ?_
  refine ex_iload_n hX dX7_rainOn_4 rfl rfl ?_
  obtain ⟨q1, w⟩ := w
  refine ex_iald hX rfl q1 dX7_rainOn_5 ?_
  refine ex_aload_n hX dX7_rainOn_6 rfl rfl ?_
  refine ex_get hX (.ref 100) FL_7_26 rfl (fun _ => rfl) dX7_rainOn_7 ?_
  refine ex_aload_n hX dX7_rainOn_10 rfl rfl ?_
  refine ex_get hX (.ref 95) FL_7_7 rfl (fun _ => rfl) dX7_rainOn_11 ?_
  refine ex_iload_n hX dX7_rainOn_14 rfl rfl ?_
  refine ex_bipush (v := 50) hX dX7_rainOn_15 rfl ?_
  refine ex_iadd hX dX7_rainOn_17 ?_
  obtain ⟨q2, w⟩ := w
  refine ex_iald hX rfl q2 dX7_rainOn_18 ?_
  refine ex_bipush (v := 24) hX dX7_rainOn_19 rfl ?_
  refine ex_irem hX dX7_rainOn_21 (by decide) ?_
  refine ex_nameI (fun v3 ev3 => ?_)
  replace w := w v3 ev3
  obtain ⟨q4, w⟩ := w
  refine ex_iald hX rfl q4 dX7_rainOn_22 ?_
  refine ex_iadd hX dX7_rainOn_23 ?_
  refine ex_nameI (fun v5 ev5 => ?_)
  replace w := w v5 ev5
  refine ex_bipush (v := 50) hX dX7_rainOn_24 rfl ?_
  refine ex_isub hX dX7_rainOn_26 ?_
  refine ex_istore_n (lv' := [some (.ref 94), some (.int x1), some (.int (v5 - 50))]) hX dX7_rainOn_27 rfl (by decide) rfl ?_
  refine ex_aload_n hX dX7_rainOn_28 rfl rfl ?_
  refine ex_get hX (.ref 95) FL_7_7 rfl (fun _ => rfl) dX7_rainOn_29 ?_
  refine ex_iload_n hX dX7_rainOn_32 rfl rfl ?_
  refine ex_iload_n hX dX7_rainOn_33 rfl rfl ?_
  have kc6 : EX Z 3 (QV Z post) 42 h [none, none, none] [.int (if 0 ≤ (v5 - 50) then (v5 - 50 : Int32) else 0), .int x1, .ref 95] := by
    refine ex_nameI (fun v7 ev7 => ?_)
    replace w := w v7 ev7
    obtain ⟨q8, w⟩ := w
    refine ex_iast hX rfl q8 dX7_rainOn_42 ?_
    refine ex_nameH (fun u9 eu9 => ?_)
    replace w := w u9 eu9
    exact ex_vret hX dX7_rainOn_43 w
  refine ex_ifge hX 41 dX7_rainOn_34 (by decide) (fun c6 => ?_) (fun c6 => ?_)
  · refine ex_iload_n hX dX7_rainOn_41 rfl rfl ?_
    rw [show (if 0 ≤ (v5 - 50) then (v5 - 50 : Int32) else 0) = v5 - 50 from if_pos c6] at kc6
    exact ex_forget [none, none, none] trivial kc6
  · refine ex_iconst (v := 0) hX dX7_rainOn_37 rfl ?_
    refine ex_goto hX 42 dX7_rainOn_38 (by decide) ?_
    rw [show (if 0 ≤ (v5 - 50) then (v5 - 50 : Int32) else 0) = 0 from if_neg c6] at kc6
    exact ex_forget [none, none, none] trivial kc6

set_option maxRecDepth 100000 in
set_option maxHeartbeats 4000000 in
theorem sg_X7_pass_0 {Z : CX × GX} {post : AH → Prop} {h : AH} {x1 : Int32} (hX : OK Z RX7 cX7_pass 3 none 3 71) 
    (w : (∃ PP : AH → Prop, CV yX7_setWidths cX7_setWidths 3 1 21 [.ref 94, .int x1] h PP ∧ ∀ u : AH, PP u → EX Z 3 (QV Z post) 5 u [some (.ref 94), some (.int x1), none] []))
    : EX Z 3 (QV Z post) 0 h [some (.ref 94), some (.int x1), none] [] := by
  refine ex_aload_n hX dX7_pass_0 rfl rfl ?_
  refine ex_iload_n hX dX7_pass_1 rfl rfl ?_
  obtain ⟨PP, pM, pK⟩ := w
  exact ex_callVv (ci := 7) (i := 94) (As := [.int x1]) (st := []) hX pM CS_7_209 MS_X7_setWidths rfl rfl rfl (by decide) rfl (Nat.le_of_ble_eq_true rfl) dX7_pass_2 (fun u hp => pK u hp)

set_option maxRecDepth 100000 in
set_option maxHeartbeats 4000000 in
theorem sg_X7_pass_5 {Z : CX × GX} {post : AH → Prop} {h : AH} {x1 : Int32} (hX : OK Z RX7 cX7_pass 3 none 3 71) 
    (w : (∃ PP : AH → Prop, CV yX7_flow cX7_flow 10 2 42 [.ref 94, .int x1] h PP ∧ ∀ u : AH, PP u → EX Z 3 (QV Z post) 10 u [some (.ref 94), some (.int x1), none] []))
    : EX Z 3 (QV Z post) 5 h [some (.ref 94), some (.int x1), none] [] := by
  refine ex_aload_n hX dX7_pass_5 rfl rfl ?_
  refine ex_iload_n hX dX7_pass_6 rfl rfl ?_
  obtain ⟨PP, pM, pK⟩ := w
  exact ex_callVv (ci := 7) (i := 94) (As := [.int x1]) (st := []) hX pM CS_7_213 MS_X7_flow rfl rfl rfl (by decide) rfl (Nat.le_of_ble_eq_true rfl) dX7_pass_7 (fun u hp => pK u hp)

set_option maxRecDepth 100000 in
set_option maxHeartbeats 4000000 in
theorem sg_X7_pass_10 {Z : CX × GX} {post : AH → Prop} {h : AH} {x1 : Int32} (hX : OK Z RX7 cX7_pass 3 none 3 71) 
    (w : EX Z 3 (QV Z post) 12 h [some (.ref 94), some (.int x1), some (.int 0)] [])
    : EX Z 3 (QV Z post) 10 h [some (.ref 94), some (.int x1), none] [] := by
  refine ex_iconst (v := 0) hX dX7_pass_10 rfl ?_
  refine ex_istore_n (lv' := [some (.ref 94), some (.int x1), some (.int 0)]) hX dX7_pass_11 rfl (by decide) rfl ?_
  exact w

set_option maxRecDepth 100000 in
set_option maxHeartbeats 4000000 in
theorem sg_X7_pass_12 {Z : CX × GX} {post : AH → Prop} {h : AH} {x1 : Int32} {x2 : Int32} (hX : OK Z RX7 cX7_pass 3 none 3 71) 
    (w : (vp_in (x1 + 51) 800) ∧ (((h.1 95 (Int32.toNatClampNeg (x1 + 51))) ≤ x2 → (∃ PP : AH → Prop, CV yX7_rainOn cX7_rainOn 3 0 0 [.ref 94, .int x1] h PP ∧ ∀ u : AH, PP u → EX Z 3 (QV Z post) 42 u [some (.ref 94), some (.int x1), none] [])) ∧ (¬ (h.1 95 (Int32.toNatClampNeg (x1 + 51))) ≤ x2 → (∃ PP : AH → Prop, CV yX7_goLog cX7_goLog 5 2 45 [.ref 94, .int x1, .int x2] h PP ∧ ∀ u : AH, PP u → EX Z 3 (QV Z post) 31 u [some (.ref 94), some (.int x1), some (.int x2)] []))))
    : EX Z 3 (QV Z post) 12 h [some (.ref 94), some (.int x1), some (.int x2)] [] := by
  refine ex_iload_n hX dX7_pass_12 rfl rfl ?_
  refine ex_aload_n hX dX7_pass_13 rfl rfl ?_
  refine ex_get hX (.ref 95) FL_7_7 rfl (fun _ => rfl) dX7_pass_14 ?_
  refine ex_iload_n hX dX7_pass_17 rfl rfl ?_
  refine ex_bipush (v := 51) hX dX7_pass_18 rfl ?_
  refine ex_iadd hX dX7_pass_20 ?_
  obtain ⟨q1, w⟩ := w
  refine ex_iald hX rfl q1 dX7_pass_21 ?_
  refine ex_icmpge hX 37 dX7_pass_22 (by decide) (fun c2 => ?_) (fun c2 => ?_)
  · replace w := w.1 c2
    refine ex_aload_n hX dX7_pass_37 rfl rfl ?_
    refine ex_iload_n hX dX7_pass_38 rfl rfl ?_
    obtain ⟨PP, pM, pK⟩ := w
    exact ex_callVv (ci := 7) (i := 94) (As := [.int x1]) (st := []) hX pM CS_7_220 MS_X7_rainOn rfl rfl rfl (by decide) rfl (Nat.le_of_ble_eq_true rfl) dX7_pass_39 (fun u hp => ex_forget [some (.ref 94), some (.int x1), none] ⟨rfl, ⟨rfl, trivial⟩⟩ (pK u hp))
  · replace w := w.2 c2
    refine ex_aload_n hX dX7_pass_25 rfl rfl ?_
    refine ex_iload_n hX dX7_pass_26 rfl rfl ?_
    refine ex_iload_n hX dX7_pass_27 rfl rfl ?_
    obtain ⟨PP, pM, pK⟩ := w
    exact ex_callVv (ci := 7) (i := 94) (As := [.int x1, .int x2]) (st := []) hX pM CS_7_216 MS_X7_goLog rfl rfl rfl (by decide) rfl (Nat.le_of_ble_eq_true rfl) dX7_pass_28 (fun u hp => pK u hp)

set_option maxRecDepth 100000 in
set_option maxHeartbeats 4000000 in
theorem sg_X7_pass_31 {Z : CX × GX} {post : AH → Prop} {h : AH} {x1 : Int32} {x2 : Int32} (hX : OK Z RX7 cX7_pass 3 none 3 71) 
    (w : EX Z 3 (QV Z post) 12 h [some (.ref 94), some (.int x1), some (.int (x2 + 1))] [])
    : EX Z 3 (QV Z post) 31 h [some (.ref 94), some (.int x1), some (.int x2)] [] := by
  refine ex_iinc (v := x2 + 1) (lv' := [some (.ref 94), some (.int x1), some (.int (x2 + 1))]) hX dX7_pass_31 rfl rfl (by decide) rfl ?_
  refine ex_goto hX 12 dX7_pass_34 (by decide) ?_
  exact w

set_option maxRecDepth 100000 in
set_option maxHeartbeats 4000000 in
theorem sg_X7_pass_42 {Z : CX × GX} {post : AH → Prop} {h : AH} {x1 : Int32} (hX : OK Z RX7 cX7_pass 3 none 3 71) 
    (w : (vp_in (x1 + 50) 800) ∧ (∀ v2 : Int32, v2 = (h.1 95 (Int32.toNatClampNeg (x1 + 50))) + 1 → (vp_in (x1 + 50) 800) ∧ (∀ u4 : AH, u4 = (hset h.1 95 (Int32.toNatClampNeg (x1 + 50)) v2, h.2) → post u4)))
    : EX Z 3 (QV Z post) 42 h [some (.ref 94), some (.int x1), none] [] := by
  refine ex_aload_n hX dX7_pass_42 rfl rfl ?_
  refine ex_get hX (.ref 95) FL_7_7 rfl (fun _ => rfl) dX7_pass_43 ?_
  refine ex_iload_n hX dX7_pass_46 rfl rfl ?_
  refine ex_bipush (v := 50) hX dX7_pass_47 rfl ?_
  refine ex_iadd hX dX7_pass_49 ?_
  refine ex_dup2 hX dX7_pass_50 rfl rfl ?_
  obtain ⟨q1, w⟩ := w
  refine ex_iald hX rfl q1 dX7_pass_51 ?_
  refine ex_iconst (v := 1) hX dX7_pass_52 rfl ?_
  refine ex_iadd hX dX7_pass_53 ?_
  refine ex_nameI (fun v2 ev2 => ?_)
  replace w := w v2 ev2
  obtain ⟨q3, w⟩ := w
  refine ex_iast hX rfl q3 dX7_pass_54 ?_
  refine ex_nameH (fun u4 eu4 => ?_)
  replace w := w u4 eu4
  exact ex_vret hX dX7_pass_55 w

set_option maxRecDepth 100000 in
set_option maxHeartbeats 4000000 in
theorem c_X7_goLog {h : AH} {a1 : Int32} {a2 : Int32}  {ρ l q : Nat} (hρ : ρ ≤ 600) (ha : a1 = nI ρ) (hb : a2 = nI l) (hP : 2 ≤ pn (PM h.1) ∧ pn (PM h.1) ≤ 10) (hl : l < (ms h.1 ρ 51).toNatClampNeg) (hl12 : l < 12) (hq : q < pn (PM h.1)) (eq : mk (ms h.1 ρ) (60 + l) = nI q) (hw : 0 < mk (ms h.1 ρ) (72 + l)) : CV yX7_goLog cX7_goLog 5 2 45 [.ref 94, .int a1, .int a2] h (fun u => FM ρ h u ∧ mk (ms u.1 ρ) = log1 (PM h.1) l (mk (ms h.1 ρ))) := by
  refine CV.of [some (.ref 94), some (.int a1), some (.int a2), none, none] (by decide +kernel) rfl (Nat.le_of_ble_eq_true rfl) rfl (fun Z hX => ?_)
  subst ha; subst hb
  generalize hpost : (fun u => FM ρ h u ∧ mk (ms u.1 ρ) = log1 (PM h.1) l (mk (ms h.1 ρ))) = post
  have ix : ∀ c : Nat, c ≤ 132 → Int32.toNatClampNeg ((nI ρ + nI c) + nI l) = ρ + (c + l) := fun c hc => by rw [nI_add, nI_add, nI_clamp (by omega)]; omega
  have bx : ∀ c : Nat, c ≤ 132 → vp_in ((nI ρ + nI c) + nI l) 800 := fun c hc => by rw [nI_add, nI_add]; exact vp_in_nI (by omega) (by omega)
  have r : ∀ (n c : Nat), l < n → (c = 60 ∨ c = 72 ∨ c = 84 ∨ c = 96 ∨ c = 108 ∨ c = 120 ∨ c = 132) → rel n (c + l) := by intro n c hn hc; unfold rel; omega
  generalize hσ : mk (ms h.1 ρ) = σ at eq hpost hw
  have c51 : (ms h.1 ρ 51) = σ 51 := by rw [← hσ, mk_51]
  have ra : ∀ (f : Nat → SG) (τ : SG) (c : Nat), mk (ms f ρ) = τ → τ 51 = σ 51 → (c = 60 ∨ c = 72 ∨ c = 84 ∨ c = 96 ∨ c = 108 ∨ c = 120 ∨ c = 132) → f 95 (ρ + (c + l)) = τ (c + l) := by
    intro f τ c e1 e2 hc
    rw [← e1]
    refine mk_at (r _ _ ?_ hc)
    rw [← mk_51 (ms f ρ), e1, e2, ← c51]
    exact hl
  have wa : ∀ (u u2 : AH) (τ : SG) (c : Nat) (v : Int32), mk (ms u.1 ρ) = τ → τ 51 = σ 51 → (c = 60 ∨ c = 72 ∨ c = 84 ∨ c = 96 ∨ c = 108 ∨ c = 120 ∨ c = 132) → u2 = (hset u.1 95 (ρ + (c + l)) v, u.2) → mk (ms u2.1 ρ) = upd τ (c + l) v ∧ upd τ (c + l) v 51 = σ 51 ∧ FM ρ u u2 := by
    intro u u2 τ c v e1 e2 hc e3
    refine ⟨?_, ?_, ?_⟩
    · rw [e3, mks (r _ _ ?_ hc) (by omega), e1]
      rw [← mk_51 (ms u.1 ρ), e1, e2, ← c51]
      exact hl
    · rw [upd_ne (by omega), e2]
    · rw [e3]; exact FM.set (by omega)
  obtain ⟨w1, w2⟩ := wfM_eq (f := h.1) (ρ := ρ) (k := q) (wt := σ (72 + l)) hρ hP hq
  rw [hσ] at w2
  refine sg_X7_goLog_0 hX ⟨bx 60 (by omega), fun v2 e2 => ⟨bx 72 (by omega), fun v4 e4 => ?_⟩⟩
  rw [show (60 : Int32) = nI 60 from rfl, ix 60 (by omega), ra h.1 σ 60 hσ rfl (by omega), eq] at e2
  rw [show (72 : Int32) = nI 72 from rfl, ix 72 (by omega), ra h.1 σ 72 hσ rfl (by omega)] at e4
  subst e2; subst e4
  generalize hW : wfM h.1 (nI ρ) (nI q) (σ (72 + l)) = W at w2
  have elog : log1 (PM h.1) l σ = if W = 0 then σ else upd (upd (upd (upd (upd σ (96 + l) (σ (96 + l) + W * pto (PM h.1) (if 0 < W then q else (nI q - 1).toNatClampNeg))) (108 + l) (σ (108 + l) + (if σ (132 + l) = -W then 1 else 0))) (132 + l) W) (60 + l) (nI q + W)) (120 + l) (σ (120 + l) + (if nI q + W = σ (84 + l) then 1 else 0)) := by
    unfold log1
    dsimp only
    rw [eq, nI_clamp (by omega), ← w2]
  refine ⟨w1, fun c => ?_, fun c => ?_⟩
  · rw [← hpost]
    exact ⟨FM.rf, by rw [hσ, elog, if_pos c]⟩
  · have hg : ∀ v10 : Int32, v10 = (if W ≤ 0 then nI q - 1 else nI q) → ∃ j : Nat, j < 9 ∧ v10 = nI j ∧ (if 0 < W then q else (nI q - 1).toNatClampNeg) = j := by
      intro v10 e10
      rcases wayS_cases (P := PM h.1) (σ := σ) hw hq with ⟨e, k1⟩ | ⟨e, k1⟩ | e
      · rw [← w2] at e
        refine ⟨q, by omega, ?_, ?_⟩
        · rw [e10, e]; rfl
        · rw [e]; rfl
      · rw [← w2] at e
        have e1 : nI q - 1 = nI (q - 1) := by rw [k_1, pk_sub (by omega)]
        refine ⟨q - 1, by omega, ?_, ?_⟩
        · rw [e10, e, e1]; rfl
        · rw [e, e1, nI_clamp (by omega)]; rfl
      · rw [← w2] at e
        exact absurd e c
    refine ⟨fun _ => ⟨bx 60 (by omega), trivial⟩, fun _ => ⟨bx 60 (by omega), trivial⟩, fun v10 e10 => ⟨bx 96 (by omega), fun v12 e12 => ?_⟩⟩
    rw [show (60 : Int32) = nI 60 from rfl, ix 60 (by omega), ra h.1 σ 60 hσ rfl (by omega), eq] at e10
    obtain ⟨j, hj, ej, eg⟩ := hg v10 e10
    refine ⟨by rw [ej]; exact vp_in_nI (by omega) (by omega), fun v14 e14 => ⟨bx 96 (by omega), fun u16 e16 => ⟨bx 108 (by omega), fun v18 e18 => ⟨bx 132 (by omega), fun v20 e20 => ⟨bx 108 (by omega), fun u23 e23 => ⟨bx 132 (by omega), fun u25 e25 => ⟨bx 60 (by omega), fun v27 e27 => ⟨bx 60 (by omega), fun u29 e29 => ⟨bx 120 (by omega), fun v31 e31 => ⟨bx 60 (by omega), fun v33 e33 => ⟨bx 84 (by omega), fun v35 e35 => ⟨bx 120 (by omega), fun u38 e38 => ?_⟩⟩⟩⟩⟩⟩⟩⟩⟩⟩⟩⟩
    rw [show (96 : Int32) = nI 96 from rfl, ix 96 (by omega)] at e12 e16
    rw [ra h.1 σ 96 hσ rfl (by omega)] at e12
    rw [ej, nI_clamp (by omega), show h.1 103 j = pto (PM h.1) j from (cut_in hj).symm, ← eg] at e14
    obtain ⟨m16, q16, f16⟩ := wa h u16 σ 96 _ hσ rfl (by omega) e16
    rw [show (108 : Int32) = nI 108 from rfl, ix 108 (by omega)] at e18 e23
    rw [ra u16.1 _ 108 m16 q16 (by omega), upd_ne (by omega)] at e18
    rw [show (132 : Int32) = nI 132 from rfl, ix 132 (by omega)] at e20 e25
    rw [ra u16.1 _ 132 m16 q16 (by omega), upd_ne (by omega)] at e20
    obtain ⟨m23, q23, f23⟩ := wa u16 u23 _ 108 _ m16 q16 (by omega) e23
    obtain ⟨m25, q25, f25⟩ := wa u23 u25 _ 132 _ m23 q23 (by omega) e25
    rw [show (60 : Int32) = nI 60 from rfl, ix 60 (by omega)] at e27 e29 e33
    rw [ra u25.1 _ 60 m25 q25 (by omega), upd_ne (by omega), upd_ne (by omega), upd_ne (by omega), eq] at e27
    obtain ⟨m29, q29, f29⟩ := wa u25 u29 _ 60 _ m25 q25 (by omega) e29
    rw [show (120 : Int32) = nI 120 from rfl, ix 120 (by omega)] at e31 e38
    rw [ra u29.1 _ 120 m29 q29 (by omega), upd_ne (by omega), upd_ne (by omega), upd_ne (by omega), upd_ne (by omega)] at e31
    rw [ra u29.1 _ 60 m29 q29 (by omega), upd_eq, e27] at e33
    rw [show (84 : Int32) = nI 84 from rfl, ix 84 (by omega), ra u29.1 _ 84 m29 q29 (by omega), upd_ne (by omega), upd_ne (by omega), upd_ne (by omega), upd_ne (by omega)] at e35
    obtain ⟨m38, q38, f38⟩ := wa u29 u38 _ 120 _ m29 q29 (by omega) e38
    rw [← hpost]
    refine ⟨((((f16.tr f23).tr f25).tr f29).tr f38), ?_⟩
    rw [m38, elog, if_neg c, e12, e14, e18, e20, e27, e31, e33, e35]
    rfl

set_option maxRecDepth 100000 in
set_option maxHeartbeats 4000000 in
theorem c_X7_rainOn {h : AH} {a1 : Int32}  {ρ t : Nat} (hρ : ρ ≤ 600) (ha : a1 = nI ρ) (ht : t < 2 ^ 31) (h50 : mk (ms h.1 ρ) 50 = nI t) : CV yX7_rainOn cX7_rainOn 3 0 0 [.ref 94, .int a1] h (fun u => FM ρ h u ∧ mk (ms u.1 ρ) = rainS (PM h.1) (mk (ms h.1 ρ))) := by
  refine CV.of [some (.ref 94), some (.int a1), none] (by decide +kernel) rfl (Nat.le_of_ble_eq_true rfl) rfl (fun Z hX => ?_)
  subst ha
  have i50 : Int32.toNatClampNeg (nI ρ + 50) = ρ + 50 := by rw [k_50, nI_add, nI_clamp (by omega)]
  have b50 : vp_in (nI ρ + 50) 800 := by rw [k_50, nI_add]; exact vp_in_nI (by omega) (by omega)
  have e50 : h.1 95 (ρ + 50) = nI t := by rw [mk_at (f := h.1) (ρ := ρ) (k := 50) (by unfold rel; omega), h50]
  have e0 : h.1 95 ρ = mk (ms h.1 ρ) 0 := mk_at (f := h.1) (ρ := ρ) (k := 0) (by unfold rel; omega)
  have m24 : t % 24 < 24 := Nat.mod_lt _ (by decide)
  refine sg_X7_rainOn_0 hX ⟨vp_in_nI (by omega) (by omega), b50, fun v3 e3 => ?_⟩
  rw [i50, e50, i_m24 ht] at e3
  subst e3
  refine ⟨vp_in_nI (by omega) (by omega), fun v5 e5 v7 e7 => ⟨vp_in_nI (by omega) (by omega), fun u9 e9 => ?_⟩⟩
  rw [nI_clamp (by omega), nI_clamp (by omega), e0, show h.1 100 (t % 24) = pra (PM h.1) (t % 24) from (cut_in m24).symm] at e5
  rw [nI_clamp (by omega)] at e9
  refine ⟨by rw [e9]; exact FM.set (k := 0) (by omega), ?_⟩
  have := mks (f := h.1) (ρ := ρ) (k := 0) (v := v7) (by unfold rel; omega) (by omega)
  rw [e9]
  refine this.trans ?_
  unfold rainS
  rw [h50, nI_clamp ht, ← e5, e7]
  congr 1
  by_cases c : v5 - 50 < 0
  · rw [if_neg (fun z => by simp only [Int32.lt_iff_toInt_lt, Int32.le_iff_toInt_le] at *; omega)]
    exact (if_pos c).symm
  · rw [if_pos (by simp only [Int32.lt_iff_toInt_lt, Int32.le_iff_toInt_le] at *; omega)]
    exact (if_neg c).symm
