/-- both objects, new -/
def hI : AH := (fun i => if i = 0 then (fun k => if k = 13 then -1 else 0) else if i = 94 then (fun k => if k = 22 then -1 else 0) else fun _ => 0, fun k => if k = 1 then 3 else if k = 2 then 11 else if k = 3 then 19 else 23)
def wX6 (cA : Nat → ClassId) (_ : Nat) (f : Nat → Nat) : va_W := (List.range 94).map (fun i => (f i, ent f cA hI i))
section NR2
variable {Z : CX × DX} {own : String} {cc : ByteArray} {nL fr lo mc ms cells slots : Nat} {Q : State → Prop} {pc : Nat} {ws : va_W} {lv : List (Nat × Value)} {st : List Value}
theorem nx_aast (hX : OM Z own cc nL fr lo mc ms) (q0 qk : Nat) {ar v n k : Nat} {f : Nat → Option Nat} {vs : List Value} (ha : ws[q0]? = some (ar, .inl (Z.2.2.1 3, n, .inr (.inr (.inr (.inr f)))))) (hv : ws[qk]? = some (v, .inr (3, vs))) {i : Int32} (hin : vp_in i n) (hk : i.toNatClampNeg = k) (d : decode cc pc = .ok (.aastore, 1)) (kk : NX Z nL cells slots Q (pc + 1) (ws.set q0 (ar, .inl (Z.2.2.1 3, n, .inr (.inr (.inr (.inr (va_up f k (some v)))))))) lv st) : NX Z nL cells slots Q pc ws lv (.ref v :: .int i :: .ref ar :: st) := fun H locs ls hP hD hS hl => by
  subst hk
  exact va_astq (r := (RX3, TX3, 10)) hX.1.1 hX.1.2.1 hX.2.1 hP hD hS q0 3 qk 3 ha rfl hv rfl hin d (fun H1 locs1 g1 g2 g3 => kk H1 locs1 ls g1 g2 g3 hl)
theorem nx_gs {x y : Nat × va_E} {tl : va_W} {p : Nat} (kk : ∀ t2 : va_W, t2 = tl.set p y → NX Z nL cells slots Q pc (x :: t2) lv st) : NX Z nL cells slots Q pc ((x :: tl).set (p + 1) y) lv st := kk _ rfl
theorem nx_vret2 (hX : ON Z own cc nL fr lo mc ms) {P : Nat → (Nat → Nat) → Prop} {Wf : (Nat → ClassId) → Nat → (Nat → Nat) → va_W} {a : Nat} (f : Nat → Nat) (hp : P a f) (hw : ∀ H : Heap, va_P Z.2.1 vwCl ws H → va_P Z.2.1 vwCl (Wf Z.2.2.1 a f) H) (hd : va_D Z.2.2.2 ws → va_D Z.2.2.2 (Wf Z.2.2.1 a f)) (d : decode cc pc = .ok (.return_, 1)) : NX Z nL mc ms (QN Z P Wf mc ms a) pc ws lv [] := fun H locs ls hP hD hS hl =>
  W.vret hX.1.1.1 hX.1.1.2.1 hX.2.1 (fun t ht _ => ⟨⟨f, rfl, hp, by rw [ht]; exact hw H hP, hd hD⟩, hS.F ht⟩) hS.2.2 d hX.2.2.1
end NR2
theorem arr2 {c : ClassId} {g1 g2 : Nat → Value} (h0 : g1 0 = g2 0) (h1 : g1 1 = g2 1) : arrV c 2 g1 = arrV c 2 g2 := by
  have : (fun j : Fin 2 => g1 j.val) = (fun j : Fin 2 => g2 j.val) := by
    funext j
    rcases j with ⟨j, hj⟩
    rcases (show j = 0 ∨ j = 1 by omega) with rfl | rfl
    · exact h0
    · exact h1
  unfold arrV
  rw [this]
def ps (i : Nat) : Nat := if i < 57 then i else if i < 87 then i + 7 else i - 30
theorem ap_l {A B T : va_W} {n i : Nat} (e : T = A ++ B) (hn : A.length = n) (hi : i < n) : T[i]? = A[i]? := by rw [e, List.getElem?_append_left (by omega)]
theorem ap_r {A B T : va_W} {n k : Nat} (e : T = A ++ B) (hn : A.length = n) : T[n + k]? = B[k]? := by rw [e, List.getElem?_append_right (by omega), hn, Nat.add_sub_cancel_left]
theorem st_n {A T : va_W} {y : Nat × va_E} {p i : Nat} (e : T = A.set p y) (h : p ≠ i) : T[i]? = A[i]? := by rw [e, List.getElem?_set_ne h]
theorem st_s {A T : va_W} {y : Nat × va_E} {p : Nat} (e : T = A.set p y) (h : p < A.length) : T[p]? = some y := by rw [e, List.getElem?_set_self h]
theorem ps_inj : ∀ i, i < 94 → ∀ j, j < 94 → ps i = ps j → i = j := by decide +kernel
/-- the cells in the order of their ids -/
theorem w6_of {D : va_G} {cA : Nat → ClassId} {A : Nat → Prop} {ws : va_W} {a : Nat} {f : Nat → Nat} (key : ∀ i, i < 94 → ∃ e, ws[ps i]? = some (f i, e) ∧ ∀ H : Heap, va_at D vwCl (f i, e) H → va_at D vwCl (f i, ent f cA hI i) H) : (∀ H : Heap, va_P D vwCl ws H → va_P D vwCl (wX6 cA a f) H) ∧ (va_D A ws → va_D A (wX6 cA a f)) := by
  have at6 : ∀ (k : Nat) (q : Nat × va_E), (wX6 cA a f)[k]? = some q → k < 94 ∧ q = (f k, ent f cA hI k) := by
    intro k q hk
    unfold wX6 at hk
    rw [List.getElem?_map] at hk
    by_cases c : k < 94
    · rw [List.getElem?_range c] at hk
      exact ⟨c, (Option.some.inj hk).symm⟩
    · rw [List.getElem?_eq_none (by simp; omega)] at hk
      cases hk
  refine ⟨fun H hP k q hk => ?_, fun hD => ⟨fun i j p q h1 h2 e => ?_, fun k q hk => ?_⟩⟩
  · obtain ⟨hk4, rfl⟩ := at6 k q hk
    obtain ⟨e, h1, h2⟩ := key k hk4
    exact h2 H (hP _ _ h1)
  · obtain ⟨hi, rfl⟩ := at6 i p h1
    obtain ⟨hj, rfl⟩ := at6 j q h2
    obtain ⟨e1, k1, -⟩ := key i hi
    obtain ⟨e2, k2, -⟩ := key j hj
    exact ps_inj i hi j hj (hD.1 _ _ _ _ k1 k2 e)
  · obtain ⟨hk4, rfl⟩ := at6 k q hk
    obtain ⟨e, h1, -⟩ := key k hk4
    exact hD.2 _ (f k, e) h1

theorem nx_vret3 {Z : CX × DX} {own : String} {cc : ByteArray} {nL fr lo mc ms : Nat} {pc : Nat} {ws : va_W} {lv : List (Nat × Value)} (hX : ON Z own cc nL fr lo mc ms) {a : Nat} (f : Nat → Nat) (hp : f 0 = a) (key : ∀ i, i < 94 → ∃ e, ws[ps i]? = some (f i, e) ∧ ∀ H : Heap, va_at Z.2.1 vwCl (f i, e) H → va_at Z.2.1 vwCl (f i, ent f Z.2.2.1 hI i) H) (d : decode cc pc = .ok (.return_, 1)) : NX Z nL mc ms (QN Z (fun a f => f 0 = a) wX6 mc ms a) pc ws lv [] := by
  obtain ⟨k1, k2⟩ := w6_of (A := Z.2.2.2) (a := a) key
  exact nx_vret2 hX f hp k1 k2 d
theorem img_at {D : va_G} {c : ClassId} {q : Nat} {g1 g2 : Nat → Option Nat} {H : Heap} (h0 : g1 0 = g2 0) (h1 : g1 1 = g2 1) (z : va_at D vwCl (q, .inl (c, 2, .inr (.inr (.inr (.inr g1))))) H) : va_at D vwCl (q, .inl (c, 2, .inr (.inr (.inr (.inr g2))))) H := Eq.trans (show H[q]? = some (vp_cell c (2, .inr (.inr (.inr (.inr g1))))) from z) (congrArg some (arr2 (c := c) (g1 := fun j => va_rf (g1 j)) (g2 := fun j => va_rf (g2 j)) (congrArg va_rf h0) (congrArg va_rf h1)))
def fL (l : List Nat) : Nat → Nat := fun k => l.getD k 0

set_option maxRecDepth 100000 in
set_option maxHeartbeats 8000000 in
theorem c_X6_init : CN yX6_init cX6_init 2 3 53 93 1717 6 [.null, .null, .null, .null, .null, .null, .null, .null, .null, .null, .null, .null, .int 0, .int 0] (fun a f => f 0 = a) wX6 := by
  refine CN.of (own := RX6) (by decide +kernel) rfl rfl (by decide) (fun Z a hX => ?_)
  refine nx_aload hX.1 0 dX6_init_0 rfl rfl ?_
  refine nx_objInit hX.1 OI_6 (by decide) (Nat.le_of_ble_eq_true rfl) dX6_init_1 ?_
  refine nx_aload hX.1 0 dX6_init_4 rfl rfl ?_
  refine nx_new (ci := 2) (N := 11) (fs := [.null, .int 0, .int 0, .int 0, .int 0, .int 0, .int 0, .int 0, .int 0, .int 0, .int 0]) hX.1 tyX2 tyX2_ok inX2 CK_6_7 IT_2 II_2 rfl (fun j hj => by rcases (show j = 0 ∨ j = 1 ∨ j = 2 ∨ j = 3 ∨ j = 4 ∨ j = 5 ∨ j = 6 ∨ j = 7 ∨ j = 8 ∨ j = 9 ∨ j = 10 by omega) with rfl | rfl | rfl | rfl | rfl | rfl | rfl | rfl | rfl | rfl | rfl <;> rfl) (Nat.le_of_ble_eq_true rfl) (Nat.le_of_ble_eq_true rfl) dX6_init_5 (fun q1 => ?_)
  refine nx_dup hX.1 dX6_init_8 ?_
  refine nx_init (wr := _) hX.1 c_X2_init hX.1.2.2.2.2.1 II_2 IC_2 IN_2 rfl MS_X2_init (by decide) (by decide) (Nat.le_of_ble_eq_true rfl) dX6_init_9 (fun fq1 pq1 => ?_)
  refine nx_gc (tl := []) (fun t1 e1 => ?_)
  have n0 : ([] : va_W).length = 0 := rfl
  refine nx_cs (c2 := 2) (s2 := 411) (p2 := 12) rfl rfl rfl ?_
  have n1 : t1.length = 2 := by rw [e1, List.length_append, n0]; rfl
  refine nx_putF (v := .ref q1) hX (.object "TurnedRiver$Reader") FL_6_10 tyX6 tyX6_ok nmX6 rfl rfl rfl rfl rfl (Nat.le_of_ble_eq_true rfl) dX6_init_12 ?_
  refine nx_ob (fs' := [.ref q1, .null, .null, .null, .null, .null, .null, .null, .null, .null, .null, .null, .int 0, .int 0]) rfl ?_
  refine nx_aload hX.1 0 dX6_init_15 rfl rfl ?_
  refine nx_new (ci := 0) (N := 8) (fs := [.int 0, .null, .null, .null, .null, .null, .null, .null]) hX.1 tyX0 tyX0_ok inX0 CK_6_16 IT_0 II_0 rfl (fun j hj => by rcases (show j = 0 ∨ j = 1 ∨ j = 2 ∨ j = 3 ∨ j = 4 ∨ j = 5 ∨ j = 6 ∨ j = 7 by omega) with rfl | rfl | rfl | rfl | rfl | rfl | rfl | rfl <;> rfl) (Nat.le_of_ble_eq_true rfl) (Nat.le_of_ble_eq_true rfl) dX6_init_16 (fun q2 => ?_)
  refine nx_dup hX.1 dX6_init_19 ?_
  refine nx_init (wr := _) hX.1 c_X0_init hX.1.2.2.2.2.2.1 II_0 IC_0 IN_0 rfl MS_X0_init (by decide) (by decide) (Nat.le_of_ble_eq_true rfl) dX6_init_20 (fun fq2 pq2 => ?_)
  refine nx_gc (tl := t1) (fun t2 e2 => ?_)
  refine nx_cs (c2 := 10) (s2 := 515) (p2 := 23) rfl rfl rfl ?_
  have n2 : t2.length = 10 := by rw [e2, List.length_append, n1]; rfl
  refine nx_put (v := .ref q2) hX (.object "TurnedRiver$Course") FL_6_19 tyX6 tyX6_ok nmX6 rfl rfl rfl rfl (Nat.le_of_ble_eq_true rfl) dX6_init_23 ?_
  refine nx_ob (fs' := [.ref q1, .ref q2, .null, .null, .null, .null, .null, .null, .null, .null, .null, .null, .int 0, .int 0]) rfl ?_
  refine nx_aload hX.1 0 dX6_init_26 rfl rfl ?_
  refine nx_new (ci := 0) (N := 8) (fs := [.int 0, .null, .null, .null, .null, .null, .null, .null]) hX.1 tyX0 tyX0_ok inX0 CK_6_16 IT_0 II_0 rfl (fun j hj => by rcases (show j = 0 ∨ j = 1 ∨ j = 2 ∨ j = 3 ∨ j = 4 ∨ j = 5 ∨ j = 6 ∨ j = 7 by omega) with rfl | rfl | rfl | rfl | rfl | rfl | rfl | rfl <;> rfl) (Nat.le_of_ble_eq_true rfl) (Nat.le_of_ble_eq_true rfl) dX6_init_27 (fun q3 => ?_)
  refine nx_dup hX.1 dX6_init_30 ?_
  refine nx_init (wr := _) hX.1 c_X0_init hX.1.2.2.2.2.2.1 II_0 IC_0 IN_0 rfl MS_X0_init (by decide) (by decide) (Nat.le_of_ble_eq_true rfl) dX6_init_31 (fun fq3 pq3 => ?_)
  refine nx_gc (tl := t2) (fun t3 e3 => ?_)
  refine nx_cs (c2 := 18) (s2 := 619) (p2 := 34) rfl rfl rfl ?_
  have n3 : t3.length = 18 := by rw [e3, List.length_append, n2]; rfl
  refine nx_put (v := .ref q3) hX (.object "TurnedRiver$Course") FL_6_23 tyX6 tyX6_ok nmX6 rfl rfl rfl rfl (Nat.le_of_ble_eq_true rfl) dX6_init_34 ?_
  refine nx_ob (fs' := [.ref q1, .ref q2, .ref q3, .null, .null, .null, .null, .null, .null, .null, .null, .null, .int 0, .int 0]) rfl ?_
  refine nx_aload hX.1 0 dX6_init_37 rfl rfl ?_
  refine nx_new (ci := 1) (N := 4) (fs := [.int 0, .null, .null, .null]) hX.1 tyX1 tyX1_ok inX1 CK_6_26 IT_1 II_1 rfl (fun j hj => by rcases (show j = 0 ∨ j = 1 ∨ j = 2 ∨ j = 3 by omega) with rfl | rfl | rfl | rfl <;> rfl) (Nat.le_of_ble_eq_true rfl) (Nat.le_of_ble_eq_true rfl) dX6_init_38 (fun q4 => ?_)
  refine nx_dup hX.1 dX6_init_41 ?_
  refine nx_init (wr := _) hX.1 c_X1_init hX.1.2.2.2.2.2.2.1 II_1 IC_1 IN_1 rfl MS_X1_init (by decide) (by decide) (Nat.le_of_ble_eq_true rfl) dX6_init_42 (fun fq4 pq4 => ?_)
  refine nx_gc (tl := t3) (fun t4 e4 => ?_)
  refine nx_cs (c2 := 22) (s2 := 713) (p2 := 45) rfl rfl rfl ?_
  have n4 : t4.length = 22 := by rw [e4, List.length_append, n3]; rfl
  refine nx_put (v := .ref q4) hX (.object "TurnedRiver$Orders") FL_6_29 tyX6 tyX6_ok nmX6 rfl rfl rfl rfl (Nat.le_of_ble_eq_true rfl) dX6_init_45 ?_
  refine nx_ob (fs' := [.ref q1, .ref q2, .ref q3, .ref q4, .null, .null, .null, .null, .null, .null, .null, .null, .int 0, .int 0]) rfl ?_
  refine nx_aload hX.1 0 dX6_init_48 rfl rfl ?_
  refine nx_new (ci := 1) (N := 4) (fs := [.int 0, .null, .null, .null]) hX.1 tyX1 tyX1_ok inX1 CK_6_26 IT_1 II_1 rfl (fun j hj => by rcases (show j = 0 ∨ j = 1 ∨ j = 2 ∨ j = 3 by omega) with rfl | rfl | rfl | rfl <;> rfl) (Nat.le_of_ble_eq_true rfl) (Nat.le_of_ble_eq_true rfl) dX6_init_49 (fun q5 => ?_)
  refine nx_dup hX.1 dX6_init_52 ?_
  refine nx_init (wr := _) hX.1 c_X1_init hX.1.2.2.2.2.2.2.1 II_1 IC_1 IN_1 rfl MS_X1_init (by decide) (by decide) (Nat.le_of_ble_eq_true rfl) dX6_init_53 (fun fq5 pq5 => ?_)
  refine nx_gc (tl := t4) (fun t5 e5 => ?_)
  refine nx_cs (c2 := 26) (s2 := 807) (p2 := 56) rfl rfl rfl ?_
  have n5 : t5.length = 26 := by rw [e5, List.length_append, n4]; rfl
  refine nx_put (v := .ref q5) hX (.object "TurnedRiver$Orders") FL_6_33 tyX6 tyX6_ok nmX6 rfl rfl rfl rfl (Nat.le_of_ble_eq_true rfl) dX6_init_56 ?_
  refine nx_ob (fs' := [.ref q1, .ref q2, .ref q3, .ref q4, .ref q5, .null, .null, .null, .null, .null, .null, .null, .int 0, .int 0]) rfl ?_
  refine nx_aload hX.1 0 dX6_init_59 rfl rfl ?_
  refine nx_new (ci := 3) (N := 10) (fs := [.int 0, .int 0, .int 0, .null, .null, .null, .null, .null, .null, .null]) hX.1 tyX3 tyX3_ok inX3 CK_6_36 IT_3 II_3 rfl (fun j hj => by rcases (show j = 0 ∨ j = 1 ∨ j = 2 ∨ j = 3 ∨ j = 4 ∨ j = 5 ∨ j = 6 ∨ j = 7 ∨ j = 8 ∨ j = 9 by omega) with rfl | rfl | rfl | rfl | rfl | rfl | rfl | rfl | rfl | rfl <;> rfl) (Nat.le_of_ble_eq_true rfl) (Nat.le_of_ble_eq_true rfl) dX6_init_60 (fun q6 => ?_)
  refine nx_dup hX.1 dX6_init_63 ?_
  refine nx_init (wr := _) hX.1 c_X3_init hX.1.2.2.2.2.2.2.2.1 II_3 IC_3 IN_3 rfl MS_X3_init (by decide) (by decide) (Nat.le_of_ble_eq_true rfl) dX6_init_64 (fun fq6 pq6 => ?_)
  refine nx_gc (tl := t5) (fun t6 e6 => ?_)
  refine nx_cs (c2 := 41) (s2 := 965) (p2 := 67) rfl rfl rfl ?_
  have n6 : t6.length = 41 := by rw [e6, List.length_append, n5]; rfl
  refine nx_putF (v := .ref q6) hX (.object "TurnedRiver$State") FL_6_39 tyX6 tyX6_ok nmX6 rfl rfl rfl rfl rfl (Nat.le_of_ble_eq_true rfl) dX6_init_67 ?_
  refine nx_ob (fs' := [.ref q1, .ref q2, .ref q3, .ref q4, .ref q5, .ref q6, .null, .null, .null, .null, .null, .null, .int 0, .int 0]) rfl ?_
  refine nx_aload hX.1 0 dX6_init_70 rfl rfl ?_
  refine nx_new (ci := 3) (N := 10) (fs := [.int 0, .int 0, .int 0, .null, .null, .null, .null, .null, .null, .null]) hX.1 tyX3 tyX3_ok inX3 CK_6_36 IT_3 II_3 rfl (fun j hj => by rcases (show j = 0 ∨ j = 1 ∨ j = 2 ∨ j = 3 ∨ j = 4 ∨ j = 5 ∨ j = 6 ∨ j = 7 ∨ j = 8 ∨ j = 9 by omega) with rfl | rfl | rfl | rfl | rfl | rfl | rfl | rfl | rfl | rfl <;> rfl) (Nat.le_of_ble_eq_true rfl) (Nat.le_of_ble_eq_true rfl) dX6_init_71 (fun q7 => ?_)
  refine nx_dup hX.1 dX6_init_74 ?_
  refine nx_init (wr := _) hX.1 c_X3_init hX.1.2.2.2.2.2.2.2.1 II_3 IC_3 IN_3 rfl MS_X3_init (by decide) (by decide) (Nat.le_of_ble_eq_true rfl) dX6_init_75 (fun fq7 pq7 => ?_)
  refine nx_gc (tl := t6) (fun t7 e7 => ?_)
  refine nx_cs (c2 := 56) (s2 := 1123) (p2 := 78) rfl rfl rfl ?_
  have n7 : t7.length = 56 := by rw [e7, List.length_append, n6]; rfl
  refine nx_putF (v := .ref q7) hX (.object "TurnedRiver$State") FL_6_43 tyX6 tyX6_ok nmX6 rfl rfl rfl rfl rfl (Nat.le_of_ble_eq_true rfl) dX6_init_78 ?_
  refine nx_ob (fs' := [.ref q1, .ref q2, .ref q3, .ref q4, .ref q5, .ref q6, .ref q7, .null, .null, .null, .null, .null, .int 0, .int 0]) rfl ?_
  refine nx_aload hX.1 0 dX6_init_81 rfl rfl ?_
  refine nx_iconst (v := (nI 2)) hX.1 dX6_init_82 (by decide +kernel) ?_
  refine nx_newq (N := 2) hX.1 CK_6_36 (nI_pos (by decide)) (nI_clamp (by decide)) (Nat.le_of_ble_eq_true rfl) (Nat.le_of_ble_eq_true rfl) (Nat.le_of_ble_eq_true rfl) dX6_init_83 (fun q8 => ?_)
  refine nx_gc (tl := t7) (fun t8 e8 => ?_)
  refine nx_cs (c2 := 57) (s2 := 1125) (p2 := 86) rfl rfl rfl ?_
  have n8 : t8.length = 57 := by rw [e8, List.length_append, n7]; rfl
  refine nx_putF (v := .ref q8) hX (.array (.object "TurnedRiver$State")) FL_6_46 tyX6 tyX6_ok nmX6 rfl rfl rfl rfl rfl (Nat.le_of_ble_eq_true rfl) dX6_init_86 ?_
  refine nx_ob (fs' := [.ref q1, .ref q2, .ref q3, .ref q4, .ref q5, .ref q6, .ref q7, .ref q8, .null, .null, .null, .null, .int 0, .int 0]) rfl ?_
  refine nx_aload hX.1 0 dX6_init_89 rfl rfl ?_
  refine nx_iconst (v := (nI 2)) hX.1 dX6_init_90 (by decide +kernel) ?_
  refine nx_newa (atype := .boolean) (ty := .boolean) (t := 2) (N := 2) hX.1 rfl AC_boolean tys_bool (fun _ _ z => z) rfl (nI_pos (by decide)) (nI_clamp (by decide)) (Nat.le_of_ble_eq_true rfl) (Nat.le_of_ble_eq_true rfl) (Nat.le_of_ble_eq_true rfl) dX6_init_91 (fun q9 => ?_)
  refine nx_gc (tl := t8) (fun t9 e9 => ?_)
  refine nx_cs (c2 := 58) (s2 := 1127) (p2 := 93) rfl rfl rfl ?_
  have n9 : t9.length = 58 := by rw [e9, List.length_append, n8]; rfl
  refine nx_putF (v := .ref q9) hX (.array .boolean) FL_6_50 tyX6 tyX6_ok nmX6 rfl rfl rfl rfl rfl (Nat.le_of_ble_eq_true rfl) dX6_init_93 ?_
  refine nx_ob (fs' := [.ref q1, .ref q2, .ref q3, .ref q4, .ref q5, .ref q6, .ref q7, .ref q8, .ref q9, .null, .null, .null, .int 0, .int 0]) rfl ?_
  refine nx_aload hX.1 0 dX6_init_96 rfl rfl ?_
  refine nx_new (ci := 4) (N := 4) (fs := [.int 0, .int 0, .null, .null]) hX.1 tyX4 tyX4_ok inX4 CK_6_54 IT_4 II_4 rfl (fun j hj => by rcases (show j = 0 ∨ j = 1 ∨ j = 2 ∨ j = 3 by omega) with rfl | rfl | rfl | rfl <;> rfl) (Nat.le_of_ble_eq_true rfl) (Nat.le_of_ble_eq_true rfl) dX6_init_97 (fun q10 => ?_)
  refine nx_dup hX.1 dX6_init_100 ?_
  refine nx_init (wr := _) hX.1 c_X4_init hX.1.2.2.2.2.2.2.2.2.1 II_4 IC_4 IN_4 rfl MS_X4_init (by decide) (by decide) (Nat.le_of_ble_eq_true rfl) dX6_init_101 (fun fq10 pq10 => ?_)
  refine nx_gc (tl := t9) (fun t10 e10 => ?_)
  refine nx_cs (c2 := 61) (s2 := 1331) (p2 := 104) rfl rfl rfl ?_
  have n10 : t10.length = 61 := by rw [e10, List.length_append, n9]; rfl
  refine nx_putF (v := .ref q10) hX (.object "TurnedRiver$Voyage") FL_6_57 tyX6 tyX6_ok nmX6 rfl rfl rfl rfl rfl (Nat.le_of_ble_eq_true rfl) dX6_init_104 ?_
  refine nx_ob (fs' := [.ref q1, .ref q2, .ref q3, .ref q4, .ref q5, .ref q6, .ref q7, .ref q8, .ref q9, .ref q10, .null, .null, .int 0, .int 0]) rfl ?_
  refine nx_aload hX.1 0 dX6_init_107 rfl rfl ?_
  refine nx_bipush (v := (nI 10)) hX.1 dX6_init_108 (by decide +kernel) ?_
  refine nx_newa (atype := .int) (ty := .int) (t := 0) (N := 10) hX.1 rfl AC_int tys_int (fun _ _ z => z) rfl (nI_pos (by decide)) (nI_clamp (by decide)) (Nat.le_of_ble_eq_true rfl) (Nat.le_of_ble_eq_true rfl) (Nat.le_of_ble_eq_true rfl) dX6_init_110 (fun q11 => ?_)
  refine nx_gc (tl := t10) (fun t11 e11 => ?_)
  refine nx_cs (c2 := 62) (s2 := 1341) (p2 := 112) rfl rfl rfl ?_
  have n11 : t11.length = 62 := by rw [e11, List.length_append, n10]; rfl
  refine nx_putF (v := .ref q11) hX (.array .int) FL_6_61 tyX6 tyX6_ok nmX6 rfl rfl rfl rfl rfl (Nat.le_of_ble_eq_true rfl) dX6_init_112 ?_
  refine nx_ob (fs' := [.ref q1, .ref q2, .ref q3, .ref q4, .ref q5, .ref q6, .ref q7, .ref q8, .ref q9, .ref q10, .ref q11, .null, .int 0, .int 0]) rfl ?_
  refine nx_aload hX.1 0 dX6_init_115 rfl rfl ?_
  refine nx_bipush (v := (nI 60)) hX.1 dX6_init_116 (by decide +kernel) ?_
  refine nx_newa (atype := .int) (ty := .int) (t := 0) (N := 60) hX.1 rfl AC_int tys_int (fun _ _ z => z) rfl (nI_pos (by decide)) (nI_clamp (by decide)) (Nat.le_of_ble_eq_true rfl) (Nat.le_of_ble_eq_true rfl) (Nat.le_of_ble_eq_true rfl) dX6_init_118 (fun q12 => ?_)
  refine nx_gc (tl := t11) (fun t12 e12 => ?_)
  refine nx_cs (c2 := 63) (s2 := 1401) (p2 := 120) rfl rfl rfl ?_
  have n12 : t12.length = 63 := by rw [e12, List.length_append, n11]; rfl
  refine nx_putF (v := .ref q12) hX (.array .int) FL_6_65 tyX6 tyX6_ok nmX6 rfl rfl rfl rfl rfl (Nat.le_of_ble_eq_true rfl) dX6_init_120 ?_
  refine nx_ob (fs' := [.ref q1, .ref q2, .ref q3, .ref q4, .ref q5, .ref q6, .ref q7, .ref q8, .ref q9, .ref q10, .ref q11, .ref q12, .int 0, .int 0]) rfl ?_
  refine nx_aload hX.1 0 dX6_init_123 rfl rfl ?_
  refine nx_iconst (v := (-1)) hX.1 dX6_init_124 (by decide +kernel) ?_
  refine nx_put (v := .int (-1)) hX .int FL_6_68 tyX6 tyX6_ok nmX6 rfl rfl rfl rfl (Nat.le_of_ble_eq_true rfl) dX6_init_125 ?_
  refine nx_ob (fs' := [.ref q1, .ref q2, .ref q3, .ref q4, .ref q5, .ref q6, .ref q7, .ref q8, .ref q9, .ref q10, .ref q11, .ref q12, .int 0, .int (-1)]) rfl ?_
  refine nx_iconst (v := (nI 0)) hX.1 dX6_init_128 (by decide +kernel) ?_
  refine nx_istore (lv' := [(1, .int (nI 0)), (0, .ref a)]) hX.1 dX6_init_129 rfl (by decide) rfl ?_
  refine nx_iload (x := nI 0) hX.1 0 dX6_init_130 rfl rfl ?_
  refine nx_iconst (v := (nI 2)) hX.1 dX6_init_131 (by decide +kernel) ?_
  refine nx_icmpge hX.1 154 dX6_init_132 (by decide) (fun z => absurd z (nI_ge (by decide) (by decide))) (fun _ => ?_)
  refine nx_aload hX.1 1 dX6_init_135 rfl rfl ?_
  refine nx_get (v := .ref q8) hX.1 FL_6_46 rfl dX6_init_136 ?_
  refine nx_iload (x := nI 0) hX.1 0 dX6_init_139 rfl rfl ?_
  refine nx_new (ci := 3) (N := 10) (fs := [.int 0, .int 0, .int 0, .null, .null, .null, .null, .null, .null, .null]) hX.1 tyX3 tyX3_ok inX3 CK_6_36 IT_3 II_3 rfl (fun j hj => by rcases (show j = 0 ∨ j = 1 ∨ j = 2 ∨ j = 3 ∨ j = 4 ∨ j = 5 ∨ j = 6 ∨ j = 7 ∨ j = 8 ∨ j = 9 by omega) with rfl | rfl | rfl | rfl | rfl | rfl | rfl | rfl | rfl | rfl <;> rfl) (Nat.le_of_ble_eq_true rfl) (Nat.le_of_ble_eq_true rfl) dX6_init_140 (fun q13 => ?_)
  refine nx_dup hX.1 dX6_init_143 ?_
  refine nx_init (wr := _) hX.1 c_X3_init hX.1.2.2.2.2.2.2.2.1 II_3 IC_3 IN_3 rfl MS_X3_init (by decide) (by decide) (Nat.le_of_ble_eq_true rfl) dX6_init_144 (fun fq13 pq13 => ?_)
  refine nx_gc (tl := t12) (fun t13 e13 => ?_)
  refine nx_cs (c2 := 78) (s2 := 1559) (p2 := 147) rfl rfl rfl ?_
  have n13 : t13.length = 78 := by rw [e13, List.length_append, n12]; rfl
  refine nx_aast (k := 0) hX.1 57 64 ((ap_l (i := 56) e13 n12 (by decide)).trans ((ap_l (i := 56) e12 n11 (by decide)).trans ((ap_l (i := 56) e11 n10 (by decide)).trans ((ap_l (i := 56) e10 n9 (by decide)).trans ((ap_l (i := 56) e9 n8 (by decide)).trans (ap_r (k := 0) e8 n7)))))) ((ap_r (k := 0) e13 n12).trans rfl) (vp_in_nI (by decide) (by decide)) (nI_clamp (by decide)) dX6_init_147 ?_
  refine nx_gs (tl := t13) (fun t14 e14 => ?_)
  have n14 : t14.length = 78 := by rw [e14, List.length_set]; exact n13
  refine nx_iinc (k := 0) (v := nI 1) (lv' := [(1, .int (nI 1)), (0, .ref a)]) hX.1 dX6_init_148 rfl (by decide +kernel) (by decide) rfl ?_
  refine nx_goto hX.1 130 dX6_init_151 (by decide) ?_
  refine nx_iload (x := nI 1) hX.1 0 dX6_init_130 rfl rfl ?_
  refine nx_iconst (v := (nI 2)) hX.1 dX6_init_131 (by decide +kernel) ?_
  refine nx_icmpge hX.1 154 dX6_init_132 (by decide) (fun z => absurd z (nI_ge (by decide) (by decide))) (fun _ => ?_)
  refine nx_aload hX.1 1 dX6_init_135 rfl rfl ?_
  refine nx_get (v := .ref q8) hX.1 FL_6_46 rfl dX6_init_136 ?_
  refine nx_iload (x := nI 1) hX.1 0 dX6_init_139 rfl rfl ?_
  refine nx_new (ci := 3) (N := 10) (fs := [.int 0, .int 0, .int 0, .null, .null, .null, .null, .null, .null, .null]) hX.1 tyX3 tyX3_ok inX3 CK_6_36 IT_3 II_3 rfl (fun j hj => by rcases (show j = 0 ∨ j = 1 ∨ j = 2 ∨ j = 3 ∨ j = 4 ∨ j = 5 ∨ j = 6 ∨ j = 7 ∨ j = 8 ∨ j = 9 by omega) with rfl | rfl | rfl | rfl | rfl | rfl | rfl | rfl | rfl | rfl <;> rfl) (Nat.le_of_ble_eq_true rfl) (Nat.le_of_ble_eq_true rfl) dX6_init_140 (fun q14 => ?_)
  refine nx_dup hX.1 dX6_init_143 ?_
  refine nx_init (wr := _) hX.1 c_X3_init hX.1.2.2.2.2.2.2.2.1 II_3 IC_3 IN_3 rfl MS_X3_init (by decide) (by decide) (Nat.le_of_ble_eq_true rfl) dX6_init_144 (fun fq14 pq14 => ?_)
  refine nx_gc (tl := t14) (fun t15 e15 => ?_)
  refine nx_cs (c2 := 93) (s2 := 1717) (p2 := 147) rfl rfl rfl ?_
  have n15 : t15.length = 93 := by rw [e15, List.length_append, n14]; rfl
  refine nx_aast (k := 1) hX.1 57 79 ((ap_l (i := 56) e15 n14 (by decide)).trans (st_s e14 (by rw [n13]; decide))) ((ap_r (k := 0) e15 n14).trans rfl) (vp_in_nI (by decide) (by decide)) (nI_clamp (by decide)) dX6_init_147 ?_
  refine nx_gs (tl := t15) (fun t16 e16 => ?_)
  have n16 : t16.length = 93 := by rw [e16, List.length_set]; exact n15
  refine nx_iinc (k := 0) (v := nI 2) (lv' := [(1, .int (nI 2)), (0, .ref a)]) hX.1 dX6_init_148 rfl (by decide +kernel) (by decide) rfl ?_
  refine nx_goto hX.1 130 dX6_init_151 (by decide) ?_
  refine nx_iload (x := nI 2) hX.1 0 dX6_init_130 rfl rfl ?_
  refine nx_iconst (v := (nI 2)) hX.1 dX6_init_131 (by decide +kernel) ?_
  refine nx_icmpge hX.1 154 dX6_init_132 (by decide) (fun _ => ?_) (fun z => absurd (nI_le (by decide) (by decide)) z)
  refine nx_vret3 hX (fL [a, q1, (fq1 1), q2, (fq2 1), (fq2 2), (fq2 3), (fq2 4), (fq2 5), (fq2 6), (fq2 7), q3, (fq3 1), (fq3 2), (fq3 3), (fq3 4), (fq3 5), (fq3 6), (fq3 7), q4, (fq4 1), (fq4 2), (fq4 3), q5, (fq5 1), (fq5 2), (fq5 3), q6, (fq6 1), (fq6 2), (fq6 3), (fq6 4), (fq6 5), (fq6 6), (fq6 7), (fq6 8), (fq6 9), (fq6 10), (fq6 11), (fq6 12), (fq6 13), (fq6 14), q7, (fq7 1), (fq7 2), (fq7 3), (fq7 4), (fq7 5), (fq7 6), (fq7 7), (fq7 8), (fq7 9), (fq7 10), (fq7 11), (fq7 12), (fq7 13), (fq7 14), q13, (fq13 1), (fq13 2), (fq13 3), (fq13 4), (fq13 5), (fq13 6), (fq13 7), (fq13 8), (fq13 9), (fq13 10), (fq13 11), (fq13 12), (fq13 13), (fq13 14), q14, (fq14 1), (fq14 2), (fq14 3), (fq14 4), (fq14 5), (fq14 6), (fq14 7), (fq14 8), (fq14 9), (fq14 10), (fq14 11), (fq14 12), (fq14 13), (fq14 14), q8, q9, q10, (fq10 1), (fq10 2), q11, q12]) rfl (fun i hi => ?_) dX6_init_154
  by_cases c0 : i = 0
  · subst c0; exact ⟨_, rfl, fun H z => z⟩
  by_cases c1 : i = 1
  · subst c1; exact ⟨_, ((st_n (i := 0) e16 (by decide)).trans ((ap_l (i := 0) e15 n14 (by decide)).trans ((st_n (i := 0) e14 (by decide)).trans ((ap_l (i := 0) e13 n12 (by decide)).trans ((ap_l (i := 0) e12 n11 (by decide)).trans ((ap_l (i := 0) e11 n10 (by decide)).trans ((ap_l (i := 0) e10 n9 (by decide)).trans ((ap_l (i := 0) e9 n8 (by decide)).trans ((ap_l (i := 0) e8 n7 (by decide)).trans ((ap_l (i := 0) e7 n6 (by decide)).trans ((ap_l (i := 0) e6 n5 (by decide)).trans ((ap_l (i := 0) e5 n4 (by decide)).trans ((ap_l (i := 0) e4 n3 (by decide)).trans ((ap_l (i := 0) e3 n2 (by decide)).trans ((ap_l (i := 0) e2 n1 (by decide)).trans (ap_r (k := 0) e1 n0)))))))))))))))).trans rfl, fun H z => z⟩
  by_cases c2 : i = 2
  · subst c2; exact ⟨_, ((st_n (i := 1) e16 (by decide)).trans ((ap_l (i := 1) e15 n14 (by decide)).trans ((st_n (i := 1) e14 (by decide)).trans ((ap_l (i := 1) e13 n12 (by decide)).trans ((ap_l (i := 1) e12 n11 (by decide)).trans ((ap_l (i := 1) e11 n10 (by decide)).trans ((ap_l (i := 1) e10 n9 (by decide)).trans ((ap_l (i := 1) e9 n8 (by decide)).trans ((ap_l (i := 1) e8 n7 (by decide)).trans ((ap_l (i := 1) e7 n6 (by decide)).trans ((ap_l (i := 1) e6 n5 (by decide)).trans ((ap_l (i := 1) e5 n4 (by decide)).trans ((ap_l (i := 1) e4 n3 (by decide)).trans ((ap_l (i := 1) e3 n2 (by decide)).trans ((ap_l (i := 1) e2 n1 (by decide)).trans (ap_r (k := 1) e1 n0)))))))))))))))).trans rfl, fun H z => z⟩
  by_cases c3 : i = 3
  · subst c3; exact ⟨_, ((st_n (i := 2) e16 (by decide)).trans ((ap_l (i := 2) e15 n14 (by decide)).trans ((st_n (i := 2) e14 (by decide)).trans ((ap_l (i := 2) e13 n12 (by decide)).trans ((ap_l (i := 2) e12 n11 (by decide)).trans ((ap_l (i := 2) e11 n10 (by decide)).trans ((ap_l (i := 2) e10 n9 (by decide)).trans ((ap_l (i := 2) e9 n8 (by decide)).trans ((ap_l (i := 2) e8 n7 (by decide)).trans ((ap_l (i := 2) e7 n6 (by decide)).trans ((ap_l (i := 2) e6 n5 (by decide)).trans ((ap_l (i := 2) e5 n4 (by decide)).trans ((ap_l (i := 2) e4 n3 (by decide)).trans ((ap_l (i := 2) e3 n2 (by decide)).trans (ap_r (k := 0) e2 n1))))))))))))))).trans rfl, fun H z => z⟩
  by_cases c4 : i = 4
  · subst c4; exact ⟨_, ((st_n (i := 3) e16 (by decide)).trans ((ap_l (i := 3) e15 n14 (by decide)).trans ((st_n (i := 3) e14 (by decide)).trans ((ap_l (i := 3) e13 n12 (by decide)).trans ((ap_l (i := 3) e12 n11 (by decide)).trans ((ap_l (i := 3) e11 n10 (by decide)).trans ((ap_l (i := 3) e10 n9 (by decide)).trans ((ap_l (i := 3) e9 n8 (by decide)).trans ((ap_l (i := 3) e8 n7 (by decide)).trans ((ap_l (i := 3) e7 n6 (by decide)).trans ((ap_l (i := 3) e6 n5 (by decide)).trans ((ap_l (i := 3) e5 n4 (by decide)).trans ((ap_l (i := 3) e4 n3 (by decide)).trans ((ap_l (i := 3) e3 n2 (by decide)).trans (ap_r (k := 1) e2 n1))))))))))))))).trans rfl, fun H z => z⟩
  by_cases c5 : i = 5
  · subst c5; exact ⟨_, ((st_n (i := 4) e16 (by decide)).trans ((ap_l (i := 4) e15 n14 (by decide)).trans ((st_n (i := 4) e14 (by decide)).trans ((ap_l (i := 4) e13 n12 (by decide)).trans ((ap_l (i := 4) e12 n11 (by decide)).trans ((ap_l (i := 4) e11 n10 (by decide)).trans ((ap_l (i := 4) e10 n9 (by decide)).trans ((ap_l (i := 4) e9 n8 (by decide)).trans ((ap_l (i := 4) e8 n7 (by decide)).trans ((ap_l (i := 4) e7 n6 (by decide)).trans ((ap_l (i := 4) e6 n5 (by decide)).trans ((ap_l (i := 4) e5 n4 (by decide)).trans ((ap_l (i := 4) e4 n3 (by decide)).trans ((ap_l (i := 4) e3 n2 (by decide)).trans (ap_r (k := 2) e2 n1))))))))))))))).trans rfl, fun H z => z⟩
  by_cases c6 : i = 6
  · subst c6; exact ⟨_, ((st_n (i := 5) e16 (by decide)).trans ((ap_l (i := 5) e15 n14 (by decide)).trans ((st_n (i := 5) e14 (by decide)).trans ((ap_l (i := 5) e13 n12 (by decide)).trans ((ap_l (i := 5) e12 n11 (by decide)).trans ((ap_l (i := 5) e11 n10 (by decide)).trans ((ap_l (i := 5) e10 n9 (by decide)).trans ((ap_l (i := 5) e9 n8 (by decide)).trans ((ap_l (i := 5) e8 n7 (by decide)).trans ((ap_l (i := 5) e7 n6 (by decide)).trans ((ap_l (i := 5) e6 n5 (by decide)).trans ((ap_l (i := 5) e5 n4 (by decide)).trans ((ap_l (i := 5) e4 n3 (by decide)).trans ((ap_l (i := 5) e3 n2 (by decide)).trans (ap_r (k := 3) e2 n1))))))))))))))).trans rfl, fun H z => z⟩
  by_cases c7 : i = 7
  · subst c7; exact ⟨_, ((st_n (i := 6) e16 (by decide)).trans ((ap_l (i := 6) e15 n14 (by decide)).trans ((st_n (i := 6) e14 (by decide)).trans ((ap_l (i := 6) e13 n12 (by decide)).trans ((ap_l (i := 6) e12 n11 (by decide)).trans ((ap_l (i := 6) e11 n10 (by decide)).trans ((ap_l (i := 6) e10 n9 (by decide)).trans ((ap_l (i := 6) e9 n8 (by decide)).trans ((ap_l (i := 6) e8 n7 (by decide)).trans ((ap_l (i := 6) e7 n6 (by decide)).trans ((ap_l (i := 6) e6 n5 (by decide)).trans ((ap_l (i := 6) e5 n4 (by decide)).trans ((ap_l (i := 6) e4 n3 (by decide)).trans ((ap_l (i := 6) e3 n2 (by decide)).trans (ap_r (k := 4) e2 n1))))))))))))))).trans rfl, fun H z => z⟩
  by_cases c8 : i = 8
  · subst c8; exact ⟨_, ((st_n (i := 7) e16 (by decide)).trans ((ap_l (i := 7) e15 n14 (by decide)).trans ((st_n (i := 7) e14 (by decide)).trans ((ap_l (i := 7) e13 n12 (by decide)).trans ((ap_l (i := 7) e12 n11 (by decide)).trans ((ap_l (i := 7) e11 n10 (by decide)).trans ((ap_l (i := 7) e10 n9 (by decide)).trans ((ap_l (i := 7) e9 n8 (by decide)).trans ((ap_l (i := 7) e8 n7 (by decide)).trans ((ap_l (i := 7) e7 n6 (by decide)).trans ((ap_l (i := 7) e6 n5 (by decide)).trans ((ap_l (i := 7) e5 n4 (by decide)).trans ((ap_l (i := 7) e4 n3 (by decide)).trans ((ap_l (i := 7) e3 n2 (by decide)).trans (ap_r (k := 5) e2 n1))))))))))))))).trans rfl, fun H z => z⟩
  by_cases c9 : i = 9
  · subst c9; exact ⟨_, ((st_n (i := 8) e16 (by decide)).trans ((ap_l (i := 8) e15 n14 (by decide)).trans ((st_n (i := 8) e14 (by decide)).trans ((ap_l (i := 8) e13 n12 (by decide)).trans ((ap_l (i := 8) e12 n11 (by decide)).trans ((ap_l (i := 8) e11 n10 (by decide)).trans ((ap_l (i := 8) e10 n9 (by decide)).trans ((ap_l (i := 8) e9 n8 (by decide)).trans ((ap_l (i := 8) e8 n7 (by decide)).trans ((ap_l (i := 8) e7 n6 (by decide)).trans ((ap_l (i := 8) e6 n5 (by decide)).trans ((ap_l (i := 8) e5 n4 (by decide)).trans ((ap_l (i := 8) e4 n3 (by decide)).trans ((ap_l (i := 8) e3 n2 (by decide)).trans (ap_r (k := 6) e2 n1))))))))))))))).trans rfl, fun H z => z⟩
  by_cases c10 : i = 10
  · subst c10; exact ⟨_, ((st_n (i := 9) e16 (by decide)).trans ((ap_l (i := 9) e15 n14 (by decide)).trans ((st_n (i := 9) e14 (by decide)).trans ((ap_l (i := 9) e13 n12 (by decide)).trans ((ap_l (i := 9) e12 n11 (by decide)).trans ((ap_l (i := 9) e11 n10 (by decide)).trans ((ap_l (i := 9) e10 n9 (by decide)).trans ((ap_l (i := 9) e9 n8 (by decide)).trans ((ap_l (i := 9) e8 n7 (by decide)).trans ((ap_l (i := 9) e7 n6 (by decide)).trans ((ap_l (i := 9) e6 n5 (by decide)).trans ((ap_l (i := 9) e5 n4 (by decide)).trans ((ap_l (i := 9) e4 n3 (by decide)).trans ((ap_l (i := 9) e3 n2 (by decide)).trans (ap_r (k := 7) e2 n1))))))))))))))).trans rfl, fun H z => z⟩
  by_cases c11 : i = 11
  · subst c11; exact ⟨_, ((st_n (i := 10) e16 (by decide)).trans ((ap_l (i := 10) e15 n14 (by decide)).trans ((st_n (i := 10) e14 (by decide)).trans ((ap_l (i := 10) e13 n12 (by decide)).trans ((ap_l (i := 10) e12 n11 (by decide)).trans ((ap_l (i := 10) e11 n10 (by decide)).trans ((ap_l (i := 10) e10 n9 (by decide)).trans ((ap_l (i := 10) e9 n8 (by decide)).trans ((ap_l (i := 10) e8 n7 (by decide)).trans ((ap_l (i := 10) e7 n6 (by decide)).trans ((ap_l (i := 10) e6 n5 (by decide)).trans ((ap_l (i := 10) e5 n4 (by decide)).trans ((ap_l (i := 10) e4 n3 (by decide)).trans (ap_r (k := 0) e3 n2)))))))))))))).trans rfl, fun H z => z⟩
  by_cases c12 : i = 12
  · subst c12; exact ⟨_, ((st_n (i := 11) e16 (by decide)).trans ((ap_l (i := 11) e15 n14 (by decide)).trans ((st_n (i := 11) e14 (by decide)).trans ((ap_l (i := 11) e13 n12 (by decide)).trans ((ap_l (i := 11) e12 n11 (by decide)).trans ((ap_l (i := 11) e11 n10 (by decide)).trans ((ap_l (i := 11) e10 n9 (by decide)).trans ((ap_l (i := 11) e9 n8 (by decide)).trans ((ap_l (i := 11) e8 n7 (by decide)).trans ((ap_l (i := 11) e7 n6 (by decide)).trans ((ap_l (i := 11) e6 n5 (by decide)).trans ((ap_l (i := 11) e5 n4 (by decide)).trans ((ap_l (i := 11) e4 n3 (by decide)).trans (ap_r (k := 1) e3 n2)))))))))))))).trans rfl, fun H z => z⟩
  by_cases c13 : i = 13
  · subst c13; exact ⟨_, ((st_n (i := 12) e16 (by decide)).trans ((ap_l (i := 12) e15 n14 (by decide)).trans ((st_n (i := 12) e14 (by decide)).trans ((ap_l (i := 12) e13 n12 (by decide)).trans ((ap_l (i := 12) e12 n11 (by decide)).trans ((ap_l (i := 12) e11 n10 (by decide)).trans ((ap_l (i := 12) e10 n9 (by decide)).trans ((ap_l (i := 12) e9 n8 (by decide)).trans ((ap_l (i := 12) e8 n7 (by decide)).trans ((ap_l (i := 12) e7 n6 (by decide)).trans ((ap_l (i := 12) e6 n5 (by decide)).trans ((ap_l (i := 12) e5 n4 (by decide)).trans ((ap_l (i := 12) e4 n3 (by decide)).trans (ap_r (k := 2) e3 n2)))))))))))))).trans rfl, fun H z => z⟩
  by_cases c14 : i = 14
  · subst c14; exact ⟨_, ((st_n (i := 13) e16 (by decide)).trans ((ap_l (i := 13) e15 n14 (by decide)).trans ((st_n (i := 13) e14 (by decide)).trans ((ap_l (i := 13) e13 n12 (by decide)).trans ((ap_l (i := 13) e12 n11 (by decide)).trans ((ap_l (i := 13) e11 n10 (by decide)).trans ((ap_l (i := 13) e10 n9 (by decide)).trans ((ap_l (i := 13) e9 n8 (by decide)).trans ((ap_l (i := 13) e8 n7 (by decide)).trans ((ap_l (i := 13) e7 n6 (by decide)).trans ((ap_l (i := 13) e6 n5 (by decide)).trans ((ap_l (i := 13) e5 n4 (by decide)).trans ((ap_l (i := 13) e4 n3 (by decide)).trans (ap_r (k := 3) e3 n2)))))))))))))).trans rfl, fun H z => z⟩
  by_cases c15 : i = 15
  · subst c15; exact ⟨_, ((st_n (i := 14) e16 (by decide)).trans ((ap_l (i := 14) e15 n14 (by decide)).trans ((st_n (i := 14) e14 (by decide)).trans ((ap_l (i := 14) e13 n12 (by decide)).trans ((ap_l (i := 14) e12 n11 (by decide)).trans ((ap_l (i := 14) e11 n10 (by decide)).trans ((ap_l (i := 14) e10 n9 (by decide)).trans ((ap_l (i := 14) e9 n8 (by decide)).trans ((ap_l (i := 14) e8 n7 (by decide)).trans ((ap_l (i := 14) e7 n6 (by decide)).trans ((ap_l (i := 14) e6 n5 (by decide)).trans ((ap_l (i := 14) e5 n4 (by decide)).trans ((ap_l (i := 14) e4 n3 (by decide)).trans (ap_r (k := 4) e3 n2)))))))))))))).trans rfl, fun H z => z⟩
  by_cases c16 : i = 16
  · subst c16; exact ⟨_, ((st_n (i := 15) e16 (by decide)).trans ((ap_l (i := 15) e15 n14 (by decide)).trans ((st_n (i := 15) e14 (by decide)).trans ((ap_l (i := 15) e13 n12 (by decide)).trans ((ap_l (i := 15) e12 n11 (by decide)).trans ((ap_l (i := 15) e11 n10 (by decide)).trans ((ap_l (i := 15) e10 n9 (by decide)).trans ((ap_l (i := 15) e9 n8 (by decide)).trans ((ap_l (i := 15) e8 n7 (by decide)).trans ((ap_l (i := 15) e7 n6 (by decide)).trans ((ap_l (i := 15) e6 n5 (by decide)).trans ((ap_l (i := 15) e5 n4 (by decide)).trans ((ap_l (i := 15) e4 n3 (by decide)).trans (ap_r (k := 5) e3 n2)))))))))))))).trans rfl, fun H z => z⟩
  by_cases c17 : i = 17
  · subst c17; exact ⟨_, ((st_n (i := 16) e16 (by decide)).trans ((ap_l (i := 16) e15 n14 (by decide)).trans ((st_n (i := 16) e14 (by decide)).trans ((ap_l (i := 16) e13 n12 (by decide)).trans ((ap_l (i := 16) e12 n11 (by decide)).trans ((ap_l (i := 16) e11 n10 (by decide)).trans ((ap_l (i := 16) e10 n9 (by decide)).trans ((ap_l (i := 16) e9 n8 (by decide)).trans ((ap_l (i := 16) e8 n7 (by decide)).trans ((ap_l (i := 16) e7 n6 (by decide)).trans ((ap_l (i := 16) e6 n5 (by decide)).trans ((ap_l (i := 16) e5 n4 (by decide)).trans ((ap_l (i := 16) e4 n3 (by decide)).trans (ap_r (k := 6) e3 n2)))))))))))))).trans rfl, fun H z => z⟩
  by_cases c18 : i = 18
  · subst c18; exact ⟨_, ((st_n (i := 17) e16 (by decide)).trans ((ap_l (i := 17) e15 n14 (by decide)).trans ((st_n (i := 17) e14 (by decide)).trans ((ap_l (i := 17) e13 n12 (by decide)).trans ((ap_l (i := 17) e12 n11 (by decide)).trans ((ap_l (i := 17) e11 n10 (by decide)).trans ((ap_l (i := 17) e10 n9 (by decide)).trans ((ap_l (i := 17) e9 n8 (by decide)).trans ((ap_l (i := 17) e8 n7 (by decide)).trans ((ap_l (i := 17) e7 n6 (by decide)).trans ((ap_l (i := 17) e6 n5 (by decide)).trans ((ap_l (i := 17) e5 n4 (by decide)).trans ((ap_l (i := 17) e4 n3 (by decide)).trans (ap_r (k := 7) e3 n2)))))))))))))).trans rfl, fun H z => z⟩
  by_cases c19 : i = 19
  · subst c19; exact ⟨_, ((st_n (i := 18) e16 (by decide)).trans ((ap_l (i := 18) e15 n14 (by decide)).trans ((st_n (i := 18) e14 (by decide)).trans ((ap_l (i := 18) e13 n12 (by decide)).trans ((ap_l (i := 18) e12 n11 (by decide)).trans ((ap_l (i := 18) e11 n10 (by decide)).trans ((ap_l (i := 18) e10 n9 (by decide)).trans ((ap_l (i := 18) e9 n8 (by decide)).trans ((ap_l (i := 18) e8 n7 (by decide)).trans ((ap_l (i := 18) e7 n6 (by decide)).trans ((ap_l (i := 18) e6 n5 (by decide)).trans ((ap_l (i := 18) e5 n4 (by decide)).trans (ap_r (k := 0) e4 n3))))))))))))).trans rfl, fun H z => z⟩
  by_cases c20 : i = 20
  · subst c20; exact ⟨_, ((st_n (i := 19) e16 (by decide)).trans ((ap_l (i := 19) e15 n14 (by decide)).trans ((st_n (i := 19) e14 (by decide)).trans ((ap_l (i := 19) e13 n12 (by decide)).trans ((ap_l (i := 19) e12 n11 (by decide)).trans ((ap_l (i := 19) e11 n10 (by decide)).trans ((ap_l (i := 19) e10 n9 (by decide)).trans ((ap_l (i := 19) e9 n8 (by decide)).trans ((ap_l (i := 19) e8 n7 (by decide)).trans ((ap_l (i := 19) e7 n6 (by decide)).trans ((ap_l (i := 19) e6 n5 (by decide)).trans ((ap_l (i := 19) e5 n4 (by decide)).trans (ap_r (k := 1) e4 n3))))))))))))).trans rfl, fun H z => z⟩
  by_cases c21 : i = 21
  · subst c21; exact ⟨_, ((st_n (i := 20) e16 (by decide)).trans ((ap_l (i := 20) e15 n14 (by decide)).trans ((st_n (i := 20) e14 (by decide)).trans ((ap_l (i := 20) e13 n12 (by decide)).trans ((ap_l (i := 20) e12 n11 (by decide)).trans ((ap_l (i := 20) e11 n10 (by decide)).trans ((ap_l (i := 20) e10 n9 (by decide)).trans ((ap_l (i := 20) e9 n8 (by decide)).trans ((ap_l (i := 20) e8 n7 (by decide)).trans ((ap_l (i := 20) e7 n6 (by decide)).trans ((ap_l (i := 20) e6 n5 (by decide)).trans ((ap_l (i := 20) e5 n4 (by decide)).trans (ap_r (k := 2) e4 n3))))))))))))).trans rfl, fun H z => z⟩
  by_cases c22 : i = 22
  · subst c22; exact ⟨_, ((st_n (i := 21) e16 (by decide)).trans ((ap_l (i := 21) e15 n14 (by decide)).trans ((st_n (i := 21) e14 (by decide)).trans ((ap_l (i := 21) e13 n12 (by decide)).trans ((ap_l (i := 21) e12 n11 (by decide)).trans ((ap_l (i := 21) e11 n10 (by decide)).trans ((ap_l (i := 21) e10 n9 (by decide)).trans ((ap_l (i := 21) e9 n8 (by decide)).trans ((ap_l (i := 21) e8 n7 (by decide)).trans ((ap_l (i := 21) e7 n6 (by decide)).trans ((ap_l (i := 21) e6 n5 (by decide)).trans ((ap_l (i := 21) e5 n4 (by decide)).trans (ap_r (k := 3) e4 n3))))))))))))).trans rfl, fun H z => z⟩
  by_cases c23 : i = 23
  · subst c23; exact ⟨_, ((st_n (i := 22) e16 (by decide)).trans ((ap_l (i := 22) e15 n14 (by decide)).trans ((st_n (i := 22) e14 (by decide)).trans ((ap_l (i := 22) e13 n12 (by decide)).trans ((ap_l (i := 22) e12 n11 (by decide)).trans ((ap_l (i := 22) e11 n10 (by decide)).trans ((ap_l (i := 22) e10 n9 (by decide)).trans ((ap_l (i := 22) e9 n8 (by decide)).trans ((ap_l (i := 22) e8 n7 (by decide)).trans ((ap_l (i := 22) e7 n6 (by decide)).trans ((ap_l (i := 22) e6 n5 (by decide)).trans (ap_r (k := 0) e5 n4)))))))))))).trans rfl, fun H z => z⟩
  by_cases c24 : i = 24
  · subst c24; exact ⟨_, ((st_n (i := 23) e16 (by decide)).trans ((ap_l (i := 23) e15 n14 (by decide)).trans ((st_n (i := 23) e14 (by decide)).trans ((ap_l (i := 23) e13 n12 (by decide)).trans ((ap_l (i := 23) e12 n11 (by decide)).trans ((ap_l (i := 23) e11 n10 (by decide)).trans ((ap_l (i := 23) e10 n9 (by decide)).trans ((ap_l (i := 23) e9 n8 (by decide)).trans ((ap_l (i := 23) e8 n7 (by decide)).trans ((ap_l (i := 23) e7 n6 (by decide)).trans ((ap_l (i := 23) e6 n5 (by decide)).trans (ap_r (k := 1) e5 n4)))))))))))).trans rfl, fun H z => z⟩
  by_cases c25 : i = 25
  · subst c25; exact ⟨_, ((st_n (i := 24) e16 (by decide)).trans ((ap_l (i := 24) e15 n14 (by decide)).trans ((st_n (i := 24) e14 (by decide)).trans ((ap_l (i := 24) e13 n12 (by decide)).trans ((ap_l (i := 24) e12 n11 (by decide)).trans ((ap_l (i := 24) e11 n10 (by decide)).trans ((ap_l (i := 24) e10 n9 (by decide)).trans ((ap_l (i := 24) e9 n8 (by decide)).trans ((ap_l (i := 24) e8 n7 (by decide)).trans ((ap_l (i := 24) e7 n6 (by decide)).trans ((ap_l (i := 24) e6 n5 (by decide)).trans (ap_r (k := 2) e5 n4)))))))))))).trans rfl, fun H z => z⟩
  by_cases c26 : i = 26
  · subst c26; exact ⟨_, ((st_n (i := 25) e16 (by decide)).trans ((ap_l (i := 25) e15 n14 (by decide)).trans ((st_n (i := 25) e14 (by decide)).trans ((ap_l (i := 25) e13 n12 (by decide)).trans ((ap_l (i := 25) e12 n11 (by decide)).trans ((ap_l (i := 25) e11 n10 (by decide)).trans ((ap_l (i := 25) e10 n9 (by decide)).trans ((ap_l (i := 25) e9 n8 (by decide)).trans ((ap_l (i := 25) e8 n7 (by decide)).trans ((ap_l (i := 25) e7 n6 (by decide)).trans ((ap_l (i := 25) e6 n5 (by decide)).trans (ap_r (k := 3) e5 n4)))))))))))).trans rfl, fun H z => z⟩
  by_cases c27 : i = 27
  · subst c27; exact ⟨_, ((st_n (i := 26) e16 (by decide)).trans ((ap_l (i := 26) e15 n14 (by decide)).trans ((st_n (i := 26) e14 (by decide)).trans ((ap_l (i := 26) e13 n12 (by decide)).trans ((ap_l (i := 26) e12 n11 (by decide)).trans ((ap_l (i := 26) e11 n10 (by decide)).trans ((ap_l (i := 26) e10 n9 (by decide)).trans ((ap_l (i := 26) e9 n8 (by decide)).trans ((ap_l (i := 26) e8 n7 (by decide)).trans ((ap_l (i := 26) e7 n6 (by decide)).trans (ap_r (k := 0) e6 n5))))))))))).trans rfl, fun H z => z⟩
  by_cases c28 : i = 28
  · subst c28; exact ⟨_, ((st_n (i := 27) e16 (by decide)).trans ((ap_l (i := 27) e15 n14 (by decide)).trans ((st_n (i := 27) e14 (by decide)).trans ((ap_l (i := 27) e13 n12 (by decide)).trans ((ap_l (i := 27) e12 n11 (by decide)).trans ((ap_l (i := 27) e11 n10 (by decide)).trans ((ap_l (i := 27) e10 n9 (by decide)).trans ((ap_l (i := 27) e9 n8 (by decide)).trans ((ap_l (i := 27) e8 n7 (by decide)).trans ((ap_l (i := 27) e7 n6 (by decide)).trans (ap_r (k := 1) e6 n5))))))))))).trans rfl, fun H z => z⟩
  by_cases c29 : i = 29
  · subst c29; exact ⟨_, ((st_n (i := 28) e16 (by decide)).trans ((ap_l (i := 28) e15 n14 (by decide)).trans ((st_n (i := 28) e14 (by decide)).trans ((ap_l (i := 28) e13 n12 (by decide)).trans ((ap_l (i := 28) e12 n11 (by decide)).trans ((ap_l (i := 28) e11 n10 (by decide)).trans ((ap_l (i := 28) e10 n9 (by decide)).trans ((ap_l (i := 28) e9 n8 (by decide)).trans ((ap_l (i := 28) e8 n7 (by decide)).trans ((ap_l (i := 28) e7 n6 (by decide)).trans (ap_r (k := 2) e6 n5))))))))))).trans rfl, fun H z => z⟩
  by_cases c30 : i = 30
  · subst c30; exact ⟨_, ((st_n (i := 29) e16 (by decide)).trans ((ap_l (i := 29) e15 n14 (by decide)).trans ((st_n (i := 29) e14 (by decide)).trans ((ap_l (i := 29) e13 n12 (by decide)).trans ((ap_l (i := 29) e12 n11 (by decide)).trans ((ap_l (i := 29) e11 n10 (by decide)).trans ((ap_l (i := 29) e10 n9 (by decide)).trans ((ap_l (i := 29) e9 n8 (by decide)).trans ((ap_l (i := 29) e8 n7 (by decide)).trans ((ap_l (i := 29) e7 n6 (by decide)).trans (ap_r (k := 3) e6 n5))))))))))).trans rfl, fun H z => z⟩
  by_cases c31 : i = 31
  · subst c31; exact ⟨_, ((st_n (i := 30) e16 (by decide)).trans ((ap_l (i := 30) e15 n14 (by decide)).trans ((st_n (i := 30) e14 (by decide)).trans ((ap_l (i := 30) e13 n12 (by decide)).trans ((ap_l (i := 30) e12 n11 (by decide)).trans ((ap_l (i := 30) e11 n10 (by decide)).trans ((ap_l (i := 30) e10 n9 (by decide)).trans ((ap_l (i := 30) e9 n8 (by decide)).trans ((ap_l (i := 30) e8 n7 (by decide)).trans ((ap_l (i := 30) e7 n6 (by decide)).trans (ap_r (k := 4) e6 n5))))))))))).trans rfl, fun H z => z⟩
  by_cases c32 : i = 32
  · subst c32; exact ⟨_, ((st_n (i := 31) e16 (by decide)).trans ((ap_l (i := 31) e15 n14 (by decide)).trans ((st_n (i := 31) e14 (by decide)).trans ((ap_l (i := 31) e13 n12 (by decide)).trans ((ap_l (i := 31) e12 n11 (by decide)).trans ((ap_l (i := 31) e11 n10 (by decide)).trans ((ap_l (i := 31) e10 n9 (by decide)).trans ((ap_l (i := 31) e9 n8 (by decide)).trans ((ap_l (i := 31) e8 n7 (by decide)).trans ((ap_l (i := 31) e7 n6 (by decide)).trans (ap_r (k := 5) e6 n5))))))))))).trans rfl, fun H z => z⟩
  by_cases c33 : i = 33
  · subst c33; exact ⟨_, ((st_n (i := 32) e16 (by decide)).trans ((ap_l (i := 32) e15 n14 (by decide)).trans ((st_n (i := 32) e14 (by decide)).trans ((ap_l (i := 32) e13 n12 (by decide)).trans ((ap_l (i := 32) e12 n11 (by decide)).trans ((ap_l (i := 32) e11 n10 (by decide)).trans ((ap_l (i := 32) e10 n9 (by decide)).trans ((ap_l (i := 32) e9 n8 (by decide)).trans ((ap_l (i := 32) e8 n7 (by decide)).trans ((ap_l (i := 32) e7 n6 (by decide)).trans (ap_r (k := 6) e6 n5))))))))))).trans rfl, fun H z => z⟩
  by_cases c34 : i = 34
  · subst c34; exact ⟨_, ((st_n (i := 33) e16 (by decide)).trans ((ap_l (i := 33) e15 n14 (by decide)).trans ((st_n (i := 33) e14 (by decide)).trans ((ap_l (i := 33) e13 n12 (by decide)).trans ((ap_l (i := 33) e12 n11 (by decide)).trans ((ap_l (i := 33) e11 n10 (by decide)).trans ((ap_l (i := 33) e10 n9 (by decide)).trans ((ap_l (i := 33) e9 n8 (by decide)).trans ((ap_l (i := 33) e8 n7 (by decide)).trans ((ap_l (i := 33) e7 n6 (by decide)).trans (ap_r (k := 7) e6 n5))))))))))).trans rfl, fun H z => z⟩
  by_cases c35 : i = 35
  · subst c35; exact ⟨_, ((st_n (i := 34) e16 (by decide)).trans ((ap_l (i := 34) e15 n14 (by decide)).trans ((st_n (i := 34) e14 (by decide)).trans ((ap_l (i := 34) e13 n12 (by decide)).trans ((ap_l (i := 34) e12 n11 (by decide)).trans ((ap_l (i := 34) e11 n10 (by decide)).trans ((ap_l (i := 34) e10 n9 (by decide)).trans ((ap_l (i := 34) e9 n8 (by decide)).trans ((ap_l (i := 34) e8 n7 (by decide)).trans ((ap_l (i := 34) e7 n6 (by decide)).trans (ap_r (k := 8) e6 n5))))))))))).trans rfl, fun H z => z⟩
  by_cases c36 : i = 36
  · subst c36; exact ⟨_, ((st_n (i := 35) e16 (by decide)).trans ((ap_l (i := 35) e15 n14 (by decide)).trans ((st_n (i := 35) e14 (by decide)).trans ((ap_l (i := 35) e13 n12 (by decide)).trans ((ap_l (i := 35) e12 n11 (by decide)).trans ((ap_l (i := 35) e11 n10 (by decide)).trans ((ap_l (i := 35) e10 n9 (by decide)).trans ((ap_l (i := 35) e9 n8 (by decide)).trans ((ap_l (i := 35) e8 n7 (by decide)).trans ((ap_l (i := 35) e7 n6 (by decide)).trans (ap_r (k := 9) e6 n5))))))))))).trans rfl, fun H z => z⟩
  by_cases c37 : i = 37
  · subst c37; exact ⟨_, ((st_n (i := 36) e16 (by decide)).trans ((ap_l (i := 36) e15 n14 (by decide)).trans ((st_n (i := 36) e14 (by decide)).trans ((ap_l (i := 36) e13 n12 (by decide)).trans ((ap_l (i := 36) e12 n11 (by decide)).trans ((ap_l (i := 36) e11 n10 (by decide)).trans ((ap_l (i := 36) e10 n9 (by decide)).trans ((ap_l (i := 36) e9 n8 (by decide)).trans ((ap_l (i := 36) e8 n7 (by decide)).trans ((ap_l (i := 36) e7 n6 (by decide)).trans (ap_r (k := 10) e6 n5))))))))))).trans rfl, fun H z => z⟩
  by_cases c38 : i = 38
  · subst c38; exact ⟨_, ((st_n (i := 37) e16 (by decide)).trans ((ap_l (i := 37) e15 n14 (by decide)).trans ((st_n (i := 37) e14 (by decide)).trans ((ap_l (i := 37) e13 n12 (by decide)).trans ((ap_l (i := 37) e12 n11 (by decide)).trans ((ap_l (i := 37) e11 n10 (by decide)).trans ((ap_l (i := 37) e10 n9 (by decide)).trans ((ap_l (i := 37) e9 n8 (by decide)).trans ((ap_l (i := 37) e8 n7 (by decide)).trans ((ap_l (i := 37) e7 n6 (by decide)).trans (ap_r (k := 11) e6 n5))))))))))).trans rfl, fun H z => z⟩
  by_cases c39 : i = 39
  · subst c39; exact ⟨_, ((st_n (i := 38) e16 (by decide)).trans ((ap_l (i := 38) e15 n14 (by decide)).trans ((st_n (i := 38) e14 (by decide)).trans ((ap_l (i := 38) e13 n12 (by decide)).trans ((ap_l (i := 38) e12 n11 (by decide)).trans ((ap_l (i := 38) e11 n10 (by decide)).trans ((ap_l (i := 38) e10 n9 (by decide)).trans ((ap_l (i := 38) e9 n8 (by decide)).trans ((ap_l (i := 38) e8 n7 (by decide)).trans ((ap_l (i := 38) e7 n6 (by decide)).trans (ap_r (k := 12) e6 n5))))))))))).trans rfl, fun H z => z⟩
  by_cases c40 : i = 40
  · subst c40; exact ⟨_, ((st_n (i := 39) e16 (by decide)).trans ((ap_l (i := 39) e15 n14 (by decide)).trans ((st_n (i := 39) e14 (by decide)).trans ((ap_l (i := 39) e13 n12 (by decide)).trans ((ap_l (i := 39) e12 n11 (by decide)).trans ((ap_l (i := 39) e11 n10 (by decide)).trans ((ap_l (i := 39) e10 n9 (by decide)).trans ((ap_l (i := 39) e9 n8 (by decide)).trans ((ap_l (i := 39) e8 n7 (by decide)).trans ((ap_l (i := 39) e7 n6 (by decide)).trans (ap_r (k := 13) e6 n5))))))))))).trans rfl, fun H z => z⟩
  by_cases c41 : i = 41
  · subst c41; exact ⟨_, ((st_n (i := 40) e16 (by decide)).trans ((ap_l (i := 40) e15 n14 (by decide)).trans ((st_n (i := 40) e14 (by decide)).trans ((ap_l (i := 40) e13 n12 (by decide)).trans ((ap_l (i := 40) e12 n11 (by decide)).trans ((ap_l (i := 40) e11 n10 (by decide)).trans ((ap_l (i := 40) e10 n9 (by decide)).trans ((ap_l (i := 40) e9 n8 (by decide)).trans ((ap_l (i := 40) e8 n7 (by decide)).trans ((ap_l (i := 40) e7 n6 (by decide)).trans (ap_r (k := 14) e6 n5))))))))))).trans rfl, fun H z => z⟩
  by_cases c42 : i = 42
  · subst c42; exact ⟨_, ((st_n (i := 41) e16 (by decide)).trans ((ap_l (i := 41) e15 n14 (by decide)).trans ((st_n (i := 41) e14 (by decide)).trans ((ap_l (i := 41) e13 n12 (by decide)).trans ((ap_l (i := 41) e12 n11 (by decide)).trans ((ap_l (i := 41) e11 n10 (by decide)).trans ((ap_l (i := 41) e10 n9 (by decide)).trans ((ap_l (i := 41) e9 n8 (by decide)).trans ((ap_l (i := 41) e8 n7 (by decide)).trans (ap_r (k := 0) e7 n6)))))))))).trans rfl, fun H z => z⟩
  by_cases c43 : i = 43
  · subst c43; exact ⟨_, ((st_n (i := 42) e16 (by decide)).trans ((ap_l (i := 42) e15 n14 (by decide)).trans ((st_n (i := 42) e14 (by decide)).trans ((ap_l (i := 42) e13 n12 (by decide)).trans ((ap_l (i := 42) e12 n11 (by decide)).trans ((ap_l (i := 42) e11 n10 (by decide)).trans ((ap_l (i := 42) e10 n9 (by decide)).trans ((ap_l (i := 42) e9 n8 (by decide)).trans ((ap_l (i := 42) e8 n7 (by decide)).trans (ap_r (k := 1) e7 n6)))))))))).trans rfl, fun H z => z⟩
  by_cases c44 : i = 44
  · subst c44; exact ⟨_, ((st_n (i := 43) e16 (by decide)).trans ((ap_l (i := 43) e15 n14 (by decide)).trans ((st_n (i := 43) e14 (by decide)).trans ((ap_l (i := 43) e13 n12 (by decide)).trans ((ap_l (i := 43) e12 n11 (by decide)).trans ((ap_l (i := 43) e11 n10 (by decide)).trans ((ap_l (i := 43) e10 n9 (by decide)).trans ((ap_l (i := 43) e9 n8 (by decide)).trans ((ap_l (i := 43) e8 n7 (by decide)).trans (ap_r (k := 2) e7 n6)))))))))).trans rfl, fun H z => z⟩
  by_cases c45 : i = 45
  · subst c45; exact ⟨_, ((st_n (i := 44) e16 (by decide)).trans ((ap_l (i := 44) e15 n14 (by decide)).trans ((st_n (i := 44) e14 (by decide)).trans ((ap_l (i := 44) e13 n12 (by decide)).trans ((ap_l (i := 44) e12 n11 (by decide)).trans ((ap_l (i := 44) e11 n10 (by decide)).trans ((ap_l (i := 44) e10 n9 (by decide)).trans ((ap_l (i := 44) e9 n8 (by decide)).trans ((ap_l (i := 44) e8 n7 (by decide)).trans (ap_r (k := 3) e7 n6)))))))))).trans rfl, fun H z => z⟩
  by_cases c46 : i = 46
  · subst c46; exact ⟨_, ((st_n (i := 45) e16 (by decide)).trans ((ap_l (i := 45) e15 n14 (by decide)).trans ((st_n (i := 45) e14 (by decide)).trans ((ap_l (i := 45) e13 n12 (by decide)).trans ((ap_l (i := 45) e12 n11 (by decide)).trans ((ap_l (i := 45) e11 n10 (by decide)).trans ((ap_l (i := 45) e10 n9 (by decide)).trans ((ap_l (i := 45) e9 n8 (by decide)).trans ((ap_l (i := 45) e8 n7 (by decide)).trans (ap_r (k := 4) e7 n6)))))))))).trans rfl, fun H z => z⟩
  by_cases c47 : i = 47
  · subst c47; exact ⟨_, ((st_n (i := 46) e16 (by decide)).trans ((ap_l (i := 46) e15 n14 (by decide)).trans ((st_n (i := 46) e14 (by decide)).trans ((ap_l (i := 46) e13 n12 (by decide)).trans ((ap_l (i := 46) e12 n11 (by decide)).trans ((ap_l (i := 46) e11 n10 (by decide)).trans ((ap_l (i := 46) e10 n9 (by decide)).trans ((ap_l (i := 46) e9 n8 (by decide)).trans ((ap_l (i := 46) e8 n7 (by decide)).trans (ap_r (k := 5) e7 n6)))))))))).trans rfl, fun H z => z⟩
  by_cases c48 : i = 48
  · subst c48; exact ⟨_, ((st_n (i := 47) e16 (by decide)).trans ((ap_l (i := 47) e15 n14 (by decide)).trans ((st_n (i := 47) e14 (by decide)).trans ((ap_l (i := 47) e13 n12 (by decide)).trans ((ap_l (i := 47) e12 n11 (by decide)).trans ((ap_l (i := 47) e11 n10 (by decide)).trans ((ap_l (i := 47) e10 n9 (by decide)).trans ((ap_l (i := 47) e9 n8 (by decide)).trans ((ap_l (i := 47) e8 n7 (by decide)).trans (ap_r (k := 6) e7 n6)))))))))).trans rfl, fun H z => z⟩
  by_cases c49 : i = 49
  · subst c49; exact ⟨_, ((st_n (i := 48) e16 (by decide)).trans ((ap_l (i := 48) e15 n14 (by decide)).trans ((st_n (i := 48) e14 (by decide)).trans ((ap_l (i := 48) e13 n12 (by decide)).trans ((ap_l (i := 48) e12 n11 (by decide)).trans ((ap_l (i := 48) e11 n10 (by decide)).trans ((ap_l (i := 48) e10 n9 (by decide)).trans ((ap_l (i := 48) e9 n8 (by decide)).trans ((ap_l (i := 48) e8 n7 (by decide)).trans (ap_r (k := 7) e7 n6)))))))))).trans rfl, fun H z => z⟩
  by_cases c50 : i = 50
  · subst c50; exact ⟨_, ((st_n (i := 49) e16 (by decide)).trans ((ap_l (i := 49) e15 n14 (by decide)).trans ((st_n (i := 49) e14 (by decide)).trans ((ap_l (i := 49) e13 n12 (by decide)).trans ((ap_l (i := 49) e12 n11 (by decide)).trans ((ap_l (i := 49) e11 n10 (by decide)).trans ((ap_l (i := 49) e10 n9 (by decide)).trans ((ap_l (i := 49) e9 n8 (by decide)).trans ((ap_l (i := 49) e8 n7 (by decide)).trans (ap_r (k := 8) e7 n6)))))))))).trans rfl, fun H z => z⟩
  by_cases c51 : i = 51
  · subst c51; exact ⟨_, ((st_n (i := 50) e16 (by decide)).trans ((ap_l (i := 50) e15 n14 (by decide)).trans ((st_n (i := 50) e14 (by decide)).trans ((ap_l (i := 50) e13 n12 (by decide)).trans ((ap_l (i := 50) e12 n11 (by decide)).trans ((ap_l (i := 50) e11 n10 (by decide)).trans ((ap_l (i := 50) e10 n9 (by decide)).trans ((ap_l (i := 50) e9 n8 (by decide)).trans ((ap_l (i := 50) e8 n7 (by decide)).trans (ap_r (k := 9) e7 n6)))))))))).trans rfl, fun H z => z⟩
  by_cases c52 : i = 52
  · subst c52; exact ⟨_, ((st_n (i := 51) e16 (by decide)).trans ((ap_l (i := 51) e15 n14 (by decide)).trans ((st_n (i := 51) e14 (by decide)).trans ((ap_l (i := 51) e13 n12 (by decide)).trans ((ap_l (i := 51) e12 n11 (by decide)).trans ((ap_l (i := 51) e11 n10 (by decide)).trans ((ap_l (i := 51) e10 n9 (by decide)).trans ((ap_l (i := 51) e9 n8 (by decide)).trans ((ap_l (i := 51) e8 n7 (by decide)).trans (ap_r (k := 10) e7 n6)))))))))).trans rfl, fun H z => z⟩
  by_cases c53 : i = 53
  · subst c53; exact ⟨_, ((st_n (i := 52) e16 (by decide)).trans ((ap_l (i := 52) e15 n14 (by decide)).trans ((st_n (i := 52) e14 (by decide)).trans ((ap_l (i := 52) e13 n12 (by decide)).trans ((ap_l (i := 52) e12 n11 (by decide)).trans ((ap_l (i := 52) e11 n10 (by decide)).trans ((ap_l (i := 52) e10 n9 (by decide)).trans ((ap_l (i := 52) e9 n8 (by decide)).trans ((ap_l (i := 52) e8 n7 (by decide)).trans (ap_r (k := 11) e7 n6)))))))))).trans rfl, fun H z => z⟩
  by_cases c54 : i = 54
  · subst c54; exact ⟨_, ((st_n (i := 53) e16 (by decide)).trans ((ap_l (i := 53) e15 n14 (by decide)).trans ((st_n (i := 53) e14 (by decide)).trans ((ap_l (i := 53) e13 n12 (by decide)).trans ((ap_l (i := 53) e12 n11 (by decide)).trans ((ap_l (i := 53) e11 n10 (by decide)).trans ((ap_l (i := 53) e10 n9 (by decide)).trans ((ap_l (i := 53) e9 n8 (by decide)).trans ((ap_l (i := 53) e8 n7 (by decide)).trans (ap_r (k := 12) e7 n6)))))))))).trans rfl, fun H z => z⟩
  by_cases c55 : i = 55
  · subst c55; exact ⟨_, ((st_n (i := 54) e16 (by decide)).trans ((ap_l (i := 54) e15 n14 (by decide)).trans ((st_n (i := 54) e14 (by decide)).trans ((ap_l (i := 54) e13 n12 (by decide)).trans ((ap_l (i := 54) e12 n11 (by decide)).trans ((ap_l (i := 54) e11 n10 (by decide)).trans ((ap_l (i := 54) e10 n9 (by decide)).trans ((ap_l (i := 54) e9 n8 (by decide)).trans ((ap_l (i := 54) e8 n7 (by decide)).trans (ap_r (k := 13) e7 n6)))))))))).trans rfl, fun H z => z⟩
  by_cases c56 : i = 56
  · subst c56; exact ⟨_, ((st_n (i := 55) e16 (by decide)).trans ((ap_l (i := 55) e15 n14 (by decide)).trans ((st_n (i := 55) e14 (by decide)).trans ((ap_l (i := 55) e13 n12 (by decide)).trans ((ap_l (i := 55) e12 n11 (by decide)).trans ((ap_l (i := 55) e11 n10 (by decide)).trans ((ap_l (i := 55) e10 n9 (by decide)).trans ((ap_l (i := 55) e9 n8 (by decide)).trans ((ap_l (i := 55) e8 n7 (by decide)).trans (ap_r (k := 14) e7 n6)))))))))).trans rfl, fun H z => z⟩
  by_cases c57 : i = 57
  · subst c57; exact ⟨_, ((st_n (i := 63) e16 (by decide)).trans ((ap_l (i := 63) e15 n14 (by decide)).trans ((st_n (i := 63) e14 (by decide)).trans (ap_r (k := 0) e13 n12)))).trans rfl, fun H z => z⟩
  by_cases c58 : i = 58
  · subst c58; exact ⟨_, ((st_n (i := 64) e16 (by decide)).trans ((ap_l (i := 64) e15 n14 (by decide)).trans ((st_n (i := 64) e14 (by decide)).trans (ap_r (k := 1) e13 n12)))).trans rfl, fun H z => z⟩
  by_cases c59 : i = 59
  · subst c59; exact ⟨_, ((st_n (i := 65) e16 (by decide)).trans ((ap_l (i := 65) e15 n14 (by decide)).trans ((st_n (i := 65) e14 (by decide)).trans (ap_r (k := 2) e13 n12)))).trans rfl, fun H z => z⟩
  by_cases c60 : i = 60
  · subst c60; exact ⟨_, ((st_n (i := 66) e16 (by decide)).trans ((ap_l (i := 66) e15 n14 (by decide)).trans ((st_n (i := 66) e14 (by decide)).trans (ap_r (k := 3) e13 n12)))).trans rfl, fun H z => z⟩
  by_cases c61 : i = 61
  · subst c61; exact ⟨_, ((st_n (i := 67) e16 (by decide)).trans ((ap_l (i := 67) e15 n14 (by decide)).trans ((st_n (i := 67) e14 (by decide)).trans (ap_r (k := 4) e13 n12)))).trans rfl, fun H z => z⟩
  by_cases c62 : i = 62
  · subst c62; exact ⟨_, ((st_n (i := 68) e16 (by decide)).trans ((ap_l (i := 68) e15 n14 (by decide)).trans ((st_n (i := 68) e14 (by decide)).trans (ap_r (k := 5) e13 n12)))).trans rfl, fun H z => z⟩
  by_cases c63 : i = 63
  · subst c63; exact ⟨_, ((st_n (i := 69) e16 (by decide)).trans ((ap_l (i := 69) e15 n14 (by decide)).trans ((st_n (i := 69) e14 (by decide)).trans (ap_r (k := 6) e13 n12)))).trans rfl, fun H z => z⟩
  by_cases c64 : i = 64
  · subst c64; exact ⟨_, ((st_n (i := 70) e16 (by decide)).trans ((ap_l (i := 70) e15 n14 (by decide)).trans ((st_n (i := 70) e14 (by decide)).trans (ap_r (k := 7) e13 n12)))).trans rfl, fun H z => z⟩
  by_cases c65 : i = 65
  · subst c65; exact ⟨_, ((st_n (i := 71) e16 (by decide)).trans ((ap_l (i := 71) e15 n14 (by decide)).trans ((st_n (i := 71) e14 (by decide)).trans (ap_r (k := 8) e13 n12)))).trans rfl, fun H z => z⟩
  by_cases c66 : i = 66
  · subst c66; exact ⟨_, ((st_n (i := 72) e16 (by decide)).trans ((ap_l (i := 72) e15 n14 (by decide)).trans ((st_n (i := 72) e14 (by decide)).trans (ap_r (k := 9) e13 n12)))).trans rfl, fun H z => z⟩
  by_cases c67 : i = 67
  · subst c67; exact ⟨_, ((st_n (i := 73) e16 (by decide)).trans ((ap_l (i := 73) e15 n14 (by decide)).trans ((st_n (i := 73) e14 (by decide)).trans (ap_r (k := 10) e13 n12)))).trans rfl, fun H z => z⟩
  by_cases c68 : i = 68
  · subst c68; exact ⟨_, ((st_n (i := 74) e16 (by decide)).trans ((ap_l (i := 74) e15 n14 (by decide)).trans ((st_n (i := 74) e14 (by decide)).trans (ap_r (k := 11) e13 n12)))).trans rfl, fun H z => z⟩
  by_cases c69 : i = 69
  · subst c69; exact ⟨_, ((st_n (i := 75) e16 (by decide)).trans ((ap_l (i := 75) e15 n14 (by decide)).trans ((st_n (i := 75) e14 (by decide)).trans (ap_r (k := 12) e13 n12)))).trans rfl, fun H z => z⟩
  by_cases c70 : i = 70
  · subst c70; exact ⟨_, ((st_n (i := 76) e16 (by decide)).trans ((ap_l (i := 76) e15 n14 (by decide)).trans ((st_n (i := 76) e14 (by decide)).trans (ap_r (k := 13) e13 n12)))).trans rfl, fun H z => z⟩
  by_cases c71 : i = 71
  · subst c71; exact ⟨_, ((st_n (i := 77) e16 (by decide)).trans ((ap_l (i := 77) e15 n14 (by decide)).trans ((st_n (i := 77) e14 (by decide)).trans (ap_r (k := 14) e13 n12)))).trans rfl, fun H z => z⟩
  by_cases c72 : i = 72
  · subst c72; exact ⟨_, ((st_n (i := 78) e16 (by decide)).trans (ap_r (k := 0) e15 n14)).trans rfl, fun H z => z⟩
  by_cases c73 : i = 73
  · subst c73; exact ⟨_, ((st_n (i := 79) e16 (by decide)).trans (ap_r (k := 1) e15 n14)).trans rfl, fun H z => z⟩
  by_cases c74 : i = 74
  · subst c74; exact ⟨_, ((st_n (i := 80) e16 (by decide)).trans (ap_r (k := 2) e15 n14)).trans rfl, fun H z => z⟩
  by_cases c75 : i = 75
  · subst c75; exact ⟨_, ((st_n (i := 81) e16 (by decide)).trans (ap_r (k := 3) e15 n14)).trans rfl, fun H z => z⟩
  by_cases c76 : i = 76
  · subst c76; exact ⟨_, ((st_n (i := 82) e16 (by decide)).trans (ap_r (k := 4) e15 n14)).trans rfl, fun H z => z⟩
  by_cases c77 : i = 77
  · subst c77; exact ⟨_, ((st_n (i := 83) e16 (by decide)).trans (ap_r (k := 5) e15 n14)).trans rfl, fun H z => z⟩
  by_cases c78 : i = 78
  · subst c78; exact ⟨_, ((st_n (i := 84) e16 (by decide)).trans (ap_r (k := 6) e15 n14)).trans rfl, fun H z => z⟩
  by_cases c79 : i = 79
  · subst c79; exact ⟨_, ((st_n (i := 85) e16 (by decide)).trans (ap_r (k := 7) e15 n14)).trans rfl, fun H z => z⟩
  by_cases c80 : i = 80
  · subst c80; exact ⟨_, ((st_n (i := 86) e16 (by decide)).trans (ap_r (k := 8) e15 n14)).trans rfl, fun H z => z⟩
  by_cases c81 : i = 81
  · subst c81; exact ⟨_, ((st_n (i := 87) e16 (by decide)).trans (ap_r (k := 9) e15 n14)).trans rfl, fun H z => z⟩
  by_cases c82 : i = 82
  · subst c82; exact ⟨_, ((st_n (i := 88) e16 (by decide)).trans (ap_r (k := 10) e15 n14)).trans rfl, fun H z => z⟩
  by_cases c83 : i = 83
  · subst c83; exact ⟨_, ((st_n (i := 89) e16 (by decide)).trans (ap_r (k := 11) e15 n14)).trans rfl, fun H z => z⟩
  by_cases c84 : i = 84
  · subst c84; exact ⟨_, ((st_n (i := 90) e16 (by decide)).trans (ap_r (k := 12) e15 n14)).trans rfl, fun H z => z⟩
  by_cases c85 : i = 85
  · subst c85; exact ⟨_, ((st_n (i := 91) e16 (by decide)).trans (ap_r (k := 13) e15 n14)).trans rfl, fun H z => z⟩
  by_cases c86 : i = 86
  · subst c86; exact ⟨_, ((st_n (i := 92) e16 (by decide)).trans (ap_r (k := 14) e15 n14)).trans rfl, fun H z => z⟩
  by_cases c87 : i = 87
  · subst c87; exact ⟨.inl (Z.2.2.1 3, 2, .inr (.inr (.inr (.inr (va_up (va_up (fun _ => none) 0 (some q13)) 1 (some q14)))))), (st_s e16 (by rw [n15]; decide)).trans rfl, fun H z => img_at (q := q8) (c := Z.2.2.1 3) (g1 := va_up (va_up (fun _ => none) 0 (some q13)) 1 (some q14)) (g2 := fun k => some (fL [a, q1, (fq1 1), q2, (fq2 1), (fq2 2), (fq2 3), (fq2 4), (fq2 5), (fq2 6), (fq2 7), q3, (fq3 1), (fq3 2), (fq3 3), (fq3 4), (fq3 5), (fq3 6), (fq3 7), q4, (fq4 1), (fq4 2), (fq4 3), q5, (fq5 1), (fq5 2), (fq5 3), q6, (fq6 1), (fq6 2), (fq6 3), (fq6 4), (fq6 5), (fq6 6), (fq6 7), (fq6 8), (fq6 9), (fq6 10), (fq6 11), (fq6 12), (fq6 13), (fq6 14), q7, (fq7 1), (fq7 2), (fq7 3), (fq7 4), (fq7 5), (fq7 6), (fq7 7), (fq7 8), (fq7 9), (fq7 10), (fq7 11), (fq7 12), (fq7 13), (fq7 14), q13, (fq13 1), (fq13 2), (fq13 3), (fq13 4), (fq13 5), (fq13 6), (fq13 7), (fq13 8), (fq13 9), (fq13 10), (fq13 11), (fq13 12), (fq13 13), (fq13 14), q14, (fq14 1), (fq14 2), (fq14 3), (fq14 4), (fq14 5), (fq14 6), (fq14 7), (fq14 8), (fq14 9), (fq14 10), (fq14 11), (fq14 12), (fq14 13), (fq14 14), q8, q9, q10, (fq10 1), (fq10 2), q11, q12] (57 + 15 * k))) rfl rfl z⟩
  by_cases c88 : i = 88
  · subst c88; exact ⟨_, ((st_n (i := 57) e16 (by decide)).trans ((ap_l (i := 57) e15 n14 (by decide)).trans ((st_n (i := 57) e14 (by decide)).trans ((ap_l (i := 57) e13 n12 (by decide)).trans ((ap_l (i := 57) e12 n11 (by decide)).trans ((ap_l (i := 57) e11 n10 (by decide)).trans ((ap_l (i := 57) e10 n9 (by decide)).trans (ap_r (k := 0) e9 n8)))))))).trans rfl, fun H z => z⟩
  by_cases c89 : i = 89
  · subst c89; exact ⟨_, ((st_n (i := 58) e16 (by decide)).trans ((ap_l (i := 58) e15 n14 (by decide)).trans ((st_n (i := 58) e14 (by decide)).trans ((ap_l (i := 58) e13 n12 (by decide)).trans ((ap_l (i := 58) e12 n11 (by decide)).trans ((ap_l (i := 58) e11 n10 (by decide)).trans (ap_r (k := 0) e10 n9))))))).trans rfl, fun H z => z⟩
  by_cases c90 : i = 90
  · subst c90; exact ⟨_, ((st_n (i := 59) e16 (by decide)).trans ((ap_l (i := 59) e15 n14 (by decide)).trans ((st_n (i := 59) e14 (by decide)).trans ((ap_l (i := 59) e13 n12 (by decide)).trans ((ap_l (i := 59) e12 n11 (by decide)).trans ((ap_l (i := 59) e11 n10 (by decide)).trans (ap_r (k := 1) e10 n9))))))).trans rfl, fun H z => z⟩
  by_cases c91 : i = 91
  · subst c91; exact ⟨_, ((st_n (i := 60) e16 (by decide)).trans ((ap_l (i := 60) e15 n14 (by decide)).trans ((st_n (i := 60) e14 (by decide)).trans ((ap_l (i := 60) e13 n12 (by decide)).trans ((ap_l (i := 60) e12 n11 (by decide)).trans ((ap_l (i := 60) e11 n10 (by decide)).trans (ap_r (k := 2) e10 n9))))))).trans rfl, fun H z => z⟩
  by_cases c92 : i = 92
  · subst c92; exact ⟨_, ((st_n (i := 61) e16 (by decide)).trans ((ap_l (i := 61) e15 n14 (by decide)).trans ((st_n (i := 61) e14 (by decide)).trans ((ap_l (i := 61) e13 n12 (by decide)).trans ((ap_l (i := 61) e12 n11 (by decide)).trans (ap_r (k := 0) e11 n10)))))).trans rfl, fun H z => z⟩
  by_cases c93 : i = 93
  · subst c93; exact ⟨_, ((st_n (i := 62) e16 (by decide)).trans ((ap_l (i := 62) e15 n14 (by decide)).trans ((st_n (i := 62) e14 (by decide)).trans ((ap_l (i := 62) e13 n12 (by decide)).trans (ap_r (k := 0) e12 n11))))).trans rfl, fun H z => z⟩
  omega
