abbrev AH : Type := (Nat → Nat → Int32) × (Nat → Nat)
def ocl : List (Option Nat) := [some 6, some 2, none, some 0, none, none, none, none, none, none, none, some 0, none, none, none, none, none, none, none, some 1, none, none, none, some 1, none, none, none, some 3, none, none, none, none, none, none, some 5, none, none, none, none, none, none, none, some 3, none, none, none, none, none, none, some 5, none, none, none, none, none, none, none, some 3, none, none, none, none, none, none, some 5, none, none, none, none, none, none, none, some 3, none, none, none, none, none, none, some 5, none, none, none, none, none, none, none, none, none, some 4, none, none, none, none, some 7, none, none, none, none, none, none, none, none, none, none, none, none, none, none, none, none, none, none]
def acl : List (Option (Nat × Nat)) := [none, none, some (1, 400), none, some (0, 10), some (0, 10), some (0, 10), some (0, 9), some (0, 9), some (0, 24), some (0, 24), none, some (0, 10), some (0, 10), some (0, 10), some (0, 9), some (0, 9), some (0, 24), some (0, 24), none, some (0, 30), some (0, 30), some (0, 30), none, some (0, 30), some (0, 30), some (0, 30), none, some (0, 10), some (0, 10), some (0, 9), some (0, 9), some (0, 9), some (0, 9), none, some (0, 12), some (0, 12), some (0, 12), some (0, 12), some (0, 12), some (0, 12), some (0, 12), none, some (0, 10), some (0, 10), some (0, 9), some (0, 9), some (0, 9), some (0, 9), none, some (0, 12), some (0, 12), some (0, 12), some (0, 12), some (0, 12), some (0, 12), some (0, 12), none, some (0, 10), some (0, 10), some (0, 9), some (0, 9), some (0, 9), some (0, 9), none, some (0, 12), some (0, 12), some (0, 12), some (0, 12), some (0, 12), some (0, 12), some (0, 12), none, some (0, 10), some (0, 10), some (0, 9), some (0, 9), some (0, 9), some (0, 9), none, some (0, 12), some (0, 12), some (0, 12), some (0, 12), some (0, 12), some (0, 12), some (0, 12), none, some (2, 2), none, some (0, 100), some (0, 100), some (0, 10), some (0, 60), none, some (0, 800), some (2, 2), some (0, 20), some (0, 20), some (0, 20), some (0, 48), some (0, 48), some (0, 20), some (0, 20), some (0, 60), some (0, 60), some (0, 60), some (0, 400), some (0, 9), some (0, 1800), some (0, 1800), some (0, 1010), some (0, 60)]
/-- the class of the object that an id is -/
def oc (i : Nat) : Option Nat := ocl.getD i none
/-- kind and length of the array that an id is -/
def ac (i : Nat) : Option (Nat × Nat) := acl.getD i none
/-- an object's fields -/
def fl (ρ : Nat → Nat) (h : AH) (ci i : Nat) : List Value := match ci with
  | 0 => [.int (h.1 i 0), .ref (ρ (i + 1)), .ref (ρ (i + 2)), .ref (ρ (i + 3)), .ref (ρ (i + 4)), .ref (ρ (i + 5)), .ref (ρ (i + 6)), .ref (ρ (i + 7))]
  | 1 => [.int (h.1 i 0), .ref (ρ (i + 1)), .ref (ρ (i + 2)), .ref (ρ (i + 3))]
  | 2 => [.ref (ρ (2)), .int (h.1 i 1), .int (h.1 i 2), .int (h.1 i 3), .int (h.1 i 4), .int (h.1 i 5), .int (h.1 i 6), .int (h.1 i 7), .int (h.1 i 8), .int (h.1 i 9), .int (h.1 i 10)]
  | 3 => [.int (h.1 i 0), .int (h.1 i 1), .int (h.1 i 2), .ref (ρ (i + 1)), .ref (ρ (i + 2)), .ref (ρ (i + 3)), .ref (ρ (i + 4)), .ref (ρ (i + 5)), .ref (ρ (i + 6)), .ref (ρ (i + 7))]
  | 4 => [.int (h.1 i 0), .int (h.1 i 1), .ref (ρ (90)), .ref (ρ (91))]
  | 5 => [.int (h.1 i 0), .ref (ρ (i + 1)), .ref (ρ (i + 2)), .ref (ρ (i + 3)), .ref (ρ (i + 4)), .ref (ρ (i + 5)), .ref (ρ (i + 6)), .ref (ρ (i + 7))]
  | 6 => [.ref (ρ (1)), .ref (ρ (h.2 1)), .ref (ρ (h.2 2)), .ref (ρ (h.2 3)), .ref (ρ (h.2 4)), .ref (ρ (27)), .ref (ρ (42)), .ref (ρ (87)), .ref (ρ (88)), .ref (ρ (89)), .ref (ρ (92)), .ref (ρ (93)), .int (h.1 i 12), .int (h.1 i 13)]
  | _ => [.ref (ρ (95)), .ref (ρ (96)), .ref (ρ (97)), .ref (ρ (98)), .ref (ρ (99)), .ref (ρ (100)), .ref (ρ (101)), .ref (ρ (102)), .ref (ρ (103)), .int (h.1 i 9), .int (h.1 i 10), .ref (ρ (104)), .ref (ρ (105)), .ref (ρ (106)), .int (h.1 i 14), .int (h.1 i 15), .ref (ρ (107)), .int (h.1 i 17), .int (h.1 i 18), .int (h.1 i 19), .int (h.1 i 20), .int (h.1 i 21), .int (h.1 i 22), .int (h.1 i 23), .int (h.1 i 24), .int (h.1 i 25), .int (h.1 i 26), .ref (ρ (108)), .ref (ρ (109)), .ref (ρ (110)), .ref (ρ (111)), .ref (ρ (112)), .int (h.1 i 32)]
def ent (ρ : Nat → Nat) (cA : Nat → ClassId) (h : AH) (i : Nat) : va_E := match oc i with
  | some ci => .inr (ci, fl ρ h ci i)
  | none => match ac i with
    | some q => .inl (cA q.1, q.2, .inl (h.1 i))
    | none => .inl (cA 3, 2, .inr (.inr (.inr (.inr (fun k => some (ρ (57 + 15 * k)))))))
def wsw (ρ : Nat → Nat) (cA : Nat → ClassId) (h : AH) : va_W := (List.range 113).map (fun i => (ρ i, ent ρ cA h i))
def tysw (cA : Nat → ClassId) : List (ClassId × FieldType) := [(cA 0, .int), (cA 1, .byte), (cA 2, .boolean), (cA 3, .object "TurnedRiver$State")]
theorem oc_lt {i c : Nat} (h : oc i = some c) : i < 113 := by
  rcases Nat.lt_or_ge i 113 with q | q
  · exact q
  · rw [oc, List.getD_eq_getElem?_getD, List.getElem?_eq_none (by exact q)] at h
    cases h
theorem ac_lt {i : Nat} {c : Nat × Nat} (h : ac i = some c) : i < 113 := by
  rcases Nat.lt_or_ge i 113 with q | q
  · exact q
  · rw [ac, List.getD_eq_getElem?_getD, List.getElem?_eq_none (by exact q)] at h
    cases h
theorem wsw_at {ρ : Nat → Nat} {cA : Nat → ClassId} {h : AH} {i : Nat} (hi : i < 113) : (wsw ρ cA h)[i]? = some (ρ i, ent ρ cA h i) := by
  unfold wsw
  rw [List.getElem?_map, List.getElem?_range hi]
  rfl
theorem wsw_obj {ρ : Nat → Nat} {cA : Nat → ClassId} {h : AH} {i c : Nat} (ho : oc i = some c) : (wsw ρ cA h)[i]? = some (ρ i, .inr (c, fl ρ h c i)) := by
  rw [wsw_at (oc_lt ho), ent, ho]
theorem oc_ac : ∀ i, i < 113 → (ac i).isSome = true → oc i = none := by decide +kernel
theorem wsw_arr {ρ : Nat → Nat} {cA : Nat → ClassId} {h : AH} {i t n : Nat} (ha : ac i = some (t, n)) : (wsw ρ cA h)[i]? = some (ρ i, .inl (cA t, n, .inl (h.1 i))) := by
  rw [wsw_at (ac_lt ha), ent, oc_ac i (ac_lt ha) (by rw [ha]; rfl), ha]
theorem wsw_img {ρ : Nat → Nat} {cA : Nat → ClassId} {h : AH} : (wsw ρ cA h)[87]? = some (ρ 87, .inl (cA 3, 2, .inr (.inr (.inr (.inr (fun k => some (ρ (57 + 15 * k)))))))) := by
  rw [wsw_at (by decide)]
  rfl
/-- one place of the world is set -/
def hset (f : Nat → Nat → Int32) (i k : Nat) (v : Int32) : Nat → Nat → Int32 := fun a => if a = i then upd (f a) k v else f a
theorem wsw_set {ρ : Nat → Nat} {cA : Nat → ClassId} {h h' : AH} {i : Nat} {e : va_E} (he : ent ρ cA h' i = e) (hk : ∀ j, j ≠ i → ent ρ cA h' j = ent ρ cA h j) (hi : i < 113) : (wsw ρ cA h).set i (ρ i, e) = wsw ρ cA h' := by
  apply List.ext_getElem?
  intro j
  by_cases hj : j = i
  · subst hj
    rw [List.getElem?_set_self (by simp [wsw]; exact hi), wsw_at hi, he]
  · rw [List.getElem?_set_ne (Ne.symm hj)]
    by_cases h2 : j < 113
    · rw [wsw_at h2, wsw_at h2, hk j hj]
    · rw [List.getElem?_eq_none (by simp [wsw]; omega), List.getElem?_eq_none (by simp [wsw]; omega)]
theorem fl_off {ρ : Nat → Nat} {f g : Nat → Nat → Int32} {r : Nat → Nat} {c i : Nat} (h : f i = g i) : fl ρ (f, r) c i = fl ρ (g, r) c i := by
  unfold fl
  simp only [h]
theorem ent_off {ρ : Nat → Nat} {cA : Nat → ClassId} {f g : Nat → Nat → Int32} {r : Nat → Nat} {i : Nat} (h : f i = g i) : ent ρ cA (f, r) i = ent ρ cA (g, r) i := by
  unfold ent
  split
  · rw [fl_off h]
  · split
    · rw [show ((f, r) : AH).1 i = ((g, r) : AH).1 i from h]
    · rfl
theorem hset_ne {f : Nat → Nat → Int32} {i k a : Nat} {v : Int32} (h : a ≠ i) : hset f i k v a = f a := by simp [hset, h]
theorem hset_eq {f : Nat → Nat → Int32} {i k : Nat} {v : Int32} : hset f i k v i = upd (f i) k v := by simp [hset]
theorem wsw_aset {ρ : Nat → Nat} {cA : Nat → ClassId} {h : AH} {i t n k : Nat} {v : Int32} (ha : ac i = some (t, n)) : (wsw ρ cA h).set i (ρ i, .inl (cA t, n, .inl (upd (h.1 i) k v))) = wsw ρ cA (hset h.1 i k v, h.2) := by
  refine wsw_set ?_ (fun j hj => ent_off (r := h.2) (hset_ne hj)) (ac_lt ha)
  rw [ent, oc_ac i (ac_lt ha) (by rw [ha]; rfl), ha]
  simp [hset]
theorem wsw_acpy {ρ : Nat → Nat} {cA : Nat → ClassId} {h : AH} {i t n : Nat} {f : Nat → Int32} (ha : ac i = some (t, n)) : (wsw ρ cA h).set i (ρ i, .inl (cA t, n, .inl f)) = wsw ρ cA (fun a => if a = i then f else h.1 a, h.2) := by
  refine wsw_set ?_ (fun j hj => ent_off (r := h.2) (by simp [hj])) (ac_lt ha)
  rw [ent, oc_ac i (ac_lt ha) (by rw [ha]; rfl), ha]
  simp
theorem wsw_oset {ρ : Nat → Nat} {cA : Nat → ClassId} {h : AH} {i c k : Nat} {v : Int32} (ho : oc i = some c) (hf : fl ρ (hset h.1 i k v, h.2) c i = (fl ρ h c i).set k (.int v)) : (wsw ρ cA h).set i (ρ i, .inr (c, (fl ρ h c i).set k (.int v))) = wsw ρ cA (hset h.1 i k v, h.2) := by
  refine wsw_set ?_ (fun j hj => ent_off (r := h.2) (hset_ne hj)) (oc_lt ho)
  rw [ent, ho]
  show Sum.inr (c, fl ρ (hset h.1 i k v, h.2) c i) = _
  rw [hf]
def gup (r : Nat → Nat) (k v : Nat) : Nat → Nat := fun j => if j = k then v else r j
theorem oc6 : ∀ i, i < 113 → i ≠ 0 → oc i ≠ some 6 := by decide +kernel
theorem wsw_gset {ρ : Nat → Nat} {cA : Nat → ClassId} {h : AH} {k v : Nat} (hk : k = 1 ∨ k = 2 ∨ k = 3 ∨ k = 4) : (wsw ρ cA h).set 0 (ρ 0, .inr (6, (fl ρ h 6 0).set k (.ref (ρ v)))) = wsw ρ cA (h.1, gup h.2 k v) := by
  refine wsw_set ?_ (fun j hj => ?_) (by decide)
  · show Sum.inr (6, fl ρ (h.1, gup h.2 k v) 6 0) = _
    rcases hk with rfl | rfl | rfl | rfl <;> rfl
  · unfold ent
    cases ho : oc j with
    | none => rfl
    | some c =>
      have hc : c ≠ 6 := fun e => oc6 j (oc_lt ho) hj (by rw [ho, e])
      show Sum.inr (c, fl ρ (h.1, gup h.2 k v) c j) = Sum.inr (c, fl ρ h c j)
      unfold fl
      split <;> first | rfl | exact absurd rfl hc
theorem fs_0_0 {ρ : Nat → Nat} {h : AH} {i : Nat} {v : Int32} : fl ρ (hset h.1 i 0 v, h.2) 0 i = (fl ρ h 0 i).set 0 (.int v) := by simp [fl, hset, upd]
theorem fs_1_0 {ρ : Nat → Nat} {h : AH} {i : Nat} {v : Int32} : fl ρ (hset h.1 i 0 v, h.2) 1 i = (fl ρ h 1 i).set 0 (.int v) := by simp [fl, hset, upd]
theorem fs_2_1 {ρ : Nat → Nat} {h : AH} {i : Nat} {v : Int32} : fl ρ (hset h.1 i 1 v, h.2) 2 i = (fl ρ h 2 i).set 1 (.int v) := by simp [fl, hset, upd]
theorem fs_2_2 {ρ : Nat → Nat} {h : AH} {i : Nat} {v : Int32} : fl ρ (hset h.1 i 2 v, h.2) 2 i = (fl ρ h 2 i).set 2 (.int v) := by simp [fl, hset, upd]
theorem fs_2_3 {ρ : Nat → Nat} {h : AH} {i : Nat} {v : Int32} : fl ρ (hset h.1 i 3 v, h.2) 2 i = (fl ρ h 2 i).set 3 (.int v) := by simp [fl, hset, upd]
theorem fs_2_4 {ρ : Nat → Nat} {h : AH} {i : Nat} {v : Int32} : fl ρ (hset h.1 i 4 v, h.2) 2 i = (fl ρ h 2 i).set 4 (.int v) := by simp [fl, hset, upd]
theorem fs_2_5 {ρ : Nat → Nat} {h : AH} {i : Nat} {v : Int32} : fl ρ (hset h.1 i 5 v, h.2) 2 i = (fl ρ h 2 i).set 5 (.int v) := by simp [fl, hset, upd]
theorem fs_2_6 {ρ : Nat → Nat} {h : AH} {i : Nat} {v : Int32} : fl ρ (hset h.1 i 6 v, h.2) 2 i = (fl ρ h 2 i).set 6 (.int v) := by simp [fl, hset, upd]
theorem fs_2_7 {ρ : Nat → Nat} {h : AH} {i : Nat} {v : Int32} : fl ρ (hset h.1 i 7 v, h.2) 2 i = (fl ρ h 2 i).set 7 (.int v) := by simp [fl, hset, upd]
theorem fs_2_8 {ρ : Nat → Nat} {h : AH} {i : Nat} {v : Int32} : fl ρ (hset h.1 i 8 v, h.2) 2 i = (fl ρ h 2 i).set 8 (.int v) := by simp [fl, hset, upd]
theorem fs_2_9 {ρ : Nat → Nat} {h : AH} {i : Nat} {v : Int32} : fl ρ (hset h.1 i 9 v, h.2) 2 i = (fl ρ h 2 i).set 9 (.int v) := by simp [fl, hset, upd]
theorem fs_2_10 {ρ : Nat → Nat} {h : AH} {i : Nat} {v : Int32} : fl ρ (hset h.1 i 10 v, h.2) 2 i = (fl ρ h 2 i).set 10 (.int v) := by simp [fl, hset, upd]
theorem fs_3_0 {ρ : Nat → Nat} {h : AH} {i : Nat} {v : Int32} : fl ρ (hset h.1 i 0 v, h.2) 3 i = (fl ρ h 3 i).set 0 (.int v) := by simp [fl, hset, upd]
theorem fs_3_1 {ρ : Nat → Nat} {h : AH} {i : Nat} {v : Int32} : fl ρ (hset h.1 i 1 v, h.2) 3 i = (fl ρ h 3 i).set 1 (.int v) := by simp [fl, hset, upd]
theorem fs_3_2 {ρ : Nat → Nat} {h : AH} {i : Nat} {v : Int32} : fl ρ (hset h.1 i 2 v, h.2) 3 i = (fl ρ h 3 i).set 2 (.int v) := by simp [fl, hset, upd]
theorem fs_4_0 {ρ : Nat → Nat} {h : AH} {i : Nat} {v : Int32} : fl ρ (hset h.1 i 0 v, h.2) 4 i = (fl ρ h 4 i).set 0 (.int v) := by simp [fl, hset, upd]
theorem fs_4_1 {ρ : Nat → Nat} {h : AH} {i : Nat} {v : Int32} : fl ρ (hset h.1 i 1 v, h.2) 4 i = (fl ρ h 4 i).set 1 (.int v) := by simp [fl, hset, upd]
theorem fs_5_0 {ρ : Nat → Nat} {h : AH} {i : Nat} {v : Int32} : fl ρ (hset h.1 i 0 v, h.2) 5 i = (fl ρ h 5 i).set 0 (.int v) := by simp [fl, hset, upd]
theorem fs_6_12 {ρ : Nat → Nat} {h : AH} {i : Nat} {v : Int32} : fl ρ (hset h.1 i 12 v, h.2) 6 i = (fl ρ h 6 i).set 12 (.int v) := by simp [fl, hset, upd]
theorem fs_6_13 {ρ : Nat → Nat} {h : AH} {i : Nat} {v : Int32} : fl ρ (hset h.1 i 13 v, h.2) 6 i = (fl ρ h 6 i).set 13 (.int v) := by simp [fl, hset, upd]
theorem fs_7_9 {ρ : Nat → Nat} {h : AH} {i : Nat} {v : Int32} : fl ρ (hset h.1 i 9 v, h.2) 7 i = (fl ρ h 7 i).set 9 (.int v) := by simp [fl, hset, upd]
theorem fs_7_10 {ρ : Nat → Nat} {h : AH} {i : Nat} {v : Int32} : fl ρ (hset h.1 i 10 v, h.2) 7 i = (fl ρ h 7 i).set 10 (.int v) := by simp [fl, hset, upd]
theorem fs_7_14 {ρ : Nat → Nat} {h : AH} {i : Nat} {v : Int32} : fl ρ (hset h.1 i 14 v, h.2) 7 i = (fl ρ h 7 i).set 14 (.int v) := by simp [fl, hset, upd]
theorem fs_7_15 {ρ : Nat → Nat} {h : AH} {i : Nat} {v : Int32} : fl ρ (hset h.1 i 15 v, h.2) 7 i = (fl ρ h 7 i).set 15 (.int v) := by simp [fl, hset, upd]
theorem fs_7_17 {ρ : Nat → Nat} {h : AH} {i : Nat} {v : Int32} : fl ρ (hset h.1 i 17 v, h.2) 7 i = (fl ρ h 7 i).set 17 (.int v) := by simp [fl, hset, upd]
theorem fs_7_18 {ρ : Nat → Nat} {h : AH} {i : Nat} {v : Int32} : fl ρ (hset h.1 i 18 v, h.2) 7 i = (fl ρ h 7 i).set 18 (.int v) := by simp [fl, hset, upd]
theorem fs_7_19 {ρ : Nat → Nat} {h : AH} {i : Nat} {v : Int32} : fl ρ (hset h.1 i 19 v, h.2) 7 i = (fl ρ h 7 i).set 19 (.int v) := by simp [fl, hset, upd]
theorem fs_7_20 {ρ : Nat → Nat} {h : AH} {i : Nat} {v : Int32} : fl ρ (hset h.1 i 20 v, h.2) 7 i = (fl ρ h 7 i).set 20 (.int v) := by simp [fl, hset, upd]
theorem fs_7_21 {ρ : Nat → Nat} {h : AH} {i : Nat} {v : Int32} : fl ρ (hset h.1 i 21 v, h.2) 7 i = (fl ρ h 7 i).set 21 (.int v) := by simp [fl, hset, upd]
theorem fs_7_22 {ρ : Nat → Nat} {h : AH} {i : Nat} {v : Int32} : fl ρ (hset h.1 i 22 v, h.2) 7 i = (fl ρ h 7 i).set 22 (.int v) := by simp [fl, hset, upd]
theorem fs_7_23 {ρ : Nat → Nat} {h : AH} {i : Nat} {v : Int32} : fl ρ (hset h.1 i 23 v, h.2) 7 i = (fl ρ h 7 i).set 23 (.int v) := by simp [fl, hset, upd]
theorem fs_7_24 {ρ : Nat → Nat} {h : AH} {i : Nat} {v : Int32} : fl ρ (hset h.1 i 24 v, h.2) 7 i = (fl ρ h 7 i).set 24 (.int v) := by simp [fl, hset, upd]
theorem fs_7_25 {ρ : Nat → Nat} {h : AH} {i : Nat} {v : Int32} : fl ρ (hset h.1 i 25 v, h.2) 7 i = (fl ρ h 7 i).set 25 (.int v) := by simp [fl, hset, upd]
theorem fs_7_26 {ρ : Nat → Nat} {h : AH} {i : Nat} {v : Int32} : fl ρ (hset h.1 i 26 v, h.2) 7 i = (fl ρ h 7 i).set 26 (.int v) := by simp [fl, hset, upd]
theorem fs_7_32 {ρ : Nat → Nat} {h : AH} {i : Nat} {v : Int32} : fl ρ (hset h.1 i 32 v, h.2) 7 i = (fl ρ h 7 i).set 32 (.int v) := by simp [fl, hset, upd]
theorem sh_0_1 {i : Nat} (h : oc i = some 0) : ac (i + 1) = some (0, 10) := (by decide +kernel : ∀ i, i < 113 → oc i = some 0 → ac (i + 1) = some (0, 10)) i (oc_lt h) h
theorem sh_0_2 {i : Nat} (h : oc i = some 0) : ac (i + 2) = some (0, 10) := (by decide +kernel : ∀ i, i < 113 → oc i = some 0 → ac (i + 2) = some (0, 10)) i (oc_lt h) h
theorem sh_0_3 {i : Nat} (h : oc i = some 0) : ac (i + 3) = some (0, 10) := (by decide +kernel : ∀ i, i < 113 → oc i = some 0 → ac (i + 3) = some (0, 10)) i (oc_lt h) h
theorem sh_0_4 {i : Nat} (h : oc i = some 0) : ac (i + 4) = some (0, 9) := (by decide +kernel : ∀ i, i < 113 → oc i = some 0 → ac (i + 4) = some (0, 9)) i (oc_lt h) h
theorem sh_0_5 {i : Nat} (h : oc i = some 0) : ac (i + 5) = some (0, 9) := (by decide +kernel : ∀ i, i < 113 → oc i = some 0 → ac (i + 5) = some (0, 9)) i (oc_lt h) h
theorem sh_0_6 {i : Nat} (h : oc i = some 0) : ac (i + 6) = some (0, 24) := (by decide +kernel : ∀ i, i < 113 → oc i = some 0 → ac (i + 6) = some (0, 24)) i (oc_lt h) h
theorem sh_0_7 {i : Nat} (h : oc i = some 0) : ac (i + 7) = some (0, 24) := (by decide +kernel : ∀ i, i < 113 → oc i = some 0 → ac (i + 7) = some (0, 24)) i (oc_lt h) h
theorem sh_1_1 {i : Nat} (h : oc i = some 1) : ac (i + 1) = some (0, 30) := (by decide +kernel : ∀ i, i < 113 → oc i = some 1 → ac (i + 1) = some (0, 30)) i (oc_lt h) h
theorem sh_1_2 {i : Nat} (h : oc i = some 1) : ac (i + 2) = some (0, 30) := (by decide +kernel : ∀ i, i < 113 → oc i = some 1 → ac (i + 2) = some (0, 30)) i (oc_lt h) h
theorem sh_1_3 {i : Nat} (h : oc i = some 1) : ac (i + 3) = some (0, 30) := (by decide +kernel : ∀ i, i < 113 → oc i = some 1 → ac (i + 3) = some (0, 30)) i (oc_lt h) h
theorem sh_5_1 {i : Nat} (h : oc i = some 5) : ac (i + 1) = some (0, 12) := (by decide +kernel : ∀ i, i < 113 → oc i = some 5 → ac (i + 1) = some (0, 12)) i (oc_lt h) h
theorem sh_5_2 {i : Nat} (h : oc i = some 5) : ac (i + 2) = some (0, 12) := (by decide +kernel : ∀ i, i < 113 → oc i = some 5 → ac (i + 2) = some (0, 12)) i (oc_lt h) h
theorem sh_5_3 {i : Nat} (h : oc i = some 5) : ac (i + 3) = some (0, 12) := (by decide +kernel : ∀ i, i < 113 → oc i = some 5 → ac (i + 3) = some (0, 12)) i (oc_lt h) h
theorem sh_5_4 {i : Nat} (h : oc i = some 5) : ac (i + 4) = some (0, 12) := (by decide +kernel : ∀ i, i < 113 → oc i = some 5 → ac (i + 4) = some (0, 12)) i (oc_lt h) h
theorem sh_5_5 {i : Nat} (h : oc i = some 5) : ac (i + 5) = some (0, 12) := (by decide +kernel : ∀ i, i < 113 → oc i = some 5 → ac (i + 5) = some (0, 12)) i (oc_lt h) h
theorem sh_5_6 {i : Nat} (h : oc i = some 5) : ac (i + 6) = some (0, 12) := (by decide +kernel : ∀ i, i < 113 → oc i = some 5 → ac (i + 6) = some (0, 12)) i (oc_lt h) h
theorem sh_5_7 {i : Nat} (h : oc i = some 5) : ac (i + 7) = some (0, 12) := (by decide +kernel : ∀ i, i < 113 → oc i = some 5 → ac (i + 7) = some (0, 12)) i (oc_lt h) h
theorem sh_3_1 {i : Nat} (h : oc i = some 3) : ac (i + 1) = some (0, 10) := (by decide +kernel : ∀ i, i < 113 → oc i = some 3 → ac (i + 1) = some (0, 10)) i (oc_lt h) h
theorem sh_3_2 {i : Nat} (h : oc i = some 3) : ac (i + 2) = some (0, 10) := (by decide +kernel : ∀ i, i < 113 → oc i = some 3 → ac (i + 2) = some (0, 10)) i (oc_lt h) h
theorem sh_3_3 {i : Nat} (h : oc i = some 3) : ac (i + 3) = some (0, 9) := (by decide +kernel : ∀ i, i < 113 → oc i = some 3 → ac (i + 3) = some (0, 9)) i (oc_lt h) h
theorem sh_3_4 {i : Nat} (h : oc i = some 3) : ac (i + 4) = some (0, 9) := (by decide +kernel : ∀ i, i < 113 → oc i = some 3 → ac (i + 4) = some (0, 9)) i (oc_lt h) h
theorem sh_3_5 {i : Nat} (h : oc i = some 3) : ac (i + 5) = some (0, 9) := (by decide +kernel : ∀ i, i < 113 → oc i = some 3 → ac (i + 5) = some (0, 9)) i (oc_lt h) h
theorem sh_3_6 {i : Nat} (h : oc i = some 3) : ac (i + 6) = some (0, 9) := (by decide +kernel : ∀ i, i < 113 → oc i = some 3 → ac (i + 6) = some (0, 9)) i (oc_lt h) h
theorem sh_3_7 {i : Nat} (h : oc i = some 3) : oc (i + 7) = some 5 := (by decide +kernel : ∀ i, i < 113 → oc i = some 3 → oc (i + 7) = some 5) i (oc_lt h) h
theorem sh_img {i : Nat} (h : i < 2) : oc (57 + 15 * i) = some 3 := (by decide +kernel : ∀ i, i < 2 → oc (57 + 15 * i) = some 3) i h
