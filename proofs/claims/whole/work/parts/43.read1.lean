theorem vp_nI {x : Int32} {n : Nat} (h : vp_in x n) : x = nI x.toNatClampNeg ∧ x.toNatClampNeg < n := by
  have h1 : ¬ x < 0 := fun z => h (Or.inl z)
  obtain ⟨j, hj, rfl⟩ := nI_of h1
  rw [nI_clamp hj]
  refine ⟨rfl, Nat.not_le.mp (fun z => h (Or.inr ?_))⟩
  rw [nI_clamp hj]
  exact z
section STR3
variable {Z : CX × GX} {cc : ByteArray} {nL : Nat} {ret : Option FieldType} {fr lo : Nat} {Q : State → Prop} {pc : Nat} {h : AH} {lv : List (Option Value)} {st : List Value}
theorem ex_strch2 {i : Nat} {x : Int32} (hi : i < 6) (hcat : (st.map fun v => v.category).sum ≤ 8) (hR : 4 ≤ fr ∧ 85 ≤ lo) (hX : OK Z RX2 cc nL ret fr lo) (d : decode cc pc = .ok (.invokevirtual 153, 3)) (hk : vp_in x (sL.getD i 0)) (kk : EX Z nL Q (pc + 3) h lv (.int (chS i x.toNatClampNeg) :: st)) : EX Z nL Q pc h lv (.int x :: .ref (200 + i) :: st) := by
  obtain ⟨e, l⟩ := vp_nI hk
  generalize x.toNatClampNeg = k at e l kk
  subst e
  exact ex_strch hi hcat hR hX d l kk
end STR3

set_option maxRecDepth 100000 in
set_option maxHeartbeats 4000000 in
theorem sg_X2_isWord_0 {Z : CX × GX} {post : Int32 → AH → Prop} {h : AH} {x1 : Nat} (hX : OK Z RX2 cX2_isWord 3 (some .boolean) 4 100) (jx1 : x1 < 6)
    (w : ((¬ (h.1 1 4) = 1 → post 0 h) ∧ ((h.1 1 4) = 1 → ((((h.1 1 6) - (h.1 1 5)) = (nI (sL.getD x1 0)) → EX Z 3 (QI Z post) 28 h [some (.ref 1), some (.ref (200 + x1)), some (.int 0)] []) ∧ (¬ ((h.1 1 6) - (h.1 1 5)) = (nI (sL.getD x1 0)) → post 0 h)))))
    : EX Z 3 (QI Z post) 0 h [some (.ref 1), some (.ref (200 + x1)), none] [] := by
  refine ex_aload_n hX dX2_isWord_0 rfl rfl ?_
  refine ex_get hX (.int (h.1 1 4)) FL_2_36 rfl (fun _ => rfl) dX2_isWord_1 ?_
  refine ex_iconst (v := 1) hX dX2_isWord_4 rfl ?_
  refine ex_icmpne hX 24 dX2_isWord_5 (by decide) (fun c1 => ?_) (fun c1 => ?_)
  · replace w := w.1 c1
    refine ex_iconst (v := 0) hX dX2_isWord_24 rfl ?_
    exact ex_iret hX dX2_isWord_25 rfl w
  · replace w := w.2 c1
    refine ex_aload_n hX dX2_isWord_8 rfl rfl ?_
    refine ex_get hX (.int (h.1 1 6)) FL_2_65 rfl (fun _ => rfl) dX2_isWord_9 ?_
    refine ex_aload_n hX dX2_isWord_12 rfl rfl ?_
    refine ex_get hX (.int (h.1 1 5)) FL_2_135 rfl (fun _ => rfl) dX2_isWord_13 ?_
    refine ex_isub hX dX2_isWord_16 ?_
    refine ex_aload_n hX dX2_isWord_17 rfl rfl ?_
    refine ex_strlen (i := x1) jx1 (Nat.le_of_ble_eq_true rfl) (by decide) hX dX2_isWord_18  ?_
    refine ex_icmpeq hX 26 dX2_isWord_21 (by decide) (fun c2 => ?_) (fun c2 => ?_)
    · replace w := w.1 c2
      refine ex_iconst (v := 0) hX dX2_isWord_26 rfl ?_
      refine ex_istore_n (lv' := [some (.ref 1), some (.ref (200 + x1)), some (.int 0)]) hX dX2_isWord_27 rfl (by decide) rfl ?_
      exact w
    · replace w := w.2 c2
      refine ex_iconst (v := 0) hX dX2_isWord_24 rfl ?_
      exact ex_iret hX dX2_isWord_25 rfl w

set_option maxRecDepth 100000 in
set_option maxHeartbeats 4000000 in
theorem sg_X2_isWord_28 {Z : CX × GX} {post : Int32 → AH → Prop} {h : AH} {x1 : Nat} {x2 : Int32} (hX : OK Z RX2 cX2_isWord 3 (some .boolean) 4 100) (jx1 : x1 < 6)
    (w : (((nI (sL.getD x1 0)) ≤ x2 → post 1 h) ∧ (¬ (nI (sL.getD x1 0)) ≤ x2 → (vp_in ((h.1 1 5) + x2) 400) ∧ (∀ v3 : Int32, v3 = h.1 2 (Int32.toNatClampNeg ((h.1 1 5) + x2)) → (vp_in x2 (sL.getD x1 0)) ∧ ((v3 = (chS x1 (Int32.toNatClampNeg x2)) → EX Z 3 (QI Z post) 28 h [some (.ref 1), some (.ref (200 + x1)), some (.int (x2 + 1))] []) ∧ (¬ v3 = (chS x1 (Int32.toNatClampNeg x2)) → post 0 h))))))
    : EX Z 3 (QI Z post) 28 h [some (.ref 1), some (.ref (200 + x1)), some (.int x2)] [] := by
  refine ex_iload_n hX dX2_isWord_28 rfl rfl ?_
  refine ex_aload_n hX dX2_isWord_29 rfl rfl ?_
  refine ex_strlen (i := x1) jx1 (Nat.le_of_ble_eq_true rfl) (by decide) hX dX2_isWord_30  ?_
  refine ex_icmpge hX 63 dX2_isWord_33 (by decide) (fun c1 => ?_) (fun c1 => ?_)
  · replace w := w.1 c1
    refine ex_iconst (v := 1) hX dX2_isWord_63 rfl ?_
    exact ex_iret hX dX2_isWord_64 rfl w
  · replace w := w.2 c1
    refine ex_aload_n hX dX2_isWord_36 rfl rfl ?_
    refine ex_get hX (.ref 2) FL_2_9 rfl (fun _ => rfl) dX2_isWord_37 ?_
    refine ex_aload_n hX dX2_isWord_40 rfl rfl ?_
    refine ex_get hX (.int (h.1 1 5)) FL_2_135 rfl (fun _ => rfl) dX2_isWord_41 ?_
    refine ex_iload_n hX dX2_isWord_44 rfl rfl ?_
    refine ex_iadd hX dX2_isWord_45 ?_
    obtain ⟨q2, w⟩ := w
    refine ex_bald hX rfl q2 dX2_isWord_46 ?_
    refine ex_nameI (fun v3 ev3 => ?_)
    replace w := w v3 ev3
    refine ex_aload_n hX dX2_isWord_47 rfl rfl ?_
    refine ex_iload_n hX dX2_isWord_48 rfl rfl ?_
    obtain ⟨q4, w⟩ := w
    refine ex_strch2 (i := x1) jx1 (Nat.le_of_ble_eq_true rfl) (by decide) hX dX2_isWord_49 q4 ?_
    refine ex_icmpeq hX 57 dX2_isWord_52 (by decide) (fun c5 => ?_) (fun c5 => ?_)
    · replace w := w.1 c5
      refine ex_iinc (v := x2 + 1) (lv' := [some (.ref 1), some (.ref (200 + x1)), some (.int (x2 + 1))]) hX dX2_isWord_57 rfl rfl (by decide) rfl ?_
      refine ex_goto hX 28 dX2_isWord_60 (by decide) ?_
      exact w
    · replace w := w.2 c5
      refine ex_iconst (v := 0) hX dX2_isWord_55 rfl ?_
      exact ex_iret hX dX2_isWord_56 rfl w
