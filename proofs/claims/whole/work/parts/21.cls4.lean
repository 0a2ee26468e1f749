set_option maxRecDepth 100000 in
set_option maxHeartbeats 4000000 in
theorem sg_X6_copyRow_0 {Z : CX × GX} {post : AH → Prop} {h : AH} {x0 nx0 : Nat} {x1 nx1 : Nat} (hX : OK Z RX6 cX6_copyRow 2 none 1 60) (ax0 : ac x0 = some (0, nx0)) (ax1 : ac x1 = some (0, nx1))
    (w : (∀ v1 : Int32, v1 = (if (Int32.ofNat nx1) < (Int32.ofNat nx0) then (Int32.ofNat nx1) else (Int32.ofNat nx0)) → (¬ v1 < 0) ∧ ((0 : Int32).toNatClampNeg + Int32.toNatClampNeg v1 ≤ nx0) ∧ ((0 : Int32).toNatClampNeg + Int32.toNatClampNeg v1 ≤ nx1) ∧ (∀ u5 : AH, u5 = (fun q => if q = x1 then va_cpy (h.1 x0) (h.1 x1) (Int32.toNatClampNeg 0) (Int32.toNatClampNeg 0) (Int32.toNatClampNeg v1) else h.1 q, h.2) → post u5)))
    : EX Z 2 (QV Z post) 0 h [some (.ref x0), some (.ref x1)] [] := by
  refine ex_aload_n hX dX6_copyRow_0 rfl rfl ?_
  refine ex_iconst (v := 0) hX dX6_copyRow_1 rfl ?_
  refine ex_aload_n hX dX6_copyRow_2 rfl rfl ?_
  refine ex_iconst (v := 0) hX dX6_copyRow_3 rfl ?_
  refine ex_aload_n hX dX6_copyRow_4 rfl rfl ?_
  refine ex_alen (v := Int32.ofNat nx0) hX ax0 (by decide) rfl dX6_copyRow_5 ?_
  refine ex_aload_n hX dX6_copyRow_6 rfl rfl ?_
  refine ex_alen (v := Int32.ofNat nx1) hX ax1 (by decide) rfl dX6_copyRow_7 ?_
  refine ex_mmin hX ML_6_254 JS_min JI_Math JC_min ⟨Nat.le_of_ble_eq_true rfl, Nat.le_of_ble_eq_true rfl⟩ dX6_copyRow_8 ?_
  refine ex_nameI (fun v1 ev1 => ?_)
  replace w := w v1 ev1
  obtain ⟨q2, w⟩ := w
  obtain ⟨q3, w⟩ := w
  obtain ⟨q4, w⟩ := w
  refine ex_copy hX ML_6_257 JN_copy JS_copy JI_System ax0 ax1 (by decide) (by decide) (q2) (q3) (q4) ⟨Nat.le_of_ble_eq_true rfl, Nat.le_of_ble_eq_true rfl⟩ dX6_copyRow_11 ?_
  refine ex_nameH (fun u5 eu5 => ?_)
  replace w := w u5 eu5
  exact ex_vret hX dX6_copyRow_14 w

/-- a row as another, its first n places -/
def hcp (h : AH) (a b n : Nat) : AH := (fun q => if q = b then va_cpy (h.1 a) (h.1 b) 0 0 n else h.1 q, h.2)
theorem hcp_ne {h : AH} {a b n i : Nat} (hi : i ≠ b) : (hcp h a b n).1 i = h.1 i := if_neg hi
theorem hcp_in {h : AH} {a b n j : Nat} (hj : j < n) : (hcp h a b n).1 b j = h.1 a j := by
  show (if b = b then va_cpy (h.1 a) (h.1 b) 0 0 n else h.1 b) j = _
  rw [if_pos rfl]
  exact sb_cpy0 hj

set_option maxRecDepth 100000 in
set_option maxHeartbeats 4000000 in
theorem c_X6_copyRow {h : AH} {a0 na0 : Nat} {a1 na1 : Nat} (ha0 : ac a0 = some (0, na0)) (ha1 : ac a1 = some (0, na1)) {n : Nat} (e0 : na0 = n) (e1 : na1 = n) (hn : n < 1000) : CV yX6_copyRow cX6_copyRow 2 1 60 [.ref a0, .ref a1] h (fun u => u = hcp h a0 a1 n) := by
  refine CV.of [some (.ref a0), some (.ref a1)] (by decide +kernel) rfl (Nat.le_of_ble_eq_true rfl) rfl (fun Z hX => ?_)
  subst e0; subst e1
  refine sg_X6_copyRow_0 hX ha0 ha1 (fun v e => ?_)
  have ev : v = nI na1 := by rw [e]; split <;> rfl
  have cz : Int32.toNatClampNeg 0 = 0 := by decide
  rw [ev, cz, nI_clamp (by omega)]
  exact ⟨nI_pos (by omega), by omega, by omega, fun u eu => eu⟩

set_option maxRecDepth 100000 in
set_option maxHeartbeats 4000000 in
theorem sg_X5_copyAll_0 {Z : CX × GX} {post : AH → Prop} {h : AH} {x0 : Nat} {x1 : Nat} (hX : OK Z RX5 cX5_copyAll 2 none 2 81) (ox0 : oc x0 = some 5) (ox1 : oc x1 = some 5)
    (w : (∀ u1 : AH, u1 = (hset h.1 x0 0 (h.1 x1 0), h.2) → (∀ u2 : AH, u2 = (hcp (u1.1, u1.2) (x1 + 1) (x0 + 1) 12) → (∀ u3 : AH, u3 = (hcp (u2.1, u2.2) (x1 + 2) (x0 + 2) 12) → (∀ u4 : AH, u4 = (hcp (u3.1, u3.2) (x1 + 3) (x0 + 3) 12) → (∀ u5 : AH, u5 = (hcp (u4.1, u4.2) (x1 + 4) (x0 + 4) 12) → (∀ u6 : AH, u6 = (hcp (u5.1, u5.2) (x1 + 5) (x0 + 5) 12) → (∀ u7 : AH, u7 = (hcp (u6.1, u6.2) (x1 + 6) (x0 + 6) 12) → (∀ u8 : AH, u8 = (hcp (u7.1, u7.2) (x1 + 7) (x0 + 7) 12) → post u8)))))))))
    : EX Z 2 (QV Z post) 0 h [some (.ref x0), some (.ref x1)] [] := by
  refine ex_aload_n hX dX5_copyAll_0 rfl rfl ?_
  refine ex_aload_n hX dX5_copyAll_1 rfl rfl ?_
  refine ex_get hX (.int (h.1 x1 0)) FL_5_33 ox1 (fun _ => rfl) dX5_copyAll_2 ?_
  refine ex_put hX .int FL_5_33 tyX5 tyX5_ok nmX5 rfl rfl rfl rfl ox0 (fun _ => (by decide : 0 < 8)) (fun _ => fs_5_0) dX5_copyAll_5 ?_
  refine ex_nameH (fun u1 eu1 => ?_)
  replace w := w u1 eu1
  refine ex_aload_n hX dX5_copyAll_8 rfl rfl ?_
  refine ex_get hX (.ref (x1 + 1)) FL_5_9 ox1 (fun _ => rfl) dX5_copyAll_9 ?_
  refine ex_aload_n hX dX5_copyAll_12 rfl rfl ?_
  refine ex_get hX (.ref (x0 + 1)) FL_5_9 ox0 (fun _ => rfl) dX5_copyAll_13 ?_
  refine ex_pVn (As := [.ref (x1 + 1), .ref (x0 + 1)]) (st := []) hX (c_X6_copyRow (h := u1) (sh_5_1 ox1) (sh_5_1 ox0) rfl rfl (by decide)) CS_5_38 MS_X6_copyRow rfl (by decide) rfl (Nat.le_of_ble_eq_true rfl) dX5_copyAll_16 ?_
  refine ex_nameH (fun u2 eu2 => ?_)
  replace w := w u2 eu2
  refine ex_aload_n hX dX5_copyAll_19 rfl rfl ?_
  refine ex_get hX (.ref (x1 + 2)) FL_5_15 ox1 (fun _ => rfl) dX5_copyAll_20 ?_
  refine ex_aload_n hX dX5_copyAll_23 rfl rfl ?_
  refine ex_get hX (.ref (x0 + 2)) FL_5_15 ox0 (fun _ => rfl) dX5_copyAll_24 ?_
  refine ex_pVn (As := [.ref (x1 + 2), .ref (x0 + 2)]) (st := []) hX (c_X6_copyRow (h := u2) (sh_5_2 ox1) (sh_5_2 ox0) rfl rfl (by decide)) CS_5_38 MS_X6_copyRow rfl (by decide) rfl (Nat.le_of_ble_eq_true rfl) dX5_copyAll_27 ?_
  refine ex_nameH (fun u3 eu3 => ?_)
  replace w := w u3 eu3
  refine ex_aload_n hX dX5_copyAll_30 rfl rfl ?_
  refine ex_get hX (.ref (x1 + 3)) FL_5_18 ox1 (fun _ => rfl) dX5_copyAll_31 ?_
  refine ex_aload_n hX dX5_copyAll_34 rfl rfl ?_
  refine ex_get hX (.ref (x0 + 3)) FL_5_18 ox0 (fun _ => rfl) dX5_copyAll_35 ?_
  refine ex_pVn (As := [.ref (x1 + 3), .ref (x0 + 3)]) (st := []) hX (c_X6_copyRow (h := u3) (sh_5_3 ox1) (sh_5_3 ox0) rfl rfl (by decide)) CS_5_38 MS_X6_copyRow rfl (by decide) rfl (Nat.le_of_ble_eq_true rfl) dX5_copyAll_38 ?_
  refine ex_nameH (fun u4 eu4 => ?_)
  replace w := w u4 eu4
  refine ex_aload_n hX dX5_copyAll_41 rfl rfl ?_
  refine ex_get hX (.ref (x1 + 4)) FL_5_21 ox1 (fun _ => rfl) dX5_copyAll_42 ?_
  refine ex_aload_n hX dX5_copyAll_45 rfl rfl ?_
  refine ex_get hX (.ref (x0 + 4)) FL_5_21 ox0 (fun _ => rfl) dX5_copyAll_46 ?_
  refine ex_pVn (As := [.ref (x1 + 4), .ref (x0 + 4)]) (st := []) hX (c_X6_copyRow (h := u4) (sh_5_4 ox1) (sh_5_4 ox0) rfl rfl (by decide)) CS_5_38 MS_X6_copyRow rfl (by decide) rfl (Nat.le_of_ble_eq_true rfl) dX5_copyAll_49 ?_
  refine ex_nameH (fun u5 eu5 => ?_)
  replace w := w u5 eu5
  refine ex_aload_n hX dX5_copyAll_52 rfl rfl ?_
  refine ex_get hX (.ref (x1 + 5)) FL_5_24 ox1 (fun _ => rfl) dX5_copyAll_53 ?_
  refine ex_aload_n hX dX5_copyAll_56 rfl rfl ?_
  refine ex_get hX (.ref (x0 + 5)) FL_5_24 ox0 (fun _ => rfl) dX5_copyAll_57 ?_
  refine ex_pVn (As := [.ref (x1 + 5), .ref (x0 + 5)]) (st := []) hX (c_X6_copyRow (h := u5) (sh_5_5 ox1) (sh_5_5 ox0) rfl rfl (by decide)) CS_5_38 MS_X6_copyRow rfl (by decide) rfl (Nat.le_of_ble_eq_true rfl) dX5_copyAll_60 ?_
  refine ex_nameH (fun u6 eu6 => ?_)
  replace w := w u6 eu6
  refine ex_aload_n hX dX5_copyAll_63 rfl rfl ?_
  refine ex_get hX (.ref (x1 + 6)) FL_5_27 ox1 (fun _ => rfl) dX5_copyAll_64 ?_
  refine ex_aload_n hX dX5_copyAll_67 rfl rfl ?_
  refine ex_get hX (.ref (x0 + 6)) FL_5_27 ox0 (fun _ => rfl) dX5_copyAll_68 ?_
  refine ex_pVn (As := [.ref (x1 + 6), .ref (x0 + 6)]) (st := []) hX (c_X6_copyRow (h := u6) (sh_5_6 ox1) (sh_5_6 ox0) rfl rfl (by decide)) CS_5_38 MS_X6_copyRow rfl (by decide) rfl (Nat.le_of_ble_eq_true rfl) dX5_copyAll_71 ?_
  refine ex_nameH (fun u7 eu7 => ?_)
  replace w := w u7 eu7
  refine ex_aload_n hX dX5_copyAll_74 rfl rfl ?_
  refine ex_get hX (.ref (x1 + 7)) FL_5_30 ox1 (fun _ => rfl) dX5_copyAll_75 ?_
  refine ex_aload_n hX dX5_copyAll_78 rfl rfl ?_
  refine ex_get hX (.ref (x0 + 7)) FL_5_30 ox0 (fun _ => rfl) dX5_copyAll_79 ?_
  refine ex_pVn (As := [.ref (x1 + 7), .ref (x0 + 7)]) (st := []) hX (c_X6_copyRow (h := u7) (sh_5_7 ox1) (sh_5_7 ox0) rfl rfl (by decide)) CS_5_38 MS_X6_copyRow rfl (by decide) rfl (Nat.le_of_ble_eq_true rfl) dX5_copyAll_82 ?_
  refine ex_nameH (fun u8 eu8 => ?_)
  replace w := w u8 eu8
  exact ex_vret hX dX5_copyAll_85 w

set_option maxRecDepth 100000 in
set_option maxHeartbeats 4000000 in
theorem sg_X3_becomeAs_0 {Z : CX × GX} {post : AH → Prop} {h : AH} {x0 : Nat} {x1 : Nat} (hX : OK Z RX3 cX3_becomeAs 2 none 3 102) (ox0 : oc x0 = some 3) (ox1 : oc x1 = some 3)
    (w : (∀ u1 : AH, u1 = (hset h.1 x0 0 (h.1 x1 0), h.2) → (∀ u2 : AH, u2 = (hset u1.1 x0 1 (u1.1 x1 1), u1.2) → (∀ u3 : AH, u3 = (hset u2.1 x0 2 (u2.1 x1 2), u2.2) → (∀ u4 : AH, u4 = (hcp (u3.1, u3.2) (x1 + 1) (x0 + 1) 10) → (∀ u5 : AH, u5 = (hcp (u4.1, u4.2) (x1 + 3) (x0 + 3) 9) → (∀ u6 : AH, u6 = (hcp (u5.1, u5.2) (x1 + 4) (x0 + 4) 9) → (∀ u7 : AH, u7 = (hcp (u6.1, u6.2) (x1 + 5) (x0 + 5) 9) → (∀ u8 : AH, u8 = (hcp (u7.1, u7.2) (x1 + 6) (x0 + 6) 9) → (∃ PP : AH → Prop, CV yX5_copyAll cX5_copyAll 2 2 81 [.ref (x0 + 7), .ref (x1 + 7)] u8 PP ∧ ∀ u : AH, PP u → EX Z 2 (QV Z post) 90 u [none, none] []))))))))))
    : EX Z 2 (QV Z post) 0 h [some (.ref x0), some (.ref x1)] [] := by
  refine ex_aload_n hX dX3_becomeAs_0 rfl rfl ?_
  refine ex_aload_n hX dX3_becomeAs_1 rfl rfl ?_
  refine ex_get hX (.int (h.1 x1 0)) FL_3_37 ox1 (fun _ => rfl) dX3_becomeAs_2 ?_
  refine ex_put hX .int FL_3_37 tyX3 tyX3_ok nmX3 rfl rfl rfl rfl ox0 (fun _ => (by decide : 0 < 10)) (fun _ => fs_3_0) dX3_becomeAs_5 ?_
  refine ex_nameH (fun u1 eu1 => ?_)
  replace w := w u1 eu1
  refine ex_aload_n hX dX3_becomeAs_8 rfl rfl ?_
  refine ex_aload_n hX dX3_becomeAs_9 rfl rfl ?_
  refine ex_get hX (.int (u1.1 x1 1)) FL_3_56 ox1 (fun _ => rfl) dX3_becomeAs_10 ?_
  refine ex_put hX .int FL_3_56 tyX3 tyX3_ok nmX3 rfl rfl rfl rfl ox0 (fun _ => (by decide : 1 < 10)) (fun _ => fs_3_1) dX3_becomeAs_13 ?_
  refine ex_nameH (fun u2 eu2 => ?_)
  replace w := w u2 eu2
  refine ex_aload_n hX dX3_becomeAs_16 rfl rfl ?_
  refine ex_aload_n hX dX3_becomeAs_17 rfl rfl ?_
  refine ex_get hX (.int (u2.1 x1 2)) FL_3_59 ox1 (fun _ => rfl) dX3_becomeAs_18 ?_
  refine ex_put hX .int FL_3_59 tyX3 tyX3_ok nmX3 rfl rfl rfl rfl ox0 (fun _ => (by decide : 2 < 10)) (fun _ => fs_3_2) dX3_becomeAs_21 ?_
  refine ex_nameH (fun u3 eu3 => ?_)
  replace w := w u3 eu3
  refine ex_aload_n hX dX3_becomeAs_24 rfl rfl ?_
  refine ex_get hX (.ref (x1 + 1)) FL_3_9 ox1 (fun _ => rfl) dX3_becomeAs_25 ?_
  refine ex_aload_n hX dX3_becomeAs_28 rfl rfl ?_
  refine ex_get hX (.ref (x0 + 1)) FL_3_9 ox0 (fun _ => rfl) dX3_becomeAs_29 ?_
  refine ex_pVn (As := [.ref (x1 + 1), .ref (x0 + 1)]) (st := []) hX (c_X6_copyRow (h := u3) (sh_3_1 ox1) (sh_3_1 ox0) rfl rfl (by decide)) CS_3_49 MS_X6_copyRow rfl (by decide) rfl (Nat.le_of_ble_eq_true rfl) dX3_becomeAs_32 ?_
  refine ex_nameH (fun u4 eu4 => ?_)
  replace w := w u4 eu4
  refine ex_aload_n hX dX3_becomeAs_35 rfl rfl ?_
  refine ex_get hX (.ref (x1 + 3)) FL_3_18 ox1 (fun _ => rfl) dX3_becomeAs_36 ?_
  refine ex_aload_n hX dX3_becomeAs_39 rfl rfl ?_
  refine ex_get hX (.ref (x0 + 3)) FL_3_18 ox0 (fun _ => rfl) dX3_becomeAs_40 ?_
  refine ex_pVn (As := [.ref (x1 + 3), .ref (x0 + 3)]) (st := []) hX (c_X6_copyRow (h := u4) (sh_3_3 ox1) (sh_3_3 ox0) rfl rfl (by decide)) CS_3_49 MS_X6_copyRow rfl (by decide) rfl (Nat.le_of_ble_eq_true rfl) dX3_becomeAs_43 ?_
  refine ex_nameH (fun u5 eu5 => ?_)
  replace w := w u5 eu5
  refine ex_aload_n hX dX3_becomeAs_46 rfl rfl ?_
  refine ex_get hX (.ref (x1 + 4)) FL_3_21 ox1 (fun _ => rfl) dX3_becomeAs_47 ?_
  refine ex_aload_n hX dX3_becomeAs_50 rfl rfl ?_
  refine ex_get hX (.ref (x0 + 4)) FL_3_21 ox0 (fun _ => rfl) dX3_becomeAs_51 ?_
  refine ex_pVn (As := [.ref (x1 + 4), .ref (x0 + 4)]) (st := []) hX (c_X6_copyRow (h := u5) (sh_3_4 ox1) (sh_3_4 ox0) rfl rfl (by decide)) CS_3_49 MS_X6_copyRow rfl (by decide) rfl (Nat.le_of_ble_eq_true rfl) dX3_becomeAs_54 ?_
  refine ex_nameH (fun u6 eu6 => ?_)
  replace w := w u6 eu6
  refine ex_aload_n hX dX3_becomeAs_57 rfl rfl ?_
  refine ex_get hX (.ref (x1 + 5)) FL_3_24 ox1 (fun _ => rfl) dX3_becomeAs_58 ?_
  refine ex_aload_n hX dX3_becomeAs_61 rfl rfl ?_
  refine ex_get hX (.ref (x0 + 5)) FL_3_24 ox0 (fun _ => rfl) dX3_becomeAs_62 ?_
  refine ex_pVn (As := [.ref (x1 + 5), .ref (x0 + 5)]) (st := []) hX (c_X6_copyRow (h := u6) (sh_3_5 ox1) (sh_3_5 ox0) rfl rfl (by decide)) CS_3_49 MS_X6_copyRow rfl (by decide) rfl (Nat.le_of_ble_eq_true rfl) dX3_becomeAs_65 ?_
  refine ex_nameH (fun u7 eu7 => ?_)
  replace w := w u7 eu7
  refine ex_aload_n hX dX3_becomeAs_68 rfl rfl ?_
  refine ex_get hX (.ref (x1 + 6)) FL_3_27 ox1 (fun _ => rfl) dX3_becomeAs_69 ?_
  refine ex_aload_n hX dX3_becomeAs_72 rfl rfl ?_
  refine ex_get hX (.ref (x0 + 6)) FL_3_27 ox0 (fun _ => rfl) dX3_becomeAs_73 ?_
  refine ex_pVn (As := [.ref (x1 + 6), .ref (x0 + 6)]) (st := []) hX (c_X6_copyRow (h := u7) (sh_3_6 ox1) (sh_3_6 ox0) rfl rfl (by decide)) CS_3_49 MS_X6_copyRow rfl (by decide) rfl (Nat.le_of_ble_eq_true rfl) dX3_becomeAs_76 ?_
  refine ex_nameH (fun u8 eu8 => ?_)
  replace w := w u8 eu8
  refine ex_aload_n hX dX3_becomeAs_79 rfl rfl ?_
  refine ex_get hX (.ref (x0 + 7)) FL_3_33 ox0 (fun _ => rfl) dX3_becomeAs_80 ?_
  refine ex_aload_n hX dX3_becomeAs_83 rfl rfl ?_
  refine ex_get hX (.ref (x1 + 7)) FL_3_33 ox1 (fun _ => rfl) dX3_becomeAs_84 ?_
  obtain ⟨PP, pM, pK⟩ := w
  exact ex_callVv (ci := 5) (i := x0 + 7) (As := [.ref (x1 + 7)]) (st := []) hX pM CS_3_62 MS_X5_copyAll rfl (sh_3_7 ox0) rfl (by decide) rfl (Nat.le_of_ble_eq_true rfl) dX3_becomeAs_87 (fun u hp => ex_forget [none, none] trivial (pK u hp))

set_option maxRecDepth 100000 in
set_option maxHeartbeats 4000000 in
theorem sg_X3_becomeAs_90 {Z : CX × GX} {post : AH → Prop} {h : AH}  (hX : OK Z RX3 cX3_becomeAs 2 none 3 102) 
    (w : post h)
    : EX Z 2 (QV Z post) 90 h [none, none] [] := by
  exact ex_vret hX dX3_becomeAs_90 w

set_option maxRecDepth 100000 in
set_option maxHeartbeats 4000000 in
theorem sg_X3_begin_0 {Z : CX × GX} {post : AH → Prop} {h : AH} {x0 : Nat} {x1 : Nat} (hX : OK Z RX3 cX3_begin 3 none 2 81) (ox0 : oc x0 = some 3) (ox1 : oc x1 = some 0)
    (w : (∀ u1 : AH, u1 = (hset h.1 x0 0 0, h.2) → (∀ u2 : AH, u2 = (hset u1.1 (x0 + 7) 0 0, u1.2) → (∀ u3 : AH, u3 = (hcp (u2.1, u2.2) (x1 + 3) (x0 + 1) 10) → (∀ u4 : AH, u4 = (hcp (u3.1, u3.2) (x1 + 4) (x0 + 3) 9) → EX Z 3 (QV Z post) 37 u4 [some (.ref x0), none, some (.int 0)] [])))))
    : EX Z 3 (QV Z post) 0 h [some (.ref x0), some (.ref x1), none] [] := by
  refine ex_aload_n hX dX3_begin_0 rfl rfl ?_
  refine ex_iconst (v := 0) hX dX3_begin_1 rfl ?_
  refine ex_put hX .int FL_3_37 tyX3 tyX3_ok nmX3 rfl rfl rfl rfl ox0 (fun _ => (by decide : 0 < 10)) (fun _ => fs_3_0) dX3_begin_2 ?_
  refine ex_nameH (fun u1 eu1 => ?_)
  replace w := w u1 eu1
  refine ex_aload_n hX dX3_begin_5 rfl rfl ?_
  refine ex_get hX (.ref (x0 + 7)) FL_3_33 ox0 (fun _ => rfl) dX3_begin_6 ?_
  refine ex_iconst (v := 0) hX dX3_begin_9 rfl ?_
  refine ex_put hX .int FL_3_41 tyX5 tyX5_ok nmX5 rfl rfl rfl rfl (sh_3_7 ox0) (fun _ => (by decide : 0 < 8)) (fun _ => fs_5_0) dX3_begin_10 ?_
  refine ex_nameH (fun u2 eu2 => ?_)
  replace w := w u2 eu2
  refine ex_aload_n hX dX3_begin_13 rfl rfl ?_
  refine ex_get hX (.ref (x1 + 3)) FL_3_44 ox1 (fun _ => rfl) dX3_begin_14 ?_
  refine ex_aload_n hX dX3_begin_17 rfl rfl ?_
  refine ex_get hX (.ref (x0 + 1)) FL_3_9 ox0 (fun _ => rfl) dX3_begin_18 ?_
  refine ex_pVn (As := [.ref (x1 + 3), .ref (x0 + 1)]) (st := []) hX (c_X6_copyRow (h := u2) (sh_0_3 ox1) (sh_3_1 ox0) rfl rfl (by decide)) CS_3_49 MS_X6_copyRow rfl (by decide) rfl (Nat.le_of_ble_eq_true rfl) dX3_begin_21 ?_
  refine ex_nameH (fun u3 eu3 => ?_)
  replace w := w u3 eu3
  refine ex_aload_n hX dX3_begin_24 rfl rfl ?_
  refine ex_get hX (.ref (x1 + 4)) FL_3_53 ox1 (fun _ => rfl) dX3_begin_25 ?_
  refine ex_aload_n hX dX3_begin_28 rfl rfl ?_
  refine ex_get hX (.ref (x0 + 3)) FL_3_18 ox0 (fun _ => rfl) dX3_begin_29 ?_
  refine ex_pVn (As := [.ref (x1 + 4), .ref (x0 + 3)]) (st := []) hX (c_X6_copyRow (h := u3) (sh_0_4 ox1) (sh_3_3 ox0) rfl rfl (by decide)) CS_3_49 MS_X6_copyRow rfl (by decide) rfl (Nat.le_of_ble_eq_true rfl) dX3_begin_32 ?_
  refine ex_nameH (fun u4 eu4 => ?_)
  replace w := w u4 eu4
  refine ex_iconst (v := 0) hX dX3_begin_35 rfl ?_
  refine ex_istore_n (lv' := [some (.ref x0), some (.ref x1), some (.int 0)]) hX dX3_begin_36 rfl (by decide) rfl ?_
  exact ex_forget [some (.ref x0), none, some (.int 0)] ⟨rfl, ⟨rfl, trivial⟩⟩ w

set_option maxRecDepth 100000 in
set_option maxHeartbeats 4000000 in
theorem sg_X3_begin_37 {Z : CX × GX} {post : AH → Prop} {h : AH} {x0 : Nat} {x2 : Int32} (hX : OK Z RX3 cX3_begin 3 none 2 81) (ox0 : oc x0 = some 3)
    (w : ((9 ≤ x2 → post h) ∧ (¬ 9 ≤ x2 → (vp_in x2 9) ∧ (∀ u3 : AH, u3 = (hset h.1 (x0 + 4) (Int32.toNatClampNeg x2) 0, h.2) → (vp_in x2 9) ∧ (∀ u5 : AH, u5 = (hset u3.1 (x0 + 5) (Int32.toNatClampNeg x2) 0, u3.2) → (vp_in x2 9) ∧ (∀ u7 : AH, u7 = (hset u5.1 (x0 + 6) (Int32.toNatClampNeg x2) 0, u5.2) → EX Z 3 (QV Z post) 37 u7 [some (.ref x0), none, some (.int (x2 + 1))] []))))))
    : EX Z 3 (QV Z post) 37 h [some (.ref x0), none, some (.int x2)] [] := by
  refine ex_iload_n hX dX3_begin_37 rfl rfl ?_
  refine ex_bipush (v := 9) hX dX3_begin_38 rfl ?_
  refine ex_icmpge hX 70 dX3_begin_40 (by decide) (fun c1 => ?_) (fun c1 => ?_)
  · replace w := w.1 c1
    exact ex_vret hX dX3_begin_70 w
  · replace w := w.2 c1
    refine ex_aload_n hX dX3_begin_43 rfl rfl ?_
    refine ex_get hX (.ref (x0 + 4)) FL_3_21 ox0 (fun _ => rfl) dX3_begin_44 ?_
    refine ex_iload_n hX dX3_begin_47 rfl rfl ?_
    refine ex_iconst (v := 0) hX dX3_begin_48 rfl ?_
    obtain ⟨q2, w⟩ := w
    refine ex_iast hX (sh_3_4 ox0) q2 dX3_begin_49 ?_
    refine ex_nameH (fun u3 eu3 => ?_)
    replace w := w u3 eu3
    refine ex_aload_n hX dX3_begin_50 rfl rfl ?_
    refine ex_get hX (.ref (x0 + 5)) FL_3_24 ox0 (fun _ => rfl) dX3_begin_51 ?_
    refine ex_iload_n hX dX3_begin_54 rfl rfl ?_
    refine ex_iconst (v := 0) hX dX3_begin_55 rfl ?_
    obtain ⟨q4, w⟩ := w
    refine ex_iast hX (sh_3_5 ox0) q4 dX3_begin_56 ?_
    refine ex_nameH (fun u5 eu5 => ?_)
    replace w := w u5 eu5
    refine ex_aload_n hX dX3_begin_57 rfl rfl ?_
    refine ex_get hX (.ref (x0 + 6)) FL_3_27 ox0 (fun _ => rfl) dX3_begin_58 ?_
    refine ex_iload_n hX dX3_begin_61 rfl rfl ?_
    refine ex_iconst (v := 0) hX dX3_begin_62 rfl ?_
    obtain ⟨q6, w⟩ := w
    refine ex_iast hX (sh_3_6 ox0) q6 dX3_begin_63 ?_
    refine ex_nameH (fun u7 eu7 => ?_)
    replace w := w u7 eu7
    refine ex_iinc (v := x2 + 1) (lv' := [some (.ref x0), none, some (.int (x2 + 1))]) hX dX3_begin_64 rfl rfl (by decide) rfl ?_
    refine ex_goto hX 37 dX3_begin_67 (by decide) ?_
    exact w

set_option maxRecDepth 100000 in
set_option maxHeartbeats 4000000 in
theorem sg_X3_holdGate_0 {Z : CX × GX} {post : AH → Prop} {h : AH} {x0 : Nat} {x1 : Int32} {x2 : Int32} (hX : OK Z RX3 cX3_holdGate 3 none 0 0) (ox0 : oc x0 = some 3)
    (w : (∀ u1 : AH, u1 = (hset h.1 x0 2 ((h.1 x0 2) ||| (1 <<< (x1 &&& 31))), h.2) → (vp_in x1 9) ∧ (∀ u3 : AH, u3 = (hset u1.1 (x0 + 3) (Int32.toNatClampNeg x1) x2, u1.2) → post u3)))
    : EX Z 3 (QV Z post) 0 h [some (.ref x0), some (.int x1), some (.int x2)] [] := by
  refine ex_aload_n hX dX3_holdGate_0 rfl rfl ?_
  refine ex_dup hX dX3_holdGate_1 rfl ?_
  refine ex_get hX (.int (h.1 x0 2)) FL_3_59 ox0 (fun _ => rfl) dX3_holdGate_2 ?_
  refine ex_iconst (v := 1) hX dX3_holdGate_5 rfl ?_
  refine ex_iload_n hX dX3_holdGate_6 rfl rfl ?_
  refine ex_ishl hX dX3_holdGate_7 ?_
  refine ex_ior hX dX3_holdGate_8 ?_
  refine ex_put hX .int FL_3_59 tyX3 tyX3_ok nmX3 rfl rfl rfl rfl ox0 (fun _ => (by decide : 2 < 10)) (fun _ => fs_3_2) dX3_holdGate_9 ?_
  refine ex_nameH (fun u1 eu1 => ?_)
  replace w := w u1 eu1
  refine ex_aload_n hX dX3_holdGate_12 rfl rfl ?_
  refine ex_get hX (.ref (x0 + 3)) FL_3_18 ox0 (fun _ => rfl) dX3_holdGate_13 ?_
  refine ex_iload_n hX dX3_holdGate_16 rfl rfl ?_
  refine ex_iload_n hX dX3_holdGate_17 rfl rfl ?_
  obtain ⟨q2, w⟩ := w
  refine ex_iast hX (sh_3_3 ox0) q2 dX3_holdGate_18 ?_
  refine ex_nameH (fun u3 eu3 => ?_)
  replace w := w u3 eu3
  exact ex_vret hX dX3_holdGate_19 w

set_option maxRecDepth 100000 in
set_option maxHeartbeats 4000000 in
theorem sg_X3_allWater_0 {Z : CX × GX} {post : Int32 → AH → Prop} {h : AH} {x0 : Nat} {x1 : Nat} (hX : OK Z RX3 cX3_allWater 4 (some .int) 0 0) (ox0 : oc x0 = some 3) (ox1 : oc x1 = some 0)
    (w : EX Z 4 (QI Z post) 4 h [some (.ref x0), some (.ref x1), some (.int 0), some (.int 0)] [])
    : EX Z 4 (QI Z post) 0 h [some (.ref x0), some (.ref x1), none, none] [] := by
  refine ex_iconst (v := 0) hX dX3_allWater_0 rfl ?_
  refine ex_istore_n (lv' := [some (.ref x0), some (.ref x1), some (.int 0), none]) hX dX3_allWater_1 rfl (by decide) rfl ?_
  refine ex_iconst (v := 0) hX dX3_allWater_2 rfl ?_
  refine ex_istore_n (lv' := [some (.ref x0), some (.ref x1), some (.int 0), some (.int 0)]) hX dX3_allWater_3 rfl (by decide) rfl ?_
  exact w

set_option maxRecDepth 100000 in
set_option maxHeartbeats 4000000 in
theorem sg_X3_allWater_4 {Z : CX × GX} {post : Int32 → AH → Prop} {h : AH} {x0 : Nat} {x1 : Nat} {x2 : Int32} {x3 : Int32} (hX : OK Z RX3 cX3_allWater 4 (some .int) 0 0) (ox0 : oc x0 = some 3) (ox1 : oc x1 = some 0)
    (w : ((((h.1 x1 0) - 1) ≤ x3 → post x2 h) ∧ (¬ ((h.1 x1 0) - 1) ≤ x3 → (vp_in x3 10) ∧ (∀ v3 : Int32, v3 = x2 + (h.1 (x0 + 1) (Int32.toNatClampNeg x3)) → EX Z 4 (QI Z post) 4 h [some (.ref x0), some (.ref x1), some (.int v3), some (.int (x3 + 1))] []))))
    : EX Z 4 (QI Z post) 4 h [some (.ref x0), some (.ref x1), some (.int x2), some (.int x3)] [] := by
  refine ex_iload_n hX dX3_allWater_4 rfl rfl ?_
  refine ex_aload_n hX dX3_allWater_5 rfl rfl ?_
  refine ex_get hX (.int (h.1 x1 0)) FL_3_80 ox1 (fun _ => rfl) dX3_allWater_6 ?_
  refine ex_iconst (v := 1) hX dX3_allWater_9 rfl ?_
  refine ex_isub hX dX3_allWater_10 ?_
  refine ex_icmpge hX 29 dX3_allWater_11 (by decide) (fun c1 => ?_) (fun c1 => ?_)
  · replace w := w.1 c1
    refine ex_iload_n hX dX3_allWater_29 rfl rfl ?_
    exact ex_iret hX dX3_allWater_30 rfl w
  · replace w := w.2 c1
    refine ex_iload_n hX dX3_allWater_14 rfl rfl ?_
    refine ex_aload_n hX dX3_allWater_15 rfl rfl ?_
    refine ex_get hX (.ref (x0 + 1)) FL_3_9 ox0 (fun _ => rfl) dX3_allWater_16 ?_
    refine ex_iload_n hX dX3_allWater_19 rfl rfl ?_
    obtain ⟨q2, w⟩ := w
    refine ex_iald hX (sh_3_1 ox0) q2 dX3_allWater_20 ?_
    refine ex_iadd hX dX3_allWater_21 ?_
    refine ex_nameI (fun v3 ev3 => ?_)
    replace w := w v3 ev3
    refine ex_istore_n (lv' := [some (.ref x0), some (.ref x1), some (.int v3), some (.int x3)]) hX dX3_allWater_22 rfl (by decide) rfl ?_
    refine ex_iinc (v := x3 + 1) (lv' := [some (.ref x0), some (.ref x1), some (.int v3), some (.int (x3 + 1))]) hX dX3_allWater_23 rfl rfl (by decide) rfl ?_
    refine ex_goto hX 4 dX3_allWater_26 (by decide) ?_
    exact w

set_option maxRecDepth 100000 in
set_option maxHeartbeats 4000000 in
theorem sg_X5_lyingIn_0 {Z : CX × GX} {post : Int32 → AH → Prop} {h : AH} {x0 : Nat} {x1 : Int32} (hX : OK Z RX5 cX5_lyingIn 4 (some .int) 0 0) (ox0 : oc x0 = some 5)
    (w : EX Z 4 (QI Z post) 4 h [some (.ref x0), some (.int x1), some (.int 0), some (.int 0)] [])
    : EX Z 4 (QI Z post) 0 h [some (.ref x0), some (.int x1), none, none] [] := by
  refine ex_iconst (v := 0) hX dX5_lyingIn_0 rfl ?_
  refine ex_istore_n (lv' := [some (.ref x0), some (.int x1), some (.int 0), none]) hX dX5_lyingIn_1 rfl (by decide) rfl ?_
  refine ex_iconst (v := 0) hX dX5_lyingIn_2 rfl ?_
  refine ex_istore_n (lv' := [some (.ref x0), some (.int x1), some (.int 0), some (.int 0)]) hX dX5_lyingIn_3 rfl (by decide) rfl ?_
  exact w

set_option maxRecDepth 100000 in
set_option maxHeartbeats 4000000 in
theorem sg_X5_lyingIn_4 {Z : CX × GX} {post : Int32 → AH → Prop} {h : AH} {x0 : Nat} {x1 : Int32} {x2 : Int32} {x3 : Int32} (hX : OK Z RX5 cX5_lyingIn 4 (some .int) 0 0) (ox0 : oc x0 = some 5)
    (w : (((h.1 x0 0) ≤ x3 → post x2 h) ∧ (¬ (h.1 x0 0) ≤ x3 → (vp_in x3 12) ∧ EX Z 4 (QI Z post) 4 h [some (.ref x0), some (.int x1), some (.int (if (h.1 (x0 + 1) (Int32.toNatClampNeg x3)) = x1 then (x2 ||| (1 <<< (x3 &&& 31)) : Int32) else x2)), some (.int (x3 + 1))] [])))
    : EX Z 4 (QI Z post) 4 h [some (.ref x0), some (.int x1), some (.int x2), some (.int x3)] [] := by
  refine ex_iload_n hX dX5_lyingIn_4 rfl rfl ?_
  refine ex_aload_n hX dX5_lyingIn_5 rfl rfl ?_
  refine ex_get hX (.int (h.1 x0 0)) FL_5_33 ox0 (fun _ => rfl) dX5_lyingIn_6 ?_
  refine ex_icmpge hX 34 dX5_lyingIn_9 (by decide) (fun c1 => ?_) (fun c1 => ?_)
  · replace w := w.1 c1
    refine ex_iload_n hX dX5_lyingIn_34 rfl rfl ?_
    exact ex_iret hX dX5_lyingIn_35 rfl w
  · replace w := w.2 c1
    refine ex_aload_n hX dX5_lyingIn_12 rfl rfl ?_
    refine ex_get hX (.ref (x0 + 1)) FL_5_9 ox0 (fun _ => rfl) dX5_lyingIn_13 ?_
    refine ex_iload_n hX dX5_lyingIn_16 rfl rfl ?_
    obtain ⟨q2, w⟩ := w
    refine ex_iald hX (sh_5_1 ox0) q2 dX5_lyingIn_17 ?_
    refine ex_iload_n hX dX5_lyingIn_18 rfl rfl ?_
    have kc3 : EX Z 4 (QI Z post) 28 h [some (.ref x0), some (.int x1), some (.int (if (h.1 (x0 + 1) (Int32.toNatClampNeg x3)) = x1 then (x2 ||| (1 <<< (x3 &&& 31)) : Int32) else x2)), some (.int x3)] [] := by
      refine ex_iinc (v := x3 + 1) (lv' := [some (.ref x0), some (.int x1), some (.int (if (h.1 (x0 + 1) (Int32.toNatClampNeg x3)) = x1 then (x2 ||| (1 <<< (x3 &&& 31)) : Int32) else x2)), some (.int (x3 + 1))]) hX dX5_lyingIn_28 rfl rfl (by decide) rfl ?_
      refine ex_goto hX 4 dX5_lyingIn_31 (by decide) ?_
      exact w
    refine ex_icmpne hX 28 dX5_lyingIn_19 (by decide) (fun c3 => ?_) (fun c3 => ?_)
    · rw [show (if (h.1 (x0 + 1) (Int32.toNatClampNeg x3)) = x1 then (x2 ||| (1 <<< (x3 &&& 31)) : Int32) else x2) = x2 from if_neg c3] at kc3
      exact ex_forget [some (.ref x0), some (.int x1), some (.int x2), some (.int x3)] ⟨rfl, ⟨rfl, ⟨rfl, ⟨rfl, trivial⟩⟩⟩⟩ kc3
    · refine ex_iload_n hX dX5_lyingIn_22 rfl rfl ?_
      refine ex_iconst (v := 1) hX dX5_lyingIn_23 rfl ?_
      refine ex_iload_n hX dX5_lyingIn_24 rfl rfl ?_
      refine ex_ishl hX dX5_lyingIn_25 ?_
      refine ex_ior hX dX5_lyingIn_26 ?_
      refine ex_istore_n (lv' := [some (.ref x0), some (.int x1), some (.int (x2 ||| (1 <<< (x3 &&& 31)))), some (.int x3)]) hX dX5_lyingIn_27 rfl (by decide) rfl ?_
      rw [show (if (h.1 (x0 + 1) (Int32.toNatClampNeg x3)) = x1 then (x2 ||| (1 <<< (x3 &&& 31)) : Int32) else x2) = x2 ||| (1 <<< (x3 &&& 31)) from if_pos c3] at kc3
      exact ex_forget [some (.ref x0), some (.int x1), some (.int (x2 ||| (1 <<< (x3 &&& 31)))), some (.int x3)] ⟨rfl, ⟨rfl, ⟨rfl, ⟨rfl, trivial⟩⟩⟩⟩ kc3

set_option maxRecDepth 100000 in
set_option maxHeartbeats 4000000 in
theorem sg_X5_setIn_0 {Z : CX × GX} {post : Int32 → AH → Prop} {h : AH} {x0 : Nat} {x1 : Int32} {x2 : Int32} (hX : OK Z RX5 cX5_setIn 4 (some .int) 0 0) (ox0 : oc x0 = some 5)
    (w : (((h.1 x0 0) < 12 → (vp_in (h.1 x0 0) 12) ∧ (∀ u3 : AH, u3 = (hset h.1 (x0 + 1) (Int32.toNatClampNeg (h.1 x0 0)) x1, h.2) → (vp_in (h.1 x0 0) 12) ∧ (∀ u5 : AH, u5 = (hset u3.1 (x0 + 2) (Int32.toNatClampNeg (h.1 x0 0)) x2, u3.2) → (vp_in (h.1 x0 0) 12) ∧ (∀ u7 : AH, u7 = (hset u5.1 (x0 + 3) (Int32.toNatClampNeg (h.1 x0 0)) x1, u5.2) → (vp_in (h.1 x0 0) 12) ∧ (∀ u9 : AH, u9 = (hset u7.1 (x0 + 4) (Int32.toNatClampNeg (h.1 x0 0)) 0, u7.2) → (vp_in (h.1 x0 0) 12) ∧ (∀ u11 : AH, u11 = (hset u9.1 (x0 + 5) (Int32.toNatClampNeg (h.1 x0 0)) 0, u9.2) → (vp_in (h.1 x0 0) 12) ∧ (∀ u13 : AH, u13 = (hset u11.1 (x0 + 6) (Int32.toNatClampNeg (h.1 x0 0)) 0, u11.2) → (vp_in (h.1 x0 0) 12) ∧ (∀ u15 : AH, u15 = (hset u13.1 (x0 + 7) (Int32.toNatClampNeg (h.1 x0 0)) 0, u13.2) → (∀ u16 : AH, u16 = (hset u15.1 x0 0 ((u15.1 x0 0) + 1), u15.2) → post (h.1 x0 0) u16))))))))) ∧ (¬ (h.1 x0 0) < 12 → post (-100000004) h)))
    : EX Z 4 (QI Z post) 0 h [some (.ref x0), some (.int x1), some (.int x2), none] [] := by
  refine ex_aload_n hX dX5_setIn_0 rfl rfl ?_
  refine ex_get hX (.int (h.1 x0 0)) FL_5_33 ox0 (fun _ => rfl) dX5_setIn_1 ?_
  refine ex_bipush (v := 12) hX dX5_setIn_4 rfl ?_
  refine ex_icmplt hX 12 dX5_setIn_6 (by decide) (fun c1 => ?_) (fun c1 => ?_)
  · replace w := w.1 c1
    refine ex_aload_n hX dX5_setIn_12 rfl rfl ?_
    refine ex_get hX (.int (h.1 x0 0)) FL_5_33 ox0 (fun _ => rfl) dX5_setIn_13 ?_
    refine ex_istore_n (lv' := [some (.ref x0), some (.int x1), some (.int x2), some (.int (h.1 x0 0))]) hX dX5_setIn_16 rfl (by decide) rfl ?_
    refine ex_aload_n hX dX5_setIn_17 rfl rfl ?_
    refine ex_get hX (.ref (x0 + 1)) FL_5_9 ox0 (fun _ => rfl) dX5_setIn_18 ?_
    refine ex_iload_n hX dX5_setIn_21 rfl rfl ?_
    refine ex_iload_n hX dX5_setIn_22 rfl rfl ?_
    obtain ⟨q2, w⟩ := w
    refine ex_iast hX (sh_5_1 ox0) q2 dX5_setIn_23 ?_
    refine ex_nameH (fun u3 eu3 => ?_)
    replace w := w u3 eu3
    refine ex_aload_n hX dX5_setIn_24 rfl rfl ?_
    refine ex_get hX (.ref (x0 + 2)) FL_5_15 ox0 (fun _ => rfl) dX5_setIn_25 ?_
    refine ex_iload_n hX dX5_setIn_28 rfl rfl ?_
    refine ex_iload_n hX dX5_setIn_29 rfl rfl ?_
    obtain ⟨q4, w⟩ := w
    refine ex_iast hX (sh_5_2 ox0) q4 dX5_setIn_30 ?_
    refine ex_nameH (fun u5 eu5 => ?_)
    replace w := w u5 eu5
    refine ex_aload_n hX dX5_setIn_31 rfl rfl ?_
    refine ex_get hX (.ref (x0 + 3)) FL_5_18 ox0 (fun _ => rfl) dX5_setIn_32 ?_
    refine ex_iload_n hX dX5_setIn_35 rfl rfl ?_
    refine ex_iload_n hX dX5_setIn_36 rfl rfl ?_
    obtain ⟨q6, w⟩ := w
    refine ex_iast hX (sh_5_3 ox0) q6 dX5_setIn_37 ?_
    refine ex_nameH (fun u7 eu7 => ?_)
    replace w := w u7 eu7
    refine ex_aload_n hX dX5_setIn_38 rfl rfl ?_
    refine ex_get hX (.ref (x0 + 4)) FL_5_21 ox0 (fun _ => rfl) dX5_setIn_39 ?_
    refine ex_iload_n hX dX5_setIn_42 rfl rfl ?_
    refine ex_iconst (v := 0) hX dX5_setIn_43 rfl ?_
    obtain ⟨q8, w⟩ := w
    refine ex_iast hX (sh_5_4 ox0) q8 dX5_setIn_44 ?_
    refine ex_nameH (fun u9 eu9 => ?_)
    replace w := w u9 eu9
    refine ex_aload_n hX dX5_setIn_45 rfl rfl ?_
    refine ex_get hX (.ref (x0 + 5)) FL_5_24 ox0 (fun _ => rfl) dX5_setIn_46 ?_
    refine ex_iload_n hX dX5_setIn_49 rfl rfl ?_
    refine ex_iconst (v := 0) hX dX5_setIn_50 rfl ?_
    obtain ⟨q10, w⟩ := w
    refine ex_iast hX (sh_5_5 ox0) q10 dX5_setIn_51 ?_
    refine ex_nameH (fun u11 eu11 => ?_)
    replace w := w u11 eu11
    refine ex_aload_n hX dX5_setIn_52 rfl rfl ?_
    refine ex_get hX (.ref (x0 + 6)) FL_5_27 ox0 (fun _ => rfl) dX5_setIn_53 ?_
    refine ex_iload_n hX dX5_setIn_56 rfl rfl ?_
    refine ex_iconst (v := 0) hX dX5_setIn_57 rfl ?_
    obtain ⟨q12, w⟩ := w
    refine ex_iast hX (sh_5_6 ox0) q12 dX5_setIn_58 ?_
    refine ex_nameH (fun u13 eu13 => ?_)
    replace w := w u13 eu13
    refine ex_aload_n hX dX5_setIn_59 rfl rfl ?_
    refine ex_get hX (.ref (x0 + 7)) FL_5_30 ox0 (fun _ => rfl) dX5_setIn_60 ?_
    refine ex_iload_n hX dX5_setIn_63 rfl rfl ?_
    refine ex_iconst (v := 0) hX dX5_setIn_64 rfl ?_
    obtain ⟨q14, w⟩ := w
    refine ex_iast hX (sh_5_7 ox0) q14 dX5_setIn_65 ?_
    refine ex_nameH (fun u15 eu15 => ?_)
    replace w := w u15 eu15
    refine ex_aload_n hX dX5_setIn_66 rfl rfl ?_
    refine ex_dup hX dX5_setIn_67 rfl ?_
    refine ex_get hX (.int (u15.1 x0 0)) FL_5_33 ox0 (fun _ => rfl) dX5_setIn_68 ?_
    refine ex_iconst (v := 1) hX dX5_setIn_71 rfl ?_
    refine ex_iadd hX dX5_setIn_72 ?_
    refine ex_put hX .int FL_5_33 tyX5 tyX5_ok nmX5 rfl rfl rfl rfl ox0 (fun _ => (by decide : 0 < 8)) (fun _ => fs_5_0) dX5_setIn_73 ?_
    refine ex_nameH (fun u16 eu16 => ?_)
    replace w := w u16 eu16
    refine ex_iload_n hX dX5_setIn_76 rfl rfl ?_
    exact ex_iret hX dX5_setIn_77 rfl w
  · replace w := w.2 c1
    refine ex_ldc hX dX5_setIn_9 KC_5_37 ?_
    exact ex_iret hX dX5_setIn_11 rfl w

set_option maxRecDepth 100000 in
set_option maxHeartbeats 4000000 in
theorem sg_X3_draw_0 {Z : CX × GX} {post : Int32 → AH → Prop} {h : AH} {x0 : Nat} {x1 : Int32} (hX : OK Z RX3 cX3_draw 2 (some .int) 0 0) (ox0 : oc x0 = some 3)
    (w : (∀ v1 : Int64, v1 = ((Int32.toInt64 (h.1 x0 1)) * 1103515245) + 12345 → (∀ u2 : AH, u2 = (hset h.1 x0 1 (Int64.toInt32 (v1 &&& 2147483647)), h.2) → ((1 ≤ x1 → (¬ x1 = 0) ∧ (∀ v5 : Int32, v5 = ((u2.1 x0 1) / 65536) - ((u2.1 x0 1) / 65536) / x1 * x1 → post v5 u2)) ∧ (¬ 1 ≤ x1 → post 0 u2)))))
    : EX Z 2 (QI Z post) 0 h [some (.ref x0), some (.int x1)] [] := by
  refine ex_aload_n hX dX3_draw_0 rfl rfl ?_
  refine ex_aload_n hX dX3_draw_1 rfl rfl ?_
  refine ex_get hX (.int (h.1 x0 1)) FL_3_56 ox0 (fun _ => rfl) dX3_draw_2 ?_
  refine ex_i2l hX dX3_draw_5 ?_
  refine ex_ldc2 hX dX3_draw_6 KL_3_148 ?_
  refine ex_lmul hX dX3_draw_9 ?_
  refine ex_ldc2 hX dX3_draw_10 KL_3_150 ?_
  refine ex_ladd hX dX3_draw_13 ?_
  refine ex_nameL (fun v1 ev1 => ?_)
  replace w := w v1 ev1
  refine ex_ldc2 hX dX3_draw_14 KL_3_152 ?_
  refine ex_land hX dX3_draw_17 ?_
  refine ex_l2i hX dX3_draw_18 ?_
  refine ex_put hX .int FL_3_56 tyX3 tyX3_ok nmX3 rfl rfl rfl rfl ox0 (fun _ => (by decide : 1 < 10)) (fun _ => fs_3_1) dX3_draw_19 ?_
  refine ex_nameH (fun u2 eu2 => ?_)
  replace w := w u2 eu2
  refine ex_iload_n hX dX3_draw_22 rfl rfl ?_
  refine ex_iconst (v := 1) hX dX3_draw_23 rfl ?_
  refine ex_icmpge hX 31 dX3_draw_24 (by decide) (fun c3 => ?_) (fun c3 => ?_)
  · replace w := w.1 c3
    refine ex_aload_n hX dX3_draw_31 rfl rfl ?_
    refine ex_get hX (.int (u2.1 x0 1)) FL_3_56 ox0 (fun _ => rfl) dX3_draw_32 ?_
    refine ex_ldc hX dX3_draw_35 KC_3_154 ?_
    refine ex_idiv hX dX3_draw_37 (by decide) ?_
    refine ex_iload_n hX dX3_draw_38 rfl rfl ?_
    obtain ⟨q4, w⟩ := w
    refine ex_irem hX dX3_draw_39 q4 ?_
    refine ex_nameI (fun v5 ev5 => ?_)
    replace w := w v5 ev5
    exact ex_iret hX dX3_draw_40 rfl w
  · replace w := w.2 c3
    refine ex_iconst (v := 0) hX dX3_draw_27 rfl ?_
    refine ex_goto hX 40 dX3_draw_28 (by decide) ?_
    exact ex_iret hX dX3_draw_40 rfl w
