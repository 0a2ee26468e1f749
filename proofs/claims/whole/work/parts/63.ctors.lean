theorem nx_gc {Z : CX × DX} {nL cells slots : Nat} {Q : State → Prop} {pc : Nat} {lv : List (Nat × Value)} {st : List Value} {x : Nat × va_E} {tl w : va_W} (kk : ∀ t2 : va_W, t2 = tl ++ w → NX Z nL cells slots Q pc (x :: t2) lv st) : NX Z nL cells slots Q pc (x :: tl ++ w) lv st := kk _ rfl
theorem nx_ob {Z : CX × DX} {nL cells slots : Nat} {Q : State → Prop} {pc : Nat} {lv : List (Nat × Value)} {st : List Value} {a ci : Nat} {fs fs' : List Value} {tl : va_W} (h : fs = fs') (kk : NX Z nL cells slots Q pc ((a, .inr (ci, fs')) :: tl) lv st) : NX Z nL cells slots Q pc ((a, .inr (ci, fs)) :: tl) lv st := by
  subst h
  exact kk
theorem nx_cs {Z : CX × DX} {nL c1 c2 s1 s2 p1 p2 : Nat} {Q : State → Prop} {ws : va_W} {lv : List (Nat × Value)} {st : List Value} (h1 : c1 = c2) (h2 : s1 = s2) (h3 : p1 = p2) (kk : NX Z nL c2 s2 Q p2 ws lv st) : NX Z nL c1 s1 Q p1 ws lv st := by
  subst h1 h2 h3
  exact kk
def aw (c : ClassId) (q N : Nat) : Nat × va_E := (q, .inl (c, N, .inl (fun _ => 0)))

def wX0 (cA : Nat → ClassId) (a : Nat) (f : Nat → Nat) : va_W := [(a, .inr (0, [.int 0, .ref (f 1), .ref (f 2), .ref (f 3), .ref (f 4), .ref (f 5), .ref (f 6), .ref (f 7)])), aw (cA 0) (f 1) 10, aw (cA 0) (f 2) 10, aw (cA 0) (f 3) 10, aw (cA 0) (f 4) 9, aw (cA 0) (f 5) 9, aw (cA 0) (f 6) 24, aw (cA 0) (f 7) 24]

set_option maxRecDepth 100000 in
set_option maxHeartbeats 4000000 in
theorem c_X0_init : CN yX0_init cX0_init 1 1 13 7 96 0 [.int 0, .null, .null, .null, .null, .null, .null, .null] (fun _ _ => True) wX0 := by
  refine CN.of (own := RX0) (by decide +kernel) rfl rfl (by decide) (fun Z a hX => ?_)
  refine nx_aload hX.1 0 dX0_init_0 rfl rfl ?_
  refine nx_objInit hX.1 OI_0 (by decide) (Nat.le_of_ble_eq_true rfl) dX0_init_1 ?_
  refine nx_aload hX.1 0 dX0_init_4 rfl rfl ?_
  refine nx_bipush (v := (nI 10)) hX.1 dX0_init_5 (by decide +kernel) ?_
  refine nx_newa (atype := .int) (ty := .int) (t := 0) (N := 10) hX.1 rfl AC_int tys_int (fun _ _ z => z) rfl (nI_pos (by decide)) (nI_clamp (by decide)) (Nat.le_of_ble_eq_true rfl) (Nat.le_of_ble_eq_true rfl) (Nat.le_of_ble_eq_true rfl) dX0_init_7 (fun q1 => ?_)
  refine nx_gc (tl := []) (fun t1 e1 => ?_)
  refine nx_cs (c2 := 1) (s2 := 10) (p2 := 9) rfl rfl rfl ?_
  refine nx_putF (v := .ref q1) hX (.array .int) FL_0_9 tyX0 tyX0_ok nmX0 rfl rfl rfl rfl rfl (Nat.le_of_ble_eq_true rfl) dX0_init_9 ?_
  refine nx_ob (fs' := [.int 0, .ref q1, .null, .null, .null, .null, .null, .null]) rfl ?_
  refine nx_aload hX.1 0 dX0_init_12 rfl rfl ?_
  refine nx_bipush (v := (nI 10)) hX.1 dX0_init_13 (by decide +kernel) ?_
  refine nx_newa (atype := .int) (ty := .int) (t := 0) (N := 10) hX.1 rfl AC_int tys_int (fun _ _ z => z) rfl (nI_pos (by decide)) (nI_clamp (by decide)) (Nat.le_of_ble_eq_true rfl) (Nat.le_of_ble_eq_true rfl) (Nat.le_of_ble_eq_true rfl) dX0_init_15 (fun q2 => ?_)
  refine nx_gc (tl := t1) (fun t2 e2 => ?_)
  refine nx_cs (c2 := 2) (s2 := 20) (p2 := 17) rfl rfl rfl ?_
  refine nx_putF (v := .ref q2) hX (.array .int) FL_0_15 tyX0 tyX0_ok nmX0 rfl rfl rfl rfl rfl (Nat.le_of_ble_eq_true rfl) dX0_init_17 ?_
  refine nx_ob (fs' := [.int 0, .ref q1, .ref q2, .null, .null, .null, .null, .null]) rfl ?_
  refine nx_aload hX.1 0 dX0_init_20 rfl rfl ?_
  refine nx_bipush (v := (nI 10)) hX.1 dX0_init_21 (by decide +kernel) ?_
  refine nx_newa (atype := .int) (ty := .int) (t := 0) (N := 10) hX.1 rfl AC_int tys_int (fun _ _ z => z) rfl (nI_pos (by decide)) (nI_clamp (by decide)) (Nat.le_of_ble_eq_true rfl) (Nat.le_of_ble_eq_true rfl) (Nat.le_of_ble_eq_true rfl) dX0_init_23 (fun q3 => ?_)
  refine nx_gc (tl := t2) (fun t3 e3 => ?_)
  refine nx_cs (c2 := 3) (s2 := 30) (p2 := 25) rfl rfl rfl ?_
  refine nx_putF (v := .ref q3) hX (.array .int) FL_0_18 tyX0 tyX0_ok nmX0 rfl rfl rfl rfl rfl (Nat.le_of_ble_eq_true rfl) dX0_init_25 ?_
  refine nx_ob (fs' := [.int 0, .ref q1, .ref q2, .ref q3, .null, .null, .null, .null]) rfl ?_
  refine nx_aload hX.1 0 dX0_init_28 rfl rfl ?_
  refine nx_bipush (v := (nI 9)) hX.1 dX0_init_29 (by decide +kernel) ?_
  refine nx_newa (atype := .int) (ty := .int) (t := 0) (N := 9) hX.1 rfl AC_int tys_int (fun _ _ z => z) rfl (nI_pos (by decide)) (nI_clamp (by decide)) (Nat.le_of_ble_eq_true rfl) (Nat.le_of_ble_eq_true rfl) (Nat.le_of_ble_eq_true rfl) dX0_init_31 (fun q4 => ?_)
  refine nx_gc (tl := t3) (fun t4 e4 => ?_)
  refine nx_cs (c2 := 4) (s2 := 39) (p2 := 33) rfl rfl rfl ?_
  refine nx_putF (v := .ref q4) hX (.array .int) FL_0_21 tyX0 tyX0_ok nmX0 rfl rfl rfl rfl rfl (Nat.le_of_ble_eq_true rfl) dX0_init_33 ?_
  refine nx_ob (fs' := [.int 0, .ref q1, .ref q2, .ref q3, .ref q4, .null, .null, .null]) rfl ?_
  refine nx_aload hX.1 0 dX0_init_36 rfl rfl ?_
  refine nx_bipush (v := (nI 9)) hX.1 dX0_init_37 (by decide +kernel) ?_
  refine nx_newa (atype := .int) (ty := .int) (t := 0) (N := 9) hX.1 rfl AC_int tys_int (fun _ _ z => z) rfl (nI_pos (by decide)) (nI_clamp (by decide)) (Nat.le_of_ble_eq_true rfl) (Nat.le_of_ble_eq_true rfl) (Nat.le_of_ble_eq_true rfl) dX0_init_39 (fun q5 => ?_)
  refine nx_gc (tl := t4) (fun t5 e5 => ?_)
  refine nx_cs (c2 := 5) (s2 := 48) (p2 := 41) rfl rfl rfl ?_
  refine nx_putF (v := .ref q5) hX (.array .int) FL_0_24 tyX0 tyX0_ok nmX0 rfl rfl rfl rfl rfl (Nat.le_of_ble_eq_true rfl) dX0_init_41 ?_
  refine nx_ob (fs' := [.int 0, .ref q1, .ref q2, .ref q3, .ref q4, .ref q5, .null, .null]) rfl ?_
  refine nx_aload hX.1 0 dX0_init_44 rfl rfl ?_
  refine nx_bipush (v := (nI 24)) hX.1 dX0_init_45 (by decide +kernel) ?_
  refine nx_newa (atype := .int) (ty := .int) (t := 0) (N := 24) hX.1 rfl AC_int tys_int (fun _ _ z => z) rfl (nI_pos (by decide)) (nI_clamp (by decide)) (Nat.le_of_ble_eq_true rfl) (Nat.le_of_ble_eq_true rfl) (Nat.le_of_ble_eq_true rfl) dX0_init_47 (fun q6 => ?_)
  refine nx_gc (tl := t5) (fun t6 e6 => ?_)
  refine nx_cs (c2 := 6) (s2 := 72) (p2 := 49) rfl rfl rfl ?_
  refine nx_putF (v := .ref q6) hX (.array .int) FL_0_27 tyX0 tyX0_ok nmX0 rfl rfl rfl rfl rfl (Nat.le_of_ble_eq_true rfl) dX0_init_49 ?_
  refine nx_ob (fs' := [.int 0, .ref q1, .ref q2, .ref q3, .ref q4, .ref q5, .ref q6, .null]) rfl ?_
  refine nx_aload hX.1 0 dX0_init_52 rfl rfl ?_
  refine nx_bipush (v := (nI 24)) hX.1 dX0_init_53 (by decide +kernel) ?_
  refine nx_newa (atype := .int) (ty := .int) (t := 0) (N := 24) hX.1 rfl AC_int tys_int (fun _ _ z => z) rfl (nI_pos (by decide)) (nI_clamp (by decide)) (Nat.le_of_ble_eq_true rfl) (Nat.le_of_ble_eq_true rfl) (Nat.le_of_ble_eq_true rfl) dX0_init_55 (fun q7 => ?_)
  refine nx_gc (tl := t6) (fun t7 e7 => ?_)
  refine nx_cs (c2 := 7) (s2 := 96) (p2 := 57) rfl rfl rfl ?_
  refine nx_putF (v := .ref q7) hX (.array .int) FL_0_30 tyX0 tyX0_ok nmX0 rfl rfl rfl rfl rfl (Nat.le_of_ble_eq_true rfl) dX0_init_57 ?_
  refine nx_ob (fs' := [.int 0, .ref q1, .ref q2, .ref q3, .ref q4, .ref q5, .ref q6, .ref q7]) rfl ?_
  exact nx_vret hX (fun k => [0, q1, q2, q3, q4, q5, q6, q7].getD k 0) trivial (by rw [e7, e6, e5, e4, e3, e2, e1]; rfl) dX0_init_60

def wX1 (cA : Nat → ClassId) (a : Nat) (f : Nat → Nat) : va_W := [(a, .inr (1, [.int 0, .ref (f 1), .ref (f 2), .ref (f 3)])), aw (cA 0) (f 1) 30, aw (cA 0) (f 2) 30, aw (cA 0) (f 3) 30]

set_option maxRecDepth 100000 in
set_option maxHeartbeats 4000000 in
theorem c_X1_init : CN yX1_init cX1_init 1 1 13 3 90 1 [.int 0, .null, .null, .null] (fun _ _ => True) wX1 := by
  refine CN.of (own := RX1) (by decide +kernel) rfl rfl (by decide) (fun Z a hX => ?_)
  refine nx_aload hX.1 0 dX1_init_0 rfl rfl ?_
  refine nx_objInit hX.1 OI_1 (by decide) (Nat.le_of_ble_eq_true rfl) dX1_init_1 ?_
  refine nx_aload hX.1 0 dX1_init_4 rfl rfl ?_
  refine nx_bipush (v := (nI 30)) hX.1 dX1_init_5 (by decide +kernel) ?_
  refine nx_newa (atype := .int) (ty := .int) (t := 0) (N := 30) hX.1 rfl AC_int tys_int (fun _ _ z => z) rfl (nI_pos (by decide)) (nI_clamp (by decide)) (Nat.le_of_ble_eq_true rfl) (Nat.le_of_ble_eq_true rfl) (Nat.le_of_ble_eq_true rfl) dX1_init_7 (fun q1 => ?_)
  refine nx_gc (tl := []) (fun t1 e1 => ?_)
  refine nx_cs (c2 := 1) (s2 := 30) (p2 := 9) rfl rfl rfl ?_
  refine nx_putF (v := .ref q1) hX (.array .int) FL_1_9 tyX1 tyX1_ok nmX1 rfl rfl rfl rfl rfl (Nat.le_of_ble_eq_true rfl) dX1_init_9 ?_
  refine nx_ob (fs' := [.int 0, .ref q1, .null, .null]) rfl ?_
  refine nx_aload hX.1 0 dX1_init_12 rfl rfl ?_
  refine nx_bipush (v := (nI 30)) hX.1 dX1_init_13 (by decide +kernel) ?_
  refine nx_newa (atype := .int) (ty := .int) (t := 0) (N := 30) hX.1 rfl AC_int tys_int (fun _ _ z => z) rfl (nI_pos (by decide)) (nI_clamp (by decide)) (Nat.le_of_ble_eq_true rfl) (Nat.le_of_ble_eq_true rfl) (Nat.le_of_ble_eq_true rfl) dX1_init_15 (fun q2 => ?_)
  refine nx_gc (tl := t1) (fun t2 e2 => ?_)
  refine nx_cs (c2 := 2) (s2 := 60) (p2 := 17) rfl rfl rfl ?_
  refine nx_putF (v := .ref q2) hX (.array .int) FL_1_15 tyX1 tyX1_ok nmX1 rfl rfl rfl rfl rfl (Nat.le_of_ble_eq_true rfl) dX1_init_17 ?_
  refine nx_ob (fs' := [.int 0, .ref q1, .ref q2, .null]) rfl ?_
  refine nx_aload hX.1 0 dX1_init_20 rfl rfl ?_
  refine nx_bipush (v := (nI 30)) hX.1 dX1_init_21 (by decide +kernel) ?_
  refine nx_newa (atype := .int) (ty := .int) (t := 0) (N := 30) hX.1 rfl AC_int tys_int (fun _ _ z => z) rfl (nI_pos (by decide)) (nI_clamp (by decide)) (Nat.le_of_ble_eq_true rfl) (Nat.le_of_ble_eq_true rfl) (Nat.le_of_ble_eq_true rfl) dX1_init_23 (fun q3 => ?_)
  refine nx_gc (tl := t2) (fun t3 e3 => ?_)
  refine nx_cs (c2 := 3) (s2 := 90) (p2 := 25) rfl rfl rfl ?_
  refine nx_putF (v := .ref q3) hX (.array .int) FL_1_18 tyX1 tyX1_ok nmX1 rfl rfl rfl rfl rfl (Nat.le_of_ble_eq_true rfl) dX1_init_25 ?_
  refine nx_ob (fs' := [.int 0, .ref q1, .ref q2, .ref q3]) rfl ?_
  exact nx_vret hX (fun k => [0, q1, q2, q3].getD k 0) trivial (by rw [e3, e2, e1]; rfl) dX1_init_28

def wX2 (cA : Nat → ClassId) (a : Nat) (f : Nat → Nat) : va_W := [(a, .inr (2, [.ref (f 1), .int 0, .int 0, .int 0, .int 0, .int 0, .int 0, .int 0, .int 0, .int 0, .int 0])), aw (cA 1) (f 1) 400]

set_option maxRecDepth 100000 in
set_option maxHeartbeats 4000000 in
theorem c_X2_init : CN yX2_init cX2_init 1 1 13 1 400 2 [.null, .int 0, .int 0, .int 0, .int 0, .int 0, .int 0, .int 0, .int 0, .int 0, .int 0] (fun _ _ => True) wX2 := by
  refine CN.of (own := RX2) (by decide +kernel) rfl rfl (by decide) (fun Z a hX => ?_)
  refine nx_aload hX.1 0 dX2_init_0 rfl rfl ?_
  refine nx_objInit hX.1 OI_2 (by decide) (Nat.le_of_ble_eq_true rfl) dX2_init_1 ?_
  refine nx_aload hX.1 0 dX2_init_4 rfl rfl ?_
  refine nx_sipush (v := (nI 400)) hX.1 dX2_init_5 (by decide +kernel) ?_
  refine nx_newa (atype := .byte) (ty := .byte) (t := 1) (N := 400) hX.1 rfl AC_byte tys_byte (fun _ _ z => z) rfl (nI_pos (by decide)) (nI_clamp (by decide)) (Nat.le_of_ble_eq_true rfl) (Nat.le_of_ble_eq_true rfl) (Nat.le_of_ble_eq_true rfl) dX2_init_8 (fun q1 => ?_)
  refine nx_gc (tl := []) (fun t1 e1 => ?_)
  refine nx_cs (c2 := 1) (s2 := 400) (p2 := 10) rfl rfl rfl ?_
  refine nx_putF (v := .ref q1) hX (.array .byte) FL_2_9 tyX2 tyX2_ok nmX2 rfl rfl rfl rfl rfl (Nat.le_of_ble_eq_true rfl) dX2_init_10 ?_
  refine nx_ob (fs' := [.ref q1, .int 0, .int 0, .int 0, .int 0, .int 0, .int 0, .int 0, .int 0, .int 0, .int 0]) rfl ?_
  exact nx_vret hX (fun k => [0, q1].getD k 0) trivial (by rw [e1]; rfl) dX2_init_13

def wX4 (cA : Nat → ClassId) (a : Nat) (f : Nat → Nat) : va_W := [(a, .inr (4, [.int 0, .int 0, .ref (f 1), .ref (f 2)])), aw (cA 0) (f 1) 100, aw (cA 0) (f 2) 100]

set_option maxRecDepth 100000 in
set_option maxHeartbeats 4000000 in
theorem c_X4_init : CN yX4_init cX4_init 1 1 13 2 200 4 [.int 0, .int 0, .null, .null] (fun _ _ => True) wX4 := by
  refine CN.of (own := RX4) (by decide +kernel) rfl rfl (by decide) (fun Z a hX => ?_)
  refine nx_aload hX.1 0 dX4_init_0 rfl rfl ?_
  refine nx_objInit hX.1 OI_4 (by decide) (Nat.le_of_ble_eq_true rfl) dX4_init_1 ?_
  refine nx_aload hX.1 0 dX4_init_4 rfl rfl ?_
  refine nx_bipush (v := (nI 100)) hX.1 dX4_init_5 (by decide +kernel) ?_
  refine nx_newa (atype := .int) (ty := .int) (t := 0) (N := 100) hX.1 rfl AC_int tys_int (fun _ _ z => z) rfl (nI_pos (by decide)) (nI_clamp (by decide)) (Nat.le_of_ble_eq_true rfl) (Nat.le_of_ble_eq_true rfl) (Nat.le_of_ble_eq_true rfl) dX4_init_7 (fun q1 => ?_)
  refine nx_gc (tl := []) (fun t1 e1 => ?_)
  refine nx_cs (c2 := 1) (s2 := 100) (p2 := 9) rfl rfl rfl ?_
  refine nx_putF (v := .ref q1) hX (.array .int) FL_4_9 tyX4 tyX4_ok nmX4 rfl rfl rfl rfl rfl (Nat.le_of_ble_eq_true rfl) dX4_init_9 ?_
  refine nx_ob (fs' := [.int 0, .int 0, .ref q1, .null]) rfl ?_
  refine nx_aload hX.1 0 dX4_init_12 rfl rfl ?_
  refine nx_bipush (v := (nI 100)) hX.1 dX4_init_13 (by decide +kernel) ?_
  refine nx_newa (atype := .int) (ty := .int) (t := 0) (N := 100) hX.1 rfl AC_int tys_int (fun _ _ z => z) rfl (nI_pos (by decide)) (nI_clamp (by decide)) (Nat.le_of_ble_eq_true rfl) (Nat.le_of_ble_eq_true rfl) (Nat.le_of_ble_eq_true rfl) dX4_init_15 (fun q2 => ?_)
  refine nx_gc (tl := t1) (fun t2 e2 => ?_)
  refine nx_cs (c2 := 2) (s2 := 200) (p2 := 17) rfl rfl rfl ?_
  refine nx_putF (v := .ref q2) hX (.array .int) FL_4_15 tyX4 tyX4_ok nmX4 rfl rfl rfl rfl rfl (Nat.le_of_ble_eq_true rfl) dX4_init_17 ?_
  refine nx_ob (fs' := [.int 0, .int 0, .ref q1, .ref q2]) rfl ?_
  exact nx_vret hX (fun k => [0, q1, q2].getD k 0) trivial (by rw [e2, e1]; rfl) dX4_init_20

def wX5 (cA : Nat → ClassId) (a : Nat) (f : Nat → Nat) : va_W := [(a, .inr (5, [.int 0, .ref (f 1), .ref (f 2), .ref (f 3), .ref (f 4), .ref (f 5), .ref (f 6), .ref (f 7)])), aw (cA 0) (f 1) 12, aw (cA 0) (f 2) 12, aw (cA 0) (f 3) 12, aw (cA 0) (f 4) 12, aw (cA 0) (f 5) 12, aw (cA 0) (f 6) 12, aw (cA 0) (f 7) 12]

set_option maxRecDepth 100000 in
set_option maxHeartbeats 4000000 in
theorem c_X5_init : CN yX5_init cX5_init 1 1 13 7 84 5 [.int 0, .null, .null, .null, .null, .null, .null, .null] (fun _ _ => True) wX5 := by
  refine CN.of (own := RX5) (by decide +kernel) rfl rfl (by decide) (fun Z a hX => ?_)
  refine nx_aload hX.1 0 dX5_init_0 rfl rfl ?_
  refine nx_objInit hX.1 OI_5 (by decide) (Nat.le_of_ble_eq_true rfl) dX5_init_1 ?_
  refine nx_aload hX.1 0 dX5_init_4 rfl rfl ?_
  refine nx_bipush (v := (nI 12)) hX.1 dX5_init_5 (by decide +kernel) ?_
  refine nx_newa (atype := .int) (ty := .int) (t := 0) (N := 12) hX.1 rfl AC_int tys_int (fun _ _ z => z) rfl (nI_pos (by decide)) (nI_clamp (by decide)) (Nat.le_of_ble_eq_true rfl) (Nat.le_of_ble_eq_true rfl) (Nat.le_of_ble_eq_true rfl) dX5_init_7 (fun q1 => ?_)
  refine nx_gc (tl := []) (fun t1 e1 => ?_)
  refine nx_cs (c2 := 1) (s2 := 12) (p2 := 9) rfl rfl rfl ?_
  refine nx_putF (v := .ref q1) hX (.array .int) FL_5_9 tyX5 tyX5_ok nmX5 rfl rfl rfl rfl rfl (Nat.le_of_ble_eq_true rfl) dX5_init_9 ?_
  refine nx_ob (fs' := [.int 0, .ref q1, .null, .null, .null, .null, .null, .null]) rfl ?_
  refine nx_aload hX.1 0 dX5_init_12 rfl rfl ?_
  refine nx_bipush (v := (nI 12)) hX.1 dX5_init_13 (by decide +kernel) ?_
  refine nx_newa (atype := .int) (ty := .int) (t := 0) (N := 12) hX.1 rfl AC_int tys_int (fun _ _ z => z) rfl (nI_pos (by decide)) (nI_clamp (by decide)) (Nat.le_of_ble_eq_true rfl) (Nat.le_of_ble_eq_true rfl) (Nat.le_of_ble_eq_true rfl) dX5_init_15 (fun q2 => ?_)
  refine nx_gc (tl := t1) (fun t2 e2 => ?_)
  refine nx_cs (c2 := 2) (s2 := 24) (p2 := 17) rfl rfl rfl ?_
  refine nx_putF (v := .ref q2) hX (.array .int) FL_5_15 tyX5 tyX5_ok nmX5 rfl rfl rfl rfl rfl (Nat.le_of_ble_eq_true rfl) dX5_init_17 ?_
  refine nx_ob (fs' := [.int 0, .ref q1, .ref q2, .null, .null, .null, .null, .null]) rfl ?_
  refine nx_aload hX.1 0 dX5_init_20 rfl rfl ?_
  refine nx_bipush (v := (nI 12)) hX.1 dX5_init_21 (by decide +kernel) ?_
  refine nx_newa (atype := .int) (ty := .int) (t := 0) (N := 12) hX.1 rfl AC_int tys_int (fun _ _ z => z) rfl (nI_pos (by decide)) (nI_clamp (by decide)) (Nat.le_of_ble_eq_true rfl) (Nat.le_of_ble_eq_true rfl) (Nat.le_of_ble_eq_true rfl) dX5_init_23 (fun q3 => ?_)
  refine nx_gc (tl := t2) (fun t3 e3 => ?_)
  refine nx_cs (c2 := 3) (s2 := 36) (p2 := 25) rfl rfl rfl ?_
  refine nx_putF (v := .ref q3) hX (.array .int) FL_5_18 tyX5 tyX5_ok nmX5 rfl rfl rfl rfl rfl (Nat.le_of_ble_eq_true rfl) dX5_init_25 ?_
  refine nx_ob (fs' := [.int 0, .ref q1, .ref q2, .ref q3, .null, .null, .null, .null]) rfl ?_
  refine nx_aload hX.1 0 dX5_init_28 rfl rfl ?_
  refine nx_bipush (v := (nI 12)) hX.1 dX5_init_29 (by decide +kernel) ?_
  refine nx_newa (atype := .int) (ty := .int) (t := 0) (N := 12) hX.1 rfl AC_int tys_int (fun _ _ z => z) rfl (nI_pos (by decide)) (nI_clamp (by decide)) (Nat.le_of_ble_eq_true rfl) (Nat.le_of_ble_eq_true rfl) (Nat.le_of_ble_eq_true rfl) dX5_init_31 (fun q4 => ?_)
  refine nx_gc (tl := t3) (fun t4 e4 => ?_)
  refine nx_cs (c2 := 4) (s2 := 48) (p2 := 33) rfl rfl rfl ?_
  refine nx_putF (v := .ref q4) hX (.array .int) FL_5_21 tyX5 tyX5_ok nmX5 rfl rfl rfl rfl rfl (Nat.le_of_ble_eq_true rfl) dX5_init_33 ?_
  refine nx_ob (fs' := [.int 0, .ref q1, .ref q2, .ref q3, .ref q4, .null, .null, .null]) rfl ?_
  refine nx_aload hX.1 0 dX5_init_36 rfl rfl ?_
  refine nx_bipush (v := (nI 12)) hX.1 dX5_init_37 (by decide +kernel) ?_
  refine nx_newa (atype := .int) (ty := .int) (t := 0) (N := 12) hX.1 rfl AC_int tys_int (fun _ _ z => z) rfl (nI_pos (by decide)) (nI_clamp (by decide)) (Nat.le_of_ble_eq_true rfl) (Nat.le_of_ble_eq_true rfl) (Nat.le_of_ble_eq_true rfl) dX5_init_39 (fun q5 => ?_)
  refine nx_gc (tl := t4) (fun t5 e5 => ?_)
  refine nx_cs (c2 := 5) (s2 := 60) (p2 := 41) rfl rfl rfl ?_
  refine nx_putF (v := .ref q5) hX (.array .int) FL_5_24 tyX5 tyX5_ok nmX5 rfl rfl rfl rfl rfl (Nat.le_of_ble_eq_true rfl) dX5_init_41 ?_
  refine nx_ob (fs' := [.int 0, .ref q1, .ref q2, .ref q3, .ref q4, .ref q5, .null, .null]) rfl ?_
  refine nx_aload hX.1 0 dX5_init_44 rfl rfl ?_
  refine nx_bipush (v := (nI 12)) hX.1 dX5_init_45 (by decide +kernel) ?_
  refine nx_newa (atype := .int) (ty := .int) (t := 0) (N := 12) hX.1 rfl AC_int tys_int (fun _ _ z => z) rfl (nI_pos (by decide)) (nI_clamp (by decide)) (Nat.le_of_ble_eq_true rfl) (Nat.le_of_ble_eq_true rfl) (Nat.le_of_ble_eq_true rfl) dX5_init_47 (fun q6 => ?_)
  refine nx_gc (tl := t5) (fun t6 e6 => ?_)
  refine nx_cs (c2 := 6) (s2 := 72) (p2 := 49) rfl rfl rfl ?_
  refine nx_putF (v := .ref q6) hX (.array .int) FL_5_27 tyX5 tyX5_ok nmX5 rfl rfl rfl rfl rfl (Nat.le_of_ble_eq_true rfl) dX5_init_49 ?_
  refine nx_ob (fs' := [.int 0, .ref q1, .ref q2, .ref q3, .ref q4, .ref q5, .ref q6, .null]) rfl ?_
  refine nx_aload hX.1 0 dX5_init_52 rfl rfl ?_
  refine nx_bipush (v := (nI 12)) hX.1 dX5_init_53 (by decide +kernel) ?_
  refine nx_newa (atype := .int) (ty := .int) (t := 0) (N := 12) hX.1 rfl AC_int tys_int (fun _ _ z => z) rfl (nI_pos (by decide)) (nI_clamp (by decide)) (Nat.le_of_ble_eq_true rfl) (Nat.le_of_ble_eq_true rfl) (Nat.le_of_ble_eq_true rfl) dX5_init_55 (fun q7 => ?_)
  refine nx_gc (tl := t6) (fun t7 e7 => ?_)
  refine nx_cs (c2 := 7) (s2 := 84) (p2 := 57) rfl rfl rfl ?_
  refine nx_putF (v := .ref q7) hX (.array .int) FL_5_30 tyX5 tyX5_ok nmX5 rfl rfl rfl rfl rfl (Nat.le_of_ble_eq_true rfl) dX5_init_57 ?_
  refine nx_ob (fs' := [.int 0, .ref q1, .ref q2, .ref q3, .ref q4, .ref q5, .ref q6, .ref q7]) rfl ?_
  exact nx_vret hX (fun k => [0, q1, q2, q3, q4, q5, q6, q7].getD k 0) trivial (by rw [e7, e6, e5, e4, e3, e2, e1]; rfl) dX5_init_60

def wX3 (cA : Nat → ClassId) (a : Nat) (f : Nat → Nat) : va_W := [(a, .inr (3, [.int 0, .int 0, .int 0, .ref (f 1), .ref (f 2), .ref (f 3), .ref (f 4), .ref (f 5), .ref (f 6), .ref (f 7)])), aw (cA 0) (f 1) 10, aw (cA 0) (f 2) 10, aw (cA 0) (f 3) 9, aw (cA 0) (f 4) 9, aw (cA 0) (f 5) 9, aw (cA 0) (f 6) 9, (f 7, .inr (5, [.int 0, .ref (f 8), .ref (f 9), .ref (f 10), .ref (f 11), .ref (f 12), .ref (f 13), .ref (f 14)])), aw (cA 0) (f 8) 12, aw (cA 0) (f 9) 12, aw (cA 0) (f 10) 12, aw (cA 0) (f 11) 12, aw (cA 0) (f 12) 12, aw (cA 0) (f 13) 12, aw (cA 0) (f 14) 12]

set_option maxRecDepth 100000 in
set_option maxHeartbeats 4000000 in
theorem c_X3_init : CN yX3_init cX3_init 1 2 33 14 148 3 [.int 0, .int 0, .int 0, .null, .null, .null, .null, .null, .null, .null] (fun _ _ => True) wX3 := by
  refine CN.of (own := RX3) (by decide +kernel) rfl rfl (by decide) (fun Z a hX => ?_)
  refine nx_aload hX.1 0 dX3_init_0 rfl rfl ?_
  refine nx_objInit hX.1 OI_3 (by decide) (Nat.le_of_ble_eq_true rfl) dX3_init_1 ?_
  refine nx_aload hX.1 0 dX3_init_4 rfl rfl ?_
  refine nx_bipush (v := (nI 10)) hX.1 dX3_init_5 (by decide +kernel) ?_
  refine nx_newa (atype := .int) (ty := .int) (t := 0) (N := 10) hX.1 rfl AC_int tys_int (fun _ _ z => z) rfl (nI_pos (by decide)) (nI_clamp (by decide)) (Nat.le_of_ble_eq_true rfl) (Nat.le_of_ble_eq_true rfl) (Nat.le_of_ble_eq_true rfl) dX3_init_7 (fun q1 => ?_)
  refine nx_gc (tl := []) (fun t1 e1 => ?_)
  refine nx_cs (c2 := 1) (s2 := 10) (p2 := 9) rfl rfl rfl ?_
  refine nx_putF (v := .ref q1) hX (.array .int) FL_3_9 tyX3 tyX3_ok nmX3 rfl rfl rfl rfl rfl (Nat.le_of_ble_eq_true rfl) dX3_init_9 ?_
  refine nx_ob (fs' := [.int 0, .int 0, .int 0, .ref q1, .null, .null, .null, .null, .null, .null]) rfl ?_
  refine nx_aload hX.1 0 dX3_init_12 rfl rfl ?_
  refine nx_bipush (v := (nI 10)) hX.1 dX3_init_13 (by decide +kernel) ?_
  refine nx_newa (atype := .int) (ty := .int) (t := 0) (N := 10) hX.1 rfl AC_int tys_int (fun _ _ z => z) rfl (nI_pos (by decide)) (nI_clamp (by decide)) (Nat.le_of_ble_eq_true rfl) (Nat.le_of_ble_eq_true rfl) (Nat.le_of_ble_eq_true rfl) dX3_init_15 (fun q2 => ?_)
  refine nx_gc (tl := t1) (fun t2 e2 => ?_)
  refine nx_cs (c2 := 2) (s2 := 20) (p2 := 17) rfl rfl rfl ?_
  refine nx_putF (v := .ref q2) hX (.array .int) FL_3_15 tyX3 tyX3_ok nmX3 rfl rfl rfl rfl rfl (Nat.le_of_ble_eq_true rfl) dX3_init_17 ?_
  refine nx_ob (fs' := [.int 0, .int 0, .int 0, .ref q1, .ref q2, .null, .null, .null, .null, .null]) rfl ?_
  refine nx_aload hX.1 0 dX3_init_20 rfl rfl ?_
  refine nx_bipush (v := (nI 9)) hX.1 dX3_init_21 (by decide +kernel) ?_
  refine nx_newa (atype := .int) (ty := .int) (t := 0) (N := 9) hX.1 rfl AC_int tys_int (fun _ _ z => z) rfl (nI_pos (by decide)) (nI_clamp (by decide)) (Nat.le_of_ble_eq_true rfl) (Nat.le_of_ble_eq_true rfl) (Nat.le_of_ble_eq_true rfl) dX3_init_23 (fun q3 => ?_)
  refine nx_gc (tl := t2) (fun t3 e3 => ?_)
  refine nx_cs (c2 := 3) (s2 := 29) (p2 := 25) rfl rfl rfl ?_
  refine nx_putF (v := .ref q3) hX (.array .int) FL_3_18 tyX3 tyX3_ok nmX3 rfl rfl rfl rfl rfl (Nat.le_of_ble_eq_true rfl) dX3_init_25 ?_
  refine nx_ob (fs' := [.int 0, .int 0, .int 0, .ref q1, .ref q2, .ref q3, .null, .null, .null, .null]) rfl ?_
  refine nx_aload hX.1 0 dX3_init_28 rfl rfl ?_
  refine nx_bipush (v := (nI 9)) hX.1 dX3_init_29 (by decide +kernel) ?_
  refine nx_newa (atype := .int) (ty := .int) (t := 0) (N := 9) hX.1 rfl AC_int tys_int (fun _ _ z => z) rfl (nI_pos (by decide)) (nI_clamp (by decide)) (Nat.le_of_ble_eq_true rfl) (Nat.le_of_ble_eq_true rfl) (Nat.le_of_ble_eq_true rfl) dX3_init_31 (fun q4 => ?_)
  refine nx_gc (tl := t3) (fun t4 e4 => ?_)
  refine nx_cs (c2 := 4) (s2 := 38) (p2 := 33) rfl rfl rfl ?_
  refine nx_putF (v := .ref q4) hX (.array .int) FL_3_21 tyX3 tyX3_ok nmX3 rfl rfl rfl rfl rfl (Nat.le_of_ble_eq_true rfl) dX3_init_33 ?_
  refine nx_ob (fs' := [.int 0, .int 0, .int 0, .ref q1, .ref q2, .ref q3, .ref q4, .null, .null, .null]) rfl ?_
  refine nx_aload hX.1 0 dX3_init_36 rfl rfl ?_
  refine nx_bipush (v := (nI 9)) hX.1 dX3_init_37 (by decide +kernel) ?_
  refine nx_newa (atype := .int) (ty := .int) (t := 0) (N := 9) hX.1 rfl AC_int tys_int (fun _ _ z => z) rfl (nI_pos (by decide)) (nI_clamp (by decide)) (Nat.le_of_ble_eq_true rfl) (Nat.le_of_ble_eq_true rfl) (Nat.le_of_ble_eq_true rfl) dX3_init_39 (fun q5 => ?_)
  refine nx_gc (tl := t4) (fun t5 e5 => ?_)
  refine nx_cs (c2 := 5) (s2 := 47) (p2 := 41) rfl rfl rfl ?_
  refine nx_putF (v := .ref q5) hX (.array .int) FL_3_24 tyX3 tyX3_ok nmX3 rfl rfl rfl rfl rfl (Nat.le_of_ble_eq_true rfl) dX3_init_41 ?_
  refine nx_ob (fs' := [.int 0, .int 0, .int 0, .ref q1, .ref q2, .ref q3, .ref q4, .ref q5, .null, .null]) rfl ?_
  refine nx_aload hX.1 0 dX3_init_44 rfl rfl ?_
  refine nx_bipush (v := (nI 9)) hX.1 dX3_init_45 (by decide +kernel) ?_
  refine nx_newa (atype := .int) (ty := .int) (t := 0) (N := 9) hX.1 rfl AC_int tys_int (fun _ _ z => z) rfl (nI_pos (by decide)) (nI_clamp (by decide)) (Nat.le_of_ble_eq_true rfl) (Nat.le_of_ble_eq_true rfl) (Nat.le_of_ble_eq_true rfl) dX3_init_47 (fun q6 => ?_)
  refine nx_gc (tl := t5) (fun t6 e6 => ?_)
  refine nx_cs (c2 := 6) (s2 := 56) (p2 := 49) rfl rfl rfl ?_
  refine nx_putF (v := .ref q6) hX (.array .int) FL_3_27 tyX3 tyX3_ok nmX3 rfl rfl rfl rfl rfl (Nat.le_of_ble_eq_true rfl) dX3_init_49 ?_
  refine nx_ob (fs' := [.int 0, .int 0, .int 0, .ref q1, .ref q2, .ref q3, .ref q4, .ref q5, .ref q6, .null]) rfl ?_
  refine nx_aload hX.1 0 dX3_init_52 rfl rfl ?_
  refine nx_new (ci := 5) (N := 8) (fs := [.int 0, .null, .null, .null, .null, .null, .null, .null]) hX.1 tyX5 tyX5_ok inX5 CK_3_30 IT_5 II_5 rfl (fun j hj => by rcases (show j = 0 ∨ j = 1 ∨ j = 2 ∨ j = 3 ∨ j = 4 ∨ j = 5 ∨ j = 6 ∨ j = 7 by omega) with rfl | rfl | rfl | rfl | rfl | rfl | rfl | rfl <;> rfl) (Nat.le_of_ble_eq_true rfl) (Nat.le_of_ble_eq_true rfl) dX3_init_53 (fun q7 => ?_)
  refine nx_dup hX.1 dX3_init_56 ?_
  refine nx_init (wr := _) hX.1 c_X5_init hX.1.2.2.2.2.2.2.2.2.2.1 II_5 IC_5 IN_5 rfl MS_X5_init (by decide) (by decide) (Nat.le_of_ble_eq_true rfl) dX3_init_57 (fun fq7 pq7 => ?_)
  refine nx_gc (tl := t6) (fun t7 e7 => ?_)
  refine nx_cs (c2 := 14) (s2 := 148) (p2 := 60) rfl rfl rfl ?_
  refine nx_putF (v := .ref q7) hX (.object "TurnedRiver$Wood") FL_3_33 tyX3 tyX3_ok nmX3 rfl rfl rfl rfl rfl (Nat.le_of_ble_eq_true rfl) dX3_init_60 ?_
  refine nx_ob (fs' := [.int 0, .int 0, .int 0, .ref q1, .ref q2, .ref q3, .ref q4, .ref q5, .ref q6, .ref q7]) rfl ?_
  exact nx_vret hX (fun k => [0, q1, q2, q3, q4, q5, q6, q7, (fq7 1), (fq7 2), (fq7 3), (fq7 4), (fq7 5), (fq7 6), (fq7 7)].getD k 0) trivial (by rw [e7, e6, e5, e4, e3, e2, e1]; rfl) dX3_init_63

def wX7 (cA : Nat → ClassId) (a : Nat) (f : Nat → Nat) : va_W := [(a, .inr (7, [.ref (f 1), .ref (f 2), .ref (f 3), .ref (f 4), .ref (f 5), .ref (f 6), .ref (f 7), .ref (f 8), .ref (f 9), .int 0, .int 0, .ref (f 10), .ref (f 11), .ref (f 12), .int 0, .int 0, .ref (f 13), .int 0, .int 0, .int 0, .int 0, .int 0, .int (-1), .int 0, .int 0, .int 0, .int 0, .ref (f 14), .ref (f 15), .ref (f 16), .ref (f 17), .ref (f 18), .int 0])), aw (cA 0) (f 1) 800, aw (cA 2) (f 2) 2, aw (cA 0) (f 3) 20, aw (cA 0) (f 4) 20, aw (cA 0) (f 5) 20, aw (cA 0) (f 6) 48, aw (cA 0) (f 7) 48, aw (cA 0) (f 8) 20, aw (cA 0) (f 9) 20, aw (cA 0) (f 10) 60, aw (cA 0) (f 11) 60, aw (cA 0) (f 12) 60, aw (cA 0) (f 13) 400, aw (cA 0) (f 14) 9, aw (cA 0) (f 15) 1800, aw (cA 0) (f 16) 1800, aw (cA 0) (f 17) 1010, aw (cA 0) (f 18) 60]

set_option maxRecDepth 100000 in
set_option maxHeartbeats 4000000 in
theorem c_X7_init : CN yX7_init cX7_init 1 1 13 18 6257 7 [.null, .null, .null, .null, .null, .null, .null, .null, .null, .int 0, .int 0, .null, .null, .null, .int 0, .int 0, .null, .int 0, .int 0, .int 0, .int 0, .int 0, .int 0, .int 0, .int 0, .int 0, .int 0, .null, .null, .null, .null, .null, .int 0] (fun _ _ => True) wX7 := by
  refine CN.of (own := RX7) (by decide +kernel) rfl rfl (by decide) (fun Z a hX => ?_)
  refine nx_aload hX.1 0 dX7_init_0 rfl rfl ?_
  refine nx_objInit hX.1 OI_7 (by decide) (Nat.le_of_ble_eq_true rfl) dX7_init_1 ?_
  refine nx_aload hX.1 0 dX7_init_4 rfl rfl ?_
  refine nx_sipush (v := (nI 800)) hX.1 dX7_init_5 (by decide +kernel) ?_
  refine nx_newa (atype := .int) (ty := .int) (t := 0) (N := 800) hX.1 rfl AC_int tys_int (fun _ _ z => z) rfl (nI_pos (by decide)) (nI_clamp (by decide)) (Nat.le_of_ble_eq_true rfl) (Nat.le_of_ble_eq_true rfl) (Nat.le_of_ble_eq_true rfl) dX7_init_8 (fun q1 => ?_)
  refine nx_gc (tl := []) (fun t1 e1 => ?_)
  refine nx_cs (c2 := 1) (s2 := 800) (p2 := 10) rfl rfl rfl ?_
  refine nx_putF (v := .ref q1) hX (.array .int) FL_7_7 tyX7 tyX7_ok nmX7 rfl rfl rfl rfl rfl (Nat.le_of_ble_eq_true rfl) dX7_init_10 ?_
  refine nx_ob (fs' := [.ref q1, .null, .null, .null, .null, .null, .null, .null, .null, .int 0, .int 0, .null, .null, .null, .int 0, .int 0, .null, .int 0, .int 0, .int 0, .int 0, .int 0, .int 0, .int 0, .int 0, .int 0, .int 0, .null, .null, .null, .null, .null, .int 0]) rfl ?_
  refine nx_aload hX.1 0 dX7_init_13 rfl rfl ?_
  refine nx_iconst (v := (nI 2)) hX.1 dX7_init_14 (by decide +kernel) ?_
  refine nx_newa (atype := .boolean) (ty := .boolean) (t := 2) (N := 2) hX.1 rfl AC_boolean tys_bool (fun _ _ z => z) rfl (nI_pos (by decide)) (nI_clamp (by decide)) (Nat.le_of_ble_eq_true rfl) (Nat.le_of_ble_eq_true rfl) (Nat.le_of_ble_eq_true rfl) dX7_init_15 (fun q2 => ?_)
  refine nx_gc (tl := t1) (fun t2 e2 => ?_)
  refine nx_cs (c2 := 2) (s2 := 802) (p2 := 17) rfl rfl rfl ?_
  refine nx_putF (v := .ref q2) hX (.array .boolean) FL_7_13 tyX7 tyX7_ok nmX7 rfl rfl rfl rfl rfl (Nat.le_of_ble_eq_true rfl) dX7_init_17 ?_
  refine nx_ob (fs' := [.ref q1, .ref q2, .null, .null, .null, .null, .null, .null, .null, .int 0, .int 0, .null, .null, .null, .int 0, .int 0, .null, .int 0, .int 0, .int 0, .int 0, .int 0, .int 0, .int 0, .int 0, .int 0, .int 0, .null, .null, .null, .null, .null, .int 0]) rfl ?_
  refine nx_aload hX.1 0 dX7_init_20 rfl rfl ?_
  refine nx_bipush (v := (nI 20)) hX.1 dX7_init_21 (by decide +kernel) ?_
  refine nx_newa (atype := .int) (ty := .int) (t := 0) (N := 20) hX.1 rfl AC_int tys_int (fun _ _ z => z) rfl (nI_pos (by decide)) (nI_clamp (by decide)) (Nat.le_of_ble_eq_true rfl) (Nat.le_of_ble_eq_true rfl) (Nat.le_of_ble_eq_true rfl) dX7_init_23 (fun q3 => ?_)
  refine nx_gc (tl := t2) (fun t3 e3 => ?_)
  refine nx_cs (c2 := 3) (s2 := 822) (p2 := 25) rfl rfl rfl ?_
  refine nx_putF (v := .ref q3) hX (.array .int) FL_7_17 tyX7 tyX7_ok nmX7 rfl rfl rfl rfl rfl (Nat.le_of_ble_eq_true rfl) dX7_init_25 ?_
  refine nx_ob (fs' := [.ref q1, .ref q2, .ref q3, .null, .null, .null, .null, .null, .null, .int 0, .int 0, .null, .null, .null, .int 0, .int 0, .null, .int 0, .int 0, .int 0, .int 0, .int 0, .int 0, .int 0, .int 0, .int 0, .int 0, .null, .null, .null, .null, .null, .int 0]) rfl ?_
  refine nx_aload hX.1 0 dX7_init_28 rfl rfl ?_
  refine nx_bipush (v := (nI 20)) hX.1 dX7_init_29 (by decide +kernel) ?_
  refine nx_newa (atype := .int) (ty := .int) (t := 0) (N := 20) hX.1 rfl AC_int tys_int (fun _ _ z => z) rfl (nI_pos (by decide)) (nI_clamp (by decide)) (Nat.le_of_ble_eq_true rfl) (Nat.le_of_ble_eq_true rfl) (Nat.le_of_ble_eq_true rfl) dX7_init_31 (fun q4 => ?_)
  refine nx_gc (tl := t3) (fun t4 e4 => ?_)
  refine nx_cs (c2 := 4) (s2 := 842) (p2 := 33) rfl rfl rfl ?_
  refine nx_putF (v := .ref q4) hX (.array .int) FL_7_20 tyX7 tyX7_ok nmX7 rfl rfl rfl rfl rfl (Nat.le_of_ble_eq_true rfl) dX7_init_33 ?_
  refine nx_ob (fs' := [.ref q1, .ref q2, .ref q3, .ref q4, .null, .null, .null, .null, .null, .int 0, .int 0, .null, .null, .null, .int 0, .int 0, .null, .int 0, .int 0, .int 0, .int 0, .int 0, .int 0, .int 0, .int 0, .int 0, .int 0, .null, .null, .null, .null, .null, .int 0]) rfl ?_
  refine nx_aload hX.1 0 dX7_init_36 rfl rfl ?_
  refine nx_bipush (v := (nI 20)) hX.1 dX7_init_37 (by decide +kernel) ?_
  refine nx_newa (atype := .int) (ty := .int) (t := 0) (N := 20) hX.1 rfl AC_int tys_int (fun _ _ z => z) rfl (nI_pos (by decide)) (nI_clamp (by decide)) (Nat.le_of_ble_eq_true rfl) (Nat.le_of_ble_eq_true rfl) (Nat.le_of_ble_eq_true rfl) dX7_init_39 (fun q5 => ?_)
  refine nx_gc (tl := t4) (fun t5 e5 => ?_)
  refine nx_cs (c2 := 5) (s2 := 862) (p2 := 41) rfl rfl rfl ?_
  refine nx_putF (v := .ref q5) hX (.array .int) FL_7_23 tyX7 tyX7_ok nmX7 rfl rfl rfl rfl rfl (Nat.le_of_ble_eq_true rfl) dX7_init_41 ?_
  refine nx_ob (fs' := [.ref q1, .ref q2, .ref q3, .ref q4, .ref q5, .null, .null, .null, .null, .int 0, .int 0, .null, .null, .null, .int 0, .int 0, .null, .int 0, .int 0, .int 0, .int 0, .int 0, .int 0, .int 0, .int 0, .int 0, .int 0, .null, .null, .null, .null, .null, .int 0]) rfl ?_
  refine nx_aload hX.1 0 dX7_init_44 rfl rfl ?_
  refine nx_bipush (v := (nI 48)) hX.1 dX7_init_45 (by decide +kernel) ?_
  refine nx_newa (atype := .int) (ty := .int) (t := 0) (N := 48) hX.1 rfl AC_int tys_int (fun _ _ z => z) rfl (nI_pos (by decide)) (nI_clamp (by decide)) (Nat.le_of_ble_eq_true rfl) (Nat.le_of_ble_eq_true rfl) (Nat.le_of_ble_eq_true rfl) dX7_init_47 (fun q6 => ?_)
  refine nx_gc (tl := t5) (fun t6 e6 => ?_)
  refine nx_cs (c2 := 6) (s2 := 910) (p2 := 49) rfl rfl rfl ?_
  refine nx_putF (v := .ref q6) hX (.array .int) FL_7_26 tyX7 tyX7_ok nmX7 rfl rfl rfl rfl rfl (Nat.le_of_ble_eq_true rfl) dX7_init_49 ?_
  refine nx_ob (fs' := [.ref q1, .ref q2, .ref q3, .ref q4, .ref q5, .ref q6, .null, .null, .null, .int 0, .int 0, .null, .null, .null, .int 0, .int 0, .null, .int 0, .int 0, .int 0, .int 0, .int 0, .int 0, .int 0, .int 0, .int 0, .int 0, .null, .null, .null, .null, .null, .int 0]) rfl ?_
  refine nx_aload hX.1 0 dX7_init_52 rfl rfl ?_
  refine nx_bipush (v := (nI 48)) hX.1 dX7_init_53 (by decide +kernel) ?_
  refine nx_newa (atype := .int) (ty := .int) (t := 0) (N := 48) hX.1 rfl AC_int tys_int (fun _ _ z => z) rfl (nI_pos (by decide)) (nI_clamp (by decide)) (Nat.le_of_ble_eq_true rfl) (Nat.le_of_ble_eq_true rfl) (Nat.le_of_ble_eq_true rfl) dX7_init_55 (fun q7 => ?_)
  refine nx_gc (tl := t6) (fun t7 e7 => ?_)
  refine nx_cs (c2 := 7) (s2 := 958) (p2 := 57) rfl rfl rfl ?_
  refine nx_putF (v := .ref q7) hX (.array .int) FL_7_29 tyX7 tyX7_ok nmX7 rfl rfl rfl rfl rfl (Nat.le_of_ble_eq_true rfl) dX7_init_57 ?_
  refine nx_ob (fs' := [.ref q1, .ref q2, .ref q3, .ref q4, .ref q5, .ref q6, .ref q7, .null, .null, .int 0, .int 0, .null, .null, .null, .int 0, .int 0, .null, .int 0, .int 0, .int 0, .int 0, .int 0, .int 0, .int 0, .int 0, .int 0, .int 0, .null, .null, .null, .null, .null, .int 0]) rfl ?_
  refine nx_aload hX.1 0 dX7_init_60 rfl rfl ?_
  refine nx_bipush (v := (nI 20)) hX.1 dX7_init_61 (by decide +kernel) ?_
  refine nx_newa (atype := .int) (ty := .int) (t := 0) (N := 20) hX.1 rfl AC_int tys_int (fun _ _ z => z) rfl (nI_pos (by decide)) (nI_clamp (by decide)) (Nat.le_of_ble_eq_true rfl) (Nat.le_of_ble_eq_true rfl) (Nat.le_of_ble_eq_true rfl) dX7_init_63 (fun q8 => ?_)
  refine nx_gc (tl := t7) (fun t8 e8 => ?_)
  refine nx_cs (c2 := 8) (s2 := 978) (p2 := 65) rfl rfl rfl ?_
  refine nx_putF (v := .ref q8) hX (.array .int) FL_7_32 tyX7 tyX7_ok nmX7 rfl rfl rfl rfl rfl (Nat.le_of_ble_eq_true rfl) dX7_init_65 ?_
  refine nx_ob (fs' := [.ref q1, .ref q2, .ref q3, .ref q4, .ref q5, .ref q6, .ref q7, .ref q8, .null, .int 0, .int 0, .null, .null, .null, .int 0, .int 0, .null, .int 0, .int 0, .int 0, .int 0, .int 0, .int 0, .int 0, .int 0, .int 0, .int 0, .null, .null, .null, .null, .null, .int 0]) rfl ?_
  refine nx_aload hX.1 0 dX7_init_68 rfl rfl ?_
  refine nx_bipush (v := (nI 20)) hX.1 dX7_init_69 (by decide +kernel) ?_
  refine nx_newa (atype := .int) (ty := .int) (t := 0) (N := 20) hX.1 rfl AC_int tys_int (fun _ _ z => z) rfl (nI_pos (by decide)) (nI_clamp (by decide)) (Nat.le_of_ble_eq_true rfl) (Nat.le_of_ble_eq_true rfl) (Nat.le_of_ble_eq_true rfl) dX7_init_71 (fun q9 => ?_)
  refine nx_gc (tl := t8) (fun t9 e9 => ?_)
  refine nx_cs (c2 := 9) (s2 := 998) (p2 := 73) rfl rfl rfl ?_
  refine nx_putF (v := .ref q9) hX (.array .int) FL_7_35 tyX7 tyX7_ok nmX7 rfl rfl rfl rfl rfl (Nat.le_of_ble_eq_true rfl) dX7_init_73 ?_
  refine nx_ob (fs' := [.ref q1, .ref q2, .ref q3, .ref q4, .ref q5, .ref q6, .ref q7, .ref q8, .ref q9, .int 0, .int 0, .null, .null, .null, .int 0, .int 0, .null, .int 0, .int 0, .int 0, .int 0, .int 0, .int 0, .int 0, .int 0, .int 0, .int 0, .null, .null, .null, .null, .null, .int 0]) rfl ?_
  refine nx_aload hX.1 0 dX7_init_76 rfl rfl ?_
  refine nx_bipush (v := (nI 60)) hX.1 dX7_init_77 (by decide +kernel) ?_
  refine nx_newa (atype := .int) (ty := .int) (t := 0) (N := 60) hX.1 rfl AC_int tys_int (fun _ _ z => z) rfl (nI_pos (by decide)) (nI_clamp (by decide)) (Nat.le_of_ble_eq_true rfl) (Nat.le_of_ble_eq_true rfl) (Nat.le_of_ble_eq_true rfl) dX7_init_79 (fun q10 => ?_)
  refine nx_gc (tl := t9) (fun t10 e10 => ?_)
  refine nx_cs (c2 := 10) (s2 := 1058) (p2 := 81) rfl rfl rfl ?_
  refine nx_putF (v := .ref q10) hX (.array .int) FL_7_38 tyX7 tyX7_ok nmX7 rfl rfl rfl rfl rfl (Nat.le_of_ble_eq_true rfl) dX7_init_81 ?_
  refine nx_ob (fs' := [.ref q1, .ref q2, .ref q3, .ref q4, .ref q5, .ref q6, .ref q7, .ref q8, .ref q9, .int 0, .int 0, .ref q10, .null, .null, .int 0, .int 0, .null, .int 0, .int 0, .int 0, .int 0, .int 0, .int 0, .int 0, .int 0, .int 0, .int 0, .null, .null, .null, .null, .null, .int 0]) rfl ?_
  refine nx_aload hX.1 0 dX7_init_84 rfl rfl ?_
  refine nx_bipush (v := (nI 60)) hX.1 dX7_init_85 (by decide +kernel) ?_
  refine nx_newa (atype := .int) (ty := .int) (t := 0) (N := 60) hX.1 rfl AC_int tys_int (fun _ _ z => z) rfl (nI_pos (by decide)) (nI_clamp (by decide)) (Nat.le_of_ble_eq_true rfl) (Nat.le_of_ble_eq_true rfl) (Nat.le_of_ble_eq_true rfl) dX7_init_87 (fun q11 => ?_)
  refine nx_gc (tl := t10) (fun t11 e11 => ?_)
  refine nx_cs (c2 := 11) (s2 := 1118) (p2 := 89) rfl rfl rfl ?_
  refine nx_putF (v := .ref q11) hX (.array .int) FL_7_41 tyX7 tyX7_ok nmX7 rfl rfl rfl rfl rfl (Nat.le_of_ble_eq_true rfl) dX7_init_89 ?_
  refine nx_ob (fs' := [.ref q1, .ref q2, .ref q3, .ref q4, .ref q5, .ref q6, .ref q7, .ref q8, .ref q9, .int 0, .int 0, .ref q10, .ref q11, .null, .int 0, .int 0, .null, .int 0, .int 0, .int 0, .int 0, .int 0, .int 0, .int 0, .int 0, .int 0, .int 0, .null, .null, .null, .null, .null, .int 0]) rfl ?_
  refine nx_aload hX.1 0 dX7_init_92 rfl rfl ?_
  refine nx_bipush (v := (nI 60)) hX.1 dX7_init_93 (by decide +kernel) ?_
  refine nx_newa (atype := .int) (ty := .int) (t := 0) (N := 60) hX.1 rfl AC_int tys_int (fun _ _ z => z) rfl (nI_pos (by decide)) (nI_clamp (by decide)) (Nat.le_of_ble_eq_true rfl) (Nat.le_of_ble_eq_true rfl) (Nat.le_of_ble_eq_true rfl) dX7_init_95 (fun q12 => ?_)
  refine nx_gc (tl := t11) (fun t12 e12 => ?_)
  refine nx_cs (c2 := 12) (s2 := 1178) (p2 := 97) rfl rfl rfl ?_
  refine nx_putF (v := .ref q12) hX (.array .int) FL_7_44 tyX7 tyX7_ok nmX7 rfl rfl rfl rfl rfl (Nat.le_of_ble_eq_true rfl) dX7_init_97 ?_
  refine nx_ob (fs' := [.ref q1, .ref q2, .ref q3, .ref q4, .ref q5, .ref q6, .ref q7, .ref q8, .ref q9, .int 0, .int 0, .ref q10, .ref q11, .ref q12, .int 0, .int 0, .null, .int 0, .int 0, .int 0, .int 0, .int 0, .int 0, .int 0, .int 0, .int 0, .int 0, .null, .null, .null, .null, .null, .int 0]) rfl ?_
  refine nx_aload hX.1 0 dX7_init_100 rfl rfl ?_
  refine nx_sipush (v := (nI 400)) hX.1 dX7_init_101 (by decide +kernel) ?_
  refine nx_newa (atype := .int) (ty := .int) (t := 0) (N := 400) hX.1 rfl AC_int tys_int (fun _ _ z => z) rfl (nI_pos (by decide)) (nI_clamp (by decide)) (Nat.le_of_ble_eq_true rfl) (Nat.le_of_ble_eq_true rfl) (Nat.le_of_ble_eq_true rfl) dX7_init_104 (fun q13 => ?_)
  refine nx_gc (tl := t12) (fun t13 e13 => ?_)
  refine nx_cs (c2 := 13) (s2 := 1578) (p2 := 106) rfl rfl rfl ?_
  refine nx_putF (v := .ref q13) hX (.array .int) FL_7_47 tyX7 tyX7_ok nmX7 rfl rfl rfl rfl rfl (Nat.le_of_ble_eq_true rfl) dX7_init_106 ?_
  refine nx_ob (fs' := [.ref q1, .ref q2, .ref q3, .ref q4, .ref q5, .ref q6, .ref q7, .ref q8, .ref q9, .int 0, .int 0, .ref q10, .ref q11, .ref q12, .int 0, .int 0, .ref q13, .int 0, .int 0, .int 0, .int 0, .int 0, .int 0, .int 0, .int 0, .int 0, .int 0, .null, .null, .null, .null, .null, .int 0]) rfl ?_
  refine nx_aload hX.1 0 dX7_init_109 rfl rfl ?_
  refine nx_iconst (v := (-1)) hX.1 dX7_init_110 (by decide +kernel) ?_
  refine nx_put (v := .int (-1)) hX .int FL_7_50 tyX7 tyX7_ok nmX7 rfl rfl rfl rfl (Nat.le_of_ble_eq_true rfl) dX7_init_111 ?_
  refine nx_ob (fs' := [.ref q1, .ref q2, .ref q3, .ref q4, .ref q5, .ref q6, .ref q7, .ref q8, .ref q9, .int 0, .int 0, .ref q10, .ref q11, .ref q12, .int 0, .int 0, .ref q13, .int 0, .int 0, .int 0, .int 0, .int 0, .int (-1), .int 0, .int 0, .int 0, .int 0, .null, .null, .null, .null, .null, .int 0]) rfl ?_
  refine nx_aload hX.1 0 dX7_init_114 rfl rfl ?_
  refine nx_bipush (v := (nI 9)) hX.1 dX7_init_115 (by decide +kernel) ?_
  refine nx_newa (atype := .int) (ty := .int) (t := 0) (N := 9) hX.1 rfl AC_int tys_int (fun _ _ z => z) rfl (nI_pos (by decide)) (nI_clamp (by decide)) (Nat.le_of_ble_eq_true rfl) (Nat.le_of_ble_eq_true rfl) (Nat.le_of_ble_eq_true rfl) dX7_init_117 (fun q14 => ?_)
  refine nx_gc (tl := t13) (fun t14 e14 => ?_)
  refine nx_cs (c2 := 14) (s2 := 1587) (p2 := 119) rfl rfl rfl ?_
  refine nx_putF (v := .ref q14) hX (.array .int) FL_7_54 tyX7 tyX7_ok nmX7 rfl rfl rfl rfl rfl (Nat.le_of_ble_eq_true rfl) dX7_init_119 ?_
  refine nx_ob (fs' := [.ref q1, .ref q2, .ref q3, .ref q4, .ref q5, .ref q6, .ref q7, .ref q8, .ref q9, .int 0, .int 0, .ref q10, .ref q11, .ref q12, .int 0, .int 0, .ref q13, .int 0, .int 0, .int 0, .int 0, .int 0, .int (-1), .int 0, .int 0, .int 0, .int 0, .ref q14, .null, .null, .null, .null, .int 0]) rfl ?_
  refine nx_aload hX.1 0 dX7_init_122 rfl rfl ?_
  refine nx_sipush (v := (nI 1800)) hX.1 dX7_init_123 (by decide +kernel) ?_
  refine nx_newa (atype := .int) (ty := .int) (t := 0) (N := 1800) hX.1 rfl AC_int tys_int (fun _ _ z => z) rfl (nI_pos (by decide)) (nI_clamp (by decide)) (Nat.le_of_ble_eq_true rfl) (Nat.le_of_ble_eq_true rfl) (Nat.le_of_ble_eq_true rfl) dX7_init_126 (fun q15 => ?_)
  refine nx_gc (tl := t14) (fun t15 e15 => ?_)
  refine nx_cs (c2 := 15) (s2 := 3387) (p2 := 128) rfl rfl rfl ?_
  refine nx_putF (v := .ref q15) hX (.array .int) FL_7_57 tyX7 tyX7_ok nmX7 rfl rfl rfl rfl rfl (Nat.le_of_ble_eq_true rfl) dX7_init_128 ?_
  refine nx_ob (fs' := [.ref q1, .ref q2, .ref q3, .ref q4, .ref q5, .ref q6, .ref q7, .ref q8, .ref q9, .int 0, .int 0, .ref q10, .ref q11, .ref q12, .int 0, .int 0, .ref q13, .int 0, .int 0, .int 0, .int 0, .int 0, .int (-1), .int 0, .int 0, .int 0, .int 0, .ref q14, .ref q15, .null, .null, .null, .int 0]) rfl ?_
  refine nx_aload hX.1 0 dX7_init_131 rfl rfl ?_
  refine nx_sipush (v := (nI 1800)) hX.1 dX7_init_132 (by decide +kernel) ?_
  refine nx_newa (atype := .int) (ty := .int) (t := 0) (N := 1800) hX.1 rfl AC_int tys_int (fun _ _ z => z) rfl (nI_pos (by decide)) (nI_clamp (by decide)) (Nat.le_of_ble_eq_true rfl) (Nat.le_of_ble_eq_true rfl) (Nat.le_of_ble_eq_true rfl) dX7_init_135 (fun q16 => ?_)
  refine nx_gc (tl := t15) (fun t16 e16 => ?_)
  refine nx_cs (c2 := 16) (s2 := 5187) (p2 := 137) rfl rfl rfl ?_
  refine nx_putF (v := .ref q16) hX (.array .int) FL_7_60 tyX7 tyX7_ok nmX7 rfl rfl rfl rfl rfl (Nat.le_of_ble_eq_true rfl) dX7_init_137 ?_
  refine nx_ob (fs' := [.ref q1, .ref q2, .ref q3, .ref q4, .ref q5, .ref q6, .ref q7, .ref q8, .ref q9, .int 0, .int 0, .ref q10, .ref q11, .ref q12, .int 0, .int 0, .ref q13, .int 0, .int 0, .int 0, .int 0, .int 0, .int (-1), .int 0, .int 0, .int 0, .int 0, .ref q14, .ref q15, .ref q16, .null, .null, .int 0]) rfl ?_
  refine nx_aload hX.1 0 dX7_init_140 rfl rfl ?_
  refine nx_sipush (v := (nI 1010)) hX.1 dX7_init_141 (by decide +kernel) ?_
  refine nx_newa (atype := .int) (ty := .int) (t := 0) (N := 1010) hX.1 rfl AC_int tys_int (fun _ _ z => z) rfl (nI_pos (by decide)) (nI_clamp (by decide)) (Nat.le_of_ble_eq_true rfl) (Nat.le_of_ble_eq_true rfl) (Nat.le_of_ble_eq_true rfl) dX7_init_144 (fun q17 => ?_)
  refine nx_gc (tl := t16) (fun t17 e17 => ?_)
  refine nx_cs (c2 := 17) (s2 := 6197) (p2 := 146) rfl rfl rfl ?_
  refine nx_putF (v := .ref q17) hX (.array .int) FL_7_63 tyX7 tyX7_ok nmX7 rfl rfl rfl rfl rfl (Nat.le_of_ble_eq_true rfl) dX7_init_146 ?_
  refine nx_ob (fs' := [.ref q1, .ref q2, .ref q3, .ref q4, .ref q5, .ref q6, .ref q7, .ref q8, .ref q9, .int 0, .int 0, .ref q10, .ref q11, .ref q12, .int 0, .int 0, .ref q13, .int 0, .int 0, .int 0, .int 0, .int 0, .int (-1), .int 0, .int 0, .int 0, .int 0, .ref q14, .ref q15, .ref q16, .ref q17, .null, .int 0]) rfl ?_
  refine nx_aload hX.1 0 dX7_init_149 rfl rfl ?_
  refine nx_bipush (v := (nI 60)) hX.1 dX7_init_150 (by decide +kernel) ?_
  refine nx_newa (atype := .int) (ty := .int) (t := 0) (N := 60) hX.1 rfl AC_int tys_int (fun _ _ z => z) rfl (nI_pos (by decide)) (nI_clamp (by decide)) (Nat.le_of_ble_eq_true rfl) (Nat.le_of_ble_eq_true rfl) (Nat.le_of_ble_eq_true rfl) dX7_init_152 (fun q18 => ?_)
  refine nx_gc (tl := t17) (fun t18 e18 => ?_)
  refine nx_cs (c2 := 18) (s2 := 6257) (p2 := 154) rfl rfl rfl ?_
  refine nx_putF (v := .ref q18) hX (.array .int) FL_7_66 tyX7 tyX7_ok nmX7 rfl rfl rfl rfl rfl (Nat.le_of_ble_eq_true rfl) dX7_init_154 ?_
  refine nx_ob (fs' := [.ref q1, .ref q2, .ref q3, .ref q4, .ref q5, .ref q6, .ref q7, .ref q8, .ref q9, .int 0, .int 0, .ref q10, .ref q11, .ref q12, .int 0, .int 0, .ref q13, .int 0, .int 0, .int 0, .int 0, .int 0, .int (-1), .int 0, .int 0, .int 0, .int 0, .ref q14, .ref q15, .ref q16, .ref q17, .ref q18, .int 0]) rfl ?_
  exact nx_vret hX (fun k => [0, q1, q2, q3, q4, q5, q6, q7, q8, q9, q10, q11, q12, q13, q14, q15, q16, q17, q18].getD k 0) trivial (by rw [e18, e17, e16, e15, e14, e13, e12, e11, e10, e9, e8, e7, e6, e5, e4, e3, e2, e1]; rfl) dX7_init_157
