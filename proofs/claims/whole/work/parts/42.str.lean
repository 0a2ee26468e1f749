abbrev cJ0_length_8abf5 : ByteArray := prog_11_method_54_code
def yJ0_length_8abf5 : MethodName := ⟨"java/lang/String", "length", "()I"⟩

theorem dJ0_length_8abf5_0 : decode cJ0_length_8abf5 0 = .ok (.aload_n 0, 1) := by decide +kernel

theorem dJ0_length_8abf5_1 : decode cJ0_length_8abf5 1 = .ok (.getfield 9, 3) := by decide +kernel

theorem dJ0_length_8abf5_4 : decode cJ0_length_8abf5 4 = .ok (.arraylength, 1) := by decide +kernel

theorem dJ0_length_8abf5_5 : decode cJ0_length_8abf5 5 = .ok (.aload_n 0, 1) := by decide +kernel

theorem dJ0_length_8abf5_6 : decode cJ0_length_8abf5 6 = .ok (.invokevirtual 335, 3) := by decide +kernel

theorem dJ0_length_8abf5_9 : decode cJ0_length_8abf5 9 = .ok (.ishr, 1) := by decide +kernel

theorem dJ0_length_8abf5_10 : decode cJ0_length_8abf5 10 = .ok (.ireturn, 1) := by decide +kernel

theorem MS_J0_length_8abf5 : MS yJ0_length_8abf5 0 := by refine ⟨?_, ?_, ?_⟩ <;> decide +kernel

abbrev cJ0_charAt_5068e : ByteArray := prog_11_method_56_code
def yJ0_charAt_5068e : MethodName := ⟨"java/lang/String", "charAt", "(I)C"⟩

theorem dJ0_charAt_5068e_0 : decode cJ0_charAt_5068e 0 = .ok (.aload_n 0, 1) := by decide +kernel

theorem dJ0_charAt_5068e_1 : decode cJ0_charAt_5068e 1 = .ok (.invokevirtual 492, 3) := by decide +kernel

theorem dJ0_charAt_5068e_4 : decode cJ0_charAt_5068e 4 = .ok (.ifCond .eq 12, 3) := by decide +kernel

theorem dJ0_charAt_5068e_7 : decode cJ0_charAt_5068e 7 = .ok (.aload_n 0, 1) := by decide +kernel

theorem dJ0_charAt_5068e_8 : decode cJ0_charAt_5068e 8 = .ok (.getfield 9, 3) := by decide +kernel

theorem dJ0_charAt_5068e_11 : decode cJ0_charAt_5068e 11 = .ok (.iload_n 1, 1) := by decide +kernel

theorem dJ0_charAt_5068e_12 : decode cJ0_charAt_5068e 12 = .ok (.invokestatic 495, 3) := by decide +kernel

theorem dJ0_charAt_5068e_15 : decode cJ0_charAt_5068e 15 = .ok (.ireturn, 1) := by decide +kernel

theorem dJ0_charAt_5068e_16 : decode cJ0_charAt_5068e 16 = .ok (.aload_n 0, 1) := by decide +kernel

theorem dJ0_charAt_5068e_17 : decode cJ0_charAt_5068e 17 = .ok (.getfield 9, 3) := by decide +kernel

theorem dJ0_charAt_5068e_20 : decode cJ0_charAt_5068e 20 = .ok (.iload_n 1, 1) := by decide +kernel

theorem dJ0_charAt_5068e_21 : decode cJ0_charAt_5068e 21 = .ok (.invokestatic 498, 3) := by decide +kernel

theorem dJ0_charAt_5068e_24 : decode cJ0_charAt_5068e 24 = .ok (.ireturn, 1) := by decide +kernel

theorem MS_J0_charAt_5068e : MS yJ0_charAt_5068e 1 := by refine ⟨?_, ?_, ?_⟩ <;> decide +kernel

abbrev cJ0_coder_7d493 : ByteArray := prog_11_method_152_code
def yJ0_coder_7d493 : MethodName := ⟨"java/lang/String", "coder", "()B"⟩

theorem dJ0_coder_7d493_0 : decode cJ0_coder_7d493 0 = .ok (.getstatic 38, 3) := by decide +kernel

theorem dJ0_coder_7d493_3 : decode cJ0_coder_7d493 3 = .ok (.ifCond .eq 10, 3) := by decide +kernel

theorem dJ0_coder_7d493_6 : decode cJ0_coder_7d493 6 = .ok (.aload_n 0, 1) := by decide +kernel

theorem dJ0_coder_7d493_7 : decode cJ0_coder_7d493 7 = .ok (.getfield 15, 3) := by decide +kernel

theorem dJ0_coder_7d493_10 : decode cJ0_coder_7d493 10 = .ok (.goto 4, 3) := by decide +kernel

theorem dJ0_coder_7d493_13 : decode cJ0_coder_7d493 13 = .ok (.iconst 1, 1) := by decide +kernel

theorem dJ0_coder_7d493_14 : decode cJ0_coder_7d493 14 = .ok (.ireturn, 1) := by decide +kernel

theorem MS_J0_coder_7d493 : MS yJ0_coder_7d493 0 := by refine ⟨?_, ?_, ?_⟩ <;> decide +kernel

abbrev cJ0_isLatin1_aae02 : ByteArray := prog_11_method_154_code
def yJ0_isLatin1_aae02 : MethodName := ⟨"java/lang/String", "isLatin1", "()Z"⟩

theorem dJ0_isLatin1_aae02_0 : decode cJ0_isLatin1_aae02 0 = .ok (.getstatic 38, 3) := by decide +kernel

theorem dJ0_isLatin1_aae02_3 : decode cJ0_isLatin1_aae02 3 = .ok (.ifCond .eq 14, 3) := by decide +kernel

theorem dJ0_isLatin1_aae02_6 : decode cJ0_isLatin1_aae02 6 = .ok (.aload_n 0, 1) := by decide +kernel

theorem dJ0_isLatin1_aae02_7 : decode cJ0_isLatin1_aae02 7 = .ok (.getfield 15, 3) := by decide +kernel

theorem dJ0_isLatin1_aae02_10 : decode cJ0_isLatin1_aae02 10 = .ok (.ifCond .ne 7, 3) := by decide +kernel

theorem dJ0_isLatin1_aae02_13 : decode cJ0_isLatin1_aae02 13 = .ok (.iconst 1, 1) := by decide +kernel

theorem dJ0_isLatin1_aae02_14 : decode cJ0_isLatin1_aae02 14 = .ok (.goto 4, 3) := by decide +kernel

theorem dJ0_isLatin1_aae02_17 : decode cJ0_isLatin1_aae02 17 = .ok (.iconst 0, 1) := by decide +kernel

theorem dJ0_isLatin1_aae02_18 : decode cJ0_isLatin1_aae02 18 = .ok (.ireturn, 1) := by decide +kernel

theorem MS_J0_isLatin1_aae02 : MS yJ0_isLatin1_aae02 0 := by refine ⟨?_, ?_, ?_⟩ <;> decide +kernel

abbrev cJ0_checkIndex_df160 : ByteArray := prog_11_method_155_code
def yJ0_checkIndex_df160 : MethodName := ⟨"java/lang/String", "checkIndex", "(II)V"⟩

theorem dJ0_checkIndex_df160_0 : decode cJ0_checkIndex_df160 0 = .ok (.iload_n 0, 1) := by decide +kernel

theorem dJ0_checkIndex_df160_1 : decode cJ0_checkIndex_df160 1 = .ok (.iload_n 1, 1) := by decide +kernel

theorem dJ0_checkIndex_df160_2 : decode cJ0_checkIndex_df160 2 = .ok (.getstatic 1053, 3) := by decide +kernel

theorem dJ0_checkIndex_df160_5 : decode cJ0_checkIndex_df160 5 = .ok (.invokestatic 1059, 3) := by decide +kernel

theorem dJ0_checkIndex_df160_8 : decode cJ0_checkIndex_df160 8 = .ok (.pop, 1) := by decide +kernel

theorem dJ0_checkIndex_df160_9 : decode cJ0_checkIndex_df160 9 = .ok (.return_, 1) := by decide +kernel

theorem MS_J0_checkIndex_df160 : MS yJ0_checkIndex_df160 2 := by refine ⟨?_, ?_, ?_⟩ <;> decide +kernel

abbrev cJ1_charAt_3b067 : ByteArray := prog_12_method_2_code
def yJ1_charAt_3b067 : MethodName := ⟨"java/lang/StringLatin1", "charAt", "([BI)C"⟩

theorem dJ1_charAt_3b067_0 : decode cJ1_charAt_3b067 0 = .ok (.iload_n 1, 1) := by decide +kernel

theorem dJ1_charAt_3b067_1 : decode cJ1_charAt_3b067 1 = .ok (.aload_n 0, 1) := by decide +kernel

theorem dJ1_charAt_3b067_2 : decode cJ1_charAt_3b067 2 = .ok (.arraylength, 1) := by decide +kernel

theorem dJ1_charAt_3b067_3 : decode cJ1_charAt_3b067 3 = .ok (.invokestatic 9, 3) := by decide +kernel

theorem dJ1_charAt_3b067_6 : decode cJ1_charAt_3b067 6 = .ok (.aload_n 0, 1) := by decide +kernel

theorem dJ1_charAt_3b067_7 : decode cJ1_charAt_3b067 7 = .ok (.iload_n 1, 1) := by decide +kernel

theorem dJ1_charAt_3b067_8 : decode cJ1_charAt_3b067 8 = .ok (.baload, 1) := by decide +kernel

theorem dJ1_charAt_3b067_9 : decode cJ1_charAt_3b067 9 = .ok (.sipush 255, 3) := by decide +kernel

theorem dJ1_charAt_3b067_12 : decode cJ1_charAt_3b067 12 = .ok (.iand, 1) := by decide +kernel

theorem dJ1_charAt_3b067_13 : decode cJ1_charAt_3b067 13 = .ok (.i2c, 1) := by decide +kernel

theorem dJ1_charAt_3b067_14 : decode cJ1_charAt_3b067 14 = .ok (.ireturn, 1) := by decide +kernel

theorem MS_J1_charAt_3b067 : MS yJ1_charAt_3b067 2 := by refine ⟨?_, ?_, ?_⟩ <;> decide +kernel

abbrev cJ3_checkIndex_8e157 : ByteArray := prog_15_method_11_code
def yJ3_checkIndex_8e157 : MethodName := ⟨"jdk/internal/util/Preconditions", "checkIndex", "(IILjava/util/function/BiFunction;)I"⟩

theorem dJ3_checkIndex_8e157_0 : decode cJ3_checkIndex_8e157 0 = .ok (.iload_n 0, 1) := by decide +kernel

theorem dJ3_checkIndex_8e157_1 : decode cJ3_checkIndex_8e157 1 = .ok (.ifCond .lt 8, 3) := by decide +kernel

theorem dJ3_checkIndex_8e157_4 : decode cJ3_checkIndex_8e157 4 = .ok (.iload_n 0, 1) := by decide +kernel

theorem dJ3_checkIndex_8e157_5 : decode cJ3_checkIndex_8e157 5 = .ok (.iload_n 1, 1) := by decide +kernel

theorem dJ3_checkIndex_8e157_6 : decode cJ3_checkIndex_8e157 6 = .ok (.if_icmp .lt 10, 3) := by decide +kernel

theorem dJ3_checkIndex_8e157_9 : decode cJ3_checkIndex_8e157 9 = .ok (.aload_n 2, 1) := by decide +kernel

theorem dJ3_checkIndex_8e157_10 : decode cJ3_checkIndex_8e157 10 = .ok (.iload_n 0, 1) := by decide +kernel

theorem dJ3_checkIndex_8e157_11 : decode cJ3_checkIndex_8e157 11 = .ok (.iload_n 1, 1) := by decide +kernel

theorem dJ3_checkIndex_8e157_12 : decode cJ3_checkIndex_8e157 12 = .ok (.invokestatic 95, 3) := by decide +kernel

theorem dJ3_checkIndex_8e157_15 : decode cJ3_checkIndex_8e157 15 = .ok (.athrow, 1) := by decide +kernel

theorem dJ3_checkIndex_8e157_16 : decode cJ3_checkIndex_8e157 16 = .ok (.iload_n 0, 1) := by decide +kernel

theorem dJ3_checkIndex_8e157_17 : decode cJ3_checkIndex_8e157 17 = .ok (.ireturn, 1) := by decide +kernel

theorem MS_J3_checkIndex_8e157 : MS yJ3_checkIndex_8e157 3 := by refine ⟨?_, ?_, ?_⟩ <;> decide +kernel

theorem CS_coder : CSv "java/lang/String" 335 yJ0_coder_7d493 cJ0_coder_7d493 1 (some .byte) := ⟨(tb 344 (by decide +kernel) (by decide +kernel)), (tb 345 (by decide +kernel) (by decide +kernel)), (tb 346 (by decide +kernel) (by decide +kernel)), (tb 9 (by decide +kernel) (by decide +kernel)), (tb 347 (by decide +kernel) (by decide +kernel))⟩

theorem CS_isL : CSv "java/lang/String" 492 yJ0_isLatin1_aae02 cJ0_isLatin1_aae02 1 (some .boolean) := ⟨(tb 354 (by decide +kernel) (by decide +kernel)), (tb 355 (by decide +kernel) (by decide +kernel)), (tb 356 (by decide +kernel) (by decide +kernel)), (tb 9 (by decide +kernel) (by decide +kernel)), (tb 357 (by decide +kernel) (by decide +kernel))⟩

theorem CS_ch1 : CSs "java/lang/String" 495 yJ1_charAt_3b067 cJ1_charAt_3b067 2 (some .char) := ⟨(tb 358 (by decide +kernel) (by decide +kernel)), (tb 359 (by decide +kernel) (by decide +kernel)), (tb 10 (by decide +kernel) (by decide +kernel)), (tb 360 (by decide +kernel) (by decide +kernel))⟩

theorem CS_ck0 : CSs "java/lang/StringLatin1" 9 yJ0_checkIndex_df160 cJ0_checkIndex_df160 2 none := ⟨(tb 361 (by decide +kernel) (by decide +kernel)), (tb 362 (by decide +kernel) (by decide +kernel)), (tb 9 (by decide +kernel) (by decide +kernel)), (tb 363 (by decide +kernel) (by decide +kernel))⟩

theorem CS_ck3 : CSs "java/lang/String" 1059 yJ3_checkIndex_8e157 cJ3_checkIndex_8e157 3 (some .int) := ⟨(tb 366 (by decide +kernel) (by decide +kernel)), (tb 367 (by decide +kernel) (by decide +kernel)), (tb 11 (by decide +kernel) (by decide +kernel)), (tb 368 (by decide +kernel) (by decide +kernel))⟩

theorem CS_slen : CSv "TurnedRiver$Reader" 148 yJ0_length_8abf5 cJ0_length_8abf5 1 (some .int) := ⟨(tb 340 (by decide +kernel) (by decide +kernel)), (tb 341 (by decide +kernel) (by decide +kernel)), (tb 342 (by decide +kernel) (by decide +kernel)), (tb 9 (by decide +kernel) (by decide +kernel)), (tb 343 (by decide +kernel) (by decide +kernel))⟩

theorem CS_sch : CSv "TurnedRiver$Reader" 153 yJ0_charAt_5068e cJ0_charAt_5068e 2 (some .char) := ⟨(tb 350 (by decide +kernel) (by decide +kernel)), (tb 351 (by decide +kernel) (by decide +kernel)), (tb 352 (by decide +kernel) (by decide +kernel)), (tb 9 (by decide +kernel) (by decide +kernel)), (tb 353 (by decide +kernel) (by decide +kernel))⟩

theorem FLS_cs : Cond.fieldLink "java/lang/String" 38 "java/lang/String" "COMPACT_STRINGS" "Z" ∈ gtbl := (tb 348 (by decide +kernel) (by decide +kernel))

theorem FLS_co : Cond.fieldLink "java/lang/String" 15 "java/lang/String" "coder" "B" ∈ gtbl := (tb 1122 (by decide +kernel) (by decide +kernel))

theorem FLS_va : Cond.fieldLink "java/lang/String" 9 "java/lang/String" "value" "[B" ∈ gtbl := (tb 1121 (by decide +kernel) (by decide +kernel))

theorem FLS_fm : Cond.fieldLink "java/lang/String" 1053 "jdk/internal/util/Preconditions" "SIOOBE_FORMATTER" "Ljava/util/function/BiFunction;" ∈ gtbl := (tb 364 (by decide +kernel) (by decide +kernel))

section STR
variable {Z : CX × GX} {own : String} {cc : ByteArray} {nL : Nat} {ret : Option FieldType} {fr lo : Nat} {Q : State → Prop} {pc : Nat} {h : AH} {lv : List (Option Value)} {st : List Value}
theorem ex_gsC (hX : OK Z "java/lang/String" cc nL ret fr lo) (d : decode cc pc = .ok (.getstatic 38, 3)) (k : EX Z nL Q (pc + 3) h lv (.int 1 :: st)) : EX Z nL Q pc h lv st := fun H locs ls hW hS hl =>
  va_gets hX.1.1 hX.1.2.1 hX.2.2.2.2.2.2.2.1.1 hS hX.1.2.2.2.1 (hX.w FLS_cs) (fun _ z => z) d (k H locs ls hW hS hl)
theorem ex_gsF (hX : OK Z "java/lang/String" cc nL ret fr lo) (d : decode cc pc = .ok (.getstatic 1053, 3)) (k : ∀ v : Value, (v = .null ∨ v = .ref 400) → EX Z nL Q (pc + 3) h lv (v :: st)) : EX Z nL Q pc h lv st := fun H locs ls hW hS hl => by
  rcases hX.2.2.2.2.2.2.2.1.2 with z | z
  · exact va_gets hX.1.1 hX.1.2.1 z hS hX.1.2.2.2.1 (hX.w FLS_fm) (fun _ z => z) d (k .null (Or.inl rfl) H locs ls hW hS hl)
  · exact va_gets hX.1.1 hX.1.2.1 z hS hX.1.2.2.2.1 (hX.w FLS_fm) (fun _ z => z) d (k (.ref 400) (Or.inr rfl) H locs ls hW hS hl)
theorem ex_gfC (hX : OK Z "java/lang/String" cc nL ret fr lo) {i : Nat} (hi : i < 6) (d : decode cc pc = .ok (.getfield 15, 3)) (k : EX Z nL Q (pc + 3) h lv (.int 0 :: st)) : EX Z nL Q pc h lv (.ref (200 + i) :: st) := fun H locs ls hW hS hl =>
  vk_getf hX.1.1 hX.1.2.1 ((hX.2.2.2.2.2.1.1 i hi).2.1) hS hX.1.2.2.2.1 (hX.w FLS_co) (fun _ z => z) d (k H locs ls hW hS hl)
theorem ex_gfV (hX : OK Z "java/lang/String" cc nL ret fr lo) {i : Nat} (hi : i < 6) (d : decode cc pc = .ok (.getfield 9, 3)) (k : EX Z nL Q (pc + 3) h lv (.ref (300 + i) :: st)) : EX Z nL Q pc h lv (.ref (200 + i) :: st) := fun H locs ls hW hS hl =>
  vk_getf hX.1.1 hX.1.2.1 ((hX.2.2.2.2.2.1.1 i hi).2.2.1) hS hX.1.2.2.2.1 (hX.w FLS_va) (fun _ z => z) d (k H locs ls hW hS hl)
theorem ex_alS (hX : OK Z own cc nL ret fr lo) {i : Nat} (hi : i < 6) (d : decode cc pc = .ok (.arraylength, 1)) (k : EX Z nL Q (pc + 1) h lv (.int (nI (sL.getD i 0)) :: st)) : EX Z nL Q pc h lv (.ref (300 + i) :: st) := fun H locs ls hW hS hl =>
  va_tlen hX.1.1 hX.1.2.1 ((hX.2.2.2.2.2.1.1 i hi).2.2.2) hS rfl d (k H locs ls hW hS hl)
theorem ex_blS (hX : OK Z own cc nL ret fr lo) {i : Nat} {x : Int32} (hi : i < 6) (hx : vp_in x (sL.getD i 0)) (d : decode cc pc = .ok (.baload, 1)) (k : EX Z nL Q (pc + 1) h lv (.int ((sB.getD i []).getD x.toNatClampNeg 0) :: st)) : EX Z nL Q pc h lv (.int x :: .ref (300 + i) :: st) := fun H locs ls hW hS hl =>
  va_tb hX.1.1 hX.1.2.1 ((hX.2.2.2.2.2.1.1 i hi).2.2.2) hS hx rfl d (k H locs ls hW hS hl)
theorem ex_i2c (hX : OK Z own cc nL ret fr lo) {x : Int32} (d : decode cc pc = .ok (.i2c, 1)) (k : EX Z nL Q (pc + 1) h lv (.int (x.toUInt32 % 65536).toInt32 :: st)) : EX Z nL Q pc h lv (.int x :: st) := fun H locs ls hW hS hl => lv_i2c hX.1.1 hX.1.2.1 d rfl (k H locs ls hW hS hl)
theorem ex_callSv (hX : OK Z own cc nL ret fr lo) {y : MethodName} {c2 : ByteArray} {n2 : Nat} {r2 : Option FieldType} {f2 l2 : Nat} {i idx n : Nat} {As st0 : List Value} {post : Int32 → AH → Prop} (hy : y.cls = "java/lang/String") (hM : CI y c2 n2 r2 f2 l2 (.ref (200 + i) :: As) h post) (hc : CSv own idx y c2 n2 r2) (hm : MS y n) (hi : i < 6) (hn : As.length = n) (hR : f2 + 1 ≤ fr ∧ 8 + (n2 + 11) + l2 ≤ lo) (hst : st0 = As.reverse ++ .ref (200 + i) :: st) (hcat : (st.map fun v => v.category).sum ≤ 8) (d : decode cc pc = .ok (.invokevirtual idx, 3))
    (k : ∀ r u, post r u → EX Z nL Q (pc + 3) u lv (.int r :: st)) : EX Z nL Q pc h lv st0 := by
  intro H locs ls hW hS hl
  subst hst
  have hts := hX.1.2.2.2.2
  have hp : PreV Z.1.2.2.2.2.1 H y.cls (Z.2.1 (200 + i)) (va_Pc ((.ref (200 + i) :: As).map (cv Z.2.1)) (WP Z.2 h)) (As.map (cv Z.2.1)) := ⟨WP.blind, by rw [hy]; exact vk_recv (adK := fun i => Z.2.1 (200 + i)) hX.2.2.2.2.2.1 hi hS, (preS_of hX hW hS (.ref (200 + i) :: As) _ rfl).2⟩
  refine va_calli (va_runV (g := F0 Z.1.2.2.2.2.2.1 pc ls ((As.reverse ++ .ref (200 + i) :: st).map (cv Z.2.1))) (As := As.map (cv Z.2.1)) (rest := st.map (cv Z.2.1)) hX.1 (hM Z.1.2.1 Z.2) ⟨callB_of n hts (gtb_in hc.2.2.2.2) rfl rfl rfl (hX.w hc.2.2.2.1) (hX.w hc.1) hm (by rw [hX.2.2.1]; exact hR), hX.w hc.2.1, hX.w hc.2.2.1⟩ hp rfl (by rw [List.length_map]; exact hn) hl.1 (by simp [cv]) (lv_room (by rw [cat_sum]; exact hcat)) d (by rw [hX.2.2.1]; exact ⟨Nat.le_refl _, Nat.le_refl _⟩)) hS (fun q _ z => z) (fun q z => z) (fun r u t H1 locs1 ht _ hpost hB _ _ hS1 => ?_)
  have hB : WH Z.2 u t.heap := hB
  exact k r u hpost H1 locs1 ls (by rw [← ht]; exact hB) hS1 hl
theorem ex_callVs (hX : OK Z own cc nL ret fr lo) {y : MethodName} {c2 : ByteArray} {n2 : Nat} {f2 l2 : Nat} {idx n : Nat} {As st0 : List Value} {post : AH → Prop} (hM : CV y c2 n2 f2 l2 As h post) (hc : CSs own idx y c2 n2 none) (hm : MS y n) (hn : As.length = n) (hR : f2 + 1 ≤ fr ∧ 8 + (n2 + 11) + l2 ≤ lo) (hst : st0 = As.reverse ++ st) (hcat : (st.map fun v => v.category).sum ≤ 8) (d : decode cc pc = .ok (.invokestatic idx, 3))
    (k : ∀ u, post u → EX Z nL Q (pc + 3) u lv st) : EX Z nL Q pc h lv st0 := by
  intro H locs ls hW hS hl
  subst hst
  have hts := hX.1.2.2.2.2
  refine va_callv (va_runS (g := F0 Z.1.2.2.2.2.2.1 pc ls ((As.reverse ++ st).map (cv Z.2.1))) (As := As.map (cv Z.2.1)) (rest := st.map (cv Z.2.1)) hX.1 (hM Z.1.2.1 Z.2) ⟨callB_of n hts (gtb_in hc.2.2.2) rfl rfl rfl (hX.w hc.2.2.1) (hX.w hc.1) hm (by rw [hX.2.2.1]; exact hR), hX.w hc.2.1⟩ (preS_of hX hW hS As _ rfl) rfl (by rw [List.length_map]; exact hn) hl.1 (by simp) (lv_room (by rw [cat_sum]; exact hcat)) d (by rw [hX.2.2.1]; exact ⟨Nat.le_refl _, Nat.le_refl _⟩)) hS (fun q _ z => z) (fun q z => z) (fun u t H1 locs1 ht _ hpost hB _ _ hS1 => ?_)
  have hB : WH Z.2 u t.heap := hB
  exact k u hpost H1 locs1 ls (by rw [← ht]; exact hB) hS1 hl
end STR
theorem CV_ofF {y : MethodName} {own : String} {cc : ByteArray} {nL : Nat} {fr lo : Nat} {avs : List Value} {h : AH} {post : AH → Prop} (lv : List (Option Value)) (hy : plainFor y = true) (ho : y.cls = own) (hle : (le avs).length ≤ nL) (hlv : le avs ++ List.replicate (nL - (le avs).length) none = lv) (body : ∀ Z : CX × GX, OK Z own cc nL none fr lo → EX Z nL (QV Z post) 0 h lv []) : CV y cc nL fr lo avs h post := by
  intro l G
  refine Met_ofWF (cc := cc) (maxL := nL) (ret := none) hy rfl ?_
  intro p e s m args below meth c s₁ B hml hv
  obtain ⟨rfl, hWH, hWK, hSX⟩ := hv
  have hts := atoms_spec (ws := .code y cc nL none :: gtbl) B.pre
  have hown : s.vm.findClass own = some m.cls := by rw [← ho]; exact findClass_of_methodNamed B.named
  have hl := lv_entry (avs.map (cv G.1)) (n := nL) (by rw [lgsl_len]; exact hle)
  rw [lg_entry_eq]
  generalize (lg_sl (avs.map (cv G.1)) ++ List.replicate (nL - (lg_sl (avs.map (cv G.1))).length) Slot.unset).toArray = ls at hl ⊢
  rw [le_args] at hl
  have hl : lv_has ls nL (lvl G.1 0 lv) := by rw [← hlv, lvl_pad]; exact hl
  exact body ((p, l, e, { frames := fr, cells := 0, slots := 0, locals := lo }, s, m, (avs.map (cv G.1)).toArray, below, meth, c), G) ⟨⟨B.exec, B.bytes, hml, hown, fun w hw => hts w (List.mem_cons_of_mem _ hw)⟩, hWK, rfl, B.returns, B.notSynchronized, hSX⟩ s.heap [] ls hWH va_S.rf hl
theorem c_coder {h : AH} {i : Nat} (hi : i < 6) : CI yJ0_coder_7d493 cJ0_coder_7d493 1 (some .byte) 0 0 [.ref (200 + i)] h (fun r u => r = 0 ∧ u = h) := by
  refine CI_ofF (own := "java/lang/String") [some (.ref (200 + i))] (by decide +kernel) rfl (Nat.le_of_ble_eq_true rfl) rfl (fun Z hX => ?_)
  refine ex_gsC hX dJ0_coder_7d493_0 ?_
  refine ex_ifeq hX 13 dJ0_coder_7d493_3 rfl (fun z => absurd z (by decide)) (fun _ => ?_)
  refine ex_aload_n hX dJ0_coder_7d493_6 rfl rfl ?_
  refine ex_gfC hX hi dJ0_coder_7d493_7 ?_
  refine ex_goto hX 14 dJ0_coder_7d493_10 rfl ?_
  exact ex_iret hX dJ0_coder_7d493_14 rfl ⟨rfl, rfl⟩
theorem c_isL {h : AH} {i : Nat} (hi : i < 6) : CI yJ0_isLatin1_aae02 cJ0_isLatin1_aae02 1 (some .boolean) 0 0 [.ref (200 + i)] h (fun r u => r = 1 ∧ u = h) := by
  refine CI_ofF (own := "java/lang/String") [some (.ref (200 + i))] (by decide +kernel) rfl (Nat.le_of_ble_eq_true rfl) rfl (fun Z hX => ?_)
  refine ex_gsC hX dJ0_isLatin1_aae02_0 ?_
  refine ex_ifeq hX 17 dJ0_isLatin1_aae02_3 rfl (fun z => absurd z (by decide)) (fun _ => ?_)
  refine ex_aload_n hX dJ0_isLatin1_aae02_6 rfl rfl ?_
  refine ex_gfC hX hi dJ0_isLatin1_aae02_7 ?_
  refine ex_ifne hX 17 dJ0_isLatin1_aae02_10 rfl (fun z => absurd rfl z) (fun _ => ?_)
  refine ex_iconst (v := 1) hX dJ0_isLatin1_aae02_13 rfl ?_
  refine ex_goto hX 18 dJ0_isLatin1_aae02_14 rfl ?_
  exact ex_iret hX dJ0_isLatin1_aae02_18 rfl ⟨rfl, rfl⟩
theorem sL_lt : ∀ i, i < 6 → sL.getD i 0 ≤ 4 := by decide
theorem c_slen {h : AH} {i : Nat} (hi : i < 6) : CI yJ0_length_8abf5 cJ0_length_8abf5 1 (some .int) 1 20 [.ref (200 + i)] h (fun r u => r = nI (sL.getD i 0) ∧ u = h) := by
  refine CI_ofF (own := "java/lang/String") [some (.ref (200 + i))] (by decide +kernel) rfl (Nat.le_of_ble_eq_true rfl) rfl (fun Z hX => ?_)
  refine ex_aload_n hX dJ0_length_8abf5_0 rfl rfl ?_
  refine ex_gfV hX hi dJ0_length_8abf5_1 ?_
  refine ex_alS hX hi dJ0_length_8abf5_4 ?_
  refine ex_aload_n hX dJ0_length_8abf5_5 rfl rfl ?_
  refine ex_callSv (As := []) (st := [.int (nI (sL.getD i 0))]) hX rfl (c_coder hi) CS_coder MS_J0_coder_7d493 hi rfl (by decide) rfl (Nat.le_of_ble_eq_true rfl) dJ0_length_8abf5_6 (fun r u hu => ?_)
  obtain ⟨rfl, rfl⟩ := hu
  refine ex_ishr hX dJ0_length_8abf5_9 ?_
  refine ex_iret hX dJ0_length_8abf5_10 rfl ⟨?_, rfl⟩
  have := sL_lt i hi
  have q := sh_r (x := sL.getD i 0) (k := 0) (by omega) (by omega)
  rw [Nat.pow_zero, Nat.div_one] at q
  exact q
theorem c_ck3 {h : AH} {k n : Nat} {v : Value} (hv : v = .null ∨ v = .ref 400) (hk : k < n) (hn : n < 100) : CI yJ3_checkIndex_8e157 cJ3_checkIndex_8e157 3 (some .int) 0 0 [.int (nI k), .int (nI n), v] h (fun r u => u = h) := by
  have body : ∀ Z : CX × GX, OK Z "jdk/internal/util/Preconditions" cJ3_checkIndex_8e157 3 (some .int) 0 0 → EX Z 3 (QI Z (fun r u => u = h)) 0 h [some (.int (nI k)), some (.int (nI n)), some v] [] := by
    intro Z hX
    refine ex_iload_n hX dJ3_checkIndex_8e157_0 rfl rfl ?_
    refine ex_iflt hX 9 dJ3_checkIndex_8e157_1 rfl (fun z => absurd z (nI_pos (by omega))) (fun _ => ?_)
    refine ex_iload_n hX dJ3_checkIndex_8e157_4 rfl rfl ?_
    refine ex_iload_n hX dJ3_checkIndex_8e157_5 rfl rfl ?_
    refine ex_icmplt hX 16 dJ3_checkIndex_8e157_6 rfl (fun _ => ?_) (fun z => absurd (nI_lt hk (by omega)) z)
    refine ex_iload_n hX dJ3_checkIndex_8e157_16 rfl rfl ?_
    exact ex_iret hX dJ3_checkIndex_8e157_17 rfl rfl
  rcases hv with rfl | rfl
  · exact CI_ofF (own := "jdk/internal/util/Preconditions") _ (by decide +kernel) rfl (Nat.le_of_ble_eq_true rfl) rfl body
  · exact CI_ofF (own := "jdk/internal/util/Preconditions") _ (by decide +kernel) rfl (Nat.le_of_ble_eq_true rfl) rfl body
theorem c_ck0 {h : AH} {k n : Nat} (hk : k < n) (hn : n < 100) : CV yJ0_checkIndex_df160 cJ0_checkIndex_df160 2 1 22 [.int (nI k), .int (nI n)] h (fun u => u = h) := by
  refine CV_ofF (own := "java/lang/String") [some (.int (nI k)), some (.int (nI n))] (by decide +kernel) rfl (Nat.le_of_ble_eq_true rfl) rfl (fun Z hX => ?_)
  refine ex_iload_n hX dJ0_checkIndex_df160_0 rfl rfl ?_
  refine ex_iload_n hX dJ0_checkIndex_df160_1 rfl rfl ?_
  refine ex_gsF hX dJ0_checkIndex_df160_2 (fun v hv => ?_)
  refine ex_callIs (As := [.int (nI k), .int (nI n), v]) (st := []) hX (c_ck3 hv hk hn) CS_ck3 MS_J3_checkIndex_8e157 rfl (by decide) rfl (Nat.le_of_ble_eq_true rfl) dJ0_checkIndex_df160_5 (fun r u hu => ?_)
  subst hu
  refine ex_pop hX dJ0_checkIndex_df160_8 rfl ?_
  exact ex_vret hX dJ0_checkIndex_df160_9 rfl
def chS (i k : Nat) : Int32 := (((sB.getD i []).getD k 0 &&& 255).toUInt32 % 65536).toInt32
theorem c_ch1 {h : AH} {i k : Nat} (hi : i < 6) (hk : k < sL.getD i 0) : CI yJ1_charAt_3b067 cJ1_charAt_3b067 2 (some .char) 2 43 [.ref (300 + i), .int (nI k)] h (fun r u => r = chS i k ∧ u = h) := by
  have l4 := sL_lt i hi
  refine CI_ofF (own := "java/lang/StringLatin1") [some (.ref (300 + i)), some (.int (nI k))] (by decide +kernel) rfl (Nat.le_of_ble_eq_true rfl) rfl (fun Z hX => ?_)
  refine ex_iload_n hX dJ1_charAt_3b067_0 rfl rfl ?_
  refine ex_aload_n hX dJ1_charAt_3b067_1 rfl rfl ?_
  refine ex_alS hX hi dJ1_charAt_3b067_2 ?_
  refine ex_callVs (As := [.int (nI k), .int (nI (sL.getD i 0))]) (st := []) hX (c_ck0 hk (by omega)) CS_ck0 MS_J0_checkIndex_df160 rfl (by decide) rfl (Nat.le_of_ble_eq_true rfl) dJ1_charAt_3b067_3 (fun u hu => ?_)
  subst hu
  refine ex_aload_n hX dJ1_charAt_3b067_6 rfl rfl ?_
  refine ex_iload_n hX dJ1_charAt_3b067_7 rfl rfl ?_
  refine ex_blS hX hi (vp_in_nI hk (by omega)) dJ1_charAt_3b067_8 ?_
  refine ex_sipush (v := 255) hX dJ1_charAt_3b067_9 rfl ?_
  refine ex_iand hX dJ1_charAt_3b067_12 ?_
  refine ex_i2c hX dJ1_charAt_3b067_13 ?_
  rw [nI_clamp (by omega)]
  exact ex_iret hX dJ1_charAt_3b067_14 (pk_nc _) ⟨rfl, rfl⟩
theorem c_sch {h : AH} {i k : Nat} (hi : i < 6) (hk : k < sL.getD i 0) : CI yJ0_charAt_5068e cJ0_charAt_5068e 2 (some .char) 3 64 [.ref (200 + i), .int (nI k)] h (fun r u => r = chS i k ∧ u = h) := by
  have l4 := sL_lt i hi
  refine CI_ofF (own := "java/lang/String") [some (.ref (200 + i)), some (.int (nI k))] (by decide +kernel) rfl (Nat.le_of_ble_eq_true rfl) rfl (fun Z hX => ?_)
  refine ex_aload_n hX dJ0_charAt_5068e_0 rfl rfl ?_
  refine ex_callSv (As := []) (st := []) hX rfl (c_isL hi) CS_isL MS_J0_isLatin1_aae02 hi rfl (by decide) rfl (Nat.le_of_ble_eq_true rfl) dJ0_charAt_5068e_1 (fun r u hu => ?_)
  obtain ⟨rfl, rfl⟩ := hu
  refine ex_ifeq hX 16 dJ0_charAt_5068e_4 rfl (fun z => absurd z (by decide)) (fun _ => ?_)
  refine ex_aload_n hX dJ0_charAt_5068e_7 rfl rfl ?_
  refine ex_gfV hX hi dJ0_charAt_5068e_8 ?_
  refine ex_iload_n hX dJ0_charAt_5068e_11 rfl rfl ?_
  refine ex_callIs (As := [.ref (300 + i), .int (nI k)]) (st := []) hX (c_ch1 hi hk) CS_ch1 MS_J1_charAt_3b067 rfl (by decide) rfl (Nat.le_of_ble_eq_true rfl) dJ0_charAt_5068e_12 (fun r u hu => ?_)
  obtain ⟨rfl, rfl⟩ := hu
  exact ex_iret hX dJ0_charAt_5068e_15 (pk_nc _) ⟨rfl, rfl⟩
section STR2
variable {Z : CX × GX} {cc : ByteArray} {nL : Nat} {ret : Option FieldType} {fr lo : Nat} {Q : State → Prop} {pc : Nat} {h : AH} {lv : List (Option Value)} {st : List Value}
theorem ex_strlen {i : Nat} (hi : i < 6) (hcat : (st.map fun v => v.category).sum ≤ 8) (hR : 2 ≤ fr ∧ 40 ≤ lo) (hX : OK Z RX2 cc nL ret fr lo) (d : decode cc pc = .ok (.invokevirtual 148, 3)) (k : EX Z nL Q (pc + 3) h lv (.int (nI (sL.getD i 0)) :: st)) : EX Z nL Q pc h lv (.ref (200 + i) :: st) := by
  refine ex_callSv (As := []) (st := st) hX rfl (c_slen hi) CS_slen MS_J0_length_8abf5 hi rfl ⟨by omega, by omega⟩ rfl hcat d (fun r u hu => ?_)
  obtain ⟨rfl, rfl⟩ := hu
  exact k
theorem ex_strch {i k : Nat} (hi : i < 6) (hcat : (st.map fun v => v.category).sum ≤ 8) (hR : 4 ≤ fr ∧ 85 ≤ lo) (hX : OK Z RX2 cc nL ret fr lo) (d : decode cc pc = .ok (.invokevirtual 153, 3)) (hk : k < sL.getD i 0) (kk : EX Z nL Q (pc + 3) h lv (.int (chS i k) :: st)) : EX Z nL Q pc h lv (.int (nI k) :: .ref (200 + i) :: st) := by
  refine ex_callSv (As := [.int (nI k)]) (st := st) hX rfl (c_sch hi hk) CS_sch MS_J0_charAt_5068e hi rfl ⟨by omega, by omega⟩ rfl hcat d (fun r u hu => ?_)
  obtain ⟨rfl, rfl⟩ := hu
  exact kk
end STR2
