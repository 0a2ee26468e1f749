-- ===== end of PART A; then your names; then what follows =====
/-! THE CLAIM OUT OF ONE WALK OF THE LAW'S BODY. Your part is whole_start (and what it stands on); all else here is the same for every law, but numbers. -/
def R_law : String := "TurnedRiverLaw"
def lw_P (b : Addr) (xs : List Int32) (args : Array Value) (s : State) : Prop := args = #[.ref b] ∧ s.IntsAt b xs ∧ xs.length ≤ 2560 ∧ (Jvm.Cond.and given_1 narrow_1).before args s = true
def lw_Q (_ : Array Value) (s : State) (o : Outcome) (t : State) : Prop := o = .returned (some (.int 1)) ∧ Framed s o t [] 600000 7302250
def lw_Z (below : List Frame) (a : Array Value) (s : State) : State → Prop := fun t => ∃ o, t.status = .running ∧ Ended t below o ∧ lw_Q a s o t
/-- the law's own end, with 1 on the stack, nothing written that was there before, its room as the claim has it -/
theorem lw_ret {p : Program} {l : Launch} {e : Env} {s : State} {m : MethodId} {below : List Frame} {meth : Method} {c : Code} {b : Nat} (hx : p.tables.exec = Jvm.exec) (hb : c.code = code) (hr : meth.sig.returnType = ret) (hlocks : meth.locks = false) {pc : Nat} {H : Heap} {ls : Array Slot} (hdg : decode code pc = .ok (.ireturn, 1)) : W p l e room_1 s m #[Value.ref b] below meth c H [] 600000 7302250 (lw_Z below #[Value.ref b] s) (F0 m pc ls [.int 1]) := by
  intro T hT X
  obtain ⟨fs, hret, hrun, hended, hW, hframe⟩ := X.leave (v := some (.int 1)) (hlocks := hlocks) (fun h => by rw [hr] at h; cases h)
  have hmeth' : T.vm.method? m = some meth := X.method'
  refine ⟨T.setFrames fs, ?_, .returned (some (.int 1)), hrun, hended, rfl, ⟨_, rfl⟩, hW, hframe⟩
  jvm_step X.here [X.here.top, hx, hb, hdg, hmeth', hr, ret, narrow_b1]
  (try refine ⟨rfl, ?_⟩); (try refine ⟨rfl, ?_⟩)
  first | (intro acts; rw [hret _ acts rfl rfl rfl]) | rw [hret _ _ rfl rfl rfl]
  exact Steps.refl _
/-- what holds at the law's entry: the machine, the code, the tables' words (any of lw_tbl by 'hts w (by decide +kernel)'), the script of L ints xs at the cell b, what the Statement gives of the start (any of its parts by flat_of_before) -/
def lw_At (p : Program) (s : State) (m : MethodId) (meth : Method) (c : Code) (b L : Nat) (xs : Nat → Int32) : Prop :=
  p.tables.exec = Jvm.exec ∧ c.code = code ∧ meth.sig.returnType = ret ∧ c.maxLocals = 4 ∧ s.vm.findClass R_law = some m.cls ∧ (∀ w ∈ lw_tbl, w.before #[Value.ref b] s = true) ∧ va_X b L xs s s.heap ∧ b < s.heap.size ∧ meth.locks = false ∧ (Jvm.Cond.and given_1 narrow_1).before #[Value.ref b] s = true

theorem CSL_15 : CSv R_law 15 yX6_feed cX6_feed 4 (some .int) := ⟨(tb 293 (by decide +kernel) (by decide +kernel)), (tb 294 (by decide +kernel) (by decide +kernel)), (tb 295 (by decide +kernel) (by decide +kernel)), (tb 1 (by decide +kernel) (by decide +kernel)), (tb 296 (by decide +kernel) (by decide +kernel))⟩

theorem CSL_20 : CSv R_law 20 yX6_river cX6_river 3 (some .int) := ⟨(tb 303 (by decide +kernel) (by decide +kernel)), (tb 304 (by decide +kernel) (by decide +kernel)), (tb 305 (by decide +kernel) (by decide +kernel)), (tb 1 (by decide +kernel) (by decide +kernel)), (tb 306 (by decide +kernel) (by decide +kernel))⟩

theorem CSL_25 : CSv R_law 25 yX6_plan cX6_plan 2 (some .int) := ⟨(tb 450 (by decide +kernel) (by decide +kernel)), (tb 451 (by decide +kernel) (by decide +kernel)), (tb 452 (by decide +kernel) (by decide +kernel)), (tb 1 (by decide +kernel) (by decide +kernel)), (tb 453 (by decide +kernel) (by decide +kernel))⟩

theorem CSL_29 : CSv R_law 29 yX6_fault cX6_fault 1 (some .int) := ⟨(tb 468 (by decide +kernel) (by decide +kernel)), (tb 469 (by decide +kernel) (by decide +kernel)), (tb 470 (by decide +kernel) (by decide +kernel)), (tb 1 (by decide +kernel) (by decide +kernel)), (tb 471 (by decide +kernel) (by decide +kernel))⟩

theorem CSL_33 : CSv R_law 33 yX6_told cX6_told 2 (some .int) := ⟨(tb 472 (by decide +kernel) (by decide +kernel)), (tb 473 (by decide +kernel) (by decide +kernel)), (tb 474 (by decide +kernel) (by decide +kernel)), (tb 1 (by decide +kernel) (by decide +kernel)), (tb 475 (by decide +kernel) (by decide +kernel))⟩

theorem CSL_38 : CSv R_law 38 yX6_node cX6_node 3 (some .int) := ⟨(tb 480 (by decide +kernel) (by decide +kernel)), (tb 481 (by decide +kernel) (by decide +kernel)), (tb 482 (by decide +kernel) (by decide +kernel)), (tb 1 (by decide +kernel) (by decide +kernel)), (tb 483 (by decide +kernel) (by decide +kernel))⟩

theorem CSL_43 : CSv R_law 43 yX6_gate cX6_gate 3 (some .int) := ⟨(tb 508 (by decide +kernel) (by decide +kernel)), (tb 509 (by decide +kernel) (by decide +kernel)), (tb 510 (by decide +kernel) (by decide +kernel)), (tb 1 (by decide +kernel) (by decide +kernel)), (tb 511 (by decide +kernel) (by decide +kernel))⟩

theorem CSL_47 : CSv R_law 47 yX6_go cX6_go 3 (some .int) := ⟨(tb 516 (by decide +kernel) (by decide +kernel)), (tb 517 (by decide +kernel) (by decide +kernel)), (tb 518 (by decide +kernel) (by decide +kernel)), (tb 1 (by decide +kernel) (by decide +kernel)), (tb 519 (by decide +kernel) (by decide +kernel))⟩

theorem CSL_51 : CSv R_law 51 yX6_width cX6_width 4 (some .int) := ⟨(tb 561 (by decide +kernel) (by decide +kernel)), (tb 562 (by decide +kernel) (by decide +kernel)), (tb 563 (by decide +kernel) (by decide +kernel)), (tb 1 (by decide +kernel) (by decide +kernel)), (tb 564 (by decide +kernel) (by decide +kernel))⟩

theorem CSL_55 : CSv R_law 55 yX6_pour cX6_pour 4 (some .int) := ⟨(tb 565 (by decide +kernel) (by decide +kernel)), (tb 566 (by decide +kernel) (by decide +kernel)), (tb 567 (by decide +kernel) (by decide +kernel)), (tb 1 (by decide +kernel) (by decide +kernel)), (tb 568 (by decide +kernel) (by decide +kernel))⟩

theorem CSL_59 : CSv R_law 59 yX6_showers cX6_showers 5 (some .int) := ⟨(tb 570 (by decide +kernel) (by decide +kernel)), (tb 571 (by decide +kernel) (by decide +kernel)), (tb 572 (by decide +kernel) (by decide +kernel)), (tb 1 (by decide +kernel) (by decide +kernel)), (tb 573 (by decide +kernel) (by decide +kernel))⟩

theorem CSL_63 : CSv R_law 63 yX6_log cX6_log 3 (some .int) := ⟨(tb 586 (by decide +kernel) (by decide +kernel)), (tb 587 (by decide +kernel) (by decide +kernel)), (tb 588 (by decide +kernel) (by decide +kernel)), (tb 1 (by decide +kernel) (by decide +kernel)), (tb 589 (by decide +kernel) (by decide +kernel))⟩

theorem CSL_67 : CSv R_law 67 yX6_wood cX6_wood 4 (some .int) := ⟨(tb 598 (by decide +kernel) (by decide +kernel)), (tb 599 (by decide +kernel) (by decide +kernel)), (tb 600 (by decide +kernel) (by decide +kernel)), (tb 1 (by decide +kernel) (by decide +kernel)), (tb 601 (by decide +kernel) (by decide +kernel))⟩

theorem CSL_71 : CSv R_law 71 yX6_clear cX6_clear 2 (some .int) := ⟨(tb 602 (by decide +kernel) (by decide +kernel)), (tb 603 (by decide +kernel) (by decide +kernel)), (tb 604 (by decide +kernel) (by decide +kernel)), (tb 1 (by decide +kernel) (by decide +kernel)), (tb 605 (by decide +kernel) (by decide +kernel))⟩

theorem CSL_75 : CSv R_law 75 yX6_tried cX6_tried 5 (some .int) := ⟨(tb 606 (by decide +kernel) (by decide +kernel)), (tb 607 (by decide +kernel) (by decide +kernel)), (tb 608 (by decide +kernel) (by decide +kernel)), (tb 1 (by decide +kernel) (by decide +kernel)), (tb 609 (by decide +kernel) (by decide +kernel))⟩

theorem CSL_80 : CSv R_law 80 yX6_slack cX6_slack 6 (some .int) := ⟨(tb 623 (by decide +kernel) (by decide +kernel)), (tb 624 (by decide +kernel) (by decide +kernel)), (tb 625 (by decide +kernel) (by decide +kernel)), (tb 1 (by decide +kernel) (by decide +kernel)), (tb 626 (by decide +kernel) (by decide +kernel))⟩

theorem CSL_84 : CSv R_law 84 yX6_boat cX6_boat 6 (some .int) := ⟨(tb 627 (by decide +kernel) (by decide +kernel)), (tb 628 (by decide +kernel) (by decide +kernel)), (tb 629 (by decide +kernel) (by decide +kernel)), (tb 1 (by decide +kernel) (by decide +kernel)), (tb 630 (by decide +kernel) (by decide +kernel))⟩

theorem CSL_89 : CSv R_law 89 yX6_sent cX6_sent 7 (some .int) := ⟨(tb 661 (by decide +kernel) (by decide +kernel)), (tb 662 (by decide +kernel) (by decide +kernel)), (tb 663 (by decide +kernel) (by decide +kernel)), (tb 1 (by decide +kernel) (by decide +kernel)), (tb 664 (by decide +kernel) (by decide +kernel))⟩

theorem CSL_93 : CSv R_law 93 yX6_ring cX6_ring 6 (some .int) := ⟨(tb 670 (by decide +kernel) (by decide +kernel)), (tb 671 (by decide +kernel) (by decide +kernel)), (tb 672 (by decide +kernel) (by decide +kernel)), (tb 1 (by decide +kernel) (by decide +kernel)), (tb 673 (by decide +kernel) (by decide +kernel))⟩

theorem CSL_97 : CSv R_law 97 yX6_drained cX6_drained 5 (some .int) := ⟨(tb 674 (by decide +kernel) (by decide +kernel)), (tb 675 (by decide +kernel) (by decide +kernel)), (tb 676 (by decide +kernel) (by decide +kernel)), (tb 1 (by decide +kernel) (by decide +kernel)), (tb 677 (by decide +kernel) (by decide +kernel))⟩

theorem CSL_101 : CSv R_law 101 yX6_nearest cX6_nearest 8 (some .int) := ⟨(tb 686 (by decide +kernel) (by decide +kernel)), (tb 687 (by decide +kernel) (by decide +kernel)), (tb 688 (by decide +kernel) (by decide +kernel)), (tb 1 (by decide +kernel) (by decide +kernel)), (tb 689 (by decide +kernel) (by decide +kernel))⟩

theorem CSL_105 : CSv R_law 105 yX6_stopped cX6_stopped 4 (some .int) := ⟨(tb 694 (by decide +kernel) (by decide +kernel)), (tb 695 (by decide +kernel) (by decide +kernel)), (tb 696 (by decide +kernel) (by decide +kernel)), (tb 1 (by decide +kernel) (by decide +kernel)), (tb 697 (by decide +kernel) (by decide +kernel))⟩

theorem CSL_109 : CSv R_law 109 yX6_write cX6_write 2 (some .int) := ⟨(tb 702 (by decide +kernel) (by decide +kernel)), (tb 703 (by decide +kernel) (by decide +kernel)), (tb 704 (by decide +kernel) (by decide +kernel)), (tb 1 (by decide +kernel) (by decide +kernel)), (tb 705 (by decide +kernel) (by decide +kernel))⟩

theorem CSL_113 : CSv R_law 113 yX6_tear cX6_tear 2 (some .int) := ⟨(tb 706 (by decide +kernel) (by decide +kernel)), (tb 707 (by decide +kernel) (by decide +kernel)), (tb 708 (by decide +kernel) (by decide +kernel)), (tb 1 (by decide +kernel) (by decide +kernel)), (tb 709 (by decide +kernel) (by decide +kernel))⟩

theorem CSL_117 : CSv R_law 117 yX6_judge cX6_judge 3 (some .int) := ⟨(tb 710 (by decide +kernel) (by decide +kernel)), (tb 711 (by decide +kernel) (by decide +kernel)), (tb 712 (by decide +kernel) (by decide +kernel)), (tb 1 (by decide +kernel) (by decide +kernel)), (tb 713 (by decide +kernel) (by decide +kernel))⟩

theorem CSL_121 : CSv R_law 121 yX6_seed cX6_seed 3 (some .int) := ⟨(tb 714 (by decide +kernel) (by decide +kernel)), (tb 715 (by decide +kernel) (by decide +kernel)), (tb 716 (by decide +kernel) (by decide +kernel)), (tb 1 (by decide +kernel) (by decide +kernel)), (tb 717 (by decide +kernel) (by decide +kernel))⟩

theorem CSL_125 : CSv R_law 125 yX6_keep cX6_keep 2 (some .int) := ⟨(tb 718 (by decide +kernel) (by decide +kernel)), (tb 719 (by decide +kernel) (by decide +kernel)), (tb 720 (by decide +kernel) (by decide +kernel)), (tb 1 (by decide +kernel) (by decide +kernel)), (tb 721 (by decide +kernel) (by decide +kernel))⟩

theorem CSL_129 : CSv R_law 129 yX6_goBack cX6_goBack 2 (some .int) := ⟨(tb 722 (by decide +kernel) (by decide +kernel)), (tb 723 (by decide +kernel) (by decide +kernel)), (tb 724 (by decide +kernel) (by decide +kernel)), (tb 1 (by decide +kernel) (by decide +kernel)), (tb 725 (by decide +kernel) (by decide +kernel))⟩

theorem CSL_19 : CSv R_law 19 yX7_feed cX7_feed 5 (some .int) := ⟨(tb 832 (by decide +kernel) (by decide +kernel)), (tb 833 (by decide +kernel) (by decide +kernel)), (tb 834 (by decide +kernel) (by decide +kernel)), (tb 8 (by decide +kernel) (by decide +kernel)), (tb 835 (by decide +kernel) (by decide +kernel))⟩

theorem CSL_24 : CSv R_law 24 yX7_river cX7_river 4 (some .int) := ⟨(tb 843 (by decide +kernel) (by decide +kernel)), (tb 844 (by decide +kernel) (by decide +kernel)), (tb 845 (by decide +kernel) (by decide +kernel)), (tb 8 (by decide +kernel) (by decide +kernel)), (tb 846 (by decide +kernel) (by decide +kernel))⟩

theorem CSL_28 : CSv R_law 28 yX7_plan cX7_plan 2 (some .int) := ⟨(tb 906 (by decide +kernel) (by decide +kernel)), (tb 907 (by decide +kernel) (by decide +kernel)), (tb 908 (by decide +kernel) (by decide +kernel)), (tb 8 (by decide +kernel) (by decide +kernel)), (tb 909 (by decide +kernel) (by decide +kernel))⟩

theorem CSL_32 : CSv R_law 32 yX7_fault cX7_fault 1 (some .int) := ⟨(tb 911 (by decide +kernel) (by decide +kernel)), (tb 912 (by decide +kernel) (by decide +kernel)), (tb 913 (by decide +kernel) (by decide +kernel)), (tb 8 (by decide +kernel) (by decide +kernel)), (tb 914 (by decide +kernel) (by decide +kernel))⟩

theorem CSL_37 : CSv R_law 37 yX7_told cX7_told 2 (some .int) := ⟨(tb 915 (by decide +kernel) (by decide +kernel)), (tb 916 (by decide +kernel) (by decide +kernel)), (tb 917 (by decide +kernel) (by decide +kernel)), (tb 8 (by decide +kernel) (by decide +kernel)), (tb 918 (by decide +kernel) (by decide +kernel))⟩

theorem CSL_42 : CSv R_law 42 yX7_node cX7_node 3 (some .int) := ⟨(tb 923 (by decide +kernel) (by decide +kernel)), (tb 924 (by decide +kernel) (by decide +kernel)), (tb 925 (by decide +kernel) (by decide +kernel)), (tb 8 (by decide +kernel) (by decide +kernel)), (tb 926 (by decide +kernel) (by decide +kernel))⟩

theorem CSL_46 : CSv R_law 46 yX7_gate cX7_gate 3 (some .int) := ⟨(tb 944 (by decide +kernel) (by decide +kernel)), (tb 945 (by decide +kernel) (by decide +kernel)), (tb 946 (by decide +kernel) (by decide +kernel)), (tb 8 (by decide +kernel) (by decide +kernel)), (tb 947 (by decide +kernel) (by decide +kernel))⟩

theorem CSL_50 : CSv R_law 50 yX7_go cX7_go 3 (some .int) := ⟨(tb 952 (by decide +kernel) (by decide +kernel)), (tb 953 (by decide +kernel) (by decide +kernel)), (tb 954 (by decide +kernel) (by decide +kernel)), (tb 8 (by decide +kernel) (by decide +kernel)), (tb 955 (by decide +kernel) (by decide +kernel))⟩

theorem CSL_54 : CSv R_law 54 yX7_width cX7_width 4 (some .int) := ⟨(tb 985 (by decide +kernel) (by decide +kernel)), (tb 986 (by decide +kernel) (by decide +kernel)), (tb 987 (by decide +kernel) (by decide +kernel)), (tb 8 (by decide +kernel) (by decide +kernel)), (tb 988 (by decide +kernel) (by decide +kernel))⟩

theorem CSL_58 : CSv R_law 58 yX7_pour cX7_pour 4 (some .int) := ⟨(tb 990 (by decide +kernel) (by decide +kernel)), (tb 991 (by decide +kernel) (by decide +kernel)), (tb 992 (by decide +kernel) (by decide +kernel)), (tb 8 (by decide +kernel) (by decide +kernel)), (tb 993 (by decide +kernel) (by decide +kernel))⟩

theorem CSL_62 : CSv R_law 62 yX7_showers cX7_showers 7 (some .int) := ⟨(tb 995 (by decide +kernel) (by decide +kernel)), (tb 996 (by decide +kernel) (by decide +kernel)), (tb 997 (by decide +kernel) (by decide +kernel)), (tb 8 (by decide +kernel) (by decide +kernel)), (tb 998 (by decide +kernel) (by decide +kernel))⟩

theorem CSL_66 : CSv R_law 66 yX7_log cX7_log 4 (some .int) := ⟨(tb 1009 (by decide +kernel) (by decide +kernel)), (tb 1010 (by decide +kernel) (by decide +kernel)), (tb 1011 (by decide +kernel) (by decide +kernel)), (tb 8 (by decide +kernel) (by decide +kernel)), (tb 1012 (by decide +kernel) (by decide +kernel))⟩

theorem CSL_70 : CSv R_law 70 yX7_wood cX7_wood 3 (some .int) := ⟨(tb 1014 (by decide +kernel) (by decide +kernel)), (tb 1015 (by decide +kernel) (by decide +kernel)), (tb 1016 (by decide +kernel) (by decide +kernel)), (tb 8 (by decide +kernel) (by decide +kernel)), (tb 1017 (by decide +kernel) (by decide +kernel))⟩

theorem CSL_74 : CSv R_law 74 yX7_clear cX7_clear 2 (some .int) := ⟨(tb 1018 (by decide +kernel) (by decide +kernel)), (tb 1019 (by decide +kernel) (by decide +kernel)), (tb 1020 (by decide +kernel) (by decide +kernel)), (tb 8 (by decide +kernel) (by decide +kernel)), (tb 1021 (by decide +kernel) (by decide +kernel))⟩

theorem CSL_79 : CSv R_law 79 yX7_tried cX7_tried 4 (some .int) := ⟨(tb 1022 (by decide +kernel) (by decide +kernel)), (tb 1023 (by decide +kernel) (by decide +kernel)), (tb 1024 (by decide +kernel) (by decide +kernel)), (tb 8 (by decide +kernel) (by decide +kernel)), (tb 1025 (by decide +kernel) (by decide +kernel))⟩

theorem CSL_83 : CSv R_law 83 yX7_slack cX7_slack 5 (some .int) := ⟨(tb 1035 (by decide +kernel) (by decide +kernel)), (tb 1036 (by decide +kernel) (by decide +kernel)), (tb 1037 (by decide +kernel) (by decide +kernel)), (tb 8 (by decide +kernel) (by decide +kernel)), (tb 1038 (by decide +kernel) (by decide +kernel))⟩

theorem CSL_88 : CSv R_law 88 yX7_boat cX7_boat 9 (some .int) := ⟨(tb 1039 (by decide +kernel) (by decide +kernel)), (tb 1040 (by decide +kernel) (by decide +kernel)), (tb 1041 (by decide +kernel) (by decide +kernel)), (tb 8 (by decide +kernel) (by decide +kernel)), (tb 1042 (by decide +kernel) (by decide +kernel))⟩

theorem CSL_92 : CSv R_law 92 yX7_sent cX7_sent 9 (some .int) := ⟨(tb 1056 (by decide +kernel) (by decide +kernel)), (tb 1057 (by decide +kernel) (by decide +kernel)), (tb 1058 (by decide +kernel) (by decide +kernel)), (tb 8 (by decide +kernel) (by decide +kernel)), (tb 1059 (by decide +kernel) (by decide +kernel))⟩

theorem CSL_96 : CSv R_law 96 yX7_ring cX7_ring 6 (some .int) := ⟨(tb 1064 (by decide +kernel) (by decide +kernel)), (tb 1065 (by decide +kernel) (by decide +kernel)), (tb 1066 (by decide +kernel) (by decide +kernel)), (tb 8 (by decide +kernel) (by decide +kernel)), (tb 1067 (by decide +kernel) (by decide +kernel))⟩

theorem CSL_100 : CSv R_law 100 yX7_drained cX7_drained 5 (some .int) := ⟨(tb 1068 (by decide +kernel) (by decide +kernel)), (tb 1069 (by decide +kernel) (by decide +kernel)), (tb 1070 (by decide +kernel) (by decide +kernel)), (tb 8 (by decide +kernel) (by decide +kernel)), (tb 1071 (by decide +kernel) (by decide +kernel))⟩

theorem CSL_104 : CSv R_law 104 yX7_nearest cX7_nearest 8 (some .int) := ⟨(tb 1076 (by decide +kernel) (by decide +kernel)), (tb 1077 (by decide +kernel) (by decide +kernel)), (tb 1078 (by decide +kernel) (by decide +kernel)), (tb 8 (by decide +kernel) (by decide +kernel)), (tb 1079 (by decide +kernel) (by decide +kernel))⟩

theorem CSL_108 : CSv R_law 108 yX7_stopped cX7_stopped 4 (some .int) := ⟨(tb 1081 (by decide +kernel) (by decide +kernel)), (tb 1082 (by decide +kernel) (by decide +kernel)), (tb 1083 (by decide +kernel) (by decide +kernel)), (tb 8 (by decide +kernel) (by decide +kernel)), (tb 1084 (by decide +kernel) (by decide +kernel))⟩

theorem CSL_112 : CSv R_law 112 yX7_write cX7_write 2 (some .int) := ⟨(tb 1096 (by decide +kernel) (by decide +kernel)), (tb 1097 (by decide +kernel) (by decide +kernel)), (tb 1098 (by decide +kernel) (by decide +kernel)), (tb 8 (by decide +kernel) (by decide +kernel)), (tb 1099 (by decide +kernel) (by decide +kernel))⟩

theorem CSL_116 : CSv R_law 116 yX7_tear cX7_tear 2 (some .int) := ⟨(tb 1100 (by decide +kernel) (by decide +kernel)), (tb 1101 (by decide +kernel) (by decide +kernel)), (tb 1102 (by decide +kernel) (by decide +kernel)), (tb 8 (by decide +kernel) (by decide +kernel)), (tb 1103 (by decide +kernel) (by decide +kernel))⟩

theorem CSL_120 : CSv R_law 120 yX7_judge cX7_judge 4 (some .int) := ⟨(tb 1104 (by decide +kernel) (by decide +kernel)), (tb 1105 (by decide +kernel) (by decide +kernel)), (tb 1106 (by decide +kernel) (by decide +kernel)), (tb 8 (by decide +kernel) (by decide +kernel)), (tb 1107 (by decide +kernel) (by decide +kernel))⟩

theorem CSL_124 : CSv R_law 124 yX7_seed cX7_seed 3 (some .int) := ⟨(tb 1108 (by decide +kernel) (by decide +kernel)), (tb 1109 (by decide +kernel) (by decide +kernel)), (tb 1110 (by decide +kernel) (by decide +kernel)), (tb 8 (by decide +kernel) (by decide +kernel)), (tb 1111 (by decide +kernel) (by decide +kernel))⟩

theorem CSL_128 : CSv R_law 128 yX7_keep cX7_keep 2 (some .int) := ⟨(tb 1112 (by decide +kernel) (by decide +kernel)), (tb 1113 (by decide +kernel) (by decide +kernel)), (tb 1114 (by decide +kernel) (by decide +kernel)), (tb 8 (by decide +kernel) (by decide +kernel)), (tb 1115 (by decide +kernel) (by decide +kernel))⟩

theorem CSL_132 : CSv R_law 132 yX7_goBack cX7_goBack 2 (some .int) := ⟨(tb 1116 (by decide +kernel) (by decide +kernel)), (tb 1117 (by decide +kernel) (by decide +kernel)), (tb 1118 (by decide +kernel) (by decide +kernel)), (tb 8 (by decide +kernel) (by decide +kernel)), (tb 1119 (by decide +kernel) (by decide +kernel))⟩

theorem KLL_13 : Cond.constantLong R_law 13 4294967295 ∈ gtbl := (tb 1120 (by decide +kernel) (by decide +kernel))
