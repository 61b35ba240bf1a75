abbrev cX3_init : ByteArray := prog_5_method_1_code
def yX3_init : MethodName := ⟨RX3, "<init>", "()V"⟩
theorem dX3_init_0 : decode cX3_init 0 = .ok (.aload_n 0, 1) := by decide +kernel
theorem dX3_init_1 : decode cX3_init 1 = .ok (.invokespecial 3, 3) := by decide +kernel
theorem dX3_init_4 : decode cX3_init 4 = .ok (.aload_n 0, 1) := by decide +kernel
theorem dX3_init_5 : decode cX3_init 5 = .ok (.bipush 40, 2) := by decide +kernel
theorem dX3_init_7 : decode cX3_init 7 = .ok (.newarray .int, 2) := by decide +kernel
theorem dX3_init_9 : decode cX3_init 9 = .ok (.putfield 9, 3) := by decide +kernel
theorem dX3_init_12 : decode cX3_init 12 = .ok (.aload_n 0, 1) := by decide +kernel
theorem dX3_init_13 : decode cX3_init 13 = .ok (.bipush 40, 2) := by decide +kernel
theorem dX3_init_15 : decode cX3_init 15 = .ok (.newarray .int, 2) := by decide +kernel
theorem dX3_init_17 : decode cX3_init 17 = .ok (.putfield 15, 3) := by decide +kernel
theorem dX3_init_20 : decode cX3_init 20 = .ok (.aload_n 0, 1) := by decide +kernel
theorem dX3_init_21 : decode cX3_init 21 = .ok (.bipush 40, 2) := by decide +kernel
theorem dX3_init_23 : decode cX3_init 23 = .ok (.newarray .int, 2) := by decide +kernel
theorem dX3_init_25 : decode cX3_init 25 = .ok (.putfield 18, 3) := by decide +kernel
theorem dX3_init_28 : decode cX3_init 28 = .ok (.aload_n 0, 1) := by decide +kernel
theorem dX3_init_29 : decode cX3_init 29 = .ok (.bipush 40, 2) := by decide +kernel
theorem dX3_init_31 : decode cX3_init 31 = .ok (.newarray .int, 2) := by decide +kernel
theorem dX3_init_33 : decode cX3_init 33 = .ok (.putfield 21, 3) := by decide +kernel
theorem dX3_init_36 : decode cX3_init 36 = .ok (.aload_n 0, 1) := by decide +kernel
theorem dX3_init_37 : decode cX3_init 37 = .ok (.iconst 0, 1) := by decide +kernel
theorem dX3_init_38 : decode cX3_init 38 = .ok (.putfield 24, 3) := by decide +kernel
theorem dX3_init_41 : decode cX3_init 41 = .ok (.return_, 1) := by decide +kernel
abbrev cX3_add : ByteArray := prog_5_method_2_code
def yX3_add : MethodName := ⟨RX3, "add", "(IIII)I"⟩
theorem dX3_add_0 : decode cX3_add 0 = .ok (.aload_n 0, 1) := by decide +kernel
theorem dX3_add_1 : decode cX3_add 1 = .ok (.getfield 24, 3) := by decide +kernel
theorem dX3_add_4 : decode cX3_add 4 = .ok (.bipush 40, 2) := by decide +kernel
theorem dX3_add_6 : decode cX3_add 6 = .ok (.if_icmp .lt 5, 3) := by decide +kernel
theorem dX3_add_9 : decode cX3_add 9 = .ok (.iconst (-1), 1) := by decide +kernel
theorem dX3_add_10 : decode cX3_add 10 = .ok (.ireturn, 1) := by decide +kernel
theorem dX3_add_11 : decode cX3_add 11 = .ok (.aload_n 0, 1) := by decide +kernel
theorem dX3_add_12 : decode cX3_add 12 = .ok (.getfield 9, 3) := by decide +kernel
theorem dX3_add_15 : decode cX3_add 15 = .ok (.aload_n 0, 1) := by decide +kernel
theorem dX3_add_16 : decode cX3_add 16 = .ok (.getfield 24, 3) := by decide +kernel
theorem dX3_add_19 : decode cX3_add 19 = .ok (.iload_n 1, 1) := by decide +kernel
theorem dX3_add_20 : decode cX3_add 20 = .ok (.iastore, 1) := by decide +kernel
theorem dX3_add_21 : decode cX3_add 21 = .ok (.aload_n 0, 1) := by decide +kernel
theorem dX3_add_22 : decode cX3_add 22 = .ok (.getfield 15, 3) := by decide +kernel
theorem dX3_add_25 : decode cX3_add 25 = .ok (.aload_n 0, 1) := by decide +kernel
theorem dX3_add_26 : decode cX3_add 26 = .ok (.getfield 24, 3) := by decide +kernel
theorem dX3_add_29 : decode cX3_add 29 = .ok (.iload_n 2, 1) := by decide +kernel
theorem dX3_add_30 : decode cX3_add 30 = .ok (.iastore, 1) := by decide +kernel
theorem dX3_add_31 : decode cX3_add 31 = .ok (.aload_n 0, 1) := by decide +kernel
theorem dX3_add_32 : decode cX3_add 32 = .ok (.getfield 18, 3) := by decide +kernel
theorem dX3_add_35 : decode cX3_add 35 = .ok (.aload_n 0, 1) := by decide +kernel
theorem dX3_add_36 : decode cX3_add 36 = .ok (.getfield 24, 3) := by decide +kernel
theorem dX3_add_39 : decode cX3_add 39 = .ok (.iload_n 3, 1) := by decide +kernel
theorem dX3_add_40 : decode cX3_add 40 = .ok (.iastore, 1) := by decide +kernel
theorem dX3_add_41 : decode cX3_add 41 = .ok (.aload_n 0, 1) := by decide +kernel
theorem dX3_add_42 : decode cX3_add 42 = .ok (.getfield 21, 3) := by decide +kernel
theorem dX3_add_45 : decode cX3_add 45 = .ok (.aload_n 0, 1) := by decide +kernel
theorem dX3_add_46 : decode cX3_add 46 = .ok (.getfield 24, 3) := by decide +kernel
theorem dX3_add_49 : decode cX3_add 49 = .ok (.iload 4, 2) := by decide +kernel
theorem dX3_add_51 : decode cX3_add 51 = .ok (.iastore, 1) := by decide +kernel
theorem dX3_add_52 : decode cX3_add 52 = .ok (.aload_n 0, 1) := by decide +kernel
theorem dX3_add_53 : decode cX3_add 53 = .ok (.dup, 1) := by decide +kernel
theorem dX3_add_54 : decode cX3_add 54 = .ok (.getfield 24, 3) := by decide +kernel
theorem dX3_add_57 : decode cX3_add 57 = .ok (.iconst 1, 1) := by decide +kernel
theorem dX3_add_58 : decode cX3_add 58 = .ok (.iadd, 1) := by decide +kernel
theorem dX3_add_59 : decode cX3_add 59 = .ok (.putfield 24, 3) := by decide +kernel
theorem dX3_add_62 : decode cX3_add 62 = .ok (.aload_n 0, 1) := by decide +kernel
theorem dX3_add_63 : decode cX3_add 63 = .ok (.getfield 24, 3) := by decide +kernel
theorem dX3_add_66 : decode cX3_add 66 = .ok (.iconst 1, 1) := by decide +kernel
theorem dX3_add_67 : decode cX3_add 67 = .ok (.isub, 1) := by decide +kernel
theorem dX3_add_68 : decode cX3_add 68 = .ok (.ireturn, 1) := by decide +kernel
abbrev cX3_has : ByteArray := prog_5_method_3_code
def yX3_has : MethodName := ⟨RX3, "has", "(I)Z"⟩
theorem dX3_has_0 : decode cX3_has 0 = .ok (.iload_n 1, 1) := by decide +kernel
theorem dX3_has_1 : decode cX3_has 1 = .ok (.ifCond .lt 15, 3) := by decide +kernel
theorem dX3_has_4 : decode cX3_has 4 = .ok (.iload_n 1, 1) := by decide +kernel
theorem dX3_has_5 : decode cX3_has 5 = .ok (.aload_n 0, 1) := by decide +kernel
theorem dX3_has_6 : decode cX3_has 6 = .ok (.getfield 24, 3) := by decide +kernel
theorem dX3_has_9 : decode cX3_has 9 = .ok (.if_icmp .ge 7, 3) := by decide +kernel
theorem dX3_has_12 : decode cX3_has 12 = .ok (.iconst 1, 1) := by decide +kernel
theorem dX3_has_13 : decode cX3_has 13 = .ok (.goto 4, 3) := by decide +kernel
theorem dX3_has_16 : decode cX3_has 16 = .ok (.iconst 0, 1) := by decide +kernel
theorem dX3_has_17 : decode cX3_has 17 = .ok (.ireturn, 1) := by decide +kernel
abbrev cX3_countOf : ByteArray := prog_5_method_4_code
def yX3_countOf : MethodName := ⟨RX3, "countOf", "(I)I"⟩
theorem dX3_countOf_0 : decode cX3_countOf 0 = .ok (.iconst 0, 1) := by decide +kernel
theorem dX3_countOf_1 : decode cX3_countOf 1 = .ok (.istore_n 2, 1) := by decide +kernel
theorem dX3_countOf_2 : decode cX3_countOf 2 = .ok (.iconst 0, 1) := by decide +kernel
theorem dX3_countOf_3 : decode cX3_countOf 3 = .ok (.istore_n 3, 1) := by decide +kernel
theorem dX3_countOf_4 : decode cX3_countOf 4 = .ok (.iload_n 3, 1) := by decide +kernel
theorem dX3_countOf_5 : decode cX3_countOf 5 = .ok (.aload_n 0, 1) := by decide +kernel
theorem dX3_countOf_6 : decode cX3_countOf 6 = .ok (.getfield 24, 3) := by decide +kernel
theorem dX3_countOf_9 : decode cX3_countOf 9 = .ok (.if_icmp .ge 22, 3) := by decide +kernel
theorem dX3_countOf_12 : decode cX3_countOf 12 = .ok (.aload_n 0, 1) := by decide +kernel
theorem dX3_countOf_13 : decode cX3_countOf 13 = .ok (.getfield 9, 3) := by decide +kernel
theorem dX3_countOf_16 : decode cX3_countOf 16 = .ok (.iload_n 3, 1) := by decide +kernel
theorem dX3_countOf_17 : decode cX3_countOf 17 = .ok (.iaload, 1) := by decide +kernel
theorem dX3_countOf_18 : decode cX3_countOf 18 = .ok (.iload_n 1, 1) := by decide +kernel
theorem dX3_countOf_19 : decode cX3_countOf 19 = .ok (.if_icmp .ne 6, 3) := by decide +kernel
theorem dX3_countOf_22 : decode cX3_countOf 22 = .ok (.iinc 2 1, 3) := by decide +kernel
theorem dX3_countOf_25 : decode cX3_countOf 25 = .ok (.iinc 3 1, 3) := by decide +kernel
theorem dX3_countOf_28 : decode cX3_countOf 28 = .ok (.goto (-24), 3) := by decide +kernel
theorem dX3_countOf_31 : decode cX3_countOf 31 = .ok (.iload_n 2, 1) := by decide +kernel
theorem dX3_countOf_32 : decode cX3_countOf 32 = .ok (.ireturn, 1) := by decide +kernel
abbrev cX3_sameHeight : ByteArray := prog_5_method_5_code
def yX3_sameHeight : MethodName := ⟨RX3, "sameHeight", "(II)Z"⟩
theorem dX3_sameHeight_0 : decode cX3_sameHeight 0 = .ok (.aload_n 0, 1) := by decide +kernel
theorem dX3_sameHeight_1 : decode cX3_sameHeight 1 = .ok (.getfield 21, 3) := by decide +kernel
theorem dX3_sameHeight_4 : decode cX3_sameHeight 4 = .ok (.iload_n 1, 1) := by decide +kernel
theorem dX3_sameHeight_5 : decode cX3_sameHeight 5 = .ok (.iaload, 1) := by decide +kernel
theorem dX3_sameHeight_6 : decode cX3_sameHeight 6 = .ok (.aload_n 0, 1) := by decide +kernel
theorem dX3_sameHeight_7 : decode cX3_sameHeight 7 = .ok (.getfield 21, 3) := by decide +kernel
theorem dX3_sameHeight_10 : decode cX3_sameHeight 10 = .ok (.iload_n 2, 1) := by decide +kernel
theorem dX3_sameHeight_11 : decode cX3_sameHeight 11 = .ok (.iaload, 1) := by decide +kernel
theorem dX3_sameHeight_12 : decode cX3_sameHeight 12 = .ok (.if_icmp .ne 7, 3) := by decide +kernel
theorem dX3_sameHeight_15 : decode cX3_sameHeight 15 = .ok (.iconst 1, 1) := by decide +kernel
theorem dX3_sameHeight_16 : decode cX3_sameHeight 16 = .ok (.goto 4, 3) := by decide +kernel
theorem dX3_sameHeight_19 : decode cX3_sameHeight 19 = .ok (.iconst 0, 1) := by decide +kernel
theorem dX3_sameHeight_20 : decode cX3_sameHeight 20 = .ok (.ireturn, 1) := by decide +kernel
abbrev cX3_standsAhead : ByteArray := prog_5_method_6_code
def yX3_standsAhead : MethodName := ⟨RX3, "standsAhead", "(II)Z"⟩
theorem dX3_standsAhead_0 : decode cX3_standsAhead 0 = .ok (.aload_n 0, 1) := by decide +kernel
theorem dX3_standsAhead_1 : decode cX3_standsAhead 1 = .ok (.getfield 21, 3) := by decide +kernel
theorem dX3_standsAhead_4 : decode cX3_standsAhead 4 = .ok (.iload_n 1, 1) := by decide +kernel
theorem dX3_standsAhead_5 : decode cX3_standsAhead 5 = .ok (.iaload, 1) := by decide +kernel
theorem dX3_standsAhead_6 : decode cX3_standsAhead 6 = .ok (.aload_n 0, 1) := by decide +kernel
theorem dX3_standsAhead_7 : decode cX3_standsAhead 7 = .ok (.getfield 21, 3) := by decide +kernel
theorem dX3_standsAhead_10 : decode cX3_standsAhead 10 = .ok (.iload_n 2, 1) := by decide +kernel
theorem dX3_standsAhead_11 : decode cX3_standsAhead 11 = .ok (.iaload, 1) := by decide +kernel
theorem dX3_standsAhead_12 : decode cX3_standsAhead 12 = .ok (.if_icmp .eq 24, 3) := by decide +kernel
theorem dX3_standsAhead_15 : decode cX3_standsAhead 15 = .ok (.aload_n 0, 1) := by decide +kernel
theorem dX3_standsAhead_16 : decode cX3_standsAhead 16 = .ok (.getfield 21, 3) := by decide +kernel
theorem dX3_standsAhead_19 : decode cX3_standsAhead 19 = .ok (.iload_n 1, 1) := by decide +kernel
theorem dX3_standsAhead_20 : decode cX3_standsAhead 20 = .ok (.iaload, 1) := by decide +kernel
theorem dX3_standsAhead_21 : decode cX3_standsAhead 21 = .ok (.aload_n 0, 1) := by decide +kernel
theorem dX3_standsAhead_22 : decode cX3_standsAhead 22 = .ok (.getfield 21, 3) := by decide +kernel
theorem dX3_standsAhead_25 : decode cX3_standsAhead 25 = .ok (.iload_n 2, 1) := by decide +kernel
theorem dX3_standsAhead_26 : decode cX3_standsAhead 26 = .ok (.iaload, 1) := by decide +kernel
theorem dX3_standsAhead_27 : decode cX3_standsAhead 27 = .ok (.if_icmp .ge 7, 3) := by decide +kernel
theorem dX3_standsAhead_30 : decode cX3_standsAhead 30 = .ok (.iconst 1, 1) := by decide +kernel
theorem dX3_standsAhead_31 : decode cX3_standsAhead 31 = .ok (.goto 4, 3) := by decide +kernel
theorem dX3_standsAhead_34 : decode cX3_standsAhead 34 = .ok (.iconst 0, 1) := by decide +kernel
theorem dX3_standsAhead_35 : decode cX3_standsAhead 35 = .ok (.ireturn, 1) := by decide +kernel
theorem dX3_standsAhead_36 : decode cX3_standsAhead 36 = .ok (.aload_n 0, 1) := by decide +kernel
theorem dX3_standsAhead_37 : decode cX3_standsAhead 37 = .ok (.getfield 15, 3) := by decide +kernel
theorem dX3_standsAhead_40 : decode cX3_standsAhead 40 = .ok (.iload_n 1, 1) := by decide +kernel
theorem dX3_standsAhead_41 : decode cX3_standsAhead 41 = .ok (.iaload, 1) := by decide +kernel
theorem dX3_standsAhead_42 : decode cX3_standsAhead 42 = .ok (.aload_n 0, 1) := by decide +kernel
theorem dX3_standsAhead_43 : decode cX3_standsAhead 43 = .ok (.getfield 15, 3) := by decide +kernel
theorem dX3_standsAhead_46 : decode cX3_standsAhead 46 = .ok (.iload_n 2, 1) := by decide +kernel
theorem dX3_standsAhead_47 : decode cX3_standsAhead 47 = .ok (.iaload, 1) := by decide +kernel
theorem dX3_standsAhead_48 : decode cX3_standsAhead 48 = .ok (.if_icmp .eq 24, 3) := by decide +kernel
theorem dX3_standsAhead_51 : decode cX3_standsAhead 51 = .ok (.aload_n 0, 1) := by decide +kernel
theorem dX3_standsAhead_52 : decode cX3_standsAhead 52 = .ok (.getfield 15, 3) := by decide +kernel
theorem dX3_standsAhead_55 : decode cX3_standsAhead 55 = .ok (.iload_n 1, 1) := by decide +kernel
theorem dX3_standsAhead_56 : decode cX3_standsAhead 56 = .ok (.iaload, 1) := by decide +kernel
theorem dX3_standsAhead_57 : decode cX3_standsAhead 57 = .ok (.aload_n 0, 1) := by decide +kernel
theorem dX3_standsAhead_58 : decode cX3_standsAhead 58 = .ok (.getfield 15, 3) := by decide +kernel
theorem dX3_standsAhead_61 : decode cX3_standsAhead 61 = .ok (.iload_n 2, 1) := by decide +kernel
theorem dX3_standsAhead_62 : decode cX3_standsAhead 62 = .ok (.iaload, 1) := by decide +kernel
theorem dX3_standsAhead_63 : decode cX3_standsAhead 63 = .ok (.if_icmp .ge 7, 3) := by decide +kernel
theorem dX3_standsAhead_66 : decode cX3_standsAhead 66 = .ok (.iconst 1, 1) := by decide +kernel
theorem dX3_standsAhead_67 : decode cX3_standsAhead 67 = .ok (.goto 4, 3) := by decide +kernel
theorem dX3_standsAhead_70 : decode cX3_standsAhead 70 = .ok (.iconst 0, 1) := by decide +kernel
theorem dX3_standsAhead_71 : decode cX3_standsAhead 71 = .ok (.ireturn, 1) := by decide +kernel
theorem dX3_standsAhead_72 : decode cX3_standsAhead 72 = .ok (.aload_n 0, 1) := by decide +kernel
theorem dX3_standsAhead_73 : decode cX3_standsAhead 73 = .ok (.getfield 18, 3) := by decide +kernel
theorem dX3_standsAhead_76 : decode cX3_standsAhead 76 = .ok (.iload_n 1, 1) := by decide +kernel
theorem dX3_standsAhead_77 : decode cX3_standsAhead 77 = .ok (.iaload, 1) := by decide +kernel
theorem dX3_standsAhead_78 : decode cX3_standsAhead 78 = .ok (.aload_n 0, 1) := by decide +kernel
theorem dX3_standsAhead_79 : decode cX3_standsAhead 79 = .ok (.getfield 18, 3) := by decide +kernel
theorem dX3_standsAhead_82 : decode cX3_standsAhead 82 = .ok (.iload_n 2, 1) := by decide +kernel
theorem dX3_standsAhead_83 : decode cX3_standsAhead 83 = .ok (.iaload, 1) := by decide +kernel
theorem dX3_standsAhead_84 : decode cX3_standsAhead 84 = .ok (.if_icmp .eq 26, 3) := by decide +kernel
theorem dX3_standsAhead_87 : decode cX3_standsAhead 87 = .ok (.aload_n 0, 1) := by decide +kernel
theorem dX3_standsAhead_88 : decode cX3_standsAhead 88 = .ok (.getfield 18, 3) := by decide +kernel
theorem dX3_standsAhead_91 : decode cX3_standsAhead 91 = .ok (.iload_n 1, 1) := by decide +kernel
theorem dX3_standsAhead_92 : decode cX3_standsAhead 92 = .ok (.iaload, 1) := by decide +kernel
theorem dX3_standsAhead_93 : decode cX3_standsAhead 93 = .ok (.aload_n 0, 1) := by decide +kernel
theorem dX3_standsAhead_94 : decode cX3_standsAhead 94 = .ok (.getfield 18, 3) := by decide +kernel
theorem dX3_standsAhead_97 : decode cX3_standsAhead 97 = .ok (.iload_n 2, 1) := by decide +kernel
theorem dX3_standsAhead_98 : decode cX3_standsAhead 98 = .ok (.iaload, 1) := by decide +kernel
theorem dX3_standsAhead_99 : decode cX3_standsAhead 99 = .ok (.if_icmp .ge 7, 3) := by decide +kernel
theorem dX3_standsAhead_102 : decode cX3_standsAhead 102 = .ok (.iconst 1, 1) := by decide +kernel
theorem dX3_standsAhead_103 : decode cX3_standsAhead 103 = .ok (.goto 17, 3) := by decide +kernel
theorem dX3_standsAhead_106 : decode cX3_standsAhead 106 = .ok (.iconst 0, 1) := by decide +kernel
theorem dX3_standsAhead_107 : decode cX3_standsAhead 107 = .ok (.goto 13, 3) := by decide +kernel
theorem dX3_standsAhead_110 : decode cX3_standsAhead 110 = .ok (.iload_n 1, 1) := by decide +kernel
theorem dX3_standsAhead_111 : decode cX3_standsAhead 111 = .ok (.iload_n 2, 1) := by decide +kernel
theorem dX3_standsAhead_112 : decode cX3_standsAhead 112 = .ok (.if_icmp .ge 7, 3) := by decide +kernel
theorem dX3_standsAhead_115 : decode cX3_standsAhead 115 = .ok (.iconst 1, 1) := by decide +kernel
theorem dX3_standsAhead_116 : decode cX3_standsAhead 116 = .ok (.goto 4, 3) := by decide +kernel
theorem dX3_standsAhead_119 : decode cX3_standsAhead 119 = .ok (.iconst 0, 1) := by decide +kernel
theorem dX3_standsAhead_120 : decode cX3_standsAhead 120 = .ok (.ireturn, 1) := by decide +kernel
abbrev cX3_wayBetween : ByteArray := prog_5_method_7_code
def yX3_wayBetween : MethodName := ⟨RX3, "wayBetween", "(II)I"⟩
theorem dX3_wayBetween_0 : decode cX3_wayBetween 0 = .ok (.aload_n 0, 1) := by decide +kernel
theorem dX3_wayBetween_1 : decode cX3_wayBetween 1 = .ok (.iload_n 1, 1) := by decide +kernel
theorem dX3_wayBetween_2 : decode cX3_wayBetween 2 = .ok (.invokevirtual 28, 3) := by decide +kernel
theorem dX3_wayBetween_5 : decode cX3_wayBetween 5 = .ok (.ifCond .eq 12, 3) := by decide +kernel
theorem dX3_wayBetween_8 : decode cX3_wayBetween 8 = .ok (.aload_n 0, 1) := by decide +kernel
theorem dX3_wayBetween_9 : decode cX3_wayBetween 9 = .ok (.getfield 15, 3) := by decide +kernel
theorem dX3_wayBetween_12 : decode cX3_wayBetween 12 = .ok (.iload_n 1, 1) := by decide +kernel
theorem dX3_wayBetween_13 : decode cX3_wayBetween 13 = .ok (.iaload, 1) := by decide +kernel
theorem dX3_wayBetween_14 : decode cX3_wayBetween 14 = .ok (.goto 4, 3) := by decide +kernel
theorem dX3_wayBetween_17 : decode cX3_wayBetween 17 = .ok (.iconst 0, 1) := by decide +kernel
theorem dX3_wayBetween_18 : decode cX3_wayBetween 18 = .ok (.aload_n 0, 1) := by decide +kernel
theorem dX3_wayBetween_19 : decode cX3_wayBetween 19 = .ok (.iload_n 2, 1) := by decide +kernel
theorem dX3_wayBetween_20 : decode cX3_wayBetween 20 = .ok (.invokevirtual 28, 3) := by decide +kernel
theorem dX3_wayBetween_23 : decode cX3_wayBetween 23 = .ok (.ifCond .eq 12, 3) := by decide +kernel
theorem dX3_wayBetween_26 : decode cX3_wayBetween 26 = .ok (.aload_n 0, 1) := by decide +kernel
theorem dX3_wayBetween_27 : decode cX3_wayBetween 27 = .ok (.getfield 15, 3) := by decide +kernel
theorem dX3_wayBetween_30 : decode cX3_wayBetween 30 = .ok (.iload_n 2, 1) := by decide +kernel
theorem dX3_wayBetween_31 : decode cX3_wayBetween 31 = .ok (.iaload, 1) := by decide +kernel
theorem dX3_wayBetween_32 : decode cX3_wayBetween 32 = .ok (.goto 4, 3) := by decide +kernel
theorem dX3_wayBetween_35 : decode cX3_wayBetween 35 = .ok (.iconst 0, 1) := by decide +kernel
theorem dX3_wayBetween_36 : decode cX3_wayBetween 36 = .ok (.isub, 1) := by decide +kernel
theorem dX3_wayBetween_37 : decode cX3_wayBetween 37 = .ok (.istore_n 3, 1) := by decide +kernel
theorem dX3_wayBetween_38 : decode cX3_wayBetween 38 = .ok (.aload_n 0, 1) := by decide +kernel
theorem dX3_wayBetween_39 : decode cX3_wayBetween 39 = .ok (.iload_n 1, 1) := by decide +kernel
theorem dX3_wayBetween_40 : decode cX3_wayBetween 40 = .ok (.invokevirtual 28, 3) := by decide +kernel
theorem dX3_wayBetween_43 : decode cX3_wayBetween 43 = .ok (.ifCond .eq 12, 3) := by decide +kernel
theorem dX3_wayBetween_46 : decode cX3_wayBetween 46 = .ok (.aload_n 0, 1) := by decide +kernel
theorem dX3_wayBetween_47 : decode cX3_wayBetween 47 = .ok (.getfield 18, 3) := by decide +kernel
theorem dX3_wayBetween_50 : decode cX3_wayBetween 50 = .ok (.iload_n 1, 1) := by decide +kernel
theorem dX3_wayBetween_51 : decode cX3_wayBetween 51 = .ok (.iaload, 1) := by decide +kernel
theorem dX3_wayBetween_52 : decode cX3_wayBetween 52 = .ok (.goto 4, 3) := by decide +kernel
theorem dX3_wayBetween_55 : decode cX3_wayBetween 55 = .ok (.iconst 0, 1) := by decide +kernel
theorem dX3_wayBetween_56 : decode cX3_wayBetween 56 = .ok (.aload_n 0, 1) := by decide +kernel
theorem dX3_wayBetween_57 : decode cX3_wayBetween 57 = .ok (.iload_n 2, 1) := by decide +kernel
theorem dX3_wayBetween_58 : decode cX3_wayBetween 58 = .ok (.invokevirtual 28, 3) := by decide +kernel
theorem dX3_wayBetween_61 : decode cX3_wayBetween 61 = .ok (.ifCond .eq 12, 3) := by decide +kernel
theorem dX3_wayBetween_64 : decode cX3_wayBetween 64 = .ok (.aload_n 0, 1) := by decide +kernel
theorem dX3_wayBetween_65 : decode cX3_wayBetween 65 = .ok (.getfield 18, 3) := by decide +kernel
theorem dX3_wayBetween_68 : decode cX3_wayBetween 68 = .ok (.iload_n 2, 1) := by decide +kernel
theorem dX3_wayBetween_69 : decode cX3_wayBetween 69 = .ok (.iaload, 1) := by decide +kernel
theorem dX3_wayBetween_70 : decode cX3_wayBetween 70 = .ok (.goto 4, 3) := by decide +kernel
theorem dX3_wayBetween_73 : decode cX3_wayBetween 73 = .ok (.iconst 0, 1) := by decide +kernel
theorem dX3_wayBetween_74 : decode cX3_wayBetween 74 = .ok (.isub, 1) := by decide +kernel
theorem dX3_wayBetween_75 : decode cX3_wayBetween 75 = .ok (.istore 4, 2) := by decide +kernel
theorem dX3_wayBetween_77 : decode cX3_wayBetween 77 = .ok (.iload_n 3, 1) := by decide +kernel
theorem dX3_wayBetween_78 : decode cX3_wayBetween 78 = .ok (.invokestatic 32, 3) := by decide +kernel
theorem dX3_wayBetween_81 : decode cX3_wayBetween 81 = .ok (.iload 4, 2) := by decide +kernel
theorem dX3_wayBetween_83 : decode cX3_wayBetween 83 = .ok (.invokestatic 32, 3) := by decide +kernel
theorem dX3_wayBetween_86 : decode cX3_wayBetween 86 = .ok (.invokestatic 38, 3) := by decide +kernel
theorem dX3_wayBetween_89 : decode cX3_wayBetween 89 = .ok (.ireturn, 1) := by decide +kernel
