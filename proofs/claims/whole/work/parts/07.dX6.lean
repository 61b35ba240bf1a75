abbrev cX6_init : ByteArray := prog_1_method_1_code
def yX6_init : MethodName := ⟨RX6, "<init>", "(JI)V"⟩
theorem dX6_init_0 : decode cX6_init 0 = .ok (.aload_n 0, 1) := by decide +kernel
theorem dX6_init_1 : decode cX6_init 1 = .ok (.invokespecial 1, 3) := by decide +kernel
theorem dX6_init_4 : decode cX6_init 4 = .ok (.aload_n 0, 1) := by decide +kernel
theorem dX6_init_5 : decode cX6_init 5 = .ok (.new 7, 3) := by decide +kernel
theorem dX6_init_8 : decode cX6_init 8 = .ok (.dup, 1) := by decide +kernel
theorem dX6_init_9 : decode cX6_init 9 = .ok (.invokespecial 9, 3) := by decide +kernel
theorem dX6_init_12 : decode cX6_init 12 = .ok (.putfield 10, 3) := by decide +kernel
theorem dX6_init_15 : decode cX6_init 15 = .ok (.aload_n 0, 1) := by decide +kernel
theorem dX6_init_16 : decode cX6_init 16 = .ok (.new 16, 3) := by decide +kernel
theorem dX6_init_19 : decode cX6_init 19 = .ok (.dup, 1) := by decide +kernel
theorem dX6_init_20 : decode cX6_init 20 = .ok (.invokespecial 18, 3) := by decide +kernel
theorem dX6_init_23 : decode cX6_init 23 = .ok (.putfield 19, 3) := by decide +kernel
theorem dX6_init_26 : decode cX6_init 26 = .ok (.aload_n 0, 1) := by decide +kernel
theorem dX6_init_27 : decode cX6_init 27 = .ok (.iconst 3, 1) := by decide +kernel
theorem dX6_init_28 : decode cX6_init 28 = .ok (.anewarray 23, 3) := by decide +kernel
theorem dX6_init_31 : decode cX6_init 31 = .ok (.dup, 1) := by decide +kernel
theorem dX6_init_32 : decode cX6_init 32 = .ok (.iconst 0, 1) := by decide +kernel
theorem dX6_init_33 : decode cX6_init 33 = .ok (.new 23, 3) := by decide +kernel
theorem dX6_init_36 : decode cX6_init 36 = .ok (.dup, 1) := by decide +kernel
theorem dX6_init_37 : decode cX6_init 37 = .ok (.invokespecial 25, 3) := by decide +kernel
theorem dX6_init_40 : decode cX6_init 40 = .ok (.aastore, 1) := by decide +kernel
theorem dX6_init_41 : decode cX6_init 41 = .ok (.dup, 1) := by decide +kernel
theorem dX6_init_42 : decode cX6_init 42 = .ok (.iconst 1, 1) := by decide +kernel
theorem dX6_init_43 : decode cX6_init 43 = .ok (.new 23, 3) := by decide +kernel
theorem dX6_init_46 : decode cX6_init 46 = .ok (.dup, 1) := by decide +kernel
theorem dX6_init_47 : decode cX6_init 47 = .ok (.invokespecial 25, 3) := by decide +kernel
theorem dX6_init_50 : decode cX6_init 50 = .ok (.aastore, 1) := by decide +kernel
theorem dX6_init_51 : decode cX6_init 51 = .ok (.dup, 1) := by decide +kernel
theorem dX6_init_52 : decode cX6_init 52 = .ok (.iconst 2, 1) := by decide +kernel
theorem dX6_init_53 : decode cX6_init 53 = .ok (.new 23, 3) := by decide +kernel
theorem dX6_init_56 : decode cX6_init 56 = .ok (.dup, 1) := by decide +kernel
theorem dX6_init_57 : decode cX6_init 57 = .ok (.invokespecial 25, 3) := by decide +kernel
theorem dX6_init_60 : decode cX6_init 60 = .ok (.aastore, 1) := by decide +kernel
theorem dX6_init_61 : decode cX6_init 61 = .ok (.putfield 26, 3) := by decide +kernel
theorem dX6_init_64 : decode cX6_init 64 = .ok (.aload_n 0, 1) := by decide +kernel
theorem dX6_init_65 : decode cX6_init 65 = .ok (.new 30, 3) := by decide +kernel
theorem dX6_init_68 : decode cX6_init 68 = .ok (.dup, 1) := by decide +kernel
theorem dX6_init_69 : decode cX6_init 69 = .ok (.invokespecial 32, 3) := by decide +kernel
theorem dX6_init_72 : decode cX6_init 72 = .ok (.putfield 33, 3) := by decide +kernel
theorem dX6_init_75 : decode cX6_init 75 = .ok (.aload_n 0, 1) := by decide +kernel
theorem dX6_init_76 : decode cX6_init 76 = .ok (.new 37, 3) := by decide +kernel
theorem dX6_init_79 : decode cX6_init 79 = .ok (.dup, 1) := by decide +kernel
theorem dX6_init_80 : decode cX6_init 80 = .ok (.invokespecial 39, 3) := by decide +kernel
theorem dX6_init_83 : decode cX6_init 83 = .ok (.putfield 40, 3) := by decide +kernel
theorem dX6_init_86 : decode cX6_init 86 = .ok (.aload_n 0, 1) := by decide +kernel
theorem dX6_init_87 : decode cX6_init 87 = .ok (.bipush 40, 2) := by decide +kernel
theorem dX6_init_89 : decode cX6_init 89 = .ok (.newarray .int, 2) := by decide +kernel
theorem dX6_init_91 : decode cX6_init 91 = .ok (.putfield 44, 3) := by decide +kernel
theorem dX6_init_94 : decode cX6_init 94 = .ok (.aload_n 0, 1) := by decide +kernel
theorem dX6_init_95 : decode cX6_init 95 = .ok (.iconst 0, 1) := by decide +kernel
theorem dX6_init_96 : decode cX6_init 96 = .ok (.putfield 48, 3) := by decide +kernel
theorem dX6_init_99 : decode cX6_init 99 = .ok (.aload_n 0, 1) := by decide +kernel
theorem dX6_init_100 : decode cX6_init 100 = .ok (.iconst 0, 1) := by decide +kernel
theorem dX6_init_101 : decode cX6_init 101 = .ok (.putfield 52, 3) := by decide +kernel
theorem dX6_init_104 : decode cX6_init 104 = .ok (.aload_n 0, 1) := by decide +kernel
theorem dX6_init_105 : decode cX6_init 105 = .ok (.iconst 1, 1) := by decide +kernel
theorem dX6_init_106 : decode cX6_init 106 = .ok (.bipush 120, 2) := by decide +kernel
theorem dX6_init_108 : decode cX6_init 108 = .ok (.iload_n 3, 1) := by decide +kernel
theorem dX6_init_109 : decode cX6_init 109 = .ok (.invokestatic 55, 3) := by decide +kernel
theorem dX6_init_112 : decode cX6_init 112 = .ok (.invokestatic 61, 3) := by decide +kernel
theorem dX6_init_115 : decode cX6_init 115 = .ok (.putfield 64, 3) := by decide +kernel
theorem dX6_init_118 : decode cX6_init 118 = .ok (.aload_n 0, 1) := by decide +kernel
theorem dX6_init_119 : decode cX6_init 119 = .ok (.new 67, 3) := by decide +kernel
theorem dX6_init_122 : decode cX6_init 122 = .ok (.dup, 1) := by decide +kernel
theorem dX6_init_123 : decode cX6_init 123 = .ok (.lload_n 1, 1) := by decide +kernel
theorem dX6_init_124 : decode cX6_init 124 = .ok (.invokespecial 69, 3) := by decide +kernel
theorem dX6_init_127 : decode cX6_init 127 = .ok (.putfield 72, 3) := by decide +kernel
theorem dX6_init_130 : decode cX6_init 130 = .ok (.return_, 1) := by decide +kernel
abbrev cX6_kind : ByteArray := prog_1_method_2_code
def yX6_kind : MethodName := ⟨RX6, "kind", "(II)I"⟩
theorem dX6_kind_0 : decode cX6_kind 0 = .ok (.iload_n 1, 1) := by decide +kernel
theorem dX6_kind_1 : decode cX6_kind 1 = .ok (.iconst 1, 1) := by decide +kernel
theorem dX6_kind_2 : decode cX6_kind 2 = .ok (.if_icmp .lt 8, 3) := by decide +kernel
theorem dX6_kind_5 : decode cX6_kind 5 = .ok (.iload_n 1, 1) := by decide +kernel
theorem dX6_kind_6 : decode cX6_kind 6 = .ok (.iconst 4, 1) := by decide +kernel
theorem dX6_kind_7 : decode cX6_kind 7 = .ok (.if_icmp .le 13, 3) := by decide +kernel
theorem dX6_kind_10 : decode cX6_kind 10 = .ok (.new 76, 3) := by decide +kernel
theorem dX6_kind_13 : decode cX6_kind 13 = .ok (.dup, 1) := by decide +kernel
theorem dX6_kind_14 : decode cX6_kind 14 = .ok (.ldc 78, 2) := by decide +kernel
theorem dX6_kind_16 : decode cX6_kind 16 = .ok (.invokespecial 80, 3) := by decide +kernel
theorem dX6_kind_19 : decode cX6_kind 19 = .ok (.athrow, 1) := by decide +kernel
theorem dX6_kind_20 : decode cX6_kind 20 = .ok (.iload_n 2, 1) := by decide +kernel
theorem dX6_kind_21 : decode cX6_kind 21 = .ok (.ifCond .lt 9, 3) := by decide +kernel
theorem dX6_kind_24 : decode cX6_kind 24 = .ok (.iload_n 2, 1) := by decide +kernel
theorem dX6_kind_25 : decode cX6_kind 25 = .ok (.bipush 7, 2) := by decide +kernel
theorem dX6_kind_27 : decode cX6_kind 27 = .ok (.if_icmp .le 13, 3) := by decide +kernel
theorem dX6_kind_30 : decode cX6_kind 30 = .ok (.new 76, 3) := by decide +kernel
theorem dX6_kind_33 : decode cX6_kind 33 = .ok (.dup, 1) := by decide +kernel
theorem dX6_kind_34 : decode cX6_kind 34 = .ok (.ldc 83, 2) := by decide +kernel
theorem dX6_kind_36 : decode cX6_kind 36 = .ok (.invokespecial 80, 3) := by decide +kernel
theorem dX6_kind_39 : decode cX6_kind 39 = .ok (.athrow, 1) := by decide +kernel
theorem dX6_kind_40 : decode cX6_kind 40 = .ok (.aload_n 0, 1) := by decide +kernel
theorem dX6_kind_41 : decode cX6_kind 41 = .ok (.getfield 10, 3) := by decide +kernel
theorem dX6_kind_44 : decode cX6_kind 44 = .ok (.iload_n 1, 1) := by decide +kernel
theorem dX6_kind_45 : decode cX6_kind 45 = .ok (.iload_n 2, 1) := by decide +kernel
theorem dX6_kind_46 : decode cX6_kind 46 = .ok (.invokevirtual 85, 3) := by decide +kernel
theorem dX6_kind_49 : decode cX6_kind 49 = .ok (.ireturn, 1) := by decide +kernel
abbrev cX6_part : ByteArray := prog_1_method_3_code
def yX6_part : MethodName := ⟨RX6, "part", "(IJJJ)I"⟩
theorem dX6_part_0 : decode cX6_part 0 = .ok (.aload_n 0, 1) := by decide +kernel
theorem dX6_part_1 : decode cX6_part 1 = .ok (.iload_n 1, 1) := by decide +kernel
theorem dX6_part_2 : decode cX6_part 2 = .ok (.invokevirtual 88, 3) := by decide +kernel
theorem dX6_part_5 : decode cX6_part 5 = .ok (.lload_n 2, 1) := by decide +kernel
theorem dX6_part_6 : decode cX6_part 6 = .ok (.lconst 0, 1) := by decide +kernel
theorem dX6_part_7 : decode cX6_part 7 = .ok (.lcmp, 1) := by decide +kernel
theorem dX6_part_8 : decode cX6_part 8 = .ok (.ifCond .lt 27, 3) := by decide +kernel
theorem dX6_part_11 : decode cX6_part 11 = .ok (.lload_n 2, 1) := by decide +kernel
theorem dX6_part_12 : decode cX6_part 12 = .ok (.ldc2_w 92, 3) := by decide +kernel
theorem dX6_part_15 : decode cX6_part 15 = .ok (.lcmp, 1) := by decide +kernel
theorem dX6_part_16 : decode cX6_part 16 = .ok (.ifCond .gt 19, 3) := by decide +kernel
theorem dX6_part_19 : decode cX6_part 19 = .ok (.lload 4, 2) := by decide +kernel
theorem dX6_part_21 : decode cX6_part 21 = .ok (.lconst 0, 1) := by decide +kernel
theorem dX6_part_22 : decode cX6_part 22 = .ok (.lcmp, 1) := by decide +kernel
theorem dX6_part_23 : decode cX6_part 23 = .ok (.ifCond .lt 12, 3) := by decide +kernel
theorem dX6_part_26 : decode cX6_part 26 = .ok (.lload 4, 2) := by decide +kernel
theorem dX6_part_28 : decode cX6_part 28 = .ok (.ldc2_w 92, 3) := by decide +kernel
theorem dX6_part_31 : decode cX6_part 31 = .ok (.lcmp, 1) := by decide +kernel
theorem dX6_part_32 : decode cX6_part 32 = .ok (.ifCond .le 13, 3) := by decide +kernel
theorem dX6_part_35 : decode cX6_part 35 = .ok (.new 76, 3) := by decide +kernel
theorem dX6_part_38 : decode cX6_part 38 = .ok (.dup, 1) := by decide +kernel
theorem dX6_part_39 : decode cX6_part 39 = .ok (.ldc 94, 2) := by decide +kernel
theorem dX6_part_41 : decode cX6_part 41 = .ok (.invokespecial 80, 3) := by decide +kernel
theorem dX6_part_44 : decode cX6_part 44 = .ok (.athrow, 1) := by decide +kernel
theorem dX6_part_45 : decode cX6_part 45 = .ok (.lload 6, 2) := by decide +kernel
theorem dX6_part_47 : decode cX6_part 47 = .ok (.lconst 0, 1) := by decide +kernel
theorem dX6_part_48 : decode cX6_part 48 = .ok (.lcmp, 1) := by decide +kernel
theorem dX6_part_49 : decode cX6_part 49 = .ok (.ifCond .lt 12, 3) := by decide +kernel
theorem dX6_part_52 : decode cX6_part 52 = .ok (.lload 6, 2) := by decide +kernel
theorem dX6_part_54 : decode cX6_part 54 = .ok (.ldc2_w 96, 3) := by decide +kernel
theorem dX6_part_57 : decode cX6_part 57 = .ok (.lcmp, 1) := by decide +kernel
theorem dX6_part_58 : decode cX6_part 58 = .ok (.ifCond .le 13, 3) := by decide +kernel
theorem dX6_part_61 : decode cX6_part 61 = .ok (.new 76, 3) := by decide +kernel
theorem dX6_part_64 : decode cX6_part 64 = .ok (.dup, 1) := by decide +kernel
theorem dX6_part_65 : decode cX6_part 65 = .ok (.ldc 98, 2) := by decide +kernel
theorem dX6_part_67 : decode cX6_part 67 = .ok (.invokespecial 80, 3) := by decide +kernel
theorem dX6_part_70 : decode cX6_part 70 = .ok (.athrow, 1) := by decide +kernel
theorem dX6_part_71 : decode cX6_part 71 = .ok (.aload_n 0, 1) := by decide +kernel
theorem dX6_part_72 : decode cX6_part 72 = .ok (.getfield 19, 3) := by decide +kernel
theorem dX6_part_75 : decode cX6_part 75 = .ok (.iload_n 1, 1) := by decide +kernel
theorem dX6_part_76 : decode cX6_part 76 = .ok (.lload_n 2, 1) := by decide +kernel
theorem dX6_part_77 : decode cX6_part 77 = .ok (.l2i, 1) := by decide +kernel
theorem dX6_part_78 : decode cX6_part 78 = .ok (.lload 4, 2) := by decide +kernel
theorem dX6_part_80 : decode cX6_part 80 = .ok (.l2i, 1) := by decide +kernel
theorem dX6_part_81 : decode cX6_part 81 = .ok (.lload 6, 2) := by decide +kernel
theorem dX6_part_83 : decode cX6_part 83 = .ok (.l2i, 1) := by decide +kernel
theorem dX6_part_84 : decode cX6_part 84 = .ok (.invokevirtual 100, 3) := by decide +kernel
theorem dX6_part_87 : decode cX6_part 87 = .ok (.ireturn, 1) := by decide +kernel
abbrev cX6_machine : ByteArray := prog_1_method_4_code
def yX6_machine : MethodName := ⟨RX6, "machine", "(II)I"⟩
theorem dX6_machine_0 : decode cX6_machine 0 = .ok (.iload_n 1, 1) := by decide +kernel
theorem dX6_machine_1 : decode cX6_machine 1 = .ok (.ifCond .lt 10, 3) := by decide +kernel
theorem dX6_machine_4 : decode cX6_machine 4 = .ok (.iload_n 1, 1) := by decide +kernel
theorem dX6_machine_5 : decode cX6_machine 5 = .ok (.sipush 255, 3) := by decide +kernel
theorem dX6_machine_8 : decode cX6_machine 8 = .ok (.if_icmp .le 13, 3) := by decide +kernel
theorem dX6_machine_11 : decode cX6_machine 11 = .ok (.new 76, 3) := by decide +kernel
theorem dX6_machine_14 : decode cX6_machine 14 = .ok (.dup, 1) := by decide +kernel
theorem dX6_machine_15 : decode cX6_machine 15 = .ok (.ldc 103, 2) := by decide +kernel
theorem dX6_machine_17 : decode cX6_machine 17 = .ok (.invokespecial 80, 3) := by decide +kernel
theorem dX6_machine_20 : decode cX6_machine 20 = .ok (.athrow, 1) := by decide +kernel
theorem dX6_machine_21 : decode cX6_machine 21 = .ok (.iload_n 2, 1) := by decide +kernel
theorem dX6_machine_22 : decode cX6_machine 22 = .ok (.iconst 1, 1) := by decide +kernel
theorem dX6_machine_23 : decode cX6_machine 23 = .ok (.if_icmp .lt 9, 3) := by decide +kernel
theorem dX6_machine_26 : decode cX6_machine 26 = .ok (.iload_n 2, 1) := by decide +kernel
theorem dX6_machine_27 : decode cX6_machine 27 = .ok (.bipush 6, 2) := by decide +kernel
theorem dX6_machine_29 : decode cX6_machine 29 = .ok (.if_icmp .le 13, 3) := by decide +kernel
theorem dX6_machine_32 : decode cX6_machine 32 = .ok (.new 76, 3) := by decide +kernel
theorem dX6_machine_35 : decode cX6_machine 35 = .ok (.dup, 1) := by decide +kernel
theorem dX6_machine_36 : decode cX6_machine 36 = .ok (.ldc 105, 2) := by decide +kernel
theorem dX6_machine_38 : decode cX6_machine 38 = .ok (.invokespecial 80, 3) := by decide +kernel
theorem dX6_machine_41 : decode cX6_machine 41 = .ok (.athrow, 1) := by decide +kernel
theorem dX6_machine_42 : decode cX6_machine 42 = .ok (.aload_n 0, 1) := by decide +kernel
theorem dX6_machine_43 : decode cX6_machine 43 = .ok (.getfield 48, 3) := by decide +kernel
theorem dX6_machine_46 : decode cX6_machine 46 = .ok (.iconst 3, 1) := by decide +kernel
theorem dX6_machine_47 : decode cX6_machine 47 = .ok (.if_icmp .lt 5, 3) := by decide +kernel
theorem dX6_machine_50 : decode cX6_machine 50 = .ok (.iconst (-1), 1) := by decide +kernel
theorem dX6_machine_51 : decode cX6_machine 51 = .ok (.ireturn, 1) := by decide +kernel
theorem dX6_machine_52 : decode cX6_machine 52 = .ok (.aload_n 0, 1) := by decide +kernel
theorem dX6_machine_53 : decode cX6_machine 53 = .ok (.getfield 26, 3) := by decide +kernel
theorem dX6_machine_56 : decode cX6_machine 56 = .ok (.aload_n 0, 1) := by decide +kernel
theorem dX6_machine_57 : decode cX6_machine 57 = .ok (.getfield 48, 3) := by decide +kernel
theorem dX6_machine_60 : decode cX6_machine 60 = .ok (.aaload, 1) := by decide +kernel
theorem dX6_machine_61 : decode cX6_machine 61 = .ok (.iload_n 1, 1) := by decide +kernel
theorem dX6_machine_62 : decode cX6_machine 62 = .ok (.putfield 107, 3) := by decide +kernel
theorem dX6_machine_65 : decode cX6_machine 65 = .ok (.aload_n 0, 1) := by decide +kernel
theorem dX6_machine_66 : decode cX6_machine 66 = .ok (.getfield 26, 3) := by decide +kernel
theorem dX6_machine_69 : decode cX6_machine 69 = .ok (.aload_n 0, 1) := by decide +kernel
theorem dX6_machine_70 : decode cX6_machine 70 = .ok (.getfield 48, 3) := by decide +kernel
theorem dX6_machine_73 : decode cX6_machine 73 = .ok (.aaload, 1) := by decide +kernel
theorem dX6_machine_74 : decode cX6_machine 74 = .ok (.iload_n 2, 1) := by decide +kernel
theorem dX6_machine_75 : decode cX6_machine 75 = .ok (.putfield 110, 3) := by decide +kernel
theorem dX6_machine_78 : decode cX6_machine 78 = .ok (.aload_n 0, 1) := by decide +kernel
theorem dX6_machine_79 : decode cX6_machine 79 = .ok (.dup, 1) := by decide +kernel
theorem dX6_machine_80 : decode cX6_machine 80 = .ok (.getfield 48, 3) := by decide +kernel
theorem dX6_machine_83 : decode cX6_machine 83 = .ok (.iconst 1, 1) := by decide +kernel
theorem dX6_machine_84 : decode cX6_machine 84 = .ok (.iadd, 1) := by decide +kernel
theorem dX6_machine_85 : decode cX6_machine 85 = .ok (.putfield 48, 3) := by decide +kernel
theorem dX6_machine_88 : decode cX6_machine 88 = .ok (.aload_n 0, 1) := by decide +kernel
theorem dX6_machine_89 : decode cX6_machine 89 = .ok (.getfield 48, 3) := by decide +kernel
theorem dX6_machine_92 : decode cX6_machine 92 = .ok (.iconst 1, 1) := by decide +kernel
theorem dX6_machine_93 : decode cX6_machine 93 = .ok (.isub, 1) := by decide +kernel
theorem dX6_machine_94 : decode cX6_machine 94 = .ok (.ireturn, 1) := by decide +kernel
abbrev cX6_fixed : ByteArray := prog_1_method_5_code
def yX6_fixed : MethodName := ⟨RX6, "fixed", "(II)Z"⟩
theorem dX6_fixed_0 : decode cX6_fixed 0 = .ok (.aload_n 0, 1) := by decide +kernel
theorem dX6_fixed_1 : decode cX6_fixed 1 = .ok (.iload_n 1, 1) := by decide +kernel
theorem dX6_fixed_2 : decode cX6_fixed 2 = .ok (.invokevirtual 88, 3) := by decide +kernel
theorem dX6_fixed_5 : decode cX6_fixed 5 = .ok (.iload_n 2, 1) := by decide +kernel
theorem dX6_fixed_6 : decode cX6_fixed 6 = .ok (.ifCond .lt 11, 3) := by decide +kernel
theorem dX6_fixed_9 : decode cX6_fixed 9 = .ok (.iload_n 2, 1) := by decide +kernel
theorem dX6_fixed_10 : decode cX6_fixed 10 = .ok (.aload_n 0, 1) := by decide +kernel
theorem dX6_fixed_11 : decode cX6_fixed 11 = .ok (.getfield 64, 3) := by decide +kernel
theorem dX6_fixed_14 : decode cX6_fixed 14 = .ok (.if_icmp .lt 13, 3) := by decide +kernel
theorem dX6_fixed_17 : decode cX6_fixed 17 = .ok (.new 113, 3) := by decide +kernel
theorem dX6_fixed_20 : decode cX6_fixed 20 = .ok (.dup, 1) := by decide +kernel
theorem dX6_fixed_21 : decode cX6_fixed 21 = .ok (.ldc 115, 2) := by decide +kernel
theorem dX6_fixed_23 : decode cX6_fixed 23 = .ok (.invokespecial 117, 3) := by decide +kernel
theorem dX6_fixed_26 : decode cX6_fixed 26 = .ok (.athrow, 1) := by decide +kernel
theorem dX6_fixed_27 : decode cX6_fixed 27 = .ok (.aload_n 0, 1) := by decide +kernel
theorem dX6_fixed_28 : decode cX6_fixed 28 = .ok (.getfield 10, 3) := by decide +kernel
theorem dX6_fixed_31 : decode cX6_fixed 31 = .ok (.getfield 118, 3) := by decide +kernel
theorem dX6_fixed_34 : decode cX6_fixed 34 = .ok (.iload_n 1, 1) := by decide +kernel
theorem dX6_fixed_35 : decode cX6_fixed 35 = .ok (.iaload, 1) := by decide +kernel
theorem dX6_fixed_36 : decode cX6_fixed 36 = .ok (.istore_n 3, 1) := by decide +kernel
theorem dX6_fixed_37 : decode cX6_fixed 37 = .ok (.aload_n 0, 1) := by decide +kernel
theorem dX6_fixed_38 : decode cX6_fixed 38 = .ok (.getfield 10, 3) := by decide +kernel
theorem dX6_fixed_41 : decode cX6_fixed 41 = .ok (.getfield 121, 3) := by decide +kernel
theorem dX6_fixed_44 : decode cX6_fixed 44 = .ok (.iload_n 1, 1) := by decide +kernel
theorem dX6_fixed_45 : decode cX6_fixed 45 = .ok (.iaload, 1) := by decide +kernel
theorem dX6_fixed_46 : decode cX6_fixed 46 = .ok (.iconst (-1), 1) := by decide +kernel
theorem dX6_fixed_47 : decode cX6_fixed 47 = .ok (.if_icmp .ne 32, 3) := by decide +kernel
theorem dX6_fixed_50 : decode cX6_fixed 50 = .ok (.iload_n 2, 1) := by decide +kernel
theorem dX6_fixed_51 : decode cX6_fixed 51 = .ok (.iload_n 3, 1) := by decide +kernel
theorem dX6_fixed_52 : decode cX6_fixed 52 = .ok (.iadd, 1) := by decide +kernel
theorem dX6_fixed_53 : decode cX6_fixed 53 = .ok (.aload_n 0, 1) := by decide +kernel
theorem dX6_fixed_54 : decode cX6_fixed 54 = .ok (.getfield 64, 3) := by decide +kernel
theorem dX6_fixed_57 : decode cX6_fixed 57 = .ok (.if_icmp .gt 22, 3) := by decide +kernel
theorem dX6_fixed_60 : decode cX6_fixed 60 = .ok (.aload_n 0, 1) := by decide +kernel
theorem dX6_fixed_61 : decode cX6_fixed 61 = .ok (.getfield 10, 3) := by decide +kernel
theorem dX6_fixed_64 : decode cX6_fixed 64 = .ok (.aload_n 0, 1) := by decide +kernel
theorem dX6_fixed_65 : decode cX6_fixed 65 = .ok (.getfield 10, 3) := by decide +kernel
theorem dX6_fixed_68 : decode cX6_fixed 68 = .ok (.getfield 121, 3) := by decide +kernel
theorem dX6_fixed_71 : decode cX6_fixed 71 = .ok (.iload_n 2, 1) := by decide +kernel
theorem dX6_fixed_72 : decode cX6_fixed 72 = .ok (.iload_n 3, 1) := by decide +kernel
theorem dX6_fixed_73 : decode cX6_fixed 73 = .ok (.invokevirtual 124, 3) := by decide +kernel
theorem dX6_fixed_76 : decode cX6_fixed 76 = .ok (.ifCond .ne 5, 3) := by decide +kernel
theorem dX6_fixed_79 : decode cX6_fixed 79 = .ok (.iconst 0, 1) := by decide +kernel
theorem dX6_fixed_80 : decode cX6_fixed 80 = .ok (.ireturn, 1) := by decide +kernel
theorem dX6_fixed_81 : decode cX6_fixed 81 = .ok (.aload_n 0, 1) := by decide +kernel
theorem dX6_fixed_82 : decode cX6_fixed 82 = .ok (.getfield 10, 3) := by decide +kernel
theorem dX6_fixed_85 : decode cX6_fixed 85 = .ok (.getfield 121, 3) := by decide +kernel
theorem dX6_fixed_88 : decode cX6_fixed 88 = .ok (.iload_n 1, 1) := by decide +kernel
theorem dX6_fixed_89 : decode cX6_fixed 89 = .ok (.iload_n 2, 1) := by decide +kernel
theorem dX6_fixed_90 : decode cX6_fixed 90 = .ok (.iastore, 1) := by decide +kernel
theorem dX6_fixed_91 : decode cX6_fixed 91 = .ok (.iconst 1, 1) := by decide +kernel
theorem dX6_fixed_92 : decode cX6_fixed 92 = .ok (.ireturn, 1) := by decide +kernel
abbrev cX6_run : ByteArray := prog_1_method_6_code
def yX6_run : MethodName := ⟨RX6, "run", "(IJ)I"⟩
theorem dX6_run_0 : decode cX6_run 0 = .ok (.iload_n 1, 1) := by decide +kernel
theorem dX6_run_1 : decode cX6_run 1 = .ok (.ifCond .lt 8, 3) := by decide +kernel
theorem dX6_run_4 : decode cX6_run 4 = .ok (.iload_n 1, 1) := by decide +kernel
theorem dX6_run_5 : decode cX6_run 5 = .ok (.iconst 3, 1) := by decide +kernel
theorem dX6_run_6 : decode cX6_run 6 = .ok (.if_icmp .le 13, 3) := by decide +kernel
theorem dX6_run_9 : decode cX6_run 9 = .ok (.new 76, 3) := by decide +kernel
theorem dX6_run_12 : decode cX6_run 12 = .ok (.dup, 1) := by decide +kernel
theorem dX6_run_13 : decode cX6_run 13 = .ok (.ldc 128, 2) := by decide +kernel
theorem dX6_run_15 : decode cX6_run 15 = .ok (.invokespecial 80, 3) := by decide +kernel
theorem dX6_run_18 : decode cX6_run 18 = .ok (.athrow, 1) := by decide +kernel
theorem dX6_run_19 : decode cX6_run 19 = .ok (.lload_n 2, 1) := by decide +kernel
theorem dX6_run_20 : decode cX6_run 20 = .ok (.lconst 0, 1) := by decide +kernel
theorem dX6_run_21 : decode cX6_run 21 = .ok (.lcmp, 1) := by decide +kernel
theorem dX6_run_22 : decode cX6_run 22 = .ok (.ifCond .lt 11, 3) := by decide +kernel
theorem dX6_run_25 : decode cX6_run 25 = .ok (.lload_n 2, 1) := by decide +kernel
theorem dX6_run_26 : decode cX6_run 26 = .ok (.ldc2_w 130, 3) := by decide +kernel
theorem dX6_run_29 : decode cX6_run 29 = .ok (.lcmp, 1) := by decide +kernel
theorem dX6_run_30 : decode cX6_run 30 = .ok (.ifCond .le 13, 3) := by decide +kernel
theorem dX6_run_33 : decode cX6_run 33 = .ok (.new 76, 3) := by decide +kernel
theorem dX6_run_36 : decode cX6_run 36 = .ok (.dup, 1) := by decide +kernel
theorem dX6_run_37 : decode cX6_run 37 = .ok (.ldc 132, 2) := by decide +kernel
theorem dX6_run_39 : decode cX6_run 39 = .ok (.invokespecial 80, 3) := by decide +kernel
theorem dX6_run_42 : decode cX6_run 42 = .ok (.athrow, 1) := by decide +kernel
theorem dX6_run_43 : decode cX6_run 43 = .ok (.aload_n 0, 1) := by decide +kernel
theorem dX6_run_44 : decode cX6_run 44 = .ok (.iload_n 1, 1) := by decide +kernel
theorem dX6_run_45 : decode cX6_run 45 = .ok (.aload_n 0, 1) := by decide +kernel
theorem dX6_run_46 : decode cX6_run 46 = .ok (.getfield 48, 3) := by decide +kernel
theorem dX6_run_49 : decode cX6_run 49 = .ok (.invokestatic 55, 3) := by decide +kernel
theorem dX6_run_52 : decode cX6_run 52 = .ok (.putfield 52, 3) := by decide +kernel
theorem dX6_run_55 : decode cX6_run 55 = .ok (.aload_n 0, 1) := by decide +kernel
theorem dX6_run_56 : decode cX6_run 56 = .ok (.invokevirtual 134, 3) := by decide +kernel
theorem dX6_run_59 : decode cX6_run 59 = .ok (.iconst 0, 1) := by decide +kernel
theorem dX6_run_60 : decode cX6_run 60 = .ok (.istore 4, 2) := by decide +kernel
theorem dX6_run_62 : decode cX6_run 62 = .ok (.iload 4, 2) := by decide +kernel
theorem dX6_run_64 : decode cX6_run 64 = .ok (.iconst 3, 1) := by decide +kernel
theorem dX6_run_65 : decode cX6_run 65 = .ok (.if_icmp .ge 15, 3) := by decide +kernel
theorem dX6_run_68 : decode cX6_run 68 = .ok (.aload_n 0, 1) := by decide +kernel
theorem dX6_run_69 : decode cX6_run 69 = .ok (.iload 4, 2) := by decide +kernel
theorem dX6_run_71 : decode cX6_run 71 = .ok (.invokevirtual 137, 3) := by decide +kernel
theorem dX6_run_74 : decode cX6_run 74 = .ok (.iinc 4 1, 3) := by decide +kernel
theorem dX6_run_77 : decode cX6_run 77 = .ok (.goto (-15), 3) := by decide +kernel
theorem dX6_run_80 : decode cX6_run 80 = .ok (.aload_n 0, 1) := by decide +kernel
theorem dX6_run_81 : decode cX6_run 81 = .ok (.lload_n 2, 1) := by decide +kernel
theorem dX6_run_82 : decode cX6_run 82 = .ok (.l2i, 1) := by decide +kernel
theorem dX6_run_83 : decode cX6_run 83 = .ok (.invokevirtual 140, 3) := by decide +kernel
theorem dX6_run_86 : decode cX6_run 86 = .ok (.pop, 1) := by decide +kernel
theorem dX6_run_87 : decode cX6_run 87 = .ok (.aload_n 0, 1) := by decide +kernel
theorem dX6_run_88 : decode cX6_run 88 = .ok (.invokevirtual 144, 3) := by decide +kernel
theorem dX6_run_91 : decode cX6_run 91 = .ok (.ireturn, 1) := by decide +kernel
abbrev cX6_slot : ByteArray := prog_1_method_7_code
def yX6_slot : MethodName := ⟨RX6, "slot", "(II)I"⟩
theorem dX6_slot_0 : decode cX6_slot 0 = .ok (.aload_n 0, 1) := by decide +kernel
theorem dX6_slot_1 : decode cX6_slot 1 = .ok (.iload_n 1, 1) := by decide +kernel
theorem dX6_slot_2 : decode cX6_slot 2 = .ok (.invokevirtual 148, 3) := by decide +kernel
theorem dX6_slot_5 : decode cX6_slot 5 = .ok (.aload_n 0, 1) := by decide +kernel
theorem dX6_slot_6 : decode cX6_slot 6 = .ok (.iload_n 2, 1) := by decide +kernel
theorem dX6_slot_7 : decode cX6_slot 7 = .ok (.invokevirtual 88, 3) := by decide +kernel
theorem dX6_slot_10 : decode cX6_slot 10 = .ok (.aload_n 0, 1) := by decide +kernel
theorem dX6_slot_11 : decode cX6_slot 11 = .ok (.getfield 26, 3) := by decide +kernel
theorem dX6_slot_14 : decode cX6_slot 14 = .ok (.iload_n 1, 1) := by decide +kernel
theorem dX6_slot_15 : decode cX6_slot 15 = .ok (.aaload, 1) := by decide +kernel
theorem dX6_slot_16 : decode cX6_slot 16 = .ok (.getfield 151, 3) := by decide +kernel
theorem dX6_slot_19 : decode cX6_slot 19 = .ok (.iload_n 2, 1) := by decide +kernel
theorem dX6_slot_20 : decode cX6_slot 20 = .ok (.iaload, 1) := by decide +kernel
theorem dX6_slot_21 : decode cX6_slot 21 = .ok (.ireturn, 1) := by decide +kernel
abbrev cX6_order : ByteArray := prog_1_method_8_code
def yX6_order : MethodName := ⟨RX6, "order", "(II)I"⟩
theorem dX6_order_0 : decode cX6_order 0 = .ok (.aload_n 0, 1) := by decide +kernel
theorem dX6_order_1 : decode cX6_order 1 = .ok (.iload_n 1, 1) := by decide +kernel
theorem dX6_order_2 : decode cX6_order 2 = .ok (.invokevirtual 148, 3) := by decide +kernel
theorem dX6_order_5 : decode cX6_order 5 = .ok (.aload_n 0, 1) := by decide +kernel
theorem dX6_order_6 : decode cX6_order 6 = .ok (.getfield 26, 3) := by decide +kernel
theorem dX6_order_9 : decode cX6_order 9 = .ok (.iload_n 1, 1) := by decide +kernel
theorem dX6_order_10 : decode cX6_order 10 = .ok (.aaload, 1) := by decide +kernel
theorem dX6_order_11 : decode cX6_order 11 = .ok (.iload_n 2, 1) := by decide +kernel
theorem dX6_order_12 : decode cX6_order 12 = .ok (.invokevirtual 154, 3) := by decide +kernel
theorem dX6_order_15 : decode cX6_order 15 = .ok (.ireturn, 1) := by decide +kernel
abbrev cX6_trip : ByteArray := prog_1_method_9_code
def yX6_trip : MethodName := ⟨RX6, "trip", "(II)I"⟩
theorem dX6_trip_0 : decode cX6_trip 0 = .ok (.aload_n 0, 1) := by decide +kernel
theorem dX6_trip_1 : decode cX6_trip 1 = .ok (.iload_n 1, 1) := by decide +kernel
theorem dX6_trip_2 : decode cX6_trip 2 = .ok (.invokevirtual 148, 3) := by decide +kernel
theorem dX6_trip_5 : decode cX6_trip 5 = .ok (.aload_n 0, 1) := by decide +kernel
theorem dX6_trip_6 : decode cX6_trip 6 = .ok (.iload_n 2, 1) := by decide +kernel
theorem dX6_trip_7 : decode cX6_trip 7 = .ok (.invokevirtual 157, 3) := by decide +kernel
theorem dX6_trip_10 : decode cX6_trip 10 = .ok (.aload_n 0, 1) := by decide +kernel
theorem dX6_trip_11 : decode cX6_trip 11 = .ok (.getfield 26, 3) := by decide +kernel
theorem dX6_trip_14 : decode cX6_trip 14 = .ok (.iload_n 1, 1) := by decide +kernel
theorem dX6_trip_15 : decode cX6_trip 15 = .ok (.aaload, 1) := by decide +kernel
theorem dX6_trip_16 : decode cX6_trip 16 = .ok (.iload_n 2, 1) := by decide +kernel
theorem dX6_trip_17 : decode cX6_trip 17 = .ok (.invokevirtual 160, 3) := by decide +kernel
theorem dX6_trip_20 : decode cX6_trip 20 = .ok (.istore_n 3, 1) := by decide +kernel
theorem dX6_trip_21 : decode cX6_trip 21 = .ok (.iload_n 3, 1) := by decide +kernel
theorem dX6_trip_22 : decode cX6_trip 22 = .ok (.iconst (-1), 1) := by decide +kernel
theorem dX6_trip_23 : decode cX6_trip 23 = .ok (.if_icmp .ne 7, 3) := by decide +kernel
theorem dX6_trip_26 : decode cX6_trip 26 = .ok (.iconst (-1), 1) := by decide +kernel
theorem dX6_trip_27 : decode cX6_trip 27 = .ok (.goto 13, 3) := by decide +kernel
theorem dX6_trip_30 : decode cX6_trip 30 = .ok (.aload_n 0, 1) := by decide +kernel
theorem dX6_trip_31 : decode cX6_trip 31 = .ok (.getfield 26, 3) := by decide +kernel
theorem dX6_trip_34 : decode cX6_trip 34 = .ok (.iload_n 1, 1) := by decide +kernel
theorem dX6_trip_35 : decode cX6_trip 35 = .ok (.aaload, 1) := by decide +kernel
theorem dX6_trip_36 : decode cX6_trip 36 = .ok (.iload_n 3, 1) := by decide +kernel
theorem dX6_trip_37 : decode cX6_trip 37 = .ok (.invokevirtual 163, 3) := by decide +kernel
theorem dX6_trip_40 : decode cX6_trip 40 = .ok (.ireturn, 1) := by decide +kernel
abbrev cX6_proved : ByteArray := prog_1_method_10_code
def yX6_proved : MethodName := ⟨RX6, "proved", "()Z"⟩
theorem dX6_proved_0 : decode cX6_proved 0 = .ok (.iconst 0, 1) := by decide +kernel
theorem dX6_proved_1 : decode cX6_proved 1 = .ok (.istore_n 1, 1) := by decide +kernel
theorem dX6_proved_2 : decode cX6_proved 2 = .ok (.iload_n 1, 1) := by decide +kernel
theorem dX6_proved_3 : decode cX6_proved 3 = .ok (.aload_n 0, 1) := by decide +kernel
theorem dX6_proved_4 : decode cX6_proved 4 = .ok (.getfield 52, 3) := by decide +kernel
theorem dX6_proved_7 : decode cX6_proved 7 = .ok (.if_icmp .ge 24, 3) := by decide +kernel
theorem dX6_proved_10 : decode cX6_proved 10 = .ok (.aload_n 0, 1) := by decide +kernel
theorem dX6_proved_11 : decode cX6_proved 11 = .ok (.getfield 26, 3) := by decide +kernel
theorem dX6_proved_14 : decode cX6_proved 14 = .ok (.iload_n 1, 1) := by decide +kernel
theorem dX6_proved_15 : decode cX6_proved 15 = .ok (.aaload, 1) := by decide +kernel
theorem dX6_proved_16 : decode cX6_proved 16 = .ok (.invokevirtual 166, 3) := by decide +kernel
theorem dX6_proved_19 : decode cX6_proved 19 = .ok (.iconst 1, 1) := by decide +kernel
theorem dX6_proved_20 : decode cX6_proved 20 = .ok (.if_icmp .le 5, 3) := by decide +kernel
theorem dX6_proved_23 : decode cX6_proved 23 = .ok (.iconst 0, 1) := by decide +kernel
theorem dX6_proved_24 : decode cX6_proved 24 = .ok (.ireturn, 1) := by decide +kernel
theorem dX6_proved_25 : decode cX6_proved 25 = .ok (.iinc 1 1, 3) := by decide +kernel
theorem dX6_proved_28 : decode cX6_proved 28 = .ok (.goto (-26), 3) := by decide +kernel
theorem dX6_proved_31 : decode cX6_proved 31 = .ok (.iconst 1, 1) := by decide +kernel
theorem dX6_proved_32 : decode cX6_proved 32 = .ok (.ireturn, 1) := by decide +kernel
abbrev cX6_bound : ByteArray := prog_1_method_11_code
def yX6_bound : MethodName := ⟨RX6, "bound", "()J"⟩
theorem dX6_bound_0 : decode cX6_bound 0 = .ok (.lconst 0, 1) := by decide +kernel
theorem dX6_bound_1 : decode cX6_bound 1 = .ok (.lstore_n 1, 1) := by decide +kernel
theorem dX6_bound_2 : decode cX6_bound 2 = .ok (.iconst 0, 1) := by decide +kernel
theorem dX6_bound_3 : decode cX6_bound 3 = .ok (.istore_n 3, 1) := by decide +kernel
theorem dX6_bound_4 : decode cX6_bound 4 = .ok (.iload_n 3, 1) := by decide +kernel
theorem dX6_bound_5 : decode cX6_bound 5 = .ok (.aload_n 0, 1) := by decide +kernel
theorem dX6_bound_6 : decode cX6_bound 6 = .ok (.getfield 52, 3) := by decide +kernel
theorem dX6_bound_9 : decode cX6_bound 9 = .ok (.if_icmp .ge 36, 3) := by decide +kernel
theorem dX6_bound_12 : decode cX6_bound 12 = .ok (.lload_n 1, 1) := by decide +kernel
theorem dX6_bound_13 : decode cX6_bound 13 = .ok (.aload_n 0, 1) := by decide +kernel
theorem dX6_bound_14 : decode cX6_bound 14 = .ok (.aload_n 0, 1) := by decide +kernel
theorem dX6_bound_15 : decode cX6_bound 15 = .ok (.getfield 26, 3) := by decide +kernel
theorem dX6_bound_18 : decode cX6_bound 18 = .ok (.iload_n 3, 1) := by decide +kernel
theorem dX6_bound_19 : decode cX6_bound 19 = .ok (.aaload, 1) := by decide +kernel
theorem dX6_bound_20 : decode cX6_bound 20 = .ok (.invokevirtual 169, 3) := by decide +kernel
theorem dX6_bound_23 : decode cX6_bound 23 = .ok (.aload_n 0, 1) := by decide +kernel
theorem dX6_bound_24 : decode cX6_bound 24 = .ok (.aload_n 0, 1) := by decide +kernel
theorem dX6_bound_25 : decode cX6_bound 25 = .ok (.getfield 26, 3) := by decide +kernel
theorem dX6_bound_28 : decode cX6_bound 28 = .ok (.iload_n 3, 1) := by decide +kernel
theorem dX6_bound_29 : decode cX6_bound 29 = .ok (.aaload, 1) := by decide +kernel
theorem dX6_bound_30 : decode cX6_bound 30 = .ok (.invokevirtual 173, 3) := by decide +kernel
theorem dX6_bound_33 : decode cX6_bound 33 = .ok (.iadd, 1) := by decide +kernel
theorem dX6_bound_34 : decode cX6_bound 34 = .ok (.i2l, 1) := by decide +kernel
theorem dX6_bound_35 : decode cX6_bound 35 = .ok (.invokestatic 176, 3) := by decide +kernel
theorem dX6_bound_38 : decode cX6_bound 38 = .ok (.lstore_n 1, 1) := by decide +kernel
theorem dX6_bound_39 : decode cX6_bound 39 = .ok (.iinc 3 1, 3) := by decide +kernel
theorem dX6_bound_42 : decode cX6_bound 42 = .ok (.goto (-38), 3) := by decide +kernel
theorem dX6_bound_45 : decode cX6_bound 45 = .ok (.lload_n 1, 1) := by decide +kernel
theorem dX6_bound_46 : decode cX6_bound 46 = .ok (.lreturn, 1) := by decide +kernel
abbrev cX6_lower : ByteArray := prog_1_method_12_code
def yX6_lower : MethodName := ⟨RX6, "lower", "(II)Z"⟩
theorem dX6_lower_0 : decode cX6_lower 0 = .ok (.aload_n 0, 1) := by decide +kernel
theorem dX6_lower_1 : decode cX6_lower 1 = .ok (.iload_n 1, 1) := by decide +kernel
theorem dX6_lower_2 : decode cX6_lower 2 = .ok (.invokevirtual 157, 3) := by decide +kernel
theorem dX6_lower_5 : decode cX6_lower 5 = .ok (.aload_n 0, 1) := by decide +kernel
theorem dX6_lower_6 : decode cX6_lower 6 = .ok (.iload_n 2, 1) := by decide +kernel
theorem dX6_lower_7 : decode cX6_lower 7 = .ok (.invokevirtual 157, 3) := by decide +kernel
theorem dX6_lower_10 : decode cX6_lower 10 = .ok (.aload_n 0, 1) := by decide +kernel
theorem dX6_lower_11 : decode cX6_lower 11 = .ok (.iload_n 1, 1) := by decide +kernel
theorem dX6_lower_12 : decode cX6_lower 12 = .ok (.invokevirtual 179, 3) := by decide +kernel
theorem dX6_lower_15 : decode cX6_lower 15 = .ok (.istore_n 3, 1) := by decide +kernel
theorem dX6_lower_16 : decode cX6_lower 16 = .ok (.aload_n 0, 1) := by decide +kernel
theorem dX6_lower_17 : decode cX6_lower 17 = .ok (.iload_n 2, 1) := by decide +kernel
theorem dX6_lower_18 : decode cX6_lower 18 = .ok (.invokevirtual 179, 3) := by decide +kernel
theorem dX6_lower_21 : decode cX6_lower 21 = .ok (.istore 4, 2) := by decide +kernel
theorem dX6_lower_23 : decode cX6_lower 23 = .ok (.iload_n 3, 1) := by decide +kernel
theorem dX6_lower_24 : decode cX6_lower 24 = .ok (.iconst (-1), 1) := by decide +kernel
theorem dX6_lower_25 : decode cX6_lower 25 = .ok (.if_icmp .eq 9, 3) := by decide +kernel
theorem dX6_lower_28 : decode cX6_lower 28 = .ok (.iload 4, 2) := by decide +kernel
theorem dX6_lower_30 : decode cX6_lower 30 = .ok (.iconst (-1), 1) := by decide +kernel
theorem dX6_lower_31 : decode cX6_lower 31 = .ok (.if_icmp .ne 5, 3) := by decide +kernel
theorem dX6_lower_34 : decode cX6_lower 34 = .ok (.iconst 0, 1) := by decide +kernel
theorem dX6_lower_35 : decode cX6_lower 35 = .ok (.ireturn, 1) := by decide +kernel
theorem dX6_lower_36 : decode cX6_lower 36 = .ok (.iload_n 3, 1) := by decide +kernel
theorem dX6_lower_37 : decode cX6_lower 37 = .ok (.iload 4, 2) := by decide +kernel
theorem dX6_lower_39 : decode cX6_lower 39 = .ok (.if_icmp .eq 15, 3) := by decide +kernel
theorem dX6_lower_42 : decode cX6_lower 42 = .ok (.iload_n 3, 1) := by decide +kernel
theorem dX6_lower_43 : decode cX6_lower 43 = .ok (.iload 4, 2) := by decide +kernel
theorem dX6_lower_45 : decode cX6_lower 45 = .ok (.if_icmp .ge 7, 3) := by decide +kernel
theorem dX6_lower_48 : decode cX6_lower 48 = .ok (.iconst 1, 1) := by decide +kernel
theorem dX6_lower_49 : decode cX6_lower 49 = .ok (.goto 4, 3) := by decide +kernel
theorem dX6_lower_52 : decode cX6_lower 52 = .ok (.iconst 0, 1) := by decide +kernel
theorem dX6_lower_53 : decode cX6_lower 53 = .ok (.ireturn, 1) := by decide +kernel
theorem dX6_lower_54 : decode cX6_lower 54 = .ok (.aload_n 0, 1) := by decide +kernel
theorem dX6_lower_55 : decode cX6_lower 55 = .ok (.getfield 26, 3) := by decide +kernel
theorem dX6_lower_58 : decode cX6_lower 58 = .ok (.iload_n 3, 1) := by decide +kernel
theorem dX6_lower_59 : decode cX6_lower 59 = .ok (.aaload, 1) := by decide +kernel
theorem dX6_lower_60 : decode cX6_lower 60 = .ok (.iload_n 1, 1) := by decide +kernel
theorem dX6_lower_61 : decode cX6_lower 61 = .ok (.invokevirtual 160, 3) := by decide +kernel
theorem dX6_lower_64 : decode cX6_lower 64 = .ok (.aload_n 0, 1) := by decide +kernel
theorem dX6_lower_65 : decode cX6_lower 65 = .ok (.getfield 26, 3) := by decide +kernel
theorem dX6_lower_68 : decode cX6_lower 68 = .ok (.iload_n 3, 1) := by decide +kernel
theorem dX6_lower_69 : decode cX6_lower 69 = .ok (.aaload, 1) := by decide +kernel
theorem dX6_lower_70 : decode cX6_lower 70 = .ok (.iload_n 2, 1) := by decide +kernel
theorem dX6_lower_71 : decode cX6_lower 71 = .ok (.invokevirtual 160, 3) := by decide +kernel
theorem dX6_lower_74 : decode cX6_lower 74 = .ok (.if_icmp .ge 7, 3) := by decide +kernel
theorem dX6_lower_77 : decode cX6_lower 77 = .ok (.iconst 1, 1) := by decide +kernel
theorem dX6_lower_78 : decode cX6_lower 78 = .ok (.goto 4, 3) := by decide +kernel
theorem dX6_lower_81 : decode cX6_lower 81 = .ok (.iconst 0, 1) := by decide +kernel
theorem dX6_lower_82 : decode cX6_lower 82 = .ok (.ireturn, 1) := by decide +kernel
abbrev cX6_refill : ByteArray := prog_1_method_13_code
def yX6_refill : MethodName := ⟨RX6, "refill", "(II)Z"⟩
theorem dX6_refill_0 : decode cX6_refill 0 = .ok (.aload_n 0, 1) := by decide +kernel
theorem dX6_refill_1 : decode cX6_refill 1 = .ok (.iload_n 1, 1) := by decide +kernel
theorem dX6_refill_2 : decode cX6_refill 2 = .ok (.invokevirtual 88, 3) := by decide +kernel
theorem dX6_refill_5 : decode cX6_refill 5 = .ok (.iload_n 2, 1) := by decide +kernel
theorem dX6_refill_6 : decode cX6_refill 6 = .ok (.ifCond .ge 13, 3) := by decide +kernel
theorem dX6_refill_9 : decode cX6_refill 9 = .ok (.new 76, 3) := by decide +kernel
theorem dX6_refill_12 : decode cX6_refill 12 = .ok (.dup, 1) := by decide +kernel
theorem dX6_refill_13 : decode cX6_refill 13 = .ok (.ldc 182, 2) := by decide +kernel
theorem dX6_refill_15 : decode cX6_refill 15 = .ok (.invokespecial 80, 3) := by decide +kernel
theorem dX6_refill_18 : decode cX6_refill 18 = .ok (.athrow, 1) := by decide +kernel
theorem dX6_refill_19 : decode cX6_refill 19 = .ok (.aload_n 0, 1) := by decide +kernel
theorem dX6_refill_20 : decode cX6_refill 20 = .ok (.getfield 10, 3) := by decide +kernel
theorem dX6_refill_23 : decode cX6_refill 23 = .ok (.getfield 184, 3) := by decide +kernel
theorem dX6_refill_26 : decode cX6_refill 26 = .ok (.iload_n 1, 1) := by decide +kernel
theorem dX6_refill_27 : decode cX6_refill 27 = .ok (.iaload, 1) := by decide +kernel
theorem dX6_refill_28 : decode cX6_refill 28 = .ok (.iload_n 2, 1) := by decide +kernel
theorem dX6_refill_29 : decode cX6_refill 29 = .ok (.if_icmp .eq 7, 3) := by decide +kernel
theorem dX6_refill_32 : decode cX6_refill 32 = .ok (.iconst 1, 1) := by decide +kernel
theorem dX6_refill_33 : decode cX6_refill 33 = .ok (.goto 4, 3) := by decide +kernel
theorem dX6_refill_36 : decode cX6_refill 36 = .ok (.iconst 0, 1) := by decide +kernel
theorem dX6_refill_37 : decode cX6_refill 37 = .ok (.istore_n 3, 1) := by decide +kernel
theorem dX6_refill_38 : decode cX6_refill 38 = .ok (.aload_n 0, 1) := by decide +kernel
theorem dX6_refill_39 : decode cX6_refill 39 = .ok (.getfield 10, 3) := by decide +kernel
theorem dX6_refill_42 : decode cX6_refill 42 = .ok (.getfield 184, 3) := by decide +kernel
theorem dX6_refill_45 : decode cX6_refill 45 = .ok (.iload_n 1, 1) := by decide +kernel
theorem dX6_refill_46 : decode cX6_refill 46 = .ok (.iload_n 2, 1) := by decide +kernel
theorem dX6_refill_47 : decode cX6_refill 47 = .ok (.iastore, 1) := by decide +kernel
theorem dX6_refill_48 : decode cX6_refill 48 = .ok (.iload_n 3, 1) := by decide +kernel
theorem dX6_refill_49 : decode cX6_refill 49 = .ok (.ireturn, 1) := by decide +kernel
abbrev cX6_reject : ByteArray := prog_1_method_14_code
def yX6_reject : MethodName := ⟨RX6, "reject", "(IJJ)Z"⟩
theorem dX6_reject_0 : decode cX6_reject 0 = .ok (.aload_n 0, 1) := by decide +kernel
theorem dX6_reject_1 : decode cX6_reject 1 = .ok (.iload_n 1, 1) := by decide +kernel
theorem dX6_reject_2 : decode cX6_reject 2 = .ok (.invokevirtual 88, 3) := by decide +kernel
theorem dX6_reject_5 : decode cX6_reject 5 = .ok (.lload 4, 2) := by decide +kernel
theorem dX6_reject_7 : decode cX6_reject 7 = .ok (.lconst 1, 1) := by decide +kernel
theorem dX6_reject_8 : decode cX6_reject 8 = .ok (.lcmp, 1) := by decide +kernel
theorem dX6_reject_9 : decode cX6_reject 9 = .ok (.ifCond .lt 12, 3) := by decide +kernel
theorem dX6_reject_12 : decode cX6_reject 12 = .ok (.lload 4, 2) := by decide +kernel
theorem dX6_reject_14 : decode cX6_reject 14 = .ok (.ldc2_w 187, 3) := by decide +kernel
theorem dX6_reject_17 : decode cX6_reject 17 = .ok (.lcmp, 1) := by decide +kernel
theorem dX6_reject_18 : decode cX6_reject 18 = .ok (.ifCond .le 13, 3) := by decide +kernel
theorem dX6_reject_21 : decode cX6_reject 21 = .ok (.new 76, 3) := by decide +kernel
theorem dX6_reject_24 : decode cX6_reject 24 = .ok (.dup, 1) := by decide +kernel
theorem dX6_reject_25 : decode cX6_reject 25 = .ok (.ldc 189, 2) := by decide +kernel
theorem dX6_reject_27 : decode cX6_reject 27 = .ok (.invokespecial 80, 3) := by decide +kernel
theorem dX6_reject_30 : decode cX6_reject 30 = .ok (.athrow, 1) := by decide +kernel
theorem dX6_reject_31 : decode cX6_reject 31 = .ok (.lload_n 2, 1) := by decide +kernel
theorem dX6_reject_32 : decode cX6_reject 32 = .ok (.lconst 0, 1) := by decide +kernel
theorem dX6_reject_33 : decode cX6_reject 33 = .ok (.lcmp, 1) := by decide +kernel
theorem dX6_reject_34 : decode cX6_reject 34 = .ok (.ifCond .lt 10, 3) := by decide +kernel
theorem dX6_reject_37 : decode cX6_reject 37 = .ok (.lload_n 2, 1) := by decide +kernel
theorem dX6_reject_38 : decode cX6_reject 38 = .ok (.lload 4, 2) := by decide +kernel
theorem dX6_reject_40 : decode cX6_reject 40 = .ok (.lcmp, 1) := by decide +kernel
theorem dX6_reject_41 : decode cX6_reject 41 = .ok (.ifCond .lt 13, 3) := by decide +kernel
theorem dX6_reject_44 : decode cX6_reject 44 = .ok (.new 76, 3) := by decide +kernel
theorem dX6_reject_47 : decode cX6_reject 47 = .ok (.dup, 1) := by decide +kernel
theorem dX6_reject_48 : decode cX6_reject 48 = .ok (.ldc 191, 2) := by decide +kernel
theorem dX6_reject_50 : decode cX6_reject 50 = .ok (.invokespecial 80, 3) := by decide +kernel
theorem dX6_reject_53 : decode cX6_reject 53 = .ok (.athrow, 1) := by decide +kernel
theorem dX6_reject_54 : decode cX6_reject 54 = .ok (.aload_n 0, 1) := by decide +kernel
theorem dX6_reject_55 : decode cX6_reject 55 = .ok (.getfield 10, 3) := by decide +kernel
theorem dX6_reject_58 : decode cX6_reject 58 = .ok (.getfield 193, 3) := by decide +kernel
theorem dX6_reject_61 : decode cX6_reject 61 = .ok (.iload_n 1, 1) := by decide +kernel
theorem dX6_reject_62 : decode cX6_reject 62 = .ok (.iaload, 1) := by decide +kernel
theorem dX6_reject_63 : decode cX6_reject 63 = .ok (.i2l, 1) := by decide +kernel
theorem dX6_reject_64 : decode cX6_reject 64 = .ok (.lload_n 2, 1) := by decide +kernel
theorem dX6_reject_65 : decode cX6_reject 65 = .ok (.lcmp, 1) := by decide +kernel
theorem dX6_reject_66 : decode cX6_reject 66 = .ok (.ifCond .ne 19, 3) := by decide +kernel
theorem dX6_reject_69 : decode cX6_reject 69 = .ok (.aload_n 0, 1) := by decide +kernel
theorem dX6_reject_70 : decode cX6_reject 70 = .ok (.getfield 10, 3) := by decide +kernel
theorem dX6_reject_73 : decode cX6_reject 73 = .ok (.getfield 196, 3) := by decide +kernel
theorem dX6_reject_76 : decode cX6_reject 76 = .ok (.iload_n 1, 1) := by decide +kernel
theorem dX6_reject_77 : decode cX6_reject 77 = .ok (.iaload, 1) := by decide +kernel
theorem dX6_reject_78 : decode cX6_reject 78 = .ok (.i2l, 1) := by decide +kernel
theorem dX6_reject_79 : decode cX6_reject 79 = .ok (.lload 4, 2) := by decide +kernel
theorem dX6_reject_81 : decode cX6_reject 81 = .ok (.lcmp, 1) := by decide +kernel
theorem dX6_reject_82 : decode cX6_reject 82 = .ok (.ifCond .eq 7, 3) := by decide +kernel
theorem dX6_reject_85 : decode cX6_reject 85 = .ok (.iconst 1, 1) := by decide +kernel
theorem dX6_reject_86 : decode cX6_reject 86 = .ok (.goto 4, 3) := by decide +kernel
theorem dX6_reject_89 : decode cX6_reject 89 = .ok (.iconst 0, 1) := by decide +kernel
theorem dX6_reject_90 : decode cX6_reject 90 = .ok (.istore 6, 2) := by decide +kernel
theorem dX6_reject_92 : decode cX6_reject 92 = .ok (.aload_n 0, 1) := by decide +kernel
theorem dX6_reject_93 : decode cX6_reject 93 = .ok (.getfield 10, 3) := by decide +kernel
theorem dX6_reject_96 : decode cX6_reject 96 = .ok (.getfield 193, 3) := by decide +kernel
theorem dX6_reject_99 : decode cX6_reject 99 = .ok (.iload_n 1, 1) := by decide +kernel
theorem dX6_reject_100 : decode cX6_reject 100 = .ok (.lload_n 2, 1) := by decide +kernel
theorem dX6_reject_101 : decode cX6_reject 101 = .ok (.l2i, 1) := by decide +kernel
theorem dX6_reject_102 : decode cX6_reject 102 = .ok (.iastore, 1) := by decide +kernel
theorem dX6_reject_103 : decode cX6_reject 103 = .ok (.aload_n 0, 1) := by decide +kernel
theorem dX6_reject_104 : decode cX6_reject 104 = .ok (.getfield 10, 3) := by decide +kernel
theorem dX6_reject_107 : decode cX6_reject 107 = .ok (.getfield 196, 3) := by decide +kernel
theorem dX6_reject_110 : decode cX6_reject 110 = .ok (.iload_n 1, 1) := by decide +kernel
theorem dX6_reject_111 : decode cX6_reject 111 = .ok (.lload 4, 2) := by decide +kernel
theorem dX6_reject_113 : decode cX6_reject 113 = .ok (.l2i, 1) := by decide +kernel
theorem dX6_reject_114 : decode cX6_reject 114 = .ok (.iastore, 1) := by decide +kernel
theorem dX6_reject_115 : decode cX6_reject 115 = .ok (.iload 6, 2) := by decide +kernel
theorem dX6_reject_117 : decode cX6_reject 117 = .ok (.ireturn, 1) := by decide +kernel
abbrev cX6_machineOf : ByteArray := prog_1_method_15_code
def yX6_machineOf : MethodName := ⟨RX6, "machineOf", "(I)I"⟩
theorem dX6_machineOf_0 : decode cX6_machineOf 0 = .ok (.aload_n 0, 1) := by decide +kernel
theorem dX6_machineOf_1 : decode cX6_machineOf 1 = .ok (.iload_n 1, 1) := by decide +kernel
theorem dX6_machineOf_2 : decode cX6_machineOf 2 = .ok (.invokevirtual 157, 3) := by decide +kernel
theorem dX6_machineOf_5 : decode cX6_machineOf 5 = .ok (.aload_n 0, 1) := by decide +kernel
theorem dX6_machineOf_6 : decode cX6_machineOf 6 = .ok (.iload_n 1, 1) := by decide +kernel
theorem dX6_machineOf_7 : decode cX6_machineOf 7 = .ok (.invokevirtual 179, 3) := by decide +kernel
theorem dX6_machineOf_10 : decode cX6_machineOf 10 = .ok (.ireturn, 1) := by decide +kernel
abbrev cX6_improve : ByteArray := prog_1_method_16_code
def yX6_improve : MethodName := ⟨RX6, "improve", "(I)I"⟩
theorem dX6_improve_0 : decode cX6_improve 0 = .ok (.iload_n 1, 1) := by decide +kernel
theorem dX6_improve_1 : decode cX6_improve 1 = .ok (.ifCond .lt 10, 3) := by decide +kernel
theorem dX6_improve_4 : decode cX6_improve 4 = .ok (.iload_n 1, 1) := by decide +kernel
theorem dX6_improve_5 : decode cX6_improve 5 = .ok (.sipush 200, 3) := by decide +kernel
theorem dX6_improve_8 : decode cX6_improve 8 = .ok (.if_icmp .le 13, 3) := by decide +kernel
theorem dX6_improve_11 : decode cX6_improve 11 = .ok (.new 76, 3) := by decide +kernel
theorem dX6_improve_14 : decode cX6_improve 14 = .ok (.dup, 1) := by decide +kernel
theorem dX6_improve_15 : decode cX6_improve 15 = .ok (.ldc 132, 2) := by decide +kernel
theorem dX6_improve_17 : decode cX6_improve 17 = .ok (.invokespecial 80, 3) := by decide +kernel
theorem dX6_improve_20 : decode cX6_improve 20 = .ok (.athrow, 1) := by decide +kernel
theorem dX6_improve_21 : decode cX6_improve 21 = .ok (.aload_n 0, 1) := by decide +kernel
theorem dX6_improve_22 : decode cX6_improve 22 = .ok (.iload_n 1, 1) := by decide +kernel
theorem dX6_improve_23 : decode cX6_improve 23 = .ok (.invokevirtual 140, 3) := by decide +kernel
theorem dX6_improve_26 : decode cX6_improve 26 = .ok (.ireturn, 1) := by decide +kernel
abbrev cX6_common : ByteArray := prog_1_method_17_code
def yX6_common : MethodName := ⟨RX6, "common", "(II)Z"⟩
theorem dX6_common_0 : decode cX6_common 0 = .ok (.aload_n 0, 1) := by decide +kernel
theorem dX6_common_1 : decode cX6_common 1 = .ok (.iload_n 1, 1) := by decide +kernel
theorem dX6_common_2 : decode cX6_common 2 = .ok (.invokevirtual 148, 3) := by decide +kernel
theorem dX6_common_5 : decode cX6_common 5 = .ok (.aload_n 0, 1) := by decide +kernel
theorem dX6_common_6 : decode cX6_common 6 = .ok (.iload_n 2, 1) := by decide +kernel
theorem dX6_common_7 : decode cX6_common 7 = .ok (.invokevirtual 148, 3) := by decide +kernel
theorem dX6_common_10 : decode cX6_common 10 = .ok (.aload_n 0, 1) := by decide +kernel
theorem dX6_common_11 : decode cX6_common 11 = .ok (.getfield 26, 3) := by decide +kernel
theorem dX6_common_14 : decode cX6_common 14 = .ok (.iload_n 1, 1) := by decide +kernel
theorem dX6_common_15 : decode cX6_common 15 = .ok (.aaload, 1) := by decide +kernel
theorem dX6_common_16 : decode cX6_common 16 = .ok (.astore_n 3, 1) := by decide +kernel
theorem dX6_common_17 : decode cX6_common 17 = .ok (.aload_n 0, 1) := by decide +kernel
theorem dX6_common_18 : decode cX6_common 18 = .ok (.getfield 26, 3) := by decide +kernel
theorem dX6_common_21 : decode cX6_common 21 = .ok (.iload_n 2, 1) := by decide +kernel
theorem dX6_common_22 : decode cX6_common 22 = .ok (.aaload, 1) := by decide +kernel
theorem dX6_common_23 : decode cX6_common 23 = .ok (.astore 4, 2) := by decide +kernel
theorem dX6_common_25 : decode cX6_common 25 = .ok (.iconst 0, 1) := by decide +kernel
theorem dX6_common_26 : decode cX6_common 26 = .ok (.istore 5, 2) := by decide +kernel
theorem dX6_common_28 : decode cX6_common 28 = .ok (.iload 5, 2) := by decide +kernel
theorem dX6_common_30 : decode cX6_common 30 = .ok (.aload_n 0, 1) := by decide +kernel
theorem dX6_common_31 : decode cX6_common 31 = .ok (.getfield 10, 3) := by decide +kernel
theorem dX6_common_34 : decode cX6_common 34 = .ok (.getfield 199, 3) := by decide +kernel
theorem dX6_common_37 : decode cX6_common 37 = .ok (.if_icmp .ge 81, 3) := by decide +kernel
theorem dX6_common_40 : decode cX6_common 40 = .ok (.aload_n 3, 1) := by decide +kernel
theorem dX6_common_41 : decode cX6_common 41 = .ok (.getfield 151, 3) := by decide +kernel
theorem dX6_common_44 : decode cX6_common 44 = .ok (.iload 5, 2) := by decide +kernel
theorem dX6_common_46 : decode cX6_common 46 = .ok (.iaload, 1) := by decide +kernel
theorem dX6_common_47 : decode cX6_common 47 = .ok (.iconst (-1), 1) := by decide +kernel
theorem dX6_common_48 : decode cX6_common 48 = .ok (.if_icmp .ne 15, 3) := by decide +kernel
theorem dX6_common_51 : decode cX6_common 51 = .ok (.aload 4, 2) := by decide +kernel
theorem dX6_common_53 : decode cX6_common 53 = .ok (.getfield 151, 3) := by decide +kernel
theorem dX6_common_56 : decode cX6_common 56 = .ok (.iload 5, 2) := by decide +kernel
theorem dX6_common_58 : decode cX6_common 58 = .ok (.iaload, 1) := by decide +kernel
theorem dX6_common_59 : decode cX6_common 59 = .ok (.iconst (-1), 1) := by decide +kernel
theorem dX6_common_60 : decode cX6_common 60 = .ok (.if_icmp .eq 7, 3) := by decide +kernel
theorem dX6_common_63 : decode cX6_common 63 = .ok (.iconst 1, 1) := by decide +kernel
theorem dX6_common_64 : decode cX6_common 64 = .ok (.goto 4, 3) := by decide +kernel
theorem dX6_common_67 : decode cX6_common 67 = .ok (.iconst 0, 1) := by decide +kernel
theorem dX6_common_68 : decode cX6_common 68 = .ok (.istore 6, 2) := by decide +kernel
theorem dX6_common_70 : decode cX6_common 70 = .ok (.iload 6, 2) := by decide +kernel
theorem dX6_common_72 : decode cX6_common 72 = .ok (.ifCond .eq 40, 3) := by decide +kernel
theorem dX6_common_75 : decode cX6_common 75 = .ok (.aload_n 3, 1) := by decide +kernel
theorem dX6_common_76 : decode cX6_common 76 = .ok (.aload_n 0, 1) := by decide +kernel
theorem dX6_common_77 : decode cX6_common 77 = .ok (.getfield 10, 3) := by decide +kernel
theorem dX6_common_80 : decode cX6_common 80 = .ok (.getfield 202, 3) := by decide +kernel
theorem dX6_common_83 : decode cX6_common 83 = .ok (.iload 5, 2) := by decide +kernel
theorem dX6_common_85 : decode cX6_common 85 = .ok (.iaload, 1) := by decide +kernel
theorem dX6_common_86 : decode cX6_common 86 = .ok (.invokevirtual 204, 3) := by decide +kernel
theorem dX6_common_89 : decode cX6_common 89 = .ok (.ifCond .eq 21, 3) := by decide +kernel
theorem dX6_common_92 : decode cX6_common 92 = .ok (.aload 4, 2) := by decide +kernel
theorem dX6_common_94 : decode cX6_common 94 = .ok (.aload_n 0, 1) := by decide +kernel
theorem dX6_common_95 : decode cX6_common 95 = .ok (.getfield 10, 3) := by decide +kernel
theorem dX6_common_98 : decode cX6_common 98 = .ok (.getfield 202, 3) := by decide +kernel
theorem dX6_common_101 : decode cX6_common 101 = .ok (.iload 5, 2) := by decide +kernel
theorem dX6_common_103 : decode cX6_common 103 = .ok (.iaload, 1) := by decide +kernel
theorem dX6_common_104 : decode cX6_common 104 = .ok (.invokevirtual 204, 3) := by decide +kernel
theorem dX6_common_107 : decode cX6_common 107 = .ok (.ifCond .ne 5, 3) := by decide +kernel
theorem dX6_common_110 : decode cX6_common 110 = .ok (.iconst 0, 1) := by decide +kernel
theorem dX6_common_111 : decode cX6_common 111 = .ok (.ireturn, 1) := by decide +kernel
theorem dX6_common_112 : decode cX6_common 112 = .ok (.iinc 5 1, 3) := by decide +kernel
theorem dX6_common_115 : decode cX6_common 115 = .ok (.goto (-87), 3) := by decide +kernel
theorem dX6_common_118 : decode cX6_common 118 = .ok (.iconst 1, 1) := by decide +kernel
theorem dX6_common_119 : decode cX6_common 119 = .ok (.ireturn, 1) := by decide +kernel
abbrev cX6_changes : ByteArray := prog_1_method_18_code
def yX6_changes : MethodName := ⟨RX6, "changes", "(I)I"⟩
theorem dX6_changes_0 : decode cX6_changes 0 = .ok (.aload_n 0, 1) := by decide +kernel
theorem dX6_changes_1 : decode cX6_changes 1 = .ok (.iload_n 1, 1) := by decide +kernel
theorem dX6_changes_2 : decode cX6_changes 2 = .ok (.invokevirtual 148, 3) := by decide +kernel
theorem dX6_changes_5 : decode cX6_changes 5 = .ok (.aload_n 0, 1) := by decide +kernel
theorem dX6_changes_6 : decode cX6_changes 6 = .ok (.aload_n 0, 1) := by decide +kernel
theorem dX6_changes_7 : decode cX6_changes 7 = .ok (.getfield 26, 3) := by decide +kernel
theorem dX6_changes_10 : decode cX6_changes 10 = .ok (.iload_n 1, 1) := by decide +kernel
theorem dX6_changes_11 : decode cX6_changes 11 = .ok (.aaload, 1) := by decide +kernel
theorem dX6_changes_12 : decode cX6_changes 12 = .ok (.invokevirtual 208, 3) := by decide +kernel
theorem dX6_changes_15 : decode cX6_changes 15 = .ok (.ireturn, 1) := by decide +kernel
abbrev cX6_requireKind : ByteArray := prog_1_method_19_code
def yX6_requireKind : MethodName := ⟨RX6, "requireKind", "(I)V"⟩
theorem dX6_requireKind_0 : decode cX6_requireKind 0 = .ok (.iload_n 1, 1) := by decide +kernel
theorem dX6_requireKind_1 : decode cX6_requireKind 1 = .ok (.ifCond .lt 14, 3) := by decide +kernel
theorem dX6_requireKind_4 : decode cX6_requireKind 4 = .ok (.iload_n 1, 1) := by decide +kernel
theorem dX6_requireKind_5 : decode cX6_requireKind 5 = .ok (.aload_n 0, 1) := by decide +kernel
theorem dX6_requireKind_6 : decode cX6_requireKind 6 = .ok (.getfield 10, 3) := by decide +kernel
theorem dX6_requireKind_9 : decode cX6_requireKind 9 = .ok (.getfield 199, 3) := by decide +kernel
theorem dX6_requireKind_12 : decode cX6_requireKind 12 = .ok (.if_icmp .lt 13, 3) := by decide +kernel
theorem dX6_requireKind_15 : decode cX6_requireKind 15 = .ok (.new 113, 3) := by decide +kernel
theorem dX6_requireKind_18 : decode cX6_requireKind 18 = .ok (.dup, 1) := by decide +kernel
theorem dX6_requireKind_19 : decode cX6_requireKind 19 = .ok (.ldc 211, 2) := by decide +kernel
theorem dX6_requireKind_21 : decode cX6_requireKind 21 = .ok (.invokespecial 117, 3) := by decide +kernel
theorem dX6_requireKind_24 : decode cX6_requireKind 24 = .ok (.athrow, 1) := by decide +kernel
theorem dX6_requireKind_25 : decode cX6_requireKind 25 = .ok (.return_, 1) := by decide +kernel
abbrev cX6_requirePart : ByteArray := prog_1_method_20_code
def yX6_requirePart : MethodName := ⟨RX6, "requirePart", "(I)V"⟩
theorem dX6_requirePart_0 : decode cX6_requirePart 0 = .ok (.aload_n 0, 1) := by decide +kernel
theorem dX6_requirePart_1 : decode cX6_requirePart 1 = .ok (.getfield 19, 3) := by decide +kernel
theorem dX6_requirePart_4 : decode cX6_requirePart 4 = .ok (.iload_n 1, 1) := by decide +kernel
theorem dX6_requirePart_5 : decode cX6_requirePart 5 = .ok (.invokevirtual 213, 3) := by decide +kernel
theorem dX6_requirePart_8 : decode cX6_requirePart 8 = .ok (.ifCond .ne 13, 3) := by decide +kernel
theorem dX6_requirePart_11 : decode cX6_requirePart 11 = .ok (.new 113, 3) := by decide +kernel
theorem dX6_requirePart_14 : decode cX6_requirePart 14 = .ok (.dup, 1) := by decide +kernel
theorem dX6_requirePart_15 : decode cX6_requirePart 15 = .ok (.ldc 216, 2) := by decide +kernel
theorem dX6_requirePart_17 : decode cX6_requirePart 17 = .ok (.invokespecial 117, 3) := by decide +kernel
theorem dX6_requirePart_20 : decode cX6_requirePart 20 = .ok (.athrow, 1) := by decide +kernel
theorem dX6_requirePart_21 : decode cX6_requirePart 21 = .ok (.return_, 1) := by decide +kernel
abbrev cX6_requireMachine : ByteArray := prog_1_method_21_code
def yX6_requireMachine : MethodName := ⟨RX6, "requireMachine", "(I)V"⟩
theorem dX6_requireMachine_0 : decode cX6_requireMachine 0 = .ok (.iload_n 1, 1) := by decide +kernel
theorem dX6_requireMachine_1 : decode cX6_requireMachine 1 = .ok (.ifCond .lt 11, 3) := by decide +kernel
theorem dX6_requireMachine_4 : decode cX6_requireMachine 4 = .ok (.iload_n 1, 1) := by decide +kernel
theorem dX6_requireMachine_5 : decode cX6_requireMachine 5 = .ok (.aload_n 0, 1) := by decide +kernel
theorem dX6_requireMachine_6 : decode cX6_requireMachine 6 = .ok (.getfield 48, 3) := by decide +kernel
theorem dX6_requireMachine_9 : decode cX6_requireMachine 9 = .ok (.if_icmp .lt 13, 3) := by decide +kernel
theorem dX6_requireMachine_12 : decode cX6_requireMachine 12 = .ok (.new 113, 3) := by decide +kernel
theorem dX6_requireMachine_15 : decode cX6_requireMachine 15 = .ok (.dup, 1) := by decide +kernel
theorem dX6_requireMachine_16 : decode cX6_requireMachine 16 = .ok (.ldc 218, 2) := by decide +kernel
theorem dX6_requireMachine_18 : decode cX6_requireMachine 18 = .ok (.invokespecial 117, 3) := by decide +kernel
theorem dX6_requireMachine_21 : decode cX6_requireMachine 21 = .ok (.athrow, 1) := by decide +kernel
theorem dX6_requireMachine_22 : decode cX6_requireMachine 22 = .ok (.return_, 1) := by decide +kernel
abbrev cX6_hostOf : ByteArray := prog_1_method_22_code
def yX6_hostOf : MethodName := ⟨RX6, "hostOf", "(I)I"⟩
theorem dX6_hostOf_0 : decode cX6_hostOf 0 = .ok (.iconst 0, 1) := by decide +kernel
theorem dX6_hostOf_1 : decode cX6_hostOf 1 = .ok (.istore_n 2, 1) := by decide +kernel
theorem dX6_hostOf_2 : decode cX6_hostOf 2 = .ok (.iload_n 2, 1) := by decide +kernel
theorem dX6_hostOf_3 : decode cX6_hostOf 3 = .ok (.aload_n 0, 1) := by decide +kernel
theorem dX6_hostOf_4 : decode cX6_hostOf 4 = .ok (.getfield 52, 3) := by decide +kernel
theorem dX6_hostOf_7 : decode cX6_hostOf 7 = .ok (.if_icmp .ge 25, 3) := by decide +kernel
theorem dX6_hostOf_10 : decode cX6_hostOf 10 = .ok (.aload_n 0, 1) := by decide +kernel
theorem dX6_hostOf_11 : decode cX6_hostOf 11 = .ok (.getfield 26, 3) := by decide +kernel
theorem dX6_hostOf_14 : decode cX6_hostOf 14 = .ok (.iload_n 2, 1) := by decide +kernel
theorem dX6_hostOf_15 : decode cX6_hostOf 15 = .ok (.aaload, 1) := by decide +kernel
theorem dX6_hostOf_16 : decode cX6_hostOf 16 = .ok (.iload_n 1, 1) := by decide +kernel
theorem dX6_hostOf_17 : decode cX6_hostOf 17 = .ok (.invokevirtual 160, 3) := by decide +kernel
theorem dX6_hostOf_20 : decode cX6_hostOf 20 = .ok (.iconst (-1), 1) := by decide +kernel
theorem dX6_hostOf_21 : decode cX6_hostOf 21 = .ok (.if_icmp .eq 5, 3) := by decide +kernel
theorem dX6_hostOf_24 : decode cX6_hostOf 24 = .ok (.iload_n 2, 1) := by decide +kernel
theorem dX6_hostOf_25 : decode cX6_hostOf 25 = .ok (.ireturn, 1) := by decide +kernel
theorem dX6_hostOf_26 : decode cX6_hostOf 26 = .ok (.iinc 2 1, 3) := by decide +kernel
theorem dX6_hostOf_29 : decode cX6_hostOf 29 = .ok (.goto (-27), 3) := by decide +kernel
theorem dX6_hostOf_32 : decode cX6_hostOf 32 = .ok (.iconst (-1), 1) := by decide +kernel
theorem dX6_hostOf_33 : decode cX6_hostOf 33 = .ok (.ireturn, 1) := by decide +kernel
abbrev cX6_shareKinds : ByteArray := prog_1_method_23_code
def yX6_shareKinds : MethodName := ⟨RX6, "shareKinds", "()V"⟩
theorem dX6_shareKinds_0 : decode cX6_shareKinds 0 = .ok (.aload_n 0, 1) := by decide +kernel
theorem dX6_shareKinds_1 : decode cX6_shareKinds 1 = .ok (.getfield 33, 3) := by decide +kernel
theorem dX6_shareKinds_4 : decode cX6_shareKinds 4 = .ok (.invokevirtual 220, 3) := by decide +kernel
theorem dX6_shareKinds_7 : decode cX6_shareKinds 7 = .ok (.iconst 0, 1) := by decide +kernel
theorem dX6_shareKinds_8 : decode cX6_shareKinds 8 = .ok (.istore_n 1, 1) := by decide +kernel
theorem dX6_shareKinds_9 : decode cX6_shareKinds 9 = .ok (.iload_n 1, 1) := by decide +kernel
theorem dX6_shareKinds_10 : decode cX6_shareKinds 10 = .ok (.aload_n 0, 1) := by decide +kernel
theorem dX6_shareKinds_11 : decode cX6_shareKinds 11 = .ok (.getfield 10, 3) := by decide +kernel
theorem dX6_shareKinds_14 : decode cX6_shareKinds 14 = .ok (.getfield 199, 3) := by decide +kernel
theorem dX6_shareKinds_17 : decode cX6_shareKinds 17 = .ok (.if_icmp .ge 50, 3) := by decide +kernel
theorem dX6_shareKinds_20 : decode cX6_shareKinds 20 = .ok (.aload_n 0, 1) := by decide +kernel
theorem dX6_shareKinds_21 : decode cX6_shareKinds 21 = .ok (.getfield 19, 3) := by decide +kernel
theorem dX6_shareKinds_24 : decode cX6_shareKinds 24 = .ok (.iload_n 1, 1) := by decide +kernel
theorem dX6_shareKinds_25 : decode cX6_shareKinds 25 = .ok (.invokevirtual 223, 3) := by decide +kernel
theorem dX6_shareKinds_28 : decode cX6_shareKinds 28 = .ok (.istore_n 2, 1) := by decide +kernel
theorem dX6_shareKinds_29 : decode cX6_shareKinds 29 = .ok (.aload_n 0, 1) := by decide +kernel
theorem dX6_shareKinds_30 : decode cX6_shareKinds 30 = .ok (.aload_n 0, 1) := by decide +kernel
theorem dX6_shareKinds_31 : decode cX6_shareKinds 31 = .ok (.getfield 10, 3) := by decide +kernel
theorem dX6_shareKinds_34 : decode cX6_shareKinds 34 = .ok (.getfield 202, 3) := by decide +kernel
theorem dX6_shareKinds_37 : decode cX6_shareKinds 37 = .ok (.iload_n 1, 1) := by decide +kernel
theorem dX6_shareKinds_38 : decode cX6_shareKinds 38 = .ok (.iaload, 1) := by decide +kernel
theorem dX6_shareKinds_39 : decode cX6_shareKinds 39 = .ok (.invokevirtual 226, 3) := by decide +kernel
theorem dX6_shareKinds_42 : decode cX6_shareKinds 42 = .ok (.istore_n 3, 1) := by decide +kernel
theorem dX6_shareKinds_43 : decode cX6_shareKinds 43 = .ok (.iload_n 2, 1) := by decide +kernel
theorem dX6_shareKinds_44 : decode cX6_shareKinds 44 = .ok (.ifCond .le 17, 3) := by decide +kernel
theorem dX6_shareKinds_47 : decode cX6_shareKinds 47 = .ok (.iload_n 3, 1) := by decide +kernel
theorem dX6_shareKinds_48 : decode cX6_shareKinds 48 = .ok (.ifCond .eq 13, 3) := by decide +kernel
theorem dX6_shareKinds_51 : decode cX6_shareKinds 51 = .ok (.aload_n 0, 1) := by decide +kernel
theorem dX6_shareKinds_52 : decode cX6_shareKinds 52 = .ok (.getfield 33, 3) := by decide +kernel
theorem dX6_shareKinds_55 : decode cX6_shareKinds 55 = .ok (.iload_n 1, 1) := by decide +kernel
theorem dX6_shareKinds_56 : decode cX6_shareKinds 56 = .ok (.iload_n 2, 1) := by decide +kernel
theorem dX6_shareKinds_57 : decode cX6_shareKinds 57 = .ok (.iload_n 3, 1) := by decide +kernel
theorem dX6_shareKinds_58 : decode cX6_shareKinds 58 = .ok (.invokevirtual 229, 3) := by decide +kernel
theorem dX6_shareKinds_61 : decode cX6_shareKinds 61 = .ok (.iinc 1 1, 3) := by decide +kernel
theorem dX6_shareKinds_64 : decode cX6_shareKinds 64 = .ok (.goto (-55), 3) := by decide +kernel
theorem dX6_shareKinds_67 : decode cX6_shareKinds 67 = .ok (.aload_n 0, 1) := by decide +kernel
theorem dX6_shareKinds_68 : decode cX6_shareKinds 68 = .ok (.getfield 33, 3) := by decide +kernel
theorem dX6_shareKinds_71 : decode cX6_shareKinds 71 = .ok (.invokevirtual 232, 3) := by decide +kernel
theorem dX6_shareKinds_74 : decode cX6_shareKinds 74 = .ok (.return_, 1) := by decide +kernel
abbrev cX6_hostsFor : ByteArray := prog_1_method_24_code
def yX6_hostsFor : MethodName := ⟨RX6, "hostsFor", "(I)I"⟩
theorem dX6_hostsFor_0 : decode cX6_hostsFor 0 = .ok (.iconst 0, 1) := by decide +kernel
theorem dX6_hostsFor_1 : decode cX6_hostsFor 1 = .ok (.istore_n 2, 1) := by decide +kernel
theorem dX6_hostsFor_2 : decode cX6_hostsFor 2 = .ok (.iconst 0, 1) := by decide +kernel
theorem dX6_hostsFor_3 : decode cX6_hostsFor 3 = .ok (.istore_n 3, 1) := by decide +kernel
theorem dX6_hostsFor_4 : decode cX6_hostsFor 4 = .ok (.iload_n 3, 1) := by decide +kernel
theorem dX6_hostsFor_5 : decode cX6_hostsFor 5 = .ok (.aload_n 0, 1) := by decide +kernel
theorem dX6_hostsFor_6 : decode cX6_hostsFor 6 = .ok (.getfield 52, 3) := by decide +kernel
theorem dX6_hostsFor_9 : decode cX6_hostsFor 9 = .ok (.if_icmp .ge 28, 3) := by decide +kernel
theorem dX6_hostsFor_12 : decode cX6_hostsFor 12 = .ok (.aload_n 0, 1) := by decide +kernel
theorem dX6_hostsFor_13 : decode cX6_hostsFor 13 = .ok (.getfield 26, 3) := by decide +kernel
theorem dX6_hostsFor_16 : decode cX6_hostsFor 16 = .ok (.iload_n 3, 1) := by decide +kernel
theorem dX6_hostsFor_17 : decode cX6_hostsFor 17 = .ok (.aaload, 1) := by decide +kernel
theorem dX6_hostsFor_18 : decode cX6_hostsFor 18 = .ok (.iload_n 1, 1) := by decide +kernel
theorem dX6_hostsFor_19 : decode cX6_hostsFor 19 = .ok (.invokevirtual 204, 3) := by decide +kernel
theorem dX6_hostsFor_22 : decode cX6_hostsFor 22 = .ok (.ifCond .eq 9, 3) := by decide +kernel
theorem dX6_hostsFor_25 : decode cX6_hostsFor 25 = .ok (.iload_n 2, 1) := by decide +kernel
theorem dX6_hostsFor_26 : decode cX6_hostsFor 26 = .ok (.iconst 1, 1) := by decide +kernel
theorem dX6_hostsFor_27 : decode cX6_hostsFor 27 = .ok (.iload_n 3, 1) := by decide +kernel
theorem dX6_hostsFor_28 : decode cX6_hostsFor 28 = .ok (.ishl, 1) := by decide +kernel
theorem dX6_hostsFor_29 : decode cX6_hostsFor 29 = .ok (.ior, 1) := by decide +kernel
theorem dX6_hostsFor_30 : decode cX6_hostsFor 30 = .ok (.istore_n 2, 1) := by decide +kernel
theorem dX6_hostsFor_31 : decode cX6_hostsFor 31 = .ok (.iinc 3 1, 3) := by decide +kernel
theorem dX6_hostsFor_34 : decode cX6_hostsFor 34 = .ok (.goto (-30), 3) := by decide +kernel
theorem dX6_hostsFor_37 : decode cX6_hostsFor 37 = .ok (.iload_n 2, 1) := by decide +kernel
theorem dX6_hostsFor_38 : decode cX6_hostsFor 38 = .ok (.ireturn, 1) := by decide +kernel
abbrev cX6_setUp : ByteArray := prog_1_method_25_code
def yX6_setUp : MethodName := ⟨RX6, "setUp", "(I)V"⟩
theorem dX6_setUp_0 : decode cX6_setUp 0 = .ok (.aload_n 0, 1) := by decide +kernel
theorem dX6_setUp_1 : decode cX6_setUp 1 = .ok (.getfield 26, 3) := by decide +kernel
theorem dX6_setUp_4 : decode cX6_setUp 4 = .ok (.iload_n 1, 1) := by decide +kernel
theorem dX6_setUp_5 : decode cX6_setUp 5 = .ok (.aaload, 1) := by decide +kernel
theorem dX6_setUp_6 : decode cX6_setUp 6 = .ok (.astore_n 2, 1) := by decide +kernel
theorem dX6_setUp_7 : decode cX6_setUp 7 = .ok (.aload_n 2, 1) := by decide +kernel
theorem dX6_setUp_8 : decode cX6_setUp 8 = .ok (.invokevirtual 235, 3) := by decide +kernel
theorem dX6_setUp_11 : decode cX6_setUp 11 = .ok (.aload_n 0, 1) := by decide +kernel
theorem dX6_setUp_12 : decode cX6_setUp 12 = .ok (.aload_n 2, 1) := by decide +kernel
theorem dX6_setUp_13 : decode cX6_setUp 13 = .ok (.iload_n 1, 1) := by decide +kernel
theorem dX6_setUp_14 : decode cX6_setUp 14 = .ok (.invokevirtual 236, 3) := by decide +kernel
theorem dX6_setUp_17 : decode cX6_setUp 17 = .ok (.aload_n 0, 1) := by decide +kernel
theorem dX6_setUp_18 : decode cX6_setUp 18 = .ok (.aload_n 2, 1) := by decide +kernel
theorem dX6_setUp_19 : decode cX6_setUp 19 = .ok (.iload_n 1, 1) := by decide +kernel
theorem dX6_setUp_20 : decode cX6_setUp 20 = .ok (.invokevirtual 240, 3) := by decide +kernel
theorem dX6_setUp_23 : decode cX6_setUp 23 = .ok (.iconst 0, 1) := by decide +kernel
theorem dX6_setUp_24 : decode cX6_setUp 24 = .ok (.istore_n 3, 1) := by decide +kernel
theorem dX6_setUp_25 : decode cX6_setUp 25 = .ok (.iload_n 3, 1) := by decide +kernel
theorem dX6_setUp_26 : decode cX6_setUp 26 = .ok (.aload_n 0, 1) := by decide +kernel
theorem dX6_setUp_27 : decode cX6_setUp 27 = .ok (.getfield 19, 3) := by decide +kernel
theorem dX6_setUp_30 : decode cX6_setUp 30 = .ok (.getfield 243, 3) := by decide +kernel
theorem dX6_setUp_33 : decode cX6_setUp 33 = .ok (.if_icmp .ge 36, 3) := by decide +kernel
theorem dX6_setUp_36 : decode cX6_setUp 36 = .ok (.aload_n 2, 1) := by decide +kernel
theorem dX6_setUp_37 : decode cX6_setUp 37 = .ok (.getfield 151, 3) := by decide +kernel
theorem dX6_setUp_40 : decode cX6_setUp 40 = .ok (.aload_n 0, 1) := by decide +kernel
theorem dX6_setUp_41 : decode cX6_setUp 41 = .ok (.getfield 19, 3) := by decide +kernel
theorem dX6_setUp_44 : decode cX6_setUp 44 = .ok (.getfield 244, 3) := by decide +kernel
theorem dX6_setUp_47 : decode cX6_setUp 47 = .ok (.iload_n 3, 1) := by decide +kernel
theorem dX6_setUp_48 : decode cX6_setUp 48 = .ok (.iaload, 1) := by decide +kernel
theorem dX6_setUp_49 : decode cX6_setUp 49 = .ok (.iaload, 1) := by decide +kernel
theorem dX6_setUp_50 : decode cX6_setUp 50 = .ok (.iconst (-1), 1) := by decide +kernel
theorem dX6_setUp_51 : decode cX6_setUp 51 = .ok (.if_icmp .eq 12, 3) := by decide +kernel
theorem dX6_setUp_54 : decode cX6_setUp 54 = .ok (.aload_n 2, 1) := by decide +kernel
theorem dX6_setUp_55 : decode cX6_setUp 55 = .ok (.iload_n 3, 1) := by decide +kernel
theorem dX6_setUp_56 : decode cX6_setUp 56 = .ok (.aload_n 0, 1) := by decide +kernel
theorem dX6_setUp_57 : decode cX6_setUp 57 = .ok (.getfield 19, 3) := by decide +kernel
theorem dX6_setUp_60 : decode cX6_setUp 60 = .ok (.invokevirtual 247, 3) := by decide +kernel
theorem dX6_setUp_63 : decode cX6_setUp 63 = .ok (.iinc 3 1, 3) := by decide +kernel
theorem dX6_setUp_66 : decode cX6_setUp 66 = .ok (.goto (-41), 3) := by decide +kernel
theorem dX6_setUp_69 : decode cX6_setUp 69 = .ok (.iconst 0, 1) := by decide +kernel
theorem dX6_setUp_70 : decode cX6_setUp 70 = .ok (.istore_n 3, 1) := by decide +kernel
theorem dX6_setUp_71 : decode cX6_setUp 71 = .ok (.iload_n 3, 1) := by decide +kernel
theorem dX6_setUp_72 : decode cX6_setUp 72 = .ok (.aload_n 2, 1) := by decide +kernel
theorem dX6_setUp_73 : decode cX6_setUp 73 = .ok (.invokevirtual 166, 3) := by decide +kernel
theorem dX6_setUp_76 : decode cX6_setUp 76 = .ok (.if_icmp .ge 22, 3) := by decide +kernel
theorem dX6_setUp_79 : decode cX6_setUp 79 = .ok (.aload_n 0, 1) := by decide +kernel
theorem dX6_setUp_80 : decode cX6_setUp 80 = .ok (.getfield 40, 3) := by decide +kernel
theorem dX6_setUp_83 : decode cX6_setUp 83 = .ok (.aload_n 0, 1) := by decide +kernel
theorem dX6_setUp_84 : decode cX6_setUp 84 = .ok (.getfield 19, 3) := by decide +kernel
theorem dX6_setUp_87 : decode cX6_setUp 87 = .ok (.aload_n 2, 1) := by decide +kernel
theorem dX6_setUp_88 : decode cX6_setUp 88 = .ok (.iload_n 3, 1) := by decide +kernel
theorem dX6_setUp_89 : decode cX6_setUp 89 = .ok (.invokevirtual 251, 3) := by decide +kernel
theorem dX6_setUp_92 : decode cX6_setUp 92 = .ok (.iinc 3 1, 3) := by decide +kernel
theorem dX6_setUp_95 : decode cX6_setUp 95 = .ok (.goto (-24), 3) := by decide +kernel
theorem dX6_setUp_98 : decode cX6_setUp 98 = .ok (.aload_n 2, 1) := by decide +kernel
theorem dX6_setUp_99 : decode cX6_setUp 99 = .ok (.aload_n 0, 1) := by decide +kernel
theorem dX6_setUp_100 : decode cX6_setUp 100 = .ok (.aload_n 2, 1) := by decide +kernel
theorem dX6_setUp_101 : decode cX6_setUp 101 = .ok (.invokevirtual 255, 3) := by decide +kernel
theorem dX6_setUp_104 : decode cX6_setUp 104 = .ok (.putfield 258, 3) := by decide +kernel
theorem dX6_setUp_107 : decode cX6_setUp 107 = .ok (.return_, 1) := by decide +kernel
abbrev cX6_placeFixedFeeders : ByteArray := prog_1_method_26_code
def yX6_placeFixedFeeders : MethodName := ⟨RX6, "placeFixedFeeders", "(LFeederOrders$Machine;I)V"⟩
theorem dX6_placeFixedFeeders_0 : decode cX6_placeFixedFeeders 0 = .ok (.iconst 0, 1) := by decide +kernel
theorem dX6_placeFixedFeeders_1 : decode cX6_placeFixedFeeders 1 = .ok (.istore_n 3, 1) := by decide +kernel
theorem dX6_placeFixedFeeders_2 : decode cX6_placeFixedFeeders 2 = .ok (.iload_n 3, 1) := by decide +kernel
theorem dX6_placeFixedFeeders_3 : decode cX6_placeFixedFeeders 3 = .ok (.aload_n 0, 1) := by decide +kernel
theorem dX6_placeFixedFeeders_4 : decode cX6_placeFixedFeeders 4 = .ok (.getfield 10, 3) := by decide +kernel
theorem dX6_placeFixedFeeders_7 : decode cX6_placeFixedFeeders 7 = .ok (.getfield 199, 3) := by decide +kernel
theorem dX6_placeFixedFeeders_10 : decode cX6_placeFixedFeeders 10 = .ok (.if_icmp .ge 37, 3) := by decide +kernel
theorem dX6_placeFixedFeeders_13 : decode cX6_placeFixedFeeders 13 = .ok (.aload_n 0, 1) := by decide +kernel
theorem dX6_placeFixedFeeders_14 : decode cX6_placeFixedFeeders 14 = .ok (.getfield 33, 3) := by decide +kernel
theorem dX6_placeFixedFeeders_17 : decode cX6_placeFixedFeeders 17 = .ok (.getfield 260, 3) := by decide +kernel
theorem dX6_placeFixedFeeders_20 : decode cX6_placeFixedFeeders 20 = .ok (.iload_n 3, 1) := by decide +kernel
theorem dX6_placeFixedFeeders_21 : decode cX6_placeFixedFeeders 21 = .ok (.iaload, 1) := by decide +kernel
theorem dX6_placeFixedFeeders_22 : decode cX6_placeFixedFeeders 22 = .ok (.iload_n 2, 1) := by decide +kernel
theorem dX6_placeFixedFeeders_23 : decode cX6_placeFixedFeeders 23 = .ok (.if_icmp .ne 18, 3) := by decide +kernel
theorem dX6_placeFixedFeeders_26 : decode cX6_placeFixedFeeders 26 = .ok (.aload_n 1, 1) := by decide +kernel
theorem dX6_placeFixedFeeders_27 : decode cX6_placeFixedFeeders 27 = .ok (.getfield 151, 3) := by decide +kernel
theorem dX6_placeFixedFeeders_30 : decode cX6_placeFixedFeeders 30 = .ok (.iload_n 3, 1) := by decide +kernel
theorem dX6_placeFixedFeeders_31 : decode cX6_placeFixedFeeders 31 = .ok (.aload_n 0, 1) := by decide +kernel
theorem dX6_placeFixedFeeders_32 : decode cX6_placeFixedFeeders 32 = .ok (.getfield 10, 3) := by decide +kernel
theorem dX6_placeFixedFeeders_35 : decode cX6_placeFixedFeeders 35 = .ok (.getfield 121, 3) := by decide +kernel
theorem dX6_placeFixedFeeders_38 : decode cX6_placeFixedFeeders 38 = .ok (.iload_n 3, 1) := by decide +kernel
theorem dX6_placeFixedFeeders_39 : decode cX6_placeFixedFeeders 39 = .ok (.iaload, 1) := by decide +kernel
theorem dX6_placeFixedFeeders_40 : decode cX6_placeFixedFeeders 40 = .ok (.iastore, 1) := by decide +kernel
theorem dX6_placeFixedFeeders_41 : decode cX6_placeFixedFeeders 41 = .ok (.iinc 3 1, 3) := by decide +kernel
theorem dX6_placeFixedFeeders_44 : decode cX6_placeFixedFeeders 44 = .ok (.goto (-42), 3) := by decide +kernel
theorem dX6_placeFixedFeeders_47 : decode cX6_placeFixedFeeders 47 = .ok (.return_, 1) := by decide +kernel
abbrev cX6_placeOtherFeeders : ByteArray := prog_1_method_27_code
def yX6_placeOtherFeeders : MethodName := ⟨RX6, "placeOtherFeeders", "(LFeederOrders$Machine;I)V"⟩
theorem dX6_placeOtherFeeders_0 : decode cX6_placeOtherFeeders 0 = .ok (.iconst 0, 1) := by decide +kernel
theorem dX6_placeOtherFeeders_1 : decode cX6_placeOtherFeeders 1 = .ok (.istore_n 3, 1) := by decide +kernel
theorem dX6_placeOtherFeeders_2 : decode cX6_placeOtherFeeders 2 = .ok (.iload_n 3, 1) := by decide +kernel
theorem dX6_placeOtherFeeders_3 : decode cX6_placeOtherFeeders 3 = .ok (.aload_n 0, 1) := by decide +kernel
theorem dX6_placeOtherFeeders_4 : decode cX6_placeOtherFeeders 4 = .ok (.getfield 10, 3) := by decide +kernel
theorem dX6_placeOtherFeeders_7 : decode cX6_placeOtherFeeders 7 = .ok (.getfield 199, 3) := by decide +kernel
theorem dX6_placeOtherFeeders_10 : decode cX6_placeOtherFeeders 10 = .ok (.if_icmp .ge 55, 3) := by decide +kernel
theorem dX6_placeOtherFeeders_13 : decode cX6_placeOtherFeeders 13 = .ok (.aload_n 0, 1) := by decide +kernel
theorem dX6_placeOtherFeeders_14 : decode cX6_placeOtherFeeders 14 = .ok (.getfield 33, 3) := by decide +kernel
theorem dX6_placeOtherFeeders_17 : decode cX6_placeOtherFeeders 17 = .ok (.getfield 260, 3) := by decide +kernel
theorem dX6_placeOtherFeeders_20 : decode cX6_placeOtherFeeders 20 = .ok (.iload_n 3, 1) := by decide +kernel
theorem dX6_placeOtherFeeders_21 : decode cX6_placeOtherFeeders 21 = .ok (.iaload, 1) := by decide +kernel
theorem dX6_placeOtherFeeders_22 : decode cX6_placeOtherFeeders 22 = .ok (.iload_n 2, 1) := by decide +kernel
theorem dX6_placeOtherFeeders_23 : decode cX6_placeOtherFeeders 23 = .ok (.if_icmp .ne 36, 3) := by decide +kernel
theorem dX6_placeOtherFeeders_26 : decode cX6_placeOtherFeeders 26 = .ok (.aload_n 0, 1) := by decide +kernel
theorem dX6_placeOtherFeeders_27 : decode cX6_placeOtherFeeders 27 = .ok (.getfield 10, 3) := by decide +kernel
theorem dX6_placeOtherFeeders_30 : decode cX6_placeOtherFeeders 30 = .ok (.getfield 121, 3) := by decide +kernel
theorem dX6_placeOtherFeeders_33 : decode cX6_placeOtherFeeders 33 = .ok (.iload_n 3, 1) := by decide +kernel
theorem dX6_placeOtherFeeders_34 : decode cX6_placeOtherFeeders 34 = .ok (.iaload, 1) := by decide +kernel
theorem dX6_placeOtherFeeders_35 : decode cX6_placeOtherFeeders 35 = .ok (.iconst (-1), 1) := by decide +kernel
theorem dX6_placeOtherFeeders_36 : decode cX6_placeOtherFeeders 36 = .ok (.if_icmp .ne 23, 3) := by decide +kernel
theorem dX6_placeOtherFeeders_39 : decode cX6_placeOtherFeeders 39 = .ok (.aload_n 1, 1) := by decide +kernel
theorem dX6_placeOtherFeeders_40 : decode cX6_placeOtherFeeders 40 = .ok (.getfield 151, 3) := by decide +kernel
theorem dX6_placeOtherFeeders_43 : decode cX6_placeOtherFeeders 43 = .ok (.iload_n 3, 1) := by decide +kernel
theorem dX6_placeOtherFeeders_44 : decode cX6_placeOtherFeeders 44 = .ok (.aload_n 0, 1) := by decide +kernel
theorem dX6_placeOtherFeeders_45 : decode cX6_placeOtherFeeders 45 = .ok (.aload_n 1, 1) := by decide +kernel
theorem dX6_placeOtherFeeders_46 : decode cX6_placeOtherFeeders 46 = .ok (.aload_n 0, 1) := by decide +kernel
theorem dX6_placeOtherFeeders_47 : decode cX6_placeOtherFeeders 47 = .ok (.getfield 10, 3) := by decide +kernel
theorem dX6_placeOtherFeeders_50 : decode cX6_placeOtherFeeders 50 = .ok (.getfield 118, 3) := by decide +kernel
theorem dX6_placeOtherFeeders_53 : decode cX6_placeOtherFeeders 53 = .ok (.iload_n 3, 1) := by decide +kernel
theorem dX6_placeOtherFeeders_54 : decode cX6_placeOtherFeeders 54 = .ok (.iaload, 1) := by decide +kernel
theorem dX6_placeOtherFeeders_55 : decode cX6_placeOtherFeeders 55 = .ok (.invokevirtual 263, 3) := by decide +kernel
theorem dX6_placeOtherFeeders_58 : decode cX6_placeOtherFeeders 58 = .ok (.iastore, 1) := by decide +kernel
theorem dX6_placeOtherFeeders_59 : decode cX6_placeOtherFeeders 59 = .ok (.iinc 3 1, 3) := by decide +kernel
theorem dX6_placeOtherFeeders_62 : decode cX6_placeOtherFeeders 62 = .ok (.goto (-60), 3) := by decide +kernel
theorem dX6_placeOtherFeeders_65 : decode cX6_placeOtherFeeders 65 = .ok (.return_, 1) := by decide +kernel
abbrev cX6_lowestRoom : ByteArray := prog_1_method_28_code
def yX6_lowestRoom : MethodName := ⟨RX6, "lowestRoom", "(LFeederOrders$Machine;I)I"⟩
theorem dX6_lowestRoom_0 : decode cX6_lowestRoom 0 = .ok (.iconst 0, 1) := by decide +kernel
theorem dX6_lowestRoom_1 : decode cX6_lowestRoom 1 = .ok (.istore_n 3, 1) := by decide +kernel
theorem dX6_lowestRoom_2 : decode cX6_lowestRoom 2 = .ok (.iload_n 3, 1) := by decide +kernel
theorem dX6_lowestRoom_3 : decode cX6_lowestRoom 3 = .ok (.iload_n 2, 1) := by decide +kernel
theorem dX6_lowestRoom_4 : decode cX6_lowestRoom 4 = .ok (.iadd, 1) := by decide +kernel
theorem dX6_lowestRoom_5 : decode cX6_lowestRoom 5 = .ok (.aload_n 0, 1) := by decide +kernel
theorem dX6_lowestRoom_6 : decode cX6_lowestRoom 6 = .ok (.getfield 64, 3) := by decide +kernel
theorem dX6_lowestRoom_9 : decode cX6_lowestRoom 9 = .ok (.if_icmp .gt 27, 3) := by decide +kernel
theorem dX6_lowestRoom_12 : decode cX6_lowestRoom 12 = .ok (.aload_n 0, 1) := by decide +kernel
theorem dX6_lowestRoom_13 : decode cX6_lowestRoom 13 = .ok (.getfield 10, 3) := by decide +kernel
theorem dX6_lowestRoom_16 : decode cX6_lowestRoom 16 = .ok (.aload_n 1, 1) := by decide +kernel
theorem dX6_lowestRoom_17 : decode cX6_lowestRoom 17 = .ok (.getfield 151, 3) := by decide +kernel
theorem dX6_lowestRoom_20 : decode cX6_lowestRoom 20 = .ok (.iload_n 3, 1) := by decide +kernel
theorem dX6_lowestRoom_21 : decode cX6_lowestRoom 21 = .ok (.iload_n 2, 1) := by decide +kernel
theorem dX6_lowestRoom_22 : decode cX6_lowestRoom 22 = .ok (.invokevirtual 124, 3) := by decide +kernel
theorem dX6_lowestRoom_25 : decode cX6_lowestRoom 25 = .ok (.ifCond .eq 5, 3) := by decide +kernel
theorem dX6_lowestRoom_28 : decode cX6_lowestRoom 28 = .ok (.iload_n 3, 1) := by decide +kernel
theorem dX6_lowestRoom_29 : decode cX6_lowestRoom 29 = .ok (.ireturn, 1) := by decide +kernel
theorem dX6_lowestRoom_30 : decode cX6_lowestRoom 30 = .ok (.iinc 3 1, 3) := by decide +kernel
theorem dX6_lowestRoom_33 : decode cX6_lowestRoom 33 = .ok (.goto (-31), 3) := by decide +kernel
theorem dX6_lowestRoom_36 : decode cX6_lowestRoom 36 = .ok (.iconst (-1), 1) := by decide +kernel
theorem dX6_lowestRoom_37 : decode cX6_lowestRoom 37 = .ok (.ireturn, 1) := by decide +kernel
abbrev cX6_exchangeParts : ByteArray := prog_1_method_29_code
def yX6_exchangeParts : MethodName := ⟨RX6, "exchangeParts", "(I)I"⟩
theorem dX6_exchangeParts_0 : decode cX6_exchangeParts 0 = .ok (.iconst 0, 1) := by decide +kernel
theorem dX6_exchangeParts_1 : decode cX6_exchangeParts 1 = .ok (.istore_n 2, 1) := by decide +kernel
theorem dX6_exchangeParts_2 : decode cX6_exchangeParts 2 = .ok (.iconst 0, 1) := by decide +kernel
theorem dX6_exchangeParts_3 : decode cX6_exchangeParts 3 = .ok (.istore_n 3, 1) := by decide +kernel
theorem dX6_exchangeParts_4 : decode cX6_exchangeParts 4 = .ok (.iload_n 3, 1) := by decide +kernel
theorem dX6_exchangeParts_5 : decode cX6_exchangeParts 5 = .ok (.iload_n 1, 1) := by decide +kernel
theorem dX6_exchangeParts_6 : decode cX6_exchangeParts 6 = .ok (.if_icmp .ge 42, 3) := by decide +kernel
theorem dX6_exchangeParts_9 : decode cX6_exchangeParts 9 = .ok (.aload_n 0, 1) := by decide +kernel
theorem dX6_exchangeParts_10 : decode cX6_exchangeParts 10 = .ok (.getfield 52, 3) := by decide +kernel
theorem dX6_exchangeParts_13 : decode cX6_exchangeParts 13 = .ok (.ifCond .le 35, 3) := by decide +kernel
theorem dX6_exchangeParts_16 : decode cX6_exchangeParts 16 = .ok (.aload_n 0, 1) := by decide +kernel
theorem dX6_exchangeParts_17 : decode cX6_exchangeParts 17 = .ok (.aload_n 0, 1) := by decide +kernel
theorem dX6_exchangeParts_18 : decode cX6_exchangeParts 18 = .ok (.getfield 26, 3) := by decide +kernel
theorem dX6_exchangeParts_21 : decode cX6_exchangeParts 21 = .ok (.aload_n 0, 1) := by decide +kernel
theorem dX6_exchangeParts_22 : decode cX6_exchangeParts 22 = .ok (.getfield 72, 3) := by decide +kernel
theorem dX6_exchangeParts_25 : decode cX6_exchangeParts 25 = .ok (.aload_n 0, 1) := by decide +kernel
theorem dX6_exchangeParts_26 : decode cX6_exchangeParts 26 = .ok (.getfield 52, 3) := by decide +kernel
theorem dX6_exchangeParts_29 : decode cX6_exchangeParts 29 = .ok (.invokevirtual 267, 3) := by decide +kernel
theorem dX6_exchangeParts_32 : decode cX6_exchangeParts 32 = .ok (.aaload, 1) := by decide +kernel
theorem dX6_exchangeParts_33 : decode cX6_exchangeParts 33 = .ok (.invokevirtual 270, 3) := by decide +kernel
theorem dX6_exchangeParts_36 : decode cX6_exchangeParts 36 = .ok (.ifCond .eq 6, 3) := by decide +kernel
theorem dX6_exchangeParts_39 : decode cX6_exchangeParts 39 = .ok (.iinc 2 1, 3) := by decide +kernel
theorem dX6_exchangeParts_42 : decode cX6_exchangeParts 42 = .ok (.iinc 3 1, 3) := by decide +kernel
theorem dX6_exchangeParts_45 : decode cX6_exchangeParts 45 = .ok (.goto (-41), 3) := by decide +kernel
theorem dX6_exchangeParts_48 : decode cX6_exchangeParts 48 = .ok (.iload_n 2, 1) := by decide +kernel
theorem dX6_exchangeParts_49 : decode cX6_exchangeParts 49 = .ok (.ireturn, 1) := by decide +kernel
abbrev cX6_exchangeOnce : ByteArray := prog_1_method_30_code
def yX6_exchangeOnce : MethodName := ⟨RX6, "exchangeOnce", "(LFeederOrders$Machine;)Z"⟩
theorem dX6_exchangeOnce_0 : decode cX6_exchangeOnce 0 = .ok (.aload_n 1, 1) := by decide +kernel
theorem dX6_exchangeOnce_1 : decode cX6_exchangeOnce 1 = .ok (.getfield 274, 3) := by decide +kernel
theorem dX6_exchangeOnce_4 : decode cX6_exchangeOnce 4 = .ok (.iconst 2, 1) := by decide +kernel
theorem dX6_exchangeOnce_5 : decode cX6_exchangeOnce 5 = .ok (.if_icmp .ge 5, 3) := by decide +kernel
theorem dX6_exchangeOnce_8 : decode cX6_exchangeOnce 8 = .ok (.iconst 0, 1) := by decide +kernel
theorem dX6_exchangeOnce_9 : decode cX6_exchangeOnce 9 = .ok (.ireturn, 1) := by decide +kernel
theorem dX6_exchangeOnce_10 : decode cX6_exchangeOnce 10 = .ok (.aload_n 0, 1) := by decide +kernel
theorem dX6_exchangeOnce_11 : decode cX6_exchangeOnce 11 = .ok (.getfield 72, 3) := by decide +kernel
theorem dX6_exchangeOnce_14 : decode cX6_exchangeOnce 14 = .ok (.aload_n 1, 1) := by decide +kernel
theorem dX6_exchangeOnce_15 : decode cX6_exchangeOnce 15 = .ok (.getfield 274, 3) := by decide +kernel
theorem dX6_exchangeOnce_18 : decode cX6_exchangeOnce 18 = .ok (.invokevirtual 267, 3) := by decide +kernel
theorem dX6_exchangeOnce_21 : decode cX6_exchangeOnce 21 = .ok (.istore_n 2, 1) := by decide +kernel
theorem dX6_exchangeOnce_22 : decode cX6_exchangeOnce 22 = .ok (.aload_n 0, 1) := by decide +kernel
theorem dX6_exchangeOnce_23 : decode cX6_exchangeOnce 23 = .ok (.getfield 72, 3) := by decide +kernel
theorem dX6_exchangeOnce_26 : decode cX6_exchangeOnce 26 = .ok (.aload_n 1, 1) := by decide +kernel
theorem dX6_exchangeOnce_27 : decode cX6_exchangeOnce 27 = .ok (.getfield 274, 3) := by decide +kernel
theorem dX6_exchangeOnce_30 : decode cX6_exchangeOnce 30 = .ok (.invokevirtual 267, 3) := by decide +kernel
theorem dX6_exchangeOnce_33 : decode cX6_exchangeOnce 33 = .ok (.istore_n 3, 1) := by decide +kernel
theorem dX6_exchangeOnce_34 : decode cX6_exchangeOnce 34 = .ok (.aload_n 0, 1) := by decide +kernel
theorem dX6_exchangeOnce_35 : decode cX6_exchangeOnce 35 = .ok (.getfield 19, 3) := by decide +kernel
theorem dX6_exchangeOnce_38 : decode cX6_exchangeOnce 38 = .ok (.aload_n 1, 1) := by decide +kernel
theorem dX6_exchangeOnce_39 : decode cX6_exchangeOnce 39 = .ok (.getfield 277, 3) := by decide +kernel
theorem dX6_exchangeOnce_42 : decode cX6_exchangeOnce 42 = .ok (.iload_n 2, 1) := by decide +kernel
theorem dX6_exchangeOnce_43 : decode cX6_exchangeOnce 43 = .ok (.iaload, 1) := by decide +kernel
theorem dX6_exchangeOnce_44 : decode cX6_exchangeOnce 44 = .ok (.aload_n 1, 1) := by decide +kernel
theorem dX6_exchangeOnce_45 : decode cX6_exchangeOnce 45 = .ok (.getfield 277, 3) := by decide +kernel
theorem dX6_exchangeOnce_48 : decode cX6_exchangeOnce 48 = .ok (.iload_n 3, 1) := by decide +kernel
theorem dX6_exchangeOnce_49 : decode cX6_exchangeOnce 49 = .ok (.iaload, 1) := by decide +kernel
theorem dX6_exchangeOnce_50 : decode cX6_exchangeOnce 50 = .ok (.invokevirtual 280, 3) := by decide +kernel
theorem dX6_exchangeOnce_53 : decode cX6_exchangeOnce 53 = .ok (.ifCond .eq 16, 3) := by decide +kernel
theorem dX6_exchangeOnce_56 : decode cX6_exchangeOnce 56 = .ok (.aload_n 1, 1) := by decide +kernel
theorem dX6_exchangeOnce_57 : decode cX6_exchangeOnce 57 = .ok (.iload_n 2, 1) := by decide +kernel
theorem dX6_exchangeOnce_58 : decode cX6_exchangeOnce 58 = .ok (.invokevirtual 163, 3) := by decide +kernel
theorem dX6_exchangeOnce_61 : decode cX6_exchangeOnce 61 = .ok (.aload_n 1, 1) := by decide +kernel
theorem dX6_exchangeOnce_62 : decode cX6_exchangeOnce 62 = .ok (.iload_n 3, 1) := by decide +kernel
theorem dX6_exchangeOnce_63 : decode cX6_exchangeOnce 63 = .ok (.invokevirtual 163, 3) := by decide +kernel
theorem dX6_exchangeOnce_66 : decode cX6_exchangeOnce 66 = .ok (.if_icmp .ne 5, 3) := by decide +kernel
theorem dX6_exchangeOnce_69 : decode cX6_exchangeOnce 69 = .ok (.iconst 0, 1) := by decide +kernel
theorem dX6_exchangeOnce_70 : decode cX6_exchangeOnce 70 = .ok (.ireturn, 1) := by decide +kernel
theorem dX6_exchangeOnce_71 : decode cX6_exchangeOnce 71 = .ok (.aload_n 1, 1) := by decide +kernel
theorem dX6_exchangeOnce_72 : decode cX6_exchangeOnce 72 = .ok (.getfield 277, 3) := by decide +kernel
theorem dX6_exchangeOnce_75 : decode cX6_exchangeOnce 75 = .ok (.iconst 0, 1) := by decide +kernel
theorem dX6_exchangeOnce_76 : decode cX6_exchangeOnce 76 = .ok (.aload_n 0, 1) := by decide +kernel
theorem dX6_exchangeOnce_77 : decode cX6_exchangeOnce 77 = .ok (.getfield 44, 3) := by decide +kernel
theorem dX6_exchangeOnce_80 : decode cX6_exchangeOnce 80 = .ok (.iconst 0, 1) := by decide +kernel
theorem dX6_exchangeOnce_81 : decode cX6_exchangeOnce 81 = .ok (.aload_n 1, 1) := by decide +kernel
theorem dX6_exchangeOnce_82 : decode cX6_exchangeOnce 82 = .ok (.getfield 274, 3) := by decide +kernel
theorem dX6_exchangeOnce_85 : decode cX6_exchangeOnce 85 = .ok (.invokestatic 284, 3) := by decide +kernel
theorem dX6_exchangeOnce_88 : decode cX6_exchangeOnce 88 = .ok (.aload_n 1, 1) := by decide +kernel
theorem dX6_exchangeOnce_89 : decode cX6_exchangeOnce 89 = .ok (.getfield 277, 3) := by decide +kernel
theorem dX6_exchangeOnce_92 : decode cX6_exchangeOnce 92 = .ok (.iload_n 2, 1) := by decide +kernel
theorem dX6_exchangeOnce_93 : decode cX6_exchangeOnce 93 = .ok (.aload_n 0, 1) := by decide +kernel
theorem dX6_exchangeOnce_94 : decode cX6_exchangeOnce 94 = .ok (.getfield 44, 3) := by decide +kernel
theorem dX6_exchangeOnce_97 : decode cX6_exchangeOnce 97 = .ok (.iload_n 3, 1) := by decide +kernel
theorem dX6_exchangeOnce_98 : decode cX6_exchangeOnce 98 = .ok (.iaload, 1) := by decide +kernel
theorem dX6_exchangeOnce_99 : decode cX6_exchangeOnce 99 = .ok (.iastore, 1) := by decide +kernel
theorem dX6_exchangeOnce_100 : decode cX6_exchangeOnce 100 = .ok (.aload_n 1, 1) := by decide +kernel
theorem dX6_exchangeOnce_101 : decode cX6_exchangeOnce 101 = .ok (.getfield 277, 3) := by decide +kernel
theorem dX6_exchangeOnce_104 : decode cX6_exchangeOnce 104 = .ok (.iload_n 3, 1) := by decide +kernel
theorem dX6_exchangeOnce_105 : decode cX6_exchangeOnce 105 = .ok (.aload_n 0, 1) := by decide +kernel
theorem dX6_exchangeOnce_106 : decode cX6_exchangeOnce 106 = .ok (.getfield 44, 3) := by decide +kernel
theorem dX6_exchangeOnce_109 : decode cX6_exchangeOnce 109 = .ok (.iload_n 2, 1) := by decide +kernel
theorem dX6_exchangeOnce_110 : decode cX6_exchangeOnce 110 = .ok (.iaload, 1) := by decide +kernel
theorem dX6_exchangeOnce_111 : decode cX6_exchangeOnce 111 = .ok (.iastore, 1) := by decide +kernel
theorem dX6_exchangeOnce_112 : decode cX6_exchangeOnce 112 = .ok (.aload_n 0, 1) := by decide +kernel
theorem dX6_exchangeOnce_113 : decode cX6_exchangeOnce 113 = .ok (.getfield 40, 3) := by decide +kernel
theorem dX6_exchangeOnce_116 : decode cX6_exchangeOnce 116 = .ok (.aload_n 0, 1) := by decide +kernel
theorem dX6_exchangeOnce_117 : decode cX6_exchangeOnce 117 = .ok (.getfield 19, 3) := by decide +kernel
theorem dX6_exchangeOnce_120 : decode cX6_exchangeOnce 120 = .ok (.aload_n 1, 1) := by decide +kernel
theorem dX6_exchangeOnce_121 : decode cX6_exchangeOnce 121 = .ok (.aload_n 1, 1) := by decide +kernel
theorem dX6_exchangeOnce_122 : decode cX6_exchangeOnce 122 = .ok (.iload_n 2, 1) := by decide +kernel
theorem dX6_exchangeOnce_123 : decode cX6_exchangeOnce 123 = .ok (.invokevirtual 163, 3) := by decide +kernel
theorem dX6_exchangeOnce_126 : decode cX6_exchangeOnce 126 = .ok (.invokevirtual 251, 3) := by decide +kernel
theorem dX6_exchangeOnce_129 : decode cX6_exchangeOnce 129 = .ok (.aload_n 0, 1) := by decide +kernel
theorem dX6_exchangeOnce_130 : decode cX6_exchangeOnce 130 = .ok (.getfield 40, 3) := by decide +kernel
theorem dX6_exchangeOnce_133 : decode cX6_exchangeOnce 133 = .ok (.aload_n 0, 1) := by decide +kernel
theorem dX6_exchangeOnce_134 : decode cX6_exchangeOnce 134 = .ok (.getfield 19, 3) := by decide +kernel
theorem dX6_exchangeOnce_137 : decode cX6_exchangeOnce 137 = .ok (.aload_n 1, 1) := by decide +kernel
theorem dX6_exchangeOnce_138 : decode cX6_exchangeOnce 138 = .ok (.aload_n 1, 1) := by decide +kernel
theorem dX6_exchangeOnce_139 : decode cX6_exchangeOnce 139 = .ok (.iload_n 3, 1) := by decide +kernel
theorem dX6_exchangeOnce_140 : decode cX6_exchangeOnce 140 = .ok (.invokevirtual 163, 3) := by decide +kernel
theorem dX6_exchangeOnce_143 : decode cX6_exchangeOnce 143 = .ok (.invokevirtual 251, 3) := by decide +kernel
theorem dX6_exchangeOnce_146 : decode cX6_exchangeOnce 146 = .ok (.aload_n 0, 1) := by decide +kernel
theorem dX6_exchangeOnce_147 : decode cX6_exchangeOnce 147 = .ok (.aload_n 1, 1) := by decide +kernel
theorem dX6_exchangeOnce_148 : decode cX6_exchangeOnce 148 = .ok (.invokevirtual 255, 3) := by decide +kernel
theorem dX6_exchangeOnce_151 : decode cX6_exchangeOnce 151 = .ok (.istore 4, 2) := by decide +kernel
theorem dX6_exchangeOnce_153 : decode cX6_exchangeOnce 153 = .ok (.iload 4, 2) := by decide +kernel
theorem dX6_exchangeOnce_155 : decode cX6_exchangeOnce 155 = .ok (.aload_n 1, 1) := by decide +kernel
theorem dX6_exchangeOnce_156 : decode cX6_exchangeOnce 156 = .ok (.getfield 258, 3) := by decide +kernel
theorem dX6_exchangeOnce_159 : decode cX6_exchangeOnce 159 = .ok (.if_icmp .ge 11, 3) := by decide +kernel
theorem dX6_exchangeOnce_162 : decode cX6_exchangeOnce 162 = .ok (.aload_n 1, 1) := by decide +kernel
theorem dX6_exchangeOnce_163 : decode cX6_exchangeOnce 163 = .ok (.iload 4, 2) := by decide +kernel
theorem dX6_exchangeOnce_165 : decode cX6_exchangeOnce 165 = .ok (.putfield 258, 3) := by decide +kernel
theorem dX6_exchangeOnce_168 : decode cX6_exchangeOnce 168 = .ok (.iconst 1, 1) := by decide +kernel
theorem dX6_exchangeOnce_169 : decode cX6_exchangeOnce 169 = .ok (.ireturn, 1) := by decide +kernel
theorem dX6_exchangeOnce_170 : decode cX6_exchangeOnce 170 = .ok (.aload_n 0, 1) := by decide +kernel
theorem dX6_exchangeOnce_171 : decode cX6_exchangeOnce 171 = .ok (.getfield 44, 3) := by decide +kernel
theorem dX6_exchangeOnce_174 : decode cX6_exchangeOnce 174 = .ok (.iconst 0, 1) := by decide +kernel
theorem dX6_exchangeOnce_175 : decode cX6_exchangeOnce 175 = .ok (.aload_n 1, 1) := by decide +kernel
theorem dX6_exchangeOnce_176 : decode cX6_exchangeOnce 176 = .ok (.getfield 277, 3) := by decide +kernel
theorem dX6_exchangeOnce_179 : decode cX6_exchangeOnce 179 = .ok (.iconst 0, 1) := by decide +kernel
theorem dX6_exchangeOnce_180 : decode cX6_exchangeOnce 180 = .ok (.aload_n 1, 1) := by decide +kernel
theorem dX6_exchangeOnce_181 : decode cX6_exchangeOnce 181 = .ok (.getfield 274, 3) := by decide +kernel
theorem dX6_exchangeOnce_184 : decode cX6_exchangeOnce 184 = .ok (.invokestatic 284, 3) := by decide +kernel
theorem dX6_exchangeOnce_187 : decode cX6_exchangeOnce 187 = .ok (.iconst 0, 1) := by decide +kernel
theorem dX6_exchangeOnce_188 : decode cX6_exchangeOnce 188 = .ok (.ireturn, 1) := by decide +kernel
abbrev cX6_greatestTime : ByteArray := prog_1_method_31_code
def yX6_greatestTime : MethodName := ⟨RX6, "greatestTime", "()I"⟩
theorem dX6_greatestTime_0 : decode cX6_greatestTime 0 = .ok (.iconst 0, 1) := by decide +kernel
theorem dX6_greatestTime_1 : decode cX6_greatestTime 1 = .ok (.istore_n 1, 1) := by decide +kernel
theorem dX6_greatestTime_2 : decode cX6_greatestTime 2 = .ok (.iconst 0, 1) := by decide +kernel
theorem dX6_greatestTime_3 : decode cX6_greatestTime 3 = .ok (.istore_n 2, 1) := by decide +kernel
theorem dX6_greatestTime_4 : decode cX6_greatestTime 4 = .ok (.iload_n 2, 1) := by decide +kernel
theorem dX6_greatestTime_5 : decode cX6_greatestTime 5 = .ok (.aload_n 0, 1) := by decide +kernel
theorem dX6_greatestTime_6 : decode cX6_greatestTime 6 = .ok (.getfield 52, 3) := by decide +kernel
theorem dX6_greatestTime_9 : decode cX6_greatestTime 9 = .ok (.if_icmp .ge 34, 3) := by decide +kernel
theorem dX6_greatestTime_12 : decode cX6_greatestTime 12 = .ok (.iload_n 1, 1) := by decide +kernel
theorem dX6_greatestTime_13 : decode cX6_greatestTime 13 = .ok (.aload_n 0, 1) := by decide +kernel
theorem dX6_greatestTime_14 : decode cX6_greatestTime 14 = .ok (.getfield 26, 3) := by decide +kernel
theorem dX6_greatestTime_17 : decode cX6_greatestTime 17 = .ok (.iload_n 2, 1) := by decide +kernel
theorem dX6_greatestTime_18 : decode cX6_greatestTime 18 = .ok (.aaload, 1) := by decide +kernel
theorem dX6_greatestTime_19 : decode cX6_greatestTime 19 = .ok (.getfield 258, 3) := by decide +kernel
theorem dX6_greatestTime_22 : decode cX6_greatestTime 22 = .ok (.aload_n 0, 1) := by decide +kernel
theorem dX6_greatestTime_23 : decode cX6_greatestTime 23 = .ok (.aload_n 0, 1) := by decide +kernel
theorem dX6_greatestTime_24 : decode cX6_greatestTime 24 = .ok (.getfield 26, 3) := by decide +kernel
theorem dX6_greatestTime_27 : decode cX6_greatestTime 27 = .ok (.iload_n 2, 1) := by decide +kernel
theorem dX6_greatestTime_28 : decode cX6_greatestTime 28 = .ok (.aaload, 1) := by decide +kernel
theorem dX6_greatestTime_29 : decode cX6_greatestTime 29 = .ok (.invokevirtual 169, 3) := by decide +kernel
theorem dX6_greatestTime_32 : decode cX6_greatestTime 32 = .ok (.iadd, 1) := by decide +kernel
theorem dX6_greatestTime_33 : decode cX6_greatestTime 33 = .ok (.invokestatic 61, 3) := by decide +kernel
theorem dX6_greatestTime_36 : decode cX6_greatestTime 36 = .ok (.istore_n 1, 1) := by decide +kernel
theorem dX6_greatestTime_37 : decode cX6_greatestTime 37 = .ok (.iinc 2 1, 3) := by decide +kernel
theorem dX6_greatestTime_40 : decode cX6_greatestTime 40 = .ok (.goto (-36), 3) := by decide +kernel
theorem dX6_greatestTime_43 : decode cX6_greatestTime 43 = .ok (.iload_n 1, 1) := by decide +kernel
theorem dX6_greatestTime_44 : decode cX6_greatestTime 44 = .ok (.ireturn, 1) := by decide +kernel
abbrev cX6_moveTime : ByteArray := prog_1_method_32_code
def yX6_moveTime : MethodName := ⟨RX6, "moveTime", "(LFeederOrders$Machine;)I"⟩
theorem dX6_moveTime_0 : decode cX6_moveTime 0 = .ok (.iconst 0, 1) := by decide +kernel
theorem dX6_moveTime_1 : decode cX6_moveTime 1 = .ok (.istore_n 2, 1) := by decide +kernel
theorem dX6_moveTime_2 : decode cX6_moveTime 2 = .ok (.iconst (-1), 1) := by decide +kernel
theorem dX6_moveTime_3 : decode cX6_moveTime 3 = .ok (.istore_n 3, 1) := by decide +kernel
theorem dX6_moveTime_4 : decode cX6_moveTime 4 = .ok (.iconst 0, 1) := by decide +kernel
theorem dX6_moveTime_5 : decode cX6_moveTime 5 = .ok (.istore 4, 2) := by decide +kernel
theorem dX6_moveTime_7 : decode cX6_moveTime 7 = .ok (.iload 4, 2) := by decide +kernel
theorem dX6_moveTime_9 : decode cX6_moveTime 9 = .ok (.aload_n 1, 1) := by decide +kernel
theorem dX6_moveTime_10 : decode cX6_moveTime 10 = .ok (.getfield 274, 3) := by decide +kernel
theorem dX6_moveTime_13 : decode cX6_moveTime 13 = .ok (.if_icmp .ge 71, 3) := by decide +kernel
theorem dX6_moveTime_16 : decode cX6_moveTime 16 = .ok (.iload 4, 2) := by decide +kernel
theorem dX6_moveTime_18 : decode cX6_moveTime 18 = .ok (.ifCond .le 34, 3) := by decide +kernel
theorem dX6_moveTime_21 : decode cX6_moveTime 21 = .ok (.aload_n 1, 1) := by decide +kernel
theorem dX6_moveTime_22 : decode cX6_moveTime 22 = .ok (.iload 4, 2) := by decide +kernel
theorem dX6_moveTime_24 : decode cX6_moveTime 24 = .ok (.invokevirtual 163, 3) := by decide +kernel
theorem dX6_moveTime_27 : decode cX6_moveTime 27 = .ok (.aload_n 1, 1) := by decide +kernel
theorem dX6_moveTime_28 : decode cX6_moveTime 28 = .ok (.iload 4, 2) := by decide +kernel
theorem dX6_moveTime_30 : decode cX6_moveTime 30 = .ok (.iconst 1, 1) := by decide +kernel
theorem dX6_moveTime_31 : decode cX6_moveTime 31 = .ok (.isub, 1) := by decide +kernel
theorem dX6_moveTime_32 : decode cX6_moveTime 32 = .ok (.invokevirtual 163, 3) := by decide +kernel
theorem dX6_moveTime_35 : decode cX6_moveTime 35 = .ok (.if_icmp .eq 17, 3) := by decide +kernel
theorem dX6_moveTime_38 : decode cX6_moveTime 38 = .ok (.iload_n 2, 1) := by decide +kernel
theorem dX6_moveTime_39 : decode cX6_moveTime 39 = .ok (.aload_n 0, 1) := by decide +kernel
theorem dX6_moveTime_40 : decode cX6_moveTime 40 = .ok (.getfield 19, 3) := by decide +kernel
theorem dX6_moveTime_43 : decode cX6_moveTime 43 = .ok (.iload_n 3, 1) := by decide +kernel
theorem dX6_moveTime_44 : decode cX6_moveTime 44 = .ok (.iconst (-1), 1) := by decide +kernel
theorem dX6_moveTime_45 : decode cX6_moveTime 45 = .ok (.invokevirtual 290, 3) := by decide +kernel
theorem dX6_moveTime_48 : decode cX6_moveTime 48 = .ok (.iadd, 1) := by decide +kernel
theorem dX6_moveTime_49 : decode cX6_moveTime 49 = .ok (.istore_n 2, 1) := by decide +kernel
theorem dX6_moveTime_50 : decode cX6_moveTime 50 = .ok (.iconst (-1), 1) := by decide +kernel
theorem dX6_moveTime_51 : decode cX6_moveTime 51 = .ok (.istore_n 3, 1) := by decide +kernel
theorem dX6_moveTime_52 : decode cX6_moveTime 52 = .ok (.iload_n 2, 1) := by decide +kernel
theorem dX6_moveTime_53 : decode cX6_moveTime 53 = .ok (.aload_n 0, 1) := by decide +kernel
theorem dX6_moveTime_54 : decode cX6_moveTime 54 = .ok (.getfield 19, 3) := by decide +kernel
theorem dX6_moveTime_57 : decode cX6_moveTime 57 = .ok (.iload_n 3, 1) := by decide +kernel
theorem dX6_moveTime_58 : decode cX6_moveTime 58 = .ok (.aload_n 1, 1) := by decide +kernel
theorem dX6_moveTime_59 : decode cX6_moveTime 59 = .ok (.getfield 277, 3) := by decide +kernel
theorem dX6_moveTime_62 : decode cX6_moveTime 62 = .ok (.iload 4, 2) := by decide +kernel
theorem dX6_moveTime_64 : decode cX6_moveTime 64 = .ok (.iaload, 1) := by decide +kernel
theorem dX6_moveTime_65 : decode cX6_moveTime 65 = .ok (.invokevirtual 290, 3) := by decide +kernel
theorem dX6_moveTime_68 : decode cX6_moveTime 68 = .ok (.iadd, 1) := by decide +kernel
theorem dX6_moveTime_69 : decode cX6_moveTime 69 = .ok (.istore_n 2, 1) := by decide +kernel
theorem dX6_moveTime_70 : decode cX6_moveTime 70 = .ok (.aload_n 1, 1) := by decide +kernel
theorem dX6_moveTime_71 : decode cX6_moveTime 71 = .ok (.getfield 277, 3) := by decide +kernel
theorem dX6_moveTime_74 : decode cX6_moveTime 74 = .ok (.iload 4, 2) := by decide +kernel
theorem dX6_moveTime_76 : decode cX6_moveTime 76 = .ok (.iaload, 1) := by decide +kernel
theorem dX6_moveTime_77 : decode cX6_moveTime 77 = .ok (.istore_n 3, 1) := by decide +kernel
theorem dX6_moveTime_78 : decode cX6_moveTime 78 = .ok (.iinc 4 1, 3) := by decide +kernel
theorem dX6_moveTime_81 : decode cX6_moveTime 81 = .ok (.goto (-74), 3) := by decide +kernel
theorem dX6_moveTime_84 : decode cX6_moveTime 84 = .ok (.iload_n 2, 1) := by decide +kernel
theorem dX6_moveTime_85 : decode cX6_moveTime 85 = .ok (.aload_n 0, 1) := by decide +kernel
theorem dX6_moveTime_86 : decode cX6_moveTime 86 = .ok (.getfield 19, 3) := by decide +kernel
theorem dX6_moveTime_89 : decode cX6_moveTime 89 = .ok (.iload_n 3, 1) := by decide +kernel
theorem dX6_moveTime_90 : decode cX6_moveTime 90 = .ok (.iconst (-1), 1) := by decide +kernel
theorem dX6_moveTime_91 : decode cX6_moveTime 91 = .ok (.invokevirtual 290, 3) := by decide +kernel
theorem dX6_moveTime_94 : decode cX6_moveTime 94 = .ok (.iadd, 1) := by decide +kernel
theorem dX6_moveTime_95 : decode cX6_moveTime 95 = .ok (.bipush 20, 2) := by decide +kernel
theorem dX6_moveTime_97 : decode cX6_moveTime 97 = .ok (.aload_n 0, 1) := by decide +kernel
theorem dX6_moveTime_98 : decode cX6_moveTime 98 = .ok (.aload_n 1, 1) := by decide +kernel
theorem dX6_moveTime_99 : decode cX6_moveTime 99 = .ok (.invokevirtual 208, 3) := by decide +kernel
theorem dX6_moveTime_102 : decode cX6_moveTime 102 = .ok (.imul, 1) := by decide +kernel
theorem dX6_moveTime_103 : decode cX6_moveTime 103 = .ok (.iadd, 1) := by decide +kernel
theorem dX6_moveTime_104 : decode cX6_moveTime 104 = .ok (.ireturn, 1) := by decide +kernel
abbrev cX6_countChanges : ByteArray := prog_1_method_33_code
def yX6_countChanges : MethodName := ⟨RX6, "countChanges", "(LFeederOrders$Machine;)I"⟩
theorem dX6_countChanges_0 : decode cX6_countChanges 0 = .ok (.iconst 0, 1) := by decide +kernel
theorem dX6_countChanges_1 : decode cX6_countChanges 1 = .ok (.istore_n 2, 1) := by decide +kernel
theorem dX6_countChanges_2 : decode cX6_countChanges 2 = .ok (.iconst 1, 1) := by decide +kernel
theorem dX6_countChanges_3 : decode cX6_countChanges 3 = .ok (.istore_n 3, 1) := by decide +kernel
theorem dX6_countChanges_4 : decode cX6_countChanges 4 = .ok (.iload_n 3, 1) := by decide +kernel
theorem dX6_countChanges_5 : decode cX6_countChanges 5 = .ok (.aload_n 1, 1) := by decide +kernel
theorem dX6_countChanges_6 : decode cX6_countChanges 6 = .ok (.getfield 274, 3) := by decide +kernel
theorem dX6_countChanges_9 : decode cX6_countChanges 9 = .ok (.if_icmp .ge 37, 3) := by decide +kernel
theorem dX6_countChanges_12 : decode cX6_countChanges 12 = .ok (.aload_n 0, 1) := by decide +kernel
theorem dX6_countChanges_13 : decode cX6_countChanges 13 = .ok (.aload_n 1, 1) := by decide +kernel
theorem dX6_countChanges_14 : decode cX6_countChanges 14 = .ok (.getfield 277, 3) := by decide +kernel
theorem dX6_countChanges_17 : decode cX6_countChanges 17 = .ok (.iload_n 3, 1) := by decide +kernel
theorem dX6_countChanges_18 : decode cX6_countChanges 18 = .ok (.iconst 1, 1) := by decide +kernel
theorem dX6_countChanges_19 : decode cX6_countChanges 19 = .ok (.isub, 1) := by decide +kernel
theorem dX6_countChanges_20 : decode cX6_countChanges 20 = .ok (.iaload, 1) := by decide +kernel
theorem dX6_countChanges_21 : decode cX6_countChanges 21 = .ok (.invokevirtual 293, 3) := by decide +kernel
theorem dX6_countChanges_24 : decode cX6_countChanges 24 = .ok (.aload_n 0, 1) := by decide +kernel
theorem dX6_countChanges_25 : decode cX6_countChanges 25 = .ok (.aload_n 1, 1) := by decide +kernel
theorem dX6_countChanges_26 : decode cX6_countChanges 26 = .ok (.getfield 277, 3) := by decide +kernel
theorem dX6_countChanges_29 : decode cX6_countChanges 29 = .ok (.iload_n 3, 1) := by decide +kernel
theorem dX6_countChanges_30 : decode cX6_countChanges 30 = .ok (.iaload, 1) := by decide +kernel
theorem dX6_countChanges_31 : decode cX6_countChanges 31 = .ok (.invokevirtual 293, 3) := by decide +kernel
theorem dX6_countChanges_34 : decode cX6_countChanges 34 = .ok (.if_icmp .eq 6, 3) := by decide +kernel
theorem dX6_countChanges_37 : decode cX6_countChanges 37 = .ok (.iinc 2 1, 3) := by decide +kernel
theorem dX6_countChanges_40 : decode cX6_countChanges 40 = .ok (.iinc 3 1, 3) := by decide +kernel
theorem dX6_countChanges_43 : decode cX6_countChanges 43 = .ok (.goto (-39), 3) := by decide +kernel
theorem dX6_countChanges_46 : decode cX6_countChanges 46 = .ok (.iload_n 2, 1) := by decide +kernel
theorem dX6_countChanges_47 : decode cX6_countChanges 47 = .ok (.ireturn, 1) := by decide +kernel
abbrev cX6_nozzleFor : ByteArray := prog_1_method_34_code
def yX6_nozzleFor : MethodName := ⟨RX6, "nozzleFor", "(I)I"⟩
theorem dX6_nozzleFor_0 : decode cX6_nozzleFor 0 = .ok (.aload_n 0, 1) := by decide +kernel
theorem dX6_nozzleFor_1 : decode cX6_nozzleFor 1 = .ok (.getfield 10, 3) := by decide +kernel
theorem dX6_nozzleFor_4 : decode cX6_nozzleFor 4 = .ok (.getfield 202, 3) := by decide +kernel
theorem dX6_nozzleFor_7 : decode cX6_nozzleFor 7 = .ok (.aload_n 0, 1) := by decide +kernel
theorem dX6_nozzleFor_8 : decode cX6_nozzleFor 8 = .ok (.getfield 19, 3) := by decide +kernel
theorem dX6_nozzleFor_11 : decode cX6_nozzleFor 11 = .ok (.getfield 244, 3) := by decide +kernel
theorem dX6_nozzleFor_14 : decode cX6_nozzleFor 14 = .ok (.iload_n 1, 1) := by decide +kernel
theorem dX6_nozzleFor_15 : decode cX6_nozzleFor 15 = .ok (.iaload, 1) := by decide +kernel
theorem dX6_nozzleFor_16 : decode cX6_nozzleFor 16 = .ok (.iaload, 1) := by decide +kernel
theorem dX6_nozzleFor_17 : decode cX6_nozzleFor 17 = .ok (.ireturn, 1) := by decide +kernel
abbrev cX6_supplyTime : ByteArray := prog_1_method_35_code
def yX6_supplyTime : MethodName := ⟨RX6, "supplyTime", "(LFeederOrders$Machine;)I"⟩
theorem dX6_supplyTime_0 : decode cX6_supplyTime 0 = .ok (.iconst 0, 1) := by decide +kernel
theorem dX6_supplyTime_1 : decode cX6_supplyTime 1 = .ok (.istore_n 2, 1) := by decide +kernel
theorem dX6_supplyTime_2 : decode cX6_supplyTime 2 = .ok (.iconst 0, 1) := by decide +kernel
theorem dX6_supplyTime_3 : decode cX6_supplyTime 3 = .ok (.istore_n 3, 1) := by decide +kernel
theorem dX6_supplyTime_4 : decode cX6_supplyTime 4 = .ok (.iload_n 3, 1) := by decide +kernel
theorem dX6_supplyTime_5 : decode cX6_supplyTime 5 = .ok (.aload_n 0, 1) := by decide +kernel
theorem dX6_supplyTime_6 : decode cX6_supplyTime 6 = .ok (.getfield 10, 3) := by decide +kernel
theorem dX6_supplyTime_9 : decode cX6_supplyTime 9 = .ok (.getfield 199, 3) := by decide +kernel
theorem dX6_supplyTime_12 : decode cX6_supplyTime 12 = .ok (.if_icmp .ge 55, 3) := by decide +kernel
theorem dX6_supplyTime_15 : decode cX6_supplyTime 15 = .ok (.aload_n 1, 1) := by decide +kernel
theorem dX6_supplyTime_16 : decode cX6_supplyTime 16 = .ok (.getfield 296, 3) := by decide +kernel
theorem dX6_supplyTime_19 : decode cX6_supplyTime 19 = .ok (.iload_n 3, 1) := by decide +kernel
theorem dX6_supplyTime_20 : decode cX6_supplyTime 20 = .ok (.iaload, 1) := by decide +kernel
theorem dX6_supplyTime_21 : decode cX6_supplyTime 21 = .ok (.ifCond .le 40, 3) := by decide +kernel
theorem dX6_supplyTime_24 : decode cX6_supplyTime 24 = .ok (.aload_n 0, 1) := by decide +kernel
theorem dX6_supplyTime_25 : decode cX6_supplyTime 25 = .ok (.getfield 10, 3) := by decide +kernel
theorem dX6_supplyTime_28 : decode cX6_supplyTime 28 = .ok (.iload_n 3, 1) := by decide +kernel
theorem dX6_supplyTime_29 : decode cX6_supplyTime 29 = .ok (.aload_n 1, 1) := by decide +kernel
theorem dX6_supplyTime_30 : decode cX6_supplyTime 30 = .ok (.getfield 296, 3) := by decide +kernel
theorem dX6_supplyTime_33 : decode cX6_supplyTime 33 = .ok (.iload_n 3, 1) := by decide +kernel
theorem dX6_supplyTime_34 : decode cX6_supplyTime 34 = .ok (.iaload, 1) := by decide +kernel
theorem dX6_supplyTime_35 : decode cX6_supplyTime 35 = .ok (.invokevirtual 299, 3) := by decide +kernel
theorem dX6_supplyTime_38 : decode cX6_supplyTime 38 = .ok (.istore 4, 2) := by decide +kernel
theorem dX6_supplyTime_40 : decode cX6_supplyTime 40 = .ok (.iload_n 2, 1) := by decide +kernel
theorem dX6_supplyTime_41 : decode cX6_supplyTime 41 = .ok (.iconst 2, 1) := by decide +kernel
theorem dX6_supplyTime_42 : decode cX6_supplyTime 42 = .ok (.iload 4, 2) := by decide +kernel
theorem dX6_supplyTime_44 : decode cX6_supplyTime 44 = .ok (.imul, 1) := by decide +kernel
theorem dX6_supplyTime_45 : decode cX6_supplyTime 45 = .ok (.bipush 50, 2) := by decide +kernel
theorem dX6_supplyTime_47 : decode cX6_supplyTime 47 = .ok (.aload_n 0, 1) := by decide +kernel
theorem dX6_supplyTime_48 : decode cX6_supplyTime 48 = .ok (.getfield 10, 3) := by decide +kernel
theorem dX6_supplyTime_51 : decode cX6_supplyTime 51 = .ok (.iload_n 3, 1) := by decide +kernel
theorem dX6_supplyTime_52 : decode cX6_supplyTime 52 = .ok (.iload 4, 2) := by decide +kernel
theorem dX6_supplyTime_54 : decode cX6_supplyTime 54 = .ok (.invokevirtual 302, 3) := by decide +kernel
theorem dX6_supplyTime_57 : decode cX6_supplyTime 57 = .ok (.imul, 1) := by decide +kernel
theorem dX6_supplyTime_58 : decode cX6_supplyTime 58 = .ok (.iadd, 1) := by decide +kernel
theorem dX6_supplyTime_59 : decode cX6_supplyTime 59 = .ok (.iadd, 1) := by decide +kernel
theorem dX6_supplyTime_60 : decode cX6_supplyTime 60 = .ok (.istore_n 2, 1) := by decide +kernel
theorem dX6_supplyTime_61 : decode cX6_supplyTime 61 = .ok (.iinc 3 1, 3) := by decide +kernel
theorem dX6_supplyTime_64 : decode cX6_supplyTime 64 = .ok (.goto (-60), 3) := by decide +kernel
theorem dX6_supplyTime_67 : decode cX6_supplyTime 67 = .ok (.iload_n 2, 1) := by decide +kernel
theorem dX6_supplyTime_68 : decode cX6_supplyTime 68 = .ok (.ireturn, 1) := by decide +kernel
abbrev cX6_leastChangeTime : ByteArray := prog_1_method_36_code
def yX6_leastChangeTime : MethodName := ⟨RX6, "leastChangeTime", "(LFeederOrders$Machine;)I"⟩
theorem dX6_leastChangeTime_0 : decode cX6_leastChangeTime 0 = .ok (.iconst 0, 1) := by decide +kernel
theorem dX6_leastChangeTime_1 : decode cX6_leastChangeTime 1 = .ok (.istore_n 2, 1) := by decide +kernel
theorem dX6_leastChangeTime_2 : decode cX6_leastChangeTime 2 = .ok (.iconst 0, 1) := by decide +kernel
theorem dX6_leastChangeTime_3 : decode cX6_leastChangeTime 3 = .ok (.istore_n 3, 1) := by decide +kernel
theorem dX6_leastChangeTime_4 : decode cX6_leastChangeTime 4 = .ok (.iload_n 3, 1) := by decide +kernel
theorem dX6_leastChangeTime_5 : decode cX6_leastChangeTime 5 = .ok (.aload_n 0, 1) := by decide +kernel
theorem dX6_leastChangeTime_6 : decode cX6_leastChangeTime 6 = .ok (.getfield 10, 3) := by decide +kernel
theorem dX6_leastChangeTime_9 : decode cX6_leastChangeTime 9 = .ok (.getfield 199, 3) := by decide +kernel
theorem dX6_leastChangeTime_12 : decode cX6_leastChangeTime 12 = .ok (.if_icmp .ge 32, 3) := by decide +kernel
theorem dX6_leastChangeTime_15 : decode cX6_leastChangeTime 15 = .ok (.aload_n 1, 1) := by decide +kernel
theorem dX6_leastChangeTime_16 : decode cX6_leastChangeTime 16 = .ok (.getfield 296, 3) := by decide +kernel
theorem dX6_leastChangeTime_19 : decode cX6_leastChangeTime 19 = .ok (.iload_n 3, 1) := by decide +kernel
theorem dX6_leastChangeTime_20 : decode cX6_leastChangeTime 20 = .ok (.iaload, 1) := by decide +kernel
theorem dX6_leastChangeTime_21 : decode cX6_leastChangeTime 21 = .ok (.ifCond .le 17, 3) := by decide +kernel
theorem dX6_leastChangeTime_24 : decode cX6_leastChangeTime 24 = .ok (.iload_n 2, 1) := by decide +kernel
theorem dX6_leastChangeTime_25 : decode cX6_leastChangeTime 25 = .ok (.iconst 1, 1) := by decide +kernel
theorem dX6_leastChangeTime_26 : decode cX6_leastChangeTime 26 = .ok (.aload_n 0, 1) := by decide +kernel
theorem dX6_leastChangeTime_27 : decode cX6_leastChangeTime 27 = .ok (.getfield 10, 3) := by decide +kernel
theorem dX6_leastChangeTime_30 : decode cX6_leastChangeTime 30 = .ok (.getfield 202, 3) := by decide +kernel
theorem dX6_leastChangeTime_33 : decode cX6_leastChangeTime 33 = .ok (.iload_n 3, 1) := by decide +kernel
theorem dX6_leastChangeTime_34 : decode cX6_leastChangeTime 34 = .ok (.iaload, 1) := by decide +kernel
theorem dX6_leastChangeTime_35 : decode cX6_leastChangeTime 35 = .ok (.ishl, 1) := by decide +kernel
theorem dX6_leastChangeTime_36 : decode cX6_leastChangeTime 36 = .ok (.ior, 1) := by decide +kernel
theorem dX6_leastChangeTime_37 : decode cX6_leastChangeTime 37 = .ok (.istore_n 2, 1) := by decide +kernel
theorem dX6_leastChangeTime_38 : decode cX6_leastChangeTime 38 = .ok (.iinc 3 1, 3) := by decide +kernel
theorem dX6_leastChangeTime_41 : decode cX6_leastChangeTime 41 = .ok (.goto (-37), 3) := by decide +kernel
theorem dX6_leastChangeTime_44 : decode cX6_leastChangeTime 44 = .ok (.bipush 20, 2) := by decide +kernel
theorem dX6_leastChangeTime_46 : decode cX6_leastChangeTime 46 = .ok (.iconst 0, 1) := by decide +kernel
theorem dX6_leastChangeTime_47 : decode cX6_leastChangeTime 47 = .ok (.iload_n 2, 1) := by decide +kernel
theorem dX6_leastChangeTime_48 : decode cX6_leastChangeTime 48 = .ok (.invokestatic 305, 3) := by decide +kernel
theorem dX6_leastChangeTime_51 : decode cX6_leastChangeTime 51 = .ok (.iconst 1, 1) := by decide +kernel
theorem dX6_leastChangeTime_52 : decode cX6_leastChangeTime 52 = .ok (.isub, 1) := by decide +kernel
theorem dX6_leastChangeTime_53 : decode cX6_leastChangeTime 53 = .ok (.invokestatic 61, 3) := by decide +kernel
theorem dX6_leastChangeTime_56 : decode cX6_leastChangeTime 56 = .ok (.imul, 1) := by decide +kernel
theorem dX6_leastChangeTime_57 : decode cX6_leastChangeTime 57 = .ok (.ireturn, 1) := by decide +kernel
