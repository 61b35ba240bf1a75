abbrev cX5_init : ByteArray := prog_7_method_1_code
def yX5_init : MethodName := ⟨RX5, "<init>", "()V"⟩
theorem dX5_init_0 : decode cX5_init 0 = .ok (.aload_n 0, 1) := by decide +kernel
theorem dX5_init_1 : decode cX5_init 1 = .ok (.invokespecial 3, 3) := by decide +kernel
theorem dX5_init_4 : decode cX5_init 4 = .ok (.aload_n 0, 1) := by decide +kernel
theorem dX5_init_5 : decode cX5_init 5 = .ok (.bipush 6, 2) := by decide +kernel
theorem dX5_init_7 : decode cX5_init 7 = .ok (.newarray .int, 2) := by decide +kernel
theorem dX5_init_9 : decode cX5_init 9 = .ok (.putfield 9, 3) := by decide +kernel
theorem dX5_init_12 : decode cX5_init 12 = .ok (.aload_n 0, 1) := by decide +kernel
theorem dX5_init_13 : decode cX5_init 13 = .ok (.bipush 6, 2) := by decide +kernel
theorem dX5_init_15 : decode cX5_init 15 = .ok (.newarray .int, 2) := by decide +kernel
theorem dX5_init_17 : decode cX5_init 17 = .ok (.putfield 15, 3) := by decide +kernel
theorem dX5_init_20 : decode cX5_init 20 = .ok (.aload_n 0, 1) := by decide +kernel
theorem dX5_init_21 : decode cX5_init 21 = .ok (.bipush 7, 2) := by decide +kernel
theorem dX5_init_23 : decode cX5_init 23 = .ok (.bipush 7, 2) := by decide +kernel
theorem dX5_init_25 : decode cX5_init 25 = .ok (.multianewarray 18 2, 4) := by decide +kernel
theorem dX5_init_29 : decode cX5_init 29 = .ok (.putfield 20, 3) := by decide +kernel
theorem dX5_init_32 : decode cX5_init 32 = .ok (.aload_n 0, 1) := by decide +kernel
theorem dX5_init_33 : decode cX5_init 33 = .ok (.bipush 64, 2) := by decide +kernel
theorem dX5_init_35 : decode cX5_init 35 = .ok (.bipush 6, 2) := by decide +kernel
theorem dX5_init_37 : decode cX5_init 37 = .ok (.multianewarray 18 2, 4) := by decide +kernel
theorem dX5_init_41 : decode cX5_init 41 = .ok (.putfield 23, 3) := by decide +kernel
theorem dX5_init_44 : decode cX5_init 44 = .ok (.aload_n 0, 1) := by decide +kernel
theorem dX5_init_45 : decode cX5_init 45 = .ok (.iconst 0, 1) := by decide +kernel
theorem dX5_init_46 : decode cX5_init 46 = .ok (.putfield 26, 3) := by decide +kernel
theorem dX5_init_49 : decode cX5_init 49 = .ok (.return_, 1) := by decide +kernel
abbrev cX5_arrange : ByteArray := prog_7_method_2_code
def yX5_arrange : MethodName := ⟨RX5, "arrange", "(LFeederOrders$Parts;LFeederOrders$Machine;I)V"⟩
theorem dX5_arrange_0 : decode cX5_arrange 0 = .ok (.iload_n 3, 1) := by decide +kernel
theorem dX5_arrange_1 : decode cX5_arrange 1 = .ok (.aload_n 2, 1) := by decide +kernel
theorem dX5_arrange_2 : decode cX5_arrange 2 = .ok (.getfield 30, 3) := by decide +kernel
theorem dX5_arrange_5 : decode cX5_arrange 5 = .ok (.imul, 1) := by decide +kernel
theorem dX5_arrange_6 : decode cX5_arrange 6 = .ok (.istore 4, 2) := by decide +kernel
theorem dX5_arrange_8 : decode cX5_arrange 8 = .ok (.aload_n 2, 1) := by decide +kernel
theorem dX5_arrange_9 : decode cX5_arrange 9 = .ok (.getfield 35, 3) := by decide +kernel
theorem dX5_arrange_12 : decode cX5_arrange 12 = .ok (.iload 4, 2) := by decide +kernel
theorem dX5_arrange_14 : decode cX5_arrange 14 = .ok (.aload_n 2, 1) := by decide +kernel
theorem dX5_arrange_15 : decode cX5_arrange 15 = .ok (.getfield 30, 3) := by decide +kernel
theorem dX5_arrange_18 : decode cX5_arrange 18 = .ok (.iadd, 1) := by decide +kernel
theorem dX5_arrange_19 : decode cX5_arrange 19 = .ok (.invokestatic 36, 3) := by decide +kernel
theorem dX5_arrange_22 : decode cX5_arrange 22 = .ok (.istore 5, 2) := by decide +kernel
theorem dX5_arrange_24 : decode cX5_arrange 24 = .ok (.iload 4, 2) := by decide +kernel
theorem dX5_arrange_26 : decode cX5_arrange 26 = .ok (.ifCond .lt 13, 3) := by decide +kernel
theorem dX5_arrange_29 : decode cX5_arrange 29 = .ok (.iload 5, 2) := by decide +kernel
theorem dX5_arrange_31 : decode cX5_arrange 31 = .ok (.iload 4, 2) := by decide +kernel
theorem dX5_arrange_33 : decode cX5_arrange 33 = .ok (.isub, 1) := by decide +kernel
theorem dX5_arrange_34 : decode cX5_arrange 34 = .ok (.bipush 6, 2) := by decide +kernel
theorem dX5_arrange_36 : decode cX5_arrange 36 = .ok (.if_icmp .le 4, 3) := by decide +kernel
theorem dX5_arrange_39 : decode cX5_arrange 39 = .ok (.return_, 1) := by decide +kernel
theorem dX5_arrange_40 : decode cX5_arrange 40 = .ok (.aload_n 0, 1) := by decide +kernel
theorem dX5_arrange_41 : decode cX5_arrange 41 = .ok (.iconst 0, 1) := by decide +kernel
theorem dX5_arrange_42 : decode cX5_arrange 42 = .ok (.putfield 26, 3) := by decide +kernel
theorem dX5_arrange_45 : decode cX5_arrange 45 = .ok (.iload 4, 2) := by decide +kernel
theorem dX5_arrange_47 : decode cX5_arrange 47 = .ok (.istore 6, 2) := by decide +kernel
theorem dX5_arrange_49 : decode cX5_arrange 49 = .ok (.iload 6, 2) := by decide +kernel
theorem dX5_arrange_51 : decode cX5_arrange 51 = .ok (.iload 5, 2) := by decide +kernel
theorem dX5_arrange_53 : decode cX5_arrange 53 = .ok (.if_icmp .ge 20, 3) := by decide +kernel
theorem dX5_arrange_56 : decode cX5_arrange 56 = .ok (.aload_n 0, 1) := by decide +kernel
theorem dX5_arrange_57 : decode cX5_arrange 57 = .ok (.aload_n 2, 1) := by decide +kernel
theorem dX5_arrange_58 : decode cX5_arrange 58 = .ok (.getfield 42, 3) := by decide +kernel
theorem dX5_arrange_61 : decode cX5_arrange 61 = .ok (.iload 6, 2) := by decide +kernel
theorem dX5_arrange_63 : decode cX5_arrange 63 = .ok (.iaload, 1) := by decide +kernel
theorem dX5_arrange_64 : decode cX5_arrange 64 = .ok (.invokevirtual 45, 3) := by decide +kernel
theorem dX5_arrange_67 : decode cX5_arrange 67 = .ok (.iinc 6 1, 3) := by decide +kernel
theorem dX5_arrange_70 : decode cX5_arrange 70 = .ok (.goto (-21), 3) := by decide +kernel
theorem dX5_arrange_73 : decode cX5_arrange 73 = .ok (.aload_n 0, 1) := by decide +kernel
theorem dX5_arrange_74 : decode cX5_arrange 74 = .ok (.aload_n 1, 1) := by decide +kernel
theorem dX5_arrange_75 : decode cX5_arrange 75 = .ok (.invokevirtual 49, 3) := by decide +kernel
theorem dX5_arrange_78 : decode cX5_arrange 78 = .ok (.aload_n 0, 1) := by decide +kernel
theorem dX5_arrange_79 : decode cX5_arrange 79 = .ok (.invokevirtual 53, 3) := by decide +kernel
theorem dX5_arrange_82 : decode cX5_arrange 82 = .ok (.aload_n 0, 1) := by decide +kernel
theorem dX5_arrange_83 : decode cX5_arrange 83 = .ok (.aload_n 2, 1) := by decide +kernel
theorem dX5_arrange_84 : decode cX5_arrange 84 = .ok (.getfield 42, 3) := by decide +kernel
theorem dX5_arrange_87 : decode cX5_arrange 87 = .ok (.iload 4, 2) := by decide +kernel
theorem dX5_arrange_89 : decode cX5_arrange 89 = .ok (.invokevirtual 56, 3) := by decide +kernel
theorem dX5_arrange_92 : decode cX5_arrange 92 = .ok (.return_, 1) := by decide +kernel
abbrev cX5_takeIn : ByteArray := prog_7_method_3_code
def yX5_takeIn : MethodName := ⟨RX5, "takeIn", "(I)V"⟩
theorem dX5_takeIn_0 : decode cX5_takeIn 0 = .ok (.aload_n 0, 1) := by decide +kernel
theorem dX5_takeIn_1 : decode cX5_takeIn 1 = .ok (.getfield 26, 3) := by decide +kernel
theorem dX5_takeIn_4 : decode cX5_takeIn 4 = .ok (.istore_n 2, 1) := by decide +kernel
theorem dX5_takeIn_5 : decode cX5_takeIn 5 = .ok (.iload_n 2, 1) := by decide +kernel
theorem dX5_takeIn_6 : decode cX5_takeIn 6 = .ok (.ifCond .le 35, 3) := by decide +kernel
theorem dX5_takeIn_9 : decode cX5_takeIn 9 = .ok (.iload_n 1, 1) := by decide +kernel
theorem dX5_takeIn_10 : decode cX5_takeIn 10 = .ok (.aload_n 0, 1) := by decide +kernel
theorem dX5_takeIn_11 : decode cX5_takeIn 11 = .ok (.getfield 9, 3) := by decide +kernel
theorem dX5_takeIn_14 : decode cX5_takeIn 14 = .ok (.iload_n 2, 1) := by decide +kernel
theorem dX5_takeIn_15 : decode cX5_takeIn 15 = .ok (.iconst 1, 1) := by decide +kernel
theorem dX5_takeIn_16 : decode cX5_takeIn 16 = .ok (.isub, 1) := by decide +kernel
theorem dX5_takeIn_17 : decode cX5_takeIn 17 = .ok (.iaload, 1) := by decide +kernel
theorem dX5_takeIn_18 : decode cX5_takeIn 18 = .ok (.if_icmp .ge 23, 3) := by decide +kernel
theorem dX5_takeIn_21 : decode cX5_takeIn 21 = .ok (.aload_n 0, 1) := by decide +kernel
theorem dX5_takeIn_22 : decode cX5_takeIn 22 = .ok (.getfield 9, 3) := by decide +kernel
theorem dX5_takeIn_25 : decode cX5_takeIn 25 = .ok (.iload_n 2, 1) := by decide +kernel
theorem dX5_takeIn_26 : decode cX5_takeIn 26 = .ok (.aload_n 0, 1) := by decide +kernel
theorem dX5_takeIn_27 : decode cX5_takeIn 27 = .ok (.getfield 9, 3) := by decide +kernel
theorem dX5_takeIn_30 : decode cX5_takeIn 30 = .ok (.iload_n 2, 1) := by decide +kernel
theorem dX5_takeIn_31 : decode cX5_takeIn 31 = .ok (.iconst 1, 1) := by decide +kernel
theorem dX5_takeIn_32 : decode cX5_takeIn 32 = .ok (.isub, 1) := by decide +kernel
theorem dX5_takeIn_33 : decode cX5_takeIn 33 = .ok (.iaload, 1) := by decide +kernel
theorem dX5_takeIn_34 : decode cX5_takeIn 34 = .ok (.iastore, 1) := by decide +kernel
theorem dX5_takeIn_35 : decode cX5_takeIn 35 = .ok (.iinc 2 (-1), 3) := by decide +kernel
theorem dX5_takeIn_38 : decode cX5_takeIn 38 = .ok (.goto (-33), 3) := by decide +kernel
theorem dX5_takeIn_41 : decode cX5_takeIn 41 = .ok (.aload_n 0, 1) := by decide +kernel
theorem dX5_takeIn_42 : decode cX5_takeIn 42 = .ok (.getfield 9, 3) := by decide +kernel
theorem dX5_takeIn_45 : decode cX5_takeIn 45 = .ok (.iload_n 2, 1) := by decide +kernel
theorem dX5_takeIn_46 : decode cX5_takeIn 46 = .ok (.iload_n 1, 1) := by decide +kernel
theorem dX5_takeIn_47 : decode cX5_takeIn 47 = .ok (.iastore, 1) := by decide +kernel
theorem dX5_takeIn_48 : decode cX5_takeIn 48 = .ok (.aload_n 0, 1) := by decide +kernel
theorem dX5_takeIn_49 : decode cX5_takeIn 49 = .ok (.dup, 1) := by decide +kernel
theorem dX5_takeIn_50 : decode cX5_takeIn 50 = .ok (.getfield 26, 3) := by decide +kernel
theorem dX5_takeIn_53 : decode cX5_takeIn 53 = .ok (.iconst 1, 1) := by decide +kernel
theorem dX5_takeIn_54 : decode cX5_takeIn 54 = .ok (.iadd, 1) := by decide +kernel
theorem dX5_takeIn_55 : decode cX5_takeIn 55 = .ok (.putfield 26, 3) := by decide +kernel
theorem dX5_takeIn_58 : decode cX5_takeIn 58 = .ok (.return_, 1) := by decide +kernel
abbrev cX5_measure : ByteArray := prog_7_method_4_code
def yX5_measure : MethodName := ⟨RX5, "measure", "(LFeederOrders$Parts;)V"⟩
theorem dX5_measure_0 : decode cX5_measure 0 = .ok (.iconst 0, 1) := by decide +kernel
theorem dX5_measure_1 : decode cX5_measure 1 = .ok (.istore_n 2, 1) := by decide +kernel
theorem dX5_measure_2 : decode cX5_measure 2 = .ok (.iload_n 2, 1) := by decide +kernel
theorem dX5_measure_3 : decode cX5_measure 3 = .ok (.aload_n 0, 1) := by decide +kernel
theorem dX5_measure_4 : decode cX5_measure 4 = .ok (.getfield 26, 3) := by decide +kernel
theorem dX5_measure_7 : decode cX5_measure 7 = .ok (.if_icmp .ge 131, 3) := by decide +kernel
theorem dX5_measure_10 : decode cX5_measure 10 = .ok (.aload_n 0, 1) := by decide +kernel
theorem dX5_measure_11 : decode cX5_measure 11 = .ok (.getfield 15, 3) := by decide +kernel
theorem dX5_measure_14 : decode cX5_measure 14 = .ok (.iload_n 2, 1) := by decide +kernel
theorem dX5_measure_15 : decode cX5_measure 15 = .ok (.iconst 0, 1) := by decide +kernel
theorem dX5_measure_16 : decode cX5_measure 16 = .ok (.iastore, 1) := by decide +kernel
theorem dX5_measure_17 : decode cX5_measure 17 = .ok (.aload_n 0, 1) := by decide +kernel
theorem dX5_measure_18 : decode cX5_measure 18 = .ok (.getfield 20, 3) := by decide +kernel
theorem dX5_measure_21 : decode cX5_measure 21 = .ok (.iload_n 2, 1) := by decide +kernel
theorem dX5_measure_22 : decode cX5_measure 22 = .ok (.aaload, 1) := by decide +kernel
theorem dX5_measure_23 : decode cX5_measure 23 = .ok (.bipush 6, 2) := by decide +kernel
theorem dX5_measure_25 : decode cX5_measure 25 = .ok (.aload_n 1, 1) := by decide +kernel
theorem dX5_measure_26 : decode cX5_measure 26 = .ok (.aload_n 0, 1) := by decide +kernel
theorem dX5_measure_27 : decode cX5_measure 27 = .ok (.getfield 9, 3) := by decide +kernel
theorem dX5_measure_30 : decode cX5_measure 30 = .ok (.iload_n 2, 1) := by decide +kernel
theorem dX5_measure_31 : decode cX5_measure 31 = .ok (.iaload, 1) := by decide +kernel
theorem dX5_measure_32 : decode cX5_measure 32 = .ok (.iconst (-1), 1) := by decide +kernel
theorem dX5_measure_33 : decode cX5_measure 33 = .ok (.invokevirtual 60, 3) := by decide +kernel
theorem dX5_measure_36 : decode cX5_measure 36 = .ok (.iastore, 1) := by decide +kernel
theorem dX5_measure_37 : decode cX5_measure 37 = .ok (.aload_n 0, 1) := by decide +kernel
theorem dX5_measure_38 : decode cX5_measure 38 = .ok (.getfield 20, 3) := by decide +kernel
theorem dX5_measure_41 : decode cX5_measure 41 = .ok (.bipush 6, 2) := by decide +kernel
theorem dX5_measure_43 : decode cX5_measure 43 = .ok (.aaload, 1) := by decide +kernel
theorem dX5_measure_44 : decode cX5_measure 44 = .ok (.iload_n 2, 1) := by decide +kernel
theorem dX5_measure_45 : decode cX5_measure 45 = .ok (.aload_n 0, 1) := by decide +kernel
theorem dX5_measure_46 : decode cX5_measure 46 = .ok (.getfield 20, 3) := by decide +kernel
theorem dX5_measure_49 : decode cX5_measure 49 = .ok (.iload_n 2, 1) := by decide +kernel
theorem dX5_measure_50 : decode cX5_measure 50 = .ok (.aaload, 1) := by decide +kernel
theorem dX5_measure_51 : decode cX5_measure 51 = .ok (.bipush 6, 2) := by decide +kernel
theorem dX5_measure_53 : decode cX5_measure 53 = .ok (.iaload, 1) := by decide +kernel
theorem dX5_measure_54 : decode cX5_measure 54 = .ok (.iastore, 1) := by decide +kernel
theorem dX5_measure_55 : decode cX5_measure 55 = .ok (.iconst 0, 1) := by decide +kernel
theorem dX5_measure_56 : decode cX5_measure 56 = .ok (.istore_n 3, 1) := by decide +kernel
theorem dX5_measure_57 : decode cX5_measure 57 = .ok (.iload_n 3, 1) := by decide +kernel
theorem dX5_measure_58 : decode cX5_measure 58 = .ok (.aload_n 0, 1) := by decide +kernel
theorem dX5_measure_59 : decode cX5_measure 59 = .ok (.getfield 26, 3) := by decide +kernel
theorem dX5_measure_62 : decode cX5_measure 62 = .ok (.if_icmp .ge 70, 3) := by decide +kernel
theorem dX5_measure_65 : decode cX5_measure 65 = .ok (.aload_n 0, 1) := by decide +kernel
theorem dX5_measure_66 : decode cX5_measure 66 = .ok (.getfield 20, 3) := by decide +kernel
theorem dX5_measure_69 : decode cX5_measure 69 = .ok (.iload_n 2, 1) := by decide +kernel
theorem dX5_measure_70 : decode cX5_measure 70 = .ok (.aaload, 1) := by decide +kernel
theorem dX5_measure_71 : decode cX5_measure 71 = .ok (.iload_n 3, 1) := by decide +kernel
theorem dX5_measure_72 : decode cX5_measure 72 = .ok (.aload_n 1, 1) := by decide +kernel
theorem dX5_measure_73 : decode cX5_measure 73 = .ok (.aload_n 0, 1) := by decide +kernel
theorem dX5_measure_74 : decode cX5_measure 74 = .ok (.getfield 9, 3) := by decide +kernel
theorem dX5_measure_77 : decode cX5_measure 77 = .ok (.iload_n 2, 1) := by decide +kernel
theorem dX5_measure_78 : decode cX5_measure 78 = .ok (.iaload, 1) := by decide +kernel
theorem dX5_measure_79 : decode cX5_measure 79 = .ok (.aload_n 0, 1) := by decide +kernel
theorem dX5_measure_80 : decode cX5_measure 80 = .ok (.getfield 9, 3) := by decide +kernel
theorem dX5_measure_83 : decode cX5_measure 83 = .ok (.iload_n 3, 1) := by decide +kernel
theorem dX5_measure_84 : decode cX5_measure 84 = .ok (.iaload, 1) := by decide +kernel
theorem dX5_measure_85 : decode cX5_measure 85 = .ok (.invokevirtual 60, 3) := by decide +kernel
theorem dX5_measure_88 : decode cX5_measure 88 = .ok (.iastore, 1) := by decide +kernel
theorem dX5_measure_89 : decode cX5_measure 89 = .ok (.aload_n 1, 1) := by decide +kernel
theorem dX5_measure_90 : decode cX5_measure 90 = .ok (.getfield 65, 3) := by decide +kernel
theorem dX5_measure_93 : decode cX5_measure 93 = .ok (.aload_n 0, 1) := by decide +kernel
theorem dX5_measure_94 : decode cX5_measure 94 = .ok (.getfield 9, 3) := by decide +kernel
theorem dX5_measure_97 : decode cX5_measure 97 = .ok (.iload_n 3, 1) := by decide +kernel
theorem dX5_measure_98 : decode cX5_measure 98 = .ok (.iaload, 1) := by decide +kernel
theorem dX5_measure_99 : decode cX5_measure 99 = .ok (.iaload, 1) := by decide +kernel
theorem dX5_measure_100 : decode cX5_measure 100 = .ok (.aload_n 1, 1) := by decide +kernel
theorem dX5_measure_101 : decode cX5_measure 101 = .ok (.getfield 65, 3) := by decide +kernel
theorem dX5_measure_104 : decode cX5_measure 104 = .ok (.aload_n 0, 1) := by decide +kernel
theorem dX5_measure_105 : decode cX5_measure 105 = .ok (.getfield 9, 3) := by decide +kernel
theorem dX5_measure_108 : decode cX5_measure 108 = .ok (.iload_n 2, 1) := by decide +kernel
theorem dX5_measure_109 : decode cX5_measure 109 = .ok (.iaload, 1) := by decide +kernel
theorem dX5_measure_110 : decode cX5_measure 110 = .ok (.iaload, 1) := by decide +kernel
theorem dX5_measure_111 : decode cX5_measure 111 = .ok (.if_icmp .ge 15, 3) := by decide +kernel
theorem dX5_measure_114 : decode cX5_measure 114 = .ok (.aload_n 0, 1) := by decide +kernel
theorem dX5_measure_115 : decode cX5_measure 115 = .ok (.getfield 15, 3) := by decide +kernel
theorem dX5_measure_118 : decode cX5_measure 118 = .ok (.iload_n 2, 1) := by decide +kernel
theorem dX5_measure_119 : decode cX5_measure 119 = .ok (.dup2, 1) := by decide +kernel
theorem dX5_measure_120 : decode cX5_measure 120 = .ok (.iaload, 1) := by decide +kernel
theorem dX5_measure_121 : decode cX5_measure 121 = .ok (.iconst 1, 1) := by decide +kernel
theorem dX5_measure_122 : decode cX5_measure 122 = .ok (.iload_n 3, 1) := by decide +kernel
theorem dX5_measure_123 : decode cX5_measure 123 = .ok (.ishl, 1) := by decide +kernel
theorem dX5_measure_124 : decode cX5_measure 124 = .ok (.ior, 1) := by decide +kernel
theorem dX5_measure_125 : decode cX5_measure 125 = .ok (.iastore, 1) := by decide +kernel
theorem dX5_measure_126 : decode cX5_measure 126 = .ok (.iinc 3 1, 3) := by decide +kernel
theorem dX5_measure_129 : decode cX5_measure 129 = .ok (.goto (-72), 3) := by decide +kernel
theorem dX5_measure_132 : decode cX5_measure 132 = .ok (.iinc 2 1, 3) := by decide +kernel
theorem dX5_measure_135 : decode cX5_measure 135 = .ok (.goto (-133), 3) := by decide +kernel
theorem dX5_measure_138 : decode cX5_measure 138 = .ok (.return_, 1) := by decide +kernel
abbrev cX5_weigh : ByteArray := prog_7_method_5_code
def yX5_weigh : MethodName := ⟨RX5, "weigh", "()V"⟩
theorem dX5_weigh_0 : decode cX5_weigh 0 = .ok (.iconst 1, 1) := by decide +kernel
theorem dX5_weigh_1 : decode cX5_weigh 1 = .ok (.aload_n 0, 1) := by decide +kernel
theorem dX5_weigh_2 : decode cX5_weigh 2 = .ok (.getfield 26, 3) := by decide +kernel
theorem dX5_weigh_5 : decode cX5_weigh 5 = .ok (.ishl, 1) := by decide +kernel
theorem dX5_weigh_6 : decode cX5_weigh 6 = .ok (.iconst 1, 1) := by decide +kernel
theorem dX5_weigh_7 : decode cX5_weigh 7 = .ok (.isub, 1) := by decide +kernel
theorem dX5_weigh_8 : decode cX5_weigh 8 = .ok (.istore_n 1, 1) := by decide +kernel
theorem dX5_weigh_9 : decode cX5_weigh 9 = .ok (.iload_n 1, 1) := by decide +kernel
theorem dX5_weigh_10 : decode cX5_weigh 10 = .ok (.ifCond .le 83, 3) := by decide +kernel
theorem dX5_weigh_13 : decode cX5_weigh 13 = .ok (.aload_n 0, 1) := by decide +kernel
theorem dX5_weigh_14 : decode cX5_weigh 14 = .ok (.iload_n 1, 1) := by decide +kernel
theorem dX5_weigh_15 : decode cX5_weigh 15 = .ok (.invokevirtual 68, 3) := by decide +kernel
theorem dX5_weigh_18 : decode cX5_weigh 18 = .ok (.istore_n 2, 1) := by decide +kernel
theorem dX5_weigh_19 : decode cX5_weigh 19 = .ok (.iconst 0, 1) := by decide +kernel
theorem dX5_weigh_20 : decode cX5_weigh 20 = .ok (.istore_n 3, 1) := by decide +kernel
theorem dX5_weigh_21 : decode cX5_weigh 21 = .ok (.iload_n 3, 1) := by decide +kernel
theorem dX5_weigh_22 : decode cX5_weigh 22 = .ok (.aload_n 0, 1) := by decide +kernel
theorem dX5_weigh_23 : decode cX5_weigh 23 = .ok (.getfield 26, 3) := by decide +kernel
theorem dX5_weigh_26 : decode cX5_weigh 26 = .ok (.if_icmp .ge 61, 3) := by decide +kernel
theorem dX5_weigh_29 : decode cX5_weigh 29 = .ok (.iload_n 1, 1) := by decide +kernel
theorem dX5_weigh_30 : decode cX5_weigh 30 = .ok (.iload_n 3, 1) := by decide +kernel
theorem dX5_weigh_31 : decode cX5_weigh 31 = .ok (.ishr, 1) := by decide +kernel
theorem dX5_weigh_32 : decode cX5_weigh 32 = .ok (.iconst 1, 1) := by decide +kernel
theorem dX5_weigh_33 : decode cX5_weigh 33 = .ok (.iand, 1) := by decide +kernel
theorem dX5_weigh_34 : decode cX5_weigh 34 = .ok (.iconst 1, 1) := by decide +kernel
theorem dX5_weigh_35 : decode cX5_weigh 35 = .ok (.if_icmp .ne 46, 3) := by decide +kernel
theorem dX5_weigh_38 : decode cX5_weigh 38 = .ok (.aload_n 0, 1) := by decide +kernel
theorem dX5_weigh_39 : decode cX5_weigh 39 = .ok (.iload_n 1, 1) := by decide +kernel
theorem dX5_weigh_40 : decode cX5_weigh 40 = .ok (.iload_n 2, 1) := by decide +kernel
theorem dX5_weigh_41 : decode cX5_weigh 41 = .ok (.iload_n 3, 1) := by decide +kernel
theorem dX5_weigh_42 : decode cX5_weigh 42 = .ok (.invokevirtual 72, 3) := by decide +kernel
theorem dX5_weigh_45 : decode cX5_weigh 45 = .ok (.istore 4, 2) := by decide +kernel
theorem dX5_weigh_47 : decode cX5_weigh 47 = .ok (.aload_n 0, 1) := by decide +kernel
theorem dX5_weigh_48 : decode cX5_weigh 48 = .ok (.getfield 23, 3) := by decide +kernel
theorem dX5_weigh_51 : decode cX5_weigh 51 = .ok (.iload_n 1, 1) := by decide +kernel
theorem dX5_weigh_52 : decode cX5_weigh 52 = .ok (.aaload, 1) := by decide +kernel
theorem dX5_weigh_53 : decode cX5_weigh 53 = .ok (.iload_n 3, 1) := by decide +kernel
theorem dX5_weigh_54 : decode cX5_weigh 54 = .ok (.iload 4, 2) := by decide +kernel
theorem dX5_weigh_56 : decode cX5_weigh 56 = .ok (.iconst (-1), 1) := by decide +kernel
theorem dX5_weigh_57 : decode cX5_weigh 57 = .ok (.if_icmp .ne 15, 3) := by decide +kernel
theorem dX5_weigh_60 : decode cX5_weigh 60 = .ok (.aload_n 0, 1) := by decide +kernel
theorem dX5_weigh_61 : decode cX5_weigh 61 = .ok (.getfield 20, 3) := by decide +kernel
theorem dX5_weigh_64 : decode cX5_weigh 64 = .ok (.iload_n 3, 1) := by decide +kernel
theorem dX5_weigh_65 : decode cX5_weigh 65 = .ok (.aaload, 1) := by decide +kernel
theorem dX5_weigh_66 : decode cX5_weigh 66 = .ok (.bipush 6, 2) := by decide +kernel
theorem dX5_weigh_68 : decode cX5_weigh 68 = .ok (.iaload, 1) := by decide +kernel
theorem dX5_weigh_69 : decode cX5_weigh 69 = .ok (.goto 11, 3) := by decide +kernel
theorem dX5_weigh_72 : decode cX5_weigh 72 = .ok (.aload_n 0, 1) := by decide +kernel
theorem dX5_weigh_73 : decode cX5_weigh 73 = .ok (.iload_n 1, 1) := by decide +kernel
theorem dX5_weigh_74 : decode cX5_weigh 74 = .ok (.iload_n 3, 1) := by decide +kernel
theorem dX5_weigh_75 : decode cX5_weigh 75 = .ok (.iload 4, 2) := by decide +kernel
theorem dX5_weigh_77 : decode cX5_weigh 77 = .ok (.invokevirtual 76, 3) := by decide +kernel
theorem dX5_weigh_80 : decode cX5_weigh 80 = .ok (.iastore, 1) := by decide +kernel
theorem dX5_weigh_81 : decode cX5_weigh 81 = .ok (.iinc 3 1, 3) := by decide +kernel
theorem dX5_weigh_84 : decode cX5_weigh 84 = .ok (.goto (-63), 3) := by decide +kernel
theorem dX5_weigh_87 : decode cX5_weigh 87 = .ok (.iinc 1 (-1), 3) := by decide +kernel
theorem dX5_weigh_90 : decode cX5_weigh 90 = .ok (.goto (-81), 3) := by decide +kernel
theorem dX5_weigh_93 : decode cX5_weigh 93 = .ok (.return_, 1) := by decide +kernel
abbrev cX5_layOut : ByteArray := prog_7_method_6_code
def yX5_layOut : MethodName := ⟨RX5, "layOut", "([II)V"⟩
theorem dX5_layOut_0 : decode cX5_layOut 0 = .ok (.iconst 0, 1) := by decide +kernel
theorem dX5_layOut_1 : decode cX5_layOut 1 = .ok (.istore_n 3, 1) := by decide +kernel
theorem dX5_layOut_2 : decode cX5_layOut 2 = .ok (.bipush 6, 2) := by decide +kernel
theorem dX5_layOut_4 : decode cX5_layOut 4 = .ok (.istore 4, 2) := by decide +kernel
theorem dX5_layOut_6 : decode cX5_layOut 6 = .ok (.iconst 0, 1) := by decide +kernel
theorem dX5_layOut_7 : decode cX5_layOut 7 = .ok (.istore 5, 2) := by decide +kernel
theorem dX5_layOut_9 : decode cX5_layOut 9 = .ok (.iload 5, 2) := by decide +kernel
theorem dX5_layOut_11 : decode cX5_layOut 11 = .ok (.aload_n 0, 1) := by decide +kernel
theorem dX5_layOut_12 : decode cX5_layOut 12 = .ok (.getfield 26, 3) := by decide +kernel
theorem dX5_layOut_15 : decode cX5_layOut 15 = .ok (.if_icmp .ge 54, 3) := by decide +kernel
theorem dX5_layOut_18 : decode cX5_layOut 18 = .ok (.aload_n 0, 1) := by decide +kernel
theorem dX5_layOut_19 : decode cX5_layOut 19 = .ok (.iload_n 3, 1) := by decide +kernel
theorem dX5_layOut_20 : decode cX5_layOut 20 = .ok (.aload_n 0, 1) := by decide +kernel
theorem dX5_layOut_21 : decode cX5_layOut 21 = .ok (.iload_n 3, 1) := by decide +kernel
theorem dX5_layOut_22 : decode cX5_layOut 22 = .ok (.invokevirtual 68, 3) := by decide +kernel
theorem dX5_layOut_25 : decode cX5_layOut 25 = .ok (.iload 4, 2) := by decide +kernel
theorem dX5_layOut_27 : decode cX5_layOut 27 = .ok (.invokevirtual 72, 3) := by decide +kernel
theorem dX5_layOut_30 : decode cX5_layOut 30 = .ok (.istore 6, 2) := by decide +kernel
theorem dX5_layOut_32 : decode cX5_layOut 32 = .ok (.iload 6, 2) := by decide +kernel
theorem dX5_layOut_34 : decode cX5_layOut 34 = .ok (.iconst (-1), 1) := by decide +kernel
theorem dX5_layOut_35 : decode cX5_layOut 35 = .ok (.if_icmp .ne 4, 3) := by decide +kernel
theorem dX5_layOut_38 : decode cX5_layOut 38 = .ok (.return_, 1) := by decide +kernel
theorem dX5_layOut_39 : decode cX5_layOut 39 = .ok (.aload_n 1, 1) := by decide +kernel
theorem dX5_layOut_40 : decode cX5_layOut 40 = .ok (.iload_n 2, 1) := by decide +kernel
theorem dX5_layOut_41 : decode cX5_layOut 41 = .ok (.iload 5, 2) := by decide +kernel
theorem dX5_layOut_43 : decode cX5_layOut 43 = .ok (.iadd, 1) := by decide +kernel
theorem dX5_layOut_44 : decode cX5_layOut 44 = .ok (.aload_n 0, 1) := by decide +kernel
theorem dX5_layOut_45 : decode cX5_layOut 45 = .ok (.getfield 9, 3) := by decide +kernel
theorem dX5_layOut_48 : decode cX5_layOut 48 = .ok (.iload 6, 2) := by decide +kernel
theorem dX5_layOut_50 : decode cX5_layOut 50 = .ok (.iaload, 1) := by decide +kernel
theorem dX5_layOut_51 : decode cX5_layOut 51 = .ok (.iastore, 1) := by decide +kernel
theorem dX5_layOut_52 : decode cX5_layOut 52 = .ok (.iload_n 3, 1) := by decide +kernel
theorem dX5_layOut_53 : decode cX5_layOut 53 = .ok (.iconst 1, 1) := by decide +kernel
theorem dX5_layOut_54 : decode cX5_layOut 54 = .ok (.iload 6, 2) := by decide +kernel
theorem dX5_layOut_56 : decode cX5_layOut 56 = .ok (.ishl, 1) := by decide +kernel
theorem dX5_layOut_57 : decode cX5_layOut 57 = .ok (.ior, 1) := by decide +kernel
theorem dX5_layOut_58 : decode cX5_layOut 58 = .ok (.istore_n 3, 1) := by decide +kernel
theorem dX5_layOut_59 : decode cX5_layOut 59 = .ok (.iload 6, 2) := by decide +kernel
theorem dX5_layOut_61 : decode cX5_layOut 61 = .ok (.istore 4, 2) := by decide +kernel
theorem dX5_layOut_63 : decode cX5_layOut 63 = .ok (.iinc 5 1, 3) := by decide +kernel
theorem dX5_layOut_66 : decode cX5_layOut 66 = .ok (.goto (-57), 3) := by decide +kernel
theorem dX5_layOut_69 : decode cX5_layOut 69 = .ok (.return_, 1) := by decide +kernel
abbrev cX5_followersOf : ByteArray := prog_7_method_7_code
def yX5_followersOf : MethodName := ⟨RX5, "followersOf", "(I)I"⟩
theorem dX5_followersOf_0 : decode cX5_followersOf 0 = .ok (.iconst 0, 1) := by decide +kernel
theorem dX5_followersOf_1 : decode cX5_followersOf 1 = .ok (.istore_n 2, 1) := by decide +kernel
theorem dX5_followersOf_2 : decode cX5_followersOf 2 = .ok (.iconst 0, 1) := by decide +kernel
theorem dX5_followersOf_3 : decode cX5_followersOf 3 = .ok (.istore_n 3, 1) := by decide +kernel
theorem dX5_followersOf_4 : decode cX5_followersOf 4 = .ok (.iload_n 3, 1) := by decide +kernel
theorem dX5_followersOf_5 : decode cX5_followersOf 5 = .ok (.aload_n 0, 1) := by decide +kernel
theorem dX5_followersOf_6 : decode cX5_followersOf 6 = .ok (.getfield 26, 3) := by decide +kernel
theorem dX5_followersOf_9 : decode cX5_followersOf 9 = .ok (.if_icmp .ge 36, 3) := by decide +kernel
theorem dX5_followersOf_12 : decode cX5_followersOf 12 = .ok (.iload_n 1, 1) := by decide +kernel
theorem dX5_followersOf_13 : decode cX5_followersOf 13 = .ok (.iload_n 3, 1) := by decide +kernel
theorem dX5_followersOf_14 : decode cX5_followersOf 14 = .ok (.ishr, 1) := by decide +kernel
theorem dX5_followersOf_15 : decode cX5_followersOf 15 = .ok (.iconst 1, 1) := by decide +kernel
theorem dX5_followersOf_16 : decode cX5_followersOf 16 = .ok (.iand, 1) := by decide +kernel
theorem dX5_followersOf_17 : decode cX5_followersOf 17 = .ok (.ifCond .ne 22, 3) := by decide +kernel
theorem dX5_followersOf_20 : decode cX5_followersOf 20 = .ok (.aload_n 0, 1) := by decide +kernel
theorem dX5_followersOf_21 : decode cX5_followersOf 21 = .ok (.getfield 15, 3) := by decide +kernel
theorem dX5_followersOf_24 : decode cX5_followersOf 24 = .ok (.iload_n 3, 1) := by decide +kernel
theorem dX5_followersOf_25 : decode cX5_followersOf 25 = .ok (.iaload, 1) := by decide +kernel
theorem dX5_followersOf_26 : decode cX5_followersOf 26 = .ok (.iload_n 1, 1) := by decide +kernel
theorem dX5_followersOf_27 : decode cX5_followersOf 27 = .ok (.iconst (-1), 1) := by decide +kernel
theorem dX5_followersOf_28 : decode cX5_followersOf 28 = .ok (.ixor, 1) := by decide +kernel
theorem dX5_followersOf_29 : decode cX5_followersOf 29 = .ok (.iand, 1) := by decide +kernel
theorem dX5_followersOf_30 : decode cX5_followersOf 30 = .ok (.ifCond .ne 9, 3) := by decide +kernel
theorem dX5_followersOf_33 : decode cX5_followersOf 33 = .ok (.iload_n 2, 1) := by decide +kernel
theorem dX5_followersOf_34 : decode cX5_followersOf 34 = .ok (.iconst 1, 1) := by decide +kernel
theorem dX5_followersOf_35 : decode cX5_followersOf 35 = .ok (.iload_n 3, 1) := by decide +kernel
theorem dX5_followersOf_36 : decode cX5_followersOf 36 = .ok (.ishl, 1) := by decide +kernel
theorem dX5_followersOf_37 : decode cX5_followersOf 37 = .ok (.ior, 1) := by decide +kernel
theorem dX5_followersOf_38 : decode cX5_followersOf 38 = .ok (.istore_n 2, 1) := by decide +kernel
theorem dX5_followersOf_39 : decode cX5_followersOf 39 = .ok (.iinc 3 1, 3) := by decide +kernel
theorem dX5_followersOf_42 : decode cX5_followersOf 42 = .ok (.goto (-38), 3) := by decide +kernel
theorem dX5_followersOf_45 : decode cX5_followersOf 45 = .ok (.iload_n 2, 1) := by decide +kernel
theorem dX5_followersOf_46 : decode cX5_followersOf 46 = .ok (.ireturn, 1) := by decide +kernel
abbrev cX5_bestNext : ByteArray := prog_7_method_8_code
def yX5_bestNext : MethodName := ⟨RX5, "bestNext", "(III)I"⟩
theorem dX5_bestNext_0 : decode cX5_bestNext 0 = .ok (.iconst (-1), 1) := by decide +kernel
theorem dX5_bestNext_1 : decode cX5_bestNext 1 = .ok (.istore 4, 2) := by decide +kernel
theorem dX5_bestNext_3 : decode cX5_bestNext 3 = .ok (.iconst 0, 1) := by decide +kernel
theorem dX5_bestNext_4 : decode cX5_bestNext 4 = .ok (.istore 5, 2) := by decide +kernel
theorem dX5_bestNext_6 : decode cX5_bestNext 6 = .ok (.iconst 0, 1) := by decide +kernel
theorem dX5_bestNext_7 : decode cX5_bestNext 7 = .ok (.istore 6, 2) := by decide +kernel
theorem dX5_bestNext_9 : decode cX5_bestNext 9 = .ok (.iload 6, 2) := by decide +kernel
theorem dX5_bestNext_11 : decode cX5_bestNext 11 = .ok (.aload_n 0, 1) := by decide +kernel
theorem dX5_bestNext_12 : decode cX5_bestNext 12 = .ok (.getfield 26, 3) := by decide +kernel
theorem dX5_bestNext_15 : decode cX5_bestNext 15 = .ok (.if_icmp .ge 50, 3) := by decide +kernel
theorem dX5_bestNext_18 : decode cX5_bestNext 18 = .ok (.iload_n 2, 1) := by decide +kernel
theorem dX5_bestNext_19 : decode cX5_bestNext 19 = .ok (.iload 6, 2) := by decide +kernel
theorem dX5_bestNext_21 : decode cX5_bestNext 21 = .ok (.ishr, 1) := by decide +kernel
theorem dX5_bestNext_22 : decode cX5_bestNext 22 = .ok (.iconst 1, 1) := by decide +kernel
theorem dX5_bestNext_23 : decode cX5_bestNext 23 = .ok (.iand, 1) := by decide +kernel
theorem dX5_bestNext_24 : decode cX5_bestNext 24 = .ok (.iconst 1, 1) := by decide +kernel
theorem dX5_bestNext_25 : decode cX5_bestNext 25 = .ok (.if_icmp .ne 34, 3) := by decide +kernel
theorem dX5_bestNext_28 : decode cX5_bestNext 28 = .ok (.aload_n 0, 1) := by decide +kernel
theorem dX5_bestNext_29 : decode cX5_bestNext 29 = .ok (.iload_n 1, 1) := by decide +kernel
theorem dX5_bestNext_30 : decode cX5_bestNext 30 = .ok (.iload_n 3, 1) := by decide +kernel
theorem dX5_bestNext_31 : decode cX5_bestNext 31 = .ok (.iload 6, 2) := by decide +kernel
theorem dX5_bestNext_33 : decode cX5_bestNext 33 = .ok (.invokevirtual 76, 3) := by decide +kernel
theorem dX5_bestNext_36 : decode cX5_bestNext 36 = .ok (.istore 7, 2) := by decide +kernel
theorem dX5_bestNext_38 : decode cX5_bestNext 38 = .ok (.iload 4, 2) := by decide +kernel
theorem dX5_bestNext_40 : decode cX5_bestNext 40 = .ok (.iconst (-1), 1) := by decide +kernel
theorem dX5_bestNext_41 : decode cX5_bestNext 41 = .ok (.if_icmp .eq 10, 3) := by decide +kernel
theorem dX5_bestNext_44 : decode cX5_bestNext 44 = .ok (.iload 7, 2) := by decide +kernel
theorem dX5_bestNext_46 : decode cX5_bestNext 46 = .ok (.iload 5, 2) := by decide +kernel
theorem dX5_bestNext_48 : decode cX5_bestNext 48 = .ok (.if_icmp .ge 11, 3) := by decide +kernel
theorem dX5_bestNext_51 : decode cX5_bestNext 51 = .ok (.iload 6, 2) := by decide +kernel
theorem dX5_bestNext_53 : decode cX5_bestNext 53 = .ok (.istore 4, 2) := by decide +kernel
theorem dX5_bestNext_55 : decode cX5_bestNext 55 = .ok (.iload 7, 2) := by decide +kernel
theorem dX5_bestNext_57 : decode cX5_bestNext 57 = .ok (.istore 5, 2) := by decide +kernel
theorem dX5_bestNext_59 : decode cX5_bestNext 59 = .ok (.iinc 6 1, 3) := by decide +kernel
theorem dX5_bestNext_62 : decode cX5_bestNext 62 = .ok (.goto (-53), 3) := by decide +kernel
theorem dX5_bestNext_65 : decode cX5_bestNext 65 = .ok (.iload 4, 2) := by decide +kernel
theorem dX5_bestNext_67 : decode cX5_bestNext 67 = .ok (.ireturn, 1) := by decide +kernel
abbrev cX5_wayOver : ByteArray := prog_7_method_9_code
def yX5_wayOver : MethodName := ⟨RX5, "wayOver", "(III)I"⟩
theorem dX5_wayOver_0 : decode cX5_wayOver 0 = .ok (.aload_n 0, 1) := by decide +kernel
theorem dX5_wayOver_1 : decode cX5_wayOver 1 = .ok (.getfield 20, 3) := by decide +kernel
theorem dX5_wayOver_4 : decode cX5_wayOver 4 = .ok (.iload_n 2, 1) := by decide +kernel
theorem dX5_wayOver_5 : decode cX5_wayOver 5 = .ok (.aaload, 1) := by decide +kernel
theorem dX5_wayOver_6 : decode cX5_wayOver 6 = .ok (.iload_n 3, 1) := by decide +kernel
theorem dX5_wayOver_7 : decode cX5_wayOver 7 = .ok (.iaload, 1) := by decide +kernel
theorem dX5_wayOver_8 : decode cX5_wayOver 8 = .ok (.aload_n 0, 1) := by decide +kernel
theorem dX5_wayOver_9 : decode cX5_wayOver 9 = .ok (.getfield 23, 3) := by decide +kernel
theorem dX5_wayOver_12 : decode cX5_wayOver 12 = .ok (.iload_n 1, 1) := by decide +kernel
theorem dX5_wayOver_13 : decode cX5_wayOver 13 = .ok (.iconst 1, 1) := by decide +kernel
theorem dX5_wayOver_14 : decode cX5_wayOver 14 = .ok (.iload_n 3, 1) := by decide +kernel
theorem dX5_wayOver_15 : decode cX5_wayOver 15 = .ok (.ishl, 1) := by decide +kernel
theorem dX5_wayOver_16 : decode cX5_wayOver 16 = .ok (.ior, 1) := by decide +kernel
theorem dX5_wayOver_17 : decode cX5_wayOver 17 = .ok (.aaload, 1) := by decide +kernel
theorem dX5_wayOver_18 : decode cX5_wayOver 18 = .ok (.iload_n 3, 1) := by decide +kernel
theorem dX5_wayOver_19 : decode cX5_wayOver 19 = .ok (.iaload, 1) := by decide +kernel
theorem dX5_wayOver_20 : decode cX5_wayOver 20 = .ok (.iadd, 1) := by decide +kernel
theorem dX5_wayOver_21 : decode cX5_wayOver 21 = .ok (.ireturn, 1) := by decide +kernel
