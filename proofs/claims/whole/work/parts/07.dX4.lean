abbrev cX4_init : ByteArray := prog_6_method_1_code
def yX4_init : MethodName := ⟨RX4, "<init>", "()V"⟩
theorem dX4_init_0 : decode cX4_init 0 = .ok (.aload_n 0, 1) := by decide +kernel
theorem dX4_init_1 : decode cX4_init 1 = .ok (.invokespecial 3, 3) := by decide +kernel
theorem dX4_init_4 : decode cX4_init 4 = .ok (.aload_n 0, 1) := by decide +kernel
theorem dX4_init_5 : decode cX4_init 5 = .ok (.bipush 10, 2) := by decide +kernel
theorem dX4_init_7 : decode cX4_init 7 = .ok (.newarray .int, 2) := by decide +kernel
theorem dX4_init_9 : decode cX4_init 9 = .ok (.putfield 9, 3) := by decide +kernel
theorem dX4_init_12 : decode cX4_init 12 = .ok (.aload_n 0, 1) := by decide +kernel
theorem dX4_init_13 : decode cX4_init 13 = .ok (.bipush 10, 2) := by decide +kernel
theorem dX4_init_15 : decode cX4_init 15 = .ok (.newarray .int, 2) := by decide +kernel
theorem dX4_init_17 : decode cX4_init 17 = .ok (.putfield 15, 3) := by decide +kernel
theorem dX4_init_20 : decode cX4_init 20 = .ok (.aload_n 0, 1) := by decide +kernel
theorem dX4_init_21 : decode cX4_init 21 = .ok (.bipush 10, 2) := by decide +kernel
theorem dX4_init_23 : decode cX4_init 23 = .ok (.newarray .int, 2) := by decide +kernel
theorem dX4_init_25 : decode cX4_init 25 = .ok (.putfield 18, 3) := by decide +kernel
theorem dX4_init_28 : decode cX4_init 28 = .ok (.aload_n 0, 1) := by decide +kernel
theorem dX4_init_29 : decode cX4_init 29 = .ok (.bipush 10, 2) := by decide +kernel
theorem dX4_init_31 : decode cX4_init 31 = .ok (.newarray .int, 2) := by decide +kernel
theorem dX4_init_33 : decode cX4_init 33 = .ok (.putfield 21, 3) := by decide +kernel
theorem dX4_init_36 : decode cX4_init 36 = .ok (.aload_n 0, 1) := by decide +kernel
theorem dX4_init_37 : decode cX4_init 37 = .ok (.bipush 11, 2) := by decide +kernel
theorem dX4_init_39 : decode cX4_init 39 = .ok (.bipush 41, 2) := by decide +kernel
theorem dX4_init_41 : decode cX4_init 41 = .ok (.multianewarray 24 2, 4) := by decide +kernel
theorem dX4_init_45 : decode cX4_init 45 = .ok (.putfield 26, 3) := by decide +kernel
theorem dX4_init_48 : decode cX4_init 48 = .ok (.aload_n 0, 1) := by decide +kernel
theorem dX4_init_49 : decode cX4_init 49 = .ok (.iconst 0, 1) := by decide +kernel
theorem dX4_init_50 : decode cX4_init 50 = .ok (.putfield 29, 3) := by decide +kernel
theorem dX4_init_53 : decode cX4_init 53 = .ok (.aload_n 0, 1) := by decide +kernel
theorem dX4_init_54 : decode cX4_init 54 = .ok (.iconst 0, 1) := by decide +kernel
theorem dX4_init_55 : decode cX4_init 55 = .ok (.putfield 33, 3) := by decide +kernel
theorem dX4_init_58 : decode cX4_init 58 = .ok (.return_, 1) := by decide +kernel
abbrev cX4_clear : ByteArray := prog_6_method_2_code
def yX4_clear : MethodName := ⟨RX4, "clear", "()V"⟩
theorem dX4_clear_0 : decode cX4_clear 0 = .ok (.aload_n 0, 1) := by decide +kernel
theorem dX4_clear_1 : decode cX4_clear 1 = .ok (.getfield 9, 3) := by decide +kernel
theorem dX4_clear_4 : decode cX4_clear 4 = .ok (.iconst (-1), 1) := by decide +kernel
theorem dX4_clear_5 : decode cX4_clear 5 = .ok (.invokestatic 36, 3) := by decide +kernel
theorem dX4_clear_8 : decode cX4_clear 8 = .ok (.aload_n 0, 1) := by decide +kernel
theorem dX4_clear_9 : decode cX4_clear 9 = .ok (.iconst 0, 1) := by decide +kernel
theorem dX4_clear_10 : decode cX4_clear 10 = .ok (.putfield 29, 3) := by decide +kernel
theorem dX4_clear_13 : decode cX4_clear 13 = .ok (.aload_n 0, 1) := by decide +kernel
theorem dX4_clear_14 : decode cX4_clear 14 = .ok (.iconst 0, 1) := by decide +kernel
theorem dX4_clear_15 : decode cX4_clear 15 = .ok (.putfield 33, 3) := by decide +kernel
theorem dX4_clear_18 : decode cX4_clear 18 = .ok (.return_, 1) := by decide +kernel
abbrev cX4_add : ByteArray := prog_6_method_3_code
def yX4_add : MethodName := ⟨RX4, "add", "(III)V"⟩
theorem dX4_add_0 : decode cX4_add 0 = .ok (.aload_n 0, 1) := by decide +kernel
theorem dX4_add_1 : decode cX4_add 1 = .ok (.getfield 29, 3) := by decide +kernel
theorem dX4_add_4 : decode cX4_add 4 = .ok (.bipush 10, 2) := by decide +kernel
theorem dX4_add_6 : decode cX4_add 6 = .ok (.if_icmp .ge 14, 3) := by decide +kernel
theorem dX4_add_9 : decode cX4_add 9 = .ok (.aload_n 0, 1) := by decide +kernel
theorem dX4_add_10 : decode cX4_add 10 = .ok (.getfield 33, 3) := by decide +kernel
theorem dX4_add_13 : decode cX4_add 13 = .ok (.iload_n 2, 1) := by decide +kernel
theorem dX4_add_14 : decode cX4_add 14 = .ok (.iadd, 1) := by decide +kernel
theorem dX4_add_15 : decode cX4_add 15 = .ok (.bipush 40, 2) := by decide +kernel
theorem dX4_add_17 : decode cX4_add 17 = .ok (.if_icmp .le 4, 3) := by decide +kernel
theorem dX4_add_20 : decode cX4_add 20 = .ok (.return_, 1) := by decide +kernel
theorem dX4_add_21 : decode cX4_add 21 = .ok (.aload_n 0, 1) := by decide +kernel
theorem dX4_add_22 : decode cX4_add 22 = .ok (.getfield 15, 3) := by decide +kernel
theorem dX4_add_25 : decode cX4_add 25 = .ok (.aload_n 0, 1) := by decide +kernel
theorem dX4_add_26 : decode cX4_add 26 = .ok (.getfield 29, 3) := by decide +kernel
theorem dX4_add_29 : decode cX4_add 29 = .ok (.iload_n 1, 1) := by decide +kernel
theorem dX4_add_30 : decode cX4_add 30 = .ok (.iastore, 1) := by decide +kernel
theorem dX4_add_31 : decode cX4_add 31 = .ok (.aload_n 0, 1) := by decide +kernel
theorem dX4_add_32 : decode cX4_add 32 = .ok (.getfield 18, 3) := by decide +kernel
theorem dX4_add_35 : decode cX4_add 35 = .ok (.aload_n 0, 1) := by decide +kernel
theorem dX4_add_36 : decode cX4_add 36 = .ok (.getfield 29, 3) := by decide +kernel
theorem dX4_add_39 : decode cX4_add 39 = .ok (.iload_n 2, 1) := by decide +kernel
theorem dX4_add_40 : decode cX4_add 40 = .ok (.iastore, 1) := by decide +kernel
theorem dX4_add_41 : decode cX4_add 41 = .ok (.aload_n 0, 1) := by decide +kernel
theorem dX4_add_42 : decode cX4_add 42 = .ok (.getfield 21, 3) := by decide +kernel
theorem dX4_add_45 : decode cX4_add 45 = .ok (.aload_n 0, 1) := by decide +kernel
theorem dX4_add_46 : decode cX4_add 46 = .ok (.getfield 29, 3) := by decide +kernel
theorem dX4_add_49 : decode cX4_add 49 = .ok (.iload_n 3, 1) := by decide +kernel
theorem dX4_add_50 : decode cX4_add 50 = .ok (.iastore, 1) := by decide +kernel
theorem dX4_add_51 : decode cX4_add 51 = .ok (.aload_n 0, 1) := by decide +kernel
theorem dX4_add_52 : decode cX4_add 52 = .ok (.dup, 1) := by decide +kernel
theorem dX4_add_53 : decode cX4_add 53 = .ok (.getfield 29, 3) := by decide +kernel
theorem dX4_add_56 : decode cX4_add 56 = .ok (.iconst 1, 1) := by decide +kernel
theorem dX4_add_57 : decode cX4_add 57 = .ok (.iadd, 1) := by decide +kernel
theorem dX4_add_58 : decode cX4_add 58 = .ok (.putfield 29, 3) := by decide +kernel
theorem dX4_add_61 : decode cX4_add 61 = .ok (.aload_n 0, 1) := by decide +kernel
theorem dX4_add_62 : decode cX4_add 62 = .ok (.dup, 1) := by decide +kernel
theorem dX4_add_63 : decode cX4_add 63 = .ok (.getfield 33, 3) := by decide +kernel
theorem dX4_add_66 : decode cX4_add 66 = .ok (.iload_n 2, 1) := by decide +kernel
theorem dX4_add_67 : decode cX4_add 67 = .ok (.iadd, 1) := by decide +kernel
theorem dX4_add_68 : decode cX4_add 68 = .ok (.putfield 33, 3) := by decide +kernel
theorem dX4_add_71 : decode cX4_add 71 = .ok (.return_, 1) := by decide +kernel
abbrev cX4_settle : ByteArray := prog_6_method_4_code
def yX4_settle : MethodName := ⟨RX4, "settle", "()V"⟩
theorem dX4_settle_0 : decode cX4_settle 0 = .ok (.aload_n 0, 1) := by decide +kernel
theorem dX4_settle_1 : decode cX4_settle 1 = .ok (.getfield 33, 3) := by decide +kernel
theorem dX4_settle_4 : decode cX4_settle 4 = .ok (.iconst 3, 1) := by decide +kernel
theorem dX4_settle_5 : decode cX4_settle 5 = .ok (.iadd, 1) := by decide +kernel
theorem dX4_settle_6 : decode cX4_settle 6 = .ok (.iconst 1, 1) := by decide +kernel
theorem dX4_settle_7 : decode cX4_settle 7 = .ok (.isub, 1) := by decide +kernel
theorem dX4_settle_8 : decode cX4_settle 8 = .ok (.iconst 3, 1) := by decide +kernel
theorem dX4_settle_9 : decode cX4_settle 9 = .ok (.idiv, 1) := by decide +kernel
theorem dX4_settle_10 : decode cX4_settle 10 = .ok (.istore_n 1, 1) := by decide +kernel
theorem dX4_settle_11 : decode cX4_settle 11 = .ok (.iload_n 1, 1) := by decide +kernel
theorem dX4_settle_12 : decode cX4_settle 12 = .ok (.istore_n 2, 1) := by decide +kernel
theorem dX4_settle_13 : decode cX4_settle 13 = .ok (.iload_n 2, 1) := by decide +kernel
theorem dX4_settle_14 : decode cX4_settle 14 = .ok (.aload_n 0, 1) := by decide +kernel
theorem dX4_settle_15 : decode cX4_settle 15 = .ok (.getfield 33, 3) := by decide +kernel
theorem dX4_settle_18 : decode cX4_settle 18 = .ok (.if_icmp .gt 22, 3) := by decide +kernel
theorem dX4_settle_21 : decode cX4_settle 21 = .ok (.aload_n 0, 1) := by decide +kernel
theorem dX4_settle_22 : decode cX4_settle 22 = .ok (.iload_n 2, 1) := by decide +kernel
theorem dX4_settle_23 : decode cX4_settle 23 = .ok (.invokevirtual 42, 3) := by decide +kernel
theorem dX4_settle_26 : decode cX4_settle 26 = .ok (.ifCond .eq 8, 3) := by decide +kernel
theorem dX4_settle_29 : decode cX4_settle 29 = .ok (.aload_n 0, 1) := by decide +kernel
theorem dX4_settle_30 : decode cX4_settle 30 = .ok (.invokevirtual 46, 3) := by decide +kernel
theorem dX4_settle_33 : decode cX4_settle 33 = .ok (.return_, 1) := by decide +kernel
theorem dX4_settle_34 : decode cX4_settle 34 = .ok (.iinc 2 1, 3) := by decide +kernel
theorem dX4_settle_37 : decode cX4_settle 37 = .ok (.goto (-24), 3) := by decide +kernel
theorem dX4_settle_40 : decode cX4_settle 40 = .ok (.return_, 1) := by decide +kernel
abbrev cX4_canKeepTo : ByteArray := prog_6_method_5_code
def yX4_canKeepTo : MethodName := ⟨RX4, "canKeepTo", "(I)Z"⟩
theorem dX4_canKeepTo_0 : decode cX4_canKeepTo 0 = .ok (.iconst 0, 1) := by decide +kernel
theorem dX4_canKeepTo_1 : decode cX4_canKeepTo 1 = .ok (.istore_n 2, 1) := by decide +kernel
theorem dX4_canKeepTo_2 : decode cX4_canKeepTo 2 = .ok (.iload_n 2, 1) := by decide +kernel
theorem dX4_canKeepTo_3 : decode cX4_canKeepTo 3 = .ok (.aload_n 0, 1) := by decide +kernel
theorem dX4_canKeepTo_4 : decode cX4_canKeepTo 4 = .ok (.getfield 33, 3) := by decide +kernel
theorem dX4_canKeepTo_7 : decode cX4_canKeepTo 7 = .ok (.if_icmp .gt 26, 3) := by decide +kernel
theorem dX4_canKeepTo_10 : decode cX4_canKeepTo 10 = .ok (.aload_n 0, 1) := by decide +kernel
theorem dX4_canKeepTo_11 : decode cX4_canKeepTo 11 = .ok (.getfield 26, 3) := by decide +kernel
theorem dX4_canKeepTo_14 : decode cX4_canKeepTo 14 = .ok (.aload_n 0, 1) := by decide +kernel
theorem dX4_canKeepTo_15 : decode cX4_canKeepTo 15 = .ok (.getfield 29, 3) := by decide +kernel
theorem dX4_canKeepTo_18 : decode cX4_canKeepTo 18 = .ok (.aaload, 1) := by decide +kernel
theorem dX4_canKeepTo_19 : decode cX4_canKeepTo 19 = .ok (.iload_n 2, 1) := by decide +kernel
theorem dX4_canKeepTo_20 : decode cX4_canKeepTo 20 = .ok (.aload_n 0, 1) := by decide +kernel
theorem dX4_canKeepTo_21 : decode cX4_canKeepTo 21 = .ok (.iload_n 2, 1) := by decide +kernel
theorem dX4_canKeepTo_22 : decode cX4_canKeepTo 22 = .ok (.iload_n 1, 1) := by decide +kernel
theorem dX4_canKeepTo_23 : decode cX4_canKeepTo 23 = .ok (.invokevirtual 49, 3) := by decide +kernel
theorem dX4_canKeepTo_26 : decode cX4_canKeepTo 26 = .ok (.lastore, 1) := by decide +kernel
theorem dX4_canKeepTo_27 : decode cX4_canKeepTo 27 = .ok (.iinc 2 1, 3) := by decide +kernel
theorem dX4_canKeepTo_30 : decode cX4_canKeepTo 30 = .ok (.goto (-28), 3) := by decide +kernel
theorem dX4_canKeepTo_33 : decode cX4_canKeepTo 33 = .ok (.aload_n 0, 1) := by decide +kernel
theorem dX4_canKeepTo_34 : decode cX4_canKeepTo 34 = .ok (.getfield 29, 3) := by decide +kernel
theorem dX4_canKeepTo_37 : decode cX4_canKeepTo 37 = .ok (.iconst 1, 1) := by decide +kernel
theorem dX4_canKeepTo_38 : decode cX4_canKeepTo 38 = .ok (.isub, 1) := by decide +kernel
theorem dX4_canKeepTo_39 : decode cX4_canKeepTo 39 = .ok (.istore_n 2, 1) := by decide +kernel
theorem dX4_canKeepTo_40 : decode cX4_canKeepTo 40 = .ok (.iload_n 2, 1) := by decide +kernel
theorem dX4_canKeepTo_41 : decode cX4_canKeepTo 41 = .ok (.ifCond .lt 39, 3) := by decide +kernel
theorem dX4_canKeepTo_44 : decode cX4_canKeepTo 44 = .ok (.iconst 0, 1) := by decide +kernel
theorem dX4_canKeepTo_45 : decode cX4_canKeepTo 45 = .ok (.istore_n 3, 1) := by decide +kernel
theorem dX4_canKeepTo_46 : decode cX4_canKeepTo 46 = .ok (.iload_n 3, 1) := by decide +kernel
theorem dX4_canKeepTo_47 : decode cX4_canKeepTo 47 = .ok (.aload_n 0, 1) := by decide +kernel
theorem dX4_canKeepTo_48 : decode cX4_canKeepTo 48 = .ok (.getfield 33, 3) := by decide +kernel
theorem dX4_canKeepTo_51 : decode cX4_canKeepTo 51 = .ok (.if_icmp .gt 23, 3) := by decide +kernel
theorem dX4_canKeepTo_54 : decode cX4_canKeepTo 54 = .ok (.aload_n 0, 1) := by decide +kernel
theorem dX4_canKeepTo_55 : decode cX4_canKeepTo 55 = .ok (.getfield 26, 3) := by decide +kernel
theorem dX4_canKeepTo_58 : decode cX4_canKeepTo 58 = .ok (.iload_n 2, 1) := by decide +kernel
theorem dX4_canKeepTo_59 : decode cX4_canKeepTo 59 = .ok (.aaload, 1) := by decide +kernel
theorem dX4_canKeepTo_60 : decode cX4_canKeepTo 60 = .ok (.iload_n 3, 1) := by decide +kernel
theorem dX4_canKeepTo_61 : decode cX4_canKeepTo 61 = .ok (.aload_n 0, 1) := by decide +kernel
theorem dX4_canKeepTo_62 : decode cX4_canKeepTo 62 = .ok (.iload_n 2, 1) := by decide +kernel
theorem dX4_canKeepTo_63 : decode cX4_canKeepTo 63 = .ok (.iload_n 3, 1) := by decide +kernel
theorem dX4_canKeepTo_64 : decode cX4_canKeepTo 64 = .ok (.invokevirtual 53, 3) := by decide +kernel
theorem dX4_canKeepTo_67 : decode cX4_canKeepTo 67 = .ok (.lastore, 1) := by decide +kernel
theorem dX4_canKeepTo_68 : decode cX4_canKeepTo 68 = .ok (.iinc 3 1, 3) := by decide +kernel
theorem dX4_canKeepTo_71 : decode cX4_canKeepTo 71 = .ok (.goto (-25), 3) := by decide +kernel
theorem dX4_canKeepTo_74 : decode cX4_canKeepTo 74 = .ok (.iinc 2 (-1), 3) := by decide +kernel
theorem dX4_canKeepTo_77 : decode cX4_canKeepTo 77 = .ok (.goto (-37), 3) := by decide +kernel
theorem dX4_canKeepTo_80 : decode cX4_canKeepTo 80 = .ok (.aload_n 0, 1) := by decide +kernel
theorem dX4_canKeepTo_81 : decode cX4_canKeepTo 81 = .ok (.getfield 26, 3) := by decide +kernel
theorem dX4_canKeepTo_84 : decode cX4_canKeepTo 84 = .ok (.iconst 0, 1) := by decide +kernel
theorem dX4_canKeepTo_85 : decode cX4_canKeepTo 85 = .ok (.aaload, 1) := by decide +kernel
theorem dX4_canKeepTo_86 : decode cX4_canKeepTo 86 = .ok (.iconst 0, 1) := by decide +kernel
theorem dX4_canKeepTo_87 : decode cX4_canKeepTo 87 = .ok (.laload, 1) := by decide +kernel
theorem dX4_canKeepTo_88 : decode cX4_canKeepTo 88 = .ok (.lconst 1, 1) := by decide +kernel
theorem dX4_canKeepTo_89 : decode cX4_canKeepTo 89 = .ok (.land, 1) := by decide +kernel
theorem dX4_canKeepTo_90 : decode cX4_canKeepTo 90 = .ok (.lconst 1, 1) := by decide +kernel
theorem dX4_canKeepTo_91 : decode cX4_canKeepTo 91 = .ok (.lcmp, 1) := by decide +kernel
theorem dX4_canKeepTo_92 : decode cX4_canKeepTo 92 = .ok (.ifCond .ne 7, 3) := by decide +kernel
theorem dX4_canKeepTo_95 : decode cX4_canKeepTo 95 = .ok (.iconst 1, 1) := by decide +kernel
theorem dX4_canKeepTo_96 : decode cX4_canKeepTo 96 = .ok (.goto 4, 3) := by decide +kernel
theorem dX4_canKeepTo_99 : decode cX4_canKeepTo 99 = .ok (.iconst 0, 1) := by decide +kernel
theorem dX4_canKeepTo_100 : decode cX4_canKeepTo 100 = .ok (.ireturn, 1) := by decide +kernel
abbrev cX4_lastLoads : ByteArray := prog_6_method_6_code
def yX4_lastLoads : MethodName := ⟨RX4, "lastLoads", "(II)J"⟩
theorem dX4_lastLoads_0 : decode cX4_lastLoads 0 = .ok (.lconst 0, 1) := by decide +kernel
theorem dX4_lastLoads_1 : decode cX4_lastLoads 1 = .ok (.lstore_n 3, 1) := by decide +kernel
theorem dX4_lastLoads_2 : decode cX4_lastLoads 2 = .ok (.iload_n 1, 1) := by decide +kernel
theorem dX4_lastLoads_3 : decode cX4_lastLoads 3 = .ok (.iload_n 2, 1) := by decide +kernel
theorem dX4_lastLoads_4 : decode cX4_lastLoads 4 = .ok (.if_icmp .gt 49, 3) := by decide +kernel
theorem dX4_lastLoads_7 : decode cX4_lastLoads 7 = .ok (.iload_n 2, 1) := by decide +kernel
theorem dX4_lastLoads_8 : decode cX4_lastLoads 8 = .ok (.aload_n 0, 1) := by decide +kernel
theorem dX4_lastLoads_9 : decode cX4_lastLoads 9 = .ok (.getfield 33, 3) := by decide +kernel
theorem dX4_lastLoads_12 : decode cX4_lastLoads 12 = .ok (.iload_n 1, 1) := by decide +kernel
theorem dX4_lastLoads_13 : decode cX4_lastLoads 13 = .ok (.isub, 1) := by decide +kernel
theorem dX4_lastLoads_14 : decode cX4_lastLoads 14 = .ok (.invokestatic 56, 3) := by decide +kernel
theorem dX4_lastLoads_17 : decode cX4_lastLoads 17 = .ok (.istore 5, 2) := by decide +kernel
theorem dX4_lastLoads_19 : decode cX4_lastLoads 19 = .ok (.iconst 0, 1) := by decide +kernel
theorem dX4_lastLoads_20 : decode cX4_lastLoads 20 = .ok (.aload_n 0, 1) := by decide +kernel
theorem dX4_lastLoads_21 : decode cX4_lastLoads 21 = .ok (.getfield 33, 3) := by decide +kernel
theorem dX4_lastLoads_24 : decode cX4_lastLoads 24 = .ok (.iload_n 1, 1) := by decide +kernel
theorem dX4_lastLoads_25 : decode cX4_lastLoads 25 = .ok (.isub, 1) := by decide +kernel
theorem dX4_lastLoads_26 : decode cX4_lastLoads 26 = .ok (.iload_n 2, 1) := by decide +kernel
theorem dX4_lastLoads_27 : decode cX4_lastLoads 27 = .ok (.isub, 1) := by decide +kernel
theorem dX4_lastLoads_28 : decode cX4_lastLoads 28 = .ok (.invokestatic 62, 3) := by decide +kernel
theorem dX4_lastLoads_31 : decode cX4_lastLoads 31 = .ok (.istore 6, 2) := by decide +kernel
theorem dX4_lastLoads_33 : decode cX4_lastLoads 33 = .ok (.iload 6, 2) := by decide +kernel
theorem dX4_lastLoads_35 : decode cX4_lastLoads 35 = .ok (.iload 5, 2) := by decide +kernel
theorem dX4_lastLoads_37 : decode cX4_lastLoads 37 = .ok (.if_icmp .gt 16, 3) := by decide +kernel
theorem dX4_lastLoads_40 : decode cX4_lastLoads 40 = .ok (.lload_n 3, 1) := by decide +kernel
theorem dX4_lastLoads_41 : decode cX4_lastLoads 41 = .ok (.lconst 1, 1) := by decide +kernel
theorem dX4_lastLoads_42 : decode cX4_lastLoads 42 = .ok (.iload 6, 2) := by decide +kernel
theorem dX4_lastLoads_44 : decode cX4_lastLoads 44 = .ok (.lshl, 1) := by decide +kernel
theorem dX4_lastLoads_45 : decode cX4_lastLoads 45 = .ok (.lor, 1) := by decide +kernel
theorem dX4_lastLoads_46 : decode cX4_lastLoads 46 = .ok (.lstore_n 3, 1) := by decide +kernel
theorem dX4_lastLoads_47 : decode cX4_lastLoads 47 = .ok (.iinc 6 1, 3) := by decide +kernel
theorem dX4_lastLoads_50 : decode cX4_lastLoads 50 = .ok (.goto (-17), 3) := by decide +kernel
theorem dX4_lastLoads_53 : decode cX4_lastLoads 53 = .ok (.lload_n 3, 1) := by decide +kernel
theorem dX4_lastLoads_54 : decode cX4_lastLoads 54 = .ok (.lreturn, 1) := by decide +kernel
abbrev cX4_loadsBefore : ByteArray := prog_6_method_7_code
def yX4_loadsBefore : MethodName := ⟨RX4, "loadsBefore", "(II)J"⟩
theorem dX4_loadsBefore_0 : decode cX4_loadsBefore 0 = .ok (.lconst 0, 1) := by decide +kernel
theorem dX4_loadsBefore_1 : decode cX4_loadsBefore 1 = .ok (.lstore_n 3, 1) := by decide +kernel
theorem dX4_loadsBefore_2 : decode cX4_loadsBefore 2 = .ok (.aload_n 0, 1) := by decide +kernel
theorem dX4_loadsBefore_3 : decode cX4_loadsBefore 3 = .ok (.iload_n 1, 1) := by decide +kernel
theorem dX4_loadsBefore_4 : decode cX4_loadsBefore 4 = .ok (.iconst 0, 1) := by decide +kernel
theorem dX4_loadsBefore_5 : decode cX4_loadsBefore 5 = .ok (.invokevirtual 65, 3) := by decide +kernel
theorem dX4_loadsBefore_8 : decode cX4_loadsBefore 8 = .ok (.ifCond .eq 38, 3) := by decide +kernel
theorem dX4_loadsBefore_11 : decode cX4_loadsBefore 11 = .ok (.iload_n 2, 1) := by decide +kernel
theorem dX4_loadsBefore_12 : decode cX4_loadsBefore 12 = .ok (.aload_n 0, 1) := by decide +kernel
theorem dX4_loadsBefore_13 : decode cX4_loadsBefore 13 = .ok (.getfield 18, 3) := by decide +kernel
theorem dX4_loadsBefore_16 : decode cX4_loadsBefore 16 = .ok (.iload_n 1, 1) := by decide +kernel
theorem dX4_loadsBefore_17 : decode cX4_loadsBefore 17 = .ok (.iaload, 1) := by decide +kernel
theorem dX4_loadsBefore_18 : decode cX4_loadsBefore 18 = .ok (.iadd, 1) := by decide +kernel
theorem dX4_loadsBefore_19 : decode cX4_loadsBefore 19 = .ok (.aload_n 0, 1) := by decide +kernel
theorem dX4_loadsBefore_20 : decode cX4_loadsBefore 20 = .ok (.getfield 33, 3) := by decide +kernel
theorem dX4_loadsBefore_23 : decode cX4_loadsBefore 23 = .ok (.if_icmp .gt 23, 3) := by decide +kernel
theorem dX4_loadsBefore_26 : decode cX4_loadsBefore 26 = .ok (.lload_n 3, 1) := by decide +kernel
theorem dX4_loadsBefore_27 : decode cX4_loadsBefore 27 = .ok (.aload_n 0, 1) := by decide +kernel
theorem dX4_loadsBefore_28 : decode cX4_loadsBefore 28 = .ok (.getfield 26, 3) := by decide +kernel
theorem dX4_loadsBefore_31 : decode cX4_loadsBefore 31 = .ok (.iload_n 1, 1) := by decide +kernel
theorem dX4_loadsBefore_32 : decode cX4_loadsBefore 32 = .ok (.iconst 1, 1) := by decide +kernel
theorem dX4_loadsBefore_33 : decode cX4_loadsBefore 33 = .ok (.iadd, 1) := by decide +kernel
theorem dX4_loadsBefore_34 : decode cX4_loadsBefore 34 = .ok (.aaload, 1) := by decide +kernel
theorem dX4_loadsBefore_35 : decode cX4_loadsBefore 35 = .ok (.iload_n 2, 1) := by decide +kernel
theorem dX4_loadsBefore_36 : decode cX4_loadsBefore 36 = .ok (.aload_n 0, 1) := by decide +kernel
theorem dX4_loadsBefore_37 : decode cX4_loadsBefore 37 = .ok (.getfield 18, 3) := by decide +kernel
theorem dX4_loadsBefore_40 : decode cX4_loadsBefore 40 = .ok (.iload_n 1, 1) := by decide +kernel
theorem dX4_loadsBefore_41 : decode cX4_loadsBefore 41 = .ok (.iaload, 1) := by decide +kernel
theorem dX4_loadsBefore_42 : decode cX4_loadsBefore 42 = .ok (.iadd, 1) := by decide +kernel
theorem dX4_loadsBefore_43 : decode cX4_loadsBefore 43 = .ok (.laload, 1) := by decide +kernel
theorem dX4_loadsBefore_44 : decode cX4_loadsBefore 44 = .ok (.lor, 1) := by decide +kernel
theorem dX4_loadsBefore_45 : decode cX4_loadsBefore 45 = .ok (.lstore_n 3, 1) := by decide +kernel
theorem dX4_loadsBefore_46 : decode cX4_loadsBefore 46 = .ok (.aload_n 0, 1) := by decide +kernel
theorem dX4_loadsBefore_47 : decode cX4_loadsBefore 47 = .ok (.iload_n 1, 1) := by decide +kernel
theorem dX4_loadsBefore_48 : decode cX4_loadsBefore 48 = .ok (.iconst 1, 1) := by decide +kernel
theorem dX4_loadsBefore_49 : decode cX4_loadsBefore 49 = .ok (.invokevirtual 65, 3) := by decide +kernel
theorem dX4_loadsBefore_52 : decode cX4_loadsBefore 52 = .ok (.ifCond .eq 23, 3) := by decide +kernel
theorem dX4_loadsBefore_55 : decode cX4_loadsBefore 55 = .ok (.lload_n 3, 1) := by decide +kernel
theorem dX4_loadsBefore_56 : decode cX4_loadsBefore 56 = .ok (.aload_n 0, 1) := by decide +kernel
theorem dX4_loadsBefore_57 : decode cX4_loadsBefore 57 = .ok (.getfield 26, 3) := by decide +kernel
theorem dX4_loadsBefore_60 : decode cX4_loadsBefore 60 = .ok (.iload_n 1, 1) := by decide +kernel
theorem dX4_loadsBefore_61 : decode cX4_loadsBefore 61 = .ok (.iconst 1, 1) := by decide +kernel
theorem dX4_loadsBefore_62 : decode cX4_loadsBefore 62 = .ok (.iadd, 1) := by decide +kernel
theorem dX4_loadsBefore_63 : decode cX4_loadsBefore 63 = .ok (.aaload, 1) := by decide +kernel
theorem dX4_loadsBefore_64 : decode cX4_loadsBefore 64 = .ok (.iload_n 2, 1) := by decide +kernel
theorem dX4_loadsBefore_65 : decode cX4_loadsBefore 65 = .ok (.laload, 1) := by decide +kernel
theorem dX4_loadsBefore_66 : decode cX4_loadsBefore 66 = .ok (.aload_n 0, 1) := by decide +kernel
theorem dX4_loadsBefore_67 : decode cX4_loadsBefore 67 = .ok (.getfield 18, 3) := by decide +kernel
theorem dX4_loadsBefore_70 : decode cX4_loadsBefore 70 = .ok (.iload_n 1, 1) := by decide +kernel
theorem dX4_loadsBefore_71 : decode cX4_loadsBefore 71 = .ok (.iaload, 1) := by decide +kernel
theorem dX4_loadsBefore_72 : decode cX4_loadsBefore 72 = .ok (.lushr, 1) := by decide +kernel
theorem dX4_loadsBefore_73 : decode cX4_loadsBefore 73 = .ok (.lor, 1) := by decide +kernel
theorem dX4_loadsBefore_74 : decode cX4_loadsBefore 74 = .ok (.lstore_n 3, 1) := by decide +kernel
theorem dX4_loadsBefore_75 : decode cX4_loadsBefore 75 = .ok (.aload_n 0, 1) := by decide +kernel
theorem dX4_loadsBefore_76 : decode cX4_loadsBefore 76 = .ok (.iload_n 1, 1) := by decide +kernel
theorem dX4_loadsBefore_77 : decode cX4_loadsBefore 77 = .ok (.iconst 2, 1) := by decide +kernel
theorem dX4_loadsBefore_78 : decode cX4_loadsBefore 78 = .ok (.invokevirtual 65, 3) := by decide +kernel
theorem dX4_loadsBefore_81 : decode cX4_loadsBefore 81 = .ok (.ifCond .eq 16, 3) := by decide +kernel
theorem dX4_loadsBefore_84 : decode cX4_loadsBefore 84 = .ok (.lload_n 3, 1) := by decide +kernel
theorem dX4_loadsBefore_85 : decode cX4_loadsBefore 85 = .ok (.aload_n 0, 1) := by decide +kernel
theorem dX4_loadsBefore_86 : decode cX4_loadsBefore 86 = .ok (.getfield 26, 3) := by decide +kernel
theorem dX4_loadsBefore_89 : decode cX4_loadsBefore 89 = .ok (.iload_n 1, 1) := by decide +kernel
theorem dX4_loadsBefore_90 : decode cX4_loadsBefore 90 = .ok (.iconst 1, 1) := by decide +kernel
theorem dX4_loadsBefore_91 : decode cX4_loadsBefore 91 = .ok (.iadd, 1) := by decide +kernel
theorem dX4_loadsBefore_92 : decode cX4_loadsBefore 92 = .ok (.aaload, 1) := by decide +kernel
theorem dX4_loadsBefore_93 : decode cX4_loadsBefore 93 = .ok (.iload_n 2, 1) := by decide +kernel
theorem dX4_loadsBefore_94 : decode cX4_loadsBefore 94 = .ok (.laload, 1) := by decide +kernel
theorem dX4_loadsBefore_95 : decode cX4_loadsBefore 95 = .ok (.lor, 1) := by decide +kernel
theorem dX4_loadsBefore_96 : decode cX4_loadsBefore 96 = .ok (.lstore_n 3, 1) := by decide +kernel
theorem dX4_loadsBefore_97 : decode cX4_loadsBefore 97 = .ok (.lload_n 3, 1) := by decide +kernel
theorem dX4_loadsBefore_98 : decode cX4_loadsBefore 98 = .ok (.lreturn, 1) := by decide +kernel
abbrev cX4_isHost : ByteArray := prog_6_method_8_code
def yX4_isHost : MethodName := ⟨RX4, "isHost", "(II)Z"⟩
theorem dX4_isHost_0 : decode cX4_isHost 0 = .ok (.aload_n 0, 1) := by decide +kernel
theorem dX4_isHost_1 : decode cX4_isHost 1 = .ok (.getfield 21, 3) := by decide +kernel
theorem dX4_isHost_4 : decode cX4_isHost 4 = .ok (.iload_n 1, 1) := by decide +kernel
theorem dX4_isHost_5 : decode cX4_isHost 5 = .ok (.iaload, 1) := by decide +kernel
theorem dX4_isHost_6 : decode cX4_isHost 6 = .ok (.iload_n 2, 1) := by decide +kernel
theorem dX4_isHost_7 : decode cX4_isHost 7 = .ok (.ishr, 1) := by decide +kernel
theorem dX4_isHost_8 : decode cX4_isHost 8 = .ok (.iconst 1, 1) := by decide +kernel
theorem dX4_isHost_9 : decode cX4_isHost 9 = .ok (.iand, 1) := by decide +kernel
theorem dX4_isHost_10 : decode cX4_isHost 10 = .ok (.iconst 1, 1) := by decide +kernel
theorem dX4_isHost_11 : decode cX4_isHost 11 = .ok (.if_icmp .ne 7, 3) := by decide +kernel
theorem dX4_isHost_14 : decode cX4_isHost 14 = .ok (.iconst 1, 1) := by decide +kernel
theorem dX4_isHost_15 : decode cX4_isHost 15 = .ok (.goto 4, 3) := by decide +kernel
theorem dX4_isHost_18 : decode cX4_isHost 18 = .ok (.iconst 0, 1) := by decide +kernel
theorem dX4_isHost_19 : decode cX4_isHost 19 = .ok (.ireturn, 1) := by decide +kernel
abbrev cX4_chooseHomes : ByteArray := prog_6_method_9_code
def yX4_chooseHomes : MethodName := ⟨RX4, "chooseHomes", "()V"⟩
theorem dX4_chooseHomes_0 : decode cX4_chooseHomes 0 = .ok (.iconst 0, 1) := by decide +kernel
theorem dX4_chooseHomes_1 : decode cX4_chooseHomes 1 = .ok (.istore_n 1, 1) := by decide +kernel
theorem dX4_chooseHomes_2 : decode cX4_chooseHomes 2 = .ok (.iconst 0, 1) := by decide +kernel
theorem dX4_chooseHomes_3 : decode cX4_chooseHomes 3 = .ok (.istore_n 2, 1) := by decide +kernel
theorem dX4_chooseHomes_4 : decode cX4_chooseHomes 4 = .ok (.iconst 0, 1) := by decide +kernel
theorem dX4_chooseHomes_5 : decode cX4_chooseHomes 5 = .ok (.istore_n 3, 1) := by decide +kernel
theorem dX4_chooseHomes_6 : decode cX4_chooseHomes 6 = .ok (.iload_n 3, 1) := by decide +kernel
theorem dX4_chooseHomes_7 : decode cX4_chooseHomes 7 = .ok (.aload_n 0, 1) := by decide +kernel
theorem dX4_chooseHomes_8 : decode cX4_chooseHomes 8 = .ok (.getfield 29, 3) := by decide +kernel
theorem dX4_chooseHomes_11 : decode cX4_chooseHomes 11 = .ok (.if_icmp .ge 117, 3) := by decide +kernel
theorem dX4_chooseHomes_14 : decode cX4_chooseHomes 14 = .ok (.aload_n 0, 1) := by decide +kernel
theorem dX4_chooseHomes_15 : decode cX4_chooseHomes 15 = .ok (.getfield 18, 3) := by decide +kernel
theorem dX4_chooseHomes_18 : decode cX4_chooseHomes 18 = .ok (.iload_n 3, 1) := by decide +kernel
theorem dX4_chooseHomes_19 : decode cX4_chooseHomes 19 = .ok (.iaload, 1) := by decide +kernel
theorem dX4_chooseHomes_20 : decode cX4_chooseHomes 20 = .ok (.istore 4, 2) := by decide +kernel
theorem dX4_chooseHomes_22 : decode cX4_chooseHomes 22 = .ok (.aload_n 0, 1) := by decide +kernel
theorem dX4_chooseHomes_23 : decode cX4_chooseHomes 23 = .ok (.iload_n 3, 1) := by decide +kernel
theorem dX4_chooseHomes_24 : decode cX4_chooseHomes 24 = .ok (.iconst 0, 1) := by decide +kernel
theorem dX4_chooseHomes_25 : decode cX4_chooseHomes 25 = .ok (.invokevirtual 65, 3) := by decide +kernel
theorem dX4_chooseHomes_28 : decode cX4_chooseHomes 28 = .ok (.ifCond .eq 38, 3) := by decide +kernel
theorem dX4_chooseHomes_31 : decode cX4_chooseHomes 31 = .ok (.aload_n 0, 1) := by decide +kernel
theorem dX4_chooseHomes_32 : decode cX4_chooseHomes 32 = .ok (.iload_n 3, 1) := by decide +kernel
theorem dX4_chooseHomes_33 : decode cX4_chooseHomes 33 = .ok (.iconst 1, 1) := by decide +kernel
theorem dX4_chooseHomes_34 : decode cX4_chooseHomes 34 = .ok (.iadd, 1) := by decide +kernel
theorem dX4_chooseHomes_35 : decode cX4_chooseHomes 35 = .ok (.iload_n 1, 1) := by decide +kernel
theorem dX4_chooseHomes_36 : decode cX4_chooseHomes 36 = .ok (.iload 4, 2) := by decide +kernel
theorem dX4_chooseHomes_38 : decode cX4_chooseHomes 38 = .ok (.iadd, 1) := by decide +kernel
theorem dX4_chooseHomes_39 : decode cX4_chooseHomes 39 = .ok (.iload_n 2, 1) := by decide +kernel
theorem dX4_chooseHomes_40 : decode cX4_chooseHomes 40 = .ok (.invokevirtual 69, 3) := by decide +kernel
theorem dX4_chooseHomes_43 : decode cX4_chooseHomes 43 = .ok (.ifCond .eq 23, 3) := by decide +kernel
theorem dX4_chooseHomes_46 : decode cX4_chooseHomes 46 = .ok (.aload_n 0, 1) := by decide +kernel
theorem dX4_chooseHomes_47 : decode cX4_chooseHomes 47 = .ok (.getfield 9, 3) := by decide +kernel
theorem dX4_chooseHomes_50 : decode cX4_chooseHomes 50 = .ok (.aload_n 0, 1) := by decide +kernel
theorem dX4_chooseHomes_51 : decode cX4_chooseHomes 51 = .ok (.getfield 15, 3) := by decide +kernel
theorem dX4_chooseHomes_54 : decode cX4_chooseHomes 54 = .ok (.iload_n 3, 1) := by decide +kernel
theorem dX4_chooseHomes_55 : decode cX4_chooseHomes 55 = .ok (.iaload, 1) := by decide +kernel
theorem dX4_chooseHomes_56 : decode cX4_chooseHomes 56 = .ok (.iconst 0, 1) := by decide +kernel
theorem dX4_chooseHomes_57 : decode cX4_chooseHomes 57 = .ok (.iastore, 1) := by decide +kernel
theorem dX4_chooseHomes_58 : decode cX4_chooseHomes 58 = .ok (.iload_n 1, 1) := by decide +kernel
theorem dX4_chooseHomes_59 : decode cX4_chooseHomes 59 = .ok (.iload 4, 2) := by decide +kernel
theorem dX4_chooseHomes_61 : decode cX4_chooseHomes 61 = .ok (.iadd, 1) := by decide +kernel
theorem dX4_chooseHomes_62 : decode cX4_chooseHomes 62 = .ok (.istore_n 1, 1) := by decide +kernel
theorem dX4_chooseHomes_63 : decode cX4_chooseHomes 63 = .ok (.goto 59, 3) := by decide +kernel
theorem dX4_chooseHomes_66 : decode cX4_chooseHomes 66 = .ok (.aload_n 0, 1) := by decide +kernel
theorem dX4_chooseHomes_67 : decode cX4_chooseHomes 67 = .ok (.iload_n 3, 1) := by decide +kernel
theorem dX4_chooseHomes_68 : decode cX4_chooseHomes 68 = .ok (.iconst 1, 1) := by decide +kernel
theorem dX4_chooseHomes_69 : decode cX4_chooseHomes 69 = .ok (.invokevirtual 65, 3) := by decide +kernel
theorem dX4_chooseHomes_72 : decode cX4_chooseHomes 72 = .ok (.ifCond .eq 38, 3) := by decide +kernel
theorem dX4_chooseHomes_75 : decode cX4_chooseHomes 75 = .ok (.aload_n 0, 1) := by decide +kernel
theorem dX4_chooseHomes_76 : decode cX4_chooseHomes 76 = .ok (.iload_n 3, 1) := by decide +kernel
theorem dX4_chooseHomes_77 : decode cX4_chooseHomes 77 = .ok (.iconst 1, 1) := by decide +kernel
theorem dX4_chooseHomes_78 : decode cX4_chooseHomes 78 = .ok (.iadd, 1) := by decide +kernel
theorem dX4_chooseHomes_79 : decode cX4_chooseHomes 79 = .ok (.iload_n 1, 1) := by decide +kernel
theorem dX4_chooseHomes_80 : decode cX4_chooseHomes 80 = .ok (.iload_n 2, 1) := by decide +kernel
theorem dX4_chooseHomes_81 : decode cX4_chooseHomes 81 = .ok (.iload 4, 2) := by decide +kernel
theorem dX4_chooseHomes_83 : decode cX4_chooseHomes 83 = .ok (.iadd, 1) := by decide +kernel
theorem dX4_chooseHomes_84 : decode cX4_chooseHomes 84 = .ok (.invokevirtual 69, 3) := by decide +kernel
theorem dX4_chooseHomes_87 : decode cX4_chooseHomes 87 = .ok (.ifCond .eq 23, 3) := by decide +kernel
theorem dX4_chooseHomes_90 : decode cX4_chooseHomes 90 = .ok (.aload_n 0, 1) := by decide +kernel
theorem dX4_chooseHomes_91 : decode cX4_chooseHomes 91 = .ok (.getfield 9, 3) := by decide +kernel
theorem dX4_chooseHomes_94 : decode cX4_chooseHomes 94 = .ok (.aload_n 0, 1) := by decide +kernel
theorem dX4_chooseHomes_95 : decode cX4_chooseHomes 95 = .ok (.getfield 15, 3) := by decide +kernel
theorem dX4_chooseHomes_98 : decode cX4_chooseHomes 98 = .ok (.iload_n 3, 1) := by decide +kernel
theorem dX4_chooseHomes_99 : decode cX4_chooseHomes 99 = .ok (.iaload, 1) := by decide +kernel
theorem dX4_chooseHomes_100 : decode cX4_chooseHomes 100 = .ok (.iconst 1, 1) := by decide +kernel
theorem dX4_chooseHomes_101 : decode cX4_chooseHomes 101 = .ok (.iastore, 1) := by decide +kernel
theorem dX4_chooseHomes_102 : decode cX4_chooseHomes 102 = .ok (.iload_n 2, 1) := by decide +kernel
theorem dX4_chooseHomes_103 : decode cX4_chooseHomes 103 = .ok (.iload 4, 2) := by decide +kernel
theorem dX4_chooseHomes_105 : decode cX4_chooseHomes 105 = .ok (.iadd, 1) := by decide +kernel
theorem dX4_chooseHomes_106 : decode cX4_chooseHomes 106 = .ok (.istore_n 2, 1) := by decide +kernel
theorem dX4_chooseHomes_107 : decode cX4_chooseHomes 107 = .ok (.goto 15, 3) := by decide +kernel
theorem dX4_chooseHomes_110 : decode cX4_chooseHomes 110 = .ok (.aload_n 0, 1) := by decide +kernel
theorem dX4_chooseHomes_111 : decode cX4_chooseHomes 111 = .ok (.getfield 9, 3) := by decide +kernel
theorem dX4_chooseHomes_114 : decode cX4_chooseHomes 114 = .ok (.aload_n 0, 1) := by decide +kernel
theorem dX4_chooseHomes_115 : decode cX4_chooseHomes 115 = .ok (.getfield 15, 3) := by decide +kernel
theorem dX4_chooseHomes_118 : decode cX4_chooseHomes 118 = .ok (.iload_n 3, 1) := by decide +kernel
theorem dX4_chooseHomes_119 : decode cX4_chooseHomes 119 = .ok (.iaload, 1) := by decide +kernel
theorem dX4_chooseHomes_120 : decode cX4_chooseHomes 120 = .ok (.iconst 2, 1) := by decide +kernel
theorem dX4_chooseHomes_121 : decode cX4_chooseHomes 121 = .ok (.iastore, 1) := by decide +kernel
theorem dX4_chooseHomes_122 : decode cX4_chooseHomes 122 = .ok (.iinc 3 1, 3) := by decide +kernel
theorem dX4_chooseHomes_125 : decode cX4_chooseHomes 125 = .ok (.goto (-119), 3) := by decide +kernel
theorem dX4_chooseHomes_128 : decode cX4_chooseHomes 128 = .ok (.return_, 1) := by decide +kernel
abbrev cX4_canEnd : ByteArray := prog_6_method_10_code
def yX4_canEnd : MethodName := ⟨RX4, "canEnd", "(III)Z"⟩
theorem dX4_canEnd_0 : decode cX4_canEnd 0 = .ok (.iload_n 2, 1) := by decide +kernel
theorem dX4_canEnd_1 : decode cX4_canEnd 1 = .ok (.aload_n 0, 1) := by decide +kernel
theorem dX4_canEnd_2 : decode cX4_canEnd 2 = .ok (.getfield 33, 3) := by decide +kernel
theorem dX4_canEnd_5 : decode cX4_canEnd 5 = .ok (.if_icmp .gt 32, 3) := by decide +kernel
theorem dX4_canEnd_8 : decode cX4_canEnd 8 = .ok (.iload_n 3, 1) := by decide +kernel
theorem dX4_canEnd_9 : decode cX4_canEnd 9 = .ok (.aload_n 0, 1) := by decide +kernel
theorem dX4_canEnd_10 : decode cX4_canEnd 10 = .ok (.getfield 33, 3) := by decide +kernel
theorem dX4_canEnd_13 : decode cX4_canEnd 13 = .ok (.if_icmp .gt 24, 3) := by decide +kernel
theorem dX4_canEnd_16 : decode cX4_canEnd 16 = .ok (.aload_n 0, 1) := by decide +kernel
theorem dX4_canEnd_17 : decode cX4_canEnd 17 = .ok (.getfield 26, 3) := by decide +kernel
theorem dX4_canEnd_20 : decode cX4_canEnd 20 = .ok (.iload_n 1, 1) := by decide +kernel
theorem dX4_canEnd_21 : decode cX4_canEnd 21 = .ok (.aaload, 1) := by decide +kernel
theorem dX4_canEnd_22 : decode cX4_canEnd 22 = .ok (.iload_n 2, 1) := by decide +kernel
theorem dX4_canEnd_23 : decode cX4_canEnd 23 = .ok (.laload, 1) := by decide +kernel
theorem dX4_canEnd_24 : decode cX4_canEnd 24 = .ok (.iload_n 3, 1) := by decide +kernel
theorem dX4_canEnd_25 : decode cX4_canEnd 25 = .ok (.lushr, 1) := by decide +kernel
theorem dX4_canEnd_26 : decode cX4_canEnd 26 = .ok (.lconst 1, 1) := by decide +kernel
theorem dX4_canEnd_27 : decode cX4_canEnd 27 = .ok (.land, 1) := by decide +kernel
theorem dX4_canEnd_28 : decode cX4_canEnd 28 = .ok (.lconst 1, 1) := by decide +kernel
theorem dX4_canEnd_29 : decode cX4_canEnd 29 = .ok (.lcmp, 1) := by decide +kernel
theorem dX4_canEnd_30 : decode cX4_canEnd 30 = .ok (.ifCond .ne 7, 3) := by decide +kernel
theorem dX4_canEnd_33 : decode cX4_canEnd 33 = .ok (.iconst 1, 1) := by decide +kernel
theorem dX4_canEnd_34 : decode cX4_canEnd 34 = .ok (.goto 4, 3) := by decide +kernel
theorem dX4_canEnd_37 : decode cX4_canEnd 37 = .ok (.iconst 0, 1) := by decide +kernel
theorem dX4_canEnd_38 : decode cX4_canEnd 38 = .ok (.ireturn, 1) := by decide +kernel
