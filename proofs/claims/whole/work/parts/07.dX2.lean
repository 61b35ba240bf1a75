abbrev cX2_init : ByteArray := prog_4_method_1_code
def yX2_init : MethodName := ⟨RX2, "<init>", "()V"⟩
theorem dX2_init_0 : decode cX2_init 0 = .ok (.aload_n 0, 1) := by decide +kernel
theorem dX2_init_1 : decode cX2_init 1 = .ok (.invokespecial 3, 3) := by decide +kernel
theorem dX2_init_4 : decode cX2_init 4 = .ok (.aload_n 0, 1) := by decide +kernel
theorem dX2_init_5 : decode cX2_init 5 = .ok (.bipush 40, 2) := by decide +kernel
theorem dX2_init_7 : decode cX2_init 7 = .ok (.newarray .int, 2) := by decide +kernel
theorem dX2_init_9 : decode cX2_init 9 = .ok (.putfield 9, 3) := by decide +kernel
theorem dX2_init_12 : decode cX2_init 12 = .ok (.aload_n 0, 1) := by decide +kernel
theorem dX2_init_13 : decode cX2_init 13 = .ok (.bipush 10, 2) := by decide +kernel
theorem dX2_init_15 : decode cX2_init 15 = .ok (.newarray .int, 2) := by decide +kernel
theorem dX2_init_17 : decode cX2_init 17 = .ok (.putfield 15, 3) := by decide +kernel
theorem dX2_init_20 : decode cX2_init 20 = .ok (.aload_n 0, 1) := by decide +kernel
theorem dX2_init_21 : decode cX2_init 21 = .ok (.bipush 10, 2) := by decide +kernel
theorem dX2_init_23 : decode cX2_init 23 = .ok (.newarray .int, 2) := by decide +kernel
theorem dX2_init_25 : decode cX2_init 25 = .ok (.putfield 18, 3) := by decide +kernel
theorem dX2_init_28 : decode cX2_init 28 = .ok (.aload_n 0, 1) := by decide +kernel
theorem dX2_init_29 : decode cX2_init 29 = .ok (.iconst 0, 1) := by decide +kernel
theorem dX2_init_30 : decode cX2_init 30 = .ok (.putfield 21, 3) := by decide +kernel
theorem dX2_init_33 : decode cX2_init 33 = .ok (.aload_n 0, 1) := by decide +kernel
theorem dX2_init_34 : decode cX2_init 34 = .ok (.iconst 1, 1) := by decide +kernel
theorem dX2_init_35 : decode cX2_init 35 = .ok (.putfield 25, 3) := by decide +kernel
theorem dX2_init_38 : decode cX2_init 38 = .ok (.aload_n 0, 1) := by decide +kernel
theorem dX2_init_39 : decode cX2_init 39 = .ok (.iconst 0, 1) := by decide +kernel
theorem dX2_init_40 : decode cX2_init 40 = .ok (.putfield 28, 3) := by decide +kernel
theorem dX2_init_43 : decode cX2_init 43 = .ok (.aload_n 0, 1) := by decide +kernel
theorem dX2_init_44 : decode cX2_init 44 = .ok (.iconst 0, 1) := by decide +kernel
theorem dX2_init_45 : decode cX2_init 45 = .ok (.putfield 31, 3) := by decide +kernel
theorem dX2_init_48 : decode cX2_init 48 = .ok (.aload_n 0, 1) := by decide +kernel
theorem dX2_init_49 : decode cX2_init 49 = .ok (.getfield 15, 3) := by decide +kernel
theorem dX2_init_52 : decode cX2_init 52 = .ok (.iconst (-1), 1) := by decide +kernel
theorem dX2_init_53 : decode cX2_init 53 = .ok (.invokestatic 34, 3) := by decide +kernel
theorem dX2_init_56 : decode cX2_init 56 = .ok (.return_, 1) := by decide +kernel
abbrev cX2_clear : ByteArray := prog_4_method_2_code
def yX2_clear : MethodName := ⟨RX2, "clear", "()V"⟩
theorem dX2_clear_0 : decode cX2_clear 0 = .ok (.aload_n 0, 1) := by decide +kernel
theorem dX2_clear_1 : decode cX2_clear 1 = .ok (.getfield 15, 3) := by decide +kernel
theorem dX2_clear_4 : decode cX2_clear 4 = .ok (.iconst (-1), 1) := by decide +kernel
theorem dX2_clear_5 : decode cX2_clear 5 = .ok (.invokestatic 34, 3) := by decide +kernel
theorem dX2_clear_8 : decode cX2_clear 8 = .ok (.aload_n 0, 1) := by decide +kernel
theorem dX2_clear_9 : decode cX2_clear 9 = .ok (.getfield 18, 3) := by decide +kernel
theorem dX2_clear_12 : decode cX2_clear 12 = .ok (.iconst 0, 1) := by decide +kernel
theorem dX2_clear_13 : decode cX2_clear 13 = .ok (.invokestatic 34, 3) := by decide +kernel
theorem dX2_clear_16 : decode cX2_clear 16 = .ok (.aload_n 0, 1) := by decide +kernel
theorem dX2_clear_17 : decode cX2_clear 17 = .ok (.iconst 0, 1) := by decide +kernel
theorem dX2_clear_18 : decode cX2_clear 18 = .ok (.putfield 28, 3) := by decide +kernel
theorem dX2_clear_21 : decode cX2_clear 21 = .ok (.return_, 1) := by decide +kernel
abbrev cX2_hasNozzle : ByteArray := prog_4_method_3_code
def yX2_hasNozzle : MethodName := ⟨RX2, "hasNozzle", "(I)Z"⟩
theorem dX2_hasNozzle_0 : decode cX2_hasNozzle 0 = .ok (.aload_n 0, 1) := by decide +kernel
theorem dX2_hasNozzle_1 : decode cX2_hasNozzle 1 = .ok (.getfield 21, 3) := by decide +kernel
theorem dX2_hasNozzle_4 : decode cX2_hasNozzle 4 = .ok (.iload_n 1, 1) := by decide +kernel
theorem dX2_hasNozzle_5 : decode cX2_hasNozzle 5 = .ok (.ishr, 1) := by decide +kernel
theorem dX2_hasNozzle_6 : decode cX2_hasNozzle 6 = .ok (.iconst 1, 1) := by decide +kernel
theorem dX2_hasNozzle_7 : decode cX2_hasNozzle 7 = .ok (.iand, 1) := by decide +kernel
theorem dX2_hasNozzle_8 : decode cX2_hasNozzle 8 = .ok (.iconst 1, 1) := by decide +kernel
theorem dX2_hasNozzle_9 : decode cX2_hasNozzle 9 = .ok (.if_icmp .ne 7, 3) := by decide +kernel
theorem dX2_hasNozzle_12 : decode cX2_hasNozzle 12 = .ok (.iconst 1, 1) := by decide +kernel
theorem dX2_hasNozzle_13 : decode cX2_hasNozzle 13 = .ok (.goto 4, 3) := by decide +kernel
theorem dX2_hasNozzle_16 : decode cX2_hasNozzle 16 = .ok (.iconst 0, 1) := by decide +kernel
theorem dX2_hasNozzle_17 : decode cX2_hasNozzle 17 = .ok (.ireturn, 1) := by decide +kernel
abbrev cX2_insert : ByteArray := prog_4_method_4_code
def yX2_insert : MethodName := ⟨RX2, "insert", "(ILFeederOrders$Parts;)V"⟩
theorem dX2_insert_0 : decode cX2_insert 0 = .ok (.aload_n 0, 1) := by decide +kernel
theorem dX2_insert_1 : decode cX2_insert 1 = .ok (.getfield 28, 3) := by decide +kernel
theorem dX2_insert_4 : decode cX2_insert 4 = .ok (.bipush 40, 2) := by decide +kernel
theorem dX2_insert_6 : decode cX2_insert 6 = .ok (.if_icmp .lt 4, 3) := by decide +kernel
theorem dX2_insert_9 : decode cX2_insert 9 = .ok (.return_, 1) := by decide +kernel
theorem dX2_insert_10 : decode cX2_insert 10 = .ok (.aload_n 0, 1) := by decide +kernel
theorem dX2_insert_11 : decode cX2_insert 11 = .ok (.getfield 28, 3) := by decide +kernel
theorem dX2_insert_14 : decode cX2_insert 14 = .ok (.istore_n 3, 1) := by decide +kernel
theorem dX2_insert_15 : decode cX2_insert 15 = .ok (.iload_n 3, 1) := by decide +kernel
theorem dX2_insert_16 : decode cX2_insert 16 = .ok (.ifCond .le 39, 3) := by decide +kernel
theorem dX2_insert_19 : decode cX2_insert 19 = .ok (.aload_n 2, 1) := by decide +kernel
theorem dX2_insert_20 : decode cX2_insert 20 = .ok (.iload_n 1, 1) := by decide +kernel
theorem dX2_insert_21 : decode cX2_insert 21 = .ok (.aload_n 0, 1) := by decide +kernel
theorem dX2_insert_22 : decode cX2_insert 22 = .ok (.getfield 9, 3) := by decide +kernel
theorem dX2_insert_25 : decode cX2_insert 25 = .ok (.iload_n 3, 1) := by decide +kernel
theorem dX2_insert_26 : decode cX2_insert 26 = .ok (.iconst 1, 1) := by decide +kernel
theorem dX2_insert_27 : decode cX2_insert 27 = .ok (.isub, 1) := by decide +kernel
theorem dX2_insert_28 : decode cX2_insert 28 = .ok (.iaload, 1) := by decide +kernel
theorem dX2_insert_29 : decode cX2_insert 29 = .ok (.invokevirtual 40, 3) := by decide +kernel
theorem dX2_insert_32 : decode cX2_insert 32 = .ok (.ifCond .eq 23, 3) := by decide +kernel
theorem dX2_insert_35 : decode cX2_insert 35 = .ok (.aload_n 0, 1) := by decide +kernel
theorem dX2_insert_36 : decode cX2_insert 36 = .ok (.getfield 9, 3) := by decide +kernel
theorem dX2_insert_39 : decode cX2_insert 39 = .ok (.iload_n 3, 1) := by decide +kernel
theorem dX2_insert_40 : decode cX2_insert 40 = .ok (.aload_n 0, 1) := by decide +kernel
theorem dX2_insert_41 : decode cX2_insert 41 = .ok (.getfield 9, 3) := by decide +kernel
theorem dX2_insert_44 : decode cX2_insert 44 = .ok (.iload_n 3, 1) := by decide +kernel
theorem dX2_insert_45 : decode cX2_insert 45 = .ok (.iconst 1, 1) := by decide +kernel
theorem dX2_insert_46 : decode cX2_insert 46 = .ok (.isub, 1) := by decide +kernel
theorem dX2_insert_47 : decode cX2_insert 47 = .ok (.iaload, 1) := by decide +kernel
theorem dX2_insert_48 : decode cX2_insert 48 = .ok (.iastore, 1) := by decide +kernel
theorem dX2_insert_49 : decode cX2_insert 49 = .ok (.iinc 3 (-1), 3) := by decide +kernel
theorem dX2_insert_52 : decode cX2_insert 52 = .ok (.goto (-37), 3) := by decide +kernel
theorem dX2_insert_55 : decode cX2_insert 55 = .ok (.aload_n 0, 1) := by decide +kernel
theorem dX2_insert_56 : decode cX2_insert 56 = .ok (.getfield 9, 3) := by decide +kernel
theorem dX2_insert_59 : decode cX2_insert 59 = .ok (.iload_n 3, 1) := by decide +kernel
theorem dX2_insert_60 : decode cX2_insert 60 = .ok (.iload_n 1, 1) := by decide +kernel
theorem dX2_insert_61 : decode cX2_insert 61 = .ok (.iastore, 1) := by decide +kernel
theorem dX2_insert_62 : decode cX2_insert 62 = .ok (.aload_n 0, 1) := by decide +kernel
theorem dX2_insert_63 : decode cX2_insert 63 = .ok (.dup, 1) := by decide +kernel
theorem dX2_insert_64 : decode cX2_insert 64 = .ok (.getfield 28, 3) := by decide +kernel
theorem dX2_insert_67 : decode cX2_insert 67 = .ok (.iconst 1, 1) := by decide +kernel
theorem dX2_insert_68 : decode cX2_insert 68 = .ok (.iadd, 1) := by decide +kernel
theorem dX2_insert_69 : decode cX2_insert 69 = .ok (.putfield 28, 3) := by decide +kernel
theorem dX2_insert_72 : decode cX2_insert 72 = .ok (.aload_n 0, 1) := by decide +kernel
theorem dX2_insert_73 : decode cX2_insert 73 = .ok (.getfield 18, 3) := by decide +kernel
theorem dX2_insert_76 : decode cX2_insert 76 = .ok (.aload_n 2, 1) := by decide +kernel
theorem dX2_insert_77 : decode cX2_insert 77 = .ok (.getfield 46, 3) := by decide +kernel
theorem dX2_insert_80 : decode cX2_insert 80 = .ok (.iload_n 1, 1) := by decide +kernel
theorem dX2_insert_81 : decode cX2_insert 81 = .ok (.iaload, 1) := by decide +kernel
theorem dX2_insert_82 : decode cX2_insert 82 = .ok (.dup2, 1) := by decide +kernel
theorem dX2_insert_83 : decode cX2_insert 83 = .ok (.iaload, 1) := by decide +kernel
theorem dX2_insert_84 : decode cX2_insert 84 = .ok (.iconst 1, 1) := by decide +kernel
theorem dX2_insert_85 : decode cX2_insert 85 = .ok (.iadd, 1) := by decide +kernel
theorem dX2_insert_86 : decode cX2_insert 86 = .ok (.iastore, 1) := by decide +kernel
theorem dX2_insert_87 : decode cX2_insert 87 = .ok (.return_, 1) := by decide +kernel
abbrev cX2_partAt : ByteArray := prog_4_method_5_code
def yX2_partAt : MethodName := ⟨RX2, "partAt", "(I)I"⟩
theorem dX2_partAt_0 : decode cX2_partAt 0 = .ok (.iload_n 1, 1) := by decide +kernel
theorem dX2_partAt_1 : decode cX2_partAt 1 = .ok (.ifCond .lt 20, 3) := by decide +kernel
theorem dX2_partAt_4 : decode cX2_partAt 4 = .ok (.iload_n 1, 1) := by decide +kernel
theorem dX2_partAt_5 : decode cX2_partAt 5 = .ok (.aload_n 0, 1) := by decide +kernel
theorem dX2_partAt_6 : decode cX2_partAt 6 = .ok (.getfield 28, 3) := by decide +kernel
theorem dX2_partAt_9 : decode cX2_partAt 9 = .ok (.if_icmp .ge 12, 3) := by decide +kernel
theorem dX2_partAt_12 : decode cX2_partAt 12 = .ok (.aload_n 0, 1) := by decide +kernel
theorem dX2_partAt_13 : decode cX2_partAt 13 = .ok (.getfield 9, 3) := by decide +kernel
theorem dX2_partAt_16 : decode cX2_partAt 16 = .ok (.iload_n 1, 1) := by decide +kernel
theorem dX2_partAt_17 : decode cX2_partAt 17 = .ok (.iaload, 1) := by decide +kernel
theorem dX2_partAt_18 : decode cX2_partAt 18 = .ok (.goto 4, 3) := by decide +kernel
theorem dX2_partAt_21 : decode cX2_partAt 21 = .ok (.iconst (-1), 1) := by decide +kernel
theorem dX2_partAt_22 : decode cX2_partAt 22 = .ok (.ireturn, 1) := by decide +kernel
abbrev cX2_placeOf : ByteArray := prog_4_method_6_code
def yX2_placeOf : MethodName := ⟨RX2, "placeOf", "(I)I"⟩
theorem dX2_placeOf_0 : decode cX2_placeOf 0 = .ok (.iconst 0, 1) := by decide +kernel
theorem dX2_placeOf_1 : decode cX2_placeOf 1 = .ok (.istore_n 2, 1) := by decide +kernel
theorem dX2_placeOf_2 : decode cX2_placeOf 2 = .ok (.iload_n 2, 1) := by decide +kernel
theorem dX2_placeOf_3 : decode cX2_placeOf 3 = .ok (.aload_n 0, 1) := by decide +kernel
theorem dX2_placeOf_4 : decode cX2_placeOf 4 = .ok (.getfield 28, 3) := by decide +kernel
theorem dX2_placeOf_7 : decode cX2_placeOf 7 = .ok (.if_icmp .ge 21, 3) := by decide +kernel
theorem dX2_placeOf_10 : decode cX2_placeOf 10 = .ok (.aload_n 0, 1) := by decide +kernel
theorem dX2_placeOf_11 : decode cX2_placeOf 11 = .ok (.getfield 9, 3) := by decide +kernel
theorem dX2_placeOf_14 : decode cX2_placeOf 14 = .ok (.iload_n 2, 1) := by decide +kernel
theorem dX2_placeOf_15 : decode cX2_placeOf 15 = .ok (.iaload, 1) := by decide +kernel
theorem dX2_placeOf_16 : decode cX2_placeOf 16 = .ok (.iload_n 1, 1) := by decide +kernel
theorem dX2_placeOf_17 : decode cX2_placeOf 17 = .ok (.if_icmp .ne 5, 3) := by decide +kernel
theorem dX2_placeOf_20 : decode cX2_placeOf 20 = .ok (.iload_n 2, 1) := by decide +kernel
theorem dX2_placeOf_21 : decode cX2_placeOf 21 = .ok (.ireturn, 1) := by decide +kernel
theorem dX2_placeOf_22 : decode cX2_placeOf 22 = .ok (.iinc 2 1, 3) := by decide +kernel
theorem dX2_placeOf_25 : decode cX2_placeOf 25 = .ok (.goto (-23), 3) := by decide +kernel
theorem dX2_placeOf_28 : decode cX2_placeOf 28 = .ok (.iconst (-1), 1) := by decide +kernel
theorem dX2_placeOf_29 : decode cX2_placeOf 29 = .ok (.ireturn, 1) := by decide +kernel
abbrev cX2_tripAt : ByteArray := prog_4_method_7_code
def yX2_tripAt : MethodName := ⟨RX2, "tripAt", "(I)I"⟩
theorem dX2_tripAt_0 : decode cX2_tripAt 0 = .ok (.aload_n 0, 1) := by decide +kernel
theorem dX2_tripAt_1 : decode cX2_tripAt 1 = .ok (.getfield 25, 3) := by decide +kernel
theorem dX2_tripAt_4 : decode cX2_tripAt 4 = .ok (.ifCond .le 12, 3) := by decide +kernel
theorem dX2_tripAt_7 : decode cX2_tripAt 7 = .ok (.iload_n 1, 1) := by decide +kernel
theorem dX2_tripAt_8 : decode cX2_tripAt 8 = .ok (.aload_n 0, 1) := by decide +kernel
theorem dX2_tripAt_9 : decode cX2_tripAt 9 = .ok (.getfield 25, 3) := by decide +kernel
theorem dX2_tripAt_12 : decode cX2_tripAt 12 = .ok (.idiv, 1) := by decide +kernel
theorem dX2_tripAt_13 : decode cX2_tripAt 13 = .ok (.goto 4, 3) := by decide +kernel
theorem dX2_tripAt_16 : decode cX2_tripAt 16 = .ok (.iconst 0, 1) := by decide +kernel
theorem dX2_tripAt_17 : decode cX2_tripAt 17 = .ok (.ireturn, 1) := by decide +kernel
abbrev cX2_tripCount : ByteArray := prog_4_method_8_code
def yX2_tripCount : MethodName := ⟨RX2, "tripCount", "()I"⟩
theorem dX2_tripCount_0 : decode cX2_tripCount 0 = .ok (.aload_n 0, 1) := by decide +kernel
theorem dX2_tripCount_1 : decode cX2_tripCount 1 = .ok (.getfield 28, 3) := by decide +kernel
theorem dX2_tripCount_4 : decode cX2_tripCount 4 = .ok (.ifCond .le 18, 3) := by decide +kernel
theorem dX2_tripCount_7 : decode cX2_tripCount 7 = .ok (.aload_n 0, 1) := by decide +kernel
theorem dX2_tripCount_8 : decode cX2_tripCount 8 = .ok (.aload_n 0, 1) := by decide +kernel
theorem dX2_tripCount_9 : decode cX2_tripCount 9 = .ok (.getfield 28, 3) := by decide +kernel
theorem dX2_tripCount_12 : decode cX2_tripCount 12 = .ok (.iconst 1, 1) := by decide +kernel
theorem dX2_tripCount_13 : decode cX2_tripCount 13 = .ok (.isub, 1) := by decide +kernel
theorem dX2_tripCount_14 : decode cX2_tripCount 14 = .ok (.invokevirtual 49, 3) := by decide +kernel
theorem dX2_tripCount_17 : decode cX2_tripCount 17 = .ok (.iconst 1, 1) := by decide +kernel
theorem dX2_tripCount_18 : decode cX2_tripCount 18 = .ok (.iadd, 1) := by decide +kernel
theorem dX2_tripCount_19 : decode cX2_tripCount 19 = .ok (.goto 4, 3) := by decide +kernel
theorem dX2_tripCount_22 : decode cX2_tripCount 22 = .ok (.iconst 0, 1) := by decide +kernel
theorem dX2_tripCount_23 : decode cX2_tripCount 23 = .ok (.ireturn, 1) := by decide +kernel
