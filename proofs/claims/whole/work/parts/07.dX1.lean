abbrev cX1_init : ByteArray := prog_3_method_1_code
def yX1_init : MethodName := ⟨RX1, "<init>", "()V"⟩
theorem dX1_init_0 : decode cX1_init 0 = .ok (.aload_n 0, 1) := by decide +kernel
theorem dX1_init_1 : decode cX1_init 1 = .ok (.invokespecial 3, 3) := by decide +kernel
theorem dX1_init_4 : decode cX1_init 4 = .ok (.aload_n 0, 1) := by decide +kernel
theorem dX1_init_5 : decode cX1_init 5 = .ok (.bipush 10, 2) := by decide +kernel
theorem dX1_init_7 : decode cX1_init 7 = .ok (.newarray .int, 2) := by decide +kernel
theorem dX1_init_9 : decode cX1_init 9 = .ok (.putfield 9, 3) := by decide +kernel
theorem dX1_init_12 : decode cX1_init 12 = .ok (.aload_n 0, 1) := by decide +kernel
theorem dX1_init_13 : decode cX1_init 13 = .ok (.bipush 10, 2) := by decide +kernel
theorem dX1_init_15 : decode cX1_init 15 = .ok (.newarray .int, 2) := by decide +kernel
theorem dX1_init_17 : decode cX1_init 17 = .ok (.putfield 15, 3) := by decide +kernel
theorem dX1_init_20 : decode cX1_init 20 = .ok (.aload_n 0, 1) := by decide +kernel
theorem dX1_init_21 : decode cX1_init 21 = .ok (.bipush 10, 2) := by decide +kernel
theorem dX1_init_23 : decode cX1_init 23 = .ok (.newarray .int, 2) := by decide +kernel
theorem dX1_init_25 : decode cX1_init 25 = .ok (.putfield 18, 3) := by decide +kernel
theorem dX1_init_28 : decode cX1_init 28 = .ok (.aload_n 0, 1) := by decide +kernel
theorem dX1_init_29 : decode cX1_init 29 = .ok (.bipush 10, 2) := by decide +kernel
theorem dX1_init_31 : decode cX1_init 31 = .ok (.newarray .int, 2) := by decide +kernel
theorem dX1_init_33 : decode cX1_init 33 = .ok (.putfield 21, 3) := by decide +kernel
theorem dX1_init_36 : decode cX1_init 36 = .ok (.aload_n 0, 1) := by decide +kernel
theorem dX1_init_37 : decode cX1_init 37 = .ok (.bipush 10, 2) := by decide +kernel
theorem dX1_init_39 : decode cX1_init 39 = .ok (.newarray .int, 2) := by decide +kernel
theorem dX1_init_41 : decode cX1_init 41 = .ok (.putfield 24, 3) := by decide +kernel
theorem dX1_init_44 : decode cX1_init 44 = .ok (.aload_n 0, 1) := by decide +kernel
theorem dX1_init_45 : decode cX1_init 45 = .ok (.bipush 10, 2) := by decide +kernel
theorem dX1_init_47 : decode cX1_init 47 = .ok (.newarray .int, 2) := by decide +kernel
theorem dX1_init_49 : decode cX1_init 49 = .ok (.putfield 27, 3) := by decide +kernel
theorem dX1_init_52 : decode cX1_init 52 = .ok (.aload_n 0, 1) := by decide +kernel
theorem dX1_init_53 : decode cX1_init 53 = .ok (.iconst 0, 1) := by decide +kernel
theorem dX1_init_54 : decode cX1_init 54 = .ok (.putfield 30, 3) := by decide +kernel
theorem dX1_init_57 : decode cX1_init 57 = .ok (.return_, 1) := by decide +kernel
abbrev cX1_add : ByteArray := prog_3_method_2_code
def yX1_add : MethodName := ⟨RX1, "add", "(II)I"⟩
theorem dX1_add_0 : decode cX1_add 0 = .ok (.aload_n 0, 1) := by decide +kernel
theorem dX1_add_1 : decode cX1_add 1 = .ok (.getfield 30, 3) := by decide +kernel
theorem dX1_add_4 : decode cX1_add 4 = .ok (.bipush 10, 2) := by decide +kernel
theorem dX1_add_6 : decode cX1_add 6 = .ok (.if_icmp .lt 5, 3) := by decide +kernel
theorem dX1_add_9 : decode cX1_add 9 = .ok (.iconst (-1), 1) := by decide +kernel
theorem dX1_add_10 : decode cX1_add 10 = .ok (.ireturn, 1) := by decide +kernel
theorem dX1_add_11 : decode cX1_add 11 = .ok (.aload_n 0, 1) := by decide +kernel
theorem dX1_add_12 : decode cX1_add 12 = .ok (.getfield 9, 3) := by decide +kernel
theorem dX1_add_15 : decode cX1_add 15 = .ok (.aload_n 0, 1) := by decide +kernel
theorem dX1_add_16 : decode cX1_add 16 = .ok (.getfield 30, 3) := by decide +kernel
theorem dX1_add_19 : decode cX1_add 19 = .ok (.iload_n 1, 1) := by decide +kernel
theorem dX1_add_20 : decode cX1_add 20 = .ok (.iastore, 1) := by decide +kernel
theorem dX1_add_21 : decode cX1_add 21 = .ok (.aload_n 0, 1) := by decide +kernel
theorem dX1_add_22 : decode cX1_add 22 = .ok (.getfield 15, 3) := by decide +kernel
theorem dX1_add_25 : decode cX1_add 25 = .ok (.aload_n 0, 1) := by decide +kernel
theorem dX1_add_26 : decode cX1_add 26 = .ok (.getfield 30, 3) := by decide +kernel
theorem dX1_add_29 : decode cX1_add 29 = .ok (.iload_n 2, 1) := by decide +kernel
theorem dX1_add_30 : decode cX1_add 30 = .ok (.iastore, 1) := by decide +kernel
theorem dX1_add_31 : decode cX1_add 31 = .ok (.aload_n 0, 1) := by decide +kernel
theorem dX1_add_32 : decode cX1_add 32 = .ok (.getfield 18, 3) := by decide +kernel
theorem dX1_add_35 : decode cX1_add 35 = .ok (.aload_n 0, 1) := by decide +kernel
theorem dX1_add_36 : decode cX1_add 36 = .ok (.getfield 30, 3) := by decide +kernel
theorem dX1_add_39 : decode cX1_add 39 = .ok (.iconst (-1), 1) := by decide +kernel
theorem dX1_add_40 : decode cX1_add 40 = .ok (.iastore, 1) := by decide +kernel
theorem dX1_add_41 : decode cX1_add 41 = .ok (.aload_n 0, 1) := by decide +kernel
theorem dX1_add_42 : decode cX1_add 42 = .ok (.getfield 27, 3) := by decide +kernel
theorem dX1_add_45 : decode cX1_add 45 = .ok (.aload_n 0, 1) := by decide +kernel
theorem dX1_add_46 : decode cX1_add 46 = .ok (.getfield 30, 3) := by decide +kernel
theorem dX1_add_49 : decode cX1_add 49 = .ok (.iconst 1, 1) := by decide +kernel
theorem dX1_add_50 : decode cX1_add 50 = .ok (.iastore, 1) := by decide +kernel
theorem dX1_add_51 : decode cX1_add 51 = .ok (.aload_n 0, 1) := by decide +kernel
theorem dX1_add_52 : decode cX1_add 52 = .ok (.dup, 1) := by decide +kernel
theorem dX1_add_53 : decode cX1_add 53 = .ok (.getfield 30, 3) := by decide +kernel
theorem dX1_add_56 : decode cX1_add 56 = .ok (.iconst 1, 1) := by decide +kernel
theorem dX1_add_57 : decode cX1_add 57 = .ok (.iadd, 1) := by decide +kernel
theorem dX1_add_58 : decode cX1_add 58 = .ok (.putfield 30, 3) := by decide +kernel
theorem dX1_add_61 : decode cX1_add 61 = .ok (.aload_n 0, 1) := by decide +kernel
theorem dX1_add_62 : decode cX1_add 62 = .ok (.getfield 30, 3) := by decide +kernel
theorem dX1_add_65 : decode cX1_add 65 = .ok (.iconst 1, 1) := by decide +kernel
theorem dX1_add_66 : decode cX1_add 66 = .ok (.isub, 1) := by decide +kernel
theorem dX1_add_67 : decode cX1_add 67 = .ok (.ireturn, 1) := by decide +kernel
abbrev cX1_isFree : ByteArray := prog_3_method_3_code
def yX1_isFree : MethodName := ⟨RX1, "isFree", "([III)Z"⟩
theorem dX1_isFree_0 : decode cX1_isFree 0 = .ok (.iconst 0, 1) := by decide +kernel
theorem dX1_isFree_1 : decode cX1_isFree 1 = .ok (.istore 4, 2) := by decide +kernel
theorem dX1_isFree_3 : decode cX1_isFree 3 = .ok (.iload 4, 2) := by decide +kernel
theorem dX1_isFree_5 : decode cX1_isFree 5 = .ok (.aload_n 0, 1) := by decide +kernel
theorem dX1_isFree_6 : decode cX1_isFree 6 = .ok (.getfield 30, 3) := by decide +kernel
theorem dX1_isFree_9 : decode cX1_isFree 9 = .ok (.if_icmp .ge 45, 3) := by decide +kernel
theorem dX1_isFree_12 : decode cX1_isFree 12 = .ok (.aload_n 1, 1) := by decide +kernel
theorem dX1_isFree_13 : decode cX1_isFree 13 = .ok (.iload 4, 2) := by decide +kernel
theorem dX1_isFree_15 : decode cX1_isFree 15 = .ok (.iaload, 1) := by decide +kernel
theorem dX1_isFree_16 : decode cX1_isFree 16 = .ok (.iconst (-1), 1) := by decide +kernel
theorem dX1_isFree_17 : decode cX1_isFree 17 = .ok (.if_icmp .eq 31, 3) := by decide +kernel
theorem dX1_isFree_20 : decode cX1_isFree 20 = .ok (.iload_n 2, 1) := by decide +kernel
theorem dX1_isFree_21 : decode cX1_isFree 21 = .ok (.aload_n 1, 1) := by decide +kernel
theorem dX1_isFree_22 : decode cX1_isFree 22 = .ok (.iload 4, 2) := by decide +kernel
theorem dX1_isFree_24 : decode cX1_isFree 24 = .ok (.iaload, 1) := by decide +kernel
theorem dX1_isFree_25 : decode cX1_isFree 25 = .ok (.aload_n 0, 1) := by decide +kernel
theorem dX1_isFree_26 : decode cX1_isFree 26 = .ok (.getfield 9, 3) := by decide +kernel
theorem dX1_isFree_29 : decode cX1_isFree 29 = .ok (.iload 4, 2) := by decide +kernel
theorem dX1_isFree_31 : decode cX1_isFree 31 = .ok (.iaload, 1) := by decide +kernel
theorem dX1_isFree_32 : decode cX1_isFree 32 = .ok (.iadd, 1) := by decide +kernel
theorem dX1_isFree_33 : decode cX1_isFree 33 = .ok (.if_icmp .ge 15, 3) := by decide +kernel
theorem dX1_isFree_36 : decode cX1_isFree 36 = .ok (.aload_n 1, 1) := by decide +kernel
theorem dX1_isFree_37 : decode cX1_isFree 37 = .ok (.iload 4, 2) := by decide +kernel
theorem dX1_isFree_39 : decode cX1_isFree 39 = .ok (.iaload, 1) := by decide +kernel
theorem dX1_isFree_40 : decode cX1_isFree 40 = .ok (.iload_n 2, 1) := by decide +kernel
theorem dX1_isFree_41 : decode cX1_isFree 41 = .ok (.iload_n 3, 1) := by decide +kernel
theorem dX1_isFree_42 : decode cX1_isFree 42 = .ok (.iadd, 1) := by decide +kernel
theorem dX1_isFree_43 : decode cX1_isFree 43 = .ok (.if_icmp .ge 5, 3) := by decide +kernel
theorem dX1_isFree_46 : decode cX1_isFree 46 = .ok (.iconst 0, 1) := by decide +kernel
theorem dX1_isFree_47 : decode cX1_isFree 47 = .ok (.ireturn, 1) := by decide +kernel
theorem dX1_isFree_48 : decode cX1_isFree 48 = .ok (.iinc 4 1, 3) := by decide +kernel
theorem dX1_isFree_51 : decode cX1_isFree 51 = .ok (.goto (-48), 3) := by decide +kernel
theorem dX1_isFree_54 : decode cX1_isFree 54 = .ok (.iconst 1, 1) := by decide +kernel
theorem dX1_isFree_55 : decode cX1_isFree 55 = .ok (.ireturn, 1) := by decide +kernel
abbrev cX1_pickedFor : ByteArray := prog_3_method_4_code
def yX1_pickedFor : MethodName := ⟨RX1, "pickedFor", "(II)I"⟩
theorem dX1_pickedFor_0 : decode cX1_pickedFor 0 = .ok (.aload_n 0, 1) := by decide +kernel
theorem dX1_pickedFor_1 : decode cX1_pickedFor 1 = .ok (.getfield 27, 3) := by decide +kernel
theorem dX1_pickedFor_4 : decode cX1_pickedFor 4 = .ok (.iload_n 1, 1) := by decide +kernel
theorem dX1_pickedFor_5 : decode cX1_pickedFor 5 = .ok (.iaload, 1) := by decide +kernel
theorem dX1_pickedFor_6 : decode cX1_pickedFor 6 = .ok (.aload_n 0, 1) := by decide +kernel
theorem dX1_pickedFor_7 : decode cX1_pickedFor 7 = .ok (.getfield 24, 3) := by decide +kernel
theorem dX1_pickedFor_10 : decode cX1_pickedFor 10 = .ok (.iload_n 1, 1) := by decide +kernel
theorem dX1_pickedFor_11 : decode cX1_pickedFor 11 = .ok (.iaload, 1) := by decide +kernel
theorem dX1_pickedFor_12 : decode cX1_pickedFor 12 = .ok (.isub, 1) := by decide +kernel
theorem dX1_pickedFor_13 : decode cX1_pickedFor 13 = .ok (.istore_n 3, 1) := by decide +kernel
theorem dX1_pickedFor_14 : decode cX1_pickedFor 14 = .ok (.iload_n 3, 1) := by decide +kernel
theorem dX1_pickedFor_15 : decode cX1_pickedFor 15 = .ok (.ifCond .le 20, 3) := by decide +kernel
theorem dX1_pickedFor_18 : decode cX1_pickedFor 18 = .ok (.iload_n 2, 1) := by decide +kernel
theorem dX1_pickedFor_19 : decode cX1_pickedFor 19 = .ok (.aload_n 0, 1) := by decide +kernel
theorem dX1_pickedFor_20 : decode cX1_pickedFor 20 = .ok (.getfield 27, 3) := by decide +kernel
theorem dX1_pickedFor_23 : decode cX1_pickedFor 23 = .ok (.iload_n 1, 1) := by decide +kernel
theorem dX1_pickedFor_24 : decode cX1_pickedFor 24 = .ok (.iaload, 1) := by decide +kernel
theorem dX1_pickedFor_25 : decode cX1_pickedFor 25 = .ok (.imul, 1) := by decide +kernel
theorem dX1_pickedFor_26 : decode cX1_pickedFor 26 = .ok (.iload_n 3, 1) := by decide +kernel
theorem dX1_pickedFor_27 : decode cX1_pickedFor 27 = .ok (.iadd, 1) := by decide +kernel
theorem dX1_pickedFor_28 : decode cX1_pickedFor 28 = .ok (.iconst 1, 1) := by decide +kernel
theorem dX1_pickedFor_29 : decode cX1_pickedFor 29 = .ok (.isub, 1) := by decide +kernel
theorem dX1_pickedFor_30 : decode cX1_pickedFor 30 = .ok (.iload_n 3, 1) := by decide +kernel
theorem dX1_pickedFor_31 : decode cX1_pickedFor 31 = .ok (.idiv, 1) := by decide +kernel
theorem dX1_pickedFor_32 : decode cX1_pickedFor 32 = .ok (.goto 4, 3) := by decide +kernel
theorem dX1_pickedFor_35 : decode cX1_pickedFor 35 = .ok (.iload_n 2, 1) := by decide +kernel
theorem dX1_pickedFor_36 : decode cX1_pickedFor 36 = .ok (.ireturn, 1) := by decide +kernel
abbrev cX1_refillsFor : ByteArray := prog_3_method_5_code
def yX1_refillsFor : MethodName := ⟨RX1, "refillsFor", "(II)I"⟩
theorem dX1_refillsFor_0 : decode cX1_refillsFor 0 = .ok (.aload_n 0, 1) := by decide +kernel
theorem dX1_refillsFor_1 : decode cX1_refillsFor 1 = .ok (.getfield 21, 3) := by decide +kernel
theorem dX1_refillsFor_4 : decode cX1_refillsFor 4 = .ok (.iload_n 1, 1) := by decide +kernel
theorem dX1_refillsFor_5 : decode cX1_refillsFor 5 = .ok (.iaload, 1) := by decide +kernel
theorem dX1_refillsFor_6 : decode cX1_refillsFor 6 = .ok (.ifCond .le 16, 3) := by decide +kernel
theorem dX1_refillsFor_9 : decode cX1_refillsFor 9 = .ok (.iload_n 2, 1) := by decide +kernel
theorem dX1_refillsFor_10 : decode cX1_refillsFor 10 = .ok (.iconst 1, 1) := by decide +kernel
theorem dX1_refillsFor_11 : decode cX1_refillsFor 11 = .ok (.isub, 1) := by decide +kernel
theorem dX1_refillsFor_12 : decode cX1_refillsFor 12 = .ok (.aload_n 0, 1) := by decide +kernel
theorem dX1_refillsFor_13 : decode cX1_refillsFor 13 = .ok (.getfield 21, 3) := by decide +kernel
theorem dX1_refillsFor_16 : decode cX1_refillsFor 16 = .ok (.iload_n 1, 1) := by decide +kernel
theorem dX1_refillsFor_17 : decode cX1_refillsFor 17 = .ok (.iaload, 1) := by decide +kernel
theorem dX1_refillsFor_18 : decode cX1_refillsFor 18 = .ok (.idiv, 1) := by decide +kernel
theorem dX1_refillsFor_19 : decode cX1_refillsFor 19 = .ok (.goto 4, 3) := by decide +kernel
theorem dX1_refillsFor_22 : decode cX1_refillsFor 22 = .ok (.iconst 0, 1) := by decide +kernel
theorem dX1_refillsFor_23 : decode cX1_refillsFor 23 = .ok (.ireturn, 1) := by decide +kernel
