abbrev cX0_init : ByteArray := prog_2_method_1_code
def yX0_init : MethodName := ⟨RX0, "<init>", "(J)V"⟩
theorem dX0_init_0 : decode cX0_init 0 = .ok (.aload_n 0, 1) := by decide +kernel
theorem dX0_init_1 : decode cX0_init 1 = .ok (.invokespecial 1, 3) := by decide +kernel
theorem dX0_init_4 : decode cX0_init 4 = .ok (.aload_n 0, 1) := by decide +kernel
theorem dX0_init_5 : decode cX0_init 5 = .ok (.lload_n 1, 1) := by decide +kernel
theorem dX0_init_6 : decode cX0_init 6 = .ok (.putfield 7, 3) := by decide +kernel
theorem dX0_init_9 : decode cX0_init 9 = .ok (.return_, 1) := by decide +kernel
abbrev cX0_next : ByteArray := prog_2_method_2_code
def yX0_next : MethodName := ⟨RX0, "next", "(I)I"⟩
theorem dX0_next_0 : decode cX0_next 0 = .ok (.aload_n 0, 1) := by decide +kernel
theorem dX0_next_1 : decode cX0_next 1 = .ok (.aload_n 0, 1) := by decide +kernel
theorem dX0_next_2 : decode cX0_next 2 = .ok (.getfield 7, 3) := by decide +kernel
theorem dX0_next_5 : decode cX0_next 5 = .ok (.ldc2_w 13, 3) := by decide +kernel
theorem dX0_next_8 : decode cX0_next 8 = .ok (.lmul, 1) := by decide +kernel
theorem dX0_next_9 : decode cX0_next 9 = .ok (.ldc2_w 15, 3) := by decide +kernel
theorem dX0_next_12 : decode cX0_next 12 = .ok (.ladd, 1) := by decide +kernel
theorem dX0_next_13 : decode cX0_next 13 = .ok (.putfield 7, 3) := by decide +kernel
theorem dX0_next_16 : decode cX0_next 16 = .ok (.iload_n 1, 1) := by decide +kernel
theorem dX0_next_17 : decode cX0_next 17 = .ok (.ifCond .le 17, 3) := by decide +kernel
theorem dX0_next_20 : decode cX0_next 20 = .ok (.aload_n 0, 1) := by decide +kernel
theorem dX0_next_21 : decode cX0_next 21 = .ok (.getfield 7, 3) := by decide +kernel
theorem dX0_next_24 : decode cX0_next 24 = .ok (.bipush 33, 2) := by decide +kernel
theorem dX0_next_26 : decode cX0_next 26 = .ok (.lushr, 1) := by decide +kernel
theorem dX0_next_27 : decode cX0_next 27 = .ok (.iload_n 1, 1) := by decide +kernel
theorem dX0_next_28 : decode cX0_next 28 = .ok (.i2l, 1) := by decide +kernel
theorem dX0_next_29 : decode cX0_next 29 = .ok (.lrem, 1) := by decide +kernel
theorem dX0_next_30 : decode cX0_next 30 = .ok (.l2i, 1) := by decide +kernel
theorem dX0_next_31 : decode cX0_next 31 = .ok (.goto 4, 3) := by decide +kernel
theorem dX0_next_34 : decode cX0_next 34 = .ok (.iconst 0, 1) := by decide +kernel
theorem dX0_next_35 : decode cX0_next 35 = .ok (.ireturn, 1) := by decide +kernel
