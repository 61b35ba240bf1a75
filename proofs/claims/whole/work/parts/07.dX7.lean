abbrev cX7_init : ByteArray := prog_9_method_1_code
def yX7_init : MethodName := ⟨RX7, "<init>", "(JI)V"⟩
theorem dX7_init_0 : decode cX7_init 0 = .ok (.aload_n 0, 1) := by decide +kernel
theorem dX7_init_1 : decode cX7_init 1 = .ok (.invokespecial 1, 3) := by decide +kernel
theorem dX7_init_4 : decode cX7_init 4 = .ok (.aload_n 0, 1) := by decide +kernel
theorem dX7_init_5 : decode cX7_init 5 = .ok (.bipush 10, 2) := by decide +kernel
theorem dX7_init_7 : decode cX7_init 7 = .ok (.newarray .int, 2) := by decide +kernel
theorem dX7_init_9 : decode cX7_init 9 = .ok (.putfield 7, 3) := by decide +kernel
theorem dX7_init_12 : decode cX7_init 12 = .ok (.aload_n 0, 1) := by decide +kernel
theorem dX7_init_13 : decode cX7_init 13 = .ok (.bipush 10, 2) := by decide +kernel
theorem dX7_init_15 : decode cX7_init 15 = .ok (.newarray .int, 2) := by decide +kernel
theorem dX7_init_17 : decode cX7_init 17 = .ok (.putfield 13, 3) := by decide +kernel
theorem dX7_init_20 : decode cX7_init 20 = .ok (.aload_n 0, 1) := by decide +kernel
theorem dX7_init_21 : decode cX7_init 21 = .ok (.bipush 10, 2) := by decide +kernel
theorem dX7_init_23 : decode cX7_init 23 = .ok (.newarray .int, 2) := by decide +kernel
theorem dX7_init_25 : decode cX7_init 25 = .ok (.putfield 16, 3) := by decide +kernel
theorem dX7_init_28 : decode cX7_init 28 = .ok (.aload_n 0, 1) := by decide +kernel
theorem dX7_init_29 : decode cX7_init 29 = .ok (.bipush 10, 2) := by decide +kernel
theorem dX7_init_31 : decode cX7_init 31 = .ok (.newarray .int, 2) := by decide +kernel
theorem dX7_init_33 : decode cX7_init 33 = .ok (.putfield 19, 3) := by decide +kernel
theorem dX7_init_36 : decode cX7_init 36 = .ok (.aload_n 0, 1) := by decide +kernel
theorem dX7_init_37 : decode cX7_init 37 = .ok (.bipush 10, 2) := by decide +kernel
theorem dX7_init_39 : decode cX7_init 39 = .ok (.newarray .long, 2) := by decide +kernel
theorem dX7_init_41 : decode cX7_init 41 = .ok (.putfield 22, 3) := by decide +kernel
theorem dX7_init_44 : decode cX7_init 44 = .ok (.aload_n 0, 1) := by decide +kernel
theorem dX7_init_45 : decode cX7_init 45 = .ok (.bipush 10, 2) := by decide +kernel
theorem dX7_init_47 : decode cX7_init 47 = .ok (.newarray .long, 2) := by decide +kernel
theorem dX7_init_49 : decode cX7_init 49 = .ok (.putfield 26, 3) := by decide +kernel
theorem dX7_init_52 : decode cX7_init 52 = .ok (.aload_n 0, 1) := by decide +kernel
theorem dX7_init_53 : decode cX7_init 53 = .ok (.bipush 40, 2) := by decide +kernel
theorem dX7_init_55 : decode cX7_init 55 = .ok (.newarray .int, 2) := by decide +kernel
theorem dX7_init_57 : decode cX7_init 57 = .ok (.putfield 29, 3) := by decide +kernel
theorem dX7_init_60 : decode cX7_init 60 = .ok (.aload_n 0, 1) := by decide +kernel
theorem dX7_init_61 : decode cX7_init 61 = .ok (.bipush 40, 2) := by decide +kernel
theorem dX7_init_63 : decode cX7_init 63 = .ok (.newarray .long, 2) := by decide +kernel
theorem dX7_init_65 : decode cX7_init 65 = .ok (.putfield 32, 3) := by decide +kernel
theorem dX7_init_68 : decode cX7_init 68 = .ok (.aload_n 0, 1) := by decide +kernel
theorem dX7_init_69 : decode cX7_init 69 = .ok (.bipush 40, 2) := by decide +kernel
theorem dX7_init_71 : decode cX7_init 71 = .ok (.newarray .long, 2) := by decide +kernel
theorem dX7_init_73 : decode cX7_init 73 = .ok (.putfield 35, 3) := by decide +kernel
theorem dX7_init_76 : decode cX7_init 76 = .ok (.aload_n 0, 1) := by decide +kernel
theorem dX7_init_77 : decode cX7_init 77 = .ok (.bipush 40, 2) := by decide +kernel
theorem dX7_init_79 : decode cX7_init 79 = .ok (.newarray .long, 2) := by decide +kernel
theorem dX7_init_81 : decode cX7_init 81 = .ok (.putfield 38, 3) := by decide +kernel
theorem dX7_init_84 : decode cX7_init 84 = .ok (.aload_n 0, 1) := by decide +kernel
theorem dX7_init_85 : decode cX7_init 85 = .ok (.iconst 3, 1) := by decide +kernel
theorem dX7_init_86 : decode cX7_init 86 = .ok (.newarray .int, 2) := by decide +kernel
theorem dX7_init_88 : decode cX7_init 88 = .ok (.putfield 41, 3) := by decide +kernel
theorem dX7_init_91 : decode cX7_init 91 = .ok (.aload_n 0, 1) := by decide +kernel
theorem dX7_init_92 : decode cX7_init 92 = .ok (.iconst 3, 1) := by decide +kernel
theorem dX7_init_93 : decode cX7_init 93 = .ok (.newarray .int, 2) := by decide +kernel
theorem dX7_init_95 : decode cX7_init 95 = .ok (.putfield 44, 3) := by decide +kernel
theorem dX7_init_98 : decode cX7_init 98 = .ok (.aload_n 0, 1) := by decide +kernel
theorem dX7_init_99 : decode cX7_init 99 = .ok (.bipush 30, 2) := by decide +kernel
theorem dX7_init_101 : decode cX7_init 101 = .ok (.newarray .int, 2) := by decide +kernel
theorem dX7_init_103 : decode cX7_init 103 = .ok (.putfield 47, 3) := by decide +kernel
theorem dX7_init_106 : decode cX7_init 106 = .ok (.aload_n 0, 1) := by decide +kernel
theorem dX7_init_107 : decode cX7_init 107 = .ok (.iconst 3, 1) := by decide +kernel
theorem dX7_init_108 : decode cX7_init 108 = .ok (.newarray .int, 2) := by decide +kernel
theorem dX7_init_110 : decode cX7_init 110 = .ok (.putfield 50, 3) := by decide +kernel
theorem dX7_init_113 : decode cX7_init 113 = .ok (.aload_n 0, 1) := by decide +kernel
theorem dX7_init_114 : decode cX7_init 114 = .ok (.bipush 120, 2) := by decide +kernel
theorem dX7_init_116 : decode cX7_init 116 = .ok (.newarray .int, 2) := by decide +kernel
theorem dX7_init_118 : decode cX7_init 118 = .ok (.putfield 53, 3) := by decide +kernel
theorem dX7_init_121 : decode cX7_init 121 = .ok (.aload_n 0, 1) := by decide +kernel
theorem dX7_init_122 : decode cX7_init 122 = .ok (.bipush 10, 2) := by decide +kernel
theorem dX7_init_124 : decode cX7_init 124 = .ok (.newarray .int, 2) := by decide +kernel
theorem dX7_init_126 : decode cX7_init 126 = .ok (.putfield 56, 3) := by decide +kernel
theorem dX7_init_129 : decode cX7_init 129 = .ok (.aload_n 0, 1) := by decide +kernel
theorem dX7_init_130 : decode cX7_init 130 = .ok (.bipush 10, 2) := by decide +kernel
theorem dX7_init_132 : decode cX7_init 132 = .ok (.newarray .int, 2) := by decide +kernel
theorem dX7_init_134 : decode cX7_init 134 = .ok (.putfield 59, 3) := by decide +kernel
theorem dX7_init_137 : decode cX7_init 137 = .ok (.aload_n 0, 1) := by decide +kernel
theorem dX7_init_138 : decode cX7_init 138 = .ok (.bipush 120, 2) := by decide +kernel
theorem dX7_init_140 : decode cX7_init 140 = .ok (.newarray .boolean, 2) := by decide +kernel
theorem dX7_init_142 : decode cX7_init 142 = .ok (.putfield 62, 3) := by decide +kernel
theorem dX7_init_145 : decode cX7_init 145 = .ok (.aload_n 0, 1) := by decide +kernel
theorem dX7_init_146 : decode cX7_init 146 = .ok (.bipush 6, 2) := by decide +kernel
theorem dX7_init_148 : decode cX7_init 148 = .ok (.newarray .int, 2) := by decide +kernel
theorem dX7_init_150 : decode cX7_init 150 = .ok (.putfield 66, 3) := by decide +kernel
theorem dX7_init_153 : decode cX7_init 153 = .ok (.aload_n 0, 1) := by decide +kernel
theorem dX7_init_154 : decode cX7_init 154 = .ok (.sipush 384, 3) := by decide +kernel
theorem dX7_init_157 : decode cX7_init 157 = .ok (.newarray .long, 2) := by decide +kernel
theorem dX7_init_159 : decode cX7_init 159 = .ok (.putfield 69, 3) := by decide +kernel
theorem dX7_init_162 : decode cX7_init 162 = .ok (.aload_n 0, 1) := by decide +kernel
theorem dX7_init_163 : decode cX7_init 163 = .ok (.bipush 40, 2) := by decide +kernel
theorem dX7_init_165 : decode cX7_init 165 = .ok (.newarray .int, 2) := by decide +kernel
theorem dX7_init_167 : decode cX7_init 167 = .ok (.putfield 72, 3) := by decide +kernel
theorem dX7_init_170 : decode cX7_init 170 = .ok (.aload_n 0, 1) := by decide +kernel
theorem dX7_init_171 : decode cX7_init 171 = .ok (.lload_n 1, 1) := by decide +kernel
theorem dX7_init_172 : decode cX7_init 172 = .ok (.putfield 75, 3) := by decide +kernel
theorem dX7_init_175 : decode cX7_init 175 = .ok (.aload_n 0, 1) := by decide +kernel
theorem dX7_init_176 : decode cX7_init 176 = .ok (.iload_n 3, 1) := by decide +kernel
theorem dX7_init_177 : decode cX7_init 177 = .ok (.iconst 1, 1) := by decide +kernel
theorem dX7_init_178 : decode cX7_init 178 = .ok (.if_icmp .ge 7, 3) := by decide +kernel
theorem dX7_init_181 : decode cX7_init 181 = .ok (.iconst 1, 1) := by decide +kernel
theorem dX7_init_182 : decode cX7_init 182 = .ok (.goto 15, 3) := by decide +kernel
theorem dX7_init_185 : decode cX7_init 185 = .ok (.iload_n 3, 1) := by decide +kernel
theorem dX7_init_186 : decode cX7_init 186 = .ok (.bipush 120, 2) := by decide +kernel
theorem dX7_init_188 : decode cX7_init 188 = .ok (.if_icmp .le 8, 3) := by decide +kernel
theorem dX7_init_191 : decode cX7_init 191 = .ok (.bipush 120, 2) := by decide +kernel
theorem dX7_init_193 : decode cX7_init 193 = .ok (.goto 4, 3) := by decide +kernel
theorem dX7_init_196 : decode cX7_init 196 = .ok (.iload_n 3, 1) := by decide +kernel
theorem dX7_init_197 : decode cX7_init 197 = .ok (.putfield 79, 3) := by decide +kernel
theorem dX7_init_200 : decode cX7_init 200 = .ok (.iconst 0, 1) := by decide +kernel
theorem dX7_init_201 : decode cX7_init 201 = .ok (.istore 4, 2) := by decide +kernel
theorem dX7_init_203 : decode cX7_init 203 = .ok (.iload 4, 2) := by decide +kernel
theorem dX7_init_205 : decode cX7_init 205 = .ok (.bipush 30, 2) := by decide +kernel
theorem dX7_init_207 : decode cX7_init 207 = .ok (.if_icmp .ge 17, 3) := by decide +kernel
theorem dX7_init_210 : decode cX7_init 210 = .ok (.aload_n 0, 1) := by decide +kernel
theorem dX7_init_211 : decode cX7_init 211 = .ok (.getfield 47, 3) := by decide +kernel
theorem dX7_init_214 : decode cX7_init 214 = .ok (.iload 4, 2) := by decide +kernel
theorem dX7_init_216 : decode cX7_init 216 = .ok (.iconst (-1), 1) := by decide +kernel
theorem dX7_init_217 : decode cX7_init 217 = .ok (.iastore, 1) := by decide +kernel
theorem dX7_init_218 : decode cX7_init 218 = .ok (.iinc 4 1, 3) := by decide +kernel
theorem dX7_init_221 : decode cX7_init 221 = .ok (.goto (-18), 3) := by decide +kernel
theorem dX7_init_224 : decode cX7_init 224 = .ok (.return_, 1) := by decide +kernel
abbrev cX7_thrown : ByteArray := prog_9_method_2_code
def yX7_thrown : MethodName := ⟨RX7, "thrown", "()I"⟩
theorem dX7_thrown_0 : decode cX7_thrown 0 = .ok (.aload_n 0, 1) := by decide +kernel
theorem dX7_thrown_1 : decode cX7_thrown 1 = .ok (.getfield 83, 3) := by decide +kernel
theorem dX7_thrown_4 : decode cX7_thrown 4 = .ok (.ireturn, 1) := by decide +kernel
abbrev cX7_isKind : ByteArray := prog_9_method_3_code
def yX7_isKind : MethodName := ⟨RX7, "isKind", "(I)Z"⟩
theorem dX7_isKind_0 : decode cX7_isKind 0 = .ok (.iload_n 1, 1) := by decide +kernel
theorem dX7_isKind_1 : decode cX7_isKind 1 = .ok (.ifCond .lt 15, 3) := by decide +kernel
theorem dX7_isKind_4 : decode cX7_isKind 4 = .ok (.iload_n 1, 1) := by decide +kernel
theorem dX7_isKind_5 : decode cX7_isKind 5 = .ok (.aload_n 0, 1) := by decide +kernel
theorem dX7_isKind_6 : decode cX7_isKind 6 = .ok (.getfield 86, 3) := by decide +kernel
theorem dX7_isKind_9 : decode cX7_isKind 9 = .ok (.if_icmp .ge 7, 3) := by decide +kernel
theorem dX7_isKind_12 : decode cX7_isKind 12 = .ok (.iconst 1, 1) := by decide +kernel
theorem dX7_isKind_13 : decode cX7_isKind 13 = .ok (.goto 4, 3) := by decide +kernel
theorem dX7_isKind_16 : decode cX7_isKind 16 = .ok (.iconst 0, 1) := by decide +kernel
theorem dX7_isKind_17 : decode cX7_isKind 17 = .ok (.ireturn, 1) := by decide +kernel
abbrev cX7_isPart : ByteArray := prog_9_method_4_code
def yX7_isPart : MethodName := ⟨RX7, "isPart", "(I)Z"⟩
theorem dX7_isPart_0 : decode cX7_isPart 0 = .ok (.iload_n 1, 1) := by decide +kernel
theorem dX7_isPart_1 : decode cX7_isPart 1 = .ok (.ifCond .lt 15, 3) := by decide +kernel
theorem dX7_isPart_4 : decode cX7_isPart 4 = .ok (.iload_n 1, 1) := by decide +kernel
theorem dX7_isPart_5 : decode cX7_isPart 5 = .ok (.aload_n 0, 1) := by decide +kernel
theorem dX7_isPart_6 : decode cX7_isPart 6 = .ok (.getfield 89, 3) := by decide +kernel
theorem dX7_isPart_9 : decode cX7_isPart 9 = .ok (.if_icmp .ge 7, 3) := by decide +kernel
theorem dX7_isPart_12 : decode cX7_isPart 12 = .ok (.iconst 1, 1) := by decide +kernel
theorem dX7_isPart_13 : decode cX7_isPart 13 = .ok (.goto 4, 3) := by decide +kernel
theorem dX7_isPart_16 : decode cX7_isPart 16 = .ok (.iconst 0, 1) := by decide +kernel
theorem dX7_isPart_17 : decode cX7_isPart 17 = .ok (.ireturn, 1) := by decide +kernel
abbrev cX7_isMachine : ByteArray := prog_9_method_5_code
def yX7_isMachine : MethodName := ⟨RX7, "isMachine", "(I)Z"⟩
theorem dX7_isMachine_0 : decode cX7_isMachine 0 = .ok (.iload_n 1, 1) := by decide +kernel
theorem dX7_isMachine_1 : decode cX7_isMachine 1 = .ok (.ifCond .lt 15, 3) := by decide +kernel
theorem dX7_isMachine_4 : decode cX7_isMachine 4 = .ok (.iload_n 1, 1) := by decide +kernel
theorem dX7_isMachine_5 : decode cX7_isMachine 5 = .ok (.aload_n 0, 1) := by decide +kernel
theorem dX7_isMachine_6 : decode cX7_isMachine 6 = .ok (.getfield 92, 3) := by decide +kernel
theorem dX7_isMachine_9 : decode cX7_isMachine 9 = .ok (.if_icmp .ge 7, 3) := by decide +kernel
theorem dX7_isMachine_12 : decode cX7_isMachine 12 = .ok (.iconst 1, 1) := by decide +kernel
theorem dX7_isMachine_13 : decode cX7_isMachine 13 = .ok (.goto 4, 3) := by decide +kernel
theorem dX7_isMachine_16 : decode cX7_isMachine 16 = .ok (.iconst 0, 1) := by decide +kernel
theorem dX7_isMachine_17 : decode cX7_isMachine 17 = .ok (.ireturn, 1) := by decide +kernel
abbrev cX7_kind : ByteArray := prog_9_method_6_code
def yX7_kind : MethodName := ⟨RX7, "kind", "(II)I"⟩
theorem dX7_kind_0 : decode cX7_kind 0 = .ok (.aload_n 0, 1) := by decide +kernel
theorem dX7_kind_1 : decode cX7_kind 1 = .ok (.iload_n 1, 1) := by decide +kernel
theorem dX7_kind_2 : decode cX7_kind 2 = .ok (.iconst 1, 1) := by decide +kernel
theorem dX7_kind_3 : decode cX7_kind 3 = .ok (.if_icmp .lt 22, 3) := by decide +kernel
theorem dX7_kind_6 : decode cX7_kind 6 = .ok (.iload_n 1, 1) := by decide +kernel
theorem dX7_kind_7 : decode cX7_kind 7 = .ok (.iconst 4, 1) := by decide +kernel
theorem dX7_kind_8 : decode cX7_kind 8 = .ok (.if_icmp .gt 17, 3) := by decide +kernel
theorem dX7_kind_11 : decode cX7_kind 11 = .ok (.iload_n 2, 1) := by decide +kernel
theorem dX7_kind_12 : decode cX7_kind 12 = .ok (.ifCond .lt 13, 3) := by decide +kernel
theorem dX7_kind_15 : decode cX7_kind 15 = .ok (.iload_n 2, 1) := by decide +kernel
theorem dX7_kind_16 : decode cX7_kind 16 = .ok (.bipush 8, 2) := by decide +kernel
theorem dX7_kind_18 : decode cX7_kind 18 = .ok (.if_icmp .ge 7, 3) := by decide +kernel
theorem dX7_kind_21 : decode cX7_kind 21 = .ok (.iconst 0, 1) := by decide +kernel
theorem dX7_kind_22 : decode cX7_kind 22 = .ok (.goto 4, 3) := by decide +kernel
theorem dX7_kind_25 : decode cX7_kind 25 = .ok (.iconst 1, 1) := by decide +kernel
theorem dX7_kind_26 : decode cX7_kind 26 = .ok (.putfield 83, 3) := by decide +kernel
theorem dX7_kind_29 : decode cX7_kind 29 = .ok (.aload_n 0, 1) := by decide +kernel
theorem dX7_kind_30 : decode cX7_kind 30 = .ok (.getfield 83, 3) := by decide +kernel
theorem dX7_kind_33 : decode cX7_kind 33 = .ok (.ifCond .eq 5, 3) := by decide +kernel
theorem dX7_kind_36 : decode cX7_kind 36 = .ok (.iconst 0, 1) := by decide +kernel
theorem dX7_kind_37 : decode cX7_kind 37 = .ok (.ireturn, 1) := by decide +kernel
theorem dX7_kind_38 : decode cX7_kind 38 = .ok (.aload_n 0, 1) := by decide +kernel
theorem dX7_kind_39 : decode cX7_kind 39 = .ok (.getfield 86, 3) := by decide +kernel
theorem dX7_kind_42 : decode cX7_kind 42 = .ok (.bipush 10, 2) := by decide +kernel
theorem dX7_kind_44 : decode cX7_kind 44 = .ok (.if_icmp .ne 5, 3) := by decide +kernel
theorem dX7_kind_47 : decode cX7_kind 47 = .ok (.iconst (-1), 1) := by decide +kernel
theorem dX7_kind_48 : decode cX7_kind 48 = .ok (.ireturn, 1) := by decide +kernel
theorem dX7_kind_49 : decode cX7_kind 49 = .ok (.aload_n 0, 1) := by decide +kernel
theorem dX7_kind_50 : decode cX7_kind 50 = .ok (.getfield 7, 3) := by decide +kernel
theorem dX7_kind_53 : decode cX7_kind 53 = .ok (.aload_n 0, 1) := by decide +kernel
theorem dX7_kind_54 : decode cX7_kind 54 = .ok (.getfield 86, 3) := by decide +kernel
theorem dX7_kind_57 : decode cX7_kind 57 = .ok (.iload_n 1, 1) := by decide +kernel
theorem dX7_kind_58 : decode cX7_kind 58 = .ok (.iastore, 1) := by decide +kernel
theorem dX7_kind_59 : decode cX7_kind 59 = .ok (.aload_n 0, 1) := by decide +kernel
theorem dX7_kind_60 : decode cX7_kind 60 = .ok (.getfield 13, 3) := by decide +kernel
theorem dX7_kind_63 : decode cX7_kind 63 = .ok (.aload_n 0, 1) := by decide +kernel
theorem dX7_kind_64 : decode cX7_kind 64 = .ok (.getfield 86, 3) := by decide +kernel
theorem dX7_kind_67 : decode cX7_kind 67 = .ok (.iload_n 2, 1) := by decide +kernel
theorem dX7_kind_68 : decode cX7_kind 68 = .ok (.iastore, 1) := by decide +kernel
theorem dX7_kind_69 : decode cX7_kind 69 = .ok (.aload_n 0, 1) := by decide +kernel
theorem dX7_kind_70 : decode cX7_kind 70 = .ok (.getfield 16, 3) := by decide +kernel
theorem dX7_kind_73 : decode cX7_kind 73 = .ok (.aload_n 0, 1) := by decide +kernel
theorem dX7_kind_74 : decode cX7_kind 74 = .ok (.getfield 86, 3) := by decide +kernel
theorem dX7_kind_77 : decode cX7_kind 77 = .ok (.iconst (-1), 1) := by decide +kernel
theorem dX7_kind_78 : decode cX7_kind 78 = .ok (.iastore, 1) := by decide +kernel
theorem dX7_kind_79 : decode cX7_kind 79 = .ok (.aload_n 0, 1) := by decide +kernel
theorem dX7_kind_80 : decode cX7_kind 80 = .ok (.getfield 26, 3) := by decide +kernel
theorem dX7_kind_83 : decode cX7_kind 83 = .ok (.aload_n 0, 1) := by decide +kernel
theorem dX7_kind_84 : decode cX7_kind 84 = .ok (.getfield 86, 3) := by decide +kernel
theorem dX7_kind_87 : decode cX7_kind 87 = .ok (.lconst 1, 1) := by decide +kernel
theorem dX7_kind_88 : decode cX7_kind 88 = .ok (.lastore, 1) := by decide +kernel
theorem dX7_kind_89 : decode cX7_kind 89 = .ok (.aload_n 0, 1) := by decide +kernel
theorem dX7_kind_90 : decode cX7_kind 90 = .ok (.dup, 1) := by decide +kernel
theorem dX7_kind_91 : decode cX7_kind 91 = .ok (.getfield 86, 3) := by decide +kernel
theorem dX7_kind_94 : decode cX7_kind 94 = .ok (.iconst 1, 1) := by decide +kernel
theorem dX7_kind_95 : decode cX7_kind 95 = .ok (.iadd, 1) := by decide +kernel
theorem dX7_kind_96 : decode cX7_kind 96 = .ok (.putfield 86, 3) := by decide +kernel
theorem dX7_kind_99 : decode cX7_kind 99 = .ok (.aload_n 0, 1) := by decide +kernel
theorem dX7_kind_100 : decode cX7_kind 100 = .ok (.getfield 86, 3) := by decide +kernel
theorem dX7_kind_103 : decode cX7_kind 103 = .ok (.iconst 1, 1) := by decide +kernel
theorem dX7_kind_104 : decode cX7_kind 104 = .ok (.isub, 1) := by decide +kernel
theorem dX7_kind_105 : decode cX7_kind 105 = .ok (.ireturn, 1) := by decide +kernel
abbrev cX7_isSpot : ByteArray := prog_9_method_7_code
def yX7_isSpot : MethodName := ⟨RX7, "isSpot", "(J)Z"⟩
theorem dX7_isSpot_0 : decode cX7_isSpot 0 = .ok (.lload_n 0, 1) := by decide +kernel
theorem dX7_isSpot_1 : decode cX7_isSpot 1 = .ok (.lconst 0, 1) := by decide +kernel
theorem dX7_isSpot_2 : decode cX7_isSpot 2 = .ok (.lcmp, 1) := by decide +kernel
theorem dX7_isSpot_3 : decode cX7_isSpot 3 = .ok (.ifCond .lt 15, 3) := by decide +kernel
theorem dX7_isSpot_6 : decode cX7_isSpot 6 = .ok (.lload_n 0, 1) := by decide +kernel
theorem dX7_isSpot_7 : decode cX7_isSpot 7 = .ok (.ldc2_w 95, 3) := by decide +kernel
theorem dX7_isSpot_10 : decode cX7_isSpot 10 = .ok (.lcmp, 1) := by decide +kernel
theorem dX7_isSpot_11 : decode cX7_isSpot 11 = .ok (.ifCond .gt 7, 3) := by decide +kernel
theorem dX7_isSpot_14 : decode cX7_isSpot 14 = .ok (.iconst 1, 1) := by decide +kernel
theorem dX7_isSpot_15 : decode cX7_isSpot 15 = .ok (.goto 4, 3) := by decide +kernel
theorem dX7_isSpot_18 : decode cX7_isSpot 18 = .ok (.iconst 0, 1) := by decide +kernel
theorem dX7_isSpot_19 : decode cX7_isSpot 19 = .ok (.ireturn, 1) := by decide +kernel
abbrev cX7_part : ByteArray := prog_9_method_8_code
def yX7_part : MethodName := ⟨RX7, "part", "(IJJJ)I"⟩
theorem dX7_part_0 : decode cX7_part 0 = .ok (.aload_n 0, 1) := by decide +kernel
theorem dX7_part_1 : decode cX7_part 1 = .ok (.aload_n 0, 1) := by decide +kernel
theorem dX7_part_2 : decode cX7_part 2 = .ok (.iload_n 1, 1) := by decide +kernel
theorem dX7_part_3 : decode cX7_part 3 = .ok (.invokevirtual 97, 3) := by decide +kernel
theorem dX7_part_6 : decode cX7_part 6 = .ok (.ifCond .ne 7, 3) := by decide +kernel
theorem dX7_part_9 : decode cX7_part 9 = .ok (.iconst 1, 1) := by decide +kernel
theorem dX7_part_10 : decode cX7_part 10 = .ok (.goto 39, 3) := by decide +kernel
theorem dX7_part_13 : decode cX7_part 13 = .ok (.lload_n 2, 1) := by decide +kernel
theorem dX7_part_14 : decode cX7_part 14 = .ok (.invokestatic 101, 3) := by decide +kernel
theorem dX7_part_17 : decode cX7_part 17 = .ok (.ifCond .eq 31, 3) := by decide +kernel
theorem dX7_part_20 : decode cX7_part 20 = .ok (.lload 4, 2) := by decide +kernel
theorem dX7_part_22 : decode cX7_part 22 = .ok (.invokestatic 101, 3) := by decide +kernel
theorem dX7_part_25 : decode cX7_part 25 = .ok (.ifCond .eq 23, 3) := by decide +kernel
theorem dX7_part_28 : decode cX7_part 28 = .ok (.lload 6, 2) := by decide +kernel
theorem dX7_part_30 : decode cX7_part 30 = .ok (.lconst 0, 1) := by decide +kernel
theorem dX7_part_31 : decode cX7_part 31 = .ok (.lcmp, 1) := by decide +kernel
theorem dX7_part_32 : decode cX7_part 32 = .ok (.ifCond .lt 16, 3) := by decide +kernel
theorem dX7_part_35 : decode cX7_part 35 = .ok (.lload 6, 2) := by decide +kernel
theorem dX7_part_37 : decode cX7_part 37 = .ok (.ldc2_w 105, 3) := by decide +kernel
theorem dX7_part_40 : decode cX7_part 40 = .ok (.lcmp, 1) := by decide +kernel
theorem dX7_part_41 : decode cX7_part 41 = .ok (.ifCond .gt 7, 3) := by decide +kernel
theorem dX7_part_44 : decode cX7_part 44 = .ok (.iconst 0, 1) := by decide +kernel
theorem dX7_part_45 : decode cX7_part 45 = .ok (.goto 4, 3) := by decide +kernel
theorem dX7_part_48 : decode cX7_part 48 = .ok (.iconst 2, 1) := by decide +kernel
theorem dX7_part_49 : decode cX7_part 49 = .ok (.putfield 83, 3) := by decide +kernel
theorem dX7_part_52 : decode cX7_part 52 = .ok (.aload_n 0, 1) := by decide +kernel
theorem dX7_part_53 : decode cX7_part 53 = .ok (.getfield 83, 3) := by decide +kernel
theorem dX7_part_56 : decode cX7_part 56 = .ok (.ifCond .eq 5, 3) := by decide +kernel
theorem dX7_part_59 : decode cX7_part 59 = .ok (.iconst 0, 1) := by decide +kernel
theorem dX7_part_60 : decode cX7_part 60 = .ok (.ireturn, 1) := by decide +kernel
theorem dX7_part_61 : decode cX7_part 61 = .ok (.aload_n 0, 1) := by decide +kernel
theorem dX7_part_62 : decode cX7_part 62 = .ok (.getfield 89, 3) := by decide +kernel
theorem dX7_part_65 : decode cX7_part 65 = .ok (.bipush 40, 2) := by decide +kernel
theorem dX7_part_67 : decode cX7_part 67 = .ok (.if_icmp .ne 5, 3) := by decide +kernel
theorem dX7_part_70 : decode cX7_part 70 = .ok (.iconst (-1), 1) := by decide +kernel
theorem dX7_part_71 : decode cX7_part 71 = .ok (.ireturn, 1) := by decide +kernel
theorem dX7_part_72 : decode cX7_part 72 = .ok (.aload_n 0, 1) := by decide +kernel
theorem dX7_part_73 : decode cX7_part 73 = .ok (.getfield 29, 3) := by decide +kernel
theorem dX7_part_76 : decode cX7_part 76 = .ok (.aload_n 0, 1) := by decide +kernel
theorem dX7_part_77 : decode cX7_part 77 = .ok (.getfield 89, 3) := by decide +kernel
theorem dX7_part_80 : decode cX7_part 80 = .ok (.iload_n 1, 1) := by decide +kernel
theorem dX7_part_81 : decode cX7_part 81 = .ok (.iastore, 1) := by decide +kernel
theorem dX7_part_82 : decode cX7_part 82 = .ok (.aload_n 0, 1) := by decide +kernel
theorem dX7_part_83 : decode cX7_part 83 = .ok (.getfield 32, 3) := by decide +kernel
theorem dX7_part_86 : decode cX7_part 86 = .ok (.aload_n 0, 1) := by decide +kernel
theorem dX7_part_87 : decode cX7_part 87 = .ok (.getfield 89, 3) := by decide +kernel
theorem dX7_part_90 : decode cX7_part 90 = .ok (.lload_n 2, 1) := by decide +kernel
theorem dX7_part_91 : decode cX7_part 91 = .ok (.lastore, 1) := by decide +kernel
theorem dX7_part_92 : decode cX7_part 92 = .ok (.aload_n 0, 1) := by decide +kernel
theorem dX7_part_93 : decode cX7_part 93 = .ok (.getfield 35, 3) := by decide +kernel
theorem dX7_part_96 : decode cX7_part 96 = .ok (.aload_n 0, 1) := by decide +kernel
theorem dX7_part_97 : decode cX7_part 97 = .ok (.getfield 89, 3) := by decide +kernel
theorem dX7_part_100 : decode cX7_part 100 = .ok (.lload 4, 2) := by decide +kernel
theorem dX7_part_102 : decode cX7_part 102 = .ok (.lastore, 1) := by decide +kernel
theorem dX7_part_103 : decode cX7_part 103 = .ok (.aload_n 0, 1) := by decide +kernel
theorem dX7_part_104 : decode cX7_part 104 = .ok (.getfield 38, 3) := by decide +kernel
theorem dX7_part_107 : decode cX7_part 107 = .ok (.aload_n 0, 1) := by decide +kernel
theorem dX7_part_108 : decode cX7_part 108 = .ok (.getfield 89, 3) := by decide +kernel
theorem dX7_part_111 : decode cX7_part 111 = .ok (.lload 6, 2) := by decide +kernel
theorem dX7_part_113 : decode cX7_part 113 = .ok (.lastore, 1) := by decide +kernel
theorem dX7_part_114 : decode cX7_part 114 = .ok (.aload_n 0, 1) := by decide +kernel
theorem dX7_part_115 : decode cX7_part 115 = .ok (.dup, 1) := by decide +kernel
theorem dX7_part_116 : decode cX7_part 116 = .ok (.getfield 89, 3) := by decide +kernel
theorem dX7_part_119 : decode cX7_part 119 = .ok (.iconst 1, 1) := by decide +kernel
theorem dX7_part_120 : decode cX7_part 120 = .ok (.iadd, 1) := by decide +kernel
theorem dX7_part_121 : decode cX7_part 121 = .ok (.putfield 89, 3) := by decide +kernel
theorem dX7_part_124 : decode cX7_part 124 = .ok (.aload_n 0, 1) := by decide +kernel
theorem dX7_part_125 : decode cX7_part 125 = .ok (.getfield 89, 3) := by decide +kernel
theorem dX7_part_128 : decode cX7_part 128 = .ok (.iconst 1, 1) := by decide +kernel
theorem dX7_part_129 : decode cX7_part 129 = .ok (.isub, 1) := by decide +kernel
theorem dX7_part_130 : decode cX7_part 130 = .ok (.ireturn, 1) := by decide +kernel
abbrev cX7_machine : ByteArray := prog_9_method_9_code
def yX7_machine : MethodName := ⟨RX7, "machine", "(II)I"⟩
theorem dX7_machine_0 : decode cX7_machine 0 = .ok (.aload_n 0, 1) := by decide +kernel
theorem dX7_machine_1 : decode cX7_machine 1 = .ok (.iload_n 1, 1) := by decide +kernel
theorem dX7_machine_2 : decode cX7_machine 2 = .ok (.ifCond .lt 25, 3) := by decide +kernel
theorem dX7_machine_5 : decode cX7_machine 5 = .ok (.iload_n 1, 1) := by decide +kernel
theorem dX7_machine_6 : decode cX7_machine 6 = .ok (.sipush 256, 3) := by decide +kernel
theorem dX7_machine_9 : decode cX7_machine 9 = .ok (.if_icmp .ge 18, 3) := by decide +kernel
theorem dX7_machine_12 : decode cX7_machine 12 = .ok (.iload_n 2, 1) := by decide +kernel
theorem dX7_machine_13 : decode cX7_machine 13 = .ok (.iconst 1, 1) := by decide +kernel
theorem dX7_machine_14 : decode cX7_machine 14 = .ok (.if_icmp .lt 13, 3) := by decide +kernel
theorem dX7_machine_17 : decode cX7_machine 17 = .ok (.iload_n 2, 1) := by decide +kernel
theorem dX7_machine_18 : decode cX7_machine 18 = .ok (.bipush 6, 2) := by decide +kernel
theorem dX7_machine_20 : decode cX7_machine 20 = .ok (.if_icmp .gt 7, 3) := by decide +kernel
theorem dX7_machine_23 : decode cX7_machine 23 = .ok (.iconst 0, 1) := by decide +kernel
theorem dX7_machine_24 : decode cX7_machine 24 = .ok (.goto 4, 3) := by decide +kernel
theorem dX7_machine_27 : decode cX7_machine 27 = .ok (.iconst 1, 1) := by decide +kernel
theorem dX7_machine_28 : decode cX7_machine 28 = .ok (.putfield 83, 3) := by decide +kernel
theorem dX7_machine_31 : decode cX7_machine 31 = .ok (.aload_n 0, 1) := by decide +kernel
theorem dX7_machine_32 : decode cX7_machine 32 = .ok (.getfield 83, 3) := by decide +kernel
theorem dX7_machine_35 : decode cX7_machine 35 = .ok (.ifCond .eq 5, 3) := by decide +kernel
theorem dX7_machine_38 : decode cX7_machine 38 = .ok (.iconst 0, 1) := by decide +kernel
theorem dX7_machine_39 : decode cX7_machine 39 = .ok (.ireturn, 1) := by decide +kernel
theorem dX7_machine_40 : decode cX7_machine 40 = .ok (.aload_n 0, 1) := by decide +kernel
theorem dX7_machine_41 : decode cX7_machine 41 = .ok (.getfield 92, 3) := by decide +kernel
theorem dX7_machine_44 : decode cX7_machine 44 = .ok (.iconst 3, 1) := by decide +kernel
theorem dX7_machine_45 : decode cX7_machine 45 = .ok (.if_icmp .ne 5, 3) := by decide +kernel
theorem dX7_machine_48 : decode cX7_machine 48 = .ok (.iconst (-1), 1) := by decide +kernel
theorem dX7_machine_49 : decode cX7_machine 49 = .ok (.ireturn, 1) := by decide +kernel
theorem dX7_machine_50 : decode cX7_machine 50 = .ok (.aload_n 0, 1) := by decide +kernel
theorem dX7_machine_51 : decode cX7_machine 51 = .ok (.getfield 41, 3) := by decide +kernel
theorem dX7_machine_54 : decode cX7_machine 54 = .ok (.aload_n 0, 1) := by decide +kernel
theorem dX7_machine_55 : decode cX7_machine 55 = .ok (.getfield 92, 3) := by decide +kernel
theorem dX7_machine_58 : decode cX7_machine 58 = .ok (.iload_n 1, 1) := by decide +kernel
theorem dX7_machine_59 : decode cX7_machine 59 = .ok (.iastore, 1) := by decide +kernel
theorem dX7_machine_60 : decode cX7_machine 60 = .ok (.aload_n 0, 1) := by decide +kernel
theorem dX7_machine_61 : decode cX7_machine 61 = .ok (.getfield 44, 3) := by decide +kernel
theorem dX7_machine_64 : decode cX7_machine 64 = .ok (.aload_n 0, 1) := by decide +kernel
theorem dX7_machine_65 : decode cX7_machine 65 = .ok (.getfield 92, 3) := by decide +kernel
theorem dX7_machine_68 : decode cX7_machine 68 = .ok (.iload_n 2, 1) := by decide +kernel
theorem dX7_machine_69 : decode cX7_machine 69 = .ok (.iastore, 1) := by decide +kernel
theorem dX7_machine_70 : decode cX7_machine 70 = .ok (.aload_n 0, 1) := by decide +kernel
theorem dX7_machine_71 : decode cX7_machine 71 = .ok (.dup, 1) := by decide +kernel
theorem dX7_machine_72 : decode cX7_machine 72 = .ok (.getfield 92, 3) := by decide +kernel
theorem dX7_machine_75 : decode cX7_machine 75 = .ok (.iconst 1, 1) := by decide +kernel
theorem dX7_machine_76 : decode cX7_machine 76 = .ok (.iadd, 1) := by decide +kernel
theorem dX7_machine_77 : decode cX7_machine 77 = .ok (.putfield 92, 3) := by decide +kernel
theorem dX7_machine_80 : decode cX7_machine 80 = .ok (.aload_n 0, 1) := by decide +kernel
theorem dX7_machine_81 : decode cX7_machine 81 = .ok (.getfield 92, 3) := by decide +kernel
theorem dX7_machine_84 : decode cX7_machine 84 = .ok (.iconst 1, 1) := by decide +kernel
theorem dX7_machine_85 : decode cX7_machine 85 = .ok (.isub, 1) := by decide +kernel
theorem dX7_machine_86 : decode cX7_machine 86 = .ok (.ireturn, 1) := by decide +kernel
abbrev cX7_fixed : ByteArray := prog_9_method_10_code
def yX7_fixed : MethodName := ⟨RX7, "fixed", "(II)Z"⟩
theorem dX7_fixed_0 : decode cX7_fixed 0 = .ok (.aload_n 0, 1) := by decide +kernel
theorem dX7_fixed_1 : decode cX7_fixed 1 = .ok (.aload_n 0, 1) := by decide +kernel
theorem dX7_fixed_2 : decode cX7_fixed 2 = .ok (.iload_n 1, 1) := by decide +kernel
theorem dX7_fixed_3 : decode cX7_fixed 3 = .ok (.invokevirtual 97, 3) := by decide +kernel
theorem dX7_fixed_6 : decode cX7_fixed 6 = .ok (.ifCond .eq 19, 3) := by decide +kernel
theorem dX7_fixed_9 : decode cX7_fixed 9 = .ok (.iload_n 2, 1) := by decide +kernel
theorem dX7_fixed_10 : decode cX7_fixed 10 = .ok (.ifCond .lt 15, 3) := by decide +kernel
theorem dX7_fixed_13 : decode cX7_fixed 13 = .ok (.iload_n 2, 1) := by decide +kernel
theorem dX7_fixed_14 : decode cX7_fixed 14 = .ok (.aload_n 0, 1) := by decide +kernel
theorem dX7_fixed_15 : decode cX7_fixed 15 = .ok (.getfield 79, 3) := by decide +kernel
theorem dX7_fixed_18 : decode cX7_fixed 18 = .ok (.if_icmp .ge 7, 3) := by decide +kernel
theorem dX7_fixed_21 : decode cX7_fixed 21 = .ok (.iconst 0, 1) := by decide +kernel
theorem dX7_fixed_22 : decode cX7_fixed 22 = .ok (.goto 4, 3) := by decide +kernel
theorem dX7_fixed_25 : decode cX7_fixed 25 = .ok (.iconst 1, 1) := by decide +kernel
theorem dX7_fixed_26 : decode cX7_fixed 26 = .ok (.putfield 83, 3) := by decide +kernel
theorem dX7_fixed_29 : decode cX7_fixed 29 = .ok (.aload_n 0, 1) := by decide +kernel
theorem dX7_fixed_30 : decode cX7_fixed 30 = .ok (.getfield 83, 3) := by decide +kernel
theorem dX7_fixed_33 : decode cX7_fixed 33 = .ok (.ifCond .ne 28, 3) := by decide +kernel
theorem dX7_fixed_36 : decode cX7_fixed 36 = .ok (.aload_n 0, 1) := by decide +kernel
theorem dX7_fixed_37 : decode cX7_fixed 37 = .ok (.getfield 16, 3) := by decide +kernel
theorem dX7_fixed_40 : decode cX7_fixed 40 = .ok (.iload_n 1, 1) := by decide +kernel
theorem dX7_fixed_41 : decode cX7_fixed 41 = .ok (.iaload, 1) := by decide +kernel
theorem dX7_fixed_42 : decode cX7_fixed 42 = .ok (.iconst (-1), 1) := by decide +kernel
theorem dX7_fixed_43 : decode cX7_fixed 43 = .ok (.if_icmp .ne 18, 3) := by decide +kernel
theorem dX7_fixed_46 : decode cX7_fixed 46 = .ok (.iload_n 2, 1) := by decide +kernel
theorem dX7_fixed_47 : decode cX7_fixed 47 = .ok (.aload_n 0, 1) := by decide +kernel
theorem dX7_fixed_48 : decode cX7_fixed 48 = .ok (.getfield 7, 3) := by decide +kernel
theorem dX7_fixed_51 : decode cX7_fixed 51 = .ok (.iload_n 1, 1) := by decide +kernel
theorem dX7_fixed_52 : decode cX7_fixed 52 = .ok (.iaload, 1) := by decide +kernel
theorem dX7_fixed_53 : decode cX7_fixed 53 = .ok (.iadd, 1) := by decide +kernel
theorem dX7_fixed_54 : decode cX7_fixed 54 = .ok (.aload_n 0, 1) := by decide +kernel
theorem dX7_fixed_55 : decode cX7_fixed 55 = .ok (.getfield 79, 3) := by decide +kernel
theorem dX7_fixed_58 : decode cX7_fixed 58 = .ok (.if_icmp .le 5, 3) := by decide +kernel
theorem dX7_fixed_61 : decode cX7_fixed 61 = .ok (.iconst 0, 1) := by decide +kernel
theorem dX7_fixed_62 : decode cX7_fixed 62 = .ok (.ireturn, 1) := by decide +kernel
theorem dX7_fixed_63 : decode cX7_fixed 63 = .ok (.iconst 0, 1) := by decide +kernel
theorem dX7_fixed_64 : decode cX7_fixed 64 = .ok (.istore_n 3, 1) := by decide +kernel
theorem dX7_fixed_65 : decode cX7_fixed 65 = .ok (.iload_n 3, 1) := by decide +kernel
theorem dX7_fixed_66 : decode cX7_fixed 66 = .ok (.aload_n 0, 1) := by decide +kernel
theorem dX7_fixed_67 : decode cX7_fixed 67 = .ok (.getfield 86, 3) := by decide +kernel
theorem dX7_fixed_70 : decode cX7_fixed 70 = .ok (.if_icmp .ge 67, 3) := by decide +kernel
theorem dX7_fixed_73 : decode cX7_fixed 73 = .ok (.aload_n 0, 1) := by decide +kernel
theorem dX7_fixed_74 : decode cX7_fixed 74 = .ok (.getfield 16, 3) := by decide +kernel
theorem dX7_fixed_77 : decode cX7_fixed 77 = .ok (.iload_n 3, 1) := by decide +kernel
theorem dX7_fixed_78 : decode cX7_fixed 78 = .ok (.iaload, 1) := by decide +kernel
theorem dX7_fixed_79 : decode cX7_fixed 79 = .ok (.iconst (-1), 1) := by decide +kernel
theorem dX7_fixed_80 : decode cX7_fixed 80 = .ok (.if_icmp .eq 41, 3) := by decide +kernel
theorem dX7_fixed_83 : decode cX7_fixed 83 = .ok (.aload_n 0, 1) := by decide +kernel
theorem dX7_fixed_84 : decode cX7_fixed 84 = .ok (.getfield 16, 3) := by decide +kernel
theorem dX7_fixed_87 : decode cX7_fixed 87 = .ok (.iload_n 3, 1) := by decide +kernel
theorem dX7_fixed_88 : decode cX7_fixed 88 = .ok (.iaload, 1) := by decide +kernel
theorem dX7_fixed_89 : decode cX7_fixed 89 = .ok (.iload_n 2, 1) := by decide +kernel
theorem dX7_fixed_90 : decode cX7_fixed 90 = .ok (.aload_n 0, 1) := by decide +kernel
theorem dX7_fixed_91 : decode cX7_fixed 91 = .ok (.getfield 7, 3) := by decide +kernel
theorem dX7_fixed_94 : decode cX7_fixed 94 = .ok (.iload_n 1, 1) := by decide +kernel
theorem dX7_fixed_95 : decode cX7_fixed 95 = .ok (.iaload, 1) := by decide +kernel
theorem dX7_fixed_96 : decode cX7_fixed 96 = .ok (.iadd, 1) := by decide +kernel
theorem dX7_fixed_97 : decode cX7_fixed 97 = .ok (.if_icmp .ge 24, 3) := by decide +kernel
theorem dX7_fixed_100 : decode cX7_fixed 100 = .ok (.iload_n 2, 1) := by decide +kernel
theorem dX7_fixed_101 : decode cX7_fixed 101 = .ok (.aload_n 0, 1) := by decide +kernel
theorem dX7_fixed_102 : decode cX7_fixed 102 = .ok (.getfield 16, 3) := by decide +kernel
theorem dX7_fixed_105 : decode cX7_fixed 105 = .ok (.iload_n 3, 1) := by decide +kernel
theorem dX7_fixed_106 : decode cX7_fixed 106 = .ok (.iaload, 1) := by decide +kernel
theorem dX7_fixed_107 : decode cX7_fixed 107 = .ok (.aload_n 0, 1) := by decide +kernel
theorem dX7_fixed_108 : decode cX7_fixed 108 = .ok (.getfield 7, 3) := by decide +kernel
theorem dX7_fixed_111 : decode cX7_fixed 111 = .ok (.iload_n 3, 1) := by decide +kernel
theorem dX7_fixed_112 : decode cX7_fixed 112 = .ok (.iaload, 1) := by decide +kernel
theorem dX7_fixed_113 : decode cX7_fixed 113 = .ok (.iadd, 1) := by decide +kernel
theorem dX7_fixed_114 : decode cX7_fixed 114 = .ok (.if_icmp .ge 7, 3) := by decide +kernel
theorem dX7_fixed_117 : decode cX7_fixed 117 = .ok (.iconst 1, 1) := by decide +kernel
theorem dX7_fixed_118 : decode cX7_fixed 118 = .ok (.goto 4, 3) := by decide +kernel
theorem dX7_fixed_121 : decode cX7_fixed 121 = .ok (.iconst 0, 1) := by decide +kernel
theorem dX7_fixed_122 : decode cX7_fixed 122 = .ok (.istore 4, 2) := by decide +kernel
theorem dX7_fixed_124 : decode cX7_fixed 124 = .ok (.iload 4, 2) := by decide +kernel
theorem dX7_fixed_126 : decode cX7_fixed 126 = .ok (.ifCond .eq 5, 3) := by decide +kernel
theorem dX7_fixed_129 : decode cX7_fixed 129 = .ok (.iconst 0, 1) := by decide +kernel
theorem dX7_fixed_130 : decode cX7_fixed 130 = .ok (.ireturn, 1) := by decide +kernel
theorem dX7_fixed_131 : decode cX7_fixed 131 = .ok (.iinc 3 1, 3) := by decide +kernel
theorem dX7_fixed_134 : decode cX7_fixed 134 = .ok (.goto (-69), 3) := by decide +kernel
theorem dX7_fixed_137 : decode cX7_fixed 137 = .ok (.aload_n 0, 1) := by decide +kernel
theorem dX7_fixed_138 : decode cX7_fixed 138 = .ok (.getfield 16, 3) := by decide +kernel
theorem dX7_fixed_141 : decode cX7_fixed 141 = .ok (.iload_n 1, 1) := by decide +kernel
theorem dX7_fixed_142 : decode cX7_fixed 142 = .ok (.iload_n 2, 1) := by decide +kernel
theorem dX7_fixed_143 : decode cX7_fixed 143 = .ok (.iastore, 1) := by decide +kernel
theorem dX7_fixed_144 : decode cX7_fixed 144 = .ok (.iconst 1, 1) := by decide +kernel
theorem dX7_fixed_145 : decode cX7_fixed 145 = .ok (.ireturn, 1) := by decide +kernel
abbrev cX7_refill : ByteArray := prog_9_method_11_code
def yX7_refill : MethodName := ⟨RX7, "refill", "(II)Z"⟩
theorem dX7_refill_0 : decode cX7_refill 0 = .ok (.aload_n 0, 1) := by decide +kernel
theorem dX7_refill_1 : decode cX7_refill 1 = .ok (.aload_n 0, 1) := by decide +kernel
theorem dX7_refill_2 : decode cX7_refill 2 = .ok (.iload_n 1, 1) := by decide +kernel
theorem dX7_refill_3 : decode cX7_refill 3 = .ok (.invokevirtual 97, 3) := by decide +kernel
theorem dX7_refill_6 : decode cX7_refill 6 = .ok (.ifCond .ne 7, 3) := by decide +kernel
theorem dX7_refill_9 : decode cX7_refill 9 = .ok (.iconst 1, 1) := by decide +kernel
theorem dX7_refill_10 : decode cX7_refill 10 = .ok (.goto 12, 3) := by decide +kernel
theorem dX7_refill_13 : decode cX7_refill 13 = .ok (.iload_n 2, 1) := by decide +kernel
theorem dX7_refill_14 : decode cX7_refill 14 = .ok (.ifCond .ge 7, 3) := by decide +kernel
theorem dX7_refill_17 : decode cX7_refill 17 = .ok (.iconst 2, 1) := by decide +kernel
theorem dX7_refill_18 : decode cX7_refill 18 = .ok (.goto 4, 3) := by decide +kernel
theorem dX7_refill_21 : decode cX7_refill 21 = .ok (.iconst 0, 1) := by decide +kernel
theorem dX7_refill_22 : decode cX7_refill 22 = .ok (.putfield 83, 3) := by decide +kernel
theorem dX7_refill_25 : decode cX7_refill 25 = .ok (.aload_n 0, 1) := by decide +kernel
theorem dX7_refill_26 : decode cX7_refill 26 = .ok (.getfield 83, 3) := by decide +kernel
theorem dX7_refill_29 : decode cX7_refill 29 = .ok (.ifCond .ne 13, 3) := by decide +kernel
theorem dX7_refill_32 : decode cX7_refill 32 = .ok (.aload_n 0, 1) := by decide +kernel
theorem dX7_refill_33 : decode cX7_refill 33 = .ok (.getfield 19, 3) := by decide +kernel
theorem dX7_refill_36 : decode cX7_refill 36 = .ok (.iload_n 1, 1) := by decide +kernel
theorem dX7_refill_37 : decode cX7_refill 37 = .ok (.iaload, 1) := by decide +kernel
theorem dX7_refill_38 : decode cX7_refill 38 = .ok (.iload_n 2, 1) := by decide +kernel
theorem dX7_refill_39 : decode cX7_refill 39 = .ok (.if_icmp .ne 5, 3) := by decide +kernel
theorem dX7_refill_42 : decode cX7_refill 42 = .ok (.iconst 0, 1) := by decide +kernel
theorem dX7_refill_43 : decode cX7_refill 43 = .ok (.ireturn, 1) := by decide +kernel
theorem dX7_refill_44 : decode cX7_refill 44 = .ok (.aload_n 0, 1) := by decide +kernel
theorem dX7_refill_45 : decode cX7_refill 45 = .ok (.getfield 19, 3) := by decide +kernel
theorem dX7_refill_48 : decode cX7_refill 48 = .ok (.iload_n 1, 1) := by decide +kernel
theorem dX7_refill_49 : decode cX7_refill 49 = .ok (.iload_n 2, 1) := by decide +kernel
theorem dX7_refill_50 : decode cX7_refill 50 = .ok (.iastore, 1) := by decide +kernel
theorem dX7_refill_51 : decode cX7_refill 51 = .ok (.iconst 1, 1) := by decide +kernel
theorem dX7_refill_52 : decode cX7_refill 52 = .ok (.ireturn, 1) := by decide +kernel
abbrev cX7_reject : ByteArray := prog_9_method_12_code
def yX7_reject : MethodName := ⟨RX7, "reject", "(IJJ)Z"⟩
theorem dX7_reject_0 : decode cX7_reject 0 = .ok (.lload 4, 2) := by decide +kernel
theorem dX7_reject_2 : decode cX7_reject 2 = .ok (.lconst 1, 1) := by decide +kernel
theorem dX7_reject_3 : decode cX7_reject 3 = .ok (.lcmp, 1) := by decide +kernel
theorem dX7_reject_4 : decode cX7_reject 4 = .ok (.ifCond .lt 29, 3) := by decide +kernel
theorem dX7_reject_7 : decode cX7_reject 7 = .ok (.lload 4, 2) := by decide +kernel
theorem dX7_reject_9 : decode cX7_reject 9 = .ok (.ldc2_w 107, 3) := by decide +kernel
theorem dX7_reject_12 : decode cX7_reject 12 = .ok (.lcmp, 1) := by decide +kernel
theorem dX7_reject_13 : decode cX7_reject 13 = .ok (.ifCond .gt 20, 3) := by decide +kernel
theorem dX7_reject_16 : decode cX7_reject 16 = .ok (.lload_n 2, 1) := by decide +kernel
theorem dX7_reject_17 : decode cX7_reject 17 = .ok (.lconst 0, 1) := by decide +kernel
theorem dX7_reject_18 : decode cX7_reject 18 = .ok (.lcmp, 1) := by decide +kernel
theorem dX7_reject_19 : decode cX7_reject 19 = .ok (.ifCond .lt 14, 3) := by decide +kernel
theorem dX7_reject_22 : decode cX7_reject 22 = .ok (.lload_n 2, 1) := by decide +kernel
theorem dX7_reject_23 : decode cX7_reject 23 = .ok (.lload 4, 2) := by decide +kernel
theorem dX7_reject_25 : decode cX7_reject 25 = .ok (.lcmp, 1) := by decide +kernel
theorem dX7_reject_26 : decode cX7_reject 26 = .ok (.ifCond .ge 7, 3) := by decide +kernel
theorem dX7_reject_29 : decode cX7_reject 29 = .ok (.iconst 1, 1) := by decide +kernel
theorem dX7_reject_30 : decode cX7_reject 30 = .ok (.goto 4, 3) := by decide +kernel
theorem dX7_reject_33 : decode cX7_reject 33 = .ok (.iconst 0, 1) := by decide +kernel
theorem dX7_reject_34 : decode cX7_reject 34 = .ok (.istore 6, 2) := by decide +kernel
theorem dX7_reject_36 : decode cX7_reject 36 = .ok (.aload_n 0, 1) := by decide +kernel
theorem dX7_reject_37 : decode cX7_reject 37 = .ok (.aload_n 0, 1) := by decide +kernel
theorem dX7_reject_38 : decode cX7_reject 38 = .ok (.iload_n 1, 1) := by decide +kernel
theorem dX7_reject_39 : decode cX7_reject 39 = .ok (.invokevirtual 97, 3) := by decide +kernel
theorem dX7_reject_42 : decode cX7_reject 42 = .ok (.ifCond .ne 7, 3) := by decide +kernel
theorem dX7_reject_45 : decode cX7_reject 45 = .ok (.iconst 1, 1) := by decide +kernel
theorem dX7_reject_46 : decode cX7_reject 46 = .ok (.goto 13, 3) := by decide +kernel
theorem dX7_reject_49 : decode cX7_reject 49 = .ok (.iload 6, 2) := by decide +kernel
theorem dX7_reject_51 : decode cX7_reject 51 = .ok (.ifCond .eq 7, 3) := by decide +kernel
theorem dX7_reject_54 : decode cX7_reject 54 = .ok (.iconst 0, 1) := by decide +kernel
theorem dX7_reject_55 : decode cX7_reject 55 = .ok (.goto 4, 3) := by decide +kernel
theorem dX7_reject_58 : decode cX7_reject 58 = .ok (.iconst 2, 1) := by decide +kernel
theorem dX7_reject_59 : decode cX7_reject 59 = .ok (.putfield 83, 3) := by decide +kernel
theorem dX7_reject_62 : decode cX7_reject 62 = .ok (.aload_n 0, 1) := by decide +kernel
theorem dX7_reject_63 : decode cX7_reject 63 = .ok (.getfield 83, 3) := by decide +kernel
theorem dX7_reject_66 : decode cX7_reject 66 = .ok (.ifCond .ne 26, 3) := by decide +kernel
theorem dX7_reject_69 : decode cX7_reject 69 = .ok (.aload_n 0, 1) := by decide +kernel
theorem dX7_reject_70 : decode cX7_reject 70 = .ok (.getfield 22, 3) := by decide +kernel
theorem dX7_reject_73 : decode cX7_reject 73 = .ok (.iload_n 1, 1) := by decide +kernel
theorem dX7_reject_74 : decode cX7_reject 74 = .ok (.laload, 1) := by decide +kernel
theorem dX7_reject_75 : decode cX7_reject 75 = .ok (.lload_n 2, 1) := by decide +kernel
theorem dX7_reject_76 : decode cX7_reject 76 = .ok (.lcmp, 1) := by decide +kernel
theorem dX7_reject_77 : decode cX7_reject 77 = .ok (.ifCond .ne 17, 3) := by decide +kernel
theorem dX7_reject_80 : decode cX7_reject 80 = .ok (.aload_n 0, 1) := by decide +kernel
theorem dX7_reject_81 : decode cX7_reject 81 = .ok (.getfield 26, 3) := by decide +kernel
theorem dX7_reject_84 : decode cX7_reject 84 = .ok (.iload_n 1, 1) := by decide +kernel
theorem dX7_reject_85 : decode cX7_reject 85 = .ok (.laload, 1) := by decide +kernel
theorem dX7_reject_86 : decode cX7_reject 86 = .ok (.lload 4, 2) := by decide +kernel
theorem dX7_reject_88 : decode cX7_reject 88 = .ok (.lcmp, 1) := by decide +kernel
theorem dX7_reject_89 : decode cX7_reject 89 = .ok (.ifCond .ne 5, 3) := by decide +kernel
theorem dX7_reject_92 : decode cX7_reject 92 = .ok (.iconst 0, 1) := by decide +kernel
theorem dX7_reject_93 : decode cX7_reject 93 = .ok (.ireturn, 1) := by decide +kernel
theorem dX7_reject_94 : decode cX7_reject 94 = .ok (.aload_n 0, 1) := by decide +kernel
theorem dX7_reject_95 : decode cX7_reject 95 = .ok (.getfield 22, 3) := by decide +kernel
theorem dX7_reject_98 : decode cX7_reject 98 = .ok (.iload_n 1, 1) := by decide +kernel
theorem dX7_reject_99 : decode cX7_reject 99 = .ok (.lload_n 2, 1) := by decide +kernel
theorem dX7_reject_100 : decode cX7_reject 100 = .ok (.lastore, 1) := by decide +kernel
theorem dX7_reject_101 : decode cX7_reject 101 = .ok (.aload_n 0, 1) := by decide +kernel
theorem dX7_reject_102 : decode cX7_reject 102 = .ok (.getfield 26, 3) := by decide +kernel
theorem dX7_reject_105 : decode cX7_reject 105 = .ok (.iload_n 1, 1) := by decide +kernel
theorem dX7_reject_106 : decode cX7_reject 106 = .ok (.lload 4, 2) := by decide +kernel
theorem dX7_reject_108 : decode cX7_reject 108 = .ok (.lastore, 1) := by decide +kernel
theorem dX7_reject_109 : decode cX7_reject 109 = .ok (.iconst 1, 1) := by decide +kernel
theorem dX7_reject_110 : decode cX7_reject 110 = .ok (.ireturn, 1) := by decide +kernel
abbrev cX7_partsOf : ByteArray := prog_9_method_13_code
def yX7_partsOf : MethodName := ⟨RX7, "partsOf", "(I)I"⟩
theorem dX7_partsOf_0 : decode cX7_partsOf 0 = .ok (.iconst 0, 1) := by decide +kernel
theorem dX7_partsOf_1 : decode cX7_partsOf 1 = .ok (.istore_n 2, 1) := by decide +kernel
theorem dX7_partsOf_2 : decode cX7_partsOf 2 = .ok (.iconst 0, 1) := by decide +kernel
theorem dX7_partsOf_3 : decode cX7_partsOf 3 = .ok (.istore_n 3, 1) := by decide +kernel
theorem dX7_partsOf_4 : decode cX7_partsOf 4 = .ok (.iload_n 3, 1) := by decide +kernel
theorem dX7_partsOf_5 : decode cX7_partsOf 5 = .ok (.aload_n 0, 1) := by decide +kernel
theorem dX7_partsOf_6 : decode cX7_partsOf 6 = .ok (.getfield 89, 3) := by decide +kernel
theorem dX7_partsOf_9 : decode cX7_partsOf 9 = .ok (.if_icmp .ge 27, 3) := by decide +kernel
theorem dX7_partsOf_12 : decode cX7_partsOf 12 = .ok (.iload_n 2, 1) := by decide +kernel
theorem dX7_partsOf_13 : decode cX7_partsOf 13 = .ok (.aload_n 0, 1) := by decide +kernel
theorem dX7_partsOf_14 : decode cX7_partsOf 14 = .ok (.getfield 29, 3) := by decide +kernel
theorem dX7_partsOf_17 : decode cX7_partsOf 17 = .ok (.iload_n 3, 1) := by decide +kernel
theorem dX7_partsOf_18 : decode cX7_partsOf 18 = .ok (.iaload, 1) := by decide +kernel
theorem dX7_partsOf_19 : decode cX7_partsOf 19 = .ok (.iload_n 1, 1) := by decide +kernel
theorem dX7_partsOf_20 : decode cX7_partsOf 20 = .ok (.if_icmp .ne 7, 3) := by decide +kernel
theorem dX7_partsOf_23 : decode cX7_partsOf 23 = .ok (.iconst 1, 1) := by decide +kernel
theorem dX7_partsOf_24 : decode cX7_partsOf 24 = .ok (.goto 4, 3) := by decide +kernel
theorem dX7_partsOf_27 : decode cX7_partsOf 27 = .ok (.iconst 0, 1) := by decide +kernel
theorem dX7_partsOf_28 : decode cX7_partsOf 28 = .ok (.iadd, 1) := by decide +kernel
theorem dX7_partsOf_29 : decode cX7_partsOf 29 = .ok (.istore_n 2, 1) := by decide +kernel
theorem dX7_partsOf_30 : decode cX7_partsOf 30 = .ok (.iinc 3 1, 3) := by decide +kernel
theorem dX7_partsOf_33 : decode cX7_partsOf 33 = .ok (.goto (-29), 3) := by decide +kernel
theorem dX7_partsOf_36 : decode cX7_partsOf 36 = .ok (.iload_n 2, 1) := by decide +kernel
theorem dX7_partsOf_37 : decode cX7_partsOf 37 = .ok (.ireturn, 1) := by decide +kernel
abbrev cX7_mayGo : ByteArray := prog_9_method_14_code
def yX7_mayGo : MethodName := ⟨RX7, "mayGo", "(II)Z"⟩
theorem dX7_mayGo_0 : decode cX7_mayGo 0 = .ok (.aload_n 0, 1) := by decide +kernel
theorem dX7_mayGo_1 : decode cX7_mayGo 1 = .ok (.getfield 41, 3) := by decide +kernel
theorem dX7_mayGo_4 : decode cX7_mayGo 4 = .ok (.iload_n 2, 1) := by decide +kernel
theorem dX7_mayGo_5 : decode cX7_mayGo 5 = .ok (.iaload, 1) := by decide +kernel
theorem dX7_mayGo_6 : decode cX7_mayGo 6 = .ok (.aload_n 0, 1) := by decide +kernel
theorem dX7_mayGo_7 : decode cX7_mayGo 7 = .ok (.getfield 13, 3) := by decide +kernel
theorem dX7_mayGo_10 : decode cX7_mayGo 10 = .ok (.iload_n 1, 1) := by decide +kernel
theorem dX7_mayGo_11 : decode cX7_mayGo 11 = .ok (.iaload, 1) := by decide +kernel
theorem dX7_mayGo_12 : decode cX7_mayGo 12 = .ok (.ishr, 1) := by decide +kernel
theorem dX7_mayGo_13 : decode cX7_mayGo 13 = .ok (.iconst 1, 1) := by decide +kernel
theorem dX7_mayGo_14 : decode cX7_mayGo 14 = .ok (.iand, 1) := by decide +kernel
theorem dX7_mayGo_15 : decode cX7_mayGo 15 = .ok (.iconst 1, 1) := by decide +kernel
theorem dX7_mayGo_16 : decode cX7_mayGo 16 = .ok (.if_icmp .ne 7, 3) := by decide +kernel
theorem dX7_mayGo_19 : decode cX7_mayGo 19 = .ok (.iconst 1, 1) := by decide +kernel
theorem dX7_mayGo_20 : decode cX7_mayGo 20 = .ok (.goto 4, 3) := by decide +kernel
theorem dX7_mayGo_23 : decode cX7_mayGo 23 = .ok (.iconst 0, 1) := by decide +kernel
theorem dX7_mayGo_24 : decode cX7_mayGo 24 = .ok (.ireturn, 1) := by decide +kernel
abbrev cX7_nextMachine : ByteArray := prog_9_method_15_code
def yX7_nextMachine : MethodName := ⟨RX7, "nextMachine", "(II)I"⟩
theorem dX7_nextMachine_0 : decode cX7_nextMachine 0 = .ok (.iload_n 2, 1) := by decide +kernel
theorem dX7_nextMachine_1 : decode cX7_nextMachine 1 = .ok (.istore_n 3, 1) := by decide +kernel
theorem dX7_nextMachine_2 : decode cX7_nextMachine 2 = .ok (.iload_n 3, 1) := by decide +kernel
theorem dX7_nextMachine_3 : decode cX7_nextMachine 3 = .ok (.aload_n 0, 1) := by decide +kernel
theorem dX7_nextMachine_4 : decode cX7_nextMachine 4 = .ok (.getfield 109, 3) := by decide +kernel
theorem dX7_nextMachine_7 : decode cX7_nextMachine 7 = .ok (.if_icmp .ge 20, 3) := by decide +kernel
theorem dX7_nextMachine_10 : decode cX7_nextMachine 10 = .ok (.aload_n 0, 1) := by decide +kernel
theorem dX7_nextMachine_11 : decode cX7_nextMachine 11 = .ok (.iload_n 1, 1) := by decide +kernel
theorem dX7_nextMachine_12 : decode cX7_nextMachine 12 = .ok (.iload_n 3, 1) := by decide +kernel
theorem dX7_nextMachine_13 : decode cX7_nextMachine 13 = .ok (.invokevirtual 112, 3) := by decide +kernel
theorem dX7_nextMachine_16 : decode cX7_nextMachine 16 = .ok (.ifCond .eq 5, 3) := by decide +kernel
theorem dX7_nextMachine_19 : decode cX7_nextMachine 19 = .ok (.iload_n 3, 1) := by decide +kernel
theorem dX7_nextMachine_20 : decode cX7_nextMachine 20 = .ok (.ireturn, 1) := by decide +kernel
theorem dX7_nextMachine_21 : decode cX7_nextMachine 21 = .ok (.iinc 3 1, 3) := by decide +kernel
theorem dX7_nextMachine_24 : decode cX7_nextMachine 24 = .ok (.goto (-22), 3) := by decide +kernel
theorem dX7_nextMachine_27 : decode cX7_nextMachine 27 = .ok (.iconst (-1), 1) := by decide +kernel
theorem dX7_nextMachine_28 : decode cX7_nextMachine 28 = .ok (.ireturn, 1) := by decide +kernel
abbrev cX7_greatest : ByteArray := prog_9_method_16_code
def yX7_greatest : MethodName := ⟨RX7, "greatest", "()I"⟩
theorem dX7_greatest_0 : decode cX7_greatest 0 = .ok (.iconst 0, 1) := by decide +kernel
theorem dX7_greatest_1 : decode cX7_greatest 1 = .ok (.istore_n 1, 1) := by decide +kernel
theorem dX7_greatest_2 : decode cX7_greatest 2 = .ok (.iconst 0, 1) := by decide +kernel
theorem dX7_greatest_3 : decode cX7_greatest 3 = .ok (.istore_n 2, 1) := by decide +kernel
theorem dX7_greatest_4 : decode cX7_greatest 4 = .ok (.iload_n 2, 1) := by decide +kernel
theorem dX7_greatest_5 : decode cX7_greatest 5 = .ok (.aload_n 0, 1) := by decide +kernel
theorem dX7_greatest_6 : decode cX7_greatest 6 = .ok (.getfield 109, 3) := by decide +kernel
theorem dX7_greatest_9 : decode cX7_greatest 9 = .ok (.if_icmp .ge 64, 3) := by decide +kernel
theorem dX7_greatest_12 : decode cX7_greatest 12 = .ok (.iconst 0, 1) := by decide +kernel
theorem dX7_greatest_13 : decode cX7_greatest 13 = .ok (.istore_n 3, 1) := by decide +kernel
theorem dX7_greatest_14 : decode cX7_greatest 14 = .ok (.iconst 0, 1) := by decide +kernel
theorem dX7_greatest_15 : decode cX7_greatest 15 = .ok (.istore 4, 2) := by decide +kernel
theorem dX7_greatest_17 : decode cX7_greatest 17 = .ok (.iload 4, 2) := by decide +kernel
theorem dX7_greatest_19 : decode cX7_greatest 19 = .ok (.aload_n 0, 1) := by decide +kernel
theorem dX7_greatest_20 : decode cX7_greatest 20 = .ok (.getfield 86, 3) := by decide +kernel
theorem dX7_greatest_23 : decode cX7_greatest 23 = .ok (.if_icmp .ge 33, 3) := by decide +kernel
theorem dX7_greatest_26 : decode cX7_greatest 26 = .ok (.iload_n 3, 1) := by decide +kernel
theorem dX7_greatest_27 : decode cX7_greatest 27 = .ok (.aload_n 0, 1) := by decide +kernel
theorem dX7_greatest_28 : decode cX7_greatest 28 = .ok (.getfield 56, 3) := by decide +kernel
theorem dX7_greatest_31 : decode cX7_greatest 31 = .ok (.iload 4, 2) := by decide +kernel
theorem dX7_greatest_33 : decode cX7_greatest 33 = .ok (.iaload, 1) := by decide +kernel
theorem dX7_greatest_34 : decode cX7_greatest 34 = .ok (.iload_n 2, 1) := by decide +kernel
theorem dX7_greatest_35 : decode cX7_greatest 35 = .ok (.if_icmp .ne 12, 3) := by decide +kernel
theorem dX7_greatest_38 : decode cX7_greatest 38 = .ok (.aload_n 0, 1) := by decide +kernel
theorem dX7_greatest_39 : decode cX7_greatest 39 = .ok (.iload 4, 2) := by decide +kernel
theorem dX7_greatest_41 : decode cX7_greatest 41 = .ok (.invokevirtual 116, 3) := by decide +kernel
theorem dX7_greatest_44 : decode cX7_greatest 44 = .ok (.goto 4, 3) := by decide +kernel
theorem dX7_greatest_47 : decode cX7_greatest 47 = .ok (.iconst 0, 1) := by decide +kernel
theorem dX7_greatest_48 : decode cX7_greatest 48 = .ok (.iadd, 1) := by decide +kernel
theorem dX7_greatest_49 : decode cX7_greatest 49 = .ok (.istore_n 3, 1) := by decide +kernel
theorem dX7_greatest_50 : decode cX7_greatest 50 = .ok (.iinc 4 1, 3) := by decide +kernel
theorem dX7_greatest_53 : decode cX7_greatest 53 = .ok (.goto (-36), 3) := by decide +kernel
theorem dX7_greatest_56 : decode cX7_greatest 56 = .ok (.iload_n 3, 1) := by decide +kernel
theorem dX7_greatest_57 : decode cX7_greatest 57 = .ok (.iload_n 1, 1) := by decide +kernel
theorem dX7_greatest_58 : decode cX7_greatest 58 = .ok (.if_icmp .le 7, 3) := by decide +kernel
theorem dX7_greatest_61 : decode cX7_greatest 61 = .ok (.iload_n 3, 1) := by decide +kernel
theorem dX7_greatest_62 : decode cX7_greatest 62 = .ok (.goto 4, 3) := by decide +kernel
theorem dX7_greatest_65 : decode cX7_greatest 65 = .ok (.iload_n 1, 1) := by decide +kernel
theorem dX7_greatest_66 : decode cX7_greatest 66 = .ok (.istore_n 1, 1) := by decide +kernel
theorem dX7_greatest_67 : decode cX7_greatest 67 = .ok (.iinc 2 1, 3) := by decide +kernel
theorem dX7_greatest_70 : decode cX7_greatest 70 = .ok (.goto (-66), 3) := by decide +kernel
theorem dX7_greatest_73 : decode cX7_greatest 73 = .ok (.iload_n 1, 1) := by decide +kernel
theorem dX7_greatest_74 : decode cX7_greatest 74 = .ok (.ireturn, 1) := by decide +kernel
abbrev cX7_goOn : ByteArray := prog_9_method_17_code
def yX7_goOn : MethodName := ⟨RX7, "goOn", "()Z"⟩
theorem dX7_goOn_0 : decode cX7_goOn 0 = .ok (.aload_n 0, 1) := by decide +kernel
theorem dX7_goOn_1 : decode cX7_goOn 1 = .ok (.getfield 86, 3) := by decide +kernel
theorem dX7_goOn_4 : decode cX7_goOn 4 = .ok (.iconst 1, 1) := by decide +kernel
theorem dX7_goOn_5 : decode cX7_goOn 5 = .ok (.isub, 1) := by decide +kernel
theorem dX7_goOn_6 : decode cX7_goOn 6 = .ok (.istore_n 1, 1) := by decide +kernel
theorem dX7_goOn_7 : decode cX7_goOn 7 = .ok (.iload_n 1, 1) := by decide +kernel
theorem dX7_goOn_8 : decode cX7_goOn 8 = .ok (.ifCond .lt 62, 3) := by decide +kernel
theorem dX7_goOn_11 : decode cX7_goOn 11 = .ok (.aload_n 0, 1) := by decide +kernel
theorem dX7_goOn_12 : decode cX7_goOn 12 = .ok (.getfield 56, 3) := by decide +kernel
theorem dX7_goOn_15 : decode cX7_goOn 15 = .ok (.iload_n 1, 1) := by decide +kernel
theorem dX7_goOn_16 : decode cX7_goOn 16 = .ok (.iaload, 1) := by decide +kernel
theorem dX7_goOn_17 : decode cX7_goOn 17 = .ok (.iconst (-1), 1) := by decide +kernel
theorem dX7_goOn_18 : decode cX7_goOn 18 = .ok (.if_icmp .ne 6, 3) := by decide +kernel
theorem dX7_goOn_21 : decode cX7_goOn 21 = .ok (.goto 43, 3) := by decide +kernel
theorem dX7_goOn_24 : decode cX7_goOn 24 = .ok (.aload_n 0, 1) := by decide +kernel
theorem dX7_goOn_25 : decode cX7_goOn 25 = .ok (.iload_n 1, 1) := by decide +kernel
theorem dX7_goOn_26 : decode cX7_goOn 26 = .ok (.aload_n 0, 1) := by decide +kernel
theorem dX7_goOn_27 : decode cX7_goOn 27 = .ok (.getfield 56, 3) := by decide +kernel
theorem dX7_goOn_30 : decode cX7_goOn 30 = .ok (.iload_n 1, 1) := by decide +kernel
theorem dX7_goOn_31 : decode cX7_goOn 31 = .ok (.iaload, 1) := by decide +kernel
theorem dX7_goOn_32 : decode cX7_goOn 32 = .ok (.iconst 1, 1) := by decide +kernel
theorem dX7_goOn_33 : decode cX7_goOn 33 = .ok (.iadd, 1) := by decide +kernel
theorem dX7_goOn_34 : decode cX7_goOn 34 = .ok (.invokevirtual 120, 3) := by decide +kernel
theorem dX7_goOn_37 : decode cX7_goOn 37 = .ok (.istore_n 2, 1) := by decide +kernel
theorem dX7_goOn_38 : decode cX7_goOn 38 = .ok (.iload_n 2, 1) := by decide +kernel
theorem dX7_goOn_39 : decode cX7_goOn 39 = .ok (.iconst (-1), 1) := by decide +kernel
theorem dX7_goOn_40 : decode cX7_goOn 40 = .ok (.if_icmp .eq 12, 3) := by decide +kernel
theorem dX7_goOn_43 : decode cX7_goOn 43 = .ok (.aload_n 0, 1) := by decide +kernel
theorem dX7_goOn_44 : decode cX7_goOn 44 = .ok (.getfield 56, 3) := by decide +kernel
theorem dX7_goOn_47 : decode cX7_goOn 47 = .ok (.iload_n 1, 1) := by decide +kernel
theorem dX7_goOn_48 : decode cX7_goOn 48 = .ok (.iload_n 2, 1) := by decide +kernel
theorem dX7_goOn_49 : decode cX7_goOn 49 = .ok (.iastore, 1) := by decide +kernel
theorem dX7_goOn_50 : decode cX7_goOn 50 = .ok (.iconst 1, 1) := by decide +kernel
theorem dX7_goOn_51 : decode cX7_goOn 51 = .ok (.ireturn, 1) := by decide +kernel
theorem dX7_goOn_52 : decode cX7_goOn 52 = .ok (.aload_n 0, 1) := by decide +kernel
theorem dX7_goOn_53 : decode cX7_goOn 53 = .ok (.getfield 56, 3) := by decide +kernel
theorem dX7_goOn_56 : decode cX7_goOn 56 = .ok (.iload_n 1, 1) := by decide +kernel
theorem dX7_goOn_57 : decode cX7_goOn 57 = .ok (.aload_n 0, 1) := by decide +kernel
theorem dX7_goOn_58 : decode cX7_goOn 58 = .ok (.iload_n 1, 1) := by decide +kernel
theorem dX7_goOn_59 : decode cX7_goOn 59 = .ok (.iconst 0, 1) := by decide +kernel
theorem dX7_goOn_60 : decode cX7_goOn 60 = .ok (.invokevirtual 120, 3) := by decide +kernel
theorem dX7_goOn_63 : decode cX7_goOn 63 = .ok (.iastore, 1) := by decide +kernel
theorem dX7_goOn_64 : decode cX7_goOn 64 = .ok (.iinc 1 (-1), 3) := by decide +kernel
theorem dX7_goOn_67 : decode cX7_goOn 67 = .ok (.goto (-60), 3) := by decide +kernel
theorem dX7_goOn_70 : decode cX7_goOn 70 = .ok (.iconst 0, 1) := by decide +kernel
theorem dX7_goOn_71 : decode cX7_goOn 71 = .ok (.ireturn, 1) := by decide +kernel
abbrev cX7_findShares : ByteArray := prog_9_method_18_code
def yX7_findShares : MethodName := ⟨RX7, "findShares", "()V"⟩
theorem dX7_findShares_0 : decode cX7_findShares 0 = .ok (.iconst 0, 1) := by decide +kernel
theorem dX7_findShares_1 : decode cX7_findShares 1 = .ok (.istore_n 1, 1) := by decide +kernel
theorem dX7_findShares_2 : decode cX7_findShares 2 = .ok (.iload_n 1, 1) := by decide +kernel
theorem dX7_findShares_3 : decode cX7_findShares 3 = .ok (.aload_n 0, 1) := by decide +kernel
theorem dX7_findShares_4 : decode cX7_findShares 4 = .ok (.getfield 86, 3) := by decide +kernel
theorem dX7_findShares_7 : decode cX7_findShares 7 = .ok (.if_icmp .ge 33, 3) := by decide +kernel
theorem dX7_findShares_10 : decode cX7_findShares 10 = .ok (.aload_n 0, 1) := by decide +kernel
theorem dX7_findShares_11 : decode cX7_findShares 11 = .ok (.getfield 56, 3) := by decide +kernel
theorem dX7_findShares_14 : decode cX7_findShares 14 = .ok (.iload_n 1, 1) := by decide +kernel
theorem dX7_findShares_15 : decode cX7_findShares 15 = .ok (.aload_n 0, 1) := by decide +kernel
theorem dX7_findShares_16 : decode cX7_findShares 16 = .ok (.iload_n 1, 1) := by decide +kernel
theorem dX7_findShares_17 : decode cX7_findShares 17 = .ok (.invokevirtual 116, 3) := by decide +kernel
theorem dX7_findShares_20 : decode cX7_findShares 20 = .ok (.ifCond .ne 7, 3) := by decide +kernel
theorem dX7_findShares_23 : decode cX7_findShares 23 = .ok (.iconst (-1), 1) := by decide +kernel
theorem dX7_findShares_24 : decode cX7_findShares 24 = .ok (.goto 9, 3) := by decide +kernel
theorem dX7_findShares_27 : decode cX7_findShares 27 = .ok (.aload_n 0, 1) := by decide +kernel
theorem dX7_findShares_28 : decode cX7_findShares 28 = .ok (.iload_n 1, 1) := by decide +kernel
theorem dX7_findShares_29 : decode cX7_findShares 29 = .ok (.iconst 0, 1) := by decide +kernel
theorem dX7_findShares_30 : decode cX7_findShares 30 = .ok (.invokevirtual 120, 3) := by decide +kernel
theorem dX7_findShares_33 : decode cX7_findShares 33 = .ok (.iastore, 1) := by decide +kernel
theorem dX7_findShares_34 : decode cX7_findShares 34 = .ok (.iinc 1 1, 3) := by decide +kernel
theorem dX7_findShares_37 : decode cX7_findShares 37 = .ok (.goto (-35), 3) := by decide +kernel
theorem dX7_findShares_40 : decode cX7_findShares 40 = .ok (.aload_n 0, 1) := by decide +kernel
theorem dX7_findShares_41 : decode cX7_findShares 41 = .ok (.invokevirtual 124, 3) := by decide +kernel
theorem dX7_findShares_44 : decode cX7_findShares 44 = .ok (.istore_n 1, 1) := by decide +kernel
theorem dX7_findShares_45 : decode cX7_findShares 45 = .ok (.iconst 0, 1) := by decide +kernel
theorem dX7_findShares_46 : decode cX7_findShares 46 = .ok (.istore_n 2, 1) := by decide +kernel
theorem dX7_findShares_47 : decode cX7_findShares 47 = .ok (.iload_n 2, 1) := by decide +kernel
theorem dX7_findShares_48 : decode cX7_findShares 48 = .ok (.aload_n 0, 1) := by decide +kernel
theorem dX7_findShares_49 : decode cX7_findShares 49 = .ok (.getfield 86, 3) := by decide +kernel
theorem dX7_findShares_52 : decode cX7_findShares 52 = .ok (.if_icmp .ge 21, 3) := by decide +kernel
theorem dX7_findShares_55 : decode cX7_findShares 55 = .ok (.aload_n 0, 1) := by decide +kernel
theorem dX7_findShares_56 : decode cX7_findShares 56 = .ok (.getfield 59, 3) := by decide +kernel
theorem dX7_findShares_59 : decode cX7_findShares 59 = .ok (.iload_n 2, 1) := by decide +kernel
theorem dX7_findShares_60 : decode cX7_findShares 60 = .ok (.aload_n 0, 1) := by decide +kernel
theorem dX7_findShares_61 : decode cX7_findShares 61 = .ok (.getfield 56, 3) := by decide +kernel
theorem dX7_findShares_64 : decode cX7_findShares 64 = .ok (.iload_n 2, 1) := by decide +kernel
theorem dX7_findShares_65 : decode cX7_findShares 65 = .ok (.iaload, 1) := by decide +kernel
theorem dX7_findShares_66 : decode cX7_findShares 66 = .ok (.iastore, 1) := by decide +kernel
theorem dX7_findShares_67 : decode cX7_findShares 67 = .ok (.iinc 2 1, 3) := by decide +kernel
theorem dX7_findShares_70 : decode cX7_findShares 70 = .ok (.goto (-23), 3) := by decide +kernel
theorem dX7_findShares_73 : decode cX7_findShares 73 = .ok (.aload_n 0, 1) := by decide +kernel
theorem dX7_findShares_74 : decode cX7_findShares 74 = .ok (.invokevirtual 128, 3) := by decide +kernel
theorem dX7_findShares_77 : decode cX7_findShares 77 = .ok (.ifCond .eq 49, 3) := by decide +kernel
theorem dX7_findShares_80 : decode cX7_findShares 80 = .ok (.aload_n 0, 1) := by decide +kernel
theorem dX7_findShares_81 : decode cX7_findShares 81 = .ok (.invokevirtual 124, 3) := by decide +kernel
theorem dX7_findShares_84 : decode cX7_findShares 84 = .ok (.istore_n 2, 1) := by decide +kernel
theorem dX7_findShares_85 : decode cX7_findShares 85 = .ok (.iload_n 2, 1) := by decide +kernel
theorem dX7_findShares_86 : decode cX7_findShares 86 = .ok (.iload_n 1, 1) := by decide +kernel
theorem dX7_findShares_87 : decode cX7_findShares 87 = .ok (.if_icmp .lt 6, 3) := by decide +kernel
theorem dX7_findShares_90 : decode cX7_findShares 90 = .ok (.goto (-17), 3) := by decide +kernel
theorem dX7_findShares_93 : decode cX7_findShares 93 = .ok (.iload_n 2, 1) := by decide +kernel
theorem dX7_findShares_94 : decode cX7_findShares 94 = .ok (.istore_n 1, 1) := by decide +kernel
theorem dX7_findShares_95 : decode cX7_findShares 95 = .ok (.iconst 0, 1) := by decide +kernel
theorem dX7_findShares_96 : decode cX7_findShares 96 = .ok (.istore_n 3, 1) := by decide +kernel
theorem dX7_findShares_97 : decode cX7_findShares 97 = .ok (.iload_n 3, 1) := by decide +kernel
theorem dX7_findShares_98 : decode cX7_findShares 98 = .ok (.aload_n 0, 1) := by decide +kernel
theorem dX7_findShares_99 : decode cX7_findShares 99 = .ok (.getfield 86, 3) := by decide +kernel
theorem dX7_findShares_102 : decode cX7_findShares 102 = .ok (.if_icmp .ge 21, 3) := by decide +kernel
theorem dX7_findShares_105 : decode cX7_findShares 105 = .ok (.aload_n 0, 1) := by decide +kernel
theorem dX7_findShares_106 : decode cX7_findShares 106 = .ok (.getfield 59, 3) := by decide +kernel
theorem dX7_findShares_109 : decode cX7_findShares 109 = .ok (.iload_n 3, 1) := by decide +kernel
theorem dX7_findShares_110 : decode cX7_findShares 110 = .ok (.aload_n 0, 1) := by decide +kernel
theorem dX7_findShares_111 : decode cX7_findShares 111 = .ok (.getfield 56, 3) := by decide +kernel
theorem dX7_findShares_114 : decode cX7_findShares 114 = .ok (.iload_n 3, 1) := by decide +kernel
theorem dX7_findShares_115 : decode cX7_findShares 115 = .ok (.iaload, 1) := by decide +kernel
theorem dX7_findShares_116 : decode cX7_findShares 116 = .ok (.iastore, 1) := by decide +kernel
theorem dX7_findShares_117 : decode cX7_findShares 117 = .ok (.iinc 3 1, 3) := by decide +kernel
theorem dX7_findShares_120 : decode cX7_findShares 120 = .ok (.goto (-23), 3) := by decide +kernel
theorem dX7_findShares_123 : decode cX7_findShares 123 = .ok (.goto (-50), 3) := by decide +kernel
theorem dX7_findShares_126 : decode cX7_findShares 126 = .ok (.return_, 1) := by decide +kernel
abbrev cX7_hasRoom : ByteArray := prog_9_method_19_code
def yX7_hasRoom : MethodName := ⟨RX7, "hasRoom", "(II)Z"⟩
theorem dX7_hasRoom_0 : decode cX7_hasRoom 0 = .ok (.iload_n 1, 1) := by decide +kernel
theorem dX7_hasRoom_1 : decode cX7_hasRoom 1 = .ok (.iload_n 2, 1) := by decide +kernel
theorem dX7_hasRoom_2 : decode cX7_hasRoom 2 = .ok (.iadd, 1) := by decide +kernel
theorem dX7_hasRoom_3 : decode cX7_hasRoom 3 = .ok (.aload_n 0, 1) := by decide +kernel
theorem dX7_hasRoom_4 : decode cX7_hasRoom 4 = .ok (.getfield 79, 3) := by decide +kernel
theorem dX7_hasRoom_7 : decode cX7_hasRoom 7 = .ok (.if_icmp .gt 7, 3) := by decide +kernel
theorem dX7_hasRoom_10 : decode cX7_hasRoom 10 = .ok (.iconst 1, 1) := by decide +kernel
theorem dX7_hasRoom_11 : decode cX7_hasRoom 11 = .ok (.goto 4, 3) := by decide +kernel
theorem dX7_hasRoom_14 : decode cX7_hasRoom 14 = .ok (.iconst 0, 1) := by decide +kernel
theorem dX7_hasRoom_15 : decode cX7_hasRoom 15 = .ok (.istore_n 3, 1) := by decide +kernel
theorem dX7_hasRoom_16 : decode cX7_hasRoom 16 = .ok (.iload_n 1, 1) := by decide +kernel
theorem dX7_hasRoom_17 : decode cX7_hasRoom 17 = .ok (.istore 4, 2) := by decide +kernel
theorem dX7_hasRoom_19 : decode cX7_hasRoom 19 = .ok (.iload 4, 2) := by decide +kernel
theorem dX7_hasRoom_21 : decode cX7_hasRoom 21 = .ok (.iload_n 1, 1) := by decide +kernel
theorem dX7_hasRoom_22 : decode cX7_hasRoom 22 = .ok (.iload_n 2, 1) := by decide +kernel
theorem dX7_hasRoom_23 : decode cX7_hasRoom 23 = .ok (.iadd, 1) := by decide +kernel
theorem dX7_hasRoom_24 : decode cX7_hasRoom 24 = .ok (.if_icmp .ge 29, 3) := by decide +kernel
theorem dX7_hasRoom_27 : decode cX7_hasRoom 27 = .ok (.iload_n 3, 1) := by decide +kernel
theorem dX7_hasRoom_28 : decode cX7_hasRoom 28 = .ok (.ifCond .eq 25, 3) := by decide +kernel
theorem dX7_hasRoom_31 : decode cX7_hasRoom 31 = .ok (.aload_n 0, 1) := by decide +kernel
theorem dX7_hasRoom_32 : decode cX7_hasRoom 32 = .ok (.getfield 62, 3) := by decide +kernel
theorem dX7_hasRoom_35 : decode cX7_hasRoom 35 = .ok (.iload 4, 2) := by decide +kernel
theorem dX7_hasRoom_37 : decode cX7_hasRoom 37 = .ok (.baload, 1) := by decide +kernel
theorem dX7_hasRoom_38 : decode cX7_hasRoom 38 = .ok (.ifCond .ne 7, 3) := by decide +kernel
theorem dX7_hasRoom_41 : decode cX7_hasRoom 41 = .ok (.iconst 1, 1) := by decide +kernel
theorem dX7_hasRoom_42 : decode cX7_hasRoom 42 = .ok (.goto 4, 3) := by decide +kernel
theorem dX7_hasRoom_45 : decode cX7_hasRoom 45 = .ok (.iconst 0, 1) := by decide +kernel
theorem dX7_hasRoom_46 : decode cX7_hasRoom 46 = .ok (.istore_n 3, 1) := by decide +kernel
theorem dX7_hasRoom_47 : decode cX7_hasRoom 47 = .ok (.iinc 4 1, 3) := by decide +kernel
theorem dX7_hasRoom_50 : decode cX7_hasRoom 50 = .ok (.goto (-31), 3) := by decide +kernel
theorem dX7_hasRoom_53 : decode cX7_hasRoom 53 = .ok (.iload_n 3, 1) := by decide +kernel
theorem dX7_hasRoom_54 : decode cX7_hasRoom 54 = .ok (.ireturn, 1) := by decide +kernel
abbrev cX7_stand : ByteArray := prog_9_method_20_code
def yX7_stand : MethodName := ⟨RX7, "stand", "(III)V"⟩
theorem dX7_stand_0 : decode cX7_stand 0 = .ok (.aload_n 0, 1) := by decide +kernel
theorem dX7_stand_1 : decode cX7_stand 1 = .ok (.getfield 47, 3) := by decide +kernel
theorem dX7_stand_4 : decode cX7_stand 4 = .ok (.bipush 10, 2) := by decide +kernel
theorem dX7_stand_6 : decode cX7_stand 6 = .ok (.iload_n 1, 1) := by decide +kernel
theorem dX7_stand_7 : decode cX7_stand 7 = .ok (.imul, 1) := by decide +kernel
theorem dX7_stand_8 : decode cX7_stand 8 = .ok (.iload_n 2, 1) := by decide +kernel
theorem dX7_stand_9 : decode cX7_stand 9 = .ok (.iadd, 1) := by decide +kernel
theorem dX7_stand_10 : decode cX7_stand 10 = .ok (.iload_n 3, 1) := by decide +kernel
theorem dX7_stand_11 : decode cX7_stand 11 = .ok (.iastore, 1) := by decide +kernel
theorem dX7_stand_12 : decode cX7_stand 12 = .ok (.iload_n 3, 1) := by decide +kernel
theorem dX7_stand_13 : decode cX7_stand 13 = .ok (.istore 4, 2) := by decide +kernel
theorem dX7_stand_15 : decode cX7_stand 15 = .ok (.iload 4, 2) := by decide +kernel
theorem dX7_stand_17 : decode cX7_stand 17 = .ok (.iload_n 3, 1) := by decide +kernel
theorem dX7_stand_18 : decode cX7_stand 18 = .ok (.aload_n 0, 1) := by decide +kernel
theorem dX7_stand_19 : decode cX7_stand 19 = .ok (.getfield 7, 3) := by decide +kernel
theorem dX7_stand_22 : decode cX7_stand 22 = .ok (.iload_n 2, 1) := by decide +kernel
theorem dX7_stand_23 : decode cX7_stand 23 = .ok (.iaload, 1) := by decide +kernel
theorem dX7_stand_24 : decode cX7_stand 24 = .ok (.iadd, 1) := by decide +kernel
theorem dX7_stand_25 : decode cX7_stand 25 = .ok (.if_icmp .ge 17, 3) := by decide +kernel
theorem dX7_stand_28 : decode cX7_stand 28 = .ok (.aload_n 0, 1) := by decide +kernel
theorem dX7_stand_29 : decode cX7_stand 29 = .ok (.getfield 62, 3) := by decide +kernel
theorem dX7_stand_32 : decode cX7_stand 32 = .ok (.iload 4, 2) := by decide +kernel
theorem dX7_stand_34 : decode cX7_stand 34 = .ok (.iconst 1, 1) := by decide +kernel
theorem dX7_stand_35 : decode cX7_stand 35 = .ok (.bastore, 1) := by decide +kernel
theorem dX7_stand_36 : decode cX7_stand 36 = .ok (.iinc 4 1, 3) := by decide +kernel
theorem dX7_stand_39 : decode cX7_stand 39 = .ok (.goto (-24), 3) := by decide +kernel
theorem dX7_stand_42 : decode cX7_stand 42 = .ok (.return_, 1) := by decide +kernel
abbrev cX7_findFeeders : ByteArray := prog_9_method_21_code
def yX7_findFeeders : MethodName := ⟨RX7, "findFeeders", "(I)V"⟩
theorem dX7_findFeeders_0 : decode cX7_findFeeders 0 = .ok (.iconst 0, 1) := by decide +kernel
theorem dX7_findFeeders_1 : decode cX7_findFeeders 1 = .ok (.istore_n 2, 1) := by decide +kernel
theorem dX7_findFeeders_2 : decode cX7_findFeeders 2 = .ok (.iload_n 2, 1) := by decide +kernel
theorem dX7_findFeeders_3 : decode cX7_findFeeders 3 = .ok (.bipush 120, 2) := by decide +kernel
theorem dX7_findFeeders_5 : decode cX7_findFeeders 5 = .ok (.if_icmp .ge 16, 3) := by decide +kernel
theorem dX7_findFeeders_8 : decode cX7_findFeeders 8 = .ok (.aload_n 0, 1) := by decide +kernel
theorem dX7_findFeeders_9 : decode cX7_findFeeders 9 = .ok (.getfield 62, 3) := by decide +kernel
theorem dX7_findFeeders_12 : decode cX7_findFeeders 12 = .ok (.iload_n 2, 1) := by decide +kernel
theorem dX7_findFeeders_13 : decode cX7_findFeeders 13 = .ok (.iconst 0, 1) := by decide +kernel
theorem dX7_findFeeders_14 : decode cX7_findFeeders 14 = .ok (.bastore, 1) := by decide +kernel
theorem dX7_findFeeders_15 : decode cX7_findFeeders 15 = .ok (.iinc 2 1, 3) := by decide +kernel
theorem dX7_findFeeders_18 : decode cX7_findFeeders 18 = .ok (.goto (-16), 3) := by decide +kernel
theorem dX7_findFeeders_21 : decode cX7_findFeeders 21 = .ok (.iconst 0, 1) := by decide +kernel
theorem dX7_findFeeders_22 : decode cX7_findFeeders 22 = .ok (.istore_n 2, 1) := by decide +kernel
theorem dX7_findFeeders_23 : decode cX7_findFeeders 23 = .ok (.iload_n 2, 1) := by decide +kernel
theorem dX7_findFeeders_24 : decode cX7_findFeeders 24 = .ok (.aload_n 0, 1) := by decide +kernel
theorem dX7_findFeeders_25 : decode cX7_findFeeders 25 = .ok (.getfield 86, 3) := by decide +kernel
theorem dX7_findFeeders_28 : decode cX7_findFeeders 28 = .ok (.if_icmp .ge 41, 3) := by decide +kernel
theorem dX7_findFeeders_31 : decode cX7_findFeeders 31 = .ok (.aload_n 0, 1) := by decide +kernel
theorem dX7_findFeeders_32 : decode cX7_findFeeders 32 = .ok (.getfield 59, 3) := by decide +kernel
theorem dX7_findFeeders_35 : decode cX7_findFeeders 35 = .ok (.iload_n 2, 1) := by decide +kernel
theorem dX7_findFeeders_36 : decode cX7_findFeeders 36 = .ok (.iaload, 1) := by decide +kernel
theorem dX7_findFeeders_37 : decode cX7_findFeeders 37 = .ok (.iload_n 1, 1) := by decide +kernel
theorem dX7_findFeeders_38 : decode cX7_findFeeders 38 = .ok (.if_icmp .ne 25, 3) := by decide +kernel
theorem dX7_findFeeders_41 : decode cX7_findFeeders 41 = .ok (.aload_n 0, 1) := by decide +kernel
theorem dX7_findFeeders_42 : decode cX7_findFeeders 42 = .ok (.getfield 16, 3) := by decide +kernel
theorem dX7_findFeeders_45 : decode cX7_findFeeders 45 = .ok (.iload_n 2, 1) := by decide +kernel
theorem dX7_findFeeders_46 : decode cX7_findFeeders 46 = .ok (.iaload, 1) := by decide +kernel
theorem dX7_findFeeders_47 : decode cX7_findFeeders 47 = .ok (.iconst (-1), 1) := by decide +kernel
theorem dX7_findFeeders_48 : decode cX7_findFeeders 48 = .ok (.if_icmp .eq 15, 3) := by decide +kernel
theorem dX7_findFeeders_51 : decode cX7_findFeeders 51 = .ok (.aload_n 0, 1) := by decide +kernel
theorem dX7_findFeeders_52 : decode cX7_findFeeders 52 = .ok (.iload_n 1, 1) := by decide +kernel
theorem dX7_findFeeders_53 : decode cX7_findFeeders 53 = .ok (.iload_n 2, 1) := by decide +kernel
theorem dX7_findFeeders_54 : decode cX7_findFeeders 54 = .ok (.aload_n 0, 1) := by decide +kernel
theorem dX7_findFeeders_55 : decode cX7_findFeeders 55 = .ok (.getfield 16, 3) := by decide +kernel
theorem dX7_findFeeders_58 : decode cX7_findFeeders 58 = .ok (.iload_n 2, 1) := by decide +kernel
theorem dX7_findFeeders_59 : decode cX7_findFeeders 59 = .ok (.iaload, 1) := by decide +kernel
theorem dX7_findFeeders_60 : decode cX7_findFeeders 60 = .ok (.invokevirtual 132, 3) := by decide +kernel
theorem dX7_findFeeders_63 : decode cX7_findFeeders 63 = .ok (.iinc 2 1, 3) := by decide +kernel
theorem dX7_findFeeders_66 : decode cX7_findFeeders 66 = .ok (.goto (-43), 3) := by decide +kernel
theorem dX7_findFeeders_69 : decode cX7_findFeeders 69 = .ok (.iconst 0, 1) := by decide +kernel
theorem dX7_findFeeders_70 : decode cX7_findFeeders 70 = .ok (.istore_n 2, 1) := by decide +kernel
theorem dX7_findFeeders_71 : decode cX7_findFeeders 71 = .ok (.iload_n 2, 1) := by decide +kernel
theorem dX7_findFeeders_72 : decode cX7_findFeeders 72 = .ok (.aload_n 0, 1) := by decide +kernel
theorem dX7_findFeeders_73 : decode cX7_findFeeders 73 = .ok (.getfield 86, 3) := by decide +kernel
theorem dX7_findFeeders_76 : decode cX7_findFeeders 76 = .ok (.if_icmp .ge 77, 3) := by decide +kernel
theorem dX7_findFeeders_79 : decode cX7_findFeeders 79 = .ok (.aload_n 0, 1) := by decide +kernel
theorem dX7_findFeeders_80 : decode cX7_findFeeders 80 = .ok (.getfield 59, 3) := by decide +kernel
theorem dX7_findFeeders_83 : decode cX7_findFeeders 83 = .ok (.iload_n 2, 1) := by decide +kernel
theorem dX7_findFeeders_84 : decode cX7_findFeeders 84 = .ok (.iaload, 1) := by decide +kernel
theorem dX7_findFeeders_85 : decode cX7_findFeeders 85 = .ok (.iload_n 1, 1) := by decide +kernel
theorem dX7_findFeeders_86 : decode cX7_findFeeders 86 = .ok (.if_icmp .ne 61, 3) := by decide +kernel
theorem dX7_findFeeders_89 : decode cX7_findFeeders 89 = .ok (.aload_n 0, 1) := by decide +kernel
theorem dX7_findFeeders_90 : decode cX7_findFeeders 90 = .ok (.getfield 16, 3) := by decide +kernel
theorem dX7_findFeeders_93 : decode cX7_findFeeders 93 = .ok (.iload_n 2, 1) := by decide +kernel
theorem dX7_findFeeders_94 : decode cX7_findFeeders 94 = .ok (.iaload, 1) := by decide +kernel
theorem dX7_findFeeders_95 : decode cX7_findFeeders 95 = .ok (.iconst (-1), 1) := by decide +kernel
theorem dX7_findFeeders_96 : decode cX7_findFeeders 96 = .ok (.if_icmp .eq 6, 3) := by decide +kernel
theorem dX7_findFeeders_99 : decode cX7_findFeeders 99 = .ok (.goto 48, 3) := by decide +kernel
theorem dX7_findFeeders_102 : decode cX7_findFeeders 102 = .ok (.iconst 0, 1) := by decide +kernel
theorem dX7_findFeeders_103 : decode cX7_findFeeders 103 = .ok (.istore_n 3, 1) := by decide +kernel
theorem dX7_findFeeders_104 : decode cX7_findFeeders 104 = .ok (.iload_n 3, 1) := by decide +kernel
theorem dX7_findFeeders_105 : decode cX7_findFeeders 105 = .ok (.aload_n 0, 1) := by decide +kernel
theorem dX7_findFeeders_106 : decode cX7_findFeeders 106 = .ok (.getfield 79, 3) := by decide +kernel
theorem dX7_findFeeders_109 : decode cX7_findFeeders 109 = .ok (.if_icmp .ge 23, 3) := by decide +kernel
theorem dX7_findFeeders_112 : decode cX7_findFeeders 112 = .ok (.aload_n 0, 1) := by decide +kernel
theorem dX7_findFeeders_113 : decode cX7_findFeeders 113 = .ok (.iload_n 3, 1) := by decide +kernel
theorem dX7_findFeeders_114 : decode cX7_findFeeders 114 = .ok (.aload_n 0, 1) := by decide +kernel
theorem dX7_findFeeders_115 : decode cX7_findFeeders 115 = .ok (.getfield 7, 3) := by decide +kernel
theorem dX7_findFeeders_118 : decode cX7_findFeeders 118 = .ok (.iload_n 2, 1) := by decide +kernel
theorem dX7_findFeeders_119 : decode cX7_findFeeders 119 = .ok (.iaload, 1) := by decide +kernel
theorem dX7_findFeeders_120 : decode cX7_findFeeders 120 = .ok (.invokevirtual 136, 3) := by decide +kernel
theorem dX7_findFeeders_123 : decode cX7_findFeeders 123 = .ok (.ifCond .ne 9, 3) := by decide +kernel
theorem dX7_findFeeders_126 : decode cX7_findFeeders 126 = .ok (.iinc 3 1, 3) := by decide +kernel
theorem dX7_findFeeders_129 : decode cX7_findFeeders 129 = .ok (.goto (-25), 3) := by decide +kernel
theorem dX7_findFeeders_132 : decode cX7_findFeeders 132 = .ok (.iload_n 3, 1) := by decide +kernel
theorem dX7_findFeeders_133 : decode cX7_findFeeders 133 = .ok (.aload_n 0, 1) := by decide +kernel
theorem dX7_findFeeders_134 : decode cX7_findFeeders 134 = .ok (.getfield 79, 3) := by decide +kernel
theorem dX7_findFeeders_137 : decode cX7_findFeeders 137 = .ok (.if_icmp .ge 10, 3) := by decide +kernel
theorem dX7_findFeeders_140 : decode cX7_findFeeders 140 = .ok (.aload_n 0, 1) := by decide +kernel
theorem dX7_findFeeders_141 : decode cX7_findFeeders 141 = .ok (.iload_n 1, 1) := by decide +kernel
theorem dX7_findFeeders_142 : decode cX7_findFeeders 142 = .ok (.iload_n 2, 1) := by decide +kernel
theorem dX7_findFeeders_143 : decode cX7_findFeeders 143 = .ok (.iload_n 3, 1) := by decide +kernel
theorem dX7_findFeeders_144 : decode cX7_findFeeders 144 = .ok (.invokevirtual 132, 3) := by decide +kernel
theorem dX7_findFeeders_147 : decode cX7_findFeeders 147 = .ok (.iinc 2 1, 3) := by decide +kernel
theorem dX7_findFeeders_150 : decode cX7_findFeeders 150 = .ok (.goto (-79), 3) := by decide +kernel
theorem dX7_findFeeders_153 : decode cX7_findFeeders 153 = .ok (.return_, 1) := by decide +kernel
abbrev cX7_isAhead : ByteArray := prog_9_method_22_code
def yX7_isAhead : MethodName := ⟨RX7, "isAhead", "(II)Z"⟩
theorem dX7_isAhead_0 : decode cX7_isAhead 0 = .ok (.aload_n 0, 1) := by decide +kernel
theorem dX7_isAhead_1 : decode cX7_isAhead 1 = .ok (.getfield 38, 3) := by decide +kernel
theorem dX7_isAhead_4 : decode cX7_isAhead 4 = .ok (.iload_n 1, 1) := by decide +kernel
theorem dX7_isAhead_5 : decode cX7_isAhead 5 = .ok (.laload, 1) := by decide +kernel
theorem dX7_isAhead_6 : decode cX7_isAhead 6 = .ok (.aload_n 0, 1) := by decide +kernel
theorem dX7_isAhead_7 : decode cX7_isAhead 7 = .ok (.getfield 38, 3) := by decide +kernel
theorem dX7_isAhead_10 : decode cX7_isAhead 10 = .ok (.iload_n 2, 1) := by decide +kernel
theorem dX7_isAhead_11 : decode cX7_isAhead 11 = .ok (.laload, 1) := by decide +kernel
theorem dX7_isAhead_12 : decode cX7_isAhead 12 = .ok (.lcmp, 1) := by decide +kernel
theorem dX7_isAhead_13 : decode cX7_isAhead 13 = .ok (.ifCond .eq 25, 3) := by decide +kernel
theorem dX7_isAhead_16 : decode cX7_isAhead 16 = .ok (.aload_n 0, 1) := by decide +kernel
theorem dX7_isAhead_17 : decode cX7_isAhead 17 = .ok (.getfield 38, 3) := by decide +kernel
theorem dX7_isAhead_20 : decode cX7_isAhead 20 = .ok (.iload_n 1, 1) := by decide +kernel
theorem dX7_isAhead_21 : decode cX7_isAhead 21 = .ok (.laload, 1) := by decide +kernel
theorem dX7_isAhead_22 : decode cX7_isAhead 22 = .ok (.aload_n 0, 1) := by decide +kernel
theorem dX7_isAhead_23 : decode cX7_isAhead 23 = .ok (.getfield 38, 3) := by decide +kernel
theorem dX7_isAhead_26 : decode cX7_isAhead 26 = .ok (.iload_n 2, 1) := by decide +kernel
theorem dX7_isAhead_27 : decode cX7_isAhead 27 = .ok (.laload, 1) := by decide +kernel
theorem dX7_isAhead_28 : decode cX7_isAhead 28 = .ok (.lcmp, 1) := by decide +kernel
theorem dX7_isAhead_29 : decode cX7_isAhead 29 = .ok (.ifCond .ge 7, 3) := by decide +kernel
theorem dX7_isAhead_32 : decode cX7_isAhead 32 = .ok (.iconst 1, 1) := by decide +kernel
theorem dX7_isAhead_33 : decode cX7_isAhead 33 = .ok (.goto 4, 3) := by decide +kernel
theorem dX7_isAhead_36 : decode cX7_isAhead 36 = .ok (.iconst 0, 1) := by decide +kernel
theorem dX7_isAhead_37 : decode cX7_isAhead 37 = .ok (.ireturn, 1) := by decide +kernel
theorem dX7_isAhead_38 : decode cX7_isAhead 38 = .ok (.aload_n 0, 1) := by decide +kernel
theorem dX7_isAhead_39 : decode cX7_isAhead 39 = .ok (.getfield 32, 3) := by decide +kernel
theorem dX7_isAhead_42 : decode cX7_isAhead 42 = .ok (.iload_n 1, 1) := by decide +kernel
theorem dX7_isAhead_43 : decode cX7_isAhead 43 = .ok (.laload, 1) := by decide +kernel
theorem dX7_isAhead_44 : decode cX7_isAhead 44 = .ok (.aload_n 0, 1) := by decide +kernel
theorem dX7_isAhead_45 : decode cX7_isAhead 45 = .ok (.getfield 32, 3) := by decide +kernel
theorem dX7_isAhead_48 : decode cX7_isAhead 48 = .ok (.iload_n 2, 1) := by decide +kernel
theorem dX7_isAhead_49 : decode cX7_isAhead 49 = .ok (.laload, 1) := by decide +kernel
theorem dX7_isAhead_50 : decode cX7_isAhead 50 = .ok (.lcmp, 1) := by decide +kernel
theorem dX7_isAhead_51 : decode cX7_isAhead 51 = .ok (.ifCond .eq 25, 3) := by decide +kernel
theorem dX7_isAhead_54 : decode cX7_isAhead 54 = .ok (.aload_n 0, 1) := by decide +kernel
theorem dX7_isAhead_55 : decode cX7_isAhead 55 = .ok (.getfield 32, 3) := by decide +kernel
theorem dX7_isAhead_58 : decode cX7_isAhead 58 = .ok (.iload_n 1, 1) := by decide +kernel
theorem dX7_isAhead_59 : decode cX7_isAhead 59 = .ok (.laload, 1) := by decide +kernel
theorem dX7_isAhead_60 : decode cX7_isAhead 60 = .ok (.aload_n 0, 1) := by decide +kernel
theorem dX7_isAhead_61 : decode cX7_isAhead 61 = .ok (.getfield 32, 3) := by decide +kernel
theorem dX7_isAhead_64 : decode cX7_isAhead 64 = .ok (.iload_n 2, 1) := by decide +kernel
theorem dX7_isAhead_65 : decode cX7_isAhead 65 = .ok (.laload, 1) := by decide +kernel
theorem dX7_isAhead_66 : decode cX7_isAhead 66 = .ok (.lcmp, 1) := by decide +kernel
theorem dX7_isAhead_67 : decode cX7_isAhead 67 = .ok (.ifCond .ge 7, 3) := by decide +kernel
theorem dX7_isAhead_70 : decode cX7_isAhead 70 = .ok (.iconst 1, 1) := by decide +kernel
theorem dX7_isAhead_71 : decode cX7_isAhead 71 = .ok (.goto 4, 3) := by decide +kernel
theorem dX7_isAhead_74 : decode cX7_isAhead 74 = .ok (.iconst 0, 1) := by decide +kernel
theorem dX7_isAhead_75 : decode cX7_isAhead 75 = .ok (.ireturn, 1) := by decide +kernel
theorem dX7_isAhead_76 : decode cX7_isAhead 76 = .ok (.aload_n 0, 1) := by decide +kernel
theorem dX7_isAhead_77 : decode cX7_isAhead 77 = .ok (.getfield 35, 3) := by decide +kernel
theorem dX7_isAhead_80 : decode cX7_isAhead 80 = .ok (.iload_n 1, 1) := by decide +kernel
theorem dX7_isAhead_81 : decode cX7_isAhead 81 = .ok (.laload, 1) := by decide +kernel
theorem dX7_isAhead_82 : decode cX7_isAhead 82 = .ok (.aload_n 0, 1) := by decide +kernel
theorem dX7_isAhead_83 : decode cX7_isAhead 83 = .ok (.getfield 35, 3) := by decide +kernel
theorem dX7_isAhead_86 : decode cX7_isAhead 86 = .ok (.iload_n 2, 1) := by decide +kernel
theorem dX7_isAhead_87 : decode cX7_isAhead 87 = .ok (.laload, 1) := by decide +kernel
theorem dX7_isAhead_88 : decode cX7_isAhead 88 = .ok (.lcmp, 1) := by decide +kernel
theorem dX7_isAhead_89 : decode cX7_isAhead 89 = .ok (.ifCond .eq 27, 3) := by decide +kernel
theorem dX7_isAhead_92 : decode cX7_isAhead 92 = .ok (.aload_n 0, 1) := by decide +kernel
theorem dX7_isAhead_93 : decode cX7_isAhead 93 = .ok (.getfield 35, 3) := by decide +kernel
theorem dX7_isAhead_96 : decode cX7_isAhead 96 = .ok (.iload_n 1, 1) := by decide +kernel
theorem dX7_isAhead_97 : decode cX7_isAhead 97 = .ok (.laload, 1) := by decide +kernel
theorem dX7_isAhead_98 : decode cX7_isAhead 98 = .ok (.aload_n 0, 1) := by decide +kernel
theorem dX7_isAhead_99 : decode cX7_isAhead 99 = .ok (.getfield 35, 3) := by decide +kernel
theorem dX7_isAhead_102 : decode cX7_isAhead 102 = .ok (.iload_n 2, 1) := by decide +kernel
theorem dX7_isAhead_103 : decode cX7_isAhead 103 = .ok (.laload, 1) := by decide +kernel
theorem dX7_isAhead_104 : decode cX7_isAhead 104 = .ok (.lcmp, 1) := by decide +kernel
theorem dX7_isAhead_105 : decode cX7_isAhead 105 = .ok (.ifCond .ge 7, 3) := by decide +kernel
theorem dX7_isAhead_108 : decode cX7_isAhead 108 = .ok (.iconst 1, 1) := by decide +kernel
theorem dX7_isAhead_109 : decode cX7_isAhead 109 = .ok (.goto 17, 3) := by decide +kernel
theorem dX7_isAhead_112 : decode cX7_isAhead 112 = .ok (.iconst 0, 1) := by decide +kernel
theorem dX7_isAhead_113 : decode cX7_isAhead 113 = .ok (.goto 13, 3) := by decide +kernel
theorem dX7_isAhead_116 : decode cX7_isAhead 116 = .ok (.iload_n 1, 1) := by decide +kernel
theorem dX7_isAhead_117 : decode cX7_isAhead 117 = .ok (.iload_n 2, 1) := by decide +kernel
theorem dX7_isAhead_118 : decode cX7_isAhead 118 = .ok (.if_icmp .ge 7, 3) := by decide +kernel
theorem dX7_isAhead_121 : decode cX7_isAhead 121 = .ok (.iconst 1, 1) := by decide +kernel
theorem dX7_isAhead_122 : decode cX7_isAhead 122 = .ok (.goto 4, 3) := by decide +kernel
theorem dX7_isAhead_125 : decode cX7_isAhead 125 = .ok (.iconst 0, 1) := by decide +kernel
theorem dX7_isAhead_126 : decode cX7_isAhead 126 = .ok (.ireturn, 1) := by decide +kernel
abbrev cX7_line : ByteArray := prog_9_method_23_code
def yX7_line : MethodName := ⟨RX7, "line", "(I)V"⟩
theorem dX7_line_0 : decode cX7_line 0 = .ok (.aload_n 0, 1) := by decide +kernel
theorem dX7_line_1 : decode cX7_line 1 = .ok (.getfield 50, 3) := by decide +kernel
theorem dX7_line_4 : decode cX7_line 4 = .ok (.iload_n 1, 1) := by decide +kernel
theorem dX7_line_5 : decode cX7_line 5 = .ok (.iconst 0, 1) := by decide +kernel
theorem dX7_line_6 : decode cX7_line 6 = .ok (.iastore, 1) := by decide +kernel
theorem dX7_line_7 : decode cX7_line 7 = .ok (.iconst 0, 1) := by decide +kernel
theorem dX7_line_8 : decode cX7_line 8 = .ok (.istore_n 2, 1) := by decide +kernel
theorem dX7_line_9 : decode cX7_line 9 = .ok (.iload_n 2, 1) := by decide +kernel
theorem dX7_line_10 : decode cX7_line 10 = .ok (.aload_n 0, 1) := by decide +kernel
theorem dX7_line_11 : decode cX7_line 11 = .ok (.getfield 89, 3) := by decide +kernel
theorem dX7_line_14 : decode cX7_line 14 = .ok (.if_icmp .ge 120, 3) := by decide +kernel
theorem dX7_line_17 : decode cX7_line 17 = .ok (.aload_n 0, 1) := by decide +kernel
theorem dX7_line_18 : decode cX7_line 18 = .ok (.getfield 59, 3) := by decide +kernel
theorem dX7_line_21 : decode cX7_line 21 = .ok (.aload_n 0, 1) := by decide +kernel
theorem dX7_line_22 : decode cX7_line 22 = .ok (.getfield 29, 3) := by decide +kernel
theorem dX7_line_25 : decode cX7_line 25 = .ok (.iload_n 2, 1) := by decide +kernel
theorem dX7_line_26 : decode cX7_line 26 = .ok (.iaload, 1) := by decide +kernel
theorem dX7_line_27 : decode cX7_line 27 = .ok (.iaload, 1) := by decide +kernel
theorem dX7_line_28 : decode cX7_line 28 = .ok (.iload_n 1, 1) := by decide +kernel
theorem dX7_line_29 : decode cX7_line 29 = .ok (.if_icmp .ne 99, 3) := by decide +kernel
theorem dX7_line_32 : decode cX7_line 32 = .ok (.aload_n 0, 1) := by decide +kernel
theorem dX7_line_33 : decode cX7_line 33 = .ok (.getfield 47, 3) := by decide +kernel
theorem dX7_line_36 : decode cX7_line 36 = .ok (.bipush 10, 2) := by decide +kernel
theorem dX7_line_38 : decode cX7_line 38 = .ok (.iload_n 1, 1) := by decide +kernel
theorem dX7_line_39 : decode cX7_line 39 = .ok (.imul, 1) := by decide +kernel
theorem dX7_line_40 : decode cX7_line 40 = .ok (.aload_n 0, 1) := by decide +kernel
theorem dX7_line_41 : decode cX7_line 41 = .ok (.getfield 29, 3) := by decide +kernel
theorem dX7_line_44 : decode cX7_line 44 = .ok (.iload_n 2, 1) := by decide +kernel
theorem dX7_line_45 : decode cX7_line 45 = .ok (.iaload, 1) := by decide +kernel
theorem dX7_line_46 : decode cX7_line 46 = .ok (.iadd, 1) := by decide +kernel
theorem dX7_line_47 : decode cX7_line 47 = .ok (.iaload, 1) := by decide +kernel
theorem dX7_line_48 : decode cX7_line 48 = .ok (.iconst (-1), 1) := by decide +kernel
theorem dX7_line_49 : decode cX7_line 49 = .ok (.if_icmp .ne 6, 3) := by decide +kernel
theorem dX7_line_52 : decode cX7_line 52 = .ok (.goto 76, 3) := by decide +kernel
theorem dX7_line_55 : decode cX7_line 55 = .ok (.bipush 40, 2) := by decide +kernel
theorem dX7_line_57 : decode cX7_line 57 = .ok (.iload_n 1, 1) := by decide +kernel
theorem dX7_line_58 : decode cX7_line 58 = .ok (.imul, 1) := by decide +kernel
theorem dX7_line_59 : decode cX7_line 59 = .ok (.aload_n 0, 1) := by decide +kernel
theorem dX7_line_60 : decode cX7_line 60 = .ok (.getfield 50, 3) := by decide +kernel
theorem dX7_line_63 : decode cX7_line 63 = .ok (.iload_n 1, 1) := by decide +kernel
theorem dX7_line_64 : decode cX7_line 64 = .ok (.iaload, 1) := by decide +kernel
theorem dX7_line_65 : decode cX7_line 65 = .ok (.iadd, 1) := by decide +kernel
theorem dX7_line_66 : decode cX7_line 66 = .ok (.istore_n 3, 1) := by decide +kernel
theorem dX7_line_67 : decode cX7_line 67 = .ok (.iload_n 3, 1) := by decide +kernel
theorem dX7_line_68 : decode cX7_line 68 = .ok (.bipush 40, 2) := by decide +kernel
theorem dX7_line_70 : decode cX7_line 70 = .ok (.iload_n 1, 1) := by decide +kernel
theorem dX7_line_71 : decode cX7_line 71 = .ok (.imul, 1) := by decide +kernel
theorem dX7_line_72 : decode cX7_line 72 = .ok (.if_icmp .le 39, 3) := by decide +kernel
theorem dX7_line_75 : decode cX7_line 75 = .ok (.aload_n 0, 1) := by decide +kernel
theorem dX7_line_76 : decode cX7_line 76 = .ok (.iload_n 2, 1) := by decide +kernel
theorem dX7_line_77 : decode cX7_line 77 = .ok (.aload_n 0, 1) := by decide +kernel
theorem dX7_line_78 : decode cX7_line 78 = .ok (.getfield 53, 3) := by decide +kernel
theorem dX7_line_81 : decode cX7_line 81 = .ok (.iload_n 3, 1) := by decide +kernel
theorem dX7_line_82 : decode cX7_line 82 = .ok (.iconst 1, 1) := by decide +kernel
theorem dX7_line_83 : decode cX7_line 83 = .ok (.isub, 1) := by decide +kernel
theorem dX7_line_84 : decode cX7_line 84 = .ok (.iaload, 1) := by decide +kernel
theorem dX7_line_85 : decode cX7_line 85 = .ok (.invokevirtual 139, 3) := by decide +kernel
theorem dX7_line_88 : decode cX7_line 88 = .ok (.ifCond .eq 23, 3) := by decide +kernel
theorem dX7_line_91 : decode cX7_line 91 = .ok (.aload_n 0, 1) := by decide +kernel
theorem dX7_line_92 : decode cX7_line 92 = .ok (.getfield 53, 3) := by decide +kernel
theorem dX7_line_95 : decode cX7_line 95 = .ok (.iload_n 3, 1) := by decide +kernel
theorem dX7_line_96 : decode cX7_line 96 = .ok (.aload_n 0, 1) := by decide +kernel
theorem dX7_line_97 : decode cX7_line 97 = .ok (.getfield 53, 3) := by decide +kernel
theorem dX7_line_100 : decode cX7_line 100 = .ok (.iload_n 3, 1) := by decide +kernel
theorem dX7_line_101 : decode cX7_line 101 = .ok (.iconst 1, 1) := by decide +kernel
theorem dX7_line_102 : decode cX7_line 102 = .ok (.isub, 1) := by decide +kernel
theorem dX7_line_103 : decode cX7_line 103 = .ok (.iaload, 1) := by decide +kernel
theorem dX7_line_104 : decode cX7_line 104 = .ok (.iastore, 1) := by decide +kernel
theorem dX7_line_105 : decode cX7_line 105 = .ok (.iinc 3 (-1), 3) := by decide +kernel
theorem dX7_line_108 : decode cX7_line 108 = .ok (.goto (-41), 3) := by decide +kernel
theorem dX7_line_111 : decode cX7_line 111 = .ok (.aload_n 0, 1) := by decide +kernel
theorem dX7_line_112 : decode cX7_line 112 = .ok (.getfield 53, 3) := by decide +kernel
theorem dX7_line_115 : decode cX7_line 115 = .ok (.iload_n 3, 1) := by decide +kernel
theorem dX7_line_116 : decode cX7_line 116 = .ok (.iload_n 2, 1) := by decide +kernel
theorem dX7_line_117 : decode cX7_line 117 = .ok (.iastore, 1) := by decide +kernel
theorem dX7_line_118 : decode cX7_line 118 = .ok (.aload_n 0, 1) := by decide +kernel
theorem dX7_line_119 : decode cX7_line 119 = .ok (.getfield 50, 3) := by decide +kernel
theorem dX7_line_122 : decode cX7_line 122 = .ok (.iload_n 1, 1) := by decide +kernel
theorem dX7_line_123 : decode cX7_line 123 = .ok (.dup2, 1) := by decide +kernel
theorem dX7_line_124 : decode cX7_line 124 = .ok (.iaload, 1) := by decide +kernel
theorem dX7_line_125 : decode cX7_line 125 = .ok (.iconst 1, 1) := by decide +kernel
theorem dX7_line_126 : decode cX7_line 126 = .ok (.iadd, 1) := by decide +kernel
theorem dX7_line_127 : decode cX7_line 127 = .ok (.iastore, 1) := by decide +kernel
theorem dX7_line_128 : decode cX7_line 128 = .ok (.iinc 2 1, 3) := by decide +kernel
theorem dX7_line_131 : decode cX7_line 131 = .ok (.goto (-122), 3) := by decide +kernel
theorem dX7_line_134 : decode cX7_line 134 = .ok (.return_, 1) := by decide +kernel
abbrev cX7_size : ByteArray := prog_9_method_24_code
def yX7_size : MethodName := ⟨RX7, "size", "(J)J"⟩
theorem dX7_size_0 : decode cX7_size 0 = .ok (.lload_n 0, 1) := by decide +kernel
theorem dX7_size_1 : decode cX7_size 1 = .ok (.lconst 0, 1) := by decide +kernel
theorem dX7_size_2 : decode cX7_size 2 = .ok (.lcmp, 1) := by decide +kernel
theorem dX7_size_3 : decode cX7_size 3 = .ok (.ifCond .ge 9, 3) := by decide +kernel
theorem dX7_size_6 : decode cX7_size 6 = .ok (.lconst 0, 1) := by decide +kernel
theorem dX7_size_7 : decode cX7_size 7 = .ok (.lload_n 0, 1) := by decide +kernel
theorem dX7_size_8 : decode cX7_size 8 = .ok (.lsub, 1) := by decide +kernel
theorem dX7_size_9 : decode cX7_size 9 = .ok (.goto 4, 3) := by decide +kernel
theorem dX7_size_12 : decode cX7_size 12 = .ok (.lload_n 0, 1) := by decide +kernel
theorem dX7_size_13 : decode cX7_size 13 = .ok (.lreturn, 1) := by decide +kernel
abbrev cX7_greater : ByteArray := prog_9_method_25_code
def yX7_greater : MethodName := ⟨RX7, "greater", "(JJ)J"⟩
theorem dX7_greater_0 : decode cX7_greater 0 = .ok (.lload_n 0, 1) := by decide +kernel
theorem dX7_greater_1 : decode cX7_greater 1 = .ok (.lload_n 2, 1) := by decide +kernel
theorem dX7_greater_2 : decode cX7_greater 2 = .ok (.lcmp, 1) := by decide +kernel
theorem dX7_greater_3 : decode cX7_greater 3 = .ok (.ifCond .le 7, 3) := by decide +kernel
theorem dX7_greater_6 : decode cX7_greater 6 = .ok (.lload_n 0, 1) := by decide +kernel
theorem dX7_greater_7 : decode cX7_greater 7 = .ok (.goto 4, 3) := by decide +kernel
theorem dX7_greater_10 : decode cX7_greater 10 = .ok (.lload_n 2, 1) := by decide +kernel
theorem dX7_greater_11 : decode cX7_greater 11 = .ok (.lreturn, 1) := by decide +kernel
abbrev cX7_fromHome : ByteArray := prog_9_method_26_code
def yX7_fromHome : MethodName := ⟨RX7, "fromHome", "(I)J"⟩
theorem dX7_fromHome_0 : decode cX7_fromHome 0 = .ok (.aload_n 0, 1) := by decide +kernel
theorem dX7_fromHome_1 : decode cX7_fromHome 1 = .ok (.getfield 32, 3) := by decide +kernel
theorem dX7_fromHome_4 : decode cX7_fromHome 4 = .ok (.iload_n 1, 1) := by decide +kernel
theorem dX7_fromHome_5 : decode cX7_fromHome 5 = .ok (.laload, 1) := by decide +kernel
theorem dX7_fromHome_6 : decode cX7_fromHome 6 = .ok (.aload_n 0, 1) := by decide +kernel
theorem dX7_fromHome_7 : decode cX7_fromHome 7 = .ok (.getfield 35, 3) := by decide +kernel
theorem dX7_fromHome_10 : decode cX7_fromHome 10 = .ok (.iload_n 1, 1) := by decide +kernel
theorem dX7_fromHome_11 : decode cX7_fromHome 11 = .ok (.laload, 1) := by decide +kernel
theorem dX7_fromHome_12 : decode cX7_fromHome 12 = .ok (.invokestatic 142, 3) := by decide +kernel
theorem dX7_fromHome_15 : decode cX7_fromHome 15 = .ok (.lreturn, 1) := by decide +kernel
abbrev cX7_between : ByteArray := prog_9_method_27_code
def yX7_between : MethodName := ⟨RX7, "between", "(II)J"⟩
theorem dX7_between_0 : decode cX7_between 0 = .ok (.aload_n 0, 1) := by decide +kernel
theorem dX7_between_1 : decode cX7_between 1 = .ok (.getfield 32, 3) := by decide +kernel
theorem dX7_between_4 : decode cX7_between 4 = .ok (.iload_n 1, 1) := by decide +kernel
theorem dX7_between_5 : decode cX7_between 5 = .ok (.laload, 1) := by decide +kernel
theorem dX7_between_6 : decode cX7_between 6 = .ok (.aload_n 0, 1) := by decide +kernel
theorem dX7_between_7 : decode cX7_between 7 = .ok (.getfield 32, 3) := by decide +kernel
theorem dX7_between_10 : decode cX7_between 10 = .ok (.iload_n 2, 1) := by decide +kernel
theorem dX7_between_11 : decode cX7_between 11 = .ok (.laload, 1) := by decide +kernel
theorem dX7_between_12 : decode cX7_between 12 = .ok (.lsub, 1) := by decide +kernel
theorem dX7_between_13 : decode cX7_between 13 = .ok (.invokestatic 146, 3) := by decide +kernel
theorem dX7_between_16 : decode cX7_between 16 = .ok (.aload_n 0, 1) := by decide +kernel
theorem dX7_between_17 : decode cX7_between 17 = .ok (.getfield 35, 3) := by decide +kernel
theorem dX7_between_20 : decode cX7_between 20 = .ok (.iload_n 1, 1) := by decide +kernel
theorem dX7_between_21 : decode cX7_between 21 = .ok (.laload, 1) := by decide +kernel
theorem dX7_between_22 : decode cX7_between 22 = .ok (.aload_n 0, 1) := by decide +kernel
theorem dX7_between_23 : decode cX7_between 23 = .ok (.getfield 35, 3) := by decide +kernel
theorem dX7_between_26 : decode cX7_between 26 = .ok (.iload_n 2, 1) := by decide +kernel
theorem dX7_between_27 : decode cX7_between 27 = .ok (.laload, 1) := by decide +kernel
theorem dX7_between_28 : decode cX7_between 28 = .ok (.lsub, 1) := by decide +kernel
theorem dX7_between_29 : decode cX7_between 29 = .ok (.invokestatic 146, 3) := by decide +kernel
theorem dX7_between_32 : decode cX7_between 32 = .ok (.invokestatic 142, 3) := by decide +kernel
theorem dX7_between_35 : decode cX7_between 35 = .ok (.lreturn, 1) := by decide +kernel
abbrev cX7_mayCome : ByteArray := prog_9_method_28_code
def yX7_mayCome : MethodName := ⟨RX7, "mayCome", "(II)Z"⟩
theorem dX7_mayCome_0 : decode cX7_mayCome 0 = .ok (.iload_n 1, 1) := by decide +kernel
theorem dX7_mayCome_1 : decode cX7_mayCome 1 = .ok (.iload_n 2, 1) := by decide +kernel
theorem dX7_mayCome_2 : decode cX7_mayCome 2 = .ok (.ishr, 1) := by decide +kernel
theorem dX7_mayCome_3 : decode cX7_mayCome 3 = .ok (.iconst 1, 1) := by decide +kernel
theorem dX7_mayCome_4 : decode cX7_mayCome 4 = .ok (.iand, 1) := by decide +kernel
theorem dX7_mayCome_5 : decode cX7_mayCome 5 = .ok (.ifCond .ne 7, 3) := by decide +kernel
theorem dX7_mayCome_8 : decode cX7_mayCome 8 = .ok (.iconst 1, 1) := by decide +kernel
theorem dX7_mayCome_9 : decode cX7_mayCome 9 = .ok (.goto 4, 3) := by decide +kernel
theorem dX7_mayCome_12 : decode cX7_mayCome 12 = .ok (.iconst 0, 1) := by decide +kernel
theorem dX7_mayCome_13 : decode cX7_mayCome 13 = .ok (.istore_n 3, 1) := by decide +kernel
theorem dX7_mayCome_14 : decode cX7_mayCome 14 = .ok (.iconst 0, 1) := by decide +kernel
theorem dX7_mayCome_15 : decode cX7_mayCome 15 = .ok (.istore 4, 2) := by decide +kernel
theorem dX7_mayCome_17 : decode cX7_mayCome 17 = .ok (.iload 4, 2) := by decide +kernel
theorem dX7_mayCome_19 : decode cX7_mayCome 19 = .ok (.aload_n 0, 1) := by decide +kernel
theorem dX7_mayCome_20 : decode cX7_mayCome 20 = .ok (.getfield 150, 3) := by decide +kernel
theorem dX7_mayCome_23 : decode cX7_mayCome 23 = .ok (.if_icmp .ge 56, 3) := by decide +kernel
theorem dX7_mayCome_26 : decode cX7_mayCome 26 = .ok (.iload_n 3, 1) := by decide +kernel
theorem dX7_mayCome_27 : decode cX7_mayCome 27 = .ok (.ifCond .eq 44, 3) := by decide +kernel
theorem dX7_mayCome_30 : decode cX7_mayCome 30 = .ok (.iload_n 1, 1) := by decide +kernel
theorem dX7_mayCome_31 : decode cX7_mayCome 31 = .ok (.iload 4, 2) := by decide +kernel
theorem dX7_mayCome_33 : decode cX7_mayCome 33 = .ok (.ishr, 1) := by decide +kernel
theorem dX7_mayCome_34 : decode cX7_mayCome 34 = .ok (.iconst 1, 1) := by decide +kernel
theorem dX7_mayCome_35 : decode cX7_mayCome 35 = .ok (.iand, 1) := by decide +kernel
theorem dX7_mayCome_36 : decode cX7_mayCome 36 = .ok (.iconst 1, 1) := by decide +kernel
theorem dX7_mayCome_37 : decode cX7_mayCome 37 = .ok (.if_icmp .eq 30, 3) := by decide +kernel
theorem dX7_mayCome_40 : decode cX7_mayCome 40 = .ok (.aload_n 0, 1) := by decide +kernel
theorem dX7_mayCome_41 : decode cX7_mayCome 41 = .ok (.getfield 38, 3) := by decide +kernel
theorem dX7_mayCome_44 : decode cX7_mayCome 44 = .ok (.aload_n 0, 1) := by decide +kernel
theorem dX7_mayCome_45 : decode cX7_mayCome 45 = .ok (.getfield 66, 3) := by decide +kernel
theorem dX7_mayCome_48 : decode cX7_mayCome 48 = .ok (.iload 4, 2) := by decide +kernel
theorem dX7_mayCome_50 : decode cX7_mayCome 50 = .ok (.iaload, 1) := by decide +kernel
theorem dX7_mayCome_51 : decode cX7_mayCome 51 = .ok (.laload, 1) := by decide +kernel
theorem dX7_mayCome_52 : decode cX7_mayCome 52 = .ok (.aload_n 0, 1) := by decide +kernel
theorem dX7_mayCome_53 : decode cX7_mayCome 53 = .ok (.getfield 38, 3) := by decide +kernel
theorem dX7_mayCome_56 : decode cX7_mayCome 56 = .ok (.aload_n 0, 1) := by decide +kernel
theorem dX7_mayCome_57 : decode cX7_mayCome 57 = .ok (.getfield 66, 3) := by decide +kernel
theorem dX7_mayCome_60 : decode cX7_mayCome 60 = .ok (.iload_n 2, 1) := by decide +kernel
theorem dX7_mayCome_61 : decode cX7_mayCome 61 = .ok (.iaload, 1) := by decide +kernel
theorem dX7_mayCome_62 : decode cX7_mayCome 62 = .ok (.laload, 1) := by decide +kernel
theorem dX7_mayCome_63 : decode cX7_mayCome 63 = .ok (.lcmp, 1) := by decide +kernel
theorem dX7_mayCome_64 : decode cX7_mayCome 64 = .ok (.ifCond .lt 7, 3) := by decide +kernel
theorem dX7_mayCome_67 : decode cX7_mayCome 67 = .ok (.iconst 1, 1) := by decide +kernel
theorem dX7_mayCome_68 : decode cX7_mayCome 68 = .ok (.goto 4, 3) := by decide +kernel
theorem dX7_mayCome_71 : decode cX7_mayCome 71 = .ok (.iconst 0, 1) := by decide +kernel
theorem dX7_mayCome_72 : decode cX7_mayCome 72 = .ok (.istore_n 3, 1) := by decide +kernel
theorem dX7_mayCome_73 : decode cX7_mayCome 73 = .ok (.iinc 4 1, 3) := by decide +kernel
theorem dX7_mayCome_76 : decode cX7_mayCome 76 = .ok (.goto (-59), 3) := by decide +kernel
theorem dX7_mayCome_79 : decode cX7_mayCome 79 = .ok (.iload_n 3, 1) := by decide +kernel
theorem dX7_mayCome_80 : decode cX7_mayCome 80 = .ok (.ireturn, 1) := by decide +kernel
abbrev cX7_measure : ByteArray := prog_9_method_29_code
def yX7_measure : MethodName := ⟨RX7, "measure", "()V"⟩
theorem dX7_measure_0 : decode cX7_measure 0 = .ok (.iconst 1, 1) := by decide +kernel
theorem dX7_measure_1 : decode cX7_measure 1 = .ok (.aload_n 0, 1) := by decide +kernel
theorem dX7_measure_2 : decode cX7_measure 2 = .ok (.getfield 150, 3) := by decide +kernel
theorem dX7_measure_5 : decode cX7_measure 5 = .ok (.ishl, 1) := by decide +kernel
theorem dX7_measure_6 : decode cX7_measure 6 = .ok (.iconst 1, 1) := by decide +kernel
theorem dX7_measure_7 : decode cX7_measure 7 = .ok (.isub, 1) := by decide +kernel
theorem dX7_measure_8 : decode cX7_measure 8 = .ok (.istore_n 1, 1) := by decide +kernel
theorem dX7_measure_9 : decode cX7_measure 9 = .ok (.iload_n 1, 1) := by decide +kernel
theorem dX7_measure_10 : decode cX7_measure 10 = .ok (.istore_n 2, 1) := by decide +kernel
theorem dX7_measure_11 : decode cX7_measure 11 = .ok (.iload_n 2, 1) := by decide +kernel
theorem dX7_measure_12 : decode cX7_measure 12 = .ok (.ifCond .le 157, 3) := by decide +kernel
theorem dX7_measure_15 : decode cX7_measure 15 = .ok (.iconst 0, 1) := by decide +kernel
theorem dX7_measure_16 : decode cX7_measure 16 = .ok (.istore_n 3, 1) := by decide +kernel
theorem dX7_measure_17 : decode cX7_measure 17 = .ok (.iload_n 3, 1) := by decide +kernel
theorem dX7_measure_18 : decode cX7_measure 18 = .ok (.aload_n 0, 1) := by decide +kernel
theorem dX7_measure_19 : decode cX7_measure 19 = .ok (.getfield 150, 3) := by decide +kernel
theorem dX7_measure_22 : decode cX7_measure 22 = .ok (.if_icmp .ge 141, 3) := by decide +kernel
theorem dX7_measure_25 : decode cX7_measure 25 = .ok (.iload_n 2, 1) := by decide +kernel
theorem dX7_measure_26 : decode cX7_measure 26 = .ok (.iload_n 3, 1) := by decide +kernel
theorem dX7_measure_27 : decode cX7_measure 27 = .ok (.ishr, 1) := by decide +kernel
theorem dX7_measure_28 : decode cX7_measure 28 = .ok (.iconst 1, 1) := by decide +kernel
theorem dX7_measure_29 : decode cX7_measure 29 = .ok (.iand, 1) := by decide +kernel
theorem dX7_measure_30 : decode cX7_measure 30 = .ok (.ifCond .ne 6, 3) := by decide +kernel
theorem dX7_measure_33 : decode cX7_measure 33 = .ok (.goto 124, 3) := by decide +kernel
theorem dX7_measure_36 : decode cX7_measure 36 = .ok (.iload_n 2, 1) := by decide +kernel
theorem dX7_measure_37 : decode cX7_measure 37 = .ok (.iload_n 1, 1) := by decide +kernel
theorem dX7_measure_38 : decode cX7_measure 38 = .ok (.if_icmp .ne 16, 3) := by decide +kernel
theorem dX7_measure_41 : decode cX7_measure 41 = .ok (.aload_n 0, 1) := by decide +kernel
theorem dX7_measure_42 : decode cX7_measure 42 = .ok (.aload_n 0, 1) := by decide +kernel
theorem dX7_measure_43 : decode cX7_measure 43 = .ok (.getfield 66, 3) := by decide +kernel
theorem dX7_measure_46 : decode cX7_measure 46 = .ok (.iload_n 3, 1) := by decide +kernel
theorem dX7_measure_47 : decode cX7_measure 47 = .ok (.iaload, 1) := by decide +kernel
theorem dX7_measure_48 : decode cX7_measure 48 = .ok (.invokevirtual 152, 3) := by decide +kernel
theorem dX7_measure_51 : decode cX7_measure 51 = .ok (.goto 6, 3) := by decide +kernel
theorem dX7_measure_54 : decode cX7_measure 54 = .ok (.ldc2_w 156, 3) := by decide +kernel
theorem dX7_measure_57 : decode cX7_measure 57 = .ok (.lstore 4, 2) := by decide +kernel
theorem dX7_measure_59 : decode cX7_measure 59 = .ok (.iconst 0, 1) := by decide +kernel
theorem dX7_measure_60 : decode cX7_measure 60 = .ok (.istore 6, 2) := by decide +kernel
theorem dX7_measure_62 : decode cX7_measure 62 = .ok (.iload 6, 2) := by decide +kernel
theorem dX7_measure_64 : decode cX7_measure 64 = .ok (.aload_n 0, 1) := by decide +kernel
theorem dX7_measure_65 : decode cX7_measure 65 = .ok (.getfield 150, 3) := by decide +kernel
theorem dX7_measure_68 : decode cX7_measure 68 = .ok (.if_icmp .ge 76, 3) := by decide +kernel
theorem dX7_measure_71 : decode cX7_measure 71 = .ok (.aload_n 0, 1) := by decide +kernel
theorem dX7_measure_72 : decode cX7_measure 72 = .ok (.iload_n 2, 1) := by decide +kernel
theorem dX7_measure_73 : decode cX7_measure 73 = .ok (.iload 6, 2) := by decide +kernel
theorem dX7_measure_75 : decode cX7_measure 75 = .ok (.invokevirtual 158, 3) := by decide +kernel
theorem dX7_measure_78 : decode cX7_measure 78 = .ok (.ifCond .ne 6, 3) := by decide +kernel
theorem dX7_measure_81 : decode cX7_measure 81 = .ok (.goto 57, 3) := by decide +kernel
theorem dX7_measure_84 : decode cX7_measure 84 = .ok (.aload_n 0, 1) := by decide +kernel
theorem dX7_measure_85 : decode cX7_measure 85 = .ok (.aload_n 0, 1) := by decide +kernel
theorem dX7_measure_86 : decode cX7_measure 86 = .ok (.getfield 66, 3) := by decide +kernel
theorem dX7_measure_89 : decode cX7_measure 89 = .ok (.iload_n 3, 1) := by decide +kernel
theorem dX7_measure_90 : decode cX7_measure 90 = .ok (.iaload, 1) := by decide +kernel
theorem dX7_measure_91 : decode cX7_measure 91 = .ok (.aload_n 0, 1) := by decide +kernel
theorem dX7_measure_92 : decode cX7_measure 92 = .ok (.getfield 66, 3) := by decide +kernel
theorem dX7_measure_95 : decode cX7_measure 95 = .ok (.iload 6, 2) := by decide +kernel
theorem dX7_measure_97 : decode cX7_measure 97 = .ok (.iaload, 1) := by decide +kernel
theorem dX7_measure_98 : decode cX7_measure 98 = .ok (.invokevirtual 161, 3) := by decide +kernel
theorem dX7_measure_101 : decode cX7_measure 101 = .ok (.aload_n 0, 1) := by decide +kernel
theorem dX7_measure_102 : decode cX7_measure 102 = .ok (.getfield 69, 3) := by decide +kernel
theorem dX7_measure_105 : decode cX7_measure 105 = .ok (.bipush 6, 2) := by decide +kernel
theorem dX7_measure_107 : decode cX7_measure 107 = .ok (.iload_n 2, 1) := by decide +kernel
theorem dX7_measure_108 : decode cX7_measure 108 = .ok (.iconst 1, 1) := by decide +kernel
theorem dX7_measure_109 : decode cX7_measure 109 = .ok (.iload 6, 2) := by decide +kernel
theorem dX7_measure_111 : decode cX7_measure 111 = .ok (.ishl, 1) := by decide +kernel
theorem dX7_measure_112 : decode cX7_measure 112 = .ok (.ior, 1) := by decide +kernel
theorem dX7_measure_113 : decode cX7_measure 113 = .ok (.imul, 1) := by decide +kernel
theorem dX7_measure_114 : decode cX7_measure 114 = .ok (.iload 6, 2) := by decide +kernel
theorem dX7_measure_116 : decode cX7_measure 116 = .ok (.iadd, 1) := by decide +kernel
theorem dX7_measure_117 : decode cX7_measure 117 = .ok (.laload, 1) := by decide +kernel
theorem dX7_measure_118 : decode cX7_measure 118 = .ok (.ladd, 1) := by decide +kernel
theorem dX7_measure_119 : decode cX7_measure 119 = .ok (.lstore 7, 2) := by decide +kernel
theorem dX7_measure_121 : decode cX7_measure 121 = .ok (.lload 7, 2) := by decide +kernel
theorem dX7_measure_123 : decode cX7_measure 123 = .ok (.lload 4, 2) := by decide +kernel
theorem dX7_measure_125 : decode cX7_measure 125 = .ok (.lcmp, 1) := by decide +kernel
theorem dX7_measure_126 : decode cX7_measure 126 = .ok (.ifCond .ge 8, 3) := by decide +kernel
theorem dX7_measure_129 : decode cX7_measure 129 = .ok (.lload 7, 2) := by decide +kernel
theorem dX7_measure_131 : decode cX7_measure 131 = .ok (.goto 5, 3) := by decide +kernel
theorem dX7_measure_134 : decode cX7_measure 134 = .ok (.lload 4, 2) := by decide +kernel
theorem dX7_measure_136 : decode cX7_measure 136 = .ok (.lstore 4, 2) := by decide +kernel
theorem dX7_measure_138 : decode cX7_measure 138 = .ok (.iinc 6 1, 3) := by decide +kernel
theorem dX7_measure_141 : decode cX7_measure 141 = .ok (.goto (-79), 3) := by decide +kernel
theorem dX7_measure_144 : decode cX7_measure 144 = .ok (.aload_n 0, 1) := by decide +kernel
theorem dX7_measure_145 : decode cX7_measure 145 = .ok (.getfield 69, 3) := by decide +kernel
theorem dX7_measure_148 : decode cX7_measure 148 = .ok (.bipush 6, 2) := by decide +kernel
theorem dX7_measure_150 : decode cX7_measure 150 = .ok (.iload_n 2, 1) := by decide +kernel
theorem dX7_measure_151 : decode cX7_measure 151 = .ok (.imul, 1) := by decide +kernel
theorem dX7_measure_152 : decode cX7_measure 152 = .ok (.iload_n 3, 1) := by decide +kernel
theorem dX7_measure_153 : decode cX7_measure 153 = .ok (.iadd, 1) := by decide +kernel
theorem dX7_measure_154 : decode cX7_measure 154 = .ok (.lload 4, 2) := by decide +kernel
theorem dX7_measure_156 : decode cX7_measure 156 = .ok (.lastore, 1) := by decide +kernel
theorem dX7_measure_157 : decode cX7_measure 157 = .ok (.iinc 3 1, 3) := by decide +kernel
theorem dX7_measure_160 : decode cX7_measure 160 = .ok (.goto (-143), 3) := by decide +kernel
theorem dX7_measure_163 : decode cX7_measure 163 = .ok (.iinc 2 (-1), 3) := by decide +kernel
theorem dX7_measure_166 : decode cX7_measure 166 = .ok (.goto (-155), 3) := by decide +kernel
theorem dX7_measure_169 : decode cX7_measure 169 = .ok (.return_, 1) := by decide +kernel
abbrev cX7_arrange : ByteArray := prog_9_method_30_code
def yX7_arrange : MethodName := ⟨RX7, "arrange", "(II)V"⟩
theorem dX7_arrange_0 : decode cX7_arrange 0 = .ok (.bipush 40, 2) := by decide +kernel
theorem dX7_arrange_2 : decode cX7_arrange 2 = .ok (.iload_n 1, 1) := by decide +kernel
theorem dX7_arrange_3 : decode cX7_arrange 3 = .ok (.imul, 1) := by decide +kernel
theorem dX7_arrange_4 : decode cX7_arrange 4 = .ok (.iload_n 2, 1) := by decide +kernel
theorem dX7_arrange_5 : decode cX7_arrange 5 = .ok (.iadd, 1) := by decide +kernel
theorem dX7_arrange_6 : decode cX7_arrange 6 = .ok (.istore_n 3, 1) := by decide +kernel
theorem dX7_arrange_7 : decode cX7_arrange 7 = .ok (.aload_n 0, 1) := by decide +kernel
theorem dX7_arrange_8 : decode cX7_arrange 8 = .ok (.aload_n 0, 1) := by decide +kernel
theorem dX7_arrange_9 : decode cX7_arrange 9 = .ok (.getfield 50, 3) := by decide +kernel
theorem dX7_arrange_12 : decode cX7_arrange 12 = .ok (.iload_n 1, 1) := by decide +kernel
theorem dX7_arrange_13 : decode cX7_arrange 13 = .ok (.iaload, 1) := by decide +kernel
theorem dX7_arrange_14 : decode cX7_arrange 14 = .ok (.iload_n 2, 1) := by decide +kernel
theorem dX7_arrange_15 : decode cX7_arrange 15 = .ok (.isub, 1) := by decide +kernel
theorem dX7_arrange_16 : decode cX7_arrange 16 = .ok (.aload_n 0, 1) := by decide +kernel
theorem dX7_arrange_17 : decode cX7_arrange 17 = .ok (.getfield 44, 3) := by decide +kernel
theorem dX7_arrange_20 : decode cX7_arrange 20 = .ok (.iload_n 1, 1) := by decide +kernel
theorem dX7_arrange_21 : decode cX7_arrange 21 = .ok (.iaload, 1) := by decide +kernel
theorem dX7_arrange_22 : decode cX7_arrange 22 = .ok (.if_icmp .ge 14, 3) := by decide +kernel
theorem dX7_arrange_25 : decode cX7_arrange 25 = .ok (.aload_n 0, 1) := by decide +kernel
theorem dX7_arrange_26 : decode cX7_arrange 26 = .ok (.getfield 50, 3) := by decide +kernel
theorem dX7_arrange_29 : decode cX7_arrange 29 = .ok (.iload_n 1, 1) := by decide +kernel
theorem dX7_arrange_30 : decode cX7_arrange 30 = .ok (.iaload, 1) := by decide +kernel
theorem dX7_arrange_31 : decode cX7_arrange 31 = .ok (.iload_n 2, 1) := by decide +kernel
theorem dX7_arrange_32 : decode cX7_arrange 32 = .ok (.isub, 1) := by decide +kernel
theorem dX7_arrange_33 : decode cX7_arrange 33 = .ok (.goto 9, 3) := by decide +kernel
theorem dX7_arrange_36 : decode cX7_arrange 36 = .ok (.aload_n 0, 1) := by decide +kernel
theorem dX7_arrange_37 : decode cX7_arrange 37 = .ok (.getfield 44, 3) := by decide +kernel
theorem dX7_arrange_40 : decode cX7_arrange 40 = .ok (.iload_n 1, 1) := by decide +kernel
theorem dX7_arrange_41 : decode cX7_arrange 41 = .ok (.iaload, 1) := by decide +kernel
theorem dX7_arrange_42 : decode cX7_arrange 42 = .ok (.putfield 150, 3) := by decide +kernel
theorem dX7_arrange_45 : decode cX7_arrange 45 = .ok (.iconst 0, 1) := by decide +kernel
theorem dX7_arrange_46 : decode cX7_arrange 46 = .ok (.istore 4, 2) := by decide +kernel
theorem dX7_arrange_48 : decode cX7_arrange 48 = .ok (.iload 4, 2) := by decide +kernel
theorem dX7_arrange_50 : decode cX7_arrange 50 = .ok (.aload_n 0, 1) := by decide +kernel
theorem dX7_arrange_51 : decode cX7_arrange 51 = .ok (.getfield 150, 3) := by decide +kernel
theorem dX7_arrange_54 : decode cX7_arrange 54 = .ok (.if_icmp .ge 74, 3) := by decide +kernel
theorem dX7_arrange_57 : decode cX7_arrange 57 = .ok (.aload_n 0, 1) := by decide +kernel
theorem dX7_arrange_58 : decode cX7_arrange 58 = .ok (.getfield 53, 3) := by decide +kernel
theorem dX7_arrange_61 : decode cX7_arrange 61 = .ok (.iload_n 3, 1) := by decide +kernel
theorem dX7_arrange_62 : decode cX7_arrange 62 = .ok (.iload 4, 2) := by decide +kernel
theorem dX7_arrange_64 : decode cX7_arrange 64 = .ok (.iadd, 1) := by decide +kernel
theorem dX7_arrange_65 : decode cX7_arrange 65 = .ok (.iaload, 1) := by decide +kernel
theorem dX7_arrange_66 : decode cX7_arrange 66 = .ok (.istore 5, 2) := by decide +kernel
theorem dX7_arrange_68 : decode cX7_arrange 68 = .ok (.iload 4, 2) := by decide +kernel
theorem dX7_arrange_70 : decode cX7_arrange 70 = .ok (.istore 6, 2) := by decide +kernel
theorem dX7_arrange_72 : decode cX7_arrange 72 = .ok (.iload 6, 2) := by decide +kernel
theorem dX7_arrange_74 : decode cX7_arrange 74 = .ok (.ifCond .le 39, 3) := by decide +kernel
theorem dX7_arrange_77 : decode cX7_arrange 77 = .ok (.aload_n 0, 1) := by decide +kernel
theorem dX7_arrange_78 : decode cX7_arrange 78 = .ok (.getfield 66, 3) := by decide +kernel
theorem dX7_arrange_81 : decode cX7_arrange 81 = .ok (.iload 6, 2) := by decide +kernel
theorem dX7_arrange_83 : decode cX7_arrange 83 = .ok (.iconst 1, 1) := by decide +kernel
theorem dX7_arrange_84 : decode cX7_arrange 84 = .ok (.isub, 1) := by decide +kernel
theorem dX7_arrange_85 : decode cX7_arrange 85 = .ok (.iaload, 1) := by decide +kernel
theorem dX7_arrange_86 : decode cX7_arrange 86 = .ok (.iload 5, 2) := by decide +kernel
theorem dX7_arrange_88 : decode cX7_arrange 88 = .ok (.if_icmp .le 25, 3) := by decide +kernel
theorem dX7_arrange_91 : decode cX7_arrange 91 = .ok (.aload_n 0, 1) := by decide +kernel
theorem dX7_arrange_92 : decode cX7_arrange 92 = .ok (.getfield 66, 3) := by decide +kernel
theorem dX7_arrange_95 : decode cX7_arrange 95 = .ok (.iload 6, 2) := by decide +kernel
theorem dX7_arrange_97 : decode cX7_arrange 97 = .ok (.aload_n 0, 1) := by decide +kernel
theorem dX7_arrange_98 : decode cX7_arrange 98 = .ok (.getfield 66, 3) := by decide +kernel
theorem dX7_arrange_101 : decode cX7_arrange 101 = .ok (.iload 6, 2) := by decide +kernel
theorem dX7_arrange_103 : decode cX7_arrange 103 = .ok (.iconst 1, 1) := by decide +kernel
theorem dX7_arrange_104 : decode cX7_arrange 104 = .ok (.isub, 1) := by decide +kernel
theorem dX7_arrange_105 : decode cX7_arrange 105 = .ok (.iaload, 1) := by decide +kernel
theorem dX7_arrange_106 : decode cX7_arrange 106 = .ok (.iastore, 1) := by decide +kernel
theorem dX7_arrange_107 : decode cX7_arrange 107 = .ok (.iinc 6 (-1), 3) := by decide +kernel
theorem dX7_arrange_110 : decode cX7_arrange 110 = .ok (.goto (-38), 3) := by decide +kernel
theorem dX7_arrange_113 : decode cX7_arrange 113 = .ok (.aload_n 0, 1) := by decide +kernel
theorem dX7_arrange_114 : decode cX7_arrange 114 = .ok (.getfield 66, 3) := by decide +kernel
theorem dX7_arrange_117 : decode cX7_arrange 117 = .ok (.iload 6, 2) := by decide +kernel
theorem dX7_arrange_119 : decode cX7_arrange 119 = .ok (.iload 5, 2) := by decide +kernel
theorem dX7_arrange_121 : decode cX7_arrange 121 = .ok (.iastore, 1) := by decide +kernel
theorem dX7_arrange_122 : decode cX7_arrange 122 = .ok (.iinc 4 1, 3) := by decide +kernel
theorem dX7_arrange_125 : decode cX7_arrange 125 = .ok (.goto (-77), 3) := by decide +kernel
theorem dX7_arrange_128 : decode cX7_arrange 128 = .ok (.aload_n 0, 1) := by decide +kernel
theorem dX7_arrange_129 : decode cX7_arrange 129 = .ok (.invokevirtual 165, 3) := by decide +kernel
theorem dX7_arrange_132 : decode cX7_arrange 132 = .ok (.iconst 0, 1) := by decide +kernel
theorem dX7_arrange_133 : decode cX7_arrange 133 = .ok (.istore 4, 2) := by decide +kernel
theorem dX7_arrange_135 : decode cX7_arrange 135 = .ok (.iconst (-1), 1) := by decide +kernel
theorem dX7_arrange_136 : decode cX7_arrange 136 = .ok (.istore 5, 2) := by decide +kernel
theorem dX7_arrange_138 : decode cX7_arrange 138 = .ok (.iconst 0, 1) := by decide +kernel
theorem dX7_arrange_139 : decode cX7_arrange 139 = .ok (.istore 6, 2) := by decide +kernel
theorem dX7_arrange_141 : decode cX7_arrange 141 = .ok (.iload 6, 2) := by decide +kernel
theorem dX7_arrange_143 : decode cX7_arrange 143 = .ok (.aload_n 0, 1) := by decide +kernel
theorem dX7_arrange_144 : decode cX7_arrange 144 = .ok (.getfield 150, 3) := by decide +kernel
theorem dX7_arrange_147 : decode cX7_arrange 147 = .ok (.if_icmp .ge 153, 3) := by decide +kernel
theorem dX7_arrange_150 : decode cX7_arrange 150 = .ok (.iconst (-1), 1) := by decide +kernel
theorem dX7_arrange_151 : decode cX7_arrange 151 = .ok (.istore 7, 2) := by decide +kernel
theorem dX7_arrange_153 : decode cX7_arrange 153 = .ok (.ldc2_w 156, 3) := by decide +kernel
theorem dX7_arrange_156 : decode cX7_arrange 156 = .ok (.lstore 8, 2) := by decide +kernel
theorem dX7_arrange_158 : decode cX7_arrange 158 = .ok (.iconst 0, 1) := by decide +kernel
theorem dX7_arrange_159 : decode cX7_arrange 159 = .ok (.istore 10, 2) := by decide +kernel
theorem dX7_arrange_161 : decode cX7_arrange 161 = .ok (.iload 10, 2) := by decide +kernel
theorem dX7_arrange_163 : decode cX7_arrange 163 = .ok (.aload_n 0, 1) := by decide +kernel
theorem dX7_arrange_164 : decode cX7_arrange 164 = .ok (.getfield 150, 3) := by decide +kernel
theorem dX7_arrange_167 : decode cX7_arrange 167 = .ok (.if_icmp .ge 98, 3) := by decide +kernel
theorem dX7_arrange_170 : decode cX7_arrange 170 = .ok (.aload_n 0, 1) := by decide +kernel
theorem dX7_arrange_171 : decode cX7_arrange 171 = .ok (.iload 4, 2) := by decide +kernel
theorem dX7_arrange_173 : decode cX7_arrange 173 = .ok (.iload 10, 2) := by decide +kernel
theorem dX7_arrange_175 : decode cX7_arrange 175 = .ok (.invokevirtual 158, 3) := by decide +kernel
theorem dX7_arrange_178 : decode cX7_arrange 178 = .ok (.ifCond .ne 6, 3) := by decide +kernel
theorem dX7_arrange_181 : decode cX7_arrange 181 = .ok (.goto 78, 3) := by decide +kernel
theorem dX7_arrange_184 : decode cX7_arrange 184 = .ok (.iload 5, 2) := by decide +kernel
theorem dX7_arrange_186 : decode cX7_arrange 186 = .ok (.iconst (-1), 1) := by decide +kernel
theorem dX7_arrange_187 : decode cX7_arrange 187 = .ok (.if_icmp .ne 17, 3) := by decide +kernel
theorem dX7_arrange_190 : decode cX7_arrange 190 = .ok (.aload_n 0, 1) := by decide +kernel
theorem dX7_arrange_191 : decode cX7_arrange 191 = .ok (.aload_n 0, 1) := by decide +kernel
theorem dX7_arrange_192 : decode cX7_arrange 192 = .ok (.getfield 66, 3) := by decide +kernel
theorem dX7_arrange_195 : decode cX7_arrange 195 = .ok (.iload 10, 2) := by decide +kernel
theorem dX7_arrange_197 : decode cX7_arrange 197 = .ok (.iaload, 1) := by decide +kernel
theorem dX7_arrange_198 : decode cX7_arrange 198 = .ok (.invokevirtual 152, 3) := by decide +kernel
theorem dX7_arrange_201 : decode cX7_arrange 201 = .ok (.goto 21, 3) := by decide +kernel
theorem dX7_arrange_204 : decode cX7_arrange 204 = .ok (.aload_n 0, 1) := by decide +kernel
theorem dX7_arrange_205 : decode cX7_arrange 205 = .ok (.aload_n 0, 1) := by decide +kernel
theorem dX7_arrange_206 : decode cX7_arrange 206 = .ok (.getfield 66, 3) := by decide +kernel
theorem dX7_arrange_209 : decode cX7_arrange 209 = .ok (.iload 5, 2) := by decide +kernel
theorem dX7_arrange_211 : decode cX7_arrange 211 = .ok (.iaload, 1) := by decide +kernel
theorem dX7_arrange_212 : decode cX7_arrange 212 = .ok (.aload_n 0, 1) := by decide +kernel
theorem dX7_arrange_213 : decode cX7_arrange 213 = .ok (.getfield 66, 3) := by decide +kernel
theorem dX7_arrange_216 : decode cX7_arrange 216 = .ok (.iload 10, 2) := by decide +kernel
theorem dX7_arrange_218 : decode cX7_arrange 218 = .ok (.iaload, 1) := by decide +kernel
theorem dX7_arrange_219 : decode cX7_arrange 219 = .ok (.invokevirtual 161, 3) := by decide +kernel
theorem dX7_arrange_222 : decode cX7_arrange 222 = .ok (.aload_n 0, 1) := by decide +kernel
theorem dX7_arrange_223 : decode cX7_arrange 223 = .ok (.getfield 69, 3) := by decide +kernel
theorem dX7_arrange_226 : decode cX7_arrange 226 = .ok (.bipush 6, 2) := by decide +kernel
theorem dX7_arrange_228 : decode cX7_arrange 228 = .ok (.iload 4, 2) := by decide +kernel
theorem dX7_arrange_230 : decode cX7_arrange 230 = .ok (.iconst 1, 1) := by decide +kernel
theorem dX7_arrange_231 : decode cX7_arrange 231 = .ok (.iload 10, 2) := by decide +kernel
theorem dX7_arrange_233 : decode cX7_arrange 233 = .ok (.ishl, 1) := by decide +kernel
theorem dX7_arrange_234 : decode cX7_arrange 234 = .ok (.ior, 1) := by decide +kernel
theorem dX7_arrange_235 : decode cX7_arrange 235 = .ok (.imul, 1) := by decide +kernel
theorem dX7_arrange_236 : decode cX7_arrange 236 = .ok (.iload 10, 2) := by decide +kernel
theorem dX7_arrange_238 : decode cX7_arrange 238 = .ok (.iadd, 1) := by decide +kernel
theorem dX7_arrange_239 : decode cX7_arrange 239 = .ok (.laload, 1) := by decide +kernel
theorem dX7_arrange_240 : decode cX7_arrange 240 = .ok (.ladd, 1) := by decide +kernel
theorem dX7_arrange_241 : decode cX7_arrange 241 = .ok (.lstore 11, 2) := by decide +kernel
theorem dX7_arrange_243 : decode cX7_arrange 243 = .ok (.lload 11, 2) := by decide +kernel
theorem dX7_arrange_245 : decode cX7_arrange 245 = .ok (.lload 8, 2) := by decide +kernel
theorem dX7_arrange_247 : decode cX7_arrange 247 = .ok (.lcmp, 1) := by decide +kernel
theorem dX7_arrange_248 : decode cX7_arrange 248 = .ok (.ifCond .ge 11, 3) := by decide +kernel
theorem dX7_arrange_251 : decode cX7_arrange 251 = .ok (.lload 11, 2) := by decide +kernel
theorem dX7_arrange_253 : decode cX7_arrange 253 = .ok (.lstore 8, 2) := by decide +kernel
theorem dX7_arrange_255 : decode cX7_arrange 255 = .ok (.iload 10, 2) := by decide +kernel
theorem dX7_arrange_257 : decode cX7_arrange 257 = .ok (.istore 7, 2) := by decide +kernel
theorem dX7_arrange_259 : decode cX7_arrange 259 = .ok (.iinc 10 1, 3) := by decide +kernel
theorem dX7_arrange_262 : decode cX7_arrange 262 = .ok (.goto (-101), 3) := by decide +kernel
theorem dX7_arrange_265 : decode cX7_arrange 265 = .ok (.aload_n 0, 1) := by decide +kernel
theorem dX7_arrange_266 : decode cX7_arrange 266 = .ok (.getfield 53, 3) := by decide +kernel
theorem dX7_arrange_269 : decode cX7_arrange 269 = .ok (.iload_n 3, 1) := by decide +kernel
theorem dX7_arrange_270 : decode cX7_arrange 270 = .ok (.iload 6, 2) := by decide +kernel
theorem dX7_arrange_272 : decode cX7_arrange 272 = .ok (.iadd, 1) := by decide +kernel
theorem dX7_arrange_273 : decode cX7_arrange 273 = .ok (.aload_n 0, 1) := by decide +kernel
theorem dX7_arrange_274 : decode cX7_arrange 274 = .ok (.getfield 66, 3) := by decide +kernel
theorem dX7_arrange_277 : decode cX7_arrange 277 = .ok (.iload 7, 2) := by decide +kernel
theorem dX7_arrange_279 : decode cX7_arrange 279 = .ok (.iaload, 1) := by decide +kernel
theorem dX7_arrange_280 : decode cX7_arrange 280 = .ok (.iastore, 1) := by decide +kernel
theorem dX7_arrange_281 : decode cX7_arrange 281 = .ok (.iload 7, 2) := by decide +kernel
theorem dX7_arrange_283 : decode cX7_arrange 283 = .ok (.istore 5, 2) := by decide +kernel
theorem dX7_arrange_285 : decode cX7_arrange 285 = .ok (.iload 4, 2) := by decide +kernel
theorem dX7_arrange_287 : decode cX7_arrange 287 = .ok (.iconst 1, 1) := by decide +kernel
theorem dX7_arrange_288 : decode cX7_arrange 288 = .ok (.iload 7, 2) := by decide +kernel
theorem dX7_arrange_290 : decode cX7_arrange 290 = .ok (.ishl, 1) := by decide +kernel
theorem dX7_arrange_291 : decode cX7_arrange 291 = .ok (.ior, 1) := by decide +kernel
theorem dX7_arrange_292 : decode cX7_arrange 292 = .ok (.istore 4, 2) := by decide +kernel
theorem dX7_arrange_294 : decode cX7_arrange 294 = .ok (.iinc 6 1, 3) := by decide +kernel
theorem dX7_arrange_297 : decode cX7_arrange 297 = .ok (.goto (-156), 3) := by decide +kernel
theorem dX7_arrange_300 : decode cX7_arrange 300 = .ok (.return_, 1) := by decide +kernel
abbrev cX7_countOf : ByteArray := prog_9_method_31_code
def yX7_countOf : MethodName := ⟨RX7, "countOf", "(II)I"⟩
theorem dX7_countOf_0 : decode cX7_countOf 0 = .ok (.iconst 0, 1) := by decide +kernel
theorem dX7_countOf_1 : decode cX7_countOf 1 = .ok (.istore_n 3, 1) := by decide +kernel
theorem dX7_countOf_2 : decode cX7_countOf 2 = .ok (.bipush 40, 2) := by decide +kernel
theorem dX7_countOf_4 : decode cX7_countOf 4 = .ok (.iload_n 1, 1) := by decide +kernel
theorem dX7_countOf_5 : decode cX7_countOf 5 = .ok (.imul, 1) := by decide +kernel
theorem dX7_countOf_6 : decode cX7_countOf 6 = .ok (.istore 4, 2) := by decide +kernel
theorem dX7_countOf_8 : decode cX7_countOf 8 = .ok (.iload 4, 2) := by decide +kernel
theorem dX7_countOf_10 : decode cX7_countOf 10 = .ok (.bipush 40, 2) := by decide +kernel
theorem dX7_countOf_12 : decode cX7_countOf 12 = .ok (.iload_n 1, 1) := by decide +kernel
theorem dX7_countOf_13 : decode cX7_countOf 13 = .ok (.imul, 1) := by decide +kernel
theorem dX7_countOf_14 : decode cX7_countOf 14 = .ok (.aload_n 0, 1) := by decide +kernel
theorem dX7_countOf_15 : decode cX7_countOf 15 = .ok (.getfield 50, 3) := by decide +kernel
theorem dX7_countOf_18 : decode cX7_countOf 18 = .ok (.iload_n 1, 1) := by decide +kernel
theorem dX7_countOf_19 : decode cX7_countOf 19 = .ok (.iaload, 1) := by decide +kernel
theorem dX7_countOf_20 : decode cX7_countOf 20 = .ok (.iadd, 1) := by decide +kernel
theorem dX7_countOf_21 : decode cX7_countOf 21 = .ok (.if_icmp .ge 33, 3) := by decide +kernel
theorem dX7_countOf_24 : decode cX7_countOf 24 = .ok (.iload_n 3, 1) := by decide +kernel
theorem dX7_countOf_25 : decode cX7_countOf 25 = .ok (.aload_n 0, 1) := by decide +kernel
theorem dX7_countOf_26 : decode cX7_countOf 26 = .ok (.getfield 29, 3) := by decide +kernel
theorem dX7_countOf_29 : decode cX7_countOf 29 = .ok (.aload_n 0, 1) := by decide +kernel
theorem dX7_countOf_30 : decode cX7_countOf 30 = .ok (.getfield 53, 3) := by decide +kernel
theorem dX7_countOf_33 : decode cX7_countOf 33 = .ok (.iload 4, 2) := by decide +kernel
theorem dX7_countOf_35 : decode cX7_countOf 35 = .ok (.iaload, 1) := by decide +kernel
theorem dX7_countOf_36 : decode cX7_countOf 36 = .ok (.iaload, 1) := by decide +kernel
theorem dX7_countOf_37 : decode cX7_countOf 37 = .ok (.iload_n 2, 1) := by decide +kernel
theorem dX7_countOf_38 : decode cX7_countOf 38 = .ok (.if_icmp .ne 7, 3) := by decide +kernel
theorem dX7_countOf_41 : decode cX7_countOf 41 = .ok (.iconst 1, 1) := by decide +kernel
theorem dX7_countOf_42 : decode cX7_countOf 42 = .ok (.goto 4, 3) := by decide +kernel
theorem dX7_countOf_45 : decode cX7_countOf 45 = .ok (.iconst 0, 1) := by decide +kernel
theorem dX7_countOf_46 : decode cX7_countOf 46 = .ok (.iadd, 1) := by decide +kernel
theorem dX7_countOf_47 : decode cX7_countOf 47 = .ok (.istore_n 3, 1) := by decide +kernel
theorem dX7_countOf_48 : decode cX7_countOf 48 = .ok (.iinc 4 1, 3) := by decide +kernel
theorem dX7_countOf_51 : decode cX7_countOf 51 = .ok (.goto (-43), 3) := by decide +kernel
theorem dX7_countOf_54 : decode cX7_countOf 54 = .ok (.iload_n 3, 1) := by decide +kernel
theorem dX7_countOf_55 : decode cX7_countOf 55 = .ok (.ireturn, 1) := by decide +kernel
abbrev cX7_placing : ByteArray := prog_9_method_32_code
def yX7_placing : MethodName := ⟨RX7, "placing", "(I)J"⟩
theorem dX7_placing_0 : decode cX7_placing 0 = .ok (.lconst 0, 1) := by decide +kernel
theorem dX7_placing_1 : decode cX7_placing 1 = .ok (.lstore_n 2, 1) := by decide +kernel
theorem dX7_placing_2 : decode cX7_placing 2 = .ok (.iconst 0, 1) := by decide +kernel
theorem dX7_placing_3 : decode cX7_placing 3 = .ok (.istore 4, 2) := by decide +kernel
theorem dX7_placing_5 : decode cX7_placing 5 = .ok (.iload 4, 2) := by decide +kernel
theorem dX7_placing_7 : decode cX7_placing 7 = .ok (.aload_n 0, 1) := by decide +kernel
theorem dX7_placing_8 : decode cX7_placing 8 = .ok (.getfield 86, 3) := by decide +kernel
theorem dX7_placing_11 : decode cX7_placing 11 = .ok (.if_icmp .ge 116, 3) := by decide +kernel
theorem dX7_placing_14 : decode cX7_placing 14 = .ok (.aload_n 0, 1) := by decide +kernel
theorem dX7_placing_15 : decode cX7_placing 15 = .ok (.iload_n 1, 1) := by decide +kernel
theorem dX7_placing_16 : decode cX7_placing 16 = .ok (.iload 4, 2) := by decide +kernel
theorem dX7_placing_18 : decode cX7_placing 18 = .ok (.invokevirtual 168, 3) := by decide +kernel
theorem dX7_placing_21 : decode cX7_placing 21 = .ok (.i2l, 1) := by decide +kernel
theorem dX7_placing_22 : decode cX7_placing 22 = .ok (.lstore 5, 2) := by decide +kernel
theorem dX7_placing_24 : decode cX7_placing 24 = .ok (.lload 5, 2) := by decide +kernel
theorem dX7_placing_26 : decode cX7_placing 26 = .ok (.lconst 0, 1) := by decide +kernel
theorem dX7_placing_27 : decode cX7_placing 27 = .ok (.lcmp, 1) := by decide +kernel
theorem dX7_placing_28 : decode cX7_placing 28 = .ok (.ifCond .ne 6, 3) := by decide +kernel
theorem dX7_placing_31 : decode cX7_placing 31 = .ok (.goto 90, 3) := by decide +kernel
theorem dX7_placing_34 : decode cX7_placing 34 = .ok (.lload 5, 2) := by decide +kernel
theorem dX7_placing_36 : decode cX7_placing 36 = .ok (.aload_n 0, 1) := by decide +kernel
theorem dX7_placing_37 : decode cX7_placing 37 = .ok (.getfield 26, 3) := by decide +kernel
theorem dX7_placing_40 : decode cX7_placing 40 = .ok (.iload 4, 2) := by decide +kernel
theorem dX7_placing_42 : decode cX7_placing 42 = .ok (.laload, 1) := by decide +kernel
theorem dX7_placing_43 : decode cX7_placing 43 = .ok (.lmul, 1) := by decide +kernel
theorem dX7_placing_44 : decode cX7_placing 44 = .ok (.aload_n 0, 1) := by decide +kernel
theorem dX7_placing_45 : decode cX7_placing 45 = .ok (.getfield 26, 3) := by decide +kernel
theorem dX7_placing_48 : decode cX7_placing 48 = .ok (.iload 4, 2) := by decide +kernel
theorem dX7_placing_50 : decode cX7_placing 50 = .ok (.laload, 1) := by decide +kernel
theorem dX7_placing_51 : decode cX7_placing 51 = .ok (.ladd, 1) := by decide +kernel
theorem dX7_placing_52 : decode cX7_placing 52 = .ok (.aload_n 0, 1) := by decide +kernel
theorem dX7_placing_53 : decode cX7_placing 53 = .ok (.getfield 22, 3) := by decide +kernel
theorem dX7_placing_56 : decode cX7_placing 56 = .ok (.iload 4, 2) := by decide +kernel
theorem dX7_placing_58 : decode cX7_placing 58 = .ok (.laload, 1) := by decide +kernel
theorem dX7_placing_59 : decode cX7_placing 59 = .ok (.lsub, 1) := by decide +kernel
theorem dX7_placing_60 : decode cX7_placing 60 = .ok (.lconst 1, 1) := by decide +kernel
theorem dX7_placing_61 : decode cX7_placing 61 = .ok (.lsub, 1) := by decide +kernel
theorem dX7_placing_62 : decode cX7_placing 62 = .ok (.aload_n 0, 1) := by decide +kernel
theorem dX7_placing_63 : decode cX7_placing 63 = .ok (.getfield 26, 3) := by decide +kernel
theorem dX7_placing_66 : decode cX7_placing 66 = .ok (.iload 4, 2) := by decide +kernel
theorem dX7_placing_68 : decode cX7_placing 68 = .ok (.laload, 1) := by decide +kernel
theorem dX7_placing_69 : decode cX7_placing 69 = .ok (.aload_n 0, 1) := by decide +kernel
theorem dX7_placing_70 : decode cX7_placing 70 = .ok (.getfield 22, 3) := by decide +kernel
theorem dX7_placing_73 : decode cX7_placing 73 = .ok (.iload 4, 2) := by decide +kernel
theorem dX7_placing_75 : decode cX7_placing 75 = .ok (.laload, 1) := by decide +kernel
theorem dX7_placing_76 : decode cX7_placing 76 = .ok (.lsub, 1) := by decide +kernel
theorem dX7_placing_77 : decode cX7_placing 77 = .ok (.ldiv, 1) := by decide +kernel
theorem dX7_placing_78 : decode cX7_placing 78 = .ok (.lstore 7, 2) := by decide +kernel
theorem dX7_placing_80 : decode cX7_placing 80 = .ok (.lload_n 2, 1) := by decide +kernel
theorem dX7_placing_81 : decode cX7_placing 81 = .ok (.ldc2_w 171, 3) := by decide +kernel
theorem dX7_placing_84 : decode cX7_placing 84 = .ok (.lload 7, 2) := by decide +kernel
theorem dX7_placing_86 : decode cX7_placing 86 = .ok (.lmul, 1) := by decide +kernel
theorem dX7_placing_87 : decode cX7_placing 87 = .ok (.aload_n 0, 1) := by decide +kernel
theorem dX7_placing_88 : decode cX7_placing 88 = .ok (.getfield 19, 3) := by decide +kernel
theorem dX7_placing_91 : decode cX7_placing 91 = .ok (.iload 4, 2) := by decide +kernel
theorem dX7_placing_93 : decode cX7_placing 93 = .ok (.iaload, 1) := by decide +kernel
theorem dX7_placing_94 : decode cX7_placing 94 = .ok (.ifCond .le 23, 3) := by decide +kernel
theorem dX7_placing_97 : decode cX7_placing 97 = .ok (.ldc2_w 173, 3) := by decide +kernel
theorem dX7_placing_100 : decode cX7_placing 100 = .ok (.lload 7, 2) := by decide +kernel
theorem dX7_placing_102 : decode cX7_placing 102 = .ok (.lconst 1, 1) := by decide +kernel
theorem dX7_placing_103 : decode cX7_placing 103 = .ok (.lsub, 1) := by decide +kernel
theorem dX7_placing_104 : decode cX7_placing 104 = .ok (.aload_n 0, 1) := by decide +kernel
theorem dX7_placing_105 : decode cX7_placing 105 = .ok (.getfield 19, 3) := by decide +kernel
theorem dX7_placing_108 : decode cX7_placing 108 = .ok (.iload 4, 2) := by decide +kernel
theorem dX7_placing_110 : decode cX7_placing 110 = .ok (.iaload, 1) := by decide +kernel
theorem dX7_placing_111 : decode cX7_placing 111 = .ok (.i2l, 1) := by decide +kernel
theorem dX7_placing_112 : decode cX7_placing 112 = .ok (.ldiv, 1) := by decide +kernel
theorem dX7_placing_113 : decode cX7_placing 113 = .ok (.lmul, 1) := by decide +kernel
theorem dX7_placing_114 : decode cX7_placing 114 = .ok (.goto 4, 3) := by decide +kernel
theorem dX7_placing_117 : decode cX7_placing 117 = .ok (.lconst 0, 1) := by decide +kernel
theorem dX7_placing_118 : decode cX7_placing 118 = .ok (.ladd, 1) := by decide +kernel
theorem dX7_placing_119 : decode cX7_placing 119 = .ok (.ladd, 1) := by decide +kernel
theorem dX7_placing_120 : decode cX7_placing 120 = .ok (.lstore_n 2, 1) := by decide +kernel
theorem dX7_placing_121 : decode cX7_placing 121 = .ok (.iinc 4 1, 3) := by decide +kernel
theorem dX7_placing_124 : decode cX7_placing 124 = .ok (.goto (-119), 3) := by decide +kernel
theorem dX7_placing_127 : decode cX7_placing 127 = .ok (.lload_n 2, 1) := by decide +kernel
theorem dX7_placing_128 : decode cX7_placing 128 = .ok (.lreturn, 1) := by decide +kernel
abbrev cX7_changesOf : ByteArray := prog_9_method_33_code
def yX7_changesOf : MethodName := ⟨RX7, "changesOf", "(I)I"⟩
theorem dX7_changesOf_0 : decode cX7_changesOf 0 = .ok (.iconst 0, 1) := by decide +kernel
theorem dX7_changesOf_1 : decode cX7_changesOf 1 = .ok (.istore_n 2, 1) := by decide +kernel
theorem dX7_changesOf_2 : decode cX7_changesOf 2 = .ok (.bipush 40, 2) := by decide +kernel
theorem dX7_changesOf_4 : decode cX7_changesOf 4 = .ok (.iload_n 1, 1) := by decide +kernel
theorem dX7_changesOf_5 : decode cX7_changesOf 5 = .ok (.imul, 1) := by decide +kernel
theorem dX7_changesOf_6 : decode cX7_changesOf 6 = .ok (.iconst 1, 1) := by decide +kernel
theorem dX7_changesOf_7 : decode cX7_changesOf 7 = .ok (.iadd, 1) := by decide +kernel
theorem dX7_changesOf_8 : decode cX7_changesOf 8 = .ok (.istore_n 3, 1) := by decide +kernel
theorem dX7_changesOf_9 : decode cX7_changesOf 9 = .ok (.iload_n 3, 1) := by decide +kernel
theorem dX7_changesOf_10 : decode cX7_changesOf 10 = .ok (.bipush 40, 2) := by decide +kernel
theorem dX7_changesOf_12 : decode cX7_changesOf 12 = .ok (.iload_n 1, 1) := by decide +kernel
theorem dX7_changesOf_13 : decode cX7_changesOf 13 = .ok (.imul, 1) := by decide +kernel
theorem dX7_changesOf_14 : decode cX7_changesOf 14 = .ok (.aload_n 0, 1) := by decide +kernel
theorem dX7_changesOf_15 : decode cX7_changesOf 15 = .ok (.getfield 50, 3) := by decide +kernel
theorem dX7_changesOf_18 : decode cX7_changesOf 18 = .ok (.iload_n 1, 1) := by decide +kernel
theorem dX7_changesOf_19 : decode cX7_changesOf 19 = .ok (.iaload, 1) := by decide +kernel
theorem dX7_changesOf_20 : decode cX7_changesOf 20 = .ok (.iadd, 1) := by decide +kernel
theorem dX7_changesOf_21 : decode cX7_changesOf 21 = .ok (.if_icmp .ge 54, 3) := by decide +kernel
theorem dX7_changesOf_24 : decode cX7_changesOf 24 = .ok (.iload_n 2, 1) := by decide +kernel
theorem dX7_changesOf_25 : decode cX7_changesOf 25 = .ok (.aload_n 0, 1) := by decide +kernel
theorem dX7_changesOf_26 : decode cX7_changesOf 26 = .ok (.getfield 13, 3) := by decide +kernel
theorem dX7_changesOf_29 : decode cX7_changesOf 29 = .ok (.aload_n 0, 1) := by decide +kernel
theorem dX7_changesOf_30 : decode cX7_changesOf 30 = .ok (.getfield 29, 3) := by decide +kernel
theorem dX7_changesOf_33 : decode cX7_changesOf 33 = .ok (.aload_n 0, 1) := by decide +kernel
theorem dX7_changesOf_34 : decode cX7_changesOf 34 = .ok (.getfield 53, 3) := by decide +kernel
theorem dX7_changesOf_37 : decode cX7_changesOf 37 = .ok (.iload_n 3, 1) := by decide +kernel
theorem dX7_changesOf_38 : decode cX7_changesOf 38 = .ok (.iaload, 1) := by decide +kernel
theorem dX7_changesOf_39 : decode cX7_changesOf 39 = .ok (.iaload, 1) := by decide +kernel
theorem dX7_changesOf_40 : decode cX7_changesOf 40 = .ok (.iaload, 1) := by decide +kernel
theorem dX7_changesOf_41 : decode cX7_changesOf 41 = .ok (.aload_n 0, 1) := by decide +kernel
theorem dX7_changesOf_42 : decode cX7_changesOf 42 = .ok (.getfield 13, 3) := by decide +kernel
theorem dX7_changesOf_45 : decode cX7_changesOf 45 = .ok (.aload_n 0, 1) := by decide +kernel
theorem dX7_changesOf_46 : decode cX7_changesOf 46 = .ok (.getfield 29, 3) := by decide +kernel
theorem dX7_changesOf_49 : decode cX7_changesOf 49 = .ok (.aload_n 0, 1) := by decide +kernel
theorem dX7_changesOf_50 : decode cX7_changesOf 50 = .ok (.getfield 53, 3) := by decide +kernel
theorem dX7_changesOf_53 : decode cX7_changesOf 53 = .ok (.iload_n 3, 1) := by decide +kernel
theorem dX7_changesOf_54 : decode cX7_changesOf 54 = .ok (.iconst 1, 1) := by decide +kernel
theorem dX7_changesOf_55 : decode cX7_changesOf 55 = .ok (.isub, 1) := by decide +kernel
theorem dX7_changesOf_56 : decode cX7_changesOf 56 = .ok (.iaload, 1) := by decide +kernel
theorem dX7_changesOf_57 : decode cX7_changesOf 57 = .ok (.iaload, 1) := by decide +kernel
theorem dX7_changesOf_58 : decode cX7_changesOf 58 = .ok (.iaload, 1) := by decide +kernel
theorem dX7_changesOf_59 : decode cX7_changesOf 59 = .ok (.if_icmp .eq 7, 3) := by decide +kernel
theorem dX7_changesOf_62 : decode cX7_changesOf 62 = .ok (.iconst 1, 1) := by decide +kernel
theorem dX7_changesOf_63 : decode cX7_changesOf 63 = .ok (.goto 4, 3) := by decide +kernel
theorem dX7_changesOf_66 : decode cX7_changesOf 66 = .ok (.iconst 0, 1) := by decide +kernel
theorem dX7_changesOf_67 : decode cX7_changesOf 67 = .ok (.iadd, 1) := by decide +kernel
theorem dX7_changesOf_68 : decode cX7_changesOf 68 = .ok (.istore_n 2, 1) := by decide +kernel
theorem dX7_changesOf_69 : decode cX7_changesOf 69 = .ok (.iinc 3 1, 3) := by decide +kernel
theorem dX7_changesOf_72 : decode cX7_changesOf 72 = .ok (.goto (-63), 3) := by decide +kernel
theorem dX7_changesOf_75 : decode cX7_changesOf 75 = .ok (.iload_n 2, 1) := by decide +kernel
theorem dX7_changesOf_76 : decode cX7_changesOf 76 = .ok (.ireturn, 1) := by decide +kernel
abbrev cX7_timeOf : ByteArray := prog_9_method_34_code
def yX7_timeOf : MethodName := ⟨RX7, "timeOf", "(I)J"⟩
theorem dX7_timeOf_0 : decode cX7_timeOf 0 = .ok (.aload_n 0, 1) := by decide +kernel
theorem dX7_timeOf_1 : decode cX7_timeOf 1 = .ok (.iload_n 1, 1) := by decide +kernel
theorem dX7_timeOf_2 : decode cX7_timeOf 2 = .ok (.invokevirtual 175, 3) := by decide +kernel
theorem dX7_timeOf_5 : decode cX7_timeOf 5 = .ok (.ldc2_w 178, 3) := by decide +kernel
theorem dX7_timeOf_8 : decode cX7_timeOf 8 = .ok (.aload_n 0, 1) := by decide +kernel
theorem dX7_timeOf_9 : decode cX7_timeOf 9 = .ok (.iload_n 1, 1) := by decide +kernel
theorem dX7_timeOf_10 : decode cX7_timeOf 10 = .ok (.invokevirtual 180, 3) := by decide +kernel
theorem dX7_timeOf_13 : decode cX7_timeOf 13 = .ok (.i2l, 1) := by decide +kernel
theorem dX7_timeOf_14 : decode cX7_timeOf 14 = .ok (.lmul, 1) := by decide +kernel
theorem dX7_timeOf_15 : decode cX7_timeOf 15 = .ok (.ladd, 1) := by decide +kernel
theorem dX7_timeOf_16 : decode cX7_timeOf 16 = .ok (.lstore_n 2, 1) := by decide +kernel
theorem dX7_timeOf_17 : decode cX7_timeOf 17 = .ok (.iconst 0, 1) := by decide +kernel
theorem dX7_timeOf_18 : decode cX7_timeOf 18 = .ok (.istore 4, 2) := by decide +kernel
theorem dX7_timeOf_20 : decode cX7_timeOf 20 = .ok (.iload 4, 2) := by decide +kernel
theorem dX7_timeOf_22 : decode cX7_timeOf 22 = .ok (.aload_n 0, 1) := by decide +kernel
theorem dX7_timeOf_23 : decode cX7_timeOf 23 = .ok (.getfield 50, 3) := by decide +kernel
theorem dX7_timeOf_26 : decode cX7_timeOf 26 = .ok (.iload_n 1, 1) := by decide +kernel
theorem dX7_timeOf_27 : decode cX7_timeOf 27 = .ok (.iaload, 1) := by decide +kernel
theorem dX7_timeOf_28 : decode cX7_timeOf 28 = .ok (.if_icmp .ge 131, 3) := by decide +kernel
theorem dX7_timeOf_31 : decode cX7_timeOf 31 = .ok (.aload_n 0, 1) := by decide +kernel
theorem dX7_timeOf_32 : decode cX7_timeOf 32 = .ok (.getfield 53, 3) := by decide +kernel
theorem dX7_timeOf_35 : decode cX7_timeOf 35 = .ok (.bipush 40, 2) := by decide +kernel
theorem dX7_timeOf_37 : decode cX7_timeOf 37 = .ok (.iload_n 1, 1) := by decide +kernel
theorem dX7_timeOf_38 : decode cX7_timeOf 38 = .ok (.imul, 1) := by decide +kernel
theorem dX7_timeOf_39 : decode cX7_timeOf 39 = .ok (.iload 4, 2) := by decide +kernel
theorem dX7_timeOf_41 : decode cX7_timeOf 41 = .ok (.iadd, 1) := by decide +kernel
theorem dX7_timeOf_42 : decode cX7_timeOf 42 = .ok (.iaload, 1) := by decide +kernel
theorem dX7_timeOf_43 : decode cX7_timeOf 43 = .ok (.istore 5, 2) := by decide +kernel
theorem dX7_timeOf_45 : decode cX7_timeOf 45 = .ok (.iload 4, 2) := by decide +kernel
theorem dX7_timeOf_47 : decode cX7_timeOf 47 = .ok (.aload_n 0, 1) := by decide +kernel
theorem dX7_timeOf_48 : decode cX7_timeOf 48 = .ok (.getfield 44, 3) := by decide +kernel
theorem dX7_timeOf_51 : decode cX7_timeOf 51 = .ok (.iload_n 1, 1) := by decide +kernel
theorem dX7_timeOf_52 : decode cX7_timeOf 52 = .ok (.iaload, 1) := by decide +kernel
theorem dX7_timeOf_53 : decode cX7_timeOf 53 = .ok (.irem, 1) := by decide +kernel
theorem dX7_timeOf_54 : decode cX7_timeOf 54 = .ok (.ifCond .ne 7, 3) := by decide +kernel
theorem dX7_timeOf_57 : decode cX7_timeOf 57 = .ok (.iconst 1, 1) := by decide +kernel
theorem dX7_timeOf_58 : decode cX7_timeOf 58 = .ok (.goto 4, 3) := by decide +kernel
theorem dX7_timeOf_61 : decode cX7_timeOf 61 = .ok (.iconst 0, 1) := by decide +kernel
theorem dX7_timeOf_62 : decode cX7_timeOf 62 = .ok (.istore 6, 2) := by decide +kernel
theorem dX7_timeOf_64 : decode cX7_timeOf 64 = .ok (.iload 4, 2) := by decide +kernel
theorem dX7_timeOf_66 : decode cX7_timeOf 66 = .ok (.aload_n 0, 1) := by decide +kernel
theorem dX7_timeOf_67 : decode cX7_timeOf 67 = .ok (.getfield 50, 3) := by decide +kernel
theorem dX7_timeOf_70 : decode cX7_timeOf 70 = .ok (.iload_n 1, 1) := by decide +kernel
theorem dX7_timeOf_71 : decode cX7_timeOf 71 = .ok (.iaload, 1) := by decide +kernel
theorem dX7_timeOf_72 : decode cX7_timeOf 72 = .ok (.iconst 1, 1) := by decide +kernel
theorem dX7_timeOf_73 : decode cX7_timeOf 73 = .ok (.isub, 1) := by decide +kernel
theorem dX7_timeOf_74 : decode cX7_timeOf 74 = .ok (.if_icmp .eq 17, 3) := by decide +kernel
theorem dX7_timeOf_77 : decode cX7_timeOf 77 = .ok (.iload 4, 2) := by decide +kernel
theorem dX7_timeOf_79 : decode cX7_timeOf 79 = .ok (.iconst 1, 1) := by decide +kernel
theorem dX7_timeOf_80 : decode cX7_timeOf 80 = .ok (.iadd, 1) := by decide +kernel
theorem dX7_timeOf_81 : decode cX7_timeOf 81 = .ok (.aload_n 0, 1) := by decide +kernel
theorem dX7_timeOf_82 : decode cX7_timeOf 82 = .ok (.getfield 44, 3) := by decide +kernel
theorem dX7_timeOf_85 : decode cX7_timeOf 85 = .ok (.iload_n 1, 1) := by decide +kernel
theorem dX7_timeOf_86 : decode cX7_timeOf 86 = .ok (.iaload, 1) := by decide +kernel
theorem dX7_timeOf_87 : decode cX7_timeOf 87 = .ok (.irem, 1) := by decide +kernel
theorem dX7_timeOf_88 : decode cX7_timeOf 88 = .ok (.ifCond .ne 7, 3) := by decide +kernel
theorem dX7_timeOf_91 : decode cX7_timeOf 91 = .ok (.iconst 1, 1) := by decide +kernel
theorem dX7_timeOf_92 : decode cX7_timeOf 92 = .ok (.goto 4, 3) := by decide +kernel
theorem dX7_timeOf_95 : decode cX7_timeOf 95 = .ok (.iconst 0, 1) := by decide +kernel
theorem dX7_timeOf_96 : decode cX7_timeOf 96 = .ok (.istore 7, 2) := by decide +kernel
theorem dX7_timeOf_98 : decode cX7_timeOf 98 = .ok (.lload_n 2, 1) := by decide +kernel
theorem dX7_timeOf_99 : decode cX7_timeOf 99 = .ok (.iload 6, 2) := by decide +kernel
theorem dX7_timeOf_101 : decode cX7_timeOf 101 = .ok (.ifCond .eq 12, 3) := by decide +kernel
theorem dX7_timeOf_104 : decode cX7_timeOf 104 = .ok (.aload_n 0, 1) := by decide +kernel
theorem dX7_timeOf_105 : decode cX7_timeOf 105 = .ok (.iload 5, 2) := by decide +kernel
theorem dX7_timeOf_107 : decode cX7_timeOf 107 = .ok (.invokevirtual 152, 3) := by decide +kernel
theorem dX7_timeOf_110 : decode cX7_timeOf 110 = .ok (.goto 23, 3) := by decide +kernel
theorem dX7_timeOf_113 : decode cX7_timeOf 113 = .ok (.aload_n 0, 1) := by decide +kernel
theorem dX7_timeOf_114 : decode cX7_timeOf 114 = .ok (.aload_n 0, 1) := by decide +kernel
theorem dX7_timeOf_115 : decode cX7_timeOf 115 = .ok (.getfield 53, 3) := by decide +kernel
theorem dX7_timeOf_118 : decode cX7_timeOf 118 = .ok (.bipush 40, 2) := by decide +kernel
theorem dX7_timeOf_120 : decode cX7_timeOf 120 = .ok (.iload_n 1, 1) := by decide +kernel
theorem dX7_timeOf_121 : decode cX7_timeOf 121 = .ok (.imul, 1) := by decide +kernel
theorem dX7_timeOf_122 : decode cX7_timeOf 122 = .ok (.iload 4, 2) := by decide +kernel
theorem dX7_timeOf_124 : decode cX7_timeOf 124 = .ok (.iadd, 1) := by decide +kernel
theorem dX7_timeOf_125 : decode cX7_timeOf 125 = .ok (.iconst 1, 1) := by decide +kernel
theorem dX7_timeOf_126 : decode cX7_timeOf 126 = .ok (.isub, 1) := by decide +kernel
theorem dX7_timeOf_127 : decode cX7_timeOf 127 = .ok (.iaload, 1) := by decide +kernel
theorem dX7_timeOf_128 : decode cX7_timeOf 128 = .ok (.iload 5, 2) := by decide +kernel
theorem dX7_timeOf_130 : decode cX7_timeOf 130 = .ok (.invokevirtual 161, 3) := by decide +kernel
theorem dX7_timeOf_133 : decode cX7_timeOf 133 = .ok (.ladd, 1) := by decide +kernel
theorem dX7_timeOf_134 : decode cX7_timeOf 134 = .ok (.lstore_n 2, 1) := by decide +kernel
theorem dX7_timeOf_135 : decode cX7_timeOf 135 = .ok (.lload_n 2, 1) := by decide +kernel
theorem dX7_timeOf_136 : decode cX7_timeOf 136 = .ok (.iload 7, 2) := by decide +kernel
theorem dX7_timeOf_138 : decode cX7_timeOf 138 = .ok (.ifCond .eq 12, 3) := by decide +kernel
theorem dX7_timeOf_141 : decode cX7_timeOf 141 = .ok (.aload_n 0, 1) := by decide +kernel
theorem dX7_timeOf_142 : decode cX7_timeOf 142 = .ok (.iload 5, 2) := by decide +kernel
theorem dX7_timeOf_144 : decode cX7_timeOf 144 = .ok (.invokevirtual 152, 3) := by decide +kernel
theorem dX7_timeOf_147 : decode cX7_timeOf 147 = .ok (.goto 4, 3) := by decide +kernel
theorem dX7_timeOf_150 : decode cX7_timeOf 150 = .ok (.lconst 0, 1) := by decide +kernel
theorem dX7_timeOf_151 : decode cX7_timeOf 151 = .ok (.ladd, 1) := by decide +kernel
theorem dX7_timeOf_152 : decode cX7_timeOf 152 = .ok (.lstore_n 2, 1) := by decide +kernel
theorem dX7_timeOf_153 : decode cX7_timeOf 153 = .ok (.iinc 4 1, 3) := by decide +kernel
theorem dX7_timeOf_156 : decode cX7_timeOf 156 = .ok (.goto (-136), 3) := by decide +kernel
theorem dX7_timeOf_159 : decode cX7_timeOf 159 = .ok (.lload_n 2, 1) := by decide +kernel
theorem dX7_timeOf_160 : decode cX7_timeOf 160 = .ok (.lreturn, 1) := by decide +kernel
abbrev cX7_draw : ByteArray := prog_9_method_35_code
def yX7_draw : MethodName := ⟨RX7, "draw", "(I)I"⟩
theorem dX7_draw_0 : decode cX7_draw 0 = .ok (.aload_n 0, 1) := by decide +kernel
theorem dX7_draw_1 : decode cX7_draw 1 = .ok (.aload_n 0, 1) := by decide +kernel
theorem dX7_draw_2 : decode cX7_draw 2 = .ok (.getfield 75, 3) := by decide +kernel
theorem dX7_draw_5 : decode cX7_draw 5 = .ok (.ldc2_w 183, 3) := by decide +kernel
theorem dX7_draw_8 : decode cX7_draw 8 = .ok (.lmul, 1) := by decide +kernel
theorem dX7_draw_9 : decode cX7_draw 9 = .ok (.ldc2_w 185, 3) := by decide +kernel
theorem dX7_draw_12 : decode cX7_draw 12 = .ok (.ladd, 1) := by decide +kernel
theorem dX7_draw_13 : decode cX7_draw 13 = .ok (.putfield 75, 3) := by decide +kernel
theorem dX7_draw_16 : decode cX7_draw 16 = .ok (.aload_n 0, 1) := by decide +kernel
theorem dX7_draw_17 : decode cX7_draw 17 = .ok (.getfield 75, 3) := by decide +kernel
theorem dX7_draw_20 : decode cX7_draw 20 = .ok (.bipush 33, 2) := by decide +kernel
theorem dX7_draw_22 : decode cX7_draw 22 = .ok (.lushr, 1) := by decide +kernel
theorem dX7_draw_23 : decode cX7_draw 23 = .ok (.iload_n 1, 1) := by decide +kernel
theorem dX7_draw_24 : decode cX7_draw 24 = .ok (.i2l, 1) := by decide +kernel
theorem dX7_draw_25 : decode cX7_draw 25 = .ok (.lrem, 1) := by decide +kernel
theorem dX7_draw_26 : decode cX7_draw 26 = .ok (.l2i, 1) := by decide +kernel
theorem dX7_draw_27 : decode cX7_draw 27 = .ok (.ireturn, 1) := by decide +kernel
abbrev cX7_exchange : ByteArray := prog_9_method_36_code
def yX7_exchange : MethodName := ⟨RX7, "exchange", "()Z"⟩
theorem dX7_exchange_0 : decode cX7_exchange 0 = .ok (.aload_n 0, 1) := by decide +kernel
theorem dX7_exchange_1 : decode cX7_exchange 1 = .ok (.aload_n 0, 1) := by decide +kernel
theorem dX7_exchange_2 : decode cX7_exchange 2 = .ok (.getfield 109, 3) := by decide +kernel
theorem dX7_exchange_5 : decode cX7_exchange 5 = .ok (.invokevirtual 187, 3) := by decide +kernel
theorem dX7_exchange_8 : decode cX7_exchange 8 = .ok (.istore_n 1, 1) := by decide +kernel
theorem dX7_exchange_9 : decode cX7_exchange 9 = .ok (.aload_n 0, 1) := by decide +kernel
theorem dX7_exchange_10 : decode cX7_exchange 10 = .ok (.getfield 50, 3) := by decide +kernel
theorem dX7_exchange_13 : decode cX7_exchange 13 = .ok (.iload_n 1, 1) := by decide +kernel
theorem dX7_exchange_14 : decode cX7_exchange 14 = .ok (.iaload, 1) := by decide +kernel
theorem dX7_exchange_15 : decode cX7_exchange 15 = .ok (.iconst 2, 1) := by decide +kernel
theorem dX7_exchange_16 : decode cX7_exchange 16 = .ok (.if_icmp .ge 5, 3) := by decide +kernel
theorem dX7_exchange_19 : decode cX7_exchange 19 = .ok (.iconst 0, 1) := by decide +kernel
theorem dX7_exchange_20 : decode cX7_exchange 20 = .ok (.ireturn, 1) := by decide +kernel
theorem dX7_exchange_21 : decode cX7_exchange 21 = .ok (.aload_n 0, 1) := by decide +kernel
theorem dX7_exchange_22 : decode cX7_exchange 22 = .ok (.aload_n 0, 1) := by decide +kernel
theorem dX7_exchange_23 : decode cX7_exchange 23 = .ok (.getfield 50, 3) := by decide +kernel
theorem dX7_exchange_26 : decode cX7_exchange 26 = .ok (.iload_n 1, 1) := by decide +kernel
theorem dX7_exchange_27 : decode cX7_exchange 27 = .ok (.iaload, 1) := by decide +kernel
theorem dX7_exchange_28 : decode cX7_exchange 28 = .ok (.invokevirtual 187, 3) := by decide +kernel
theorem dX7_exchange_31 : decode cX7_exchange 31 = .ok (.istore_n 2, 1) := by decide +kernel
theorem dX7_exchange_32 : decode cX7_exchange 32 = .ok (.aload_n 0, 1) := by decide +kernel
theorem dX7_exchange_33 : decode cX7_exchange 33 = .ok (.aload_n 0, 1) := by decide +kernel
theorem dX7_exchange_34 : decode cX7_exchange 34 = .ok (.getfield 50, 3) := by decide +kernel
theorem dX7_exchange_37 : decode cX7_exchange 37 = .ok (.iload_n 1, 1) := by decide +kernel
theorem dX7_exchange_38 : decode cX7_exchange 38 = .ok (.iaload, 1) := by decide +kernel
theorem dX7_exchange_39 : decode cX7_exchange 39 = .ok (.invokevirtual 187, 3) := by decide +kernel
theorem dX7_exchange_42 : decode cX7_exchange 42 = .ok (.istore_n 3, 1) := by decide +kernel
theorem dX7_exchange_43 : decode cX7_exchange 43 = .ok (.bipush 40, 2) := by decide +kernel
theorem dX7_exchange_45 : decode cX7_exchange 45 = .ok (.iload_n 1, 1) := by decide +kernel
theorem dX7_exchange_46 : decode cX7_exchange 46 = .ok (.imul, 1) := by decide +kernel
theorem dX7_exchange_47 : decode cX7_exchange 47 = .ok (.iload_n 2, 1) := by decide +kernel
theorem dX7_exchange_48 : decode cX7_exchange 48 = .ok (.iadd, 1) := by decide +kernel
theorem dX7_exchange_49 : decode cX7_exchange 49 = .ok (.istore 4, 2) := by decide +kernel
theorem dX7_exchange_51 : decode cX7_exchange 51 = .ok (.bipush 40, 2) := by decide +kernel
theorem dX7_exchange_53 : decode cX7_exchange 53 = .ok (.iload_n 1, 1) := by decide +kernel
theorem dX7_exchange_54 : decode cX7_exchange 54 = .ok (.imul, 1) := by decide +kernel
theorem dX7_exchange_55 : decode cX7_exchange 55 = .ok (.iload_n 3, 1) := by decide +kernel
theorem dX7_exchange_56 : decode cX7_exchange 56 = .ok (.iadd, 1) := by decide +kernel
theorem dX7_exchange_57 : decode cX7_exchange 57 = .ok (.istore 5, 2) := by decide +kernel
theorem dX7_exchange_59 : decode cX7_exchange 59 = .ok (.aload_n 0, 1) := by decide +kernel
theorem dX7_exchange_60 : decode cX7_exchange 60 = .ok (.getfield 38, 3) := by decide +kernel
theorem dX7_exchange_63 : decode cX7_exchange 63 = .ok (.aload_n 0, 1) := by decide +kernel
theorem dX7_exchange_64 : decode cX7_exchange 64 = .ok (.getfield 53, 3) := by decide +kernel
theorem dX7_exchange_67 : decode cX7_exchange 67 = .ok (.iload 4, 2) := by decide +kernel
theorem dX7_exchange_69 : decode cX7_exchange 69 = .ok (.iaload, 1) := by decide +kernel
theorem dX7_exchange_70 : decode cX7_exchange 70 = .ok (.laload, 1) := by decide +kernel
theorem dX7_exchange_71 : decode cX7_exchange 71 = .ok (.aload_n 0, 1) := by decide +kernel
theorem dX7_exchange_72 : decode cX7_exchange 72 = .ok (.getfield 38, 3) := by decide +kernel
theorem dX7_exchange_75 : decode cX7_exchange 75 = .ok (.aload_n 0, 1) := by decide +kernel
theorem dX7_exchange_76 : decode cX7_exchange 76 = .ok (.getfield 53, 3) := by decide +kernel
theorem dX7_exchange_79 : decode cX7_exchange 79 = .ok (.iload 5, 2) := by decide +kernel
theorem dX7_exchange_81 : decode cX7_exchange 81 = .ok (.iaload, 1) := by decide +kernel
theorem dX7_exchange_82 : decode cX7_exchange 82 = .ok (.laload, 1) := by decide +kernel
theorem dX7_exchange_83 : decode cX7_exchange 83 = .ok (.lcmp, 1) := by decide +kernel
theorem dX7_exchange_84 : decode cX7_exchange 84 = .ok (.ifCond .eq 5, 3) := by decide +kernel
theorem dX7_exchange_87 : decode cX7_exchange 87 = .ok (.iconst 0, 1) := by decide +kernel
theorem dX7_exchange_88 : decode cX7_exchange 88 = .ok (.ireturn, 1) := by decide +kernel
theorem dX7_exchange_89 : decode cX7_exchange 89 = .ok (.aload_n 0, 1) := by decide +kernel
theorem dX7_exchange_90 : decode cX7_exchange 90 = .ok (.iload_n 1, 1) := by decide +kernel
theorem dX7_exchange_91 : decode cX7_exchange 91 = .ok (.invokevirtual 190, 3) := by decide +kernel
theorem dX7_exchange_94 : decode cX7_exchange 94 = .ok (.lstore 6, 2) := by decide +kernel
theorem dX7_exchange_96 : decode cX7_exchange 96 = .ok (.iconst 0, 1) := by decide +kernel
theorem dX7_exchange_97 : decode cX7_exchange 97 = .ok (.istore 8, 2) := by decide +kernel
theorem dX7_exchange_99 : decode cX7_exchange 99 = .ok (.iload 8, 2) := by decide +kernel
theorem dX7_exchange_101 : decode cX7_exchange 101 = .ok (.bipush 40, 2) := by decide +kernel
theorem dX7_exchange_103 : decode cX7_exchange 103 = .ok (.if_icmp .ge 28, 3) := by decide +kernel
theorem dX7_exchange_106 : decode cX7_exchange 106 = .ok (.aload_n 0, 1) := by decide +kernel
theorem dX7_exchange_107 : decode cX7_exchange 107 = .ok (.getfield 72, 3) := by decide +kernel
theorem dX7_exchange_110 : decode cX7_exchange 110 = .ok (.iload 8, 2) := by decide +kernel
theorem dX7_exchange_112 : decode cX7_exchange 112 = .ok (.aload_n 0, 1) := by decide +kernel
theorem dX7_exchange_113 : decode cX7_exchange 113 = .ok (.getfield 53, 3) := by decide +kernel
theorem dX7_exchange_116 : decode cX7_exchange 116 = .ok (.bipush 40, 2) := by decide +kernel
theorem dX7_exchange_118 : decode cX7_exchange 118 = .ok (.iload_n 1, 1) := by decide +kernel
theorem dX7_exchange_119 : decode cX7_exchange 119 = .ok (.imul, 1) := by decide +kernel
theorem dX7_exchange_120 : decode cX7_exchange 120 = .ok (.iload 8, 2) := by decide +kernel
theorem dX7_exchange_122 : decode cX7_exchange 122 = .ok (.iadd, 1) := by decide +kernel
theorem dX7_exchange_123 : decode cX7_exchange 123 = .ok (.iaload, 1) := by decide +kernel
theorem dX7_exchange_124 : decode cX7_exchange 124 = .ok (.iastore, 1) := by decide +kernel
theorem dX7_exchange_125 : decode cX7_exchange 125 = .ok (.iinc 8 1, 3) := by decide +kernel
theorem dX7_exchange_128 : decode cX7_exchange 128 = .ok (.goto (-29), 3) := by decide +kernel
theorem dX7_exchange_131 : decode cX7_exchange 131 = .ok (.aload_n 0, 1) := by decide +kernel
theorem dX7_exchange_132 : decode cX7_exchange 132 = .ok (.getfield 53, 3) := by decide +kernel
theorem dX7_exchange_135 : decode cX7_exchange 135 = .ok (.iload 4, 2) := by decide +kernel
theorem dX7_exchange_137 : decode cX7_exchange 137 = .ok (.iaload, 1) := by decide +kernel
theorem dX7_exchange_138 : decode cX7_exchange 138 = .ok (.istore 8, 2) := by decide +kernel
theorem dX7_exchange_140 : decode cX7_exchange 140 = .ok (.aload_n 0, 1) := by decide +kernel
theorem dX7_exchange_141 : decode cX7_exchange 141 = .ok (.getfield 53, 3) := by decide +kernel
theorem dX7_exchange_144 : decode cX7_exchange 144 = .ok (.iload 4, 2) := by decide +kernel
theorem dX7_exchange_146 : decode cX7_exchange 146 = .ok (.aload_n 0, 1) := by decide +kernel
theorem dX7_exchange_147 : decode cX7_exchange 147 = .ok (.getfield 53, 3) := by decide +kernel
theorem dX7_exchange_150 : decode cX7_exchange 150 = .ok (.iload 5, 2) := by decide +kernel
theorem dX7_exchange_152 : decode cX7_exchange 152 = .ok (.iaload, 1) := by decide +kernel
theorem dX7_exchange_153 : decode cX7_exchange 153 = .ok (.iastore, 1) := by decide +kernel
theorem dX7_exchange_154 : decode cX7_exchange 154 = .ok (.aload_n 0, 1) := by decide +kernel
theorem dX7_exchange_155 : decode cX7_exchange 155 = .ok (.getfield 53, 3) := by decide +kernel
theorem dX7_exchange_158 : decode cX7_exchange 158 = .ok (.iload 5, 2) := by decide +kernel
theorem dX7_exchange_160 : decode cX7_exchange 160 = .ok (.iload 8, 2) := by decide +kernel
theorem dX7_exchange_162 : decode cX7_exchange 162 = .ok (.iastore, 1) := by decide +kernel
theorem dX7_exchange_163 : decode cX7_exchange 163 = .ok (.aload_n 0, 1) := by decide +kernel
theorem dX7_exchange_164 : decode cX7_exchange 164 = .ok (.iload_n 1, 1) := by decide +kernel
theorem dX7_exchange_165 : decode cX7_exchange 165 = .ok (.iload_n 2, 1) := by decide +kernel
theorem dX7_exchange_166 : decode cX7_exchange 166 = .ok (.aload_n 0, 1) := by decide +kernel
theorem dX7_exchange_167 : decode cX7_exchange 167 = .ok (.getfield 44, 3) := by decide +kernel
theorem dX7_exchange_170 : decode cX7_exchange 170 = .ok (.iload_n 1, 1) := by decide +kernel
theorem dX7_exchange_171 : decode cX7_exchange 171 = .ok (.iaload, 1) := by decide +kernel
theorem dX7_exchange_172 : decode cX7_exchange 172 = .ok (.idiv, 1) := by decide +kernel
theorem dX7_exchange_173 : decode cX7_exchange 173 = .ok (.aload_n 0, 1) := by decide +kernel
theorem dX7_exchange_174 : decode cX7_exchange 174 = .ok (.getfield 44, 3) := by decide +kernel
theorem dX7_exchange_177 : decode cX7_exchange 177 = .ok (.iload_n 1, 1) := by decide +kernel
theorem dX7_exchange_178 : decode cX7_exchange 178 = .ok (.iaload, 1) := by decide +kernel
theorem dX7_exchange_179 : decode cX7_exchange 179 = .ok (.imul, 1) := by decide +kernel
theorem dX7_exchange_180 : decode cX7_exchange 180 = .ok (.invokevirtual 193, 3) := by decide +kernel
theorem dX7_exchange_183 : decode cX7_exchange 183 = .ok (.aload_n 0, 1) := by decide +kernel
theorem dX7_exchange_184 : decode cX7_exchange 184 = .ok (.iload_n 1, 1) := by decide +kernel
theorem dX7_exchange_185 : decode cX7_exchange 185 = .ok (.iload_n 3, 1) := by decide +kernel
theorem dX7_exchange_186 : decode cX7_exchange 186 = .ok (.aload_n 0, 1) := by decide +kernel
theorem dX7_exchange_187 : decode cX7_exchange 187 = .ok (.getfield 44, 3) := by decide +kernel
theorem dX7_exchange_190 : decode cX7_exchange 190 = .ok (.iload_n 1, 1) := by decide +kernel
theorem dX7_exchange_191 : decode cX7_exchange 191 = .ok (.iaload, 1) := by decide +kernel
theorem dX7_exchange_192 : decode cX7_exchange 192 = .ok (.idiv, 1) := by decide +kernel
theorem dX7_exchange_193 : decode cX7_exchange 193 = .ok (.aload_n 0, 1) := by decide +kernel
theorem dX7_exchange_194 : decode cX7_exchange 194 = .ok (.getfield 44, 3) := by decide +kernel
theorem dX7_exchange_197 : decode cX7_exchange 197 = .ok (.iload_n 1, 1) := by decide +kernel
theorem dX7_exchange_198 : decode cX7_exchange 198 = .ok (.iaload, 1) := by decide +kernel
theorem dX7_exchange_199 : decode cX7_exchange 199 = .ok (.imul, 1) := by decide +kernel
theorem dX7_exchange_200 : decode cX7_exchange 200 = .ok (.invokevirtual 193, 3) := by decide +kernel
theorem dX7_exchange_203 : decode cX7_exchange 203 = .ok (.aload_n 0, 1) := by decide +kernel
theorem dX7_exchange_204 : decode cX7_exchange 204 = .ok (.iload_n 1, 1) := by decide +kernel
theorem dX7_exchange_205 : decode cX7_exchange 205 = .ok (.invokevirtual 190, 3) := by decide +kernel
theorem dX7_exchange_208 : decode cX7_exchange 208 = .ok (.lload 6, 2) := by decide +kernel
theorem dX7_exchange_210 : decode cX7_exchange 210 = .ok (.lcmp, 1) := by decide +kernel
theorem dX7_exchange_211 : decode cX7_exchange 211 = .ok (.ifCond .ge 5, 3) := by decide +kernel
theorem dX7_exchange_214 : decode cX7_exchange 214 = .ok (.iconst 1, 1) := by decide +kernel
theorem dX7_exchange_215 : decode cX7_exchange 215 = .ok (.ireturn, 1) := by decide +kernel
theorem dX7_exchange_216 : decode cX7_exchange 216 = .ok (.iconst 0, 1) := by decide +kernel
theorem dX7_exchange_217 : decode cX7_exchange 217 = .ok (.istore 9, 2) := by decide +kernel
theorem dX7_exchange_219 : decode cX7_exchange 219 = .ok (.iload 9, 2) := by decide +kernel
theorem dX7_exchange_221 : decode cX7_exchange 221 = .ok (.bipush 40, 2) := by decide +kernel
theorem dX7_exchange_223 : decode cX7_exchange 223 = .ok (.if_icmp .ge 28, 3) := by decide +kernel
theorem dX7_exchange_226 : decode cX7_exchange 226 = .ok (.aload_n 0, 1) := by decide +kernel
theorem dX7_exchange_227 : decode cX7_exchange 227 = .ok (.getfield 53, 3) := by decide +kernel
theorem dX7_exchange_230 : decode cX7_exchange 230 = .ok (.bipush 40, 2) := by decide +kernel
theorem dX7_exchange_232 : decode cX7_exchange 232 = .ok (.iload_n 1, 1) := by decide +kernel
theorem dX7_exchange_233 : decode cX7_exchange 233 = .ok (.imul, 1) := by decide +kernel
theorem dX7_exchange_234 : decode cX7_exchange 234 = .ok (.iload 9, 2) := by decide +kernel
theorem dX7_exchange_236 : decode cX7_exchange 236 = .ok (.iadd, 1) := by decide +kernel
theorem dX7_exchange_237 : decode cX7_exchange 237 = .ok (.aload_n 0, 1) := by decide +kernel
theorem dX7_exchange_238 : decode cX7_exchange 238 = .ok (.getfield 72, 3) := by decide +kernel
theorem dX7_exchange_241 : decode cX7_exchange 241 = .ok (.iload 9, 2) := by decide +kernel
theorem dX7_exchange_243 : decode cX7_exchange 243 = .ok (.iaload, 1) := by decide +kernel
theorem dX7_exchange_244 : decode cX7_exchange 244 = .ok (.iastore, 1) := by decide +kernel
theorem dX7_exchange_245 : decode cX7_exchange 245 = .ok (.iinc 9 1, 3) := by decide +kernel
theorem dX7_exchange_248 : decode cX7_exchange 248 = .ok (.goto (-29), 3) := by decide +kernel
theorem dX7_exchange_251 : decode cX7_exchange 251 = .ok (.iconst 0, 1) := by decide +kernel
theorem dX7_exchange_252 : decode cX7_exchange 252 = .ok (.ireturn, 1) := by decide +kernel
abbrev cX7_exchanges : ByteArray := prog_9_method_37_code
def yX7_exchanges : MethodName := ⟨RX7, "exchanges", "(J)I"⟩
theorem dX7_exchanges_0 : decode cX7_exchanges 0 = .ok (.iconst 0, 1) := by decide +kernel
theorem dX7_exchanges_1 : decode cX7_exchanges 1 = .ok (.istore_n 3, 1) := by decide +kernel
theorem dX7_exchanges_2 : decode cX7_exchanges 2 = .ok (.lconst 0, 1) := by decide +kernel
theorem dX7_exchanges_3 : decode cX7_exchanges 3 = .ok (.lstore 4, 2) := by decide +kernel
theorem dX7_exchanges_5 : decode cX7_exchanges 5 = .ok (.lload 4, 2) := by decide +kernel
theorem dX7_exchanges_7 : decode cX7_exchanges 7 = .ok (.lload_n 1, 1) := by decide +kernel
theorem dX7_exchanges_8 : decode cX7_exchanges 8 = .ok (.lcmp, 1) := by decide +kernel
theorem dX7_exchanges_9 : decode cX7_exchanges 9 = .ok (.ifCond .ge 34, 3) := by decide +kernel
theorem dX7_exchanges_12 : decode cX7_exchanges 12 = .ok (.aload_n 0, 1) := by decide +kernel
theorem dX7_exchanges_13 : decode cX7_exchanges 13 = .ok (.getfield 109, 3) := by decide +kernel
theorem dX7_exchanges_16 : decode cX7_exchanges 16 = .ok (.ifCond .le 27, 3) := by decide +kernel
theorem dX7_exchanges_19 : decode cX7_exchanges 19 = .ok (.iload_n 3, 1) := by decide +kernel
theorem dX7_exchanges_20 : decode cX7_exchanges 20 = .ok (.aload_n 0, 1) := by decide +kernel
theorem dX7_exchanges_21 : decode cX7_exchanges 21 = .ok (.invokevirtual 197, 3) := by decide +kernel
theorem dX7_exchanges_24 : decode cX7_exchanges 24 = .ok (.ifCond .eq 7, 3) := by decide +kernel
theorem dX7_exchanges_27 : decode cX7_exchanges 27 = .ok (.iconst 1, 1) := by decide +kernel
theorem dX7_exchanges_28 : decode cX7_exchanges 28 = .ok (.goto 4, 3) := by decide +kernel
theorem dX7_exchanges_31 : decode cX7_exchanges 31 = .ok (.iconst 0, 1) := by decide +kernel
theorem dX7_exchanges_32 : decode cX7_exchanges 32 = .ok (.iadd, 1) := by decide +kernel
theorem dX7_exchanges_33 : decode cX7_exchanges 33 = .ok (.istore_n 3, 1) := by decide +kernel
theorem dX7_exchanges_34 : decode cX7_exchanges 34 = .ok (.lload 4, 2) := by decide +kernel
theorem dX7_exchanges_36 : decode cX7_exchanges 36 = .ok (.lconst 1, 1) := by decide +kernel
theorem dX7_exchanges_37 : decode cX7_exchanges 37 = .ok (.ladd, 1) := by decide +kernel
theorem dX7_exchanges_38 : decode cX7_exchanges 38 = .ok (.lstore 4, 2) := by decide +kernel
theorem dX7_exchanges_40 : decode cX7_exchanges 40 = .ok (.goto (-35), 3) := by decide +kernel
theorem dX7_exchanges_43 : decode cX7_exchanges 43 = .ok (.iload_n 3, 1) := by decide +kernel
theorem dX7_exchanges_44 : decode cX7_exchanges 44 = .ok (.ireturn, 1) := by decide +kernel
abbrev cX7_run : ByteArray := prog_9_method_38_code
def yX7_run : MethodName := ⟨RX7, "run", "(IJ)I"⟩
theorem dX7_run_0 : decode cX7_run 0 = .ok (.aload_n 0, 1) := by decide +kernel
theorem dX7_run_1 : decode cX7_run 1 = .ok (.iload_n 1, 1) := by decide +kernel
theorem dX7_run_2 : decode cX7_run 2 = .ok (.ifCond .lt 26, 3) := by decide +kernel
theorem dX7_run_5 : decode cX7_run 5 = .ok (.iload_n 1, 1) := by decide +kernel
theorem dX7_run_6 : decode cX7_run 6 = .ok (.iconst 3, 1) := by decide +kernel
theorem dX7_run_7 : decode cX7_run 7 = .ok (.if_icmp .gt 21, 3) := by decide +kernel
theorem dX7_run_10 : decode cX7_run 10 = .ok (.lload_n 2, 1) := by decide +kernel
theorem dX7_run_11 : decode cX7_run 11 = .ok (.lconst 0, 1) := by decide +kernel
theorem dX7_run_12 : decode cX7_run 12 = .ok (.lcmp, 1) := by decide +kernel
theorem dX7_run_13 : decode cX7_run 13 = .ok (.ifCond .lt 15, 3) := by decide +kernel
theorem dX7_run_16 : decode cX7_run 16 = .ok (.lload_n 2, 1) := by decide +kernel
theorem dX7_run_17 : decode cX7_run 17 = .ok (.ldc2_w 200, 3) := by decide +kernel
theorem dX7_run_20 : decode cX7_run 20 = .ok (.lcmp, 1) := by decide +kernel
theorem dX7_run_21 : decode cX7_run 21 = .ok (.ifCond .gt 7, 3) := by decide +kernel
theorem dX7_run_24 : decode cX7_run 24 = .ok (.iconst 0, 1) := by decide +kernel
theorem dX7_run_25 : decode cX7_run 25 = .ok (.goto 4, 3) := by decide +kernel
theorem dX7_run_28 : decode cX7_run 28 = .ok (.iconst 1, 1) := by decide +kernel
theorem dX7_run_29 : decode cX7_run 29 = .ok (.putfield 83, 3) := by decide +kernel
theorem dX7_run_32 : decode cX7_run 32 = .ok (.aload_n 0, 1) := by decide +kernel
theorem dX7_run_33 : decode cX7_run 33 = .ok (.getfield 83, 3) := by decide +kernel
theorem dX7_run_36 : decode cX7_run 36 = .ok (.ifCond .eq 5, 3) := by decide +kernel
theorem dX7_run_39 : decode cX7_run 39 = .ok (.iconst 0, 1) := by decide +kernel
theorem dX7_run_40 : decode cX7_run 40 = .ok (.ireturn, 1) := by decide +kernel
theorem dX7_run_41 : decode cX7_run 41 = .ok (.aload_n 0, 1) := by decide +kernel
theorem dX7_run_42 : decode cX7_run 42 = .ok (.iload_n 1, 1) := by decide +kernel
theorem dX7_run_43 : decode cX7_run 43 = .ok (.aload_n 0, 1) := by decide +kernel
theorem dX7_run_44 : decode cX7_run 44 = .ok (.getfield 92, 3) := by decide +kernel
theorem dX7_run_47 : decode cX7_run 47 = .ok (.if_icmp .ge 7, 3) := by decide +kernel
theorem dX7_run_50 : decode cX7_run 50 = .ok (.iload_n 1, 1) := by decide +kernel
theorem dX7_run_51 : decode cX7_run 51 = .ok (.goto 7, 3) := by decide +kernel
theorem dX7_run_54 : decode cX7_run 54 = .ok (.aload_n 0, 1) := by decide +kernel
theorem dX7_run_55 : decode cX7_run 55 = .ok (.getfield 92, 3) := by decide +kernel
theorem dX7_run_58 : decode cX7_run 58 = .ok (.putfield 109, 3) := by decide +kernel
theorem dX7_run_61 : decode cX7_run 61 = .ok (.iconst 0, 1) := by decide +kernel
theorem dX7_run_62 : decode cX7_run 62 = .ok (.istore 4, 2) := by decide +kernel
theorem dX7_run_64 : decode cX7_run 64 = .ok (.iload 4, 2) := by decide +kernel
theorem dX7_run_66 : decode cX7_run 66 = .ok (.bipush 30, 2) := by decide +kernel
theorem dX7_run_68 : decode cX7_run 68 = .ok (.if_icmp .ge 17, 3) := by decide +kernel
theorem dX7_run_71 : decode cX7_run 71 = .ok (.aload_n 0, 1) := by decide +kernel
theorem dX7_run_72 : decode cX7_run 72 = .ok (.getfield 47, 3) := by decide +kernel
theorem dX7_run_75 : decode cX7_run 75 = .ok (.iload 4, 2) := by decide +kernel
theorem dX7_run_77 : decode cX7_run 77 = .ok (.iconst (-1), 1) := by decide +kernel
theorem dX7_run_78 : decode cX7_run 78 = .ok (.iastore, 1) := by decide +kernel
theorem dX7_run_79 : decode cX7_run 79 = .ok (.iinc 4 1, 3) := by decide +kernel
theorem dX7_run_82 : decode cX7_run 82 = .ok (.goto (-18), 3) := by decide +kernel
theorem dX7_run_85 : decode cX7_run 85 = .ok (.iconst 0, 1) := by decide +kernel
theorem dX7_run_86 : decode cX7_run 86 = .ok (.istore 4, 2) := by decide +kernel
theorem dX7_run_88 : decode cX7_run 88 = .ok (.iload 4, 2) := by decide +kernel
theorem dX7_run_90 : decode cX7_run 90 = .ok (.iconst 3, 1) := by decide +kernel
theorem dX7_run_91 : decode cX7_run 91 = .ok (.if_icmp .ge 17, 3) := by decide +kernel
theorem dX7_run_94 : decode cX7_run 94 = .ok (.aload_n 0, 1) := by decide +kernel
theorem dX7_run_95 : decode cX7_run 95 = .ok (.getfield 50, 3) := by decide +kernel
theorem dX7_run_98 : decode cX7_run 98 = .ok (.iload 4, 2) := by decide +kernel
theorem dX7_run_100 : decode cX7_run 100 = .ok (.iconst 0, 1) := by decide +kernel
theorem dX7_run_101 : decode cX7_run 101 = .ok (.iastore, 1) := by decide +kernel
theorem dX7_run_102 : decode cX7_run 102 = .ok (.iinc 4 1, 3) := by decide +kernel
theorem dX7_run_105 : decode cX7_run 105 = .ok (.goto (-17), 3) := by decide +kernel
theorem dX7_run_108 : decode cX7_run 108 = .ok (.aload_n 0, 1) := by decide +kernel
theorem dX7_run_109 : decode cX7_run 109 = .ok (.invokevirtual 202, 3) := by decide +kernel
theorem dX7_run_112 : decode cX7_run 112 = .ok (.iconst 0, 1) := by decide +kernel
theorem dX7_run_113 : decode cX7_run 113 = .ok (.istore 4, 2) := by decide +kernel
theorem dX7_run_115 : decode cX7_run 115 = .ok (.iload 4, 2) := by decide +kernel
theorem dX7_run_117 : decode cX7_run 117 = .ok (.aload_n 0, 1) := by decide +kernel
theorem dX7_run_118 : decode cX7_run 118 = .ok (.getfield 109, 3) := by decide +kernel
theorem dX7_run_121 : decode cX7_run 121 = .ok (.if_icmp .ge 59, 3) := by decide +kernel
theorem dX7_run_124 : decode cX7_run 124 = .ok (.aload_n 0, 1) := by decide +kernel
theorem dX7_run_125 : decode cX7_run 125 = .ok (.iload 4, 2) := by decide +kernel
theorem dX7_run_127 : decode cX7_run 127 = .ok (.invokevirtual 205, 3) := by decide +kernel
theorem dX7_run_130 : decode cX7_run 130 = .ok (.aload_n 0, 1) := by decide +kernel
theorem dX7_run_131 : decode cX7_run 131 = .ok (.iload 4, 2) := by decide +kernel
theorem dX7_run_133 : decode cX7_run 133 = .ok (.invokevirtual 209, 3) := by decide +kernel
theorem dX7_run_136 : decode cX7_run 136 = .ok (.iconst 0, 1) := by decide +kernel
theorem dX7_run_137 : decode cX7_run 137 = .ok (.istore 5, 2) := by decide +kernel
theorem dX7_run_139 : decode cX7_run 139 = .ok (.iload 5, 2) := by decide +kernel
theorem dX7_run_141 : decode cX7_run 141 = .ok (.aload_n 0, 1) := by decide +kernel
theorem dX7_run_142 : decode cX7_run 142 = .ok (.getfield 50, 3) := by decide +kernel
theorem dX7_run_145 : decode cX7_run 145 = .ok (.iload 4, 2) := by decide +kernel
theorem dX7_run_147 : decode cX7_run 147 = .ok (.iaload, 1) := by decide +kernel
theorem dX7_run_148 : decode cX7_run 148 = .ok (.if_icmp .ge 26, 3) := by decide +kernel
theorem dX7_run_151 : decode cX7_run 151 = .ok (.aload_n 0, 1) := by decide +kernel
theorem dX7_run_152 : decode cX7_run 152 = .ok (.iload 4, 2) := by decide +kernel
theorem dX7_run_154 : decode cX7_run 154 = .ok (.iload 5, 2) := by decide +kernel
theorem dX7_run_156 : decode cX7_run 156 = .ok (.invokevirtual 193, 3) := by decide +kernel
theorem dX7_run_159 : decode cX7_run 159 = .ok (.iload 5, 2) := by decide +kernel
theorem dX7_run_161 : decode cX7_run 161 = .ok (.aload_n 0, 1) := by decide +kernel
theorem dX7_run_162 : decode cX7_run 162 = .ok (.getfield 44, 3) := by decide +kernel
theorem dX7_run_165 : decode cX7_run 165 = .ok (.iload 4, 2) := by decide +kernel
theorem dX7_run_167 : decode cX7_run 167 = .ok (.iaload, 1) := by decide +kernel
theorem dX7_run_168 : decode cX7_run 168 = .ok (.iadd, 1) := by decide +kernel
theorem dX7_run_169 : decode cX7_run 169 = .ok (.istore 5, 2) := by decide +kernel
theorem dX7_run_171 : decode cX7_run 171 = .ok (.goto (-32), 3) := by decide +kernel
theorem dX7_run_174 : decode cX7_run 174 = .ok (.iinc 4 1, 3) := by decide +kernel
theorem dX7_run_177 : decode cX7_run 177 = .ok (.goto (-62), 3) := by decide +kernel
theorem dX7_run_180 : decode cX7_run 180 = .ok (.aload_n 0, 1) := by decide +kernel
theorem dX7_run_181 : decode cX7_run 181 = .ok (.lload_n 2, 1) := by decide +kernel
theorem dX7_run_182 : decode cX7_run 182 = .ok (.invokevirtual 212, 3) := by decide +kernel
theorem dX7_run_185 : decode cX7_run 185 = .ok (.pop, 1) := by decide +kernel
theorem dX7_run_186 : decode cX7_run 186 = .ok (.lconst 0, 1) := by decide +kernel
theorem dX7_run_187 : decode cX7_run 187 = .ok (.lstore 4, 2) := by decide +kernel
theorem dX7_run_189 : decode cX7_run 189 = .ok (.iconst 0, 1) := by decide +kernel
theorem dX7_run_190 : decode cX7_run 190 = .ok (.istore 6, 2) := by decide +kernel
theorem dX7_run_192 : decode cX7_run 192 = .ok (.iload 6, 2) := by decide +kernel
theorem dX7_run_194 : decode cX7_run 194 = .ok (.aload_n 0, 1) := by decide +kernel
theorem dX7_run_195 : decode cX7_run 195 = .ok (.getfield 109, 3) := by decide +kernel
theorem dX7_run_198 : decode cX7_run 198 = .ok (.if_icmp .ge 22, 3) := by decide +kernel
theorem dX7_run_201 : decode cX7_run 201 = .ok (.lload 4, 2) := by decide +kernel
theorem dX7_run_203 : decode cX7_run 203 = .ok (.aload_n 0, 1) := by decide +kernel
theorem dX7_run_204 : decode cX7_run 204 = .ok (.iload 6, 2) := by decide +kernel
theorem dX7_run_206 : decode cX7_run 206 = .ok (.invokevirtual 190, 3) := by decide +kernel
theorem dX7_run_209 : decode cX7_run 209 = .ok (.invokestatic 142, 3) := by decide +kernel
theorem dX7_run_212 : decode cX7_run 212 = .ok (.lstore 4, 2) := by decide +kernel
theorem dX7_run_214 : decode cX7_run 214 = .ok (.iinc 6 1, 3) := by decide +kernel
theorem dX7_run_217 : decode cX7_run 217 = .ok (.goto (-25), 3) := by decide +kernel
theorem dX7_run_220 : decode cX7_run 220 = .ok (.lload 4, 2) := by decide +kernel
theorem dX7_run_222 : decode cX7_run 222 = .ok (.l2i, 1) := by decide +kernel
theorem dX7_run_223 : decode cX7_run 223 = .ok (.ireturn, 1) := by decide +kernel
abbrev cX7_improve : ByteArray := prog_9_method_39_code
def yX7_improve : MethodName := ⟨RX7, "improve", "(I)I"⟩
theorem dX7_improve_0 : decode cX7_improve 0 = .ok (.aload_n 0, 1) := by decide +kernel
theorem dX7_improve_1 : decode cX7_improve 1 = .ok (.iload_n 1, 1) := by decide +kernel
theorem dX7_improve_2 : decode cX7_improve 2 = .ok (.ifCond .lt 14, 3) := by decide +kernel
theorem dX7_improve_5 : decode cX7_improve 5 = .ok (.iload_n 1, 1) := by decide +kernel
theorem dX7_improve_6 : decode cX7_improve 6 = .ok (.sipush 200, 3) := by decide +kernel
theorem dX7_improve_9 : decode cX7_improve 9 = .ok (.if_icmp .gt 7, 3) := by decide +kernel
theorem dX7_improve_12 : decode cX7_improve 12 = .ok (.iconst 0, 1) := by decide +kernel
theorem dX7_improve_13 : decode cX7_improve 13 = .ok (.goto 4, 3) := by decide +kernel
theorem dX7_improve_16 : decode cX7_improve 16 = .ok (.iconst 1, 1) := by decide +kernel
theorem dX7_improve_17 : decode cX7_improve 17 = .ok (.putfield 83, 3) := by decide +kernel
theorem dX7_improve_20 : decode cX7_improve 20 = .ok (.aload_n 0, 1) := by decide +kernel
theorem dX7_improve_21 : decode cX7_improve 21 = .ok (.getfield 83, 3) := by decide +kernel
theorem dX7_improve_24 : decode cX7_improve 24 = .ok (.ifCond .ne 12, 3) := by decide +kernel
theorem dX7_improve_27 : decode cX7_improve 27 = .ok (.aload_n 0, 1) := by decide +kernel
theorem dX7_improve_28 : decode cX7_improve 28 = .ok (.iload_n 1, 1) := by decide +kernel
theorem dX7_improve_29 : decode cX7_improve 29 = .ok (.i2l, 1) := by decide +kernel
theorem dX7_improve_30 : decode cX7_improve 30 = .ok (.invokevirtual 212, 3) := by decide +kernel
theorem dX7_improve_33 : decode cX7_improve 33 = .ok (.goto 4, 3) := by decide +kernel
theorem dX7_improve_36 : decode cX7_improve 36 = .ok (.iconst 0, 1) := by decide +kernel
theorem dX7_improve_37 : decode cX7_improve 37 = .ok (.ireturn, 1) := by decide +kernel
abbrev cX7_slot : ByteArray := prog_9_method_40_code
def yX7_slot : MethodName := ⟨RX7, "slot", "(II)I"⟩
theorem dX7_slot_0 : decode cX7_slot 0 = .ok (.aload_n 0, 1) := by decide +kernel
theorem dX7_slot_1 : decode cX7_slot 1 = .ok (.aload_n 0, 1) := by decide +kernel
theorem dX7_slot_2 : decode cX7_slot 2 = .ok (.iload_n 1, 1) := by decide +kernel
theorem dX7_slot_3 : decode cX7_slot 3 = .ok (.invokevirtual 216, 3) := by decide +kernel
theorem dX7_slot_6 : decode cX7_slot 6 = .ok (.ifCond .eq 15, 3) := by decide +kernel
theorem dX7_slot_9 : decode cX7_slot 9 = .ok (.aload_n 0, 1) := by decide +kernel
theorem dX7_slot_10 : decode cX7_slot 10 = .ok (.iload_n 2, 1) := by decide +kernel
theorem dX7_slot_11 : decode cX7_slot 11 = .ok (.invokevirtual 97, 3) := by decide +kernel
theorem dX7_slot_14 : decode cX7_slot 14 = .ok (.ifCond .eq 7, 3) := by decide +kernel
theorem dX7_slot_17 : decode cX7_slot 17 = .ok (.iconst 0, 1) := by decide +kernel
theorem dX7_slot_18 : decode cX7_slot 18 = .ok (.goto 4, 3) := by decide +kernel
theorem dX7_slot_21 : decode cX7_slot 21 = .ok (.iconst 1, 1) := by decide +kernel
theorem dX7_slot_22 : decode cX7_slot 22 = .ok (.putfield 83, 3) := by decide +kernel
theorem dX7_slot_25 : decode cX7_slot 25 = .ok (.aload_n 0, 1) := by decide +kernel
theorem dX7_slot_26 : decode cX7_slot 26 = .ok (.getfield 83, 3) := by decide +kernel
theorem dX7_slot_29 : decode cX7_slot 29 = .ok (.ifCond .ne 17, 3) := by decide +kernel
theorem dX7_slot_32 : decode cX7_slot 32 = .ok (.aload_n 0, 1) := by decide +kernel
theorem dX7_slot_33 : decode cX7_slot 33 = .ok (.getfield 47, 3) := by decide +kernel
theorem dX7_slot_36 : decode cX7_slot 36 = .ok (.bipush 10, 2) := by decide +kernel
theorem dX7_slot_38 : decode cX7_slot 38 = .ok (.iload_n 1, 1) := by decide +kernel
theorem dX7_slot_39 : decode cX7_slot 39 = .ok (.imul, 1) := by decide +kernel
theorem dX7_slot_40 : decode cX7_slot 40 = .ok (.iload_n 2, 1) := by decide +kernel
theorem dX7_slot_41 : decode cX7_slot 41 = .ok (.iadd, 1) := by decide +kernel
theorem dX7_slot_42 : decode cX7_slot 42 = .ok (.iaload, 1) := by decide +kernel
theorem dX7_slot_43 : decode cX7_slot 43 = .ok (.goto 4, 3) := by decide +kernel
theorem dX7_slot_46 : decode cX7_slot 46 = .ok (.iconst 0, 1) := by decide +kernel
theorem dX7_slot_47 : decode cX7_slot 47 = .ok (.ireturn, 1) := by decide +kernel
abbrev cX7_order : ByteArray := prog_9_method_41_code
def yX7_order : MethodName := ⟨RX7, "order", "(II)I"⟩
theorem dX7_order_0 : decode cX7_order 0 = .ok (.aload_n 0, 1) := by decide +kernel
theorem dX7_order_1 : decode cX7_order 1 = .ok (.aload_n 0, 1) := by decide +kernel
theorem dX7_order_2 : decode cX7_order 2 = .ok (.iload_n 1, 1) := by decide +kernel
theorem dX7_order_3 : decode cX7_order 3 = .ok (.invokevirtual 216, 3) := by decide +kernel
theorem dX7_order_6 : decode cX7_order 6 = .ok (.ifCond .eq 7, 3) := by decide +kernel
theorem dX7_order_9 : decode cX7_order 9 = .ok (.iconst 0, 1) := by decide +kernel
theorem dX7_order_10 : decode cX7_order 10 = .ok (.goto 4, 3) := by decide +kernel
theorem dX7_order_13 : decode cX7_order 13 = .ok (.iconst 1, 1) := by decide +kernel
theorem dX7_order_14 : decode cX7_order 14 = .ok (.putfield 83, 3) := by decide +kernel
theorem dX7_order_17 : decode cX7_order 17 = .ok (.aload_n 0, 1) := by decide +kernel
theorem dX7_order_18 : decode cX7_order 18 = .ok (.getfield 83, 3) := by decide +kernel
theorem dX7_order_21 : decode cX7_order 21 = .ok (.ifCond .eq 5, 3) := by decide +kernel
theorem dX7_order_24 : decode cX7_order 24 = .ok (.iconst 0, 1) := by decide +kernel
theorem dX7_order_25 : decode cX7_order 25 = .ok (.ireturn, 1) := by decide +kernel
theorem dX7_order_26 : decode cX7_order 26 = .ok (.iload_n 2, 1) := by decide +kernel
theorem dX7_order_27 : decode cX7_order 27 = .ok (.ifCond .lt 27, 3) := by decide +kernel
theorem dX7_order_30 : decode cX7_order 30 = .ok (.iload_n 2, 1) := by decide +kernel
theorem dX7_order_31 : decode cX7_order 31 = .ok (.aload_n 0, 1) := by decide +kernel
theorem dX7_order_32 : decode cX7_order 32 = .ok (.getfield 50, 3) := by decide +kernel
theorem dX7_order_35 : decode cX7_order 35 = .ok (.iload_n 1, 1) := by decide +kernel
theorem dX7_order_36 : decode cX7_order 36 = .ok (.iaload, 1) := by decide +kernel
theorem dX7_order_37 : decode cX7_order 37 = .ok (.if_icmp .ge 17, 3) := by decide +kernel
theorem dX7_order_40 : decode cX7_order 40 = .ok (.aload_n 0, 1) := by decide +kernel
theorem dX7_order_41 : decode cX7_order 41 = .ok (.getfield 53, 3) := by decide +kernel
theorem dX7_order_44 : decode cX7_order 44 = .ok (.bipush 40, 2) := by decide +kernel
theorem dX7_order_46 : decode cX7_order 46 = .ok (.iload_n 1, 1) := by decide +kernel
theorem dX7_order_47 : decode cX7_order 47 = .ok (.imul, 1) := by decide +kernel
theorem dX7_order_48 : decode cX7_order 48 = .ok (.iload_n 2, 1) := by decide +kernel
theorem dX7_order_49 : decode cX7_order 49 = .ok (.iadd, 1) := by decide +kernel
theorem dX7_order_50 : decode cX7_order 50 = .ok (.iaload, 1) := by decide +kernel
theorem dX7_order_51 : decode cX7_order 51 = .ok (.goto 4, 3) := by decide +kernel
theorem dX7_order_54 : decode cX7_order 54 = .ok (.iconst (-1), 1) := by decide +kernel
theorem dX7_order_55 : decode cX7_order 55 = .ok (.ireturn, 1) := by decide +kernel
abbrev cX7_placeOf : ByteArray := prog_9_method_42_code
def yX7_placeOf : MethodName := ⟨RX7, "placeOf", "(II)I"⟩
theorem dX7_placeOf_0 : decode cX7_placeOf 0 = .ok (.iconst 0, 1) := by decide +kernel
theorem dX7_placeOf_1 : decode cX7_placeOf 1 = .ok (.istore_n 3, 1) := by decide +kernel
theorem dX7_placeOf_2 : decode cX7_placeOf 2 = .ok (.iload_n 3, 1) := by decide +kernel
theorem dX7_placeOf_3 : decode cX7_placeOf 3 = .ok (.aload_n 0, 1) := by decide +kernel
theorem dX7_placeOf_4 : decode cX7_placeOf 4 = .ok (.getfield 50, 3) := by decide +kernel
theorem dX7_placeOf_7 : decode cX7_placeOf 7 = .ok (.iload_n 1, 1) := by decide +kernel
theorem dX7_placeOf_8 : decode cX7_placeOf 8 = .ok (.iaload, 1) := by decide +kernel
theorem dX7_placeOf_9 : decode cX7_placeOf 9 = .ok (.if_icmp .ge 26, 3) := by decide +kernel
theorem dX7_placeOf_12 : decode cX7_placeOf 12 = .ok (.aload_n 0, 1) := by decide +kernel
theorem dX7_placeOf_13 : decode cX7_placeOf 13 = .ok (.getfield 53, 3) := by decide +kernel
theorem dX7_placeOf_16 : decode cX7_placeOf 16 = .ok (.bipush 40, 2) := by decide +kernel
theorem dX7_placeOf_18 : decode cX7_placeOf 18 = .ok (.iload_n 1, 1) := by decide +kernel
theorem dX7_placeOf_19 : decode cX7_placeOf 19 = .ok (.imul, 1) := by decide +kernel
theorem dX7_placeOf_20 : decode cX7_placeOf 20 = .ok (.iload_n 3, 1) := by decide +kernel
theorem dX7_placeOf_21 : decode cX7_placeOf 21 = .ok (.iadd, 1) := by decide +kernel
theorem dX7_placeOf_22 : decode cX7_placeOf 22 = .ok (.iaload, 1) := by decide +kernel
theorem dX7_placeOf_23 : decode cX7_placeOf 23 = .ok (.iload_n 2, 1) := by decide +kernel
theorem dX7_placeOf_24 : decode cX7_placeOf 24 = .ok (.if_icmp .ne 5, 3) := by decide +kernel
theorem dX7_placeOf_27 : decode cX7_placeOf 27 = .ok (.iload_n 3, 1) := by decide +kernel
theorem dX7_placeOf_28 : decode cX7_placeOf 28 = .ok (.ireturn, 1) := by decide +kernel
theorem dX7_placeOf_29 : decode cX7_placeOf 29 = .ok (.iinc 3 1, 3) := by decide +kernel
theorem dX7_placeOf_32 : decode cX7_placeOf 32 = .ok (.goto (-30), 3) := by decide +kernel
theorem dX7_placeOf_35 : decode cX7_placeOf 35 = .ok (.iconst (-1), 1) := by decide +kernel
theorem dX7_placeOf_36 : decode cX7_placeOf 36 = .ok (.ireturn, 1) := by decide +kernel
abbrev cX7_trip : ByteArray := prog_9_method_43_code
def yX7_trip : MethodName := ⟨RX7, "trip", "(II)I"⟩
theorem dX7_trip_0 : decode cX7_trip 0 = .ok (.aload_n 0, 1) := by decide +kernel
theorem dX7_trip_1 : decode cX7_trip 1 = .ok (.aload_n 0, 1) := by decide +kernel
theorem dX7_trip_2 : decode cX7_trip 2 = .ok (.iload_n 1, 1) := by decide +kernel
theorem dX7_trip_3 : decode cX7_trip 3 = .ok (.invokevirtual 216, 3) := by decide +kernel
theorem dX7_trip_6 : decode cX7_trip 6 = .ok (.ifCond .eq 15, 3) := by decide +kernel
theorem dX7_trip_9 : decode cX7_trip 9 = .ok (.aload_n 0, 1) := by decide +kernel
theorem dX7_trip_10 : decode cX7_trip 10 = .ok (.iload_n 2, 1) := by decide +kernel
theorem dX7_trip_11 : decode cX7_trip 11 = .ok (.invokevirtual 219, 3) := by decide +kernel
theorem dX7_trip_14 : decode cX7_trip 14 = .ok (.ifCond .eq 7, 3) := by decide +kernel
theorem dX7_trip_17 : decode cX7_trip 17 = .ok (.iconst 0, 1) := by decide +kernel
theorem dX7_trip_18 : decode cX7_trip 18 = .ok (.goto 4, 3) := by decide +kernel
theorem dX7_trip_21 : decode cX7_trip 21 = .ok (.iconst 1, 1) := by decide +kernel
theorem dX7_trip_22 : decode cX7_trip 22 = .ok (.putfield 83, 3) := by decide +kernel
theorem dX7_trip_25 : decode cX7_trip 25 = .ok (.aload_n 0, 1) := by decide +kernel
theorem dX7_trip_26 : decode cX7_trip 26 = .ok (.getfield 83, 3) := by decide +kernel
theorem dX7_trip_29 : decode cX7_trip 29 = .ok (.ifCond .eq 5, 3) := by decide +kernel
theorem dX7_trip_32 : decode cX7_trip 32 = .ok (.iconst 0, 1) := by decide +kernel
theorem dX7_trip_33 : decode cX7_trip 33 = .ok (.ireturn, 1) := by decide +kernel
theorem dX7_trip_34 : decode cX7_trip 34 = .ok (.aload_n 0, 1) := by decide +kernel
theorem dX7_trip_35 : decode cX7_trip 35 = .ok (.iload_n 1, 1) := by decide +kernel
theorem dX7_trip_36 : decode cX7_trip 36 = .ok (.iload_n 2, 1) := by decide +kernel
theorem dX7_trip_37 : decode cX7_trip 37 = .ok (.invokevirtual 222, 3) := by decide +kernel
theorem dX7_trip_40 : decode cX7_trip 40 = .ok (.istore_n 3, 1) := by decide +kernel
theorem dX7_trip_41 : decode cX7_trip 41 = .ok (.iload_n 3, 1) := by decide +kernel
theorem dX7_trip_42 : decode cX7_trip 42 = .ok (.iconst (-1), 1) := by decide +kernel
theorem dX7_trip_43 : decode cX7_trip 43 = .ok (.if_icmp .ne 7, 3) := by decide +kernel
theorem dX7_trip_46 : decode cX7_trip 46 = .ok (.iconst (-1), 1) := by decide +kernel
theorem dX7_trip_47 : decode cX7_trip 47 = .ok (.goto 11, 3) := by decide +kernel
theorem dX7_trip_50 : decode cX7_trip 50 = .ok (.iload_n 3, 1) := by decide +kernel
theorem dX7_trip_51 : decode cX7_trip 51 = .ok (.aload_n 0, 1) := by decide +kernel
theorem dX7_trip_52 : decode cX7_trip 52 = .ok (.getfield 44, 3) := by decide +kernel
theorem dX7_trip_55 : decode cX7_trip 55 = .ok (.iload_n 1, 1) := by decide +kernel
theorem dX7_trip_56 : decode cX7_trip 56 = .ok (.iaload, 1) := by decide +kernel
theorem dX7_trip_57 : decode cX7_trip 57 = .ok (.idiv, 1) := by decide +kernel
theorem dX7_trip_58 : decode cX7_trip 58 = .ok (.ireturn, 1) := by decide +kernel
abbrev cX7_proved : ByteArray := prog_9_method_44_code
def yX7_proved : MethodName := ⟨RX7, "proved", "()Z"⟩
theorem dX7_proved_0 : decode cX7_proved 0 = .ok (.aload_n 0, 1) := by decide +kernel
theorem dX7_proved_1 : decode cX7_proved 1 = .ok (.iconst 0, 1) := by decide +kernel
theorem dX7_proved_2 : decode cX7_proved 2 = .ok (.putfield 83, 3) := by decide +kernel
theorem dX7_proved_5 : decode cX7_proved 5 = .ok (.iconst 1, 1) := by decide +kernel
theorem dX7_proved_6 : decode cX7_proved 6 = .ok (.istore_n 1, 1) := by decide +kernel
theorem dX7_proved_7 : decode cX7_proved 7 = .ok (.iconst 0, 1) := by decide +kernel
theorem dX7_proved_8 : decode cX7_proved 8 = .ok (.istore_n 2, 1) := by decide +kernel
theorem dX7_proved_9 : decode cX7_proved 9 = .ok (.iload_n 2, 1) := by decide +kernel
theorem dX7_proved_10 : decode cX7_proved 10 = .ok (.aload_n 0, 1) := by decide +kernel
theorem dX7_proved_11 : decode cX7_proved 11 = .ok (.getfield 109, 3) := by decide +kernel
theorem dX7_proved_14 : decode cX7_proved 14 = .ok (.if_icmp .ge 34, 3) := by decide +kernel
theorem dX7_proved_17 : decode cX7_proved 17 = .ok (.iload_n 1, 1) := by decide +kernel
theorem dX7_proved_18 : decode cX7_proved 18 = .ok (.ifCond .eq 22, 3) := by decide +kernel
theorem dX7_proved_21 : decode cX7_proved 21 = .ok (.aload_n 0, 1) := by decide +kernel
theorem dX7_proved_22 : decode cX7_proved 22 = .ok (.getfield 50, 3) := by decide +kernel
theorem dX7_proved_25 : decode cX7_proved 25 = .ok (.iload_n 2, 1) := by decide +kernel
theorem dX7_proved_26 : decode cX7_proved 26 = .ok (.iaload, 1) := by decide +kernel
theorem dX7_proved_27 : decode cX7_proved 27 = .ok (.aload_n 0, 1) := by decide +kernel
theorem dX7_proved_28 : decode cX7_proved 28 = .ok (.getfield 44, 3) := by decide +kernel
theorem dX7_proved_31 : decode cX7_proved 31 = .ok (.iload_n 2, 1) := by decide +kernel
theorem dX7_proved_32 : decode cX7_proved 32 = .ok (.iaload, 1) := by decide +kernel
theorem dX7_proved_33 : decode cX7_proved 33 = .ok (.if_icmp .gt 7, 3) := by decide +kernel
theorem dX7_proved_36 : decode cX7_proved 36 = .ok (.iconst 1, 1) := by decide +kernel
theorem dX7_proved_37 : decode cX7_proved 37 = .ok (.goto 4, 3) := by decide +kernel
theorem dX7_proved_40 : decode cX7_proved 40 = .ok (.iconst 0, 1) := by decide +kernel
theorem dX7_proved_41 : decode cX7_proved 41 = .ok (.istore_n 1, 1) := by decide +kernel
theorem dX7_proved_42 : decode cX7_proved 42 = .ok (.iinc 2 1, 3) := by decide +kernel
theorem dX7_proved_45 : decode cX7_proved 45 = .ok (.goto (-36), 3) := by decide +kernel
theorem dX7_proved_48 : decode cX7_proved 48 = .ok (.iload_n 1, 1) := by decide +kernel
theorem dX7_proved_49 : decode cX7_proved 49 = .ok (.ireturn, 1) := by decide +kernel
abbrev cX7_bound : ByteArray := prog_9_method_45_code
def yX7_bound : MethodName := ⟨RX7, "bound", "()J"⟩
theorem dX7_bound_0 : decode cX7_bound 0 = .ok (.aload_n 0, 1) := by decide +kernel
theorem dX7_bound_1 : decode cX7_bound 1 = .ok (.iconst 0, 1) := by decide +kernel
theorem dX7_bound_2 : decode cX7_bound 2 = .ok (.putfield 83, 3) := by decide +kernel
theorem dX7_bound_5 : decode cX7_bound 5 = .ok (.lconst 0, 1) := by decide +kernel
theorem dX7_bound_6 : decode cX7_bound 6 = .ok (.lstore_n 1, 1) := by decide +kernel
theorem dX7_bound_7 : decode cX7_bound 7 = .ok (.iconst 0, 1) := by decide +kernel
theorem dX7_bound_8 : decode cX7_bound 8 = .ok (.istore_n 3, 1) := by decide +kernel
theorem dX7_bound_9 : decode cX7_bound 9 = .ok (.iload_n 3, 1) := by decide +kernel
theorem dX7_bound_10 : decode cX7_bound 10 = .ok (.aload_n 0, 1) := by decide +kernel
theorem dX7_bound_11 : decode cX7_bound 11 = .ok (.getfield 109, 3) := by decide +kernel
theorem dX7_bound_14 : decode cX7_bound 14 = .ok (.if_icmp .ge 130, 3) := by decide +kernel
theorem dX7_bound_17 : decode cX7_bound 17 = .ok (.iconst 0, 1) := by decide +kernel
theorem dX7_bound_18 : decode cX7_bound 18 = .ok (.istore 4, 2) := by decide +kernel
theorem dX7_bound_20 : decode cX7_bound 20 = .ok (.bipush 40, 2) := by decide +kernel
theorem dX7_bound_22 : decode cX7_bound 22 = .ok (.iload_n 3, 1) := by decide +kernel
theorem dX7_bound_23 : decode cX7_bound 23 = .ok (.imul, 1) := by decide +kernel
theorem dX7_bound_24 : decode cX7_bound 24 = .ok (.istore 5, 2) := by decide +kernel
theorem dX7_bound_26 : decode cX7_bound 26 = .ok (.iload 5, 2) := by decide +kernel
theorem dX7_bound_28 : decode cX7_bound 28 = .ok (.bipush 40, 2) := by decide +kernel
theorem dX7_bound_30 : decode cX7_bound 30 = .ok (.iload_n 3, 1) := by decide +kernel
theorem dX7_bound_31 : decode cX7_bound 31 = .ok (.imul, 1) := by decide +kernel
theorem dX7_bound_32 : decode cX7_bound 32 = .ok (.aload_n 0, 1) := by decide +kernel
theorem dX7_bound_33 : decode cX7_bound 33 = .ok (.getfield 50, 3) := by decide +kernel
theorem dX7_bound_36 : decode cX7_bound 36 = .ok (.iload_n 3, 1) := by decide +kernel
theorem dX7_bound_37 : decode cX7_bound 37 = .ok (.iaload, 1) := by decide +kernel
theorem dX7_bound_38 : decode cX7_bound 38 = .ok (.iadd, 1) := by decide +kernel
theorem dX7_bound_39 : decode cX7_bound 39 = .ok (.if_icmp .ge 33, 3) := by decide +kernel
theorem dX7_bound_42 : decode cX7_bound 42 = .ok (.iload 4, 2) := by decide +kernel
theorem dX7_bound_44 : decode cX7_bound 44 = .ok (.iconst 1, 1) := by decide +kernel
theorem dX7_bound_45 : decode cX7_bound 45 = .ok (.aload_n 0, 1) := by decide +kernel
theorem dX7_bound_46 : decode cX7_bound 46 = .ok (.getfield 13, 3) := by decide +kernel
theorem dX7_bound_49 : decode cX7_bound 49 = .ok (.aload_n 0, 1) := by decide +kernel
theorem dX7_bound_50 : decode cX7_bound 50 = .ok (.getfield 29, 3) := by decide +kernel
theorem dX7_bound_53 : decode cX7_bound 53 = .ok (.aload_n 0, 1) := by decide +kernel
theorem dX7_bound_54 : decode cX7_bound 54 = .ok (.getfield 53, 3) := by decide +kernel
theorem dX7_bound_57 : decode cX7_bound 57 = .ok (.iload 5, 2) := by decide +kernel
theorem dX7_bound_59 : decode cX7_bound 59 = .ok (.iaload, 1) := by decide +kernel
theorem dX7_bound_60 : decode cX7_bound 60 = .ok (.iaload, 1) := by decide +kernel
theorem dX7_bound_61 : decode cX7_bound 61 = .ok (.iaload, 1) := by decide +kernel
theorem dX7_bound_62 : decode cX7_bound 62 = .ok (.ishl, 1) := by decide +kernel
theorem dX7_bound_63 : decode cX7_bound 63 = .ok (.ior, 1) := by decide +kernel
theorem dX7_bound_64 : decode cX7_bound 64 = .ok (.istore 4, 2) := by decide +kernel
theorem dX7_bound_66 : decode cX7_bound 66 = .ok (.iinc 5 1, 3) := by decide +kernel
theorem dX7_bound_69 : decode cX7_bound 69 = .ok (.goto (-43), 3) := by decide +kernel
theorem dX7_bound_72 : decode cX7_bound 72 = .ok (.aload_n 0, 1) := by decide +kernel
theorem dX7_bound_73 : decode cX7_bound 73 = .ok (.iload_n 3, 1) := by decide +kernel
theorem dX7_bound_74 : decode cX7_bound 74 = .ok (.invokevirtual 175, 3) := by decide +kernel
theorem dX7_bound_77 : decode cX7_bound 77 = .ok (.lstore 5, 2) := by decide +kernel
theorem dX7_bound_79 : decode cX7_bound 79 = .ok (.iconst 0, 1) := by decide +kernel
theorem dX7_bound_80 : decode cX7_bound 80 = .ok (.istore 7, 2) := by decide +kernel
theorem dX7_bound_82 : decode cX7_bound 82 = .ok (.iload 7, 2) := by decide +kernel
theorem dX7_bound_84 : decode cX7_bound 84 = .ok (.bipush 8, 2) := by decide +kernel
theorem dX7_bound_86 : decode cX7_bound 86 = .ok (.if_icmp .ge 32, 3) := by decide +kernel
theorem dX7_bound_89 : decode cX7_bound 89 = .ok (.lload 5, 2) := by decide +kernel
theorem dX7_bound_91 : decode cX7_bound 91 = .ok (.iload 4, 2) := by decide +kernel
theorem dX7_bound_93 : decode cX7_bound 93 = .ok (.iload 7, 2) := by decide +kernel
theorem dX7_bound_95 : decode cX7_bound 95 = .ok (.ishr, 1) := by decide +kernel
theorem dX7_bound_96 : decode cX7_bound 96 = .ok (.iconst 1, 1) := by decide +kernel
theorem dX7_bound_97 : decode cX7_bound 97 = .ok (.iand, 1) := by decide +kernel
theorem dX7_bound_98 : decode cX7_bound 98 = .ok (.iconst 1, 1) := by decide +kernel
theorem dX7_bound_99 : decode cX7_bound 99 = .ok (.if_icmp .ne 9, 3) := by decide +kernel
theorem dX7_bound_102 : decode cX7_bound 102 = .ok (.ldc2_w 178, 3) := by decide +kernel
theorem dX7_bound_105 : decode cX7_bound 105 = .ok (.goto 4, 3) := by decide +kernel
theorem dX7_bound_108 : decode cX7_bound 108 = .ok (.lconst 0, 1) := by decide +kernel
theorem dX7_bound_109 : decode cX7_bound 109 = .ok (.ladd, 1) := by decide +kernel
theorem dX7_bound_110 : decode cX7_bound 110 = .ok (.lstore 5, 2) := by decide +kernel
theorem dX7_bound_112 : decode cX7_bound 112 = .ok (.iinc 7 1, 3) := by decide +kernel
theorem dX7_bound_115 : decode cX7_bound 115 = .ok (.goto (-33), 3) := by decide +kernel
theorem dX7_bound_118 : decode cX7_bound 118 = .ok (.lload_n 1, 1) := by decide +kernel
theorem dX7_bound_119 : decode cX7_bound 119 = .ok (.iload 4, 2) := by decide +kernel
theorem dX7_bound_121 : decode cX7_bound 121 = .ok (.ifCond .ne 7, 3) := by decide +kernel
theorem dX7_bound_124 : decode cX7_bound 124 = .ok (.lconst 0, 1) := by decide +kernel
theorem dX7_bound_125 : decode cX7_bound 125 = .ok (.goto 9, 3) := by decide +kernel
theorem dX7_bound_128 : decode cX7_bound 128 = .ok (.lload 5, 2) := by decide +kernel
theorem dX7_bound_130 : decode cX7_bound 130 = .ok (.ldc2_w 178, 3) := by decide +kernel
theorem dX7_bound_133 : decode cX7_bound 133 = .ok (.lsub, 1) := by decide +kernel
theorem dX7_bound_134 : decode cX7_bound 134 = .ok (.invokestatic 142, 3) := by decide +kernel
theorem dX7_bound_137 : decode cX7_bound 137 = .ok (.lstore_n 1, 1) := by decide +kernel
theorem dX7_bound_138 : decode cX7_bound 138 = .ok (.iinc 3 1, 3) := by decide +kernel
theorem dX7_bound_141 : decode cX7_bound 141 = .ok (.goto (-132), 3) := by decide +kernel
theorem dX7_bound_144 : decode cX7_bound 144 = .ok (.lload_n 1, 1) := by decide +kernel
theorem dX7_bound_145 : decode cX7_bound 145 = .ok (.lreturn, 1) := by decide +kernel
abbrev cX7_machineFor : ByteArray := prog_9_method_46_code
def yX7_machineFor : MethodName := ⟨RX7, "machineFor", "(I)I"⟩
theorem dX7_machineFor_0 : decode cX7_machineFor 0 = .ok (.iconst 0, 1) := by decide +kernel
theorem dX7_machineFor_1 : decode cX7_machineFor 1 = .ok (.istore_n 2, 1) := by decide +kernel
theorem dX7_machineFor_2 : decode cX7_machineFor 2 = .ok (.iload_n 2, 1) := by decide +kernel
theorem dX7_machineFor_3 : decode cX7_machineFor 3 = .ok (.aload_n 0, 1) := by decide +kernel
theorem dX7_machineFor_4 : decode cX7_machineFor 4 = .ok (.getfield 109, 3) := by decide +kernel
theorem dX7_machineFor_7 : decode cX7_machineFor 7 = .ok (.if_icmp .ge 21, 3) := by decide +kernel
theorem dX7_machineFor_10 : decode cX7_machineFor 10 = .ok (.aload_n 0, 1) := by decide +kernel
theorem dX7_machineFor_11 : decode cX7_machineFor 11 = .ok (.iload_n 2, 1) := by decide +kernel
theorem dX7_machineFor_12 : decode cX7_machineFor 12 = .ok (.iload_n 1, 1) := by decide +kernel
theorem dX7_machineFor_13 : decode cX7_machineFor 13 = .ok (.invokevirtual 222, 3) := by decide +kernel
theorem dX7_machineFor_16 : decode cX7_machineFor 16 = .ok (.iconst (-1), 1) := by decide +kernel
theorem dX7_machineFor_17 : decode cX7_machineFor 17 = .ok (.if_icmp .eq 5, 3) := by decide +kernel
theorem dX7_machineFor_20 : decode cX7_machineFor 20 = .ok (.iload_n 2, 1) := by decide +kernel
theorem dX7_machineFor_21 : decode cX7_machineFor 21 = .ok (.ireturn, 1) := by decide +kernel
theorem dX7_machineFor_22 : decode cX7_machineFor 22 = .ok (.iinc 2 1, 3) := by decide +kernel
theorem dX7_machineFor_25 : decode cX7_machineFor 25 = .ok (.goto (-23), 3) := by decide +kernel
theorem dX7_machineFor_28 : decode cX7_machineFor 28 = .ok (.iconst (-1), 1) := by decide +kernel
theorem dX7_machineFor_29 : decode cX7_machineFor 29 = .ok (.ireturn, 1) := by decide +kernel
abbrev cX7_machineOf : ByteArray := prog_9_method_47_code
def yX7_machineOf : MethodName := ⟨RX7, "machineOf", "(I)I"⟩
theorem dX7_machineOf_0 : decode cX7_machineOf 0 = .ok (.aload_n 0, 1) := by decide +kernel
theorem dX7_machineOf_1 : decode cX7_machineOf 1 = .ok (.aload_n 0, 1) := by decide +kernel
theorem dX7_machineOf_2 : decode cX7_machineOf 2 = .ok (.iload_n 1, 1) := by decide +kernel
theorem dX7_machineOf_3 : decode cX7_machineOf 3 = .ok (.invokevirtual 219, 3) := by decide +kernel
theorem dX7_machineOf_6 : decode cX7_machineOf 6 = .ok (.ifCond .eq 7, 3) := by decide +kernel
theorem dX7_machineOf_9 : decode cX7_machineOf 9 = .ok (.iconst 0, 1) := by decide +kernel
theorem dX7_machineOf_10 : decode cX7_machineOf 10 = .ok (.goto 4, 3) := by decide +kernel
theorem dX7_machineOf_13 : decode cX7_machineOf 13 = .ok (.iconst 1, 1) := by decide +kernel
theorem dX7_machineOf_14 : decode cX7_machineOf 14 = .ok (.putfield 83, 3) := by decide +kernel
theorem dX7_machineOf_17 : decode cX7_machineOf 17 = .ok (.aload_n 0, 1) := by decide +kernel
theorem dX7_machineOf_18 : decode cX7_machineOf 18 = .ok (.getfield 83, 3) := by decide +kernel
theorem dX7_machineOf_21 : decode cX7_machineOf 21 = .ok (.ifCond .ne 11, 3) := by decide +kernel
theorem dX7_machineOf_24 : decode cX7_machineOf 24 = .ok (.aload_n 0, 1) := by decide +kernel
theorem dX7_machineOf_25 : decode cX7_machineOf 25 = .ok (.iload_n 1, 1) := by decide +kernel
theorem dX7_machineOf_26 : decode cX7_machineOf 26 = .ok (.invokevirtual 225, 3) := by decide +kernel
theorem dX7_machineOf_29 : decode cX7_machineOf 29 = .ok (.goto 4, 3) := by decide +kernel
theorem dX7_machineOf_32 : decode cX7_machineOf 32 = .ok (.iconst 0, 1) := by decide +kernel
theorem dX7_machineOf_33 : decode cX7_machineOf 33 = .ok (.ireturn, 1) := by decide +kernel
abbrev cX7_lower : ByteArray := prog_9_method_48_code
def yX7_lower : MethodName := ⟨RX7, "lower", "(II)Z"⟩
theorem dX7_lower_0 : decode cX7_lower 0 = .ok (.aload_n 0, 1) := by decide +kernel
theorem dX7_lower_1 : decode cX7_lower 1 = .ok (.aload_n 0, 1) := by decide +kernel
theorem dX7_lower_2 : decode cX7_lower 2 = .ok (.iload_n 1, 1) := by decide +kernel
theorem dX7_lower_3 : decode cX7_lower 3 = .ok (.invokevirtual 219, 3) := by decide +kernel
theorem dX7_lower_6 : decode cX7_lower 6 = .ok (.ifCond .eq 15, 3) := by decide +kernel
theorem dX7_lower_9 : decode cX7_lower 9 = .ok (.aload_n 0, 1) := by decide +kernel
theorem dX7_lower_10 : decode cX7_lower 10 = .ok (.iload_n 2, 1) := by decide +kernel
theorem dX7_lower_11 : decode cX7_lower 11 = .ok (.invokevirtual 219, 3) := by decide +kernel
theorem dX7_lower_14 : decode cX7_lower 14 = .ok (.ifCond .eq 7, 3) := by decide +kernel
theorem dX7_lower_17 : decode cX7_lower 17 = .ok (.iconst 0, 1) := by decide +kernel
theorem dX7_lower_18 : decode cX7_lower 18 = .ok (.goto 4, 3) := by decide +kernel
theorem dX7_lower_21 : decode cX7_lower 21 = .ok (.iconst 1, 1) := by decide +kernel
theorem dX7_lower_22 : decode cX7_lower 22 = .ok (.putfield 83, 3) := by decide +kernel
theorem dX7_lower_25 : decode cX7_lower 25 = .ok (.aload_n 0, 1) := by decide +kernel
theorem dX7_lower_26 : decode cX7_lower 26 = .ok (.getfield 83, 3) := by decide +kernel
theorem dX7_lower_29 : decode cX7_lower 29 = .ok (.ifCond .eq 5, 3) := by decide +kernel
theorem dX7_lower_32 : decode cX7_lower 32 = .ok (.iconst 0, 1) := by decide +kernel
theorem dX7_lower_33 : decode cX7_lower 33 = .ok (.ireturn, 1) := by decide +kernel
theorem dX7_lower_34 : decode cX7_lower 34 = .ok (.aload_n 0, 1) := by decide +kernel
theorem dX7_lower_35 : decode cX7_lower 35 = .ok (.iload_n 1, 1) := by decide +kernel
theorem dX7_lower_36 : decode cX7_lower 36 = .ok (.invokevirtual 225, 3) := by decide +kernel
theorem dX7_lower_39 : decode cX7_lower 39 = .ok (.istore_n 3, 1) := by decide +kernel
theorem dX7_lower_40 : decode cX7_lower 40 = .ok (.aload_n 0, 1) := by decide +kernel
theorem dX7_lower_41 : decode cX7_lower 41 = .ok (.iload_n 2, 1) := by decide +kernel
theorem dX7_lower_42 : decode cX7_lower 42 = .ok (.invokevirtual 225, 3) := by decide +kernel
theorem dX7_lower_45 : decode cX7_lower 45 = .ok (.istore 4, 2) := by decide +kernel
theorem dX7_lower_47 : decode cX7_lower 47 = .ok (.iload_n 3, 1) := by decide +kernel
theorem dX7_lower_48 : decode cX7_lower 48 = .ok (.iconst (-1), 1) := by decide +kernel
theorem dX7_lower_49 : decode cX7_lower 49 = .ok (.if_icmp .eq 9, 3) := by decide +kernel
theorem dX7_lower_52 : decode cX7_lower 52 = .ok (.iload 4, 2) := by decide +kernel
theorem dX7_lower_54 : decode cX7_lower 54 = .ok (.iconst (-1), 1) := by decide +kernel
theorem dX7_lower_55 : decode cX7_lower 55 = .ok (.if_icmp .ne 5, 3) := by decide +kernel
theorem dX7_lower_58 : decode cX7_lower 58 = .ok (.iconst 0, 1) := by decide +kernel
theorem dX7_lower_59 : decode cX7_lower 59 = .ok (.ireturn, 1) := by decide +kernel
theorem dX7_lower_60 : decode cX7_lower 60 = .ok (.iload_n 3, 1) := by decide +kernel
theorem dX7_lower_61 : decode cX7_lower 61 = .ok (.iload 4, 2) := by decide +kernel
theorem dX7_lower_63 : decode cX7_lower 63 = .ok (.if_icmp .eq 17, 3) := by decide +kernel
theorem dX7_lower_66 : decode cX7_lower 66 = .ok (.iload_n 3, 1) := by decide +kernel
theorem dX7_lower_67 : decode cX7_lower 67 = .ok (.iload 4, 2) := by decide +kernel
theorem dX7_lower_69 : decode cX7_lower 69 = .ok (.if_icmp .ge 7, 3) := by decide +kernel
theorem dX7_lower_72 : decode cX7_lower 72 = .ok (.iconst 1, 1) := by decide +kernel
theorem dX7_lower_73 : decode cX7_lower 73 = .ok (.goto 27, 3) := by decide +kernel
theorem dX7_lower_76 : decode cX7_lower 76 = .ok (.iconst 0, 1) := by decide +kernel
theorem dX7_lower_77 : decode cX7_lower 77 = .ok (.goto 23, 3) := by decide +kernel
theorem dX7_lower_80 : decode cX7_lower 80 = .ok (.aload_n 0, 1) := by decide +kernel
theorem dX7_lower_81 : decode cX7_lower 81 = .ok (.iload_n 3, 1) := by decide +kernel
theorem dX7_lower_82 : decode cX7_lower 82 = .ok (.iload_n 1, 1) := by decide +kernel
theorem dX7_lower_83 : decode cX7_lower 83 = .ok (.invokevirtual 222, 3) := by decide +kernel
theorem dX7_lower_86 : decode cX7_lower 86 = .ok (.aload_n 0, 1) := by decide +kernel
theorem dX7_lower_87 : decode cX7_lower 87 = .ok (.iload_n 3, 1) := by decide +kernel
theorem dX7_lower_88 : decode cX7_lower 88 = .ok (.iload_n 2, 1) := by decide +kernel
theorem dX7_lower_89 : decode cX7_lower 89 = .ok (.invokevirtual 222, 3) := by decide +kernel
theorem dX7_lower_92 : decode cX7_lower 92 = .ok (.if_icmp .ge 7, 3) := by decide +kernel
theorem dX7_lower_95 : decode cX7_lower 95 = .ok (.iconst 1, 1) := by decide +kernel
theorem dX7_lower_96 : decode cX7_lower 96 = .ok (.goto 4, 3) := by decide +kernel
theorem dX7_lower_99 : decode cX7_lower 99 = .ok (.iconst 0, 1) := by decide +kernel
theorem dX7_lower_100 : decode cX7_lower 100 = .ok (.ireturn, 1) := by decide +kernel
abbrev cX7_common : ByteArray := prog_9_method_49_code
def yX7_common : MethodName := ⟨RX7, "common", "(II)Z"⟩
theorem dX7_common_0 : decode cX7_common 0 = .ok (.aload_n 0, 1) := by decide +kernel
theorem dX7_common_1 : decode cX7_common 1 = .ok (.aload_n 0, 1) := by decide +kernel
theorem dX7_common_2 : decode cX7_common 2 = .ok (.iload_n 1, 1) := by decide +kernel
theorem dX7_common_3 : decode cX7_common 3 = .ok (.invokevirtual 216, 3) := by decide +kernel
theorem dX7_common_6 : decode cX7_common 6 = .ok (.ifCond .eq 15, 3) := by decide +kernel
theorem dX7_common_9 : decode cX7_common 9 = .ok (.aload_n 0, 1) := by decide +kernel
theorem dX7_common_10 : decode cX7_common 10 = .ok (.iload_n 2, 1) := by decide +kernel
theorem dX7_common_11 : decode cX7_common 11 = .ok (.invokevirtual 216, 3) := by decide +kernel
theorem dX7_common_14 : decode cX7_common 14 = .ok (.ifCond .eq 7, 3) := by decide +kernel
theorem dX7_common_17 : decode cX7_common 17 = .ok (.iconst 0, 1) := by decide +kernel
theorem dX7_common_18 : decode cX7_common 18 = .ok (.goto 4, 3) := by decide +kernel
theorem dX7_common_21 : decode cX7_common 21 = .ok (.iconst 1, 1) := by decide +kernel
theorem dX7_common_22 : decode cX7_common 22 = .ok (.putfield 83, 3) := by decide +kernel
theorem dX7_common_25 : decode cX7_common 25 = .ok (.aload_n 0, 1) := by decide +kernel
theorem dX7_common_26 : decode cX7_common 26 = .ok (.getfield 83, 3) := by decide +kernel
theorem dX7_common_29 : decode cX7_common 29 = .ok (.ifCond .eq 5, 3) := by decide +kernel
theorem dX7_common_32 : decode cX7_common 32 = .ok (.iconst 0, 1) := by decide +kernel
theorem dX7_common_33 : decode cX7_common 33 = .ok (.ireturn, 1) := by decide +kernel
theorem dX7_common_34 : decode cX7_common 34 = .ok (.iconst 1, 1) := by decide +kernel
theorem dX7_common_35 : decode cX7_common 35 = .ok (.istore_n 3, 1) := by decide +kernel
theorem dX7_common_36 : decode cX7_common 36 = .ok (.iconst 0, 1) := by decide +kernel
theorem dX7_common_37 : decode cX7_common 37 = .ok (.istore 4, 2) := by decide +kernel
theorem dX7_common_39 : decode cX7_common 39 = .ok (.iload 4, 2) := by decide +kernel
theorem dX7_common_41 : decode cX7_common 41 = .ok (.aload_n 0, 1) := by decide +kernel
theorem dX7_common_42 : decode cX7_common 42 = .ok (.getfield 86, 3) := by decide +kernel
theorem dX7_common_45 : decode cX7_common 45 = .ok (.if_icmp .ge 83, 3) := by decide +kernel
theorem dX7_common_48 : decode cX7_common 48 = .ok (.aload_n 0, 1) := by decide +kernel
theorem dX7_common_49 : decode cX7_common 49 = .ok (.getfield 47, 3) := by decide +kernel
theorem dX7_common_52 : decode cX7_common 52 = .ok (.bipush 10, 2) := by decide +kernel
theorem dX7_common_54 : decode cX7_common 54 = .ok (.iload_n 1, 1) := by decide +kernel
theorem dX7_common_55 : decode cX7_common 55 = .ok (.imul, 1) := by decide +kernel
theorem dX7_common_56 : decode cX7_common 56 = .ok (.iload 4, 2) := by decide +kernel
theorem dX7_common_58 : decode cX7_common 58 = .ok (.iadd, 1) := by decide +kernel
theorem dX7_common_59 : decode cX7_common 59 = .ok (.iaload, 1) := by decide +kernel
theorem dX7_common_60 : decode cX7_common 60 = .ok (.iconst (-1), 1) := by decide +kernel
theorem dX7_common_61 : decode cX7_common 61 = .ok (.if_icmp .ne 19, 3) := by decide +kernel
theorem dX7_common_64 : decode cX7_common 64 = .ok (.aload_n 0, 1) := by decide +kernel
theorem dX7_common_65 : decode cX7_common 65 = .ok (.getfield 47, 3) := by decide +kernel
theorem dX7_common_68 : decode cX7_common 68 = .ok (.bipush 10, 2) := by decide +kernel
theorem dX7_common_70 : decode cX7_common 70 = .ok (.iload_n 2, 1) := by decide +kernel
theorem dX7_common_71 : decode cX7_common 71 = .ok (.imul, 1) := by decide +kernel
theorem dX7_common_72 : decode cX7_common 72 = .ok (.iload 4, 2) := by decide +kernel
theorem dX7_common_74 : decode cX7_common 74 = .ok (.iadd, 1) := by decide +kernel
theorem dX7_common_75 : decode cX7_common 75 = .ok (.iaload, 1) := by decide +kernel
theorem dX7_common_76 : decode cX7_common 76 = .ok (.iconst (-1), 1) := by decide +kernel
theorem dX7_common_77 : decode cX7_common 77 = .ok (.if_icmp .eq 7, 3) := by decide +kernel
theorem dX7_common_80 : decode cX7_common 80 = .ok (.iconst 1, 1) := by decide +kernel
theorem dX7_common_81 : decode cX7_common 81 = .ok (.goto 4, 3) := by decide +kernel
theorem dX7_common_84 : decode cX7_common 84 = .ok (.iconst 0, 1) := by decide +kernel
theorem dX7_common_85 : decode cX7_common 85 = .ok (.istore 5, 2) := by decide +kernel
theorem dX7_common_87 : decode cX7_common 87 = .ok (.iload_n 3, 1) := by decide +kernel
theorem dX7_common_88 : decode cX7_common 88 = .ok (.ifCond .eq 32, 3) := by decide +kernel
theorem dX7_common_91 : decode cX7_common 91 = .ok (.iload 5, 2) := by decide +kernel
theorem dX7_common_93 : decode cX7_common 93 = .ok (.ifCond .eq 23, 3) := by decide +kernel
theorem dX7_common_96 : decode cX7_common 96 = .ok (.aload_n 0, 1) := by decide +kernel
theorem dX7_common_97 : decode cX7_common 97 = .ok (.iload 4, 2) := by decide +kernel
theorem dX7_common_99 : decode cX7_common 99 = .ok (.iload_n 1, 1) := by decide +kernel
theorem dX7_common_100 : decode cX7_common 100 = .ok (.invokevirtual 112, 3) := by decide +kernel
theorem dX7_common_103 : decode cX7_common 103 = .ok (.ifCond .eq 17, 3) := by decide +kernel
theorem dX7_common_106 : decode cX7_common 106 = .ok (.aload_n 0, 1) := by decide +kernel
theorem dX7_common_107 : decode cX7_common 107 = .ok (.iload 4, 2) := by decide +kernel
theorem dX7_common_109 : decode cX7_common 109 = .ok (.iload_n 2, 1) := by decide +kernel
theorem dX7_common_110 : decode cX7_common 110 = .ok (.invokevirtual 112, 3) := by decide +kernel
theorem dX7_common_113 : decode cX7_common 113 = .ok (.ifCond .eq 7, 3) := by decide +kernel
theorem dX7_common_116 : decode cX7_common 116 = .ok (.iconst 1, 1) := by decide +kernel
theorem dX7_common_117 : decode cX7_common 117 = .ok (.goto 4, 3) := by decide +kernel
theorem dX7_common_120 : decode cX7_common 120 = .ok (.iconst 0, 1) := by decide +kernel
theorem dX7_common_121 : decode cX7_common 121 = .ok (.istore_n 3, 1) := by decide +kernel
theorem dX7_common_122 : decode cX7_common 122 = .ok (.iinc 4 1, 3) := by decide +kernel
theorem dX7_common_125 : decode cX7_common 125 = .ok (.goto (-86), 3) := by decide +kernel
theorem dX7_common_128 : decode cX7_common 128 = .ok (.iload_n 3, 1) := by decide +kernel
theorem dX7_common_129 : decode cX7_common 129 = .ok (.ireturn, 1) := by decide +kernel
abbrev cX7_changes : ByteArray := prog_9_method_50_code
def yX7_changes : MethodName := ⟨RX7, "changes", "(I)I"⟩
theorem dX7_changes_0 : decode cX7_changes 0 = .ok (.aload_n 0, 1) := by decide +kernel
theorem dX7_changes_1 : decode cX7_changes 1 = .ok (.aload_n 0, 1) := by decide +kernel
theorem dX7_changes_2 : decode cX7_changes 2 = .ok (.iload_n 1, 1) := by decide +kernel
theorem dX7_changes_3 : decode cX7_changes 3 = .ok (.invokevirtual 216, 3) := by decide +kernel
theorem dX7_changes_6 : decode cX7_changes 6 = .ok (.ifCond .eq 7, 3) := by decide +kernel
theorem dX7_changes_9 : decode cX7_changes 9 = .ok (.iconst 0, 1) := by decide +kernel
theorem dX7_changes_10 : decode cX7_changes 10 = .ok (.goto 4, 3) := by decide +kernel
theorem dX7_changes_13 : decode cX7_changes 13 = .ok (.iconst 1, 1) := by decide +kernel
theorem dX7_changes_14 : decode cX7_changes 14 = .ok (.putfield 83, 3) := by decide +kernel
theorem dX7_changes_17 : decode cX7_changes 17 = .ok (.aload_n 0, 1) := by decide +kernel
theorem dX7_changes_18 : decode cX7_changes 18 = .ok (.getfield 83, 3) := by decide +kernel
theorem dX7_changes_21 : decode cX7_changes 21 = .ok (.ifCond .ne 11, 3) := by decide +kernel
theorem dX7_changes_24 : decode cX7_changes 24 = .ok (.aload_n 0, 1) := by decide +kernel
theorem dX7_changes_25 : decode cX7_changes 25 = .ok (.iload_n 1, 1) := by decide +kernel
theorem dX7_changes_26 : decode cX7_changes 26 = .ok (.invokevirtual 180, 3) := by decide +kernel
theorem dX7_changes_29 : decode cX7_changes 29 = .ok (.goto 4, 3) := by decide +kernel
theorem dX7_changes_32 : decode cX7_changes 32 = .ok (.iconst 0, 1) := by decide +kernel
theorem dX7_changes_33 : decode cX7_changes 33 = .ok (.ireturn, 1) := by decide +kernel
