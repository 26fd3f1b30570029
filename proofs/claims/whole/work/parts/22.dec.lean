/-! decode rows of TR: written by wip/gen/mknames.py -/
theorem d_TR_init_0 : decode M_TR_init.2.1 0 = .ok (.aload_n 0, 1) := by decide +kernel
theorem d_TR_init_1 : decode M_TR_init.2.1 1 = .ok (.invokespecial 3, 3) := by decide +kernel
theorem d_TR_init_4 : decode M_TR_init.2.1 4 = .ok (.aload_n 0, 1) := by decide +kernel
theorem d_TR_init_5 : decode M_TR_init.2.1 5 = .ok (.new 9, 3) := by decide +kernel
theorem d_TR_init_8 : decode M_TR_init.2.1 8 = .ok (.dup, 1) := by decide +kernel
theorem d_TR_init_9 : decode M_TR_init.2.1 9 = .ok (.invokespecial 11, 3) := by decide +kernel
theorem d_TR_init_12 : decode M_TR_init.2.1 12 = .ok (.putfield 12, 3) := by decide +kernel
theorem d_TR_init_15 : decode M_TR_init.2.1 15 = .ok (.aload_n 0, 1) := by decide +kernel
theorem d_TR_init_16 : decode M_TR_init.2.1 16 = .ok (.bipush 60, 2) := by decide +kernel
theorem d_TR_init_18 : decode M_TR_init.2.1 18 = .ok (.newarray .int, 2) := by decide +kernel
theorem d_TR_init_20 : decode M_TR_init.2.1 20 = .ok (.putfield 18, 3) := by decide +kernel
theorem d_TR_init_23 : decode M_TR_init.2.1 23 = .ok (.aload_n 0, 1) := by decide +kernel
theorem d_TR_init_24 : decode M_TR_init.2.1 24 = .ok (.bipush 60, 2) := by decide +kernel
theorem d_TR_init_26 : decode M_TR_init.2.1 26 = .ok (.newarray .int, 2) := by decide +kernel
theorem d_TR_init_28 : decode M_TR_init.2.1 28 = .ok (.putfield 22, 3) := by decide +kernel
theorem d_TR_init_31 : decode M_TR_init.2.1 31 = .ok (.aload_n 0, 1) := by decide +kernel
theorem d_TR_init_32 : decode M_TR_init.2.1 32 = .ok (.new 9, 3) := by decide +kernel
theorem d_TR_init_35 : decode M_TR_init.2.1 35 = .ok (.dup, 1) := by decide +kernel
theorem d_TR_init_36 : decode M_TR_init.2.1 36 = .ok (.invokespecial 11, 3) := by decide +kernel
theorem d_TR_init_39 : decode M_TR_init.2.1 39 = .ok (.putfield 25, 3) := by decide +kernel
theorem d_TR_init_42 : decode M_TR_init.2.1 42 = .ok (.return_, 1) := by decide +kernel
theorem d_TR_kindAt_0 : decode M_TR_kindAt.2.1 0 = .ok (.iload_n 1, 1) := by decide +kernel
theorem d_TR_kindAt_1 : decode M_TR_kindAt.2.1 1 = .ok (.ifCond .lt 20, 3) := by decide +kernel
theorem d_TR_kindAt_4 : decode M_TR_kindAt.2.1 4 = .ok (.iload_n 1, 1) := by decide +kernel
theorem d_TR_kindAt_5 : decode M_TR_kindAt.2.1 5 = .ok (.aload_n 0, 1) := by decide +kernel
theorem d_TR_kindAt_6 : decode M_TR_kindAt.2.1 6 = .ok (.getfield 28, 3) := by decide +kernel
theorem d_TR_kindAt_9 : decode M_TR_kindAt.2.1 9 = .ok (.if_icmp .ge 12, 3) := by decide +kernel
theorem d_TR_kindAt_12 : decode M_TR_kindAt.2.1 12 = .ok (.aload_n 0, 1) := by decide +kernel
theorem d_TR_kindAt_13 : decode M_TR_kindAt.2.1 13 = .ok (.getfield 18, 3) := by decide +kernel
theorem d_TR_kindAt_16 : decode M_TR_kindAt.2.1 16 = .ok (.iload_n 1, 1) := by decide +kernel
theorem d_TR_kindAt_17 : decode M_TR_kindAt.2.1 17 = .ok (.iaload, 1) := by decide +kernel
theorem d_TR_kindAt_18 : decode M_TR_kindAt.2.1 18 = .ok (.goto 4, 3) := by decide +kernel
theorem d_TR_kindAt_21 : decode M_TR_kindAt.2.1 21 = .ok (.iconst 0, 1) := by decide +kernel
theorem d_TR_kindAt_22 : decode M_TR_kindAt.2.1 22 = .ok (.ireturn, 1) := by decide +kernel
theorem d_TR_valueAt_0 : decode M_TR_valueAt.2.1 0 = .ok (.iload_n 1, 1) := by decide +kernel
theorem d_TR_valueAt_1 : decode M_TR_valueAt.2.1 1 = .ok (.ifCond .lt 20, 3) := by decide +kernel
theorem d_TR_valueAt_4 : decode M_TR_valueAt.2.1 4 = .ok (.iload_n 1, 1) := by decide +kernel
theorem d_TR_valueAt_5 : decode M_TR_valueAt.2.1 5 = .ok (.aload_n 0, 1) := by decide +kernel
theorem d_TR_valueAt_6 : decode M_TR_valueAt.2.1 6 = .ok (.getfield 28, 3) := by decide +kernel
theorem d_TR_valueAt_9 : decode M_TR_valueAt.2.1 9 = .ok (.if_icmp .ge 12, 3) := by decide +kernel
theorem d_TR_valueAt_12 : decode M_TR_valueAt.2.1 12 = .ok (.aload_n 0, 1) := by decide +kernel
theorem d_TR_valueAt_13 : decode M_TR_valueAt.2.1 13 = .ok (.getfield 22, 3) := by decide +kernel
theorem d_TR_valueAt_16 : decode M_TR_valueAt.2.1 16 = .ok (.iload_n 1, 1) := by decide +kernel
theorem d_TR_valueAt_17 : decode M_TR_valueAt.2.1 17 = .ok (.iaload, 1) := by decide +kernel
theorem d_TR_valueAt_18 : decode M_TR_valueAt.2.1 18 = .ok (.goto 4, 3) := by decide +kernel
theorem d_TR_valueAt_21 : decode M_TR_valueAt.2.1 21 = .ok (.iconst (-1), 1) := by decide +kernel
theorem d_TR_valueAt_22 : decode M_TR_valueAt.2.1 22 = .ok (.ireturn, 1) := by decide +kernel
theorem d_TR_beginsSet_0 : decode M_TR_beginsSet.2.1 0 = .ok (.aload_n 0, 1) := by decide +kernel
theorem d_TR_beginsSet_1 : decode M_TR_beginsSet.2.1 1 = .ok (.iload_n 1, 1) := by decide +kernel
theorem d_TR_beginsSet_2 : decode M_TR_beginsSet.2.1 2 = .ok (.invokevirtual 32, 3) := by decide +kernel
theorem d_TR_beginsSet_5 : decode M_TR_beginsSet.2.1 5 = .ok (.istore_n 2, 1) := by decide +kernel
theorem d_TR_beginsSet_6 : decode M_TR_beginsSet.2.1 6 = .ok (.iload_n 2, 1) := by decide +kernel
theorem d_TR_beginsSet_7 : decode M_TR_beginsSet.2.1 7 = .ok (.iconst 4, 1) := by decide +kernel
theorem d_TR_beginsSet_8 : decode M_TR_beginsSet.2.1 8 = .ok (.if_icmp .eq 18, 3) := by decide +kernel
theorem d_TR_beginsSet_11 : decode M_TR_beginsSet.2.1 11 = .ok (.iload_n 2, 1) := by decide +kernel
theorem d_TR_beginsSet_12 : decode M_TR_beginsSet.2.1 12 = .ok (.iconst 5, 1) := by decide +kernel
theorem d_TR_beginsSet_13 : decode M_TR_beginsSet.2.1 13 = .ok (.if_icmp .eq 13, 3) := by decide +kernel
theorem d_TR_beginsSet_16 : decode M_TR_beginsSet.2.1 16 = .ok (.iload_n 2, 1) := by decide +kernel
theorem d_TR_beginsSet_17 : decode M_TR_beginsSet.2.1 17 = .ok (.iconst 2, 1) := by decide +kernel
theorem d_TR_beginsSet_18 : decode M_TR_beginsSet.2.1 18 = .ok (.if_icmp .eq 8, 3) := by decide +kernel
theorem d_TR_beginsSet_21 : decode M_TR_beginsSet.2.1 21 = .ok (.iload_n 2, 1) := by decide +kernel
theorem d_TR_beginsSet_22 : decode M_TR_beginsSet.2.1 22 = .ok (.iconst 3, 1) := by decide +kernel
theorem d_TR_beginsSet_23 : decode M_TR_beginsSet.2.1 23 = .ok (.if_icmp .ne 7, 3) := by decide +kernel
theorem d_TR_beginsSet_26 : decode M_TR_beginsSet.2.1 26 = .ok (.iconst 1, 1) := by decide +kernel
theorem d_TR_beginsSet_27 : decode M_TR_beginsSet.2.1 27 = .ok (.goto 4, 3) := by decide +kernel
theorem d_TR_beginsSet_30 : decode M_TR_beginsSet.2.1 30 = .ok (.iconst 0, 1) := by decide +kernel
theorem d_TR_beginsSet_31 : decode M_TR_beginsSet.2.1 31 = .ok (.ireturn, 1) := by decide +kernel
theorem d_TR_cutText_0 : decode M_TR_cutText.2.1 0 = .ok (.aload_n 0, 1) := by decide +kernel
theorem d_TR_cutText_1 : decode M_TR_cutText.2.1 1 = .ok (.getfield 12, 3) := by decide +kernel
theorem d_TR_cutText_4 : decode M_TR_cutText.2.1 4 = .ok (.aload_n 1, 1) := by decide +kernel
theorem d_TR_cutText_5 : decode M_TR_cutText.2.1 5 = .ok (.invokevirtual 36, 3) := by decide +kernel
theorem d_TR_cutText_8 : decode M_TR_cutText.2.1 8 = .ok (.aload_n 0, 1) := by decide +kernel
theorem d_TR_cutText_9 : decode M_TR_cutText.2.1 9 = .ok (.iconst 0, 1) := by decide +kernel
theorem d_TR_cutText_10 : decode M_TR_cutText.2.1 10 = .ok (.putfield 28, 3) := by decide +kernel
theorem d_TR_cutText_13 : decode M_TR_cutText.2.1 13 = .ok (.aload_n 0, 1) := by decide +kernel
theorem d_TR_cutText_14 : decode M_TR_cutText.2.1 14 = .ok (.iconst 0, 1) := by decide +kernel
theorem d_TR_cutText_15 : decode M_TR_cutText.2.1 15 = .ok (.putfield 40, 3) := by decide +kernel
theorem d_TR_cutText_18 : decode M_TR_cutText.2.1 18 = .ok (.aload_n 0, 1) := by decide +kernel
theorem d_TR_cutText_19 : decode M_TR_cutText.2.1 19 = .ok (.getfield 12, 3) := by decide +kernel
theorem d_TR_cutText_22 : decode M_TR_cutText.2.1 22 = .ok (.iconst 0, 1) := by decide +kernel
theorem d_TR_cutText_23 : decode M_TR_cutText.2.1 23 = .ok (.invokevirtual 43, 3) := by decide +kernel
theorem d_TR_cutText_26 : decode M_TR_cutText.2.1 26 = .ok (.bipush 32, 2) := by decide +kernel
theorem d_TR_cutText_28 : decode M_TR_cutText.2.1 28 = .ok (.if_icmp .eq 24, 3) := by decide +kernel
theorem d_TR_cutText_31 : decode M_TR_cutText.2.1 31 = .ok (.aload_n 0, 1) := by decide +kernel
theorem d_TR_cutText_32 : decode M_TR_cutText.2.1 32 = .ok (.getfield 12, 3) := by decide +kernel
theorem d_TR_cutText_35 : decode M_TR_cutText.2.1 35 = .ok (.aload_n 0, 1) := by decide +kernel
theorem d_TR_cutText_36 : decode M_TR_cutText.2.1 36 = .ok (.getfield 12, 3) := by decide +kernel
theorem d_TR_cutText_39 : decode M_TR_cutText.2.1 39 = .ok (.getfield 46, 3) := by decide +kernel
theorem d_TR_cutText_42 : decode M_TR_cutText.2.1 42 = .ok (.iconst 1, 1) := by decide +kernel
theorem d_TR_cutText_43 : decode M_TR_cutText.2.1 43 = .ok (.isub, 1) := by decide +kernel
theorem d_TR_cutText_44 : decode M_TR_cutText.2.1 44 = .ok (.invokevirtual 43, 3) := by decide +kernel
theorem d_TR_cutText_47 : decode M_TR_cutText.2.1 47 = .ok (.bipush 32, 2) := by decide +kernel
theorem d_TR_cutText_49 : decode M_TR_cutText.2.1 49 = .ok (.if_icmp .ne 5, 3) := by decide +kernel
theorem d_TR_cutText_52 : decode M_TR_cutText.2.1 52 = .ok (.iconst 0, 1) := by decide +kernel
theorem d_TR_cutText_53 : decode M_TR_cutText.2.1 53 = .ok (.ireturn, 1) := by decide +kernel
theorem d_TR_cutText_54 : decode M_TR_cutText.2.1 54 = .ok (.iconst 0, 1) := by decide +kernel
theorem d_TR_cutText_55 : decode M_TR_cutText.2.1 55 = .ok (.istore_n 2, 1) := by decide +kernel
theorem d_TR_cutText_56 : decode M_TR_cutText.2.1 56 = .ok (.iload_n 2, 1) := by decide +kernel
theorem d_TR_cutText_57 : decode M_TR_cutText.2.1 57 = .ok (.bipush 60, 2) := by decide +kernel
theorem d_TR_cutText_59 : decode M_TR_cutText.2.1 59 = .ok (.if_icmp .ge 32, 3) := by decide +kernel
theorem d_TR_cutText_62 : decode M_TR_cutText.2.1 62 = .ok (.aload_n 0, 1) := by decide +kernel
theorem d_TR_cutText_63 : decode M_TR_cutText.2.1 63 = .ok (.getfield 40, 3) := by decide +kernel
theorem d_TR_cutText_66 : decode M_TR_cutText.2.1 66 = .ok (.aload_n 0, 1) := by decide +kernel
theorem d_TR_cutText_67 : decode M_TR_cutText.2.1 67 = .ok (.getfield 12, 3) := by decide +kernel
theorem d_TR_cutText_70 : decode M_TR_cutText.2.1 70 = .ok (.getfield 46, 3) := by decide +kernel
theorem d_TR_cutText_73 : decode M_TR_cutText.2.1 73 = .ok (.if_icmp .ge 18, 3) := by decide +kernel
theorem d_TR_cutText_76 : decode M_TR_cutText.2.1 76 = .ok (.aload_n 0, 1) := by decide +kernel
theorem d_TR_cutText_77 : decode M_TR_cutText.2.1 77 = .ok (.invokevirtual 47, 3) := by decide +kernel
theorem d_TR_cutText_80 : decode M_TR_cutText.2.1 80 = .ok (.ifCond .ne 5, 3) := by decide +kernel
theorem d_TR_cutText_83 : decode M_TR_cutText.2.1 83 = .ok (.iconst 0, 1) := by decide +kernel
theorem d_TR_cutText_84 : decode M_TR_cutText.2.1 84 = .ok (.ireturn, 1) := by decide +kernel
theorem d_TR_cutText_85 : decode M_TR_cutText.2.1 85 = .ok (.iinc 2 1, 3) := by decide +kernel
theorem d_TR_cutText_88 : decode M_TR_cutText.2.1 88 = .ok (.goto (-32), 3) := by decide +kernel
theorem d_TR_cutText_91 : decode M_TR_cutText.2.1 91 = .ok (.iconst 1, 1) := by decide +kernel
theorem d_TR_cutText_92 : decode M_TR_cutText.2.1 92 = .ok (.ireturn, 1) := by decide +kernel
theorem d_TR_takeToken_0 : decode M_TR_takeToken.2.1 0 = .ok (.aload_n 0, 1) := by decide +kernel
theorem d_TR_takeToken_1 : decode M_TR_takeToken.2.1 1 = .ok (.getfield 12, 3) := by decide +kernel
theorem d_TR_takeToken_4 : decode M_TR_takeToken.2.1 4 = .ok (.aload_n 0, 1) := by decide +kernel
theorem d_TR_takeToken_5 : decode M_TR_takeToken.2.1 5 = .ok (.getfield 40, 3) := by decide +kernel
theorem d_TR_takeToken_8 : decode M_TR_takeToken.2.1 8 = .ok (.invokevirtual 43, 3) := by decide +kernel
theorem d_TR_takeToken_11 : decode M_TR_takeToken.2.1 11 = .ok (.istore_n 1, 1) := by decide +kernel
theorem d_TR_takeToken_12 : decode M_TR_takeToken.2.1 12 = .ok (.iload_n 1, 1) := by decide +kernel
theorem d_TR_takeToken_13 : decode M_TR_takeToken.2.1 13 = .ok (.lookupswitch 180 #[(32, 83), (38, 136), (45, 127), (91, 95), (92, 147), (93, 100), (94, 145), (123, 109), (125, 118)], 83) := by decide +kernel
theorem d_TR_takeToken_96 : decode M_TR_takeToken.2.1 96 = .ok (.aload_n 0, 1) := by decide +kernel
theorem d_TR_takeToken_97 : decode M_TR_takeToken.2.1 97 = .ok (.dup, 1) := by decide +kernel
theorem d_TR_takeToken_98 : decode M_TR_takeToken.2.1 98 = .ok (.getfield 40, 3) := by decide +kernel
theorem d_TR_takeToken_101 : decode M_TR_takeToken.2.1 101 = .ok (.iconst 1, 1) := by decide +kernel
theorem d_TR_takeToken_102 : decode M_TR_takeToken.2.1 102 = .ok (.iadd, 1) := by decide +kernel
theorem d_TR_takeToken_103 : decode M_TR_takeToken.2.1 103 = .ok (.putfield 40, 3) := by decide +kernel
theorem d_TR_takeToken_106 : decode M_TR_takeToken.2.1 106 = .ok (.iconst 1, 1) := by decide +kernel
theorem d_TR_takeToken_107 : decode M_TR_takeToken.2.1 107 = .ok (.ireturn, 1) := by decide +kernel
theorem d_TR_takeToken_108 : decode M_TR_takeToken.2.1 108 = .ok (.aload_n 0, 1) := by decide +kernel
theorem d_TR_takeToken_109 : decode M_TR_takeToken.2.1 109 = .ok (.invokevirtual 51, 3) := by decide +kernel
theorem d_TR_takeToken_112 : decode M_TR_takeToken.2.1 112 = .ok (.ireturn, 1) := by decide +kernel
theorem d_TR_takeToken_113 : decode M_TR_takeToken.2.1 113 = .ok (.aload_n 0, 1) := by decide +kernel
theorem d_TR_takeToken_114 : decode M_TR_takeToken.2.1 114 = .ok (.bipush 6, 2) := by decide +kernel
theorem d_TR_takeToken_116 : decode M_TR_takeToken.2.1 116 = .ok (.iload_n 1, 1) := by decide +kernel
theorem d_TR_takeToken_117 : decode M_TR_takeToken.2.1 117 = .ok (.iconst 1, 1) := by decide +kernel
theorem d_TR_takeToken_118 : decode M_TR_takeToken.2.1 118 = .ok (.invokevirtual 54, 3) := by decide +kernel
theorem d_TR_takeToken_121 : decode M_TR_takeToken.2.1 121 = .ok (.ireturn, 1) := by decide +kernel
theorem d_TR_takeToken_122 : decode M_TR_takeToken.2.1 122 = .ok (.aload_n 0, 1) := by decide +kernel
theorem d_TR_takeToken_123 : decode M_TR_takeToken.2.1 123 = .ok (.bipush 7, 2) := by decide +kernel
theorem d_TR_takeToken_125 : decode M_TR_takeToken.2.1 125 = .ok (.iload_n 1, 1) := by decide +kernel
theorem d_TR_takeToken_126 : decode M_TR_takeToken.2.1 126 = .ok (.iconst 1, 1) := by decide +kernel
theorem d_TR_takeToken_127 : decode M_TR_takeToken.2.1 127 = .ok (.invokevirtual 54, 3) := by decide +kernel
theorem d_TR_takeToken_130 : decode M_TR_takeToken.2.1 130 = .ok (.ireturn, 1) := by decide +kernel
theorem d_TR_takeToken_131 : decode M_TR_takeToken.2.1 131 = .ok (.aload_n 0, 1) := by decide +kernel
theorem d_TR_takeToken_132 : decode M_TR_takeToken.2.1 132 = .ok (.bipush 8, 2) := by decide +kernel
theorem d_TR_takeToken_134 : decode M_TR_takeToken.2.1 134 = .ok (.iload_n 1, 1) := by decide +kernel
theorem d_TR_takeToken_135 : decode M_TR_takeToken.2.1 135 = .ok (.iconst 1, 1) := by decide +kernel
theorem d_TR_takeToken_136 : decode M_TR_takeToken.2.1 136 = .ok (.invokevirtual 54, 3) := by decide +kernel
theorem d_TR_takeToken_139 : decode M_TR_takeToken.2.1 139 = .ok (.ireturn, 1) := by decide +kernel
theorem d_TR_takeToken_140 : decode M_TR_takeToken.2.1 140 = .ok (.aload_n 0, 1) := by decide +kernel
theorem d_TR_takeToken_141 : decode M_TR_takeToken.2.1 141 = .ok (.bipush 9, 2) := by decide +kernel
theorem d_TR_takeToken_143 : decode M_TR_takeToken.2.1 143 = .ok (.iload_n 1, 1) := by decide +kernel
theorem d_TR_takeToken_144 : decode M_TR_takeToken.2.1 144 = .ok (.iconst 1, 1) := by decide +kernel
theorem d_TR_takeToken_145 : decode M_TR_takeToken.2.1 145 = .ok (.invokevirtual 54, 3) := by decide +kernel
theorem d_TR_takeToken_148 : decode M_TR_takeToken.2.1 148 = .ok (.ireturn, 1) := by decide +kernel
theorem d_TR_takeToken_149 : decode M_TR_takeToken.2.1 149 = .ok (.aload_n 0, 1) := by decide +kernel
theorem d_TR_takeToken_150 : decode M_TR_takeToken.2.1 150 = .ok (.bipush 10, 2) := by decide +kernel
theorem d_TR_takeToken_152 : decode M_TR_takeToken.2.1 152 = .ok (.iload_n 1, 1) := by decide +kernel
theorem d_TR_takeToken_153 : decode M_TR_takeToken.2.1 153 = .ok (.iconst 1, 1) := by decide +kernel
theorem d_TR_takeToken_154 : decode M_TR_takeToken.2.1 154 = .ok (.invokevirtual 54, 3) := by decide +kernel
theorem d_TR_takeToken_157 : decode M_TR_takeToken.2.1 157 = .ok (.ireturn, 1) := by decide +kernel
theorem d_TR_takeToken_158 : decode M_TR_takeToken.2.1 158 = .ok (.iconst 0, 1) := by decide +kernel
theorem d_TR_takeToken_159 : decode M_TR_takeToken.2.1 159 = .ok (.ireturn, 1) := by decide +kernel
theorem d_TR_takeToken_160 : decode M_TR_takeToken.2.1 160 = .ok (.aload_n 0, 1) := by decide +kernel
theorem d_TR_takeToken_161 : decode M_TR_takeToken.2.1 161 = .ok (.getfield 12, 3) := by decide +kernel
theorem d_TR_takeToken_164 : decode M_TR_takeToken.2.1 164 = .ok (.aload_n 0, 1) := by decide +kernel
theorem d_TR_takeToken_165 : decode M_TR_takeToken.2.1 165 = .ok (.getfield 40, 3) := by decide +kernel
theorem d_TR_takeToken_168 : decode M_TR_takeToken.2.1 168 = .ok (.iconst 1, 1) := by decide +kernel
theorem d_TR_takeToken_169 : decode M_TR_takeToken.2.1 169 = .ok (.iadd, 1) := by decide +kernel
theorem d_TR_takeToken_170 : decode M_TR_takeToken.2.1 170 = .ok (.invokevirtual 43, 3) := by decide +kernel
theorem d_TR_takeToken_173 : decode M_TR_takeToken.2.1 173 = .ok (.bipush 32, 2) := by decide +kernel
theorem d_TR_takeToken_175 : decode M_TR_takeToken.2.1 175 = .ok (.ior, 1) := by decide +kernel
theorem d_TR_takeToken_176 : decode M_TR_takeToken.2.1 176 = .ok (.bipush 112, 2) := by decide +kernel
theorem d_TR_takeToken_178 : decode M_TR_takeToken.2.1 178 = .ok (.if_icmp .ne 10, 3) := by decide +kernel
theorem d_TR_takeToken_181 : decode M_TR_takeToken.2.1 181 = .ok (.aload_n 0, 1) := by decide +kernel
theorem d_TR_takeToken_182 : decode M_TR_takeToken.2.1 182 = .ok (.invokevirtual 58, 3) := by decide +kernel
theorem d_TR_takeToken_185 : decode M_TR_takeToken.2.1 185 = .ok (.goto 7, 3) := by decide +kernel
theorem d_TR_takeToken_188 : decode M_TR_takeToken.2.1 188 = .ok (.aload_n 0, 1) := by decide +kernel
theorem d_TR_takeToken_189 : decode M_TR_takeToken.2.1 189 = .ok (.invokevirtual 61, 3) := by decide +kernel
theorem d_TR_takeToken_192 : decode M_TR_takeToken.2.1 192 = .ok (.ireturn, 1) := by decide +kernel
theorem d_TR_takeToken_193 : decode M_TR_takeToken.2.1 193 = .ok (.aload_n 0, 1) := by decide +kernel
theorem d_TR_takeToken_194 : decode M_TR_takeToken.2.1 194 = .ok (.iconst 1, 1) := by decide +kernel
theorem d_TR_takeToken_195 : decode M_TR_takeToken.2.1 195 = .ok (.iload_n 1, 1) := by decide +kernel
theorem d_TR_takeToken_196 : decode M_TR_takeToken.2.1 196 = .ok (.iconst 1, 1) := by decide +kernel
theorem d_TR_takeToken_197 : decode M_TR_takeToken.2.1 197 = .ok (.invokevirtual 54, 3) := by decide +kernel
theorem d_TR_takeToken_200 : decode M_TR_takeToken.2.1 200 = .ok (.ireturn, 1) := by decide +kernel
theorem d_TR_takeOpening_0 : decode M_TR_takeOpening.2.1 0 = .ok (.aload_n 0, 1) := by decide +kernel
theorem d_TR_takeOpening_1 : decode M_TR_takeOpening.2.1 1 = .ok (.getfield 12, 3) := by decide +kernel
theorem d_TR_takeOpening_4 : decode M_TR_takeOpening.2.1 4 = .ok (.aload_n 0, 1) := by decide +kernel
theorem d_TR_takeOpening_5 : decode M_TR_takeOpening.2.1 5 = .ok (.getfield 40, 3) := by decide +kernel
theorem d_TR_takeOpening_8 : decode M_TR_takeOpening.2.1 8 = .ok (.iconst 1, 1) := by decide +kernel
theorem d_TR_takeOpening_9 : decode M_TR_takeOpening.2.1 9 = .ok (.iadd, 1) := by decide +kernel
theorem d_TR_takeOpening_10 : decode M_TR_takeOpening.2.1 10 = .ok (.invokevirtual 43, 3) := by decide +kernel
theorem d_TR_takeOpening_13 : decode M_TR_takeOpening.2.1 13 = .ok (.istore_n 1, 1) := by decide +kernel
theorem d_TR_takeOpening_14 : decode M_TR_takeOpening.2.1 14 = .ok (.iload_n 1, 1) := by decide +kernel
theorem d_TR_takeOpening_15 : decode M_TR_takeOpening.2.1 15 = .ok (.bipush 94, 2) := by decide +kernel
theorem d_TR_takeOpening_17 : decode M_TR_takeOpening.2.1 17 = .ok (.if_icmp .ne 11, 3) := by decide +kernel
theorem d_TR_takeOpening_20 : decode M_TR_takeOpening.2.1 20 = .ok (.aload_n 0, 1) := by decide +kernel
theorem d_TR_takeOpening_21 : decode M_TR_takeOpening.2.1 21 = .ok (.iconst 5, 1) := by decide +kernel
theorem d_TR_takeOpening_22 : decode M_TR_takeOpening.2.1 22 = .ok (.iload_n 1, 1) := by decide +kernel
theorem d_TR_takeOpening_23 : decode M_TR_takeOpening.2.1 23 = .ok (.iconst 2, 1) := by decide +kernel
theorem d_TR_takeOpening_24 : decode M_TR_takeOpening.2.1 24 = .ok (.invokevirtual 54, 3) := by decide +kernel
theorem d_TR_takeOpening_27 : decode M_TR_takeOpening.2.1 27 = .ok (.ireturn, 1) := by decide +kernel
theorem d_TR_takeOpening_28 : decode M_TR_takeOpening.2.1 28 = .ok (.iload_n 1, 1) := by decide +kernel
theorem d_TR_takeOpening_29 : decode M_TR_takeOpening.2.1 29 = .ok (.bipush 58, 2) := by decide +kernel
theorem d_TR_takeOpening_31 : decode M_TR_takeOpening.2.1 31 = .ok (.if_icmp .eq 11, 3) := by decide +kernel
theorem d_TR_takeOpening_34 : decode M_TR_takeOpening.2.1 34 = .ok (.aload_n 0, 1) := by decide +kernel
theorem d_TR_takeOpening_35 : decode M_TR_takeOpening.2.1 35 = .ok (.iconst 4, 1) := by decide +kernel
theorem d_TR_takeOpening_36 : decode M_TR_takeOpening.2.1 36 = .ok (.iload_n 1, 1) := by decide +kernel
theorem d_TR_takeOpening_37 : decode M_TR_takeOpening.2.1 37 = .ok (.iconst 1, 1) := by decide +kernel
theorem d_TR_takeOpening_38 : decode M_TR_takeOpening.2.1 38 = .ok (.invokevirtual 54, 3) := by decide +kernel
theorem d_TR_takeOpening_41 : decode M_TR_takeOpening.2.1 41 = .ok (.ireturn, 1) := by decide +kernel
theorem d_TR_takeOpening_42 : decode M_TR_takeOpening.2.1 42 = .ok (.aload_n 0, 1) := by decide +kernel
theorem d_TR_takeOpening_43 : decode M_TR_takeOpening.2.1 43 = .ok (.getfield 12, 3) := by decide +kernel
theorem d_TR_takeOpening_46 : decode M_TR_takeOpening.2.1 46 = .ok (.aload_n 0, 1) := by decide +kernel
theorem d_TR_takeOpening_47 : decode M_TR_takeOpening.2.1 47 = .ok (.getfield 40, 3) := by decide +kernel
theorem d_TR_takeOpening_50 : decode M_TR_takeOpening.2.1 50 = .ok (.iconst 2, 1) := by decide +kernel
theorem d_TR_takeOpening_51 : decode M_TR_takeOpening.2.1 51 = .ok (.iadd, 1) := by decide +kernel
theorem d_TR_takeOpening_52 : decode M_TR_takeOpening.2.1 52 = .ok (.invokevirtual 43, 3) := by decide +kernel
theorem d_TR_takeOpening_55 : decode M_TR_takeOpening.2.1 55 = .ok (.bipush 94, 2) := by decide +kernel
theorem d_TR_takeOpening_57 : decode M_TR_takeOpening.2.1 57 = .ok (.if_icmp .ne 7, 3) := by decide +kernel
theorem d_TR_takeOpening_60 : decode M_TR_takeOpening.2.1 60 = .ok (.iconst 1, 1) := by decide +kernel
theorem d_TR_takeOpening_61 : decode M_TR_takeOpening.2.1 61 = .ok (.goto 4, 3) := by decide +kernel
theorem d_TR_takeOpening_64 : decode M_TR_takeOpening.2.1 64 = .ok (.iconst 0, 1) := by decide +kernel
theorem d_TR_takeOpening_65 : decode M_TR_takeOpening.2.1 65 = .ok (.istore_n 2, 1) := by decide +kernel
theorem d_TR_takeOpening_66 : decode M_TR_takeOpening.2.1 66 = .ok (.aload_n 0, 1) := by decide +kernel
theorem d_TR_takeOpening_67 : decode M_TR_takeOpening.2.1 67 = .ok (.aload_n 0, 1) := by decide +kernel
theorem d_TR_takeOpening_68 : decode M_TR_takeOpening.2.1 68 = .ok (.getfield 40, 3) := by decide +kernel
theorem d_TR_takeOpening_71 : decode M_TR_takeOpening.2.1 71 = .ok (.iload_n 2, 1) := by decide +kernel
theorem d_TR_takeOpening_72 : decode M_TR_takeOpening.2.1 72 = .ok (.ifCond .eq 7, 3) := by decide +kernel
theorem d_TR_takeOpening_75 : decode M_TR_takeOpening.2.1 75 = .ok (.iconst 3, 1) := by decide +kernel
theorem d_TR_takeOpening_76 : decode M_TR_takeOpening.2.1 76 = .ok (.goto 4, 3) := by decide +kernel
theorem d_TR_takeOpening_79 : decode M_TR_takeOpening.2.1 79 = .ok (.iconst 2, 1) := by decide +kernel
theorem d_TR_takeOpening_80 : decode M_TR_takeOpening.2.1 80 = .ok (.iadd, 1) := by decide +kernel
theorem d_TR_takeOpening_81 : decode M_TR_takeOpening.2.1 81 = .ok (.invokevirtual 64, 3) := by decide +kernel
theorem d_TR_takeOpening_84 : decode M_TR_takeOpening.2.1 84 = .ok (.istore_n 3, 1) := by decide +kernel
theorem d_TR_takeOpening_85 : decode M_TR_takeOpening.2.1 85 = .ok (.aload_n 0, 1) := by decide +kernel
theorem d_TR_takeOpening_86 : decode M_TR_takeOpening.2.1 86 = .ok (.getfield 12, 3) := by decide +kernel
theorem d_TR_takeOpening_89 : decode M_TR_takeOpening.2.1 89 = .ok (.iload_n 3, 1) := by decide +kernel
theorem d_TR_takeOpening_90 : decode M_TR_takeOpening.2.1 90 = .ok (.invokevirtual 43, 3) := by decide +kernel
theorem d_TR_takeOpening_93 : decode M_TR_takeOpening.2.1 93 = .ok (.bipush 58, 2) := by decide +kernel
theorem d_TR_takeOpening_95 : decode M_TR_takeOpening.2.1 95 = .ok (.if_icmp .ne 18, 3) := by decide +kernel
theorem d_TR_takeOpening_98 : decode M_TR_takeOpening.2.1 98 = .ok (.aload_n 0, 1) := by decide +kernel
theorem d_TR_takeOpening_99 : decode M_TR_takeOpening.2.1 99 = .ok (.getfield 12, 3) := by decide +kernel
theorem d_TR_takeOpening_102 : decode M_TR_takeOpening.2.1 102 = .ok (.iload_n 3, 1) := by decide +kernel
theorem d_TR_takeOpening_103 : decode M_TR_takeOpening.2.1 103 = .ok (.iconst 1, 1) := by decide +kernel
theorem d_TR_takeOpening_104 : decode M_TR_takeOpening.2.1 104 = .ok (.iadd, 1) := by decide +kernel
theorem d_TR_takeOpening_105 : decode M_TR_takeOpening.2.1 105 = .ok (.invokevirtual 43, 3) := by decide +kernel
theorem d_TR_takeOpening_108 : decode M_TR_takeOpening.2.1 108 = .ok (.bipush 93, 2) := by decide +kernel
theorem d_TR_takeOpening_110 : decode M_TR_takeOpening.2.1 110 = .ok (.if_icmp .eq 5, 3) := by decide +kernel
theorem d_TR_takeOpening_113 : decode M_TR_takeOpening.2.1 113 = .ok (.iconst 0, 1) := by decide +kernel
theorem d_TR_takeOpening_114 : decode M_TR_takeOpening.2.1 114 = .ok (.ireturn, 1) := by decide +kernel
theorem d_TR_takeOpening_115 : decode M_TR_takeOpening.2.1 115 = .ok (.aload_n 0, 1) := by decide +kernel
theorem d_TR_takeOpening_116 : decode M_TR_takeOpening.2.1 116 = .ok (.iload_n 2, 1) := by decide +kernel
theorem d_TR_takeOpening_117 : decode M_TR_takeOpening.2.1 117 = .ok (.iload_n 3, 1) := by decide +kernel
theorem d_TR_takeOpening_118 : decode M_TR_takeOpening.2.1 118 = .ok (.iconst 2, 1) := by decide +kernel
theorem d_TR_takeOpening_119 : decode M_TR_takeOpening.2.1 119 = .ok (.iadd, 1) := by decide +kernel
theorem d_TR_takeOpening_120 : decode M_TR_takeOpening.2.1 120 = .ok (.aload_n 0, 1) := by decide +kernel
theorem d_TR_takeOpening_121 : decode M_TR_takeOpening.2.1 121 = .ok (.getfield 40, 3) := by decide +kernel
theorem d_TR_takeOpening_124 : decode M_TR_takeOpening.2.1 124 = .ok (.isub, 1) := by decide +kernel
theorem d_TR_takeOpening_125 : decode M_TR_takeOpening.2.1 125 = .ok (.invokevirtual 67, 3) := by decide +kernel
theorem d_TR_takeOpening_128 : decode M_TR_takeOpening.2.1 128 = .ok (.ireturn, 1) := by decide +kernel
theorem d_TR_takeEscape_0 : decode M_TR_takeEscape.2.1 0 = .ok (.aload_n 0, 1) := by decide +kernel
theorem d_TR_takeEscape_1 : decode M_TR_takeEscape.2.1 1 = .ok (.getfield 12, 3) := by decide +kernel
theorem d_TR_takeEscape_4 : decode M_TR_takeEscape.2.1 4 = .ok (.aload_n 0, 1) := by decide +kernel
theorem d_TR_takeEscape_5 : decode M_TR_takeEscape.2.1 5 = .ok (.getfield 40, 3) := by decide +kernel
theorem d_TR_takeEscape_8 : decode M_TR_takeEscape.2.1 8 = .ok (.iconst 1, 1) := by decide +kernel
theorem d_TR_takeEscape_9 : decode M_TR_takeEscape.2.1 9 = .ok (.iadd, 1) := by decide +kernel
theorem d_TR_takeEscape_10 : decode M_TR_takeEscape.2.1 10 = .ok (.invokevirtual 43, 3) := by decide +kernel
theorem d_TR_takeEscape_13 : decode M_TR_takeEscape.2.1 13 = .ok (.istore_n 1, 1) := by decide +kernel
theorem d_TR_takeEscape_14 : decode M_TR_takeEscape.2.1 14 = .ok (.iload_n 1, 1) := by decide +kernel
theorem d_TR_takeEscape_15 : decode M_TR_takeEscape.2.1 15 = .ok (.lookupswitch 79 #[(-1, 49), (110, 51), (116, 60), (117, 69), (120, 74)], 49) := by decide +kernel
theorem d_TR_takeEscape_64 : decode M_TR_takeEscape.2.1 64 = .ok (.iconst 0, 1) := by decide +kernel
theorem d_TR_takeEscape_65 : decode M_TR_takeEscape.2.1 65 = .ok (.ireturn, 1) := by decide +kernel
theorem d_TR_takeEscape_66 : decode M_TR_takeEscape.2.1 66 = .ok (.aload_n 0, 1) := by decide +kernel
theorem d_TR_takeEscape_67 : decode M_TR_takeEscape.2.1 67 = .ok (.iconst 1, 1) := by decide +kernel
theorem d_TR_takeEscape_68 : decode M_TR_takeEscape.2.1 68 = .ok (.bipush 10, 2) := by decide +kernel
theorem d_TR_takeEscape_70 : decode M_TR_takeEscape.2.1 70 = .ok (.iconst 2, 1) := by decide +kernel
theorem d_TR_takeEscape_71 : decode M_TR_takeEscape.2.1 71 = .ok (.invokevirtual 54, 3) := by decide +kernel
theorem d_TR_takeEscape_74 : decode M_TR_takeEscape.2.1 74 = .ok (.ireturn, 1) := by decide +kernel
theorem d_TR_takeEscape_75 : decode M_TR_takeEscape.2.1 75 = .ok (.aload_n 0, 1) := by decide +kernel
theorem d_TR_takeEscape_76 : decode M_TR_takeEscape.2.1 76 = .ok (.iconst 1, 1) := by decide +kernel
theorem d_TR_takeEscape_77 : decode M_TR_takeEscape.2.1 77 = .ok (.bipush 9, 2) := by decide +kernel
theorem d_TR_takeEscape_79 : decode M_TR_takeEscape.2.1 79 = .ok (.iconst 2, 1) := by decide +kernel
theorem d_TR_takeEscape_80 : decode M_TR_takeEscape.2.1 80 = .ok (.invokevirtual 54, 3) := by decide +kernel
theorem d_TR_takeEscape_83 : decode M_TR_takeEscape.2.1 83 = .ok (.ireturn, 1) := by decide +kernel
theorem d_TR_takeEscape_84 : decode M_TR_takeEscape.2.1 84 = .ok (.aload_n 0, 1) := by decide +kernel
theorem d_TR_takeEscape_85 : decode M_TR_takeEscape.2.1 85 = .ok (.invokevirtual 71, 3) := by decide +kernel
theorem d_TR_takeEscape_88 : decode M_TR_takeEscape.2.1 88 = .ok (.ireturn, 1) := by decide +kernel
theorem d_TR_takeEscape_89 : decode M_TR_takeEscape.2.1 89 = .ok (.aload_n 0, 1) := by decide +kernel
theorem d_TR_takeEscape_90 : decode M_TR_takeEscape.2.1 90 = .ok (.invokevirtual 74, 3) := by decide +kernel
theorem d_TR_takeEscape_93 : decode M_TR_takeEscape.2.1 93 = .ok (.ireturn, 1) := by decide +kernel
theorem d_TR_takeEscape_94 : decode M_TR_takeEscape.2.1 94 = .ok (.iload_n 1, 1) := by decide +kernel
theorem d_TR_takeEscape_95 : decode M_TR_takeEscape.2.1 95 = .ok (.invokestatic 77, 3) := by decide +kernel
theorem d_TR_takeEscape_98 : decode M_TR_takeEscape.2.1 98 = .ok (.ifCond .ne 17, 3) := by decide +kernel
theorem d_TR_takeEscape_101 : decode M_TR_takeEscape.2.1 101 = .ok (.aload_n 0, 1) := by decide +kernel
theorem d_TR_takeEscape_102 : decode M_TR_takeEscape.2.1 102 = .ok (.iconst 1, 1) := by decide +kernel
theorem d_TR_takeEscape_103 : decode M_TR_takeEscape.2.1 103 = .ok (.iload_n 1, 1) := by decide +kernel
theorem d_TR_takeEscape_104 : decode M_TR_takeEscape.2.1 104 = .ok (.iconst 2, 1) := by decide +kernel
theorem d_TR_takeEscape_105 : decode M_TR_takeEscape.2.1 105 = .ok (.invokevirtual 54, 3) := by decide +kernel
theorem d_TR_takeEscape_108 : decode M_TR_takeEscape.2.1 108 = .ok (.ifCond .eq 7, 3) := by decide +kernel
theorem d_TR_takeEscape_111 : decode M_TR_takeEscape.2.1 111 = .ok (.iconst 1, 1) := by decide +kernel
theorem d_TR_takeEscape_112 : decode M_TR_takeEscape.2.1 112 = .ok (.goto 4, 3) := by decide +kernel
theorem d_TR_takeEscape_115 : decode M_TR_takeEscape.2.1 115 = .ok (.iconst 0, 1) := by decide +kernel
theorem d_TR_takeEscape_116 : decode M_TR_takeEscape.2.1 116 = .ok (.ireturn, 1) := by decide +kernel
theorem d_TR_takeFourDigits_0 : decode M_TR_takeFourDigits.2.1 0 = .ok (.aload_n 0, 1) := by decide +kernel
theorem d_TR_takeFourDigits_1 : decode M_TR_takeFourDigits.2.1 1 = .ok (.getfield 40, 3) := by decide +kernel
theorem d_TR_takeFourDigits_4 : decode M_TR_takeFourDigits.2.1 4 = .ok (.iconst 2, 1) := by decide +kernel
theorem d_TR_takeFourDigits_5 : decode M_TR_takeFourDigits.2.1 5 = .ok (.iadd, 1) := by decide +kernel
theorem d_TR_takeFourDigits_6 : decode M_TR_takeFourDigits.2.1 6 = .ok (.istore_n 1, 1) := by decide +kernel
theorem d_TR_takeFourDigits_7 : decode M_TR_takeFourDigits.2.1 7 = .ok (.aload_n 0, 1) := by decide +kernel
theorem d_TR_takeFourDigits_8 : decode M_TR_takeFourDigits.2.1 8 = .ok (.iload_n 1, 1) := by decide +kernel
theorem d_TR_takeFourDigits_9 : decode M_TR_takeFourDigits.2.1 9 = .ok (.iconst 4, 1) := by decide +kernel
theorem d_TR_takeFourDigits_10 : decode M_TR_takeFourDigits.2.1 10 = .ok (.invokevirtual 81, 3) := by decide +kernel
theorem d_TR_takeFourDigits_13 : decode M_TR_takeFourDigits.2.1 13 = .ok (.iconst 4, 1) := by decide +kernel
theorem d_TR_takeFourDigits_14 : decode M_TR_takeFourDigits.2.1 14 = .ok (.if_icmp .ne 23, 3) := by decide +kernel
theorem d_TR_takeFourDigits_17 : decode M_TR_takeFourDigits.2.1 17 = .ok (.aload_n 0, 1) := by decide +kernel
theorem d_TR_takeFourDigits_18 : decode M_TR_takeFourDigits.2.1 18 = .ok (.iconst 1, 1) := by decide +kernel
theorem d_TR_takeFourDigits_19 : decode M_TR_takeFourDigits.2.1 19 = .ok (.aload_n 0, 1) := by decide +kernel
theorem d_TR_takeFourDigits_20 : decode M_TR_takeFourDigits.2.1 20 = .ok (.iload_n 1, 1) := by decide +kernel
theorem d_TR_takeFourDigits_21 : decode M_TR_takeFourDigits.2.1 21 = .ok (.iconst 4, 1) := by decide +kernel
theorem d_TR_takeFourDigits_22 : decode M_TR_takeFourDigits.2.1 22 = .ok (.invokevirtual 85, 3) := by decide +kernel
theorem d_TR_takeFourDigits_25 : decode M_TR_takeFourDigits.2.1 25 = .ok (.bipush 6, 2) := by decide +kernel
theorem d_TR_takeFourDigits_27 : decode M_TR_takeFourDigits.2.1 27 = .ok (.invokevirtual 54, 3) := by decide +kernel
theorem d_TR_takeFourDigits_30 : decode M_TR_takeFourDigits.2.1 30 = .ok (.ifCond .eq 7, 3) := by decide +kernel
theorem d_TR_takeFourDigits_33 : decode M_TR_takeFourDigits.2.1 33 = .ok (.iconst 1, 1) := by decide +kernel
theorem d_TR_takeFourDigits_34 : decode M_TR_takeFourDigits.2.1 34 = .ok (.goto 4, 3) := by decide +kernel
theorem d_TR_takeFourDigits_37 : decode M_TR_takeFourDigits.2.1 37 = .ok (.iconst 0, 1) := by decide +kernel
theorem d_TR_takeFourDigits_38 : decode M_TR_takeFourDigits.2.1 38 = .ok (.ireturn, 1) := by decide +kernel
theorem d_TR_takeBracedDigits_0 : decode M_TR_takeBracedDigits.2.1 0 = .ok (.aload_n 0, 1) := by decide +kernel
theorem d_TR_takeBracedDigits_1 : decode M_TR_takeBracedDigits.2.1 1 = .ok (.getfield 40, 3) := by decide +kernel
theorem d_TR_takeBracedDigits_4 : decode M_TR_takeBracedDigits.2.1 4 = .ok (.iconst 3, 1) := by decide +kernel
theorem d_TR_takeBracedDigits_5 : decode M_TR_takeBracedDigits.2.1 5 = .ok (.iadd, 1) := by decide +kernel
theorem d_TR_takeBracedDigits_6 : decode M_TR_takeBracedDigits.2.1 6 = .ok (.istore_n 1, 1) := by decide +kernel
theorem d_TR_takeBracedDigits_7 : decode M_TR_takeBracedDigits.2.1 7 = .ok (.aload_n 0, 1) := by decide +kernel
theorem d_TR_takeBracedDigits_8 : decode M_TR_takeBracedDigits.2.1 8 = .ok (.iload_n 1, 1) := by decide +kernel
theorem d_TR_takeBracedDigits_9 : decode M_TR_takeBracedDigits.2.1 9 = .ok (.bipush 6, 2) := by decide +kernel
theorem d_TR_takeBracedDigits_11 : decode M_TR_takeBracedDigits.2.1 11 = .ok (.invokevirtual 81, 3) := by decide +kernel
theorem d_TR_takeBracedDigits_14 : decode M_TR_takeBracedDigits.2.1 14 = .ok (.istore_n 2, 1) := by decide +kernel
theorem d_TR_takeBracedDigits_15 : decode M_TR_takeBracedDigits.2.1 15 = .ok (.aload_n 0, 1) := by decide +kernel
theorem d_TR_takeBracedDigits_16 : decode M_TR_takeBracedDigits.2.1 16 = .ok (.getfield 12, 3) := by decide +kernel
theorem d_TR_takeBracedDigits_19 : decode M_TR_takeBracedDigits.2.1 19 = .ok (.iload_n 1, 1) := by decide +kernel
theorem d_TR_takeBracedDigits_20 : decode M_TR_takeBracedDigits.2.1 20 = .ok (.iconst 1, 1) := by decide +kernel
theorem d_TR_takeBracedDigits_21 : decode M_TR_takeBracedDigits.2.1 21 = .ok (.isub, 1) := by decide +kernel
theorem d_TR_takeBracedDigits_22 : decode M_TR_takeBracedDigits.2.1 22 = .ok (.invokevirtual 43, 3) := by decide +kernel
theorem d_TR_takeBracedDigits_25 : decode M_TR_takeBracedDigits.2.1 25 = .ok (.bipush 123, 2) := by decide +kernel
theorem d_TR_takeBracedDigits_27 : decode M_TR_takeBracedDigits.2.1 27 = .ok (.if_icmp .ne 22, 3) := by decide +kernel
theorem d_TR_takeBracedDigits_30 : decode M_TR_takeBracedDigits.2.1 30 = .ok (.iload_n 2, 1) := by decide +kernel
theorem d_TR_takeBracedDigits_31 : decode M_TR_takeBracedDigits.2.1 31 = .ok (.ifCond .eq 18, 3) := by decide +kernel
theorem d_TR_takeBracedDigits_34 : decode M_TR_takeBracedDigits.2.1 34 = .ok (.aload_n 0, 1) := by decide +kernel
theorem d_TR_takeBracedDigits_35 : decode M_TR_takeBracedDigits.2.1 35 = .ok (.getfield 12, 3) := by decide +kernel
theorem d_TR_takeBracedDigits_38 : decode M_TR_takeBracedDigits.2.1 38 = .ok (.iload_n 1, 1) := by decide +kernel
theorem d_TR_takeBracedDigits_39 : decode M_TR_takeBracedDigits.2.1 39 = .ok (.iload_n 2, 1) := by decide +kernel
theorem d_TR_takeBracedDigits_40 : decode M_TR_takeBracedDigits.2.1 40 = .ok (.iadd, 1) := by decide +kernel
theorem d_TR_takeBracedDigits_41 : decode M_TR_takeBracedDigits.2.1 41 = .ok (.invokevirtual 43, 3) := by decide +kernel
theorem d_TR_takeBracedDigits_44 : decode M_TR_takeBracedDigits.2.1 44 = .ok (.bipush 125, 2) := by decide +kernel
theorem d_TR_takeBracedDigits_46 : decode M_TR_takeBracedDigits.2.1 46 = .ok (.if_icmp .eq 5, 3) := by decide +kernel
theorem d_TR_takeBracedDigits_49 : decode M_TR_takeBracedDigits.2.1 49 = .ok (.iconst 0, 1) := by decide +kernel
theorem d_TR_takeBracedDigits_50 : decode M_TR_takeBracedDigits.2.1 50 = .ok (.ireturn, 1) := by decide +kernel
theorem d_TR_takeBracedDigits_51 : decode M_TR_takeBracedDigits.2.1 51 = .ok (.aload_n 0, 1) := by decide +kernel
theorem d_TR_takeBracedDigits_52 : decode M_TR_takeBracedDigits.2.1 52 = .ok (.iload_n 1, 1) := by decide +kernel
theorem d_TR_takeBracedDigits_53 : decode M_TR_takeBracedDigits.2.1 53 = .ok (.iload_n 2, 1) := by decide +kernel
theorem d_TR_takeBracedDigits_54 : decode M_TR_takeBracedDigits.2.1 54 = .ok (.invokevirtual 85, 3) := by decide +kernel
theorem d_TR_takeBracedDigits_57 : decode M_TR_takeBracedDigits.2.1 57 = .ok (.istore_n 3, 1) := by decide +kernel
theorem d_TR_takeBracedDigits_58 : decode M_TR_takeBracedDigits.2.1 58 = .ok (.iload_n 3, 1) := by decide +kernel
theorem d_TR_takeBracedDigits_59 : decode M_TR_takeBracedDigits.2.1 59 = .ok (.invokestatic 88, 3) := by decide +kernel
theorem d_TR_takeBracedDigits_62 : decode M_TR_takeBracedDigits.2.1 62 = .ok (.ifCond .eq 19, 3) := by decide +kernel
theorem d_TR_takeBracedDigits_65 : decode M_TR_takeBracedDigits.2.1 65 = .ok (.aload_n 0, 1) := by decide +kernel
theorem d_TR_takeBracedDigits_66 : decode M_TR_takeBracedDigits.2.1 66 = .ok (.iconst 1, 1) := by decide +kernel
theorem d_TR_takeBracedDigits_67 : decode M_TR_takeBracedDigits.2.1 67 = .ok (.iload_n 3, 1) := by decide +kernel
theorem d_TR_takeBracedDigits_68 : decode M_TR_takeBracedDigits.2.1 68 = .ok (.iload_n 2, 1) := by decide +kernel
theorem d_TR_takeBracedDigits_69 : decode M_TR_takeBracedDigits.2.1 69 = .ok (.iconst 4, 1) := by decide +kernel
theorem d_TR_takeBracedDigits_70 : decode M_TR_takeBracedDigits.2.1 70 = .ok (.iadd, 1) := by decide +kernel
theorem d_TR_takeBracedDigits_71 : decode M_TR_takeBracedDigits.2.1 71 = .ok (.invokevirtual 54, 3) := by decide +kernel
theorem d_TR_takeBracedDigits_74 : decode M_TR_takeBracedDigits.2.1 74 = .ok (.ifCond .eq 7, 3) := by decide +kernel
theorem d_TR_takeBracedDigits_77 : decode M_TR_takeBracedDigits.2.1 77 = .ok (.iconst 1, 1) := by decide +kernel
theorem d_TR_takeBracedDigits_78 : decode M_TR_takeBracedDigits.2.1 78 = .ok (.goto 4, 3) := by decide +kernel
theorem d_TR_takeBracedDigits_81 : decode M_TR_takeBracedDigits.2.1 81 = .ok (.iconst 0, 1) := by decide +kernel
theorem d_TR_takeBracedDigits_82 : decode M_TR_takeBracedDigits.2.1 82 = .ok (.ireturn, 1) := by decide +kernel
theorem d_TR_takeBracedName_0 : decode M_TR_takeBracedName.2.1 0 = .ok (.aload_n 0, 1) := by decide +kernel
theorem d_TR_takeBracedName_1 : decode M_TR_takeBracedName.2.1 1 = .ok (.aload_n 0, 1) := by decide +kernel
theorem d_TR_takeBracedName_2 : decode M_TR_takeBracedName.2.1 2 = .ok (.getfield 40, 3) := by decide +kernel
theorem d_TR_takeBracedName_5 : decode M_TR_takeBracedName.2.1 5 = .ok (.iconst 3, 1) := by decide +kernel
theorem d_TR_takeBracedName_6 : decode M_TR_takeBracedName.2.1 6 = .ok (.iadd, 1) := by decide +kernel
theorem d_TR_takeBracedName_7 : decode M_TR_takeBracedName.2.1 7 = .ok (.invokevirtual 64, 3) := by decide +kernel
theorem d_TR_takeBracedName_10 : decode M_TR_takeBracedName.2.1 10 = .ok (.istore_n 1, 1) := by decide +kernel
theorem d_TR_takeBracedName_11 : decode M_TR_takeBracedName.2.1 11 = .ok (.aload_n 0, 1) := by decide +kernel
theorem d_TR_takeBracedName_12 : decode M_TR_takeBracedName.2.1 12 = .ok (.getfield 12, 3) := by decide +kernel
theorem d_TR_takeBracedName_15 : decode M_TR_takeBracedName.2.1 15 = .ok (.aload_n 0, 1) := by decide +kernel
theorem d_TR_takeBracedName_16 : decode M_TR_takeBracedName.2.1 16 = .ok (.getfield 40, 3) := by decide +kernel
theorem d_TR_takeBracedName_19 : decode M_TR_takeBracedName.2.1 19 = .ok (.iconst 2, 1) := by decide +kernel
theorem d_TR_takeBracedName_20 : decode M_TR_takeBracedName.2.1 20 = .ok (.iadd, 1) := by decide +kernel
theorem d_TR_takeBracedName_21 : decode M_TR_takeBracedName.2.1 21 = .ok (.invokevirtual 43, 3) := by decide +kernel
theorem d_TR_takeBracedName_24 : decode M_TR_takeBracedName.2.1 24 = .ok (.bipush 123, 2) := by decide +kernel
theorem d_TR_takeBracedName_26 : decode M_TR_takeBracedName.2.1 26 = .ok (.if_icmp .ne 16, 3) := by decide +kernel
theorem d_TR_takeBracedName_29 : decode M_TR_takeBracedName.2.1 29 = .ok (.aload_n 0, 1) := by decide +kernel
theorem d_TR_takeBracedName_30 : decode M_TR_takeBracedName.2.1 30 = .ok (.getfield 12, 3) := by decide +kernel
theorem d_TR_takeBracedName_33 : decode M_TR_takeBracedName.2.1 33 = .ok (.iload_n 1, 1) := by decide +kernel
theorem d_TR_takeBracedName_34 : decode M_TR_takeBracedName.2.1 34 = .ok (.invokevirtual 43, 3) := by decide +kernel
theorem d_TR_takeBracedName_37 : decode M_TR_takeBracedName.2.1 37 = .ok (.bipush 125, 2) := by decide +kernel
theorem d_TR_takeBracedName_39 : decode M_TR_takeBracedName.2.1 39 = .ok (.if_icmp .eq 5, 3) := by decide +kernel
theorem d_TR_takeBracedName_42 : decode M_TR_takeBracedName.2.1 42 = .ok (.iconst 0, 1) := by decide +kernel
theorem d_TR_takeBracedName_43 : decode M_TR_takeBracedName.2.1 43 = .ok (.ireturn, 1) := by decide +kernel
theorem d_TR_takeBracedName_44 : decode M_TR_takeBracedName.2.1 44 = .ok (.aload_n 0, 1) := by decide +kernel
theorem d_TR_takeBracedName_45 : decode M_TR_takeBracedName.2.1 45 = .ok (.aload_n 0, 1) := by decide +kernel
theorem d_TR_takeBracedName_46 : decode M_TR_takeBracedName.2.1 46 = .ok (.getfield 12, 3) := by decide +kernel
theorem d_TR_takeBracedName_49 : decode M_TR_takeBracedName.2.1 49 = .ok (.aload_n 0, 1) := by decide +kernel
theorem d_TR_takeBracedName_50 : decode M_TR_takeBracedName.2.1 50 = .ok (.getfield 40, 3) := by decide +kernel
theorem d_TR_takeBracedName_53 : decode M_TR_takeBracedName.2.1 53 = .ok (.iconst 1, 1) := by decide +kernel
theorem d_TR_takeBracedName_54 : decode M_TR_takeBracedName.2.1 54 = .ok (.iadd, 1) := by decide +kernel
theorem d_TR_takeBracedName_55 : decode M_TR_takeBracedName.2.1 55 = .ok (.invokevirtual 43, 3) := by decide +kernel
theorem d_TR_takeBracedName_58 : decode M_TR_takeBracedName.2.1 58 = .ok (.bipush 80, 2) := by decide +kernel
theorem d_TR_takeBracedName_60 : decode M_TR_takeBracedName.2.1 60 = .ok (.if_icmp .ne 7, 3) := by decide +kernel
theorem d_TR_takeBracedName_63 : decode M_TR_takeBracedName.2.1 63 = .ok (.iconst 1, 1) := by decide +kernel
theorem d_TR_takeBracedName_64 : decode M_TR_takeBracedName.2.1 64 = .ok (.goto 4, 3) := by decide +kernel
theorem d_TR_takeBracedName_67 : decode M_TR_takeBracedName.2.1 67 = .ok (.iconst 0, 1) := by decide +kernel
theorem d_TR_takeBracedName_68 : decode M_TR_takeBracedName.2.1 68 = .ok (.iload_n 1, 1) := by decide +kernel
theorem d_TR_takeBracedName_69 : decode M_TR_takeBracedName.2.1 69 = .ok (.iconst 1, 1) := by decide +kernel
theorem d_TR_takeBracedName_70 : decode M_TR_takeBracedName.2.1 70 = .ok (.iadd, 1) := by decide +kernel
theorem d_TR_takeBracedName_71 : decode M_TR_takeBracedName.2.1 71 = .ok (.aload_n 0, 1) := by decide +kernel
theorem d_TR_takeBracedName_72 : decode M_TR_takeBracedName.2.1 72 = .ok (.getfield 40, 3) := by decide +kernel
theorem d_TR_takeBracedName_75 : decode M_TR_takeBracedName.2.1 75 = .ok (.isub, 1) := by decide +kernel
theorem d_TR_takeBracedName_76 : decode M_TR_takeBracedName.2.1 76 = .ok (.invokevirtual 67, 3) := by decide +kernel
theorem d_TR_takeBracedName_79 : decode M_TR_takeBracedName.2.1 79 = .ok (.ireturn, 1) := by decide +kernel
theorem d_TR_collectName_0 : decode M_TR_collectName.2.1 0 = .ok (.aload_n 0, 1) := by decide +kernel
theorem d_TR_collectName_1 : decode M_TR_collectName.2.1 1 = .ok (.getfield 25, 3) := by decide +kernel
theorem d_TR_collectName_4 : decode M_TR_collectName.2.1 4 = .ok (.invokevirtual 91, 3) := by decide +kernel
theorem d_TR_collectName_7 : decode M_TR_collectName.2.1 7 = .ok (.iload_n 1, 1) := by decide +kernel
theorem d_TR_collectName_8 : decode M_TR_collectName.2.1 8 = .ok (.istore_n 2, 1) := by decide +kernel
theorem d_TR_collectName_9 : decode M_TR_collectName.2.1 9 = .ok (.iload_n 2, 1) := by decide +kernel
theorem d_TR_collectName_10 : decode M_TR_collectName.2.1 10 = .ok (.aload_n 0, 1) := by decide +kernel
theorem d_TR_collectName_11 : decode M_TR_collectName.2.1 11 = .ok (.getfield 12, 3) := by decide +kernel
theorem d_TR_collectName_14 : decode M_TR_collectName.2.1 14 = .ok (.getfield 46, 3) := by decide +kernel
theorem d_TR_collectName_17 : decode M_TR_collectName.2.1 17 = .ok (.if_icmp .ge 60, 3) := by decide +kernel
theorem d_TR_collectName_20 : decode M_TR_collectName.2.1 20 = .ok (.aload_n 0, 1) := by decide +kernel
theorem d_TR_collectName_21 : decode M_TR_collectName.2.1 21 = .ok (.getfield 12, 3) := by decide +kernel
theorem d_TR_collectName_24 : decode M_TR_collectName.2.1 24 = .ok (.iload_n 2, 1) := by decide +kernel
theorem d_TR_collectName_25 : decode M_TR_collectName.2.1 25 = .ok (.invokevirtual 43, 3) := by decide +kernel
theorem d_TR_collectName_28 : decode M_TR_collectName.2.1 28 = .ok (.istore_n 3, 1) := by decide +kernel
theorem d_TR_collectName_29 : decode M_TR_collectName.2.1 29 = .ok (.iload_n 3, 1) := by decide +kernel
theorem d_TR_collectName_30 : decode M_TR_collectName.2.1 30 = .ok (.invokestatic 77, 3) := by decide +kernel
theorem d_TR_collectName_33 : decode M_TR_collectName.2.1 33 = .ok (.ifCond .eq 18, 3) := by decide +kernel
theorem d_TR_collectName_36 : decode M_TR_collectName.2.1 36 = .ok (.aload_n 0, 1) := by decide +kernel
theorem d_TR_collectName_37 : decode M_TR_collectName.2.1 37 = .ok (.getfield 25, 3) := by decide +kernel
theorem d_TR_collectName_40 : decode M_TR_collectName.2.1 40 = .ok (.iload_n 3, 1) := by decide +kernel
theorem d_TR_collectName_41 : decode M_TR_collectName.2.1 41 = .ok (.bipush 32, 2) := by decide +kernel
theorem d_TR_collectName_43 : decode M_TR_collectName.2.1 43 = .ok (.ior, 1) := by decide +kernel
theorem d_TR_collectName_44 : decode M_TR_collectName.2.1 44 = .ok (.invokevirtual 94, 3) := by decide +kernel
theorem d_TR_collectName_47 : decode M_TR_collectName.2.1 47 = .ok (.pop, 1) := by decide +kernel
theorem d_TR_collectName_48 : decode M_TR_collectName.2.1 48 = .ok (.goto 23, 3) := by decide +kernel
theorem d_TR_collectName_51 : decode M_TR_collectName.2.1 51 = .ok (.iload_n 3, 1) := by decide +kernel
theorem d_TR_collectName_52 : decode M_TR_collectName.2.1 52 = .ok (.bipush 32, 2) := by decide +kernel
theorem d_TR_collectName_54 : decode M_TR_collectName.2.1 54 = .ok (.if_icmp .eq 17, 3) := by decide +kernel
theorem d_TR_collectName_57 : decode M_TR_collectName.2.1 57 = .ok (.iload_n 3, 1) := by decide +kernel
theorem d_TR_collectName_58 : decode M_TR_collectName.2.1 58 = .ok (.bipush 95, 2) := by decide +kernel
theorem d_TR_collectName_60 : decode M_TR_collectName.2.1 60 = .ok (.if_icmp .eq 11, 3) := by decide +kernel
theorem d_TR_collectName_63 : decode M_TR_collectName.2.1 63 = .ok (.iload_n 3, 1) := by decide +kernel
theorem d_TR_collectName_64 : decode M_TR_collectName.2.1 64 = .ok (.bipush 45, 2) := by decide +kernel
theorem d_TR_collectName_66 : decode M_TR_collectName.2.1 66 = .ok (.if_icmp .eq 5, 3) := by decide +kernel
theorem d_TR_collectName_69 : decode M_TR_collectName.2.1 69 = .ok (.iload_n 2, 1) := by decide +kernel
theorem d_TR_collectName_70 : decode M_TR_collectName.2.1 70 = .ok (.ireturn, 1) := by decide +kernel
theorem d_TR_collectName_71 : decode M_TR_collectName.2.1 71 = .ok (.iinc 2 1, 3) := by decide +kernel
theorem d_TR_collectName_74 : decode M_TR_collectName.2.1 74 = .ok (.goto (-65), 3) := by decide +kernel
theorem d_TR_collectName_77 : decode M_TR_collectName.2.1 77 = .ok (.aload_n 0, 1) := by decide +kernel
theorem d_TR_collectName_78 : decode M_TR_collectName.2.1 78 = .ok (.getfield 12, 3) := by decide +kernel
theorem d_TR_collectName_81 : decode M_TR_collectName.2.1 81 = .ok (.getfield 46, 3) := by decide +kernel
theorem d_TR_collectName_84 : decode M_TR_collectName.2.1 84 = .ok (.ireturn, 1) := by decide +kernel
theorem d_TR_addProperty_0 : decode M_TR_addProperty.2.1 0 = .ok (.aload_n 0, 1) := by decide +kernel
theorem d_TR_addProperty_1 : decode M_TR_addProperty.2.1 1 = .ok (.getfield 25, 3) := by decide +kernel
theorem d_TR_addProperty_4 : decode M_TR_addProperty.2.1 4 = .ok (.invokestatic 97, 3) := by decide +kernel
theorem d_TR_addProperty_7 : decode M_TR_addProperty.2.1 7 = .ok (.istore_n 3, 1) := by decide +kernel
theorem d_TR_addProperty_8 : decode M_TR_addProperty.2.1 8 = .ok (.iload_n 3, 1) := by decide +kernel
theorem d_TR_addProperty_9 : decode M_TR_addProperty.2.1 9 = .ok (.iconst (-1), 1) := by decide +kernel
theorem d_TR_addProperty_10 : decode M_TR_addProperty.2.1 10 = .ok (.if_icmp .eq 25, 3) := by decide +kernel
theorem d_TR_addProperty_13 : decode M_TR_addProperty.2.1 13 = .ok (.aload_n 0, 1) := by decide +kernel
theorem d_TR_addProperty_14 : decode M_TR_addProperty.2.1 14 = .ok (.iload_n 1, 1) := by decide +kernel
theorem d_TR_addProperty_15 : decode M_TR_addProperty.2.1 15 = .ok (.ifCond .eq 7, 3) := by decide +kernel
theorem d_TR_addProperty_18 : decode M_TR_addProperty.2.1 18 = .ok (.iconst 3, 1) := by decide +kernel
theorem d_TR_addProperty_19 : decode M_TR_addProperty.2.1 19 = .ok (.goto 4, 3) := by decide +kernel
theorem d_TR_addProperty_22 : decode M_TR_addProperty.2.1 22 = .ok (.iconst 2, 1) := by decide +kernel
theorem d_TR_addProperty_23 : decode M_TR_addProperty.2.1 23 = .ok (.iload_n 3, 1) := by decide +kernel
theorem d_TR_addProperty_24 : decode M_TR_addProperty.2.1 24 = .ok (.iload_n 2, 1) := by decide +kernel
theorem d_TR_addProperty_25 : decode M_TR_addProperty.2.1 25 = .ok (.invokevirtual 54, 3) := by decide +kernel
theorem d_TR_addProperty_28 : decode M_TR_addProperty.2.1 28 = .ok (.ifCond .eq 7, 3) := by decide +kernel
theorem d_TR_addProperty_31 : decode M_TR_addProperty.2.1 31 = .ok (.iconst 1, 1) := by decide +kernel
theorem d_TR_addProperty_32 : decode M_TR_addProperty.2.1 32 = .ok (.goto 4, 3) := by decide +kernel
theorem d_TR_addProperty_35 : decode M_TR_addProperty.2.1 35 = .ok (.iconst 0, 1) := by decide +kernel
theorem d_TR_addProperty_36 : decode M_TR_addProperty.2.1 36 = .ok (.ireturn, 1) := by decide +kernel
theorem d_TR_add_0 : decode M_TR_add.2.1 0 = .ok (.aload_n 0, 1) := by decide +kernel
theorem d_TR_add_1 : decode M_TR_add.2.1 1 = .ok (.getfield 28, 3) := by decide +kernel
theorem d_TR_add_4 : decode M_TR_add.2.1 4 = .ok (.bipush 60, 2) := by decide +kernel
theorem d_TR_add_6 : decode M_TR_add.2.1 6 = .ok (.if_icmp .lt 5, 3) := by decide +kernel
theorem d_TR_add_9 : decode M_TR_add.2.1 9 = .ok (.iconst 0, 1) := by decide +kernel
theorem d_TR_add_10 : decode M_TR_add.2.1 10 = .ok (.ireturn, 1) := by decide +kernel
theorem d_TR_add_11 : decode M_TR_add.2.1 11 = .ok (.aload_n 0, 1) := by decide +kernel
theorem d_TR_add_12 : decode M_TR_add.2.1 12 = .ok (.getfield 18, 3) := by decide +kernel
theorem d_TR_add_15 : decode M_TR_add.2.1 15 = .ok (.aload_n 0, 1) := by decide +kernel
theorem d_TR_add_16 : decode M_TR_add.2.1 16 = .ok (.getfield 28, 3) := by decide +kernel
theorem d_TR_add_19 : decode M_TR_add.2.1 19 = .ok (.iload_n 1, 1) := by decide +kernel
theorem d_TR_add_20 : decode M_TR_add.2.1 20 = .ok (.iastore, 1) := by decide +kernel
theorem d_TR_add_21 : decode M_TR_add.2.1 21 = .ok (.aload_n 0, 1) := by decide +kernel
theorem d_TR_add_22 : decode M_TR_add.2.1 22 = .ok (.getfield 22, 3) := by decide +kernel
theorem d_TR_add_25 : decode M_TR_add.2.1 25 = .ok (.aload_n 0, 1) := by decide +kernel
theorem d_TR_add_26 : decode M_TR_add.2.1 26 = .ok (.getfield 28, 3) := by decide +kernel
theorem d_TR_add_29 : decode M_TR_add.2.1 29 = .ok (.iload_n 2, 1) := by decide +kernel
theorem d_TR_add_30 : decode M_TR_add.2.1 30 = .ok (.iastore, 1) := by decide +kernel
theorem d_TR_add_31 : decode M_TR_add.2.1 31 = .ok (.aload_n 0, 1) := by decide +kernel
theorem d_TR_add_32 : decode M_TR_add.2.1 32 = .ok (.dup, 1) := by decide +kernel
theorem d_TR_add_33 : decode M_TR_add.2.1 33 = .ok (.getfield 28, 3) := by decide +kernel
theorem d_TR_add_36 : decode M_TR_add.2.1 36 = .ok (.iconst 1, 1) := by decide +kernel
theorem d_TR_add_37 : decode M_TR_add.2.1 37 = .ok (.iadd, 1) := by decide +kernel
theorem d_TR_add_38 : decode M_TR_add.2.1 38 = .ok (.putfield 28, 3) := by decide +kernel
theorem d_TR_add_41 : decode M_TR_add.2.1 41 = .ok (.aload_n 0, 1) := by decide +kernel
theorem d_TR_add_42 : decode M_TR_add.2.1 42 = .ok (.dup, 1) := by decide +kernel
theorem d_TR_add_43 : decode M_TR_add.2.1 43 = .ok (.getfield 40, 3) := by decide +kernel
theorem d_TR_add_46 : decode M_TR_add.2.1 46 = .ok (.iload_n 3, 1) := by decide +kernel
theorem d_TR_add_47 : decode M_TR_add.2.1 47 = .ok (.iadd, 1) := by decide +kernel
theorem d_TR_add_48 : decode M_TR_add.2.1 48 = .ok (.putfield 40, 3) := by decide +kernel
theorem d_TR_add_51 : decode M_TR_add.2.1 51 = .ok (.iconst 1, 1) := by decide +kernel
theorem d_TR_add_52 : decode M_TR_add.2.1 52 = .ok (.ireturn, 1) := by decide +kernel
theorem d_TR_countHexDigits_0 : decode M_TR_countHexDigits.2.1 0 = .ok (.iconst 0, 1) := by decide +kernel
theorem d_TR_countHexDigits_1 : decode M_TR_countHexDigits.2.1 1 = .ok (.istore_n 3, 1) := by decide +kernel
theorem d_TR_countHexDigits_2 : decode M_TR_countHexDigits.2.1 2 = .ok (.iload_n 3, 1) := by decide +kernel
theorem d_TR_countHexDigits_3 : decode M_TR_countHexDigits.2.1 3 = .ok (.iload_n 2, 1) := by decide +kernel
theorem d_TR_countHexDigits_4 : decode M_TR_countHexDigits.2.1 4 = .ok (.if_icmp .ge 28, 3) := by decide +kernel
theorem d_TR_countHexDigits_7 : decode M_TR_countHexDigits.2.1 7 = .ok (.aload_n 0, 1) := by decide +kernel
theorem d_TR_countHexDigits_8 : decode M_TR_countHexDigits.2.1 8 = .ok (.getfield 12, 3) := by decide +kernel
theorem d_TR_countHexDigits_11 : decode M_TR_countHexDigits.2.1 11 = .ok (.iload_n 1, 1) := by decide +kernel
theorem d_TR_countHexDigits_12 : decode M_TR_countHexDigits.2.1 12 = .ok (.iload_n 3, 1) := by decide +kernel
theorem d_TR_countHexDigits_13 : decode M_TR_countHexDigits.2.1 13 = .ok (.iadd, 1) := by decide +kernel
theorem d_TR_countHexDigits_14 : decode M_TR_countHexDigits.2.1 14 = .ok (.invokevirtual 43, 3) := by decide +kernel
theorem d_TR_countHexDigits_17 : decode M_TR_countHexDigits.2.1 17 = .ok (.invokestatic 103, 3) := by decide +kernel
theorem d_TR_countHexDigits_20 : decode M_TR_countHexDigits.2.1 20 = .ok (.iconst (-1), 1) := by decide +kernel
theorem d_TR_countHexDigits_21 : decode M_TR_countHexDigits.2.1 21 = .ok (.if_icmp .ne 5, 3) := by decide +kernel
theorem d_TR_countHexDigits_24 : decode M_TR_countHexDigits.2.1 24 = .ok (.iload_n 3, 1) := by decide +kernel
theorem d_TR_countHexDigits_25 : decode M_TR_countHexDigits.2.1 25 = .ok (.ireturn, 1) := by decide +kernel
theorem d_TR_countHexDigits_26 : decode M_TR_countHexDigits.2.1 26 = .ok (.iinc 3 1, 3) := by decide +kernel
theorem d_TR_countHexDigits_29 : decode M_TR_countHexDigits.2.1 29 = .ok (.goto (-27), 3) := by decide +kernel
theorem d_TR_countHexDigits_32 : decode M_TR_countHexDigits.2.1 32 = .ok (.iload_n 2, 1) := by decide +kernel
theorem d_TR_countHexDigits_33 : decode M_TR_countHexDigits.2.1 33 = .ok (.ireturn, 1) := by decide +kernel
theorem d_TR_hexValue_0 : decode M_TR_hexValue.2.1 0 = .ok (.iconst 0, 1) := by decide +kernel
theorem d_TR_hexValue_1 : decode M_TR_hexValue.2.1 1 = .ok (.istore_n 3, 1) := by decide +kernel
theorem d_TR_hexValue_2 : decode M_TR_hexValue.2.1 2 = .ok (.iconst 0, 1) := by decide +kernel
theorem d_TR_hexValue_3 : decode M_TR_hexValue.2.1 3 = .ok (.istore 4, 2) := by decide +kernel
theorem d_TR_hexValue_5 : decode M_TR_hexValue.2.1 5 = .ok (.iload 4, 2) := by decide +kernel
theorem d_TR_hexValue_7 : decode M_TR_hexValue.2.1 7 = .ok (.iload_n 2, 1) := by decide +kernel
theorem d_TR_hexValue_8 : decode M_TR_hexValue.2.1 8 = .ok (.if_icmp .ge 29, 3) := by decide +kernel
theorem d_TR_hexValue_11 : decode M_TR_hexValue.2.1 11 = .ok (.iload_n 3, 1) := by decide +kernel
theorem d_TR_hexValue_12 : decode M_TR_hexValue.2.1 12 = .ok (.bipush 16, 2) := by decide +kernel
theorem d_TR_hexValue_14 : decode M_TR_hexValue.2.1 14 = .ok (.imul, 1) := by decide +kernel
theorem d_TR_hexValue_15 : decode M_TR_hexValue.2.1 15 = .ok (.aload_n 0, 1) := by decide +kernel
theorem d_TR_hexValue_16 : decode M_TR_hexValue.2.1 16 = .ok (.getfield 12, 3) := by decide +kernel
theorem d_TR_hexValue_19 : decode M_TR_hexValue.2.1 19 = .ok (.iload_n 1, 1) := by decide +kernel
theorem d_TR_hexValue_20 : decode M_TR_hexValue.2.1 20 = .ok (.iload 4, 2) := by decide +kernel
theorem d_TR_hexValue_22 : decode M_TR_hexValue.2.1 22 = .ok (.iadd, 1) := by decide +kernel
theorem d_TR_hexValue_23 : decode M_TR_hexValue.2.1 23 = .ok (.invokevirtual 43, 3) := by decide +kernel
theorem d_TR_hexValue_26 : decode M_TR_hexValue.2.1 26 = .ok (.invokestatic 103, 3) := by decide +kernel
theorem d_TR_hexValue_29 : decode M_TR_hexValue.2.1 29 = .ok (.iadd, 1) := by decide +kernel
theorem d_TR_hexValue_30 : decode M_TR_hexValue.2.1 30 = .ok (.istore_n 3, 1) := by decide +kernel
theorem d_TR_hexValue_31 : decode M_TR_hexValue.2.1 31 = .ok (.iinc 4 1, 3) := by decide +kernel
theorem d_TR_hexValue_34 : decode M_TR_hexValue.2.1 34 = .ok (.goto (-29), 3) := by decide +kernel
theorem d_TR_hexValue_37 : decode M_TR_hexValue.2.1 37 = .ok (.iload_n 3, 1) := by decide +kernel
theorem d_TR_hexValue_38 : decode M_TR_hexValue.2.1 38 = .ok (.ireturn, 1) := by decide +kernel
theorem d_TR_hexDigit_0 : decode M_TR_hexDigit.2.1 0 = .ok (.iload_n 0, 1) := by decide +kernel
theorem d_TR_hexDigit_1 : decode M_TR_hexDigit.2.1 1 = .ok (.bipush 48, 2) := by decide +kernel
theorem d_TR_hexDigit_3 : decode M_TR_hexDigit.2.1 3 = .ok (.if_icmp .lt 14, 3) := by decide +kernel
theorem d_TR_hexDigit_6 : decode M_TR_hexDigit.2.1 6 = .ok (.iload_n 0, 1) := by decide +kernel
theorem d_TR_hexDigit_7 : decode M_TR_hexDigit.2.1 7 = .ok (.bipush 57, 2) := by decide +kernel
theorem d_TR_hexDigit_9 : decode M_TR_hexDigit.2.1 9 = .ok (.if_icmp .gt 8, 3) := by decide +kernel
theorem d_TR_hexDigit_12 : decode M_TR_hexDigit.2.1 12 = .ok (.iload_n 0, 1) := by decide +kernel
theorem d_TR_hexDigit_13 : decode M_TR_hexDigit.2.1 13 = .ok (.bipush 48, 2) := by decide +kernel
theorem d_TR_hexDigit_15 : decode M_TR_hexDigit.2.1 15 = .ok (.isub, 1) := by decide +kernel
theorem d_TR_hexDigit_16 : decode M_TR_hexDigit.2.1 16 = .ok (.ireturn, 1) := by decide +kernel
theorem d_TR_hexDigit_17 : decode M_TR_hexDigit.2.1 17 = .ok (.iload_n 0, 1) := by decide +kernel
theorem d_TR_hexDigit_18 : decode M_TR_hexDigit.2.1 18 = .ok (.bipush 97, 2) := by decide +kernel
theorem d_TR_hexDigit_20 : decode M_TR_hexDigit.2.1 20 = .ok (.if_icmp .lt 17, 3) := by decide +kernel
theorem d_TR_hexDigit_23 : decode M_TR_hexDigit.2.1 23 = .ok (.iload_n 0, 1) := by decide +kernel
theorem d_TR_hexDigit_24 : decode M_TR_hexDigit.2.1 24 = .ok (.bipush 102, 2) := by decide +kernel
theorem d_TR_hexDigit_26 : decode M_TR_hexDigit.2.1 26 = .ok (.if_icmp .gt 11, 3) := by decide +kernel
theorem d_TR_hexDigit_29 : decode M_TR_hexDigit.2.1 29 = .ok (.iload_n 0, 1) := by decide +kernel
theorem d_TR_hexDigit_30 : decode M_TR_hexDigit.2.1 30 = .ok (.bipush 97, 2) := by decide +kernel
theorem d_TR_hexDigit_32 : decode M_TR_hexDigit.2.1 32 = .ok (.isub, 1) := by decide +kernel
theorem d_TR_hexDigit_33 : decode M_TR_hexDigit.2.1 33 = .ok (.bipush 10, 2) := by decide +kernel
theorem d_TR_hexDigit_35 : decode M_TR_hexDigit.2.1 35 = .ok (.iadd, 1) := by decide +kernel
theorem d_TR_hexDigit_36 : decode M_TR_hexDigit.2.1 36 = .ok (.ireturn, 1) := by decide +kernel
theorem d_TR_hexDigit_37 : decode M_TR_hexDigit.2.1 37 = .ok (.iload_n 0, 1) := by decide +kernel
theorem d_TR_hexDigit_38 : decode M_TR_hexDigit.2.1 38 = .ok (.bipush 65, 2) := by decide +kernel
theorem d_TR_hexDigit_40 : decode M_TR_hexDigit.2.1 40 = .ok (.if_icmp .lt 19, 3) := by decide +kernel
theorem d_TR_hexDigit_43 : decode M_TR_hexDigit.2.1 43 = .ok (.iload_n 0, 1) := by decide +kernel
theorem d_TR_hexDigit_44 : decode M_TR_hexDigit.2.1 44 = .ok (.bipush 70, 2) := by decide +kernel
theorem d_TR_hexDigit_46 : decode M_TR_hexDigit.2.1 46 = .ok (.if_icmp .gt 13, 3) := by decide +kernel
theorem d_TR_hexDigit_49 : decode M_TR_hexDigit.2.1 49 = .ok (.iload_n 0, 1) := by decide +kernel
theorem d_TR_hexDigit_50 : decode M_TR_hexDigit.2.1 50 = .ok (.bipush 65, 2) := by decide +kernel
theorem d_TR_hexDigit_52 : decode M_TR_hexDigit.2.1 52 = .ok (.isub, 1) := by decide +kernel
theorem d_TR_hexDigit_53 : decode M_TR_hexDigit.2.1 53 = .ok (.bipush 10, 2) := by decide +kernel
theorem d_TR_hexDigit_55 : decode M_TR_hexDigit.2.1 55 = .ok (.iadd, 1) := by decide +kernel
theorem d_TR_hexDigit_56 : decode M_TR_hexDigit.2.1 56 = .ok (.goto 4, 3) := by decide +kernel
theorem d_TR_hexDigit_59 : decode M_TR_hexDigit.2.1 59 = .ok (.iconst (-1), 1) := by decide +kernel
theorem d_TR_hexDigit_60 : decode M_TR_hexDigit.2.1 60 = .ok (.ireturn, 1) := by decide +kernel
theorem d_TR_isLetter_0 : decode M_TR_isLetter.2.1 0 = .ok (.iload_n 0, 1) := by decide +kernel
theorem d_TR_isLetter_1 : decode M_TR_isLetter.2.1 1 = .ok (.bipush 97, 2) := by decide +kernel
theorem d_TR_isLetter_3 : decode M_TR_isLetter.2.1 3 = .ok (.if_icmp .lt 9, 3) := by decide +kernel
theorem d_TR_isLetter_6 : decode M_TR_isLetter.2.1 6 = .ok (.iload_n 0, 1) := by decide +kernel
theorem d_TR_isLetter_7 : decode M_TR_isLetter.2.1 7 = .ok (.bipush 122, 2) := by decide +kernel
theorem d_TR_isLetter_9 : decode M_TR_isLetter.2.1 9 = .ok (.if_icmp .le 15, 3) := by decide +kernel
theorem d_TR_isLetter_12 : decode M_TR_isLetter.2.1 12 = .ok (.iload_n 0, 1) := by decide +kernel
theorem d_TR_isLetter_13 : decode M_TR_isLetter.2.1 13 = .ok (.bipush 65, 2) := by decide +kernel
theorem d_TR_isLetter_15 : decode M_TR_isLetter.2.1 15 = .ok (.if_icmp .lt 13, 3) := by decide +kernel
theorem d_TR_isLetter_18 : decode M_TR_isLetter.2.1 18 = .ok (.iload_n 0, 1) := by decide +kernel
theorem d_TR_isLetter_19 : decode M_TR_isLetter.2.1 19 = .ok (.bipush 90, 2) := by decide +kernel
theorem d_TR_isLetter_21 : decode M_TR_isLetter.2.1 21 = .ok (.if_icmp .gt 7, 3) := by decide +kernel
theorem d_TR_isLetter_24 : decode M_TR_isLetter.2.1 24 = .ok (.iconst 1, 1) := by decide +kernel
theorem d_TR_isLetter_25 : decode M_TR_isLetter.2.1 25 = .ok (.goto 4, 3) := by decide +kernel
theorem d_TR_isLetter_28 : decode M_TR_isLetter.2.1 28 = .ok (.iconst 0, 1) := by decide +kernel
theorem d_TR_isLetter_29 : decode M_TR_isLetter.2.1 29 = .ok (.ireturn, 1) := by decide +kernel
