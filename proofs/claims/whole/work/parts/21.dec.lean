/-! decode rows of CA NS OB PW: written by wip/gen/mknames.py -/
theorem d_CA_collectAlikes_0 : decode M_CA_collectAlikes.2.1 0 = .ok (.aload_n 1, 1) := by decide +kernel
theorem d_CA_collectAlikes_1 : decode M_CA_collectAlikes.2.1 1 = .ok (.invokevirtual 7, 3) := by decide +kernel
theorem d_CA_collectAlikes_4 : decode M_CA_collectAlikes.2.1 4 = .ok (.iconst 0, 1) := by decide +kernel
theorem d_CA_collectAlikes_5 : decode M_CA_collectAlikes.2.1 5 = .ok (.istore_n 2, 1) := by decide +kernel
theorem d_CA_collectAlikes_6 : decode M_CA_collectAlikes.2.1 6 = .ok (.iload_n 2, 1) := by decide +kernel
theorem d_CA_collectAlikes_7 : decode M_CA_collectAlikes.2.1 7 = .ok (.iconst 1, 1) := by decide +kernel
theorem d_CA_collectAlikes_8 : decode M_CA_collectAlikes.2.1 8 = .ok (.iadd, 1) := by decide +kernel
theorem d_CA_collectAlikes_9 : decode M_CA_collectAlikes.2.1 9 = .ok (.getstatic 12, 3) := by decide +kernel
theorem d_CA_collectAlikes_12 : decode M_CA_collectAlikes.2.1 12 = .ok (.arraylength, 1) := by decide +kernel
theorem d_CA_collectAlikes_13 : decode M_CA_collectAlikes.2.1 13 = .ok (.if_icmp .ge 46, 3) := by decide +kernel
theorem d_CA_collectAlikes_16 : decode M_CA_collectAlikes.2.1 16 = .ok (.getstatic 12, 3) := by decide +kernel
theorem d_CA_collectAlikes_19 : decode M_CA_collectAlikes.2.1 19 = .ok (.iload_n 2, 1) := by decide +kernel
theorem d_CA_collectAlikes_20 : decode M_CA_collectAlikes.2.1 20 = .ok (.iaload, 1) := by decide +kernel
theorem d_CA_collectAlikes_21 : decode M_CA_collectAlikes.2.1 21 = .ok (.istore_n 3, 1) := by decide +kernel
theorem d_CA_collectAlikes_22 : decode M_CA_collectAlikes.2.1 22 = .ok (.iload_n 3, 1) := by decide +kernel
theorem d_CA_collectAlikes_23 : decode M_CA_collectAlikes.2.1 23 = .ok (.getstatic 12, 3) := by decide +kernel
theorem d_CA_collectAlikes_26 : decode M_CA_collectAlikes.2.1 26 = .ok (.iload_n 2, 1) := by decide +kernel
theorem d_CA_collectAlikes_27 : decode M_CA_collectAlikes.2.1 27 = .ok (.iconst 1, 1) := by decide +kernel
theorem d_CA_collectAlikes_28 : decode M_CA_collectAlikes.2.1 28 = .ok (.iadd, 1) := by decide +kernel
theorem d_CA_collectAlikes_29 : decode M_CA_collectAlikes.2.1 29 = .ok (.iaload, 1) := by decide +kernel
theorem d_CA_collectAlikes_30 : decode M_CA_collectAlikes.2.1 30 = .ok (.if_icmp .ge 23, 3) := by decide +kernel
theorem d_CA_collectAlikes_33 : decode M_CA_collectAlikes.2.1 33 = .ok (.aload_n 0, 1) := by decide +kernel
theorem d_CA_collectAlikes_34 : decode M_CA_collectAlikes.2.1 34 = .ok (.iload_n 3, 1) := by decide +kernel
theorem d_CA_collectAlikes_35 : decode M_CA_collectAlikes.2.1 35 = .ok (.invokestatic 18, 3) := by decide +kernel
theorem d_CA_collectAlikes_38 : decode M_CA_collectAlikes.2.1 38 = .ok (.ifCond .eq 9, 3) := by decide +kernel
theorem d_CA_collectAlikes_41 : decode M_CA_collectAlikes.2.1 41 = .ok (.aload_n 1, 1) := by decide +kernel
theorem d_CA_collectAlikes_42 : decode M_CA_collectAlikes.2.1 42 = .ok (.iload_n 3, 1) := by decide +kernel
theorem d_CA_collectAlikes_43 : decode M_CA_collectAlikes.2.1 43 = .ok (.iload_n 3, 1) := by decide +kernel
theorem d_CA_collectAlikes_44 : decode M_CA_collectAlikes.2.1 44 = .ok (.invokevirtual 22, 3) := by decide +kernel
theorem d_CA_collectAlikes_47 : decode M_CA_collectAlikes.2.1 47 = .ok (.iinc 3 1, 3) := by decide +kernel
theorem d_CA_collectAlikes_50 : decode M_CA_collectAlikes.2.1 50 = .ok (.goto (-28), 3) := by decide +kernel
theorem d_CA_collectAlikes_53 : decode M_CA_collectAlikes.2.1 53 = .ok (.iinc 2 2, 3) := by decide +kernel
theorem d_CA_collectAlikes_56 : decode M_CA_collectAlikes.2.1 56 = .ok (.goto (-50), 3) := by decide +kernel
theorem d_CA_collectAlikes_59 : decode M_CA_collectAlikes.2.1 59 = .ok (.return_, 1) := by decide +kernel
theorem d_CA_isAlikeToMember_0 : decode M_CA_isAlikeToMember.2.1 0 = .ok (.iload_n 1, 1) := by decide +kernel
theorem d_CA_isAlikeToMember_1 : decode M_CA_isAlikeToMember.2.1 1 = .ok (.invokestatic 26, 3) := by decide +kernel
theorem d_CA_isAlikeToMember_4 : decode M_CA_isAlikeToMember.2.1 4 = .ok (.ifCond .eq 14, 3) := by decide +kernel
theorem d_CA_isAlikeToMember_7 : decode M_CA_isAlikeToMember.2.1 7 = .ok (.aload_n 0, 1) := by decide +kernel
theorem d_CA_isAlikeToMember_8 : decode M_CA_isAlikeToMember.2.1 8 = .ok (.iload_n 1, 1) := by decide +kernel
theorem d_CA_isAlikeToMember_9 : decode M_CA_isAlikeToMember.2.1 9 = .ok (.bipush 32, 2) := by decide +kernel
theorem d_CA_isAlikeToMember_11 : decode M_CA_isAlikeToMember.2.1 11 = .ok (.iadd, 1) := by decide +kernel
theorem d_CA_isAlikeToMember_12 : decode M_CA_isAlikeToMember.2.1 12 = .ok (.invokevirtual 30, 3) := by decide +kernel
theorem d_CA_isAlikeToMember_15 : decode M_CA_isAlikeToMember.2.1 15 = .ok (.ifCond .ne 24, 3) := by decide +kernel
theorem d_CA_isAlikeToMember_18 : decode M_CA_isAlikeToMember.2.1 18 = .ok (.iload_n 1, 1) := by decide +kernel
theorem d_CA_isAlikeToMember_19 : decode M_CA_isAlikeToMember.2.1 19 = .ok (.bipush 32, 2) := by decide +kernel
theorem d_CA_isAlikeToMember_21 : decode M_CA_isAlikeToMember.2.1 21 = .ok (.isub, 1) := by decide +kernel
theorem d_CA_isAlikeToMember_22 : decode M_CA_isAlikeToMember.2.1 22 = .ok (.invokestatic 26, 3) := by decide +kernel
theorem d_CA_isAlikeToMember_25 : decode M_CA_isAlikeToMember.2.1 25 = .ok (.ifCond .eq 16, 3) := by decide +kernel
theorem d_CA_isAlikeToMember_28 : decode M_CA_isAlikeToMember.2.1 28 = .ok (.aload_n 0, 1) := by decide +kernel
theorem d_CA_isAlikeToMember_29 : decode M_CA_isAlikeToMember.2.1 29 = .ok (.iload_n 1, 1) := by decide +kernel
theorem d_CA_isAlikeToMember_30 : decode M_CA_isAlikeToMember.2.1 30 = .ok (.bipush 32, 2) := by decide +kernel
theorem d_CA_isAlikeToMember_32 : decode M_CA_isAlikeToMember.2.1 32 = .ok (.isub, 1) := by decide +kernel
theorem d_CA_isAlikeToMember_33 : decode M_CA_isAlikeToMember.2.1 33 = .ok (.invokevirtual 30, 3) := by decide +kernel
theorem d_CA_isAlikeToMember_36 : decode M_CA_isAlikeToMember.2.1 36 = .ok (.ifCond .eq 5, 3) := by decide +kernel
theorem d_CA_isAlikeToMember_39 : decode M_CA_isAlikeToMember.2.1 39 = .ok (.iconst 1, 1) := by decide +kernel
theorem d_CA_isAlikeToMember_40 : decode M_CA_isAlikeToMember.2.1 40 = .ok (.ireturn, 1) := by decide +kernel
theorem d_CA_isAlikeToMember_41 : decode M_CA_isAlikeToMember.2.1 41 = .ok (.iconst 0, 1) := by decide +kernel
theorem d_CA_isAlikeToMember_42 : decode M_CA_isAlikeToMember.2.1 42 = .ok (.istore_n 2, 1) := by decide +kernel
theorem d_CA_isAlikeToMember_43 : decode M_CA_isAlikeToMember.2.1 43 = .ok (.iload_n 2, 1) := by decide +kernel
theorem d_CA_isAlikeToMember_44 : decode M_CA_isAlikeToMember.2.1 44 = .ok (.iconst 2, 1) := by decide +kernel
theorem d_CA_isAlikeToMember_45 : decode M_CA_isAlikeToMember.2.1 45 = .ok (.iadd, 1) := by decide +kernel
theorem d_CA_isAlikeToMember_46 : decode M_CA_isAlikeToMember.2.1 46 = .ok (.getstatic 33, 3) := by decide +kernel
theorem d_CA_isAlikeToMember_49 : decode M_CA_isAlikeToMember.2.1 49 = .ok (.arraylength, 1) := by decide +kernel
theorem d_CA_isAlikeToMember_50 : decode M_CA_isAlikeToMember.2.1 50 = .ok (.if_icmp .ge 82, 3) := by decide +kernel
theorem d_CA_isAlikeToMember_53 : decode M_CA_isAlikeToMember.2.1 53 = .ok (.getstatic 33, 3) := by decide +kernel
theorem d_CA_isAlikeToMember_56 : decode M_CA_isAlikeToMember.2.1 56 = .ok (.iload_n 2, 1) := by decide +kernel
theorem d_CA_isAlikeToMember_57 : decode M_CA_isAlikeToMember.2.1 57 = .ok (.iaload, 1) := by decide +kernel
theorem d_CA_isAlikeToMember_58 : decode M_CA_isAlikeToMember.2.1 58 = .ok (.istore_n 3, 1) := by decide +kernel
theorem d_CA_isAlikeToMember_59 : decode M_CA_isAlikeToMember.2.1 59 = .ok (.getstatic 33, 3) := by decide +kernel
theorem d_CA_isAlikeToMember_62 : decode M_CA_isAlikeToMember.2.1 62 = .ok (.iload_n 2, 1) := by decide +kernel
theorem d_CA_isAlikeToMember_63 : decode M_CA_isAlikeToMember.2.1 63 = .ok (.iconst 1, 1) := by decide +kernel
theorem d_CA_isAlikeToMember_64 : decode M_CA_isAlikeToMember.2.1 64 = .ok (.iadd, 1) := by decide +kernel
theorem d_CA_isAlikeToMember_65 : decode M_CA_isAlikeToMember.2.1 65 = .ok (.iaload, 1) := by decide +kernel
theorem d_CA_isAlikeToMember_66 : decode M_CA_isAlikeToMember.2.1 66 = .ok (.istore 4, 2) := by decide +kernel
theorem d_CA_isAlikeToMember_68 : decode M_CA_isAlikeToMember.2.1 68 = .ok (.getstatic 33, 3) := by decide +kernel
theorem d_CA_isAlikeToMember_71 : decode M_CA_isAlikeToMember.2.1 71 = .ok (.iload_n 2, 1) := by decide +kernel
theorem d_CA_isAlikeToMember_72 : decode M_CA_isAlikeToMember.2.1 72 = .ok (.iconst 2, 1) := by decide +kernel
theorem d_CA_isAlikeToMember_73 : decode M_CA_isAlikeToMember.2.1 73 = .ok (.iadd, 1) := by decide +kernel
theorem d_CA_isAlikeToMember_74 : decode M_CA_isAlikeToMember.2.1 74 = .ok (.iaload, 1) := by decide +kernel
theorem d_CA_isAlikeToMember_75 : decode M_CA_isAlikeToMember.2.1 75 = .ok (.istore 5, 2) := by decide +kernel
theorem d_CA_isAlikeToMember_77 : decode M_CA_isAlikeToMember.2.1 77 = .ok (.iload_n 1, 1) := by decide +kernel
theorem d_CA_isAlikeToMember_78 : decode M_CA_isAlikeToMember.2.1 78 = .ok (.iload_n 3, 1) := by decide +kernel
theorem d_CA_isAlikeToMember_79 : decode M_CA_isAlikeToMember.2.1 79 = .ok (.if_icmp .eq 15, 3) := by decide +kernel
theorem d_CA_isAlikeToMember_82 : decode M_CA_isAlikeToMember.2.1 82 = .ok (.iload_n 1, 1) := by decide +kernel
theorem d_CA_isAlikeToMember_83 : decode M_CA_isAlikeToMember.2.1 83 = .ok (.iload 4, 2) := by decide +kernel
theorem d_CA_isAlikeToMember_85 : decode M_CA_isAlikeToMember.2.1 85 = .ok (.if_icmp .eq 9, 3) := by decide +kernel
theorem d_CA_isAlikeToMember_88 : decode M_CA_isAlikeToMember.2.1 88 = .ok (.iload_n 1, 1) := by decide +kernel
theorem d_CA_isAlikeToMember_89 : decode M_CA_isAlikeToMember.2.1 89 = .ok (.iload 5, 2) := by decide +kernel
theorem d_CA_isAlikeToMember_91 : decode M_CA_isAlikeToMember.2.1 91 = .ok (.if_icmp .ne 35, 3) := by decide +kernel
theorem d_CA_isAlikeToMember_94 : decode M_CA_isAlikeToMember.2.1 94 = .ok (.aload_n 0, 1) := by decide +kernel
theorem d_CA_isAlikeToMember_95 : decode M_CA_isAlikeToMember.2.1 95 = .ok (.iload_n 3, 1) := by decide +kernel
theorem d_CA_isAlikeToMember_96 : decode M_CA_isAlikeToMember.2.1 96 = .ok (.invokevirtual 30, 3) := by decide +kernel
theorem d_CA_isAlikeToMember_99 : decode M_CA_isAlikeToMember.2.1 99 = .ok (.ifCond .ne 21, 3) := by decide +kernel
theorem d_CA_isAlikeToMember_102 : decode M_CA_isAlikeToMember.2.1 102 = .ok (.aload_n 0, 1) := by decide +kernel
theorem d_CA_isAlikeToMember_103 : decode M_CA_isAlikeToMember.2.1 103 = .ok (.iload 4, 2) := by decide +kernel
theorem d_CA_isAlikeToMember_105 : decode M_CA_isAlikeToMember.2.1 105 = .ok (.invokevirtual 30, 3) := by decide +kernel
theorem d_CA_isAlikeToMember_108 : decode M_CA_isAlikeToMember.2.1 108 = .ok (.ifCond .ne 12, 3) := by decide +kernel
theorem d_CA_isAlikeToMember_111 : decode M_CA_isAlikeToMember.2.1 111 = .ok (.aload_n 0, 1) := by decide +kernel
theorem d_CA_isAlikeToMember_112 : decode M_CA_isAlikeToMember.2.1 112 = .ok (.iload 5, 2) := by decide +kernel
theorem d_CA_isAlikeToMember_114 : decode M_CA_isAlikeToMember.2.1 114 = .ok (.invokevirtual 30, 3) := by decide +kernel
theorem d_CA_isAlikeToMember_117 : decode M_CA_isAlikeToMember.2.1 117 = .ok (.ifCond .eq 7, 3) := by decide +kernel
theorem d_CA_isAlikeToMember_120 : decode M_CA_isAlikeToMember.2.1 120 = .ok (.iconst 1, 1) := by decide +kernel
theorem d_CA_isAlikeToMember_121 : decode M_CA_isAlikeToMember.2.1 121 = .ok (.goto 4, 3) := by decide +kernel
theorem d_CA_isAlikeToMember_124 : decode M_CA_isAlikeToMember.2.1 124 = .ok (.iconst 0, 1) := by decide +kernel
theorem d_CA_isAlikeToMember_125 : decode M_CA_isAlikeToMember.2.1 125 = .ok (.ireturn, 1) := by decide +kernel
theorem d_CA_isAlikeToMember_126 : decode M_CA_isAlikeToMember.2.1 126 = .ok (.iinc 2 3, 3) := by decide +kernel
theorem d_CA_isAlikeToMember_129 : decode M_CA_isAlikeToMember.2.1 129 = .ok (.goto (-86), 3) := by decide +kernel
theorem d_CA_isAlikeToMember_132 : decode M_CA_isAlikeToMember.2.1 132 = .ok (.iconst 0, 1) := by decide +kernel
theorem d_CA_isAlikeToMember_133 : decode M_CA_isAlikeToMember.2.1 133 = .ok (.ireturn, 1) := by decide +kernel
theorem d_CA_isLarge_0 : decode M_CA_isLarge.2.1 0 = .ok (.iconst 0, 1) := by decide +kernel
theorem d_CA_isLarge_1 : decode M_CA_isLarge.2.1 1 = .ok (.istore_n 1, 1) := by decide +kernel
theorem d_CA_isLarge_2 : decode M_CA_isLarge.2.1 2 = .ok (.iload_n 1, 1) := by decide +kernel
theorem d_CA_isLarge_3 : decode M_CA_isLarge.2.1 3 = .ok (.iconst 1, 1) := by decide +kernel
theorem d_CA_isLarge_4 : decode M_CA_isLarge.2.1 4 = .ok (.iadd, 1) := by decide +kernel
theorem d_CA_isLarge_5 : decode M_CA_isLarge.2.1 5 = .ok (.getstatic 36, 3) := by decide +kernel
theorem d_CA_isLarge_8 : decode M_CA_isLarge.2.1 8 = .ok (.arraylength, 1) := by decide +kernel
theorem d_CA_isLarge_9 : decode M_CA_isLarge.2.1 9 = .ok (.if_icmp .ge 31, 3) := by decide +kernel
theorem d_CA_isLarge_12 : decode M_CA_isLarge.2.1 12 = .ok (.iload_n 0, 1) := by decide +kernel
theorem d_CA_isLarge_13 : decode M_CA_isLarge.2.1 13 = .ok (.getstatic 36, 3) := by decide +kernel
theorem d_CA_isLarge_16 : decode M_CA_isLarge.2.1 16 = .ok (.iload_n 1, 1) := by decide +kernel
theorem d_CA_isLarge_17 : decode M_CA_isLarge.2.1 17 = .ok (.iaload, 1) := by decide +kernel
theorem d_CA_isLarge_18 : decode M_CA_isLarge.2.1 18 = .ok (.if_icmp .lt 16, 3) := by decide +kernel
theorem d_CA_isLarge_21 : decode M_CA_isLarge.2.1 21 = .ok (.iload_n 0, 1) := by decide +kernel
theorem d_CA_isLarge_22 : decode M_CA_isLarge.2.1 22 = .ok (.getstatic 36, 3) := by decide +kernel
theorem d_CA_isLarge_25 : decode M_CA_isLarge.2.1 25 = .ok (.iload_n 1, 1) := by decide +kernel
theorem d_CA_isLarge_26 : decode M_CA_isLarge.2.1 26 = .ok (.iconst 1, 1) := by decide +kernel
theorem d_CA_isLarge_27 : decode M_CA_isLarge.2.1 27 = .ok (.iadd, 1) := by decide +kernel
theorem d_CA_isLarge_28 : decode M_CA_isLarge.2.1 28 = .ok (.iaload, 1) := by decide +kernel
theorem d_CA_isLarge_29 : decode M_CA_isLarge.2.1 29 = .ok (.if_icmp .ge 5, 3) := by decide +kernel
theorem d_CA_isLarge_32 : decode M_CA_isLarge.2.1 32 = .ok (.iconst 1, 1) := by decide +kernel
theorem d_CA_isLarge_33 : decode M_CA_isLarge.2.1 33 = .ok (.ireturn, 1) := by decide +kernel
theorem d_CA_isLarge_34 : decode M_CA_isLarge.2.1 34 = .ok (.iinc 1 2, 3) := by decide +kernel
theorem d_CA_isLarge_37 : decode M_CA_isLarge.2.1 37 = .ok (.goto (-35), 3) := by decide +kernel
theorem d_CA_isLarge_40 : decode M_CA_isLarge.2.1 40 = .ok (.iconst 0, 1) := by decide +kernel
theorem d_CA_isLarge_41 : decode M_CA_isLarge.2.1 41 = .ok (.ireturn, 1) := by decide +kernel
theorem d_NS_numberOf_0 : decode M_NS_numberOf.2.1 0 = .ok (.iconst 0, 1) := by decide +kernel
theorem d_NS_numberOf_1 : decode M_NS_numberOf.2.1 1 = .ok (.istore_n 1, 1) := by decide +kernel
theorem d_NS_numberOf_2 : decode M_NS_numberOf.2.1 2 = .ok (.iload_n 1, 1) := by decide +kernel
theorem d_NS_numberOf_3 : decode M_NS_numberOf.2.1 3 = .ok (.bipush 10, 2) := by decide +kernel
theorem d_NS_numberOf_5 : decode M_NS_numberOf.2.1 5 = .ok (.if_icmp .ge 22, 3) := by decide +kernel
theorem d_NS_numberOf_8 : decode M_NS_numberOf.2.1 8 = .ok (.aload_n 0, 1) := by decide +kernel
theorem d_NS_numberOf_9 : decode M_NS_numberOf.2.1 9 = .ok (.iload_n 1, 1) := by decide +kernel
theorem d_NS_numberOf_10 : decode M_NS_numberOf.2.1 10 = .ok (.invokestatic 11, 3) := by decide +kernel
theorem d_NS_numberOf_13 : decode M_NS_numberOf.2.1 13 = .ok (.invokestatic 15, 3) := by decide +kernel
theorem d_NS_numberOf_16 : decode M_NS_numberOf.2.1 16 = .ok (.ifCond .eq 5, 3) := by decide +kernel
theorem d_NS_numberOf_19 : decode M_NS_numberOf.2.1 19 = .ok (.iload_n 1, 1) := by decide +kernel
theorem d_NS_numberOf_20 : decode M_NS_numberOf.2.1 20 = .ok (.ireturn, 1) := by decide +kernel
theorem d_NS_numberOf_21 : decode M_NS_numberOf.2.1 21 = .ok (.iinc 1 1, 3) := by decide +kernel
theorem d_NS_numberOf_24 : decode M_NS_numberOf.2.1 24 = .ok (.goto (-22), 3) := by decide +kernel
theorem d_NS_numberOf_27 : decode M_NS_numberOf.2.1 27 = .ok (.iconst (-1), 1) := by decide +kernel
theorem d_NS_numberOf_28 : decode M_NS_numberOf.2.1 28 = .ok (.ireturn, 1) := by decide +kernel
theorem d_NS_isSame_0 : decode M_NS_isSame.2.1 0 = .ok (.aload_n 0, 1) := by decide +kernel
theorem d_NS_isSame_1 : decode M_NS_isSame.2.1 1 = .ok (.getfield 19, 3) := by decide +kernel
theorem d_NS_isSame_4 : decode M_NS_isSame.2.1 4 = .ok (.aload_n 1, 1) := by decide +kernel
theorem d_NS_isSame_5 : decode M_NS_isSame.2.1 5 = .ok (.invokevirtual 25, 3) := by decide +kernel
theorem d_NS_isSame_8 : decode M_NS_isSame.2.1 8 = .ok (.if_icmp .eq 5, 3) := by decide +kernel
theorem d_NS_isSame_11 : decode M_NS_isSame.2.1 11 = .ok (.iconst 0, 1) := by decide +kernel
theorem d_NS_isSame_12 : decode M_NS_isSame.2.1 12 = .ok (.ireturn, 1) := by decide +kernel
theorem d_NS_isSame_13 : decode M_NS_isSame.2.1 13 = .ok (.iconst 0, 1) := by decide +kernel
theorem d_NS_isSame_14 : decode M_NS_isSame.2.1 14 = .ok (.istore_n 2, 1) := by decide +kernel
theorem d_NS_isSame_15 : decode M_NS_isSame.2.1 15 = .ok (.iload_n 2, 1) := by decide +kernel
theorem d_NS_isSame_16 : decode M_NS_isSame.2.1 16 = .ok (.aload_n 0, 1) := by decide +kernel
theorem d_NS_isSame_17 : decode M_NS_isSame.2.1 17 = .ok (.getfield 19, 3) := by decide +kernel
theorem d_NS_isSame_20 : decode M_NS_isSame.2.1 20 = .ok (.if_icmp .ge 25, 3) := by decide +kernel
theorem d_NS_isSame_23 : decode M_NS_isSame.2.1 23 = .ok (.aload_n 0, 1) := by decide +kernel
theorem d_NS_isSame_24 : decode M_NS_isSame.2.1 24 = .ok (.getfield 31, 3) := by decide +kernel
theorem d_NS_isSame_27 : decode M_NS_isSame.2.1 27 = .ok (.iload_n 2, 1) := by decide +kernel
theorem d_NS_isSame_28 : decode M_NS_isSame.2.1 28 = .ok (.iaload, 1) := by decide +kernel
theorem d_NS_isSame_29 : decode M_NS_isSame.2.1 29 = .ok (.aload_n 1, 1) := by decide +kernel
theorem d_NS_isSame_30 : decode M_NS_isSame.2.1 30 = .ok (.iload_n 2, 1) := by decide +kernel
theorem d_NS_isSame_31 : decode M_NS_isSame.2.1 31 = .ok (.invokevirtual 35, 3) := by decide +kernel
theorem d_NS_isSame_34 : decode M_NS_isSame.2.1 34 = .ok (.if_icmp .eq 5, 3) := by decide +kernel
theorem d_NS_isSame_37 : decode M_NS_isSame.2.1 37 = .ok (.iconst 0, 1) := by decide +kernel
theorem d_NS_isSame_38 : decode M_NS_isSame.2.1 38 = .ok (.ireturn, 1) := by decide +kernel
theorem d_NS_isSame_39 : decode M_NS_isSame.2.1 39 = .ok (.iinc 2 1, 3) := by decide +kernel
theorem d_NS_isSame_42 : decode M_NS_isSame.2.1 42 = .ok (.goto (-27), 3) := by decide +kernel
theorem d_NS_isSame_45 : decode M_NS_isSame.2.1 45 = .ok (.iconst 1, 1) := by decide +kernel
theorem d_NS_isSame_46 : decode M_NS_isSame.2.1 46 = .ok (.ireturn, 1) := by decide +kernel
theorem d_NS_nameOf_0 : decode M_NS_nameOf.2.1 0 = .ok (.iload_n 0, 1) := by decide +kernel
theorem d_NS_nameOf_1 : decode M_NS_nameOf.2.1 1 = .ok (.tableswitch 78 0 8 #[51, 54, 57, 60, 63, 66, 69, 72, 75], 51) := by decide +kernel
theorem d_NS_nameOf_52 : decode M_NS_nameOf.2.1 52 = .ok (.ldc 39, 2) := by decide +kernel
theorem d_NS_nameOf_54 : decode M_NS_nameOf.2.1 54 = .ok (.areturn, 1) := by decide +kernel
theorem d_NS_nameOf_55 : decode M_NS_nameOf.2.1 55 = .ok (.ldc 41, 2) := by decide +kernel
theorem d_NS_nameOf_57 : decode M_NS_nameOf.2.1 57 = .ok (.areturn, 1) := by decide +kernel
theorem d_NS_nameOf_58 : decode M_NS_nameOf.2.1 58 = .ok (.ldc 43, 2) := by decide +kernel
theorem d_NS_nameOf_60 : decode M_NS_nameOf.2.1 60 = .ok (.areturn, 1) := by decide +kernel
theorem d_NS_nameOf_61 : decode M_NS_nameOf.2.1 61 = .ok (.ldc 45, 2) := by decide +kernel
theorem d_NS_nameOf_63 : decode M_NS_nameOf.2.1 63 = .ok (.areturn, 1) := by decide +kernel
theorem d_NS_nameOf_64 : decode M_NS_nameOf.2.1 64 = .ok (.ldc 47, 2) := by decide +kernel
theorem d_NS_nameOf_66 : decode M_NS_nameOf.2.1 66 = .ok (.areturn, 1) := by decide +kernel
theorem d_NS_nameOf_67 : decode M_NS_nameOf.2.1 67 = .ok (.ldc 49, 2) := by decide +kernel
theorem d_NS_nameOf_69 : decode M_NS_nameOf.2.1 69 = .ok (.areturn, 1) := by decide +kernel
theorem d_NS_nameOf_70 : decode M_NS_nameOf.2.1 70 = .ok (.ldc 51, 2) := by decide +kernel
theorem d_NS_nameOf_72 : decode M_NS_nameOf.2.1 72 = .ok (.areturn, 1) := by decide +kernel
theorem d_NS_nameOf_73 : decode M_NS_nameOf.2.1 73 = .ok (.ldc 53, 2) := by decide +kernel
theorem d_NS_nameOf_75 : decode M_NS_nameOf.2.1 75 = .ok (.areturn, 1) := by decide +kernel
theorem d_NS_nameOf_76 : decode M_NS_nameOf.2.1 76 = .ok (.ldc 55, 2) := by decide +kernel
theorem d_NS_nameOf_78 : decode M_NS_nameOf.2.1 78 = .ok (.areturn, 1) := by decide +kernel
theorem d_NS_nameOf_79 : decode M_NS_nameOf.2.1 79 = .ok (.ldc 57, 2) := by decide +kernel
theorem d_NS_nameOf_81 : decode M_NS_nameOf.2.1 81 = .ok (.areturn, 1) := by decide +kernel
theorem d_NS_edgesOf_0 : decode M_NS_edgesOf.2.1 0 = .ok (.iload_n 0, 1) := by decide +kernel
theorem d_NS_edgesOf_1 : decode M_NS_edgesOf.2.1 1 = .ok (.tableswitch 87 0 8 #[51, 55, 59, 63, 67, 71, 75, 79, 83], 51) := by decide +kernel
theorem d_NS_edgesOf_52 : decode M_NS_edgesOf.2.1 52 = .ok (.getstatic 59, 3) := by decide +kernel
theorem d_NS_edgesOf_55 : decode M_NS_edgesOf.2.1 55 = .ok (.areturn, 1) := by decide +kernel
theorem d_NS_edgesOf_56 : decode M_NS_edgesOf.2.1 56 = .ok (.getstatic 62, 3) := by decide +kernel
theorem d_NS_edgesOf_59 : decode M_NS_edgesOf.2.1 59 = .ok (.areturn, 1) := by decide +kernel
theorem d_NS_edgesOf_60 : decode M_NS_edgesOf.2.1 60 = .ok (.getstatic 65, 3) := by decide +kernel
theorem d_NS_edgesOf_63 : decode M_NS_edgesOf.2.1 63 = .ok (.areturn, 1) := by decide +kernel
theorem d_NS_edgesOf_64 : decode M_NS_edgesOf.2.1 64 = .ok (.getstatic 68, 3) := by decide +kernel
theorem d_NS_edgesOf_67 : decode M_NS_edgesOf.2.1 67 = .ok (.areturn, 1) := by decide +kernel
theorem d_NS_edgesOf_68 : decode M_NS_edgesOf.2.1 68 = .ok (.getstatic 71, 3) := by decide +kernel
theorem d_NS_edgesOf_71 : decode M_NS_edgesOf.2.1 71 = .ok (.areturn, 1) := by decide +kernel
theorem d_NS_edgesOf_72 : decode M_NS_edgesOf.2.1 72 = .ok (.getstatic 74, 3) := by decide +kernel
theorem d_NS_edgesOf_75 : decode M_NS_edgesOf.2.1 75 = .ok (.areturn, 1) := by decide +kernel
theorem d_NS_edgesOf_76 : decode M_NS_edgesOf.2.1 76 = .ok (.getstatic 77, 3) := by decide +kernel
theorem d_NS_edgesOf_79 : decode M_NS_edgesOf.2.1 79 = .ok (.areturn, 1) := by decide +kernel
theorem d_NS_edgesOf_80 : decode M_NS_edgesOf.2.1 80 = .ok (.getstatic 80, 3) := by decide +kernel
theorem d_NS_edgesOf_83 : decode M_NS_edgesOf.2.1 83 = .ok (.areturn, 1) := by decide +kernel
theorem d_NS_edgesOf_84 : decode M_NS_edgesOf.2.1 84 = .ok (.getstatic 83, 3) := by decide +kernel
theorem d_NS_edgesOf_87 : decode M_NS_edgesOf.2.1 87 = .ok (.areturn, 1) := by decide +kernel
theorem d_NS_edgesOf_88 : decode M_NS_edgesOf.2.1 88 = .ok (.getstatic 86, 3) := by decide +kernel
theorem d_NS_edgesOf_91 : decode M_NS_edgesOf.2.1 91 = .ok (.areturn, 1) := by decide +kernel
theorem d_OB_init_0 : decode M_OB_init.2.1 0 = .ok (.aload_n 0, 1) := by decide +kernel
theorem d_OB_init_1 : decode M_OB_init.2.1 1 = .ok (.invokespecial 3, 3) := by decide +kernel
theorem d_OB_init_4 : decode M_OB_init.2.1 4 = .ok (.aload_n 0, 1) := by decide +kernel
theorem d_OB_init_5 : decode M_OB_init.2.1 5 = .ok (.new 9, 3) := by decide +kernel
theorem d_OB_init_8 : decode M_OB_init.2.1 8 = .ok (.dup, 1) := by decide +kernel
theorem d_OB_init_9 : decode M_OB_init.2.1 9 = .ok (.invokespecial 11, 3) := by decide +kernel
theorem d_OB_init_12 : decode M_OB_init.2.1 12 = .ok (.putfield 12, 3) := by decide +kernel
theorem d_OB_init_15 : decode M_OB_init.2.1 15 = .ok (.return_, 1) := by decide +kernel
theorem d_OB_begin_0 : decode M_OB_begin.2.1 0 = .ok (.aload_n 0, 1) := by decide +kernel
theorem d_OB_begin_1 : decode M_OB_begin.2.1 1 = .ok (.getfield 12, 3) := by decide +kernel
theorem d_OB_begin_4 : decode M_OB_begin.2.1 4 = .ok (.invokevirtual 18, 3) := by decide +kernel
theorem d_OB_begin_7 : decode M_OB_begin.2.1 7 = .ok (.aload_n 0, 1) := by decide +kernel
theorem d_OB_begin_8 : decode M_OB_begin.2.1 8 = .ok (.iload_n 1, 1) := by decide +kernel
theorem d_OB_begin_9 : decode M_OB_begin.2.1 9 = .ok (.putfield 21, 3) := by decide +kernel
theorem d_OB_begin_12 : decode M_OB_begin.2.1 12 = .ok (.aload_n 0, 1) := by decide +kernel
theorem d_OB_begin_13 : decode M_OB_begin.2.1 13 = .ok (.iconst 0, 1) := by decide +kernel
theorem d_OB_begin_14 : decode M_OB_begin.2.1 14 = .ok (.putfield 25, 3) := by decide +kernel
theorem d_OB_begin_17 : decode M_OB_begin.2.1 17 = .ok (.aload_n 0, 1) := by decide +kernel
theorem d_OB_begin_18 : decode M_OB_begin.2.1 18 = .ok (.iconst 0, 1) := by decide +kernel
theorem d_OB_begin_19 : decode M_OB_begin.2.1 19 = .ok (.putfield 29, 3) := by decide +kernel
theorem d_OB_begin_22 : decode M_OB_begin.2.1 22 = .ok (.aload_n 0, 1) := by decide +kernel
theorem d_OB_begin_23 : decode M_OB_begin.2.1 23 = .ok (.iconst 0, 1) := by decide +kernel
theorem d_OB_begin_24 : decode M_OB_begin.2.1 24 = .ok (.putfield 32, 3) := by decide +kernel
theorem d_OB_begin_27 : decode M_OB_begin.2.1 27 = .ok (.return_, 1) := by decide +kernel
theorem d_PW_init_0 : decode M_PW_init.2.1 0 = .ok (.aload_n 0, 1) := by decide +kernel
theorem d_PW_init_1 : decode M_PW_init.2.1 1 = .ok (.invokespecial 3, 3) := by decide +kernel
theorem d_PW_init_4 : decode M_PW_init.2.1 4 = .ok (.aload_n 0, 1) := by decide +kernel
theorem d_PW_init_5 : decode M_PW_init.2.1 5 = .ok (.new 9, 3) := by decide +kernel
theorem d_PW_init_8 : decode M_PW_init.2.1 8 = .ok (.dup, 1) := by decide +kernel
theorem d_PW_init_9 : decode M_PW_init.2.1 9 = .ok (.invokespecial 11, 3) := by decide +kernel
theorem d_PW_init_12 : decode M_PW_init.2.1 12 = .ok (.putfield 12, 3) := by decide +kernel
theorem d_PW_init_15 : decode M_PW_init.2.1 15 = .ok (.return_, 1) := by decide +kernel
theorem d_PW_writePattern_0 : decode M_PW_writePattern.2.1 0 = .ok (.aload_n 0, 1) := by decide +kernel
theorem d_PW_writePattern_1 : decode M_PW_writePattern.2.1 1 = .ok (.getfield 12, 3) := by decide +kernel
theorem d_PW_writePattern_4 : decode M_PW_writePattern.2.1 4 = .ok (.invokevirtual 18, 3) := by decide +kernel
theorem d_PW_writePattern_7 : decode M_PW_writePattern.2.1 7 = .ok (.aload_n 0, 1) := by decide +kernel
theorem d_PW_writePattern_8 : decode M_PW_writePattern.2.1 8 = .ok (.iconst 1, 1) := by decide +kernel
theorem d_PW_writePattern_9 : decode M_PW_writePattern.2.1 9 = .ok (.putfield 21, 3) := by decide +kernel
theorem d_PW_writePattern_12 : decode M_PW_writePattern.2.1 12 = .ok (.aload_n 0, 1) := by decide +kernel
theorem d_PW_writePattern_13 : decode M_PW_writePattern.2.1 13 = .ok (.bipush 91, 2) := by decide +kernel
theorem d_PW_writePattern_15 : decode M_PW_writePattern.2.1 15 = .ok (.invokevirtual 25, 3) := by decide +kernel
theorem d_PW_writePattern_18 : decode M_PW_writePattern.2.1 18 = .ok (.iconst 0, 1) := by decide +kernel
theorem d_PW_writePattern_19 : decode M_PW_writePattern.2.1 19 = .ok (.istore_n 2, 1) := by decide +kernel
theorem d_PW_writePattern_20 : decode M_PW_writePattern.2.1 20 = .ok (.iload_n 2, 1) := by decide +kernel
theorem d_PW_writePattern_21 : decode M_PW_writePattern.2.1 21 = .ok (.iconst 1, 1) := by decide +kernel
theorem d_PW_writePattern_22 : decode M_PW_writePattern.2.1 22 = .ok (.iadd, 1) := by decide +kernel
theorem d_PW_writePattern_23 : decode M_PW_writePattern.2.1 23 = .ok (.aload_n 1, 1) := by decide +kernel
theorem d_PW_writePattern_24 : decode M_PW_writePattern.2.1 24 = .ok (.getfield 29, 3) := by decide +kernel
theorem d_PW_writePattern_27 : decode M_PW_writePattern.2.1 27 = .ok (.if_icmp .ge 36, 3) := by decide +kernel
theorem d_PW_writePattern_30 : decode M_PW_writePattern.2.1 30 = .ok (.aload_n 0, 1) := by decide +kernel
theorem d_PW_writePattern_31 : decode M_PW_writePattern.2.1 31 = .ok (.getfield 21, 3) := by decide +kernel
theorem d_PW_writePattern_34 : decode M_PW_writePattern.2.1 34 = .ok (.ifCond .eq 29, 3) := by decide +kernel
theorem d_PW_writePattern_37 : decode M_PW_writePattern.2.1 37 = .ok (.aload_n 0, 1) := by decide +kernel
theorem d_PW_writePattern_38 : decode M_PW_writePattern.2.1 38 = .ok (.aload_n 1, 1) := by decide +kernel
theorem d_PW_writePattern_39 : decode M_PW_writePattern.2.1 39 = .ok (.getfield 35, 3) := by decide +kernel
theorem d_PW_writePattern_42 : decode M_PW_writePattern.2.1 42 = .ok (.iload_n 2, 1) := by decide +kernel
theorem d_PW_writePattern_43 : decode M_PW_writePattern.2.1 43 = .ok (.iaload, 1) := by decide +kernel
theorem d_PW_writePattern_44 : decode M_PW_writePattern.2.1 44 = .ok (.aload_n 1, 1) := by decide +kernel
theorem d_PW_writePattern_45 : decode M_PW_writePattern.2.1 45 = .ok (.getfield 35, 3) := by decide +kernel
theorem d_PW_writePattern_48 : decode M_PW_writePattern.2.1 48 = .ok (.iload_n 2, 1) := by decide +kernel
theorem d_PW_writePattern_49 : decode M_PW_writePattern.2.1 49 = .ok (.iconst 1, 1) := by decide +kernel
theorem d_PW_writePattern_50 : decode M_PW_writePattern.2.1 50 = .ok (.iadd, 1) := by decide +kernel
theorem d_PW_writePattern_51 : decode M_PW_writePattern.2.1 51 = .ok (.iaload, 1) := by decide +kernel
theorem d_PW_writePattern_52 : decode M_PW_writePattern.2.1 52 = .ok (.iconst 1, 1) := by decide +kernel
theorem d_PW_writePattern_53 : decode M_PW_writePattern.2.1 53 = .ok (.isub, 1) := by decide +kernel
theorem d_PW_writePattern_54 : decode M_PW_writePattern.2.1 54 = .ok (.invokevirtual 39, 3) := by decide +kernel
theorem d_PW_writePattern_57 : decode M_PW_writePattern.2.1 57 = .ok (.iinc 2 2, 3) := by decide +kernel
theorem d_PW_writePattern_60 : decode M_PW_writePattern.2.1 60 = .ok (.goto (-40), 3) := by decide +kernel
theorem d_PW_writePattern_63 : decode M_PW_writePattern.2.1 63 = .ok (.iconst 0, 1) := by decide +kernel
theorem d_PW_writePattern_64 : decode M_PW_writePattern.2.1 64 = .ok (.istore_n 2, 1) := by decide +kernel
theorem d_PW_writePattern_65 : decode M_PW_writePattern.2.1 65 = .ok (.iload_n 2, 1) := by decide +kernel
theorem d_PW_writePattern_66 : decode M_PW_writePattern.2.1 66 = .ok (.aload_n 1, 1) := by decide +kernel
theorem d_PW_writePattern_67 : decode M_PW_writePattern.2.1 67 = .ok (.getfield 43, 3) := by decide +kernel
theorem d_PW_writePattern_70 : decode M_PW_writePattern.2.1 70 = .ok (.if_icmp .ge 26, 3) := by decide +kernel
theorem d_PW_writePattern_73 : decode M_PW_writePattern.2.1 73 = .ok (.aload_n 0, 1) := by decide +kernel
theorem d_PW_writePattern_74 : decode M_PW_writePattern.2.1 74 = .ok (.getfield 21, 3) := by decide +kernel
theorem d_PW_writePattern_77 : decode M_PW_writePattern.2.1 77 = .ok (.ifCond .eq 19, 3) := by decide +kernel
theorem d_PW_writePattern_80 : decode M_PW_writePattern.2.1 80 = .ok (.aload_n 0, 1) := by decide +kernel
theorem d_PW_writePattern_81 : decode M_PW_writePattern.2.1 81 = .ok (.aload_n 1, 1) := by decide +kernel
theorem d_PW_writePattern_82 : decode M_PW_writePattern.2.1 82 = .ok (.getfield 46, 3) := by decide +kernel
theorem d_PW_writePattern_85 : decode M_PW_writePattern.2.1 85 = .ok (.iload_n 2, 1) := by decide +kernel
theorem d_PW_writePattern_86 : decode M_PW_writePattern.2.1 86 = .ok (.laload, 1) := by decide +kernel
theorem d_PW_writePattern_87 : decode M_PW_writePattern.2.1 87 = .ok (.invokevirtual 50, 3) := by decide +kernel
theorem d_PW_writePattern_90 : decode M_PW_writePattern.2.1 90 = .ok (.iinc 2 1, 3) := by decide +kernel
theorem d_PW_writePattern_93 : decode M_PW_writePattern.2.1 93 = .ok (.goto (-28), 3) := by decide +kernel
theorem d_PW_writePattern_96 : decode M_PW_writePattern.2.1 96 = .ok (.aload_n 0, 1) := by decide +kernel
theorem d_PW_writePattern_97 : decode M_PW_writePattern.2.1 97 = .ok (.bipush 93, 2) := by decide +kernel
theorem d_PW_writePattern_99 : decode M_PW_writePattern.2.1 99 = .ok (.invokevirtual 25, 3) := by decide +kernel
theorem d_PW_writePattern_102 : decode M_PW_writePattern.2.1 102 = .ok (.aload_n 0, 1) := by decide +kernel
theorem d_PW_writePattern_103 : decode M_PW_writePattern.2.1 103 = .ok (.getfield 21, 3) := by decide +kernel
theorem d_PW_writePattern_106 : decode M_PW_writePattern.2.1 106 = .ok (.ireturn, 1) := by decide +kernel
theorem d_PW_writeRange_0 : decode M_PW_writeRange.2.1 0 = .ok (.aload_n 0, 1) := by decide +kernel
theorem d_PW_writeRange_1 : decode M_PW_writeRange.2.1 1 = .ok (.iload_n 1, 1) := by decide +kernel
theorem d_PW_writeRange_2 : decode M_PW_writeRange.2.1 2 = .ok (.invokevirtual 54, 3) := by decide +kernel
theorem d_PW_writeRange_5 : decode M_PW_writeRange.2.1 5 = .ok (.iload_n 2, 1) := by decide +kernel
theorem d_PW_writeRange_6 : decode M_PW_writeRange.2.1 6 = .ok (.iload_n 1, 1) := by decide +kernel
theorem d_PW_writeRange_7 : decode M_PW_writeRange.2.1 7 = .ok (.if_icmp .ne 4, 3) := by decide +kernel
theorem d_PW_writeRange_10 : decode M_PW_writeRange.2.1 10 = .ok (.return_, 1) := by decide +kernel
theorem d_PW_writeRange_11 : decode M_PW_writeRange.2.1 11 = .ok (.iload_n 2, 1) := by decide +kernel
theorem d_PW_writeRange_12 : decode M_PW_writeRange.2.1 12 = .ok (.iload_n 1, 1) := by decide +kernel
theorem d_PW_writeRange_13 : decode M_PW_writeRange.2.1 13 = .ok (.iconst 1, 1) := by decide +kernel
theorem d_PW_writeRange_14 : decode M_PW_writeRange.2.1 14 = .ok (.iadd, 1) := by decide +kernel
theorem d_PW_writeRange_15 : decode M_PW_writeRange.2.1 15 = .ok (.if_icmp .le 9, 3) := by decide +kernel
theorem d_PW_writeRange_18 : decode M_PW_writeRange.2.1 18 = .ok (.aload_n 0, 1) := by decide +kernel
theorem d_PW_writeRange_19 : decode M_PW_writeRange.2.1 19 = .ok (.bipush 45, 2) := by decide +kernel
theorem d_PW_writeRange_21 : decode M_PW_writeRange.2.1 21 = .ok (.invokevirtual 25, 3) := by decide +kernel
theorem d_PW_writeRange_24 : decode M_PW_writeRange.2.1 24 = .ok (.aload_n 0, 1) := by decide +kernel
theorem d_PW_writeRange_25 : decode M_PW_writeRange.2.1 25 = .ok (.iload_n 2, 1) := by decide +kernel
theorem d_PW_writeRange_26 : decode M_PW_writeRange.2.1 26 = .ok (.invokevirtual 54, 3) := by decide +kernel
theorem d_PW_writeRange_29 : decode M_PW_writeRange.2.1 29 = .ok (.return_, 1) := by decide +kernel
theorem d_PW_writeString_0 : decode M_PW_writeString.2.1 0 = .ok (.aload_n 0, 1) := by decide +kernel
theorem d_PW_writeString_1 : decode M_PW_writeString.2.1 1 = .ok (.bipush 123, 2) := by decide +kernel
theorem d_PW_writeString_3 : decode M_PW_writeString.2.1 3 = .ok (.invokevirtual 25, 3) := by decide +kernel
theorem d_PW_writeString_6 : decode M_PW_writeString.2.1 6 = .ok (.iconst 0, 1) := by decide +kernel
theorem d_PW_writeString_7 : decode M_PW_writeString.2.1 7 = .ok (.istore_n 3, 1) := by decide +kernel
theorem d_PW_writeString_8 : decode M_PW_writeString.2.1 8 = .ok (.iload_n 3, 1) := by decide +kernel
theorem d_PW_writeString_9 : decode M_PW_writeString.2.1 9 = .ok (.iconst 3, 1) := by decide +kernel
theorem d_PW_writeString_10 : decode M_PW_writeString.2.1 10 = .ok (.if_icmp .ge 28, 3) := by decide +kernel
theorem d_PW_writeString_13 : decode M_PW_writeString.2.1 13 = .ok (.lload_n 1, 1) := by decide +kernel
theorem d_PW_writeString_14 : decode M_PW_writeString.2.1 14 = .ok (.iload_n 3, 1) := by decide +kernel
theorem d_PW_writeString_15 : decode M_PW_writeString.2.1 15 = .ok (.invokestatic 57, 3) := by decide +kernel
theorem d_PW_writeString_18 : decode M_PW_writeString.2.1 18 = .ok (.istore 4, 2) := by decide +kernel
theorem d_PW_writeString_20 : decode M_PW_writeString.2.1 20 = .ok (.iload 4, 2) := by decide +kernel
theorem d_PW_writeString_22 : decode M_PW_writeString.2.1 22 = .ok (.iconst (-1), 1) := by decide +kernel
theorem d_PW_writeString_23 : decode M_PW_writeString.2.1 23 = .ok (.if_icmp .eq 9, 3) := by decide +kernel
theorem d_PW_writeString_26 : decode M_PW_writeString.2.1 26 = .ok (.aload_n 0, 1) := by decide +kernel
theorem d_PW_writeString_27 : decode M_PW_writeString.2.1 27 = .ok (.iload 4, 2) := by decide +kernel
theorem d_PW_writeString_29 : decode M_PW_writeString.2.1 29 = .ok (.invokevirtual 54, 3) := by decide +kernel
theorem d_PW_writeString_32 : decode M_PW_writeString.2.1 32 = .ok (.iinc 3 1, 3) := by decide +kernel
theorem d_PW_writeString_35 : decode M_PW_writeString.2.1 35 = .ok (.goto (-27), 3) := by decide +kernel
theorem d_PW_writeString_38 : decode M_PW_writeString.2.1 38 = .ok (.aload_n 0, 1) := by decide +kernel
theorem d_PW_writeString_39 : decode M_PW_writeString.2.1 39 = .ok (.bipush 125, 2) := by decide +kernel
theorem d_PW_writeString_41 : decode M_PW_writeString.2.1 41 = .ok (.invokevirtual 25, 3) := by decide +kernel
theorem d_PW_writeString_44 : decode M_PW_writeString.2.1 44 = .ok (.return_, 1) := by decide +kernel
theorem d_PW_writeCode_0 : decode M_PW_writeCode.2.1 0 = .ok (.iload_n 1, 1) := by decide +kernel
theorem d_PW_writeCode_1 : decode M_PW_writeCode.2.1 1 = .ok (.bipush 33, 2) := by decide +kernel
theorem d_PW_writeCode_3 : decode M_PW_writeCode.2.1 3 = .ok (.if_icmp .lt 9, 3) := by decide +kernel
theorem d_PW_writeCode_6 : decode M_PW_writeCode.2.1 6 = .ok (.iload_n 1, 1) := by decide +kernel
theorem d_PW_writeCode_7 : decode M_PW_writeCode.2.1 7 = .ok (.bipush 126, 2) := by decide +kernel
theorem d_PW_writeCode_9 : decode M_PW_writeCode.2.1 9 = .ok (.if_icmp .le 9, 3) := by decide +kernel
theorem d_PW_writeCode_12 : decode M_PW_writeCode.2.1 12 = .ok (.aload_n 0, 1) := by decide +kernel
theorem d_PW_writeCode_13 : decode M_PW_writeCode.2.1 13 = .ok (.iload_n 1, 1) := by decide +kernel
theorem d_PW_writeCode_14 : decode M_PW_writeCode.2.1 14 = .ok (.invokevirtual 61, 3) := by decide +kernel
theorem d_PW_writeCode_17 : decode M_PW_writeCode.2.1 17 = .ok (.return_, 1) := by decide +kernel
theorem d_PW_writeCode_18 : decode M_PW_writeCode.2.1 18 = .ok (.iload_n 1, 1) := by decide +kernel
theorem d_PW_writeCode_19 : decode M_PW_writeCode.2.1 19 = .ok (.invokestatic 64, 3) := by decide +kernel
theorem d_PW_writeCode_22 : decode M_PW_writeCode.2.1 22 = .ok (.ifCond .eq 9, 3) := by decide +kernel
theorem d_PW_writeCode_25 : decode M_PW_writeCode.2.1 25 = .ok (.aload_n 0, 1) := by decide +kernel
theorem d_PW_writeCode_26 : decode M_PW_writeCode.2.1 26 = .ok (.bipush 92, 2) := by decide +kernel
theorem d_PW_writeCode_28 : decode M_PW_writeCode.2.1 28 = .ok (.invokevirtual 25, 3) := by decide +kernel
theorem d_PW_writeCode_31 : decode M_PW_writeCode.2.1 31 = .ok (.aload_n 0, 1) := by decide +kernel
theorem d_PW_writeCode_32 : decode M_PW_writeCode.2.1 32 = .ok (.iload_n 1, 1) := by decide +kernel
theorem d_PW_writeCode_33 : decode M_PW_writeCode.2.1 33 = .ok (.invokevirtual 25, 3) := by decide +kernel
theorem d_PW_writeCode_36 : decode M_PW_writeCode.2.1 36 = .ok (.return_, 1) := by decide +kernel
theorem d_PW_writeHex_0 : decode M_PW_writeHex.2.1 0 = .ok (.aload_n 0, 1) := by decide +kernel
theorem d_PW_writeHex_1 : decode M_PW_writeHex.2.1 1 = .ok (.bipush 92, 2) := by decide +kernel
theorem d_PW_writeHex_3 : decode M_PW_writeHex.2.1 3 = .ok (.invokevirtual 25, 3) := by decide +kernel
theorem d_PW_writeHex_6 : decode M_PW_writeHex.2.1 6 = .ok (.aload_n 0, 1) := by decide +kernel
theorem d_PW_writeHex_7 : decode M_PW_writeHex.2.1 7 = .ok (.bipush 120, 2) := by decide +kernel
theorem d_PW_writeHex_9 : decode M_PW_writeHex.2.1 9 = .ok (.invokevirtual 25, 3) := by decide +kernel
theorem d_PW_writeHex_12 : decode M_PW_writeHex.2.1 12 = .ok (.aload_n 0, 1) := by decide +kernel
theorem d_PW_writeHex_13 : decode M_PW_writeHex.2.1 13 = .ok (.bipush 123, 2) := by decide +kernel
theorem d_PW_writeHex_15 : decode M_PW_writeHex.2.1 15 = .ok (.invokevirtual 25, 3) := by decide +kernel
theorem d_PW_writeHex_18 : decode M_PW_writeHex.2.1 18 = .ok (.bipush 20, 2) := by decide +kernel
theorem d_PW_writeHex_20 : decode M_PW_writeHex.2.1 20 = .ok (.istore_n 2, 1) := by decide +kernel
theorem d_PW_writeHex_21 : decode M_PW_writeHex.2.1 21 = .ok (.iload_n 2, 1) := by decide +kernel
theorem d_PW_writeHex_22 : decode M_PW_writeHex.2.1 22 = .ok (.ifCond .lt 50, 3) := by decide +kernel
theorem d_PW_writeHex_25 : decode M_PW_writeHex.2.1 25 = .ok (.iload_n 1, 1) := by decide +kernel
theorem d_PW_writeHex_26 : decode M_PW_writeHex.2.1 26 = .ok (.iload_n 2, 1) := by decide +kernel
theorem d_PW_writeHex_27 : decode M_PW_writeHex.2.1 27 = .ok (.ishr, 1) := by decide +kernel
theorem d_PW_writeHex_28 : decode M_PW_writeHex.2.1 28 = .ok (.ifCond .ne 7, 3) := by decide +kernel
theorem d_PW_writeHex_31 : decode M_PW_writeHex.2.1 31 = .ok (.iload_n 2, 1) := by decide +kernel
theorem d_PW_writeHex_32 : decode M_PW_writeHex.2.1 32 = .ok (.ifCond .ne 34, 3) := by decide +kernel
theorem d_PW_writeHex_35 : decode M_PW_writeHex.2.1 35 = .ok (.iload_n 1, 1) := by decide +kernel
theorem d_PW_writeHex_36 : decode M_PW_writeHex.2.1 36 = .ok (.iload_n 2, 1) := by decide +kernel
theorem d_PW_writeHex_37 : decode M_PW_writeHex.2.1 37 = .ok (.ishr, 1) := by decide +kernel
theorem d_PW_writeHex_38 : decode M_PW_writeHex.2.1 38 = .ok (.bipush 15, 2) := by decide +kernel
theorem d_PW_writeHex_40 : decode M_PW_writeHex.2.1 40 = .ok (.iand, 1) := by decide +kernel
theorem d_PW_writeHex_41 : decode M_PW_writeHex.2.1 41 = .ok (.istore_n 3, 1) := by decide +kernel
theorem d_PW_writeHex_42 : decode M_PW_writeHex.2.1 42 = .ok (.aload_n 0, 1) := by decide +kernel
theorem d_PW_writeHex_43 : decode M_PW_writeHex.2.1 43 = .ok (.iload_n 3, 1) := by decide +kernel
theorem d_PW_writeHex_44 : decode M_PW_writeHex.2.1 44 = .ok (.bipush 10, 2) := by decide +kernel
theorem d_PW_writeHex_46 : decode M_PW_writeHex.2.1 46 = .ok (.if_icmp .ge 10, 3) := by decide +kernel
theorem d_PW_writeHex_49 : decode M_PW_writeHex.2.1 49 = .ok (.bipush 48, 2) := by decide +kernel
theorem d_PW_writeHex_51 : decode M_PW_writeHex.2.1 51 = .ok (.iload_n 3, 1) := by decide +kernel
theorem d_PW_writeHex_52 : decode M_PW_writeHex.2.1 52 = .ok (.iadd, 1) := by decide +kernel
theorem d_PW_writeHex_53 : decode M_PW_writeHex.2.1 53 = .ok (.goto 10, 3) := by decide +kernel
theorem d_PW_writeHex_56 : decode M_PW_writeHex.2.1 56 = .ok (.bipush 97, 2) := by decide +kernel
theorem d_PW_writeHex_58 : decode M_PW_writeHex.2.1 58 = .ok (.iload_n 3, 1) := by decide +kernel
theorem d_PW_writeHex_59 : decode M_PW_writeHex.2.1 59 = .ok (.iadd, 1) := by decide +kernel
theorem d_PW_writeHex_60 : decode M_PW_writeHex.2.1 60 = .ok (.bipush 10, 2) := by decide +kernel
theorem d_PW_writeHex_62 : decode M_PW_writeHex.2.1 62 = .ok (.isub, 1) := by decide +kernel
theorem d_PW_writeHex_63 : decode M_PW_writeHex.2.1 63 = .ok (.invokevirtual 25, 3) := by decide +kernel
theorem d_PW_writeHex_66 : decode M_PW_writeHex.2.1 66 = .ok (.iinc 2 (-4), 3) := by decide +kernel
theorem d_PW_writeHex_69 : decode M_PW_writeHex.2.1 69 = .ok (.goto (-48), 3) := by decide +kernel
theorem d_PW_writeHex_72 : decode M_PW_writeHex.2.1 72 = .ok (.aload_n 0, 1) := by decide +kernel
theorem d_PW_writeHex_73 : decode M_PW_writeHex.2.1 73 = .ok (.bipush 125, 2) := by decide +kernel
theorem d_PW_writeHex_75 : decode M_PW_writeHex.2.1 75 = .ok (.invokevirtual 25, 3) := by decide +kernel
theorem d_PW_writeHex_78 : decode M_PW_writeHex.2.1 78 = .ok (.return_, 1) := by decide +kernel
theorem d_PW_put_0 : decode M_PW_put.2.1 0 = .ok (.aload_n 0, 1) := by decide +kernel
theorem d_PW_put_1 : decode M_PW_put.2.1 1 = .ok (.getfield 12, 3) := by decide +kernel
theorem d_PW_put_4 : decode M_PW_put.2.1 4 = .ok (.iload_n 1, 1) := by decide +kernel
theorem d_PW_put_5 : decode M_PW_put.2.1 5 = .ok (.invokevirtual 68, 3) := by decide +kernel
theorem d_PW_put_8 : decode M_PW_put.2.1 8 = .ok (.ifCond .ne 8, 3) := by decide +kernel
theorem d_PW_put_11 : decode M_PW_put.2.1 11 = .ok (.aload_n 0, 1) := by decide +kernel
theorem d_PW_put_12 : decode M_PW_put.2.1 12 = .ok (.iconst 0, 1) := by decide +kernel
theorem d_PW_put_13 : decode M_PW_put.2.1 13 = .ok (.putfield 21, 3) := by decide +kernel
theorem d_PW_put_16 : decode M_PW_put.2.1 16 = .ok (.return_, 1) := by decide +kernel
theorem d_PW_isSign_0 : decode M_PW_isSign.2.1 0 = .ok (.iload_n 0, 1) := by decide +kernel
theorem d_PW_isSign_1 : decode M_PW_isSign.2.1 1 = .ok (.lookupswitch 85 #[(38, 83), (45, 83), (58, 83), (91, 83), (92, 83), (93, 83), (94, 83), (123, 83), (125, 83)], 83) := by decide +kernel
theorem d_PW_isSign_84 : decode M_PW_isSign.2.1 84 = .ok (.iconst 1, 1) := by decide +kernel
theorem d_PW_isSign_85 : decode M_PW_isSign.2.1 85 = .ok (.ireturn, 1) := by decide +kernel
theorem d_PW_isSign_86 : decode M_PW_isSign.2.1 86 = .ok (.iconst 0, 1) := by decide +kernel
theorem d_PW_isSign_87 : decode M_PW_isSign.2.1 87 = .ok (.ireturn, 1) := by decide +kernel
