/-! decode rows of MO: written by wip/gen/mknames.py -/
theorem d_MO_init_0 : decode M_MO_init.2.1 0 = .ok (.aload_n 0, 1) := by decide +kernel
theorem d_MO_init_1 : decode M_MO_init.2.1 1 = .ok (.invokespecial 1, 3) := by decide +kernel
theorem d_MO_init_4 : decode M_MO_init.2.1 4 = .ok (.aload_n 0, 1) := by decide +kernel
theorem d_MO_init_5 : decode M_MO_init.2.1 5 = .ok (.bipush 60, 2) := by decide +kernel
theorem d_MO_init_7 : decode M_MO_init.2.1 7 = .ok (.newarray .int, 2) := by decide +kernel
theorem d_MO_init_9 : decode M_MO_init.2.1 9 = .ok (.putfield 7, 3) := by decide +kernel
theorem d_MO_init_12 : decode M_MO_init.2.1 12 = .ok (.aload_n 0, 1) := by decide +kernel
theorem d_MO_init_13 : decode M_MO_init.2.1 13 = .ok (.sipush 5040, 3) := by decide +kernel
theorem d_MO_init_16 : decode M_MO_init.2.1 16 = .ok (.newarray .int, 2) := by decide +kernel
theorem d_MO_init_18 : decode M_MO_init.2.1 18 = .ok (.putfield 13, 3) := by decide +kernel
theorem d_MO_init_21 : decode M_MO_init.2.1 21 = .ok (.aload_n 0, 1) := by decide +kernel
theorem d_MO_init_22 : decode M_MO_init.2.1 22 = .ok (.bipush 12, 2) := by decide +kernel
theorem d_MO_init_24 : decode M_MO_init.2.1 24 = .ok (.newarray .int, 2) := by decide +kernel
theorem d_MO_init_26 : decode M_MO_init.2.1 26 = .ok (.putfield 16, 3) := by decide +kernel
theorem d_MO_init_29 : decode M_MO_init.2.1 29 = .ok (.aload_n 0, 1) := by decide +kernel
theorem d_MO_init_30 : decode M_MO_init.2.1 30 = .ok (.sipush 240, 3) := by decide +kernel
theorem d_MO_init_33 : decode M_MO_init.2.1 33 = .ok (.newarray .long, 2) := by decide +kernel
theorem d_MO_init_35 : decode M_MO_init.2.1 35 = .ok (.putfield 19, 3) := by decide +kernel
theorem d_MO_init_38 : decode M_MO_init.2.1 38 = .ok (.aload_n 0, 1) := by decide +kernel
theorem d_MO_init_39 : decode M_MO_init.2.1 39 = .ok (.bipush 12, 2) := by decide +kernel
theorem d_MO_init_41 : decode M_MO_init.2.1 41 = .ok (.newarray .int, 2) := by decide +kernel
theorem d_MO_init_43 : decode M_MO_init.2.1 43 = .ok (.putfield 23, 3) := by decide +kernel
theorem d_MO_init_46 : decode M_MO_init.2.1 46 = .ok (.aload_n 0, 1) := by decide +kernel
theorem d_MO_init_47 : decode M_MO_init.2.1 47 = .ok (.bipush 6, 2) := by decide +kernel
theorem d_MO_init_49 : decode M_MO_init.2.1 49 = .ok (.newarray .boolean, 2) := by decide +kernel
theorem d_MO_init_51 : decode M_MO_init.2.1 51 = .ok (.putfield 26, 3) := by decide +kernel
theorem d_MO_init_54 : decode M_MO_init.2.1 54 = .ok (.aload_n 0, 1) := by decide +kernel
theorem d_MO_init_55 : decode M_MO_init.2.1 55 = .ok (.bipush 6, 2) := by decide +kernel
theorem d_MO_init_57 : decode M_MO_init.2.1 57 = .ok (.newarray .int, 2) := by decide +kernel
theorem d_MO_init_59 : decode M_MO_init.2.1 59 = .ok (.putfield 30, 3) := by decide +kernel
theorem d_MO_init_62 : decode M_MO_init.2.1 62 = .ok (.aload_n 0, 1) := by decide +kernel
theorem d_MO_init_63 : decode M_MO_init.2.1 63 = .ok (.bipush 6, 2) := by decide +kernel
theorem d_MO_init_65 : decode M_MO_init.2.1 65 = .ok (.newarray .int, 2) := by decide +kernel
theorem d_MO_init_67 : decode M_MO_init.2.1 67 = .ok (.putfield 33, 3) := by decide +kernel
theorem d_MO_init_70 : decode M_MO_init.2.1 70 = .ok (.aload_n 0, 1) := by decide +kernel
theorem d_MO_init_71 : decode M_MO_init.2.1 71 = .ok (.bipush 60, 2) := by decide +kernel
theorem d_MO_init_73 : decode M_MO_init.2.1 73 = .ok (.newarray .int, 2) := by decide +kernel
theorem d_MO_init_75 : decode M_MO_init.2.1 75 = .ok (.putfield 36, 3) := by decide +kernel
theorem d_MO_init_78 : decode M_MO_init.2.1 78 = .ok (.aload_n 0, 1) := by decide +kernel
theorem d_MO_init_79 : decode M_MO_init.2.1 79 = .ok (.bipush 61, 2) := by decide +kernel
theorem d_MO_init_81 : decode M_MO_init.2.1 81 = .ok (.newarray .boolean, 2) := by decide +kernel
theorem d_MO_init_83 : decode M_MO_init.2.1 83 = .ok (.putfield 39, 3) := by decide +kernel
theorem d_MO_init_86 : decode M_MO_init.2.1 86 = .ok (.aload_n 0, 1) := by decide +kernel
theorem d_MO_init_87 : decode M_MO_init.2.1 87 = .ok (.getfield 13, 3) := by decide +kernel
theorem d_MO_init_90 : decode M_MO_init.2.1 90 = .ok (.sipush 4621, 3) := by decide +kernel
theorem d_MO_init_93 : decode M_MO_init.2.1 93 = .ok (.ldc 42, 2) := by decide +kernel
theorem d_MO_init_95 : decode M_MO_init.2.1 95 = .ok (.iastore, 1) := by decide +kernel
theorem d_MO_init_96 : decode M_MO_init.2.1 96 = .ok (.aload_n 0, 1) := by decide +kernel
theorem d_MO_init_97 : decode M_MO_init.2.1 97 = .ok (.getfield 16, 3) := by decide +kernel
theorem d_MO_init_100 : decode M_MO_init.2.1 100 = .ok (.bipush 11, 2) := by decide +kernel
theorem d_MO_init_102 : decode M_MO_init.2.1 102 = .ok (.iconst 2, 1) := by decide +kernel
theorem d_MO_init_103 : decode M_MO_init.2.1 103 = .ok (.iastore, 1) := by decide +kernel
theorem d_MO_init_104 : decode M_MO_init.2.1 104 = .ok (.return_, 1) := by decide +kernel
theorem d_MO_type_0 : decode M_MO_type.2.1 0 = .ok (.iload_n 1, 1) := by decide +kernel
theorem d_MO_type_1 : decode M_MO_type.2.1 1 = .ok (.ifCond .lt 18, 3) := by decide +kernel
theorem d_MO_type_4 : decode M_MO_type.2.1 4 = .ok (.iload_n 1, 1) := by decide +kernel
theorem d_MO_type_5 : decode M_MO_type.2.1 5 = .ok (.ldc 42, 2) := by decide +kernel
theorem d_MO_type_7 : decode M_MO_type.2.1 7 = .ok (.if_icmp .ge 12, 3) := by decide +kernel
theorem d_MO_type_10 : decode M_MO_type.2.1 10 = .ok (.aload_n 0, 1) := by decide +kernel
theorem d_MO_type_11 : decode M_MO_type.2.1 11 = .ok (.getfield 43, 3) := by decide +kernel
theorem d_MO_type_14 : decode M_MO_type.2.1 14 = .ok (.bipush 60, 2) := by decide +kernel
theorem d_MO_type_16 : decode M_MO_type.2.1 16 = .ok (.if_icmp .ne 5, 3) := by decide +kernel
theorem d_MO_type_19 : decode M_MO_type.2.1 19 = .ok (.iconst 0, 1) := by decide +kernel
theorem d_MO_type_20 : decode M_MO_type.2.1 20 = .ok (.ireturn, 1) := by decide +kernel
theorem d_MO_type_21 : decode M_MO_type.2.1 21 = .ok (.aload_n 0, 1) := by decide +kernel
theorem d_MO_type_22 : decode M_MO_type.2.1 22 = .ok (.getfield 7, 3) := by decide +kernel
theorem d_MO_type_25 : decode M_MO_type.2.1 25 = .ok (.aload_n 0, 1) := by decide +kernel
theorem d_MO_type_26 : decode M_MO_type.2.1 26 = .ok (.getfield 43, 3) := by decide +kernel
theorem d_MO_type_29 : decode M_MO_type.2.1 29 = .ok (.iload_n 1, 1) := by decide +kernel
theorem d_MO_type_30 : decode M_MO_type.2.1 30 = .ok (.iastore, 1) := by decide +kernel
theorem d_MO_type_31 : decode M_MO_type.2.1 31 = .ok (.aload_n 0, 1) := by decide +kernel
theorem d_MO_type_32 : decode M_MO_type.2.1 32 = .ok (.aload_n 0, 1) := by decide +kernel
theorem d_MO_type_33 : decode M_MO_type.2.1 33 = .ok (.getfield 43, 3) := by decide +kernel
theorem d_MO_type_36 : decode M_MO_type.2.1 36 = .ok (.iconst 1, 1) := by decide +kernel
theorem d_MO_type_37 : decode M_MO_type.2.1 37 = .ok (.iadd, 1) := by decide +kernel
theorem d_MO_type_38 : decode M_MO_type.2.1 38 = .ok (.putfield 43, 3) := by decide +kernel
theorem d_MO_type_41 : decode M_MO_type.2.1 41 = .ok (.iconst 1, 1) := by decide +kernel
theorem d_MO_type_42 : decode M_MO_type.2.1 42 = .ok (.ireturn, 1) := by decide +kernel
theorem d_MO_wipe_0 : decode M_MO_wipe.2.1 0 = .ok (.aload_n 0, 1) := by decide +kernel
theorem d_MO_wipe_1 : decode M_MO_wipe.2.1 1 = .ok (.iconst 0, 1) := by decide +kernel
theorem d_MO_wipe_2 : decode M_MO_wipe.2.1 2 = .ok (.putfield 43, 3) := by decide +kernel
theorem d_MO_wipe_5 : decode M_MO_wipe.2.1 5 = .ok (.return_, 1) := by decide +kernel
theorem d_MO_length_0 : decode M_MO_length.2.1 0 = .ok (.aload_n 0, 1) := by decide +kernel
theorem d_MO_length_1 : decode M_MO_length.2.1 1 = .ok (.getfield 43, 3) := by decide +kernel
theorem d_MO_length_4 : decode M_MO_length.2.1 4 = .ok (.ireturn, 1) := by decide +kernel
theorem d_MO_at_0 : decode M_MO_at.2.1 0 = .ok (.iload_n 1, 1) := by decide +kernel
theorem d_MO_at_1 : decode M_MO_at.2.1 1 = .ok (.ifCond .lt 11, 3) := by decide +kernel
theorem d_MO_at_4 : decode M_MO_at.2.1 4 = .ok (.iload_n 1, 1) := by decide +kernel
theorem d_MO_at_5 : decode M_MO_at.2.1 5 = .ok (.aload_n 0, 1) := by decide +kernel
theorem d_MO_at_6 : decode M_MO_at.2.1 6 = .ok (.getfield 43, 3) := by decide +kernel
theorem d_MO_at_9 : decode M_MO_at.2.1 9 = .ok (.if_icmp .lt 7, 3) := by decide +kernel
theorem d_MO_at_12 : decode M_MO_at.2.1 12 = .ok (.iconst (-1), 1) := by decide +kernel
theorem d_MO_at_13 : decode M_MO_at.2.1 13 = .ok (.goto 9, 3) := by decide +kernel
theorem d_MO_at_16 : decode M_MO_at.2.1 16 = .ok (.aload_n 0, 1) := by decide +kernel
theorem d_MO_at_17 : decode M_MO_at.2.1 17 = .ok (.getfield 7, 3) := by decide +kernel
theorem d_MO_at_20 : decode M_MO_at.2.1 20 = .ok (.iload_n 1, 1) := by decide +kernel
theorem d_MO_at_21 : decode M_MO_at.2.1 21 = .ok (.iaload, 1) := by decide +kernel
theorem d_MO_at_22 : decode M_MO_at.2.1 22 = .ok (.ireturn, 1) := by decide +kernel
theorem d_MO_register_0 : decode M_MO_register.2.1 0 = .ok (.iload_n 0, 1) := by decide +kernel
theorem d_MO_register_1 : decode M_MO_register.2.1 1 = .ok (.ifCond .lt 12, 3) := by decide +kernel
theorem d_MO_register_4 : decode M_MO_register.2.1 4 = .ok (.iload_n 0, 1) := by decide +kernel
theorem d_MO_register_5 : decode M_MO_register.2.1 5 = .ok (.iconst 2, 1) := by decide +kernel
theorem d_MO_register_6 : decode M_MO_register.2.1 6 = .ok (.if_icmp .gt 7, 3) := by decide +kernel
theorem d_MO_register_9 : decode M_MO_register.2.1 9 = .ok (.iconst 1, 1) := by decide +kernel
theorem d_MO_register_10 : decode M_MO_register.2.1 10 = .ok (.goto 4, 3) := by decide +kernel
theorem d_MO_register_13 : decode M_MO_register.2.1 13 = .ok (.iconst 0, 1) := by decide +kernel
theorem d_MO_register_14 : decode M_MO_register.2.1 14 = .ok (.ireturn, 1) := by decide +kernel
theorem d_MO_empty_0 : decode M_MO_empty.2.1 0 = .ok (.aload_n 0, 1) := by decide +kernel
theorem d_MO_empty_1 : decode M_MO_empty.2.1 1 = .ok (.getfield 16, 3) := by decide +kernel
theorem d_MO_empty_4 : decode M_MO_empty.2.1 4 = .ok (.iload_n 1, 1) := by decide +kernel
theorem d_MO_empty_5 : decode M_MO_empty.2.1 5 = .ok (.iconst 0, 1) := by decide +kernel
theorem d_MO_empty_6 : decode M_MO_empty.2.1 6 = .ok (.iastore, 1) := by decide +kernel
theorem d_MO_empty_7 : decode M_MO_empty.2.1 7 = .ok (.aload_n 0, 1) := by decide +kernel
theorem d_MO_empty_8 : decode M_MO_empty.2.1 8 = .ok (.getfield 23, 3) := by decide +kernel
theorem d_MO_empty_11 : decode M_MO_empty.2.1 11 = .ok (.iload_n 1, 1) := by decide +kernel
theorem d_MO_empty_12 : decode M_MO_empty.2.1 12 = .ok (.iconst 0, 1) := by decide +kernel
theorem d_MO_empty_13 : decode M_MO_empty.2.1 13 = .ok (.iastore, 1) := by decide +kernel
theorem d_MO_empty_14 : decode M_MO_empty.2.1 14 = .ok (.return_, 1) := by decide +kernel
theorem d_MO_member_0 : decode M_MO_member.2.1 0 = .ok (.iconst 0, 1) := by decide +kernel
theorem d_MO_member_1 : decode M_MO_member.2.1 1 = .ok (.istore_n 3, 1) := by decide +kernel
theorem d_MO_member_2 : decode M_MO_member.2.1 2 = .ok (.iconst 0, 1) := by decide +kernel
theorem d_MO_member_3 : decode M_MO_member.2.1 3 = .ok (.istore 4, 2) := by decide +kernel
theorem d_MO_member_5 : decode M_MO_member.2.1 5 = .ok (.iload 4, 2) := by decide +kernel
theorem d_MO_member_7 : decode M_MO_member.2.1 7 = .ok (.aload_n 0, 1) := by decide +kernel
theorem d_MO_member_8 : decode M_MO_member.2.1 8 = .ok (.getfield 16, 3) := by decide +kernel
theorem d_MO_member_11 : decode M_MO_member.2.1 11 = .ok (.iload_n 1, 1) := by decide +kernel
theorem d_MO_member_12 : decode M_MO_member.2.1 12 = .ok (.iaload, 1) := by decide +kernel
theorem d_MO_member_13 : decode M_MO_member.2.1 13 = .ok (.if_icmp .ge 40, 3) := by decide +kernel
theorem d_MO_member_16 : decode M_MO_member.2.1 16 = .ok (.aload_n 0, 1) := by decide +kernel
theorem d_MO_member_17 : decode M_MO_member.2.1 17 = .ok (.getfield 13, 3) := by decide +kernel
theorem d_MO_member_20 : decode M_MO_member.2.1 20 = .ok (.sipush 420, 3) := by decide +kernel
theorem d_MO_member_23 : decode M_MO_member.2.1 23 = .ok (.iload_n 1, 1) := by decide +kernel
theorem d_MO_member_24 : decode M_MO_member.2.1 24 = .ok (.imul, 1) := by decide +kernel
theorem d_MO_member_25 : decode M_MO_member.2.1 25 = .ok (.iload 4, 2) := by decide +kernel
theorem d_MO_member_27 : decode M_MO_member.2.1 27 = .ok (.iadd, 1) := by decide +kernel
theorem d_MO_member_28 : decode M_MO_member.2.1 28 = .ok (.iaload, 1) := by decide +kernel
theorem d_MO_member_29 : decode M_MO_member.2.1 29 = .ok (.iload_n 2, 1) := by decide +kernel
theorem d_MO_member_30 : decode M_MO_member.2.1 30 = .ok (.if_icmp .gt 15, 3) := by decide +kernel
theorem d_MO_member_33 : decode M_MO_member.2.1 33 = .ok (.iload_n 3, 1) := by decide +kernel
theorem d_MO_member_34 : decode M_MO_member.2.1 34 = .ok (.ifCond .ne 7, 3) := by decide +kernel
theorem d_MO_member_37 : decode M_MO_member.2.1 37 = .ok (.iconst 1, 1) := by decide +kernel
theorem d_MO_member_38 : decode M_MO_member.2.1 38 = .ok (.goto 8, 3) := by decide +kernel
theorem d_MO_member_41 : decode M_MO_member.2.1 41 = .ok (.iconst 0, 1) := by decide +kernel
theorem d_MO_member_42 : decode M_MO_member.2.1 42 = .ok (.goto 4, 3) := by decide +kernel
theorem d_MO_member_45 : decode M_MO_member.2.1 45 = .ok (.iload_n 3, 1) := by decide +kernel
theorem d_MO_member_46 : decode M_MO_member.2.1 46 = .ok (.istore_n 3, 1) := by decide +kernel
theorem d_MO_member_47 : decode M_MO_member.2.1 47 = .ok (.iinc 4 1, 3) := by decide +kernel
theorem d_MO_member_50 : decode M_MO_member.2.1 50 = .ok (.goto (-45), 3) := by decide +kernel
theorem d_MO_member_53 : decode M_MO_member.2.1 53 = .ok (.iload_n 3, 1) := by decide +kernel
theorem d_MO_member_54 : decode M_MO_member.2.1 54 = .ok (.ireturn, 1) := by decide +kernel
theorem d_MO_stringMember_0 : decode M_MO_stringMember.2.1 0 = .ok (.iconst 0, 1) := by decide +kernel
theorem d_MO_stringMember_1 : decode M_MO_stringMember.2.1 1 = .ok (.istore 4, 2) := by decide +kernel
theorem d_MO_stringMember_3 : decode M_MO_stringMember.2.1 3 = .ok (.iconst 0, 1) := by decide +kernel
theorem d_MO_stringMember_4 : decode M_MO_stringMember.2.1 4 = .ok (.istore 5, 2) := by decide +kernel
theorem d_MO_stringMember_6 : decode M_MO_stringMember.2.1 6 = .ok (.iload 5, 2) := by decide +kernel
theorem d_MO_stringMember_8 : decode M_MO_stringMember.2.1 8 = .ok (.aload_n 0, 1) := by decide +kernel
theorem d_MO_stringMember_9 : decode M_MO_stringMember.2.1 9 = .ok (.getfield 23, 3) := by decide +kernel
theorem d_MO_stringMember_12 : decode M_MO_stringMember.2.1 12 = .ok (.iload_n 1, 1) := by decide +kernel
theorem d_MO_stringMember_13 : decode M_MO_stringMember.2.1 13 = .ok (.iaload, 1) := by decide +kernel
theorem d_MO_stringMember_14 : decode M_MO_stringMember.2.1 14 = .ok (.if_icmp .ge 38, 3) := by decide +kernel
theorem d_MO_stringMember_17 : decode M_MO_stringMember.2.1 17 = .ok (.iload 4, 2) := by decide +kernel
theorem d_MO_stringMember_19 : decode M_MO_stringMember.2.1 19 = .ok (.ifCond .ne 20, 3) := by decide +kernel
theorem d_MO_stringMember_22 : decode M_MO_stringMember.2.1 22 = .ok (.aload_n 0, 1) := by decide +kernel
theorem d_MO_stringMember_23 : decode M_MO_stringMember.2.1 23 = .ok (.getfield 19, 3) := by decide +kernel
theorem d_MO_stringMember_26 : decode M_MO_stringMember.2.1 26 = .ok (.bipush 20, 2) := by decide +kernel
theorem d_MO_stringMember_28 : decode M_MO_stringMember.2.1 28 = .ok (.iload_n 1, 1) := by decide +kernel
theorem d_MO_stringMember_29 : decode M_MO_stringMember.2.1 29 = .ok (.imul, 1) := by decide +kernel
theorem d_MO_stringMember_30 : decode M_MO_stringMember.2.1 30 = .ok (.iload 5, 2) := by decide +kernel
theorem d_MO_stringMember_32 : decode M_MO_stringMember.2.1 32 = .ok (.iadd, 1) := by decide +kernel
theorem d_MO_stringMember_33 : decode M_MO_stringMember.2.1 33 = .ok (.laload, 1) := by decide +kernel
theorem d_MO_stringMember_34 : decode M_MO_stringMember.2.1 34 = .ok (.lload_n 2, 1) := by decide +kernel
theorem d_MO_stringMember_35 : decode M_MO_stringMember.2.1 35 = .ok (.lcmp, 1) := by decide +kernel
theorem d_MO_stringMember_36 : decode M_MO_stringMember.2.1 36 = .ok (.ifCond .ne 7, 3) := by decide +kernel
theorem d_MO_stringMember_39 : decode M_MO_stringMember.2.1 39 = .ok (.iconst 1, 1) := by decide +kernel
theorem d_MO_stringMember_40 : decode M_MO_stringMember.2.1 40 = .ok (.goto 4, 3) := by decide +kernel
theorem d_MO_stringMember_43 : decode M_MO_stringMember.2.1 43 = .ok (.iconst 0, 1) := by decide +kernel
theorem d_MO_stringMember_44 : decode M_MO_stringMember.2.1 44 = .ok (.istore 4, 2) := by decide +kernel
theorem d_MO_stringMember_46 : decode M_MO_stringMember.2.1 46 = .ok (.iinc 5 1, 3) := by decide +kernel
theorem d_MO_stringMember_49 : decode M_MO_stringMember.2.1 49 = .ok (.goto (-43), 3) := by decide +kernel
theorem d_MO_stringMember_52 : decode M_MO_stringMember.2.1 52 = .ok (.iload 4, 2) := by decide +kernel
theorem d_MO_stringMember_54 : decode M_MO_stringMember.2.1 54 = .ok (.ireturn, 1) := by decide +kernel
theorem d_MO_nextEdge_0 : decode M_MO_nextEdge.2.1 0 = .ok (.ldc 47, 2) := by decide +kernel
theorem d_MO_nextEdge_2 : decode M_MO_nextEdge.2.1 2 = .ok (.istore 4, 2) := by decide +kernel
theorem d_MO_nextEdge_4 : decode M_MO_nextEdge.2.1 4 = .ok (.iconst 0, 1) := by decide +kernel
theorem d_MO_nextEdge_5 : decode M_MO_nextEdge.2.1 5 = .ok (.istore 5, 2) := by decide +kernel
theorem d_MO_nextEdge_7 : decode M_MO_nextEdge.2.1 7 = .ok (.iload 5, 2) := by decide +kernel
theorem d_MO_nextEdge_9 : decode M_MO_nextEdge.2.1 9 = .ok (.aload_n 0, 1) := by decide +kernel
theorem d_MO_nextEdge_10 : decode M_MO_nextEdge.2.1 10 = .ok (.getfield 16, 3) := by decide +kernel
theorem d_MO_nextEdge_13 : decode M_MO_nextEdge.2.1 13 = .ok (.iload_n 1, 1) := by decide +kernel
theorem d_MO_nextEdge_14 : decode M_MO_nextEdge.2.1 14 = .ok (.iaload, 1) := by decide +kernel
theorem d_MO_nextEdge_15 : decode M_MO_nextEdge.2.1 15 = .ok (.if_icmp .ge 46, 3) := by decide +kernel
theorem d_MO_nextEdge_18 : decode M_MO_nextEdge.2.1 18 = .ok (.aload_n 0, 1) := by decide +kernel
theorem d_MO_nextEdge_19 : decode M_MO_nextEdge.2.1 19 = .ok (.getfield 13, 3) := by decide +kernel
theorem d_MO_nextEdge_22 : decode M_MO_nextEdge.2.1 22 = .ok (.sipush 420, 3) := by decide +kernel
theorem d_MO_nextEdge_25 : decode M_MO_nextEdge.2.1 25 = .ok (.iload_n 1, 1) := by decide +kernel
theorem d_MO_nextEdge_26 : decode M_MO_nextEdge.2.1 26 = .ok (.imul, 1) := by decide +kernel
theorem d_MO_nextEdge_27 : decode M_MO_nextEdge.2.1 27 = .ok (.iload 5, 2) := by decide +kernel
theorem d_MO_nextEdge_29 : decode M_MO_nextEdge.2.1 29 = .ok (.iadd, 1) := by decide +kernel
theorem d_MO_nextEdge_30 : decode M_MO_nextEdge.2.1 30 = .ok (.iaload, 1) := by decide +kernel
theorem d_MO_nextEdge_31 : decode M_MO_nextEdge.2.1 31 = .ok (.istore 6, 2) := by decide +kernel
theorem d_MO_nextEdge_33 : decode M_MO_nextEdge.2.1 33 = .ok (.iload 6, 2) := by decide +kernel
theorem d_MO_nextEdge_35 : decode M_MO_nextEdge.2.1 35 = .ok (.iload_n 3, 1) := by decide +kernel
theorem d_MO_nextEdge_36 : decode M_MO_nextEdge.2.1 36 = .ok (.if_icmp .le 15, 3) := by decide +kernel
theorem d_MO_nextEdge_39 : decode M_MO_nextEdge.2.1 39 = .ok (.iload 6, 2) := by decide +kernel
theorem d_MO_nextEdge_41 : decode M_MO_nextEdge.2.1 41 = .ok (.iload 4, 2) := by decide +kernel
theorem d_MO_nextEdge_43 : decode M_MO_nextEdge.2.1 43 = .ok (.if_icmp .ge 8, 3) := by decide +kernel
theorem d_MO_nextEdge_46 : decode M_MO_nextEdge.2.1 46 = .ok (.iload 6, 2) := by decide +kernel
theorem d_MO_nextEdge_48 : decode M_MO_nextEdge.2.1 48 = .ok (.goto 5, 3) := by decide +kernel
theorem d_MO_nextEdge_51 : decode M_MO_nextEdge.2.1 51 = .ok (.iload 4, 2) := by decide +kernel
theorem d_MO_nextEdge_53 : decode M_MO_nextEdge.2.1 53 = .ok (.istore 4, 2) := by decide +kernel
theorem d_MO_nextEdge_55 : decode M_MO_nextEdge.2.1 55 = .ok (.iinc 5 1, 3) := by decide +kernel
theorem d_MO_nextEdge_58 : decode M_MO_nextEdge.2.1 58 = .ok (.goto (-51), 3) := by decide +kernel
theorem d_MO_nextEdge_61 : decode M_MO_nextEdge.2.1 61 = .ok (.iconst 0, 1) := by decide +kernel
theorem d_MO_nextEdge_62 : decode M_MO_nextEdge.2.1 62 = .ok (.istore 5, 2) := by decide +kernel
theorem d_MO_nextEdge_64 : decode M_MO_nextEdge.2.1 64 = .ok (.iload 5, 2) := by decide +kernel
theorem d_MO_nextEdge_66 : decode M_MO_nextEdge.2.1 66 = .ok (.aload_n 0, 1) := by decide +kernel
theorem d_MO_nextEdge_67 : decode M_MO_nextEdge.2.1 67 = .ok (.getfield 16, 3) := by decide +kernel
theorem d_MO_nextEdge_70 : decode M_MO_nextEdge.2.1 70 = .ok (.iload_n 2, 1) := by decide +kernel
theorem d_MO_nextEdge_71 : decode M_MO_nextEdge.2.1 71 = .ok (.iaload, 1) := by decide +kernel
theorem d_MO_nextEdge_72 : decode M_MO_nextEdge.2.1 72 = .ok (.if_icmp .ge 46, 3) := by decide +kernel
theorem d_MO_nextEdge_75 : decode M_MO_nextEdge.2.1 75 = .ok (.aload_n 0, 1) := by decide +kernel
theorem d_MO_nextEdge_76 : decode M_MO_nextEdge.2.1 76 = .ok (.getfield 13, 3) := by decide +kernel
theorem d_MO_nextEdge_79 : decode M_MO_nextEdge.2.1 79 = .ok (.sipush 420, 3) := by decide +kernel
theorem d_MO_nextEdge_82 : decode M_MO_nextEdge.2.1 82 = .ok (.iload_n 2, 1) := by decide +kernel
theorem d_MO_nextEdge_83 : decode M_MO_nextEdge.2.1 83 = .ok (.imul, 1) := by decide +kernel
theorem d_MO_nextEdge_84 : decode M_MO_nextEdge.2.1 84 = .ok (.iload 5, 2) := by decide +kernel
theorem d_MO_nextEdge_86 : decode M_MO_nextEdge.2.1 86 = .ok (.iadd, 1) := by decide +kernel
theorem d_MO_nextEdge_87 : decode M_MO_nextEdge.2.1 87 = .ok (.iaload, 1) := by decide +kernel
theorem d_MO_nextEdge_88 : decode M_MO_nextEdge.2.1 88 = .ok (.istore 6, 2) := by decide +kernel
theorem d_MO_nextEdge_90 : decode M_MO_nextEdge.2.1 90 = .ok (.iload 6, 2) := by decide +kernel
theorem d_MO_nextEdge_92 : decode M_MO_nextEdge.2.1 92 = .ok (.iload_n 3, 1) := by decide +kernel
theorem d_MO_nextEdge_93 : decode M_MO_nextEdge.2.1 93 = .ok (.if_icmp .le 15, 3) := by decide +kernel
theorem d_MO_nextEdge_96 : decode M_MO_nextEdge.2.1 96 = .ok (.iload 6, 2) := by decide +kernel
theorem d_MO_nextEdge_98 : decode M_MO_nextEdge.2.1 98 = .ok (.iload 4, 2) := by decide +kernel
theorem d_MO_nextEdge_100 : decode M_MO_nextEdge.2.1 100 = .ok (.if_icmp .ge 8, 3) := by decide +kernel
theorem d_MO_nextEdge_103 : decode M_MO_nextEdge.2.1 103 = .ok (.iload 6, 2) := by decide +kernel
theorem d_MO_nextEdge_105 : decode M_MO_nextEdge.2.1 105 = .ok (.goto 5, 3) := by decide +kernel
theorem d_MO_nextEdge_108 : decode M_MO_nextEdge.2.1 108 = .ok (.iload 4, 2) := by decide +kernel
theorem d_MO_nextEdge_110 : decode M_MO_nextEdge.2.1 110 = .ok (.istore 4, 2) := by decide +kernel
theorem d_MO_nextEdge_112 : decode M_MO_nextEdge.2.1 112 = .ok (.iinc 5 1, 3) := by decide +kernel
theorem d_MO_nextEdge_115 : decode M_MO_nextEdge.2.1 115 = .ok (.goto (-51), 3) := by decide +kernel
theorem d_MO_nextEdge_118 : decode M_MO_nextEdge.2.1 118 = .ok (.iload 4, 2) := by decide +kernel
theorem d_MO_nextEdge_120 : decode M_MO_nextEdge.2.1 120 = .ok (.ireturn, 1) := by decide +kernel
theorem d_MO_decided_0 : decode M_MO_decided.2.1 0 = .ok (.iload_n 2, 1) := by decide +kernel
theorem d_MO_decided_1 : decode M_MO_decided.2.1 1 = .ok (.ifCond .ne 19, 3) := by decide +kernel
theorem d_MO_decided_4 : decode M_MO_decided.2.1 4 = .ok (.iload_n 0, 1) := by decide +kernel
theorem d_MO_decided_5 : decode M_MO_decided.2.1 5 = .ok (.ifCond .ne 7, 3) := by decide +kernel
theorem d_MO_decided_8 : decode M_MO_decided.2.1 8 = .ok (.iload_n 1, 1) := by decide +kernel
theorem d_MO_decided_9 : decode M_MO_decided.2.1 9 = .ok (.ifCond .eq 7, 3) := by decide +kernel
theorem d_MO_decided_12 : decode M_MO_decided.2.1 12 = .ok (.iconst 1, 1) := by decide +kernel
theorem d_MO_decided_13 : decode M_MO_decided.2.1 13 = .ok (.goto 59, 3) := by decide +kernel
theorem d_MO_decided_16 : decode M_MO_decided.2.1 16 = .ok (.iconst 0, 1) := by decide +kernel
theorem d_MO_decided_17 : decode M_MO_decided.2.1 17 = .ok (.goto 55, 3) := by decide +kernel
theorem d_MO_decided_20 : decode M_MO_decided.2.1 20 = .ok (.iload_n 2, 1) := by decide +kernel
theorem d_MO_decided_21 : decode M_MO_decided.2.1 21 = .ok (.iconst 1, 1) := by decide +kernel
theorem d_MO_decided_22 : decode M_MO_decided.2.1 22 = .ok (.if_icmp .ne 19, 3) := by decide +kernel
theorem d_MO_decided_25 : decode M_MO_decided.2.1 25 = .ok (.iload_n 0, 1) := by decide +kernel
theorem d_MO_decided_26 : decode M_MO_decided.2.1 26 = .ok (.ifCond .eq 11, 3) := by decide +kernel
theorem d_MO_decided_29 : decode M_MO_decided.2.1 29 = .ok (.iload_n 1, 1) := by decide +kernel
theorem d_MO_decided_30 : decode M_MO_decided.2.1 30 = .ok (.ifCond .eq 7, 3) := by decide +kernel
theorem d_MO_decided_33 : decode M_MO_decided.2.1 33 = .ok (.iconst 1, 1) := by decide +kernel
theorem d_MO_decided_34 : decode M_MO_decided.2.1 34 = .ok (.goto 38, 3) := by decide +kernel
theorem d_MO_decided_37 : decode M_MO_decided.2.1 37 = .ok (.iconst 0, 1) := by decide +kernel
theorem d_MO_decided_38 : decode M_MO_decided.2.1 38 = .ok (.goto 34, 3) := by decide +kernel
theorem d_MO_decided_41 : decode M_MO_decided.2.1 41 = .ok (.iload_n 2, 1) := by decide +kernel
theorem d_MO_decided_42 : decode M_MO_decided.2.1 42 = .ok (.iconst 2, 1) := by decide +kernel
theorem d_MO_decided_43 : decode M_MO_decided.2.1 43 = .ok (.if_icmp .ne 19, 3) := by decide +kernel
theorem d_MO_decided_46 : decode M_MO_decided.2.1 46 = .ok (.iload_n 0, 1) := by decide +kernel
theorem d_MO_decided_47 : decode M_MO_decided.2.1 47 = .ok (.ifCond .eq 11, 3) := by decide +kernel
theorem d_MO_decided_50 : decode M_MO_decided.2.1 50 = .ok (.iload_n 1, 1) := by decide +kernel
theorem d_MO_decided_51 : decode M_MO_decided.2.1 51 = .ok (.ifCond .ne 7, 3) := by decide +kernel
theorem d_MO_decided_54 : decode M_MO_decided.2.1 54 = .ok (.iconst 1, 1) := by decide +kernel
theorem d_MO_decided_55 : decode M_MO_decided.2.1 55 = .ok (.goto 17, 3) := by decide +kernel
theorem d_MO_decided_58 : decode M_MO_decided.2.1 58 = .ok (.iconst 0, 1) := by decide +kernel
theorem d_MO_decided_59 : decode M_MO_decided.2.1 59 = .ok (.goto 13, 3) := by decide +kernel
theorem d_MO_decided_62 : decode M_MO_decided.2.1 62 = .ok (.iload_n 0, 1) := by decide +kernel
theorem d_MO_decided_63 : decode M_MO_decided.2.1 63 = .ok (.iload_n 1, 1) := by decide +kernel
theorem d_MO_decided_64 : decode M_MO_decided.2.1 64 = .ok (.if_icmp .eq 7, 3) := by decide +kernel
theorem d_MO_decided_67 : decode M_MO_decided.2.1 67 = .ok (.iconst 1, 1) := by decide +kernel
theorem d_MO_decided_68 : decode M_MO_decided.2.1 68 = .ok (.goto 4, 3) := by decide +kernel
theorem d_MO_decided_71 : decode M_MO_decided.2.1 71 = .ok (.iconst 0, 1) := by decide +kernel
theorem d_MO_decided_72 : decode M_MO_decided.2.1 72 = .ok (.ireturn, 1) := by decide +kernel
theorem d_MO_make_0 : decode M_MO_make.2.1 0 = .ok (.aload_n 0, 1) := by decide +kernel
theorem d_MO_make_1 : decode M_MO_make.2.1 1 = .ok (.bipush 10, 2) := by decide +kernel
theorem d_MO_make_3 : decode M_MO_make.2.1 3 = .ok (.invokevirtual 48, 3) := by decide +kernel
theorem d_MO_make_6 : decode M_MO_make.2.1 6 = .ok (.iconst 0, 1) := by decide +kernel
theorem d_MO_make_7 : decode M_MO_make.2.1 7 = .ok (.istore 4, 2) := by decide +kernel
theorem d_MO_make_9 : decode M_MO_make.2.1 9 = .ok (.aload_n 0, 1) := by decide +kernel
theorem d_MO_make_10 : decode M_MO_make.2.1 10 = .ok (.iload_n 1, 1) := by decide +kernel
theorem d_MO_make_11 : decode M_MO_make.2.1 11 = .ok (.iload_n 2, 1) := by decide +kernel
theorem d_MO_make_12 : decode M_MO_make.2.1 12 = .ok (.iconst (-1), 1) := by decide +kernel
theorem d_MO_make_13 : decode M_MO_make.2.1 13 = .ok (.invokevirtual 52, 3) := by decide +kernel
theorem d_MO_make_16 : decode M_MO_make.2.1 16 = .ok (.istore 5, 2) := by decide +kernel
theorem d_MO_make_18 : decode M_MO_make.2.1 18 = .ok (.iload 5, 2) := by decide +kernel
theorem d_MO_make_20 : decode M_MO_make.2.1 20 = .ok (.ldc 42, 2) := by decide +kernel
theorem d_MO_make_22 : decode M_MO_make.2.1 22 = .ok (.if_icmp .gt 85, 3) := by decide +kernel
theorem d_MO_make_25 : decode M_MO_make.2.1 25 = .ok (.aload_n 0, 1) := by decide +kernel
theorem d_MO_make_26 : decode M_MO_make.2.1 26 = .ok (.iload_n 1, 1) := by decide +kernel
theorem d_MO_make_27 : decode M_MO_make.2.1 27 = .ok (.iload 5, 2) := by decide +kernel
theorem d_MO_make_29 : decode M_MO_make.2.1 29 = .ok (.invokevirtual 56, 3) := by decide +kernel
theorem d_MO_make_32 : decode M_MO_make.2.1 32 = .ok (.istore 6, 2) := by decide +kernel
theorem d_MO_make_34 : decode M_MO_make.2.1 34 = .ok (.iload 6, 2) := by decide +kernel
theorem d_MO_make_36 : decode M_MO_make.2.1 36 = .ok (.aload_n 0, 1) := by decide +kernel
theorem d_MO_make_37 : decode M_MO_make.2.1 37 = .ok (.iload_n 2, 1) := by decide +kernel
theorem d_MO_make_38 : decode M_MO_make.2.1 38 = .ok (.iload 5, 2) := by decide +kernel
theorem d_MO_make_40 : decode M_MO_make.2.1 40 = .ok (.invokevirtual 56, 3) := by decide +kernel
theorem d_MO_make_43 : decode M_MO_make.2.1 43 = .ok (.iload_n 3, 1) := by decide +kernel
theorem d_MO_make_44 : decode M_MO_make.2.1 44 = .ok (.invokestatic 60, 3) := by decide +kernel
theorem d_MO_make_47 : decode M_MO_make.2.1 47 = .ok (.istore 7, 2) := by decide +kernel
theorem d_MO_make_49 : decode M_MO_make.2.1 49 = .ok (.iload 7, 2) := by decide +kernel
theorem d_MO_make_51 : decode M_MO_make.2.1 51 = .ok (.iload 4, 2) := by decide +kernel
theorem d_MO_make_53 : decode M_MO_make.2.1 53 = .ok (.if_icmp .eq 41, 3) := by decide +kernel
theorem d_MO_make_56 : decode M_MO_make.2.1 56 = .ok (.aload_n 0, 1) := by decide +kernel
theorem d_MO_make_57 : decode M_MO_make.2.1 57 = .ok (.getfield 13, 3) := by decide +kernel
theorem d_MO_make_60 : decode M_MO_make.2.1 60 = .ok (.sipush 4200, 3) := by decide +kernel
theorem d_MO_make_63 : decode M_MO_make.2.1 63 = .ok (.aload_n 0, 1) := by decide +kernel
theorem d_MO_make_64 : decode M_MO_make.2.1 64 = .ok (.getfield 16, 3) := by decide +kernel
theorem d_MO_make_67 : decode M_MO_make.2.1 67 = .ok (.bipush 10, 2) := by decide +kernel
theorem d_MO_make_69 : decode M_MO_make.2.1 69 = .ok (.iaload, 1) := by decide +kernel
theorem d_MO_make_70 : decode M_MO_make.2.1 70 = .ok (.iadd, 1) := by decide +kernel
theorem d_MO_make_71 : decode M_MO_make.2.1 71 = .ok (.iload 5, 2) := by decide +kernel
theorem d_MO_make_73 : decode M_MO_make.2.1 73 = .ok (.iastore, 1) := by decide +kernel
theorem d_MO_make_74 : decode M_MO_make.2.1 74 = .ok (.aload_n 0, 1) := by decide +kernel
theorem d_MO_make_75 : decode M_MO_make.2.1 75 = .ok (.getfield 16, 3) := by decide +kernel
theorem d_MO_make_78 : decode M_MO_make.2.1 78 = .ok (.bipush 10, 2) := by decide +kernel
theorem d_MO_make_80 : decode M_MO_make.2.1 80 = .ok (.aload_n 0, 1) := by decide +kernel
theorem d_MO_make_81 : decode M_MO_make.2.1 81 = .ok (.getfield 16, 3) := by decide +kernel
theorem d_MO_make_84 : decode M_MO_make.2.1 84 = .ok (.bipush 10, 2) := by decide +kernel
theorem d_MO_make_86 : decode M_MO_make.2.1 86 = .ok (.iaload, 1) := by decide +kernel
theorem d_MO_make_87 : decode M_MO_make.2.1 87 = .ok (.iconst 1, 1) := by decide +kernel
theorem d_MO_make_88 : decode M_MO_make.2.1 88 = .ok (.iadd, 1) := by decide +kernel
theorem d_MO_make_89 : decode M_MO_make.2.1 89 = .ok (.iastore, 1) := by decide +kernel
theorem d_MO_make_90 : decode M_MO_make.2.1 90 = .ok (.iload 7, 2) := by decide +kernel
theorem d_MO_make_92 : decode M_MO_make.2.1 92 = .ok (.istore 4, 2) := by decide +kernel
theorem d_MO_make_94 : decode M_MO_make.2.1 94 = .ok (.aload_n 0, 1) := by decide +kernel
theorem d_MO_make_95 : decode M_MO_make.2.1 95 = .ok (.iload_n 1, 1) := by decide +kernel
theorem d_MO_make_96 : decode M_MO_make.2.1 96 = .ok (.iload_n 2, 1) := by decide +kernel
theorem d_MO_make_97 : decode M_MO_make.2.1 97 = .ok (.iload 5, 2) := by decide +kernel
theorem d_MO_make_99 : decode M_MO_make.2.1 99 = .ok (.invokevirtual 52, 3) := by decide +kernel
theorem d_MO_make_102 : decode M_MO_make.2.1 102 = .ok (.istore 5, 2) := by decide +kernel
theorem d_MO_make_104 : decode M_MO_make.2.1 104 = .ok (.goto (-86), 3) := by decide +kernel
theorem d_MO_make_107 : decode M_MO_make.2.1 107 = .ok (.iconst 0, 1) := by decide +kernel
theorem d_MO_make_108 : decode M_MO_make.2.1 108 = .ok (.istore 6, 2) := by decide +kernel
theorem d_MO_make_110 : decode M_MO_make.2.1 110 = .ok (.iload 6, 2) := by decide +kernel
theorem d_MO_make_112 : decode M_MO_make.2.1 112 = .ok (.aload_n 0, 1) := by decide +kernel
theorem d_MO_make_113 : decode M_MO_make.2.1 113 = .ok (.getfield 23, 3) := by decide +kernel
theorem d_MO_make_116 : decode M_MO_make.2.1 116 = .ok (.iload_n 1, 1) := by decide +kernel
theorem d_MO_make_117 : decode M_MO_make.2.1 117 = .ok (.iaload, 1) := by decide +kernel
theorem d_MO_make_118 : decode M_MO_make.2.1 118 = .ok (.if_icmp .ge 41, 3) := by decide +kernel
theorem d_MO_make_121 : decode M_MO_make.2.1 121 = .ok (.aload_n 0, 1) := by decide +kernel
theorem d_MO_make_122 : decode M_MO_make.2.1 122 = .ok (.getfield 19, 3) := by decide +kernel
theorem d_MO_make_125 : decode M_MO_make.2.1 125 = .ok (.bipush 20, 2) := by decide +kernel
theorem d_MO_make_127 : decode M_MO_make.2.1 127 = .ok (.iload_n 1, 1) := by decide +kernel
theorem d_MO_make_128 : decode M_MO_make.2.1 128 = .ok (.imul, 1) := by decide +kernel
theorem d_MO_make_129 : decode M_MO_make.2.1 129 = .ok (.iload 6, 2) := by decide +kernel
theorem d_MO_make_131 : decode M_MO_make.2.1 131 = .ok (.iadd, 1) := by decide +kernel
theorem d_MO_make_132 : decode M_MO_make.2.1 132 = .ok (.laload, 1) := by decide +kernel
theorem d_MO_make_133 : decode M_MO_make.2.1 133 = .ok (.lstore 7, 2) := by decide +kernel
theorem d_MO_make_135 : decode M_MO_make.2.1 135 = .ok (.aload_n 0, 1) := by decide +kernel
theorem d_MO_make_136 : decode M_MO_make.2.1 136 = .ok (.lload 7, 2) := by decide +kernel
theorem d_MO_make_138 : decode M_MO_make.2.1 138 = .ok (.iconst 1, 1) := by decide +kernel
theorem d_MO_make_139 : decode M_MO_make.2.1 139 = .ok (.aload_n 0, 1) := by decide +kernel
theorem d_MO_make_140 : decode M_MO_make.2.1 140 = .ok (.iload_n 2, 1) := by decide +kernel
theorem d_MO_make_141 : decode M_MO_make.2.1 141 = .ok (.lload 7, 2) := by decide +kernel
theorem d_MO_make_143 : decode M_MO_make.2.1 143 = .ok (.invokevirtual 64, 3) := by decide +kernel
theorem d_MO_make_146 : decode M_MO_make.2.1 146 = .ok (.iload_n 3, 1) := by decide +kernel
theorem d_MO_make_147 : decode M_MO_make.2.1 147 = .ok (.invokestatic 60, 3) := by decide +kernel
theorem d_MO_make_150 : decode M_MO_make.2.1 150 = .ok (.invokevirtual 68, 3) := by decide +kernel
theorem d_MO_make_153 : decode M_MO_make.2.1 153 = .ok (.iinc 6 1, 3) := by decide +kernel
theorem d_MO_make_156 : decode M_MO_make.2.1 156 = .ok (.goto (-46), 3) := by decide +kernel
theorem d_MO_make_159 : decode M_MO_make.2.1 159 = .ok (.iconst 0, 1) := by decide +kernel
theorem d_MO_make_160 : decode M_MO_make.2.1 160 = .ok (.istore 6, 2) := by decide +kernel
theorem d_MO_make_162 : decode M_MO_make.2.1 162 = .ok (.iload 6, 2) := by decide +kernel
theorem d_MO_make_164 : decode M_MO_make.2.1 164 = .ok (.aload_n 0, 1) := by decide +kernel
theorem d_MO_make_165 : decode M_MO_make.2.1 165 = .ok (.getfield 23, 3) := by decide +kernel
theorem d_MO_make_168 : decode M_MO_make.2.1 168 = .ok (.iload_n 2, 1) := by decide +kernel
theorem d_MO_make_169 : decode M_MO_make.2.1 169 = .ok (.iaload, 1) := by decide +kernel
theorem d_MO_make_170 : decode M_MO_make.2.1 170 = .ok (.if_icmp .ge 57, 3) := by decide +kernel
theorem d_MO_make_173 : decode M_MO_make.2.1 173 = .ok (.aload_n 0, 1) := by decide +kernel
theorem d_MO_make_174 : decode M_MO_make.2.1 174 = .ok (.getfield 19, 3) := by decide +kernel
theorem d_MO_make_177 : decode M_MO_make.2.1 177 = .ok (.bipush 20, 2) := by decide +kernel
theorem d_MO_make_179 : decode M_MO_make.2.1 179 = .ok (.iload_n 2, 1) := by decide +kernel
theorem d_MO_make_180 : decode M_MO_make.2.1 180 = .ok (.imul, 1) := by decide +kernel
theorem d_MO_make_181 : decode M_MO_make.2.1 181 = .ok (.iload 6, 2) := by decide +kernel
theorem d_MO_make_183 : decode M_MO_make.2.1 183 = .ok (.iadd, 1) := by decide +kernel
theorem d_MO_make_184 : decode M_MO_make.2.1 184 = .ok (.laload, 1) := by decide +kernel
theorem d_MO_make_185 : decode M_MO_make.2.1 185 = .ok (.lstore 7, 2) := by decide +kernel
theorem d_MO_make_187 : decode M_MO_make.2.1 187 = .ok (.aload_n 0, 1) := by decide +kernel
theorem d_MO_make_188 : decode M_MO_make.2.1 188 = .ok (.iload_n 1, 1) := by decide +kernel
theorem d_MO_make_189 : decode M_MO_make.2.1 189 = .ok (.lload 7, 2) := by decide +kernel
theorem d_MO_make_191 : decode M_MO_make.2.1 191 = .ok (.invokevirtual 64, 3) := by decide +kernel
theorem d_MO_make_194 : decode M_MO_make.2.1 194 = .ok (.istore 9, 2) := by decide +kernel
theorem d_MO_make_196 : decode M_MO_make.2.1 196 = .ok (.aload_n 0, 1) := by decide +kernel
theorem d_MO_make_197 : decode M_MO_make.2.1 197 = .ok (.lload 7, 2) := by decide +kernel
theorem d_MO_make_199 : decode M_MO_make.2.1 199 = .ok (.iload 9, 2) := by decide +kernel
theorem d_MO_make_201 : decode M_MO_make.2.1 201 = .ok (.ifCond .ne 16, 3) := by decide +kernel
theorem d_MO_make_204 : decode M_MO_make.2.1 204 = .ok (.iconst 0, 1) := by decide +kernel
theorem d_MO_make_205 : decode M_MO_make.2.1 205 = .ok (.iconst 1, 1) := by decide +kernel
theorem d_MO_make_206 : decode M_MO_make.2.1 206 = .ok (.iload_n 3, 1) := by decide +kernel
theorem d_MO_make_207 : decode M_MO_make.2.1 207 = .ok (.invokestatic 60, 3) := by decide +kernel
theorem d_MO_make_210 : decode M_MO_make.2.1 210 = .ok (.ifCond .eq 7, 3) := by decide +kernel
theorem d_MO_make_213 : decode M_MO_make.2.1 213 = .ok (.iconst 1, 1) := by decide +kernel
theorem d_MO_make_214 : decode M_MO_make.2.1 214 = .ok (.goto 4, 3) := by decide +kernel
theorem d_MO_make_217 : decode M_MO_make.2.1 217 = .ok (.iconst 0, 1) := by decide +kernel
theorem d_MO_make_218 : decode M_MO_make.2.1 218 = .ok (.invokevirtual 68, 3) := by decide +kernel
theorem d_MO_make_221 : decode M_MO_make.2.1 221 = .ok (.iinc 6 1, 3) := by decide +kernel
theorem d_MO_make_224 : decode M_MO_make.2.1 224 = .ok (.goto (-62), 3) := by decide +kernel
theorem d_MO_make_227 : decode M_MO_make.2.1 227 = .ok (.return_, 1) := by decide +kernel
theorem d_MO_keepString_0 : decode M_MO_keepString.2.1 0 = .ok (.iload_n 3, 1) := by decide +kernel
theorem d_MO_keepString_1 : decode M_MO_keepString.2.1 1 = .ok (.ifCond .eq 36, 3) := by decide +kernel
theorem d_MO_keepString_4 : decode M_MO_keepString.2.1 4 = .ok (.aload_n 0, 1) := by decide +kernel
theorem d_MO_keepString_5 : decode M_MO_keepString.2.1 5 = .ok (.getfield 19, 3) := by decide +kernel
theorem d_MO_keepString_8 : decode M_MO_keepString.2.1 8 = .ok (.sipush 200, 3) := by decide +kernel
theorem d_MO_keepString_11 : decode M_MO_keepString.2.1 11 = .ok (.aload_n 0, 1) := by decide +kernel
theorem d_MO_keepString_12 : decode M_MO_keepString.2.1 12 = .ok (.getfield 23, 3) := by decide +kernel
theorem d_MO_keepString_15 : decode M_MO_keepString.2.1 15 = .ok (.bipush 10, 2) := by decide +kernel
theorem d_MO_keepString_17 : decode M_MO_keepString.2.1 17 = .ok (.iaload, 1) := by decide +kernel
theorem d_MO_keepString_18 : decode M_MO_keepString.2.1 18 = .ok (.iadd, 1) := by decide +kernel
theorem d_MO_keepString_19 : decode M_MO_keepString.2.1 19 = .ok (.lload_n 1, 1) := by decide +kernel
theorem d_MO_keepString_20 : decode M_MO_keepString.2.1 20 = .ok (.lastore, 1) := by decide +kernel
theorem d_MO_keepString_21 : decode M_MO_keepString.2.1 21 = .ok (.aload_n 0, 1) := by decide +kernel
theorem d_MO_keepString_22 : decode M_MO_keepString.2.1 22 = .ok (.getfield 23, 3) := by decide +kernel
theorem d_MO_keepString_25 : decode M_MO_keepString.2.1 25 = .ok (.bipush 10, 2) := by decide +kernel
theorem d_MO_keepString_27 : decode M_MO_keepString.2.1 27 = .ok (.aload_n 0, 1) := by decide +kernel
theorem d_MO_keepString_28 : decode M_MO_keepString.2.1 28 = .ok (.getfield 23, 3) := by decide +kernel
theorem d_MO_keepString_31 : decode M_MO_keepString.2.1 31 = .ok (.bipush 10, 2) := by decide +kernel
theorem d_MO_keepString_33 : decode M_MO_keepString.2.1 33 = .ok (.iaload, 1) := by decide +kernel
theorem d_MO_keepString_34 : decode M_MO_keepString.2.1 34 = .ok (.iconst 1, 1) := by decide +kernel
theorem d_MO_keepString_35 : decode M_MO_keepString.2.1 35 = .ok (.iadd, 1) := by decide +kernel
theorem d_MO_keepString_36 : decode M_MO_keepString.2.1 36 = .ok (.iastore, 1) := by decide +kernel
theorem d_MO_keepString_37 : decode M_MO_keepString.2.1 37 = .ok (.return_, 1) := by decide +kernel
theorem d_MO_copy_0 : decode M_MO_copy.2.1 0 = .ok (.aload_n 0, 1) := by decide +kernel
theorem d_MO_copy_1 : decode M_MO_copy.2.1 1 = .ok (.getfield 16, 3) := by decide +kernel
theorem d_MO_copy_4 : decode M_MO_copy.2.1 4 = .ok (.iload_n 2, 1) := by decide +kernel
theorem d_MO_copy_5 : decode M_MO_copy.2.1 5 = .ok (.aload_n 0, 1) := by decide +kernel
theorem d_MO_copy_6 : decode M_MO_copy.2.1 6 = .ok (.getfield 16, 3) := by decide +kernel
theorem d_MO_copy_9 : decode M_MO_copy.2.1 9 = .ok (.iload_n 1, 1) := by decide +kernel
theorem d_MO_copy_10 : decode M_MO_copy.2.1 10 = .ok (.iaload, 1) := by decide +kernel
theorem d_MO_copy_11 : decode M_MO_copy.2.1 11 = .ok (.iastore, 1) := by decide +kernel
theorem d_MO_copy_12 : decode M_MO_copy.2.1 12 = .ok (.aload_n 0, 1) := by decide +kernel
theorem d_MO_copy_13 : decode M_MO_copy.2.1 13 = .ok (.getfield 23, 3) := by decide +kernel
theorem d_MO_copy_16 : decode M_MO_copy.2.1 16 = .ok (.iload_n 2, 1) := by decide +kernel
theorem d_MO_copy_17 : decode M_MO_copy.2.1 17 = .ok (.aload_n 0, 1) := by decide +kernel
theorem d_MO_copy_18 : decode M_MO_copy.2.1 18 = .ok (.getfield 23, 3) := by decide +kernel
theorem d_MO_copy_21 : decode M_MO_copy.2.1 21 = .ok (.iload_n 1, 1) := by decide +kernel
theorem d_MO_copy_22 : decode M_MO_copy.2.1 22 = .ok (.iaload, 1) := by decide +kernel
theorem d_MO_copy_23 : decode M_MO_copy.2.1 23 = .ok (.iastore, 1) := by decide +kernel
theorem d_MO_copy_24 : decode M_MO_copy.2.1 24 = .ok (.iconst 0, 1) := by decide +kernel
theorem d_MO_copy_25 : decode M_MO_copy.2.1 25 = .ok (.istore_n 3, 1) := by decide +kernel
theorem d_MO_copy_26 : decode M_MO_copy.2.1 26 = .ok (.iload_n 3, 1) := by decide +kernel
theorem d_MO_copy_27 : decode M_MO_copy.2.1 27 = .ok (.aload_n 0, 1) := by decide +kernel
theorem d_MO_copy_28 : decode M_MO_copy.2.1 28 = .ok (.getfield 16, 3) := by decide +kernel
theorem d_MO_copy_31 : decode M_MO_copy.2.1 31 = .ok (.iload_n 1, 1) := by decide +kernel
theorem d_MO_copy_32 : decode M_MO_copy.2.1 32 = .ok (.iaload, 1) := by decide +kernel
theorem d_MO_copy_33 : decode M_MO_copy.2.1 33 = .ok (.if_icmp .ge 33, 3) := by decide +kernel
theorem d_MO_copy_36 : decode M_MO_copy.2.1 36 = .ok (.aload_n 0, 1) := by decide +kernel
theorem d_MO_copy_37 : decode M_MO_copy.2.1 37 = .ok (.getfield 13, 3) := by decide +kernel
theorem d_MO_copy_40 : decode M_MO_copy.2.1 40 = .ok (.sipush 420, 3) := by decide +kernel
theorem d_MO_copy_43 : decode M_MO_copy.2.1 43 = .ok (.iload_n 2, 1) := by decide +kernel
theorem d_MO_copy_44 : decode M_MO_copy.2.1 44 = .ok (.imul, 1) := by decide +kernel
theorem d_MO_copy_45 : decode M_MO_copy.2.1 45 = .ok (.iload_n 3, 1) := by decide +kernel
theorem d_MO_copy_46 : decode M_MO_copy.2.1 46 = .ok (.iadd, 1) := by decide +kernel
theorem d_MO_copy_47 : decode M_MO_copy.2.1 47 = .ok (.aload_n 0, 1) := by decide +kernel
theorem d_MO_copy_48 : decode M_MO_copy.2.1 48 = .ok (.getfield 13, 3) := by decide +kernel
theorem d_MO_copy_51 : decode M_MO_copy.2.1 51 = .ok (.sipush 420, 3) := by decide +kernel
theorem d_MO_copy_54 : decode M_MO_copy.2.1 54 = .ok (.iload_n 1, 1) := by decide +kernel
theorem d_MO_copy_55 : decode M_MO_copy.2.1 55 = .ok (.imul, 1) := by decide +kernel
theorem d_MO_copy_56 : decode M_MO_copy.2.1 56 = .ok (.iload_n 3, 1) := by decide +kernel
theorem d_MO_copy_57 : decode M_MO_copy.2.1 57 = .ok (.iadd, 1) := by decide +kernel
theorem d_MO_copy_58 : decode M_MO_copy.2.1 58 = .ok (.iaload, 1) := by decide +kernel
theorem d_MO_copy_59 : decode M_MO_copy.2.1 59 = .ok (.iastore, 1) := by decide +kernel
theorem d_MO_copy_60 : decode M_MO_copy.2.1 60 = .ok (.iinc 3 1, 3) := by decide +kernel
theorem d_MO_copy_63 : decode M_MO_copy.2.1 63 = .ok (.goto (-37), 3) := by decide +kernel
theorem d_MO_copy_66 : decode M_MO_copy.2.1 66 = .ok (.iconst 0, 1) := by decide +kernel
theorem d_MO_copy_67 : decode M_MO_copy.2.1 67 = .ok (.istore_n 3, 1) := by decide +kernel
theorem d_MO_copy_68 : decode M_MO_copy.2.1 68 = .ok (.iload_n 3, 1) := by decide +kernel
theorem d_MO_copy_69 : decode M_MO_copy.2.1 69 = .ok (.aload_n 0, 1) := by decide +kernel
theorem d_MO_copy_70 : decode M_MO_copy.2.1 70 = .ok (.getfield 23, 3) := by decide +kernel
theorem d_MO_copy_73 : decode M_MO_copy.2.1 73 = .ok (.iload_n 1, 1) := by decide +kernel
theorem d_MO_copy_74 : decode M_MO_copy.2.1 74 = .ok (.iaload, 1) := by decide +kernel
theorem d_MO_copy_75 : decode M_MO_copy.2.1 75 = .ok (.if_icmp .ge 31, 3) := by decide +kernel
theorem d_MO_copy_78 : decode M_MO_copy.2.1 78 = .ok (.aload_n 0, 1) := by decide +kernel
theorem d_MO_copy_79 : decode M_MO_copy.2.1 79 = .ok (.getfield 19, 3) := by decide +kernel
theorem d_MO_copy_82 : decode M_MO_copy.2.1 82 = .ok (.bipush 20, 2) := by decide +kernel
theorem d_MO_copy_84 : decode M_MO_copy.2.1 84 = .ok (.iload_n 2, 1) := by decide +kernel
theorem d_MO_copy_85 : decode M_MO_copy.2.1 85 = .ok (.imul, 1) := by decide +kernel
theorem d_MO_copy_86 : decode M_MO_copy.2.1 86 = .ok (.iload_n 3, 1) := by decide +kernel
theorem d_MO_copy_87 : decode M_MO_copy.2.1 87 = .ok (.iadd, 1) := by decide +kernel
theorem d_MO_copy_88 : decode M_MO_copy.2.1 88 = .ok (.aload_n 0, 1) := by decide +kernel
theorem d_MO_copy_89 : decode M_MO_copy.2.1 89 = .ok (.getfield 19, 3) := by decide +kernel
theorem d_MO_copy_92 : decode M_MO_copy.2.1 92 = .ok (.bipush 20, 2) := by decide +kernel
theorem d_MO_copy_94 : decode M_MO_copy.2.1 94 = .ok (.iload_n 1, 1) := by decide +kernel
theorem d_MO_copy_95 : decode M_MO_copy.2.1 95 = .ok (.imul, 1) := by decide +kernel
theorem d_MO_copy_96 : decode M_MO_copy.2.1 96 = .ok (.iload_n 3, 1) := by decide +kernel
theorem d_MO_copy_97 : decode M_MO_copy.2.1 97 = .ok (.iadd, 1) := by decide +kernel
theorem d_MO_copy_98 : decode M_MO_copy.2.1 98 = .ok (.laload, 1) := by decide +kernel
theorem d_MO_copy_99 : decode M_MO_copy.2.1 99 = .ok (.lastore, 1) := by decide +kernel
theorem d_MO_copy_100 : decode M_MO_copy.2.1 100 = .ok (.iinc 3 1, 3) := by decide +kernel
theorem d_MO_copy_103 : decode M_MO_copy.2.1 103 = .ok (.goto (-35), 3) := by decide +kernel
theorem d_MO_copy_106 : decode M_MO_copy.2.1 106 = .ok (.return_, 1) := by decide +kernel
theorem d_MO_join_0 : decode M_MO_join.2.1 0 = .ok (.aload_n 0, 1) := by decide +kernel
theorem d_MO_join_1 : decode M_MO_join.2.1 1 = .ok (.iload_n 1, 1) := by decide +kernel
theorem d_MO_join_2 : decode M_MO_join.2.1 2 = .ok (.iload_n 2, 1) := by decide +kernel
theorem d_MO_join_3 : decode M_MO_join.2.1 3 = .ok (.iload_n 3, 1) := by decide +kernel
theorem d_MO_join_4 : decode M_MO_join.2.1 4 = .ok (.invokevirtual 72, 3) := by decide +kernel
theorem d_MO_join_7 : decode M_MO_join.2.1 7 = .ok (.aload_n 0, 1) := by decide +kernel
theorem d_MO_join_8 : decode M_MO_join.2.1 8 = .ok (.bipush 10, 2) := by decide +kernel
theorem d_MO_join_10 : decode M_MO_join.2.1 10 = .ok (.iload_n 1, 1) := by decide +kernel
theorem d_MO_join_11 : decode M_MO_join.2.1 11 = .ok (.invokevirtual 76, 3) := by decide +kernel
theorem d_MO_join_14 : decode M_MO_join.2.1 14 = .ok (.return_, 1) := by decide +kernel
theorem d_MO_addRange_0 : decode M_MO_addRange.2.1 0 = .ok (.aload_n 0, 1) := by decide +kernel
theorem d_MO_addRange_1 : decode M_MO_addRange.2.1 1 = .ok (.bipush 9, 2) := by decide +kernel
theorem d_MO_addRange_3 : decode M_MO_addRange.2.1 3 = .ok (.invokevirtual 48, 3) := by decide +kernel
theorem d_MO_addRange_6 : decode M_MO_addRange.2.1 6 = .ok (.aload_n 0, 1) := by decide +kernel
theorem d_MO_addRange_7 : decode M_MO_addRange.2.1 7 = .ok (.getfield 13, 3) := by decide +kernel
theorem d_MO_addRange_10 : decode M_MO_addRange.2.1 10 = .ok (.sipush 3780, 3) := by decide +kernel
theorem d_MO_addRange_13 : decode M_MO_addRange.2.1 13 = .ok (.iload_n 2, 1) := by decide +kernel
theorem d_MO_addRange_14 : decode M_MO_addRange.2.1 14 = .ok (.iastore, 1) := by decide +kernel
theorem d_MO_addRange_15 : decode M_MO_addRange.2.1 15 = .ok (.aload_n 0, 1) := by decide +kernel
theorem d_MO_addRange_16 : decode M_MO_addRange.2.1 16 = .ok (.getfield 13, 3) := by decide +kernel
theorem d_MO_addRange_19 : decode M_MO_addRange.2.1 19 = .ok (.sipush 3781, 3) := by decide +kernel
theorem d_MO_addRange_22 : decode M_MO_addRange.2.1 22 = .ok (.iload_n 3, 1) := by decide +kernel
theorem d_MO_addRange_23 : decode M_MO_addRange.2.1 23 = .ok (.iconst 1, 1) := by decide +kernel
theorem d_MO_addRange_24 : decode M_MO_addRange.2.1 24 = .ok (.iadd, 1) := by decide +kernel
theorem d_MO_addRange_25 : decode M_MO_addRange.2.1 25 = .ok (.iastore, 1) := by decide +kernel
theorem d_MO_addRange_26 : decode M_MO_addRange.2.1 26 = .ok (.aload_n 0, 1) := by decide +kernel
theorem d_MO_addRange_27 : decode M_MO_addRange.2.1 27 = .ok (.getfield 16, 3) := by decide +kernel
theorem d_MO_addRange_30 : decode M_MO_addRange.2.1 30 = .ok (.bipush 9, 2) := by decide +kernel
theorem d_MO_addRange_32 : decode M_MO_addRange.2.1 32 = .ok (.iconst 2, 1) := by decide +kernel
theorem d_MO_addRange_33 : decode M_MO_addRange.2.1 33 = .ok (.iastore, 1) := by decide +kernel
theorem d_MO_addRange_34 : decode M_MO_addRange.2.1 34 = .ok (.aload_n 0, 1) := by decide +kernel
theorem d_MO_addRange_35 : decode M_MO_addRange.2.1 35 = .ok (.iload_n 1, 1) := by decide +kernel
theorem d_MO_addRange_36 : decode M_MO_addRange.2.1 36 = .ok (.bipush 9, 2) := by decide +kernel
theorem d_MO_addRange_38 : decode M_MO_addRange.2.1 38 = .ok (.iconst 0, 1) := by decide +kernel
theorem d_MO_addRange_39 : decode M_MO_addRange.2.1 39 = .ok (.invokevirtual 80, 3) := by decide +kernel
theorem d_MO_addRange_42 : decode M_MO_addRange.2.1 42 = .ok (.return_, 1) := by decide +kernel
theorem d_MO_stringOf_0 : decode M_MO_stringOf.2.1 0 = .ok (.iload_n 3, 1) := by decide +kernel
theorem d_MO_stringOf_1 : decode M_MO_stringOf.2.1 1 = .ok (.ifCond .eq 10, 3) := by decide +kernel
theorem d_MO_stringOf_4 : decode M_MO_stringOf.2.1 4 = .ok (.iload_n 2, 1) := by decide +kernel
theorem d_MO_stringOf_5 : decode M_MO_stringOf.2.1 5 = .ok (.i2l, 1) := by decide +kernel
theorem d_MO_stringOf_6 : decode M_MO_stringOf.2.1 6 = .ok (.lconst 1, 1) := by decide +kernel
theorem d_MO_stringOf_7 : decode M_MO_stringOf.2.1 7 = .ok (.ladd, 1) := by decide +kernel
theorem d_MO_stringOf_8 : decode M_MO_stringOf.2.1 8 = .ok (.goto 4, 3) := by decide +kernel
theorem d_MO_stringOf_11 : decode M_MO_stringOf.2.1 11 = .ok (.lconst 0, 1) := by decide +kernel
theorem d_MO_stringOf_12 : decode M_MO_stringOf.2.1 12 = .ok (.lstore 4, 2) := by decide +kernel
theorem d_MO_stringOf_14 : decode M_MO_stringOf.2.1 14 = .ok (.iload_n 0, 1) := by decide +kernel
theorem d_MO_stringOf_15 : decode M_MO_stringOf.2.1 15 = .ok (.i2l, 1) := by decide +kernel
theorem d_MO_stringOf_16 : decode M_MO_stringOf.2.1 16 = .ok (.bipush 42, 2) := by decide +kernel
theorem d_MO_stringOf_18 : decode M_MO_stringOf.2.1 18 = .ok (.lshl, 1) := by decide +kernel
theorem d_MO_stringOf_19 : decode M_MO_stringOf.2.1 19 = .ok (.iload_n 1, 1) := by decide +kernel
theorem d_MO_stringOf_20 : decode M_MO_stringOf.2.1 20 = .ok (.i2l, 1) := by decide +kernel
theorem d_MO_stringOf_21 : decode M_MO_stringOf.2.1 21 = .ok (.bipush 21, 2) := by decide +kernel
theorem d_MO_stringOf_23 : decode M_MO_stringOf.2.1 23 = .ok (.lshl, 1) := by decide +kernel
theorem d_MO_stringOf_24 : decode M_MO_stringOf.2.1 24 = .ok (.ladd, 1) := by decide +kernel
theorem d_MO_stringOf_25 : decode M_MO_stringOf.2.1 25 = .ok (.lload 4, 2) := by decide +kernel
theorem d_MO_stringOf_27 : decode M_MO_stringOf.2.1 27 = .ok (.ladd, 1) := by decide +kernel
theorem d_MO_stringOf_28 : decode M_MO_stringOf.2.1 28 = .ok (.lreturn, 1) := by decide +kernel
theorem d_MO_is_0 : decode M_MO_is.2.1 0 = .ok (.iload_n 1, 1) := by decide +kernel
theorem d_MO_is_1 : decode M_MO_is.2.1 1 = .ok (.aload_n 0, 1) := by decide +kernel
theorem d_MO_is_2 : decode M_MO_is.2.1 2 = .ok (.getfield 43, 3) := by decide +kernel
theorem d_MO_is_5 : decode M_MO_is.2.1 5 = .ok (.if_icmp .ge 17, 3) := by decide +kernel
theorem d_MO_is_8 : decode M_MO_is.2.1 8 = .ok (.aload_n 0, 1) := by decide +kernel
theorem d_MO_is_9 : decode M_MO_is.2.1 9 = .ok (.getfield 7, 3) := by decide +kernel
theorem d_MO_is_12 : decode M_MO_is.2.1 12 = .ok (.iload_n 1, 1) := by decide +kernel
theorem d_MO_is_13 : decode M_MO_is.2.1 13 = .ok (.iaload, 1) := by decide +kernel
theorem d_MO_is_14 : decode M_MO_is.2.1 14 = .ok (.iload_n 2, 1) := by decide +kernel
theorem d_MO_is_15 : decode M_MO_is.2.1 15 = .ok (.if_icmp .ne 7, 3) := by decide +kernel
theorem d_MO_is_18 : decode M_MO_is.2.1 18 = .ok (.iconst 1, 1) := by decide +kernel
theorem d_MO_is_19 : decode M_MO_is.2.1 19 = .ok (.goto 4, 3) := by decide +kernel
theorem d_MO_is_22 : decode M_MO_is.2.1 22 = .ok (.iconst 0, 1) := by decide +kernel
theorem d_MO_is_23 : decode M_MO_is.2.1 23 = .ok (.ireturn, 1) := by decide +kernel
theorem d_MO_pastSpaces_0 : decode M_MO_pastSpaces.2.1 0 = .ok (.iload_n 1, 1) := by decide +kernel
theorem d_MO_pastSpaces_1 : decode M_MO_pastSpaces.2.1 1 = .ok (.istore_n 2, 1) := by decide +kernel
theorem d_MO_pastSpaces_2 : decode M_MO_pastSpaces.2.1 2 = .ok (.aload_n 0, 1) := by decide +kernel
theorem d_MO_pastSpaces_3 : decode M_MO_pastSpaces.2.1 3 = .ok (.iload_n 2, 1) := by decide +kernel
theorem d_MO_pastSpaces_4 : decode M_MO_pastSpaces.2.1 4 = .ok (.bipush 32, 2) := by decide +kernel
theorem d_MO_pastSpaces_6 : decode M_MO_pastSpaces.2.1 6 = .ok (.invokevirtual 83, 3) := by decide +kernel
theorem d_MO_pastSpaces_9 : decode M_MO_pastSpaces.2.1 9 = .ok (.ifCond .eq 10, 3) := by decide +kernel
theorem d_MO_pastSpaces_12 : decode M_MO_pastSpaces.2.1 12 = .ok (.iload_n 2, 1) := by decide +kernel
theorem d_MO_pastSpaces_13 : decode M_MO_pastSpaces.2.1 13 = .ok (.iconst 1, 1) := by decide +kernel
theorem d_MO_pastSpaces_14 : decode M_MO_pastSpaces.2.1 14 = .ok (.iadd, 1) := by decide +kernel
theorem d_MO_pastSpaces_15 : decode M_MO_pastSpaces.2.1 15 = .ok (.istore_n 2, 1) := by decide +kernel
theorem d_MO_pastSpaces_16 : decode M_MO_pastSpaces.2.1 16 = .ok (.goto (-14), 3) := by decide +kernel
theorem d_MO_pastSpaces_19 : decode M_MO_pastSpaces.2.1 19 = .ok (.iload_n 2, 1) := by decide +kernel
theorem d_MO_pastSpaces_20 : decode M_MO_pastSpaces.2.1 20 = .ok (.ireturn, 1) := by decide +kernel
theorem d_MO_letter_0 : decode M_MO_letter.2.1 0 = .ok (.iload_n 0, 1) := by decide +kernel
theorem d_MO_letter_1 : decode M_MO_letter.2.1 1 = .ok (.bipush 97, 2) := by decide +kernel
theorem d_MO_letter_3 : decode M_MO_letter.2.1 3 = .ok (.if_icmp .lt 9, 3) := by decide +kernel
theorem d_MO_letter_6 : decode M_MO_letter.2.1 6 = .ok (.iload_n 0, 1) := by decide +kernel
theorem d_MO_letter_7 : decode M_MO_letter.2.1 7 = .ok (.bipush 122, 2) := by decide +kernel
theorem d_MO_letter_9 : decode M_MO_letter.2.1 9 = .ok (.if_icmp .le 15, 3) := by decide +kernel
theorem d_MO_letter_12 : decode M_MO_letter.2.1 12 = .ok (.iload_n 0, 1) := by decide +kernel
theorem d_MO_letter_13 : decode M_MO_letter.2.1 13 = .ok (.bipush 65, 2) := by decide +kernel
theorem d_MO_letter_15 : decode M_MO_letter.2.1 15 = .ok (.if_icmp .lt 13, 3) := by decide +kernel
theorem d_MO_letter_18 : decode M_MO_letter.2.1 18 = .ok (.iload_n 0, 1) := by decide +kernel
theorem d_MO_letter_19 : decode M_MO_letter.2.1 19 = .ok (.bipush 90, 2) := by decide +kernel
theorem d_MO_letter_21 : decode M_MO_letter.2.1 21 = .ok (.if_icmp .gt 7, 3) := by decide +kernel
theorem d_MO_letter_24 : decode M_MO_letter.2.1 24 = .ok (.iconst 1, 1) := by decide +kernel
theorem d_MO_letter_25 : decode M_MO_letter.2.1 25 = .ok (.goto 4, 3) := by decide +kernel
theorem d_MO_letter_28 : decode M_MO_letter.2.1 28 = .ok (.iconst 0, 1) := by decide +kernel
theorem d_MO_letter_29 : decode M_MO_letter.2.1 29 = .ok (.ireturn, 1) := by decide +kernel
theorem d_MO_hex_0 : decode M_MO_hex.2.1 0 = .ok (.iload_n 0, 1) := by decide +kernel
theorem d_MO_hex_1 : decode M_MO_hex.2.1 1 = .ok (.bipush 48, 2) := by decide +kernel
theorem d_MO_hex_3 : decode M_MO_hex.2.1 3 = .ok (.if_icmp .lt 14, 3) := by decide +kernel
theorem d_MO_hex_6 : decode M_MO_hex.2.1 6 = .ok (.iload_n 0, 1) := by decide +kernel
theorem d_MO_hex_7 : decode M_MO_hex.2.1 7 = .ok (.bipush 57, 2) := by decide +kernel
theorem d_MO_hex_9 : decode M_MO_hex.2.1 9 = .ok (.if_icmp .gt 8, 3) := by decide +kernel
theorem d_MO_hex_12 : decode M_MO_hex.2.1 12 = .ok (.iload_n 0, 1) := by decide +kernel
theorem d_MO_hex_13 : decode M_MO_hex.2.1 13 = .ok (.bipush 48, 2) := by decide +kernel
theorem d_MO_hex_15 : decode M_MO_hex.2.1 15 = .ok (.isub, 1) := by decide +kernel
theorem d_MO_hex_16 : decode M_MO_hex.2.1 16 = .ok (.ireturn, 1) := by decide +kernel
theorem d_MO_hex_17 : decode M_MO_hex.2.1 17 = .ok (.iload_n 0, 1) := by decide +kernel
theorem d_MO_hex_18 : decode M_MO_hex.2.1 18 = .ok (.bipush 97, 2) := by decide +kernel
theorem d_MO_hex_20 : decode M_MO_hex.2.1 20 = .ok (.if_icmp .lt 19, 3) := by decide +kernel
theorem d_MO_hex_23 : decode M_MO_hex.2.1 23 = .ok (.iload_n 0, 1) := by decide +kernel
theorem d_MO_hex_24 : decode M_MO_hex.2.1 24 = .ok (.bipush 102, 2) := by decide +kernel
theorem d_MO_hex_26 : decode M_MO_hex.2.1 26 = .ok (.if_icmp .gt 13, 3) := by decide +kernel
theorem d_MO_hex_29 : decode M_MO_hex.2.1 29 = .ok (.iload_n 0, 1) := by decide +kernel
theorem d_MO_hex_30 : decode M_MO_hex.2.1 30 = .ok (.bipush 97, 2) := by decide +kernel
theorem d_MO_hex_32 : decode M_MO_hex.2.1 32 = .ok (.isub, 1) := by decide +kernel
theorem d_MO_hex_33 : decode M_MO_hex.2.1 33 = .ok (.bipush 10, 2) := by decide +kernel
theorem d_MO_hex_35 : decode M_MO_hex.2.1 35 = .ok (.iadd, 1) := by decide +kernel
theorem d_MO_hex_36 : decode M_MO_hex.2.1 36 = .ok (.goto 26, 3) := by decide +kernel
theorem d_MO_hex_39 : decode M_MO_hex.2.1 39 = .ok (.iload_n 0, 1) := by decide +kernel
theorem d_MO_hex_40 : decode M_MO_hex.2.1 40 = .ok (.bipush 65, 2) := by decide +kernel
theorem d_MO_hex_42 : decode M_MO_hex.2.1 42 = .ok (.if_icmp .lt 19, 3) := by decide +kernel
theorem d_MO_hex_45 : decode M_MO_hex.2.1 45 = .ok (.iload_n 0, 1) := by decide +kernel
theorem d_MO_hex_46 : decode M_MO_hex.2.1 46 = .ok (.bipush 70, 2) := by decide +kernel
theorem d_MO_hex_48 : decode M_MO_hex.2.1 48 = .ok (.if_icmp .gt 13, 3) := by decide +kernel
theorem d_MO_hex_51 : decode M_MO_hex.2.1 51 = .ok (.iload_n 0, 1) := by decide +kernel
theorem d_MO_hex_52 : decode M_MO_hex.2.1 52 = .ok (.bipush 65, 2) := by decide +kernel
theorem d_MO_hex_54 : decode M_MO_hex.2.1 54 = .ok (.isub, 1) := by decide +kernel
theorem d_MO_hex_55 : decode M_MO_hex.2.1 55 = .ok (.bipush 10, 2) := by decide +kernel
theorem d_MO_hex_57 : decode M_MO_hex.2.1 57 = .ok (.iadd, 1) := by decide +kernel
theorem d_MO_hex_58 : decode M_MO_hex.2.1 58 = .ok (.goto 4, 3) := by decide +kernel
theorem d_MO_hex_61 : decode M_MO_hex.2.1 61 = .ok (.iconst (-1), 1) := by decide +kernel
theorem d_MO_hex_62 : decode M_MO_hex.2.1 62 = .ok (.ireturn, 1) := by decide +kernel
theorem d_MO_special_0 : decode M_MO_special.2.1 0 = .ok (.iload_n 0, 1) := by decide +kernel
theorem d_MO_special_1 : decode M_MO_special.2.1 1 = .ok (.bipush 91, 2) := by decide +kernel
theorem d_MO_special_3 : decode M_MO_special.2.1 3 = .ok (.if_icmp .eq 45, 3) := by decide +kernel
theorem d_MO_special_6 : decode M_MO_special.2.1 6 = .ok (.iload_n 0, 1) := by decide +kernel
theorem d_MO_special_7 : decode M_MO_special.2.1 7 = .ok (.bipush 93, 2) := by decide +kernel
theorem d_MO_special_9 : decode M_MO_special.2.1 9 = .ok (.if_icmp .eq 39, 3) := by decide +kernel
theorem d_MO_special_12 : decode M_MO_special.2.1 12 = .ok (.iload_n 0, 1) := by decide +kernel
theorem d_MO_special_13 : decode M_MO_special.2.1 13 = .ok (.bipush 123, 2) := by decide +kernel
theorem d_MO_special_15 : decode M_MO_special.2.1 15 = .ok (.if_icmp .eq 33, 3) := by decide +kernel
theorem d_MO_special_18 : decode M_MO_special.2.1 18 = .ok (.iload_n 0, 1) := by decide +kernel
theorem d_MO_special_19 : decode M_MO_special.2.1 19 = .ok (.bipush 125, 2) := by decide +kernel
theorem d_MO_special_21 : decode M_MO_special.2.1 21 = .ok (.if_icmp .eq 27, 3) := by decide +kernel
theorem d_MO_special_24 : decode M_MO_special.2.1 24 = .ok (.iload_n 0, 1) := by decide +kernel
theorem d_MO_special_25 : decode M_MO_special.2.1 25 = .ok (.bipush 45, 2) := by decide +kernel
theorem d_MO_special_27 : decode M_MO_special.2.1 27 = .ok (.if_icmp .eq 21, 3) := by decide +kernel
theorem d_MO_special_30 : decode M_MO_special.2.1 30 = .ok (.iload_n 0, 1) := by decide +kernel
theorem d_MO_special_31 : decode M_MO_special.2.1 31 = .ok (.bipush 38, 2) := by decide +kernel
theorem d_MO_special_33 : decode M_MO_special.2.1 33 = .ok (.if_icmp .eq 15, 3) := by decide +kernel
theorem d_MO_special_36 : decode M_MO_special.2.1 36 = .ok (.iload_n 0, 1) := by decide +kernel
theorem d_MO_special_37 : decode M_MO_special.2.1 37 = .ok (.bipush 94, 2) := by decide +kernel
theorem d_MO_special_39 : decode M_MO_special.2.1 39 = .ok (.if_icmp .eq 9, 3) := by decide +kernel
theorem d_MO_special_42 : decode M_MO_special.2.1 42 = .ok (.iload_n 0, 1) := by decide +kernel
theorem d_MO_special_43 : decode M_MO_special.2.1 43 = .ok (.bipush 92, 2) := by decide +kernel
theorem d_MO_special_45 : decode M_MO_special.2.1 45 = .ok (.if_icmp .ne 7, 3) := by decide +kernel
theorem d_MO_special_48 : decode M_MO_special.2.1 48 = .ok (.iconst 1, 1) := by decide +kernel
theorem d_MO_special_49 : decode M_MO_special.2.1 49 = .ok (.goto 4, 3) := by decide +kernel
theorem d_MO_special_52 : decode M_MO_special.2.1 52 = .ok (.iconst 0, 1) := by decide +kernel
theorem d_MO_special_53 : decode M_MO_special.2.1 53 = .ok (.ireturn, 1) := by decide +kernel
theorem d_MO_hexDigits_0 : decode M_MO_hexDigits.2.1 0 = .ok (.iconst 0, 1) := by decide +kernel
theorem d_MO_hexDigits_1 : decode M_MO_hexDigits.2.1 1 = .ok (.istore_n 3, 1) := by decide +kernel
theorem d_MO_hexDigits_2 : decode M_MO_hexDigits.2.1 2 = .ok (.iconst 0, 1) := by decide +kernel
theorem d_MO_hexDigits_3 : decode M_MO_hexDigits.2.1 3 = .ok (.istore 4, 2) := by decide +kernel
theorem d_MO_hexDigits_5 : decode M_MO_hexDigits.2.1 5 = .ok (.iload 4, 2) := by decide +kernel
theorem d_MO_hexDigits_7 : decode M_MO_hexDigits.2.1 7 = .ok (.iload_n 2, 1) := by decide +kernel
theorem d_MO_hexDigits_8 : decode M_MO_hexDigits.2.1 8 = .ok (.if_icmp .ge 66, 3) := by decide +kernel
theorem d_MO_hexDigits_11 : decode M_MO_hexDigits.2.1 11 = .ok (.aload_n 0, 1) := by decide +kernel
theorem d_MO_hexDigits_12 : decode M_MO_hexDigits.2.1 12 = .ok (.getfield 86, 3) := by decide +kernel
theorem d_MO_hexDigits_15 : decode M_MO_hexDigits.2.1 15 = .ok (.aload_n 0, 1) := by decide +kernel
theorem d_MO_hexDigits_16 : decode M_MO_hexDigits.2.1 16 = .ok (.getfield 43, 3) := by decide +kernel
theorem d_MO_hexDigits_19 : decode M_MO_hexDigits.2.1 19 = .ok (.if_icmp .ge 55, 3) := by decide +kernel
theorem d_MO_hexDigits_22 : decode M_MO_hexDigits.2.1 22 = .ok (.aload_n 0, 1) := by decide +kernel
theorem d_MO_hexDigits_23 : decode M_MO_hexDigits.2.1 23 = .ok (.getfield 7, 3) := by decide +kernel
theorem d_MO_hexDigits_26 : decode M_MO_hexDigits.2.1 26 = .ok (.aload_n 0, 1) := by decide +kernel
theorem d_MO_hexDigits_27 : decode M_MO_hexDigits.2.1 27 = .ok (.getfield 86, 3) := by decide +kernel
theorem d_MO_hexDigits_30 : decode M_MO_hexDigits.2.1 30 = .ok (.iaload, 1) := by decide +kernel
theorem d_MO_hexDigits_31 : decode M_MO_hexDigits.2.1 31 = .ok (.invokestatic 89, 3) := by decide +kernel
theorem d_MO_hexDigits_34 : decode M_MO_hexDigits.2.1 34 = .ok (.ifCond .lt 40, 3) := by decide +kernel
theorem d_MO_hexDigits_37 : decode M_MO_hexDigits.2.1 37 = .ok (.bipush 16, 2) := by decide +kernel
theorem d_MO_hexDigits_39 : decode M_MO_hexDigits.2.1 39 = .ok (.iload_n 3, 1) := by decide +kernel
theorem d_MO_hexDigits_40 : decode M_MO_hexDigits.2.1 40 = .ok (.imul, 1) := by decide +kernel
theorem d_MO_hexDigits_41 : decode M_MO_hexDigits.2.1 41 = .ok (.aload_n 0, 1) := by decide +kernel
theorem d_MO_hexDigits_42 : decode M_MO_hexDigits.2.1 42 = .ok (.getfield 7, 3) := by decide +kernel
theorem d_MO_hexDigits_45 : decode M_MO_hexDigits.2.1 45 = .ok (.aload_n 0, 1) := by decide +kernel
theorem d_MO_hexDigits_46 : decode M_MO_hexDigits.2.1 46 = .ok (.getfield 86, 3) := by decide +kernel
theorem d_MO_hexDigits_49 : decode M_MO_hexDigits.2.1 49 = .ok (.iaload, 1) := by decide +kernel
theorem d_MO_hexDigits_50 : decode M_MO_hexDigits.2.1 50 = .ok (.invokestatic 89, 3) := by decide +kernel
theorem d_MO_hexDigits_53 : decode M_MO_hexDigits.2.1 53 = .ok (.iadd, 1) := by decide +kernel
theorem d_MO_hexDigits_54 : decode M_MO_hexDigits.2.1 54 = .ok (.istore_n 3, 1) := by decide +kernel
theorem d_MO_hexDigits_55 : decode M_MO_hexDigits.2.1 55 = .ok (.aload_n 0, 1) := by decide +kernel
theorem d_MO_hexDigits_56 : decode M_MO_hexDigits.2.1 56 = .ok (.aload_n 0, 1) := by decide +kernel
theorem d_MO_hexDigits_57 : decode M_MO_hexDigits.2.1 57 = .ok (.getfield 86, 3) := by decide +kernel
theorem d_MO_hexDigits_60 : decode M_MO_hexDigits.2.1 60 = .ok (.iconst 1, 1) := by decide +kernel
theorem d_MO_hexDigits_61 : decode M_MO_hexDigits.2.1 61 = .ok (.iadd, 1) := by decide +kernel
theorem d_MO_hexDigits_62 : decode M_MO_hexDigits.2.1 62 = .ok (.putfield 86, 3) := by decide +kernel
theorem d_MO_hexDigits_65 : decode M_MO_hexDigits.2.1 65 = .ok (.iload 4, 2) := by decide +kernel
theorem d_MO_hexDigits_67 : decode M_MO_hexDigits.2.1 67 = .ok (.iconst 1, 1) := by decide +kernel
theorem d_MO_hexDigits_68 : decode M_MO_hexDigits.2.1 68 = .ok (.iadd, 1) := by decide +kernel
theorem d_MO_hexDigits_69 : decode M_MO_hexDigits.2.1 69 = .ok (.istore 4, 2) := by decide +kernel
theorem d_MO_hexDigits_71 : decode M_MO_hexDigits.2.1 71 = .ok (.goto (-66), 3) := by decide +kernel
theorem d_MO_hexDigits_74 : decode M_MO_hexDigits.2.1 74 = .ok (.aload_n 0, 1) := by decide +kernel
theorem d_MO_hexDigits_75 : decode M_MO_hexDigits.2.1 75 = .ok (.aload_n 0, 1) := by decide +kernel
theorem d_MO_hexDigits_76 : decode M_MO_hexDigits.2.1 76 = .ok (.getfield 93, 3) := by decide +kernel
theorem d_MO_hexDigits_79 : decode M_MO_hexDigits.2.1 79 = .ok (.ifCond .eq 13, 3) := by decide +kernel
theorem d_MO_hexDigits_82 : decode M_MO_hexDigits.2.1 82 = .ok (.iload 4, 2) := by decide +kernel
theorem d_MO_hexDigits_84 : decode M_MO_hexDigits.2.1 84 = .ok (.iload_n 1, 1) := by decide +kernel
theorem d_MO_hexDigits_85 : decode M_MO_hexDigits.2.1 85 = .ok (.if_icmp .lt 7, 3) := by decide +kernel
theorem d_MO_hexDigits_88 : decode M_MO_hexDigits.2.1 88 = .ok (.iconst 1, 1) := by decide +kernel
theorem d_MO_hexDigits_89 : decode M_MO_hexDigits.2.1 89 = .ok (.goto 4, 3) := by decide +kernel
theorem d_MO_hexDigits_92 : decode M_MO_hexDigits.2.1 92 = .ok (.iconst 0, 1) := by decide +kernel
theorem d_MO_hexDigits_93 : decode M_MO_hexDigits.2.1 93 = .ok (.putfield 93, 3) := by decide +kernel
theorem d_MO_hexDigits_96 : decode M_MO_hexDigits.2.1 96 = .ok (.iload_n 3, 1) := by decide +kernel
theorem d_MO_hexDigits_97 : decode M_MO_hexDigits.2.1 97 = .ok (.ireturn, 1) := by decide +kernel
theorem d_MO_expect_0 : decode M_MO_expect.2.1 0 = .ok (.aload_n 0, 1) := by decide +kernel
theorem d_MO_expect_1 : decode M_MO_expect.2.1 1 = .ok (.aload_n 0, 1) := by decide +kernel
theorem d_MO_expect_2 : decode M_MO_expect.2.1 2 = .ok (.getfield 93, 3) := by decide +kernel
theorem d_MO_expect_5 : decode M_MO_expect.2.1 5 = .ok (.ifCond .eq 19, 3) := by decide +kernel
theorem d_MO_expect_8 : decode M_MO_expect.2.1 8 = .ok (.aload_n 0, 1) := by decide +kernel
theorem d_MO_expect_9 : decode M_MO_expect.2.1 9 = .ok (.aload_n 0, 1) := by decide +kernel
theorem d_MO_expect_10 : decode M_MO_expect.2.1 10 = .ok (.getfield 86, 3) := by decide +kernel
theorem d_MO_expect_13 : decode M_MO_expect.2.1 13 = .ok (.iload_n 1, 1) := by decide +kernel
theorem d_MO_expect_14 : decode M_MO_expect.2.1 14 = .ok (.invokevirtual 83, 3) := by decide +kernel
theorem d_MO_expect_17 : decode M_MO_expect.2.1 17 = .ok (.ifCond .eq 7, 3) := by decide +kernel
theorem d_MO_expect_20 : decode M_MO_expect.2.1 20 = .ok (.iconst 1, 1) := by decide +kernel
theorem d_MO_expect_21 : decode M_MO_expect.2.1 21 = .ok (.goto 4, 3) := by decide +kernel
theorem d_MO_expect_24 : decode M_MO_expect.2.1 24 = .ok (.iconst 0, 1) := by decide +kernel
theorem d_MO_expect_25 : decode M_MO_expect.2.1 25 = .ok (.putfield 93, 3) := by decide +kernel
theorem d_MO_expect_28 : decode M_MO_expect.2.1 28 = .ok (.aload_n 0, 1) := by decide +kernel
theorem d_MO_expect_29 : decode M_MO_expect.2.1 29 = .ok (.aload_n 0, 1) := by decide +kernel
theorem d_MO_expect_30 : decode M_MO_expect.2.1 30 = .ok (.getfield 86, 3) := by decide +kernel
theorem d_MO_expect_33 : decode M_MO_expect.2.1 33 = .ok (.iconst 1, 1) := by decide +kernel
theorem d_MO_expect_34 : decode M_MO_expect.2.1 34 = .ok (.iadd, 1) := by decide +kernel
theorem d_MO_expect_35 : decode M_MO_expect.2.1 35 = .ok (.putfield 86, 3) := by decide +kernel
theorem d_MO_expect_38 : decode M_MO_expect.2.1 38 = .ok (.return_, 1) := by decide +kernel
theorem d_MO_readChar_0 : decode M_MO_readChar.2.1 0 = .ok (.aload_n 0, 1) := by decide +kernel
theorem d_MO_readChar_1 : decode M_MO_readChar.2.1 1 = .ok (.getfield 86, 3) := by decide +kernel
theorem d_MO_readChar_4 : decode M_MO_readChar.2.1 4 = .ok (.aload_n 0, 1) := by decide +kernel
theorem d_MO_readChar_5 : decode M_MO_readChar.2.1 5 = .ok (.getfield 43, 3) := by decide +kernel
theorem d_MO_readChar_8 : decode M_MO_readChar.2.1 8 = .ok (.if_icmp .ge 46, 3) := by decide +kernel
theorem d_MO_readChar_11 : decode M_MO_readChar.2.1 11 = .ok (.aload_n 0, 1) := by decide +kernel
theorem d_MO_readChar_12 : decode M_MO_readChar.2.1 12 = .ok (.getfield 7, 3) := by decide +kernel
theorem d_MO_readChar_15 : decode M_MO_readChar.2.1 15 = .ok (.aload_n 0, 1) := by decide +kernel
theorem d_MO_readChar_16 : decode M_MO_readChar.2.1 16 = .ok (.getfield 86, 3) := by decide +kernel
theorem d_MO_readChar_19 : decode M_MO_readChar.2.1 19 = .ok (.iaload, 1) := by decide +kernel
theorem d_MO_readChar_20 : decode M_MO_readChar.2.1 20 = .ok (.bipush 32, 2) := by decide +kernel
theorem d_MO_readChar_22 : decode M_MO_readChar.2.1 22 = .ok (.if_icmp .eq 32, 3) := by decide +kernel
theorem d_MO_readChar_25 : decode M_MO_readChar.2.1 25 = .ok (.aload_n 0, 1) := by decide +kernel
theorem d_MO_readChar_26 : decode M_MO_readChar.2.1 26 = .ok (.getfield 7, 3) := by decide +kernel
theorem d_MO_readChar_29 : decode M_MO_readChar.2.1 29 = .ok (.aload_n 0, 1) := by decide +kernel
theorem d_MO_readChar_30 : decode M_MO_readChar.2.1 30 = .ok (.getfield 86, 3) := by decide +kernel
theorem d_MO_readChar_33 : decode M_MO_readChar.2.1 33 = .ok (.iaload, 1) := by decide +kernel
theorem d_MO_readChar_34 : decode M_MO_readChar.2.1 34 = .ok (.invokestatic 97, 3) := by decide +kernel
theorem d_MO_readChar_37 : decode M_MO_readChar.2.1 37 = .ok (.ifCond .eq 24, 3) := by decide +kernel
theorem d_MO_readChar_40 : decode M_MO_readChar.2.1 40 = .ok (.aload_n 0, 1) := by decide +kernel
theorem d_MO_readChar_41 : decode M_MO_readChar.2.1 41 = .ok (.getfield 7, 3) := by decide +kernel
theorem d_MO_readChar_44 : decode M_MO_readChar.2.1 44 = .ok (.aload_n 0, 1) := by decide +kernel
theorem d_MO_readChar_45 : decode M_MO_readChar.2.1 45 = .ok (.getfield 86, 3) := by decide +kernel
theorem d_MO_readChar_48 : decode M_MO_readChar.2.1 48 = .ok (.iaload, 1) := by decide +kernel
theorem d_MO_readChar_49 : decode M_MO_readChar.2.1 49 = .ok (.bipush 92, 2) := by decide +kernel
theorem d_MO_readChar_51 : decode M_MO_readChar.2.1 51 = .ok (.if_icmp .eq 10, 3) := by decide +kernel
theorem d_MO_readChar_54 : decode M_MO_readChar.2.1 54 = .ok (.aload_n 0, 1) := by decide +kernel
theorem d_MO_readChar_55 : decode M_MO_readChar.2.1 55 = .ok (.iconst 0, 1) := by decide +kernel
theorem d_MO_readChar_56 : decode M_MO_readChar.2.1 56 = .ok (.putfield 93, 3) := by decide +kernel
theorem d_MO_readChar_59 : decode M_MO_readChar.2.1 59 = .ok (.iconst 0, 1) := by decide +kernel
theorem d_MO_readChar_60 : decode M_MO_readChar.2.1 60 = .ok (.ireturn, 1) := by decide +kernel
theorem d_MO_readChar_61 : decode M_MO_readChar.2.1 61 = .ok (.aload_n 0, 1) := by decide +kernel
theorem d_MO_readChar_62 : decode M_MO_readChar.2.1 62 = .ok (.getfield 7, 3) := by decide +kernel
theorem d_MO_readChar_65 : decode M_MO_readChar.2.1 65 = .ok (.aload_n 0, 1) := by decide +kernel
theorem d_MO_readChar_66 : decode M_MO_readChar.2.1 66 = .ok (.getfield 86, 3) := by decide +kernel
theorem d_MO_readChar_69 : decode M_MO_readChar.2.1 69 = .ok (.iaload, 1) := by decide +kernel
theorem d_MO_readChar_70 : decode M_MO_readChar.2.1 70 = .ok (.istore_n 1, 1) := by decide +kernel
theorem d_MO_readChar_71 : decode M_MO_readChar.2.1 71 = .ok (.aload_n 0, 1) := by decide +kernel
theorem d_MO_readChar_72 : decode M_MO_readChar.2.1 72 = .ok (.aload_n 0, 1) := by decide +kernel
theorem d_MO_readChar_73 : decode M_MO_readChar.2.1 73 = .ok (.getfield 86, 3) := by decide +kernel
theorem d_MO_readChar_76 : decode M_MO_readChar.2.1 76 = .ok (.iconst 1, 1) := by decide +kernel
theorem d_MO_readChar_77 : decode M_MO_readChar.2.1 77 = .ok (.iadd, 1) := by decide +kernel
theorem d_MO_readChar_78 : decode M_MO_readChar.2.1 78 = .ok (.putfield 86, 3) := by decide +kernel
theorem d_MO_readChar_81 : decode M_MO_readChar.2.1 81 = .ok (.iload_n 1, 1) := by decide +kernel
theorem d_MO_readChar_82 : decode M_MO_readChar.2.1 82 = .ok (.bipush 92, 2) := by decide +kernel
theorem d_MO_readChar_84 : decode M_MO_readChar.2.1 84 = .ok (.if_icmp .eq 5, 3) := by decide +kernel
theorem d_MO_readChar_87 : decode M_MO_readChar.2.1 87 = .ok (.iload_n 1, 1) := by decide +kernel
theorem d_MO_readChar_88 : decode M_MO_readChar.2.1 88 = .ok (.ireturn, 1) := by decide +kernel
theorem d_MO_readChar_89 : decode M_MO_readChar.2.1 89 = .ok (.aload_n 0, 1) := by decide +kernel
theorem d_MO_readChar_90 : decode M_MO_readChar.2.1 90 = .ok (.getfield 86, 3) := by decide +kernel
theorem d_MO_readChar_93 : decode M_MO_readChar.2.1 93 = .ok (.aload_n 0, 1) := by decide +kernel
theorem d_MO_readChar_94 : decode M_MO_readChar.2.1 94 = .ok (.getfield 43, 3) := by decide +kernel
theorem d_MO_readChar_97 : decode M_MO_readChar.2.1 97 = .ok (.if_icmp .lt 10, 3) := by decide +kernel
theorem d_MO_readChar_100 : decode M_MO_readChar.2.1 100 = .ok (.aload_n 0, 1) := by decide +kernel
theorem d_MO_readChar_101 : decode M_MO_readChar.2.1 101 = .ok (.iconst 0, 1) := by decide +kernel
theorem d_MO_readChar_102 : decode M_MO_readChar.2.1 102 = .ok (.putfield 93, 3) := by decide +kernel
theorem d_MO_readChar_105 : decode M_MO_readChar.2.1 105 = .ok (.iconst 0, 1) := by decide +kernel
theorem d_MO_readChar_106 : decode M_MO_readChar.2.1 106 = .ok (.ireturn, 1) := by decide +kernel
theorem d_MO_readChar_107 : decode M_MO_readChar.2.1 107 = .ok (.aload_n 0, 1) := by decide +kernel
theorem d_MO_readChar_108 : decode M_MO_readChar.2.1 108 = .ok (.getfield 7, 3) := by decide +kernel
theorem d_MO_readChar_111 : decode M_MO_readChar.2.1 111 = .ok (.aload_n 0, 1) := by decide +kernel
theorem d_MO_readChar_112 : decode M_MO_readChar.2.1 112 = .ok (.getfield 86, 3) := by decide +kernel
theorem d_MO_readChar_115 : decode M_MO_readChar.2.1 115 = .ok (.iaload, 1) := by decide +kernel
theorem d_MO_readChar_116 : decode M_MO_readChar.2.1 116 = .ok (.istore_n 1, 1) := by decide +kernel
theorem d_MO_readChar_117 : decode M_MO_readChar.2.1 117 = .ok (.aload_n 0, 1) := by decide +kernel
theorem d_MO_readChar_118 : decode M_MO_readChar.2.1 118 = .ok (.aload_n 0, 1) := by decide +kernel
theorem d_MO_readChar_119 : decode M_MO_readChar.2.1 119 = .ok (.getfield 86, 3) := by decide +kernel
theorem d_MO_readChar_122 : decode M_MO_readChar.2.1 122 = .ok (.iconst 1, 1) := by decide +kernel
theorem d_MO_readChar_123 : decode M_MO_readChar.2.1 123 = .ok (.iadd, 1) := by decide +kernel
theorem d_MO_readChar_124 : decode M_MO_readChar.2.1 124 = .ok (.putfield 86, 3) := by decide +kernel
theorem d_MO_readChar_127 : decode M_MO_readChar.2.1 127 = .ok (.iload_n 1, 1) := by decide +kernel
theorem d_MO_readChar_128 : decode M_MO_readChar.2.1 128 = .ok (.bipush 117, 2) := by decide +kernel
theorem d_MO_readChar_130 : decode M_MO_readChar.2.1 130 = .ok (.if_icmp .ne 10, 3) := by decide +kernel
theorem d_MO_readChar_133 : decode M_MO_readChar.2.1 133 = .ok (.aload_n 0, 1) := by decide +kernel
theorem d_MO_readChar_134 : decode M_MO_readChar.2.1 134 = .ok (.iconst 4, 1) := by decide +kernel
theorem d_MO_readChar_135 : decode M_MO_readChar.2.1 135 = .ok (.iconst 4, 1) := by decide +kernel
theorem d_MO_readChar_136 : decode M_MO_readChar.2.1 136 = .ok (.invokevirtual 101, 3) := by decide +kernel
theorem d_MO_readChar_139 : decode M_MO_readChar.2.1 139 = .ok (.ireturn, 1) := by decide +kernel
theorem d_MO_readChar_140 : decode M_MO_readChar.2.1 140 = .ok (.iload_n 1, 1) := by decide +kernel
theorem d_MO_readChar_141 : decode M_MO_readChar.2.1 141 = .ok (.bipush 120, 2) := by decide +kernel
theorem d_MO_readChar_143 : decode M_MO_readChar.2.1 143 = .ok (.if_icmp .ne 47, 3) := by decide +kernel
theorem d_MO_readChar_146 : decode M_MO_readChar.2.1 146 = .ok (.aload_n 0, 1) := by decide +kernel
theorem d_MO_readChar_147 : decode M_MO_readChar.2.1 147 = .ok (.bipush 123, 2) := by decide +kernel
theorem d_MO_readChar_149 : decode M_MO_readChar.2.1 149 = .ok (.invokevirtual 105, 3) := by decide +kernel
theorem d_MO_readChar_152 : decode M_MO_readChar.2.1 152 = .ok (.aload_n 0, 1) := by decide +kernel
theorem d_MO_readChar_153 : decode M_MO_readChar.2.1 153 = .ok (.iconst 1, 1) := by decide +kernel
theorem d_MO_readChar_154 : decode M_MO_readChar.2.1 154 = .ok (.bipush 6, 2) := by decide +kernel
theorem d_MO_readChar_156 : decode M_MO_readChar.2.1 156 = .ok (.invokevirtual 101, 3) := by decide +kernel
theorem d_MO_readChar_159 : decode M_MO_readChar.2.1 159 = .ok (.istore_n 2, 1) := by decide +kernel
theorem d_MO_readChar_160 : decode M_MO_readChar.2.1 160 = .ok (.aload_n 0, 1) := by decide +kernel
theorem d_MO_readChar_161 : decode M_MO_readChar.2.1 161 = .ok (.bipush 125, 2) := by decide +kernel
theorem d_MO_readChar_163 : decode M_MO_readChar.2.1 163 = .ok (.invokevirtual 105, 3) := by decide +kernel
theorem d_MO_readChar_166 : decode M_MO_readChar.2.1 166 = .ok (.aload_n 0, 1) := by decide +kernel
theorem d_MO_readChar_167 : decode M_MO_readChar.2.1 167 = .ok (.aload_n 0, 1) := by decide +kernel
theorem d_MO_readChar_168 : decode M_MO_readChar.2.1 168 = .ok (.getfield 93, 3) := by decide +kernel
theorem d_MO_readChar_171 : decode M_MO_readChar.2.1 171 = .ok (.ifCond .eq 13, 3) := by decide +kernel
theorem d_MO_readChar_174 : decode M_MO_readChar.2.1 174 = .ok (.iload_n 2, 1) := by decide +kernel
theorem d_MO_readChar_175 : decode M_MO_readChar.2.1 175 = .ok (.ldc 42, 2) := by decide +kernel
theorem d_MO_readChar_177 : decode M_MO_readChar.2.1 177 = .ok (.if_icmp .ge 7, 3) := by decide +kernel
theorem d_MO_readChar_180 : decode M_MO_readChar.2.1 180 = .ok (.iconst 1, 1) := by decide +kernel
theorem d_MO_readChar_181 : decode M_MO_readChar.2.1 181 = .ok (.goto 4, 3) := by decide +kernel
theorem d_MO_readChar_184 : decode M_MO_readChar.2.1 184 = .ok (.iconst 0, 1) := by decide +kernel
theorem d_MO_readChar_185 : decode M_MO_readChar.2.1 185 = .ok (.putfield 93, 3) := by decide +kernel
theorem d_MO_readChar_188 : decode M_MO_readChar.2.1 188 = .ok (.iload_n 2, 1) := by decide +kernel
theorem d_MO_readChar_189 : decode M_MO_readChar.2.1 189 = .ok (.ireturn, 1) := by decide +kernel
theorem d_MO_readChar_190 : decode M_MO_readChar.2.1 190 = .ok (.aload_n 0, 1) := by decide +kernel
theorem d_MO_readChar_191 : decode M_MO_readChar.2.1 191 = .ok (.aload_n 0, 1) := by decide +kernel
theorem d_MO_readChar_192 : decode M_MO_readChar.2.1 192 = .ok (.getfield 93, 3) := by decide +kernel
theorem d_MO_readChar_195 : decode M_MO_readChar.2.1 195 = .ok (.ifCond .eq 26, 3) := by decide +kernel
theorem d_MO_readChar_198 : decode M_MO_readChar.2.1 198 = .ok (.iload_n 1, 1) := by decide +kernel
theorem d_MO_readChar_199 : decode M_MO_readChar.2.1 199 = .ok (.invokestatic 108, 3) := by decide +kernel
theorem d_MO_readChar_202 : decode M_MO_readChar.2.1 202 = .ok (.ifCond .eq 15, 3) := by decide +kernel
theorem d_MO_readChar_205 : decode M_MO_readChar.2.1 205 = .ok (.iload_n 1, 1) := by decide +kernel
theorem d_MO_readChar_206 : decode M_MO_readChar.2.1 206 = .ok (.bipush 110, 2) := by decide +kernel
theorem d_MO_readChar_208 : decode M_MO_readChar.2.1 208 = .ok (.if_icmp .eq 9, 3) := by decide +kernel
theorem d_MO_readChar_211 : decode M_MO_readChar.2.1 211 = .ok (.iload_n 1, 1) := by decide +kernel
theorem d_MO_readChar_212 : decode M_MO_readChar.2.1 212 = .ok (.bipush 116, 2) := by decide +kernel
theorem d_MO_readChar_214 : decode M_MO_readChar.2.1 214 = .ok (.if_icmp .ne 7, 3) := by decide +kernel
theorem d_MO_readChar_217 : decode M_MO_readChar.2.1 217 = .ok (.iconst 1, 1) := by decide +kernel
theorem d_MO_readChar_218 : decode M_MO_readChar.2.1 218 = .ok (.goto 4, 3) := by decide +kernel
theorem d_MO_readChar_221 : decode M_MO_readChar.2.1 221 = .ok (.iconst 0, 1) := by decide +kernel
theorem d_MO_readChar_222 : decode M_MO_readChar.2.1 222 = .ok (.putfield 93, 3) := by decide +kernel
theorem d_MO_readChar_225 : decode M_MO_readChar.2.1 225 = .ok (.iload_n 1, 1) := by decide +kernel
theorem d_MO_readChar_226 : decode M_MO_readChar.2.1 226 = .ok (.bipush 110, 2) := by decide +kernel
theorem d_MO_readChar_228 : decode M_MO_readChar.2.1 228 = .ok (.if_icmp .ne 8, 3) := by decide +kernel
theorem d_MO_readChar_231 : decode M_MO_readChar.2.1 231 = .ok (.bipush 10, 2) := by decide +kernel
theorem d_MO_readChar_233 : decode M_MO_readChar.2.1 233 = .ok (.goto 15, 3) := by decide +kernel
theorem d_MO_readChar_236 : decode M_MO_readChar.2.1 236 = .ok (.iload_n 1, 1) := by decide +kernel
theorem d_MO_readChar_237 : decode M_MO_readChar.2.1 237 = .ok (.bipush 116, 2) := by decide +kernel
theorem d_MO_readChar_239 : decode M_MO_readChar.2.1 239 = .ok (.if_icmp .ne 8, 3) := by decide +kernel
theorem d_MO_readChar_242 : decode M_MO_readChar.2.1 242 = .ok (.bipush 9, 2) := by decide +kernel
theorem d_MO_readChar_244 : decode M_MO_readChar.2.1 244 = .ok (.goto 4, 3) := by decide +kernel
theorem d_MO_readChar_247 : decode M_MO_readChar.2.1 247 = .ok (.iload_n 1, 1) := by decide +kernel
theorem d_MO_readChar_248 : decode M_MO_readChar.2.1 248 = .ok (.ireturn, 1) := by decide +kernel
theorem d_MO_propertyAt_0 : decode M_MO_propertyAt.2.1 0 = .ok (.aload_n 0, 1) := by decide +kernel
theorem d_MO_propertyAt_1 : decode M_MO_propertyAt.2.1 1 = .ok (.iload_n 1, 1) := by decide +kernel
theorem d_MO_propertyAt_2 : decode M_MO_propertyAt.2.1 2 = .ok (.bipush 91, 2) := by decide +kernel
theorem d_MO_propertyAt_4 : decode M_MO_propertyAt.2.1 4 = .ok (.invokevirtual 83, 3) := by decide +kernel
theorem d_MO_propertyAt_7 : decode M_MO_propertyAt.2.1 7 = .ok (.ifCond .eq 15, 3) := by decide +kernel
theorem d_MO_propertyAt_10 : decode M_MO_propertyAt.2.1 10 = .ok (.aload_n 0, 1) := by decide +kernel
theorem d_MO_propertyAt_11 : decode M_MO_propertyAt.2.1 11 = .ok (.iload_n 1, 1) := by decide +kernel
theorem d_MO_propertyAt_12 : decode M_MO_propertyAt.2.1 12 = .ok (.iconst 1, 1) := by decide +kernel
theorem d_MO_propertyAt_13 : decode M_MO_propertyAt.2.1 13 = .ok (.iadd, 1) := by decide +kernel
theorem d_MO_propertyAt_14 : decode M_MO_propertyAt.2.1 14 = .ok (.bipush 58, 2) := by decide +kernel
theorem d_MO_propertyAt_16 : decode M_MO_propertyAt.2.1 16 = .ok (.invokevirtual 83, 3) := by decide +kernel
theorem d_MO_propertyAt_19 : decode M_MO_propertyAt.2.1 19 = .ok (.ifCond .ne 37, 3) := by decide +kernel
theorem d_MO_propertyAt_22 : decode M_MO_propertyAt.2.1 22 = .ok (.aload_n 0, 1) := by decide +kernel
theorem d_MO_propertyAt_23 : decode M_MO_propertyAt.2.1 23 = .ok (.iload_n 1, 1) := by decide +kernel
theorem d_MO_propertyAt_24 : decode M_MO_propertyAt.2.1 24 = .ok (.bipush 92, 2) := by decide +kernel
theorem d_MO_propertyAt_26 : decode M_MO_propertyAt.2.1 26 = .ok (.invokevirtual 83, 3) := by decide +kernel
theorem d_MO_propertyAt_29 : decode M_MO_propertyAt.2.1 29 = .ok (.ifCond .eq 31, 3) := by decide +kernel
theorem d_MO_propertyAt_32 : decode M_MO_propertyAt.2.1 32 = .ok (.aload_n 0, 1) := by decide +kernel
theorem d_MO_propertyAt_33 : decode M_MO_propertyAt.2.1 33 = .ok (.iload_n 1, 1) := by decide +kernel
theorem d_MO_propertyAt_34 : decode M_MO_propertyAt.2.1 34 = .ok (.iconst 1, 1) := by decide +kernel
theorem d_MO_propertyAt_35 : decode M_MO_propertyAt.2.1 35 = .ok (.iadd, 1) := by decide +kernel
theorem d_MO_propertyAt_36 : decode M_MO_propertyAt.2.1 36 = .ok (.bipush 112, 2) := by decide +kernel
theorem d_MO_propertyAt_38 : decode M_MO_propertyAt.2.1 38 = .ok (.invokevirtual 83, 3) := by decide +kernel
theorem d_MO_propertyAt_41 : decode M_MO_propertyAt.2.1 41 = .ok (.ifCond .ne 15, 3) := by decide +kernel
theorem d_MO_propertyAt_44 : decode M_MO_propertyAt.2.1 44 = .ok (.aload_n 0, 1) := by decide +kernel
theorem d_MO_propertyAt_45 : decode M_MO_propertyAt.2.1 45 = .ok (.iload_n 1, 1) := by decide +kernel
theorem d_MO_propertyAt_46 : decode M_MO_propertyAt.2.1 46 = .ok (.iconst 1, 1) := by decide +kernel
theorem d_MO_propertyAt_47 : decode M_MO_propertyAt.2.1 47 = .ok (.iadd, 1) := by decide +kernel
