/-! decode rows of MO: written by wip/gen/mknames.py -/
theorem d_MO_value_46 : decode M_MO_value.2.1 46 = .ok (.invokevirtual 181, 3) := by decide +kernel
theorem d_MO_value_49 : decode M_MO_value.2.1 49 = .ok (.aload_n 0, 1) := by decide +kernel
theorem d_MO_value_50 : decode M_MO_value.2.1 50 = .ok (.getfield 93, 3) := by decide +kernel
theorem d_MO_value_53 : decode M_MO_value.2.1 53 = .ok (.ifCond .eq 22, 3) := by decide +kernel
theorem d_MO_value_56 : decode M_MO_value.2.1 56 = .ok (.aload_n 0, 1) := by decide +kernel
theorem d_MO_value_57 : decode M_MO_value.2.1 57 = .ok (.getfield 149, 3) := by decide +kernel
theorem d_MO_value_60 : decode M_MO_value.2.1 60 = .ok (.ifCond .le 15, 3) := by decide +kernel
theorem d_MO_value_63 : decode M_MO_value.2.1 63 = .ok (.aload_n 0, 1) := by decide +kernel
theorem d_MO_value_64 : decode M_MO_value.2.1 64 = .ok (.invokevirtual 193, 3) := by decide +kernel
theorem d_MO_value_67 : decode M_MO_value.2.1 67 = .ok (.goto (-18), 3) := by decide +kernel
theorem d_MO_value_70 : decode M_MO_value.2.1 70 = .ok (.aload_n 0, 1) := by decide +kernel
theorem d_MO_value_71 : decode M_MO_value.2.1 71 = .ok (.iconst 0, 1) := by decide +kernel
theorem d_MO_value_72 : decode M_MO_value.2.1 72 = .ok (.putfield 93, 3) := by decide +kernel
theorem d_MO_value_75 : decode M_MO_value.2.1 75 = .ok (.aload_n 0, 1) := by decide +kernel
theorem d_MO_value_76 : decode M_MO_value.2.1 76 = .ok (.getfield 93, 3) := by decide +kernel
theorem d_MO_value_79 : decode M_MO_value.2.1 79 = .ok (.ifCond .eq 18, 3) := by decide +kernel
theorem d_MO_value_82 : decode M_MO_value.2.1 82 = .ok (.aload_n 0, 1) := by decide +kernel
theorem d_MO_value_83 : decode M_MO_value.2.1 83 = .ok (.getfield 86, 3) := by decide +kernel
theorem d_MO_value_86 : decode M_MO_value.2.1 86 = .ok (.aload_n 0, 1) := by decide +kernel
theorem d_MO_value_87 : decode M_MO_value.2.1 87 = .ok (.getfield 43, 3) := by decide +kernel
theorem d_MO_value_90 : decode M_MO_value.2.1 90 = .ok (.if_icmp .ne 7, 3) := by decide +kernel
theorem d_MO_value_93 : decode M_MO_value.2.1 93 = .ok (.iload_n 1, 1) := by decide +kernel
theorem d_MO_value_94 : decode M_MO_value.2.1 94 = .ok (.goto 4, 3) := by decide +kernel
theorem d_MO_value_97 : decode M_MO_value.2.1 97 = .ok (.iconst (-1), 1) := by decide +kernel
theorem d_MO_value_98 : decode M_MO_value.2.1 98 = .ok (.ireturn, 1) := by decide +kernel
theorem d_MO_apply_0 : decode M_MO_apply.2.1 0 = .ok (.iload_n 1, 1) := by decide +kernel
theorem d_MO_apply_1 : decode M_MO_apply.2.1 1 = .ok (.invokestatic 196, 3) := by decide +kernel
theorem d_MO_apply_4 : decode M_MO_apply.2.1 4 = .ok (.ifCond .ne 5, 3) := by decide +kernel
theorem d_MO_apply_7 : decode M_MO_apply.2.1 7 = .ok (.iconst 0, 1) := by decide +kernel
theorem d_MO_apply_8 : decode M_MO_apply.2.1 8 = .ok (.ireturn, 1) := by decide +kernel
theorem d_MO_apply_9 : decode M_MO_apply.2.1 9 = .ok (.aload_n 0, 1) := by decide +kernel
theorem d_MO_apply_10 : decode M_MO_apply.2.1 10 = .ok (.invokevirtual 199, 3) := by decide +kernel
theorem d_MO_apply_13 : decode M_MO_apply.2.1 13 = .ok (.istore_n 2, 1) := by decide +kernel
theorem d_MO_apply_14 : decode M_MO_apply.2.1 14 = .ok (.iload_n 2, 1) := by decide +kernel
theorem d_MO_apply_15 : decode M_MO_apply.2.1 15 = .ok (.ifCond .ge 5, 3) := by decide +kernel
theorem d_MO_apply_18 : decode M_MO_apply.2.1 18 = .ok (.iconst 0, 1) := by decide +kernel
theorem d_MO_apply_19 : decode M_MO_apply.2.1 19 = .ok (.ireturn, 1) := by decide +kernel
theorem d_MO_apply_20 : decode M_MO_apply.2.1 20 = .ok (.aload_n 0, 1) := by decide +kernel
theorem d_MO_apply_21 : decode M_MO_apply.2.1 21 = .ok (.iload_n 2, 1) := by decide +kernel
theorem d_MO_apply_22 : decode M_MO_apply.2.1 22 = .ok (.iload_n 1, 1) := by decide +kernel
theorem d_MO_apply_23 : decode M_MO_apply.2.1 23 = .ok (.invokevirtual 76, 3) := by decide +kernel
theorem d_MO_apply_26 : decode M_MO_apply.2.1 26 = .ok (.iconst 1, 1) := by decide +kernel
theorem d_MO_apply_27 : decode M_MO_apply.2.1 27 = .ok (.ireturn, 1) := by decide +kernel
theorem d_MO_put_0 : decode M_MO_put.2.1 0 = .ok (.aload_n 0, 1) := by decide +kernel
theorem d_MO_put_1 : decode M_MO_put.2.1 1 = .ok (.aload_n 0, 1) := by decide +kernel
theorem d_MO_put_2 : decode M_MO_put.2.1 2 = .ok (.getfield 202, 3) := by decide +kernel
theorem d_MO_put_5 : decode M_MO_put.2.1 5 = .ok (.ifCond .eq 16, 3) := by decide +kernel
theorem d_MO_put_8 : decode M_MO_put.2.1 8 = .ok (.aload_n 0, 1) := by decide +kernel
theorem d_MO_put_9 : decode M_MO_put.2.1 9 = .ok (.getfield 205, 3) := by decide +kernel
theorem d_MO_put_12 : decode M_MO_put.2.1 12 = .ok (.bipush 60, 2) := by decide +kernel
theorem d_MO_put_14 : decode M_MO_put.2.1 14 = .ok (.if_icmp .ge 7, 3) := by decide +kernel
theorem d_MO_put_17 : decode M_MO_put.2.1 17 = .ok (.iconst 1, 1) := by decide +kernel
theorem d_MO_put_18 : decode M_MO_put.2.1 18 = .ok (.goto 4, 3) := by decide +kernel
theorem d_MO_put_21 : decode M_MO_put.2.1 21 = .ok (.iconst 0, 1) := by decide +kernel
theorem d_MO_put_22 : decode M_MO_put.2.1 22 = .ok (.putfield 202, 3) := by decide +kernel
theorem d_MO_put_25 : decode M_MO_put.2.1 25 = .ok (.aload_n 0, 1) := by decide +kernel
theorem d_MO_put_26 : decode M_MO_put.2.1 26 = .ok (.getfield 202, 3) := by decide +kernel
theorem d_MO_put_29 : decode M_MO_put.2.1 29 = .ok (.ifCond .eq 23, 3) := by decide +kernel
theorem d_MO_put_32 : decode M_MO_put.2.1 32 = .ok (.aload_n 0, 1) := by decide +kernel
theorem d_MO_put_33 : decode M_MO_put.2.1 33 = .ok (.getfield 36, 3) := by decide +kernel
theorem d_MO_put_36 : decode M_MO_put.2.1 36 = .ok (.aload_n 0, 1) := by decide +kernel
theorem d_MO_put_37 : decode M_MO_put.2.1 37 = .ok (.getfield 205, 3) := by decide +kernel
theorem d_MO_put_40 : decode M_MO_put.2.1 40 = .ok (.iload_n 1, 1) := by decide +kernel
theorem d_MO_put_41 : decode M_MO_put.2.1 41 = .ok (.iastore, 1) := by decide +kernel
theorem d_MO_put_42 : decode M_MO_put.2.1 42 = .ok (.aload_n 0, 1) := by decide +kernel
theorem d_MO_put_43 : decode M_MO_put.2.1 43 = .ok (.aload_n 0, 1) := by decide +kernel
theorem d_MO_put_44 : decode M_MO_put.2.1 44 = .ok (.getfield 205, 3) := by decide +kernel
theorem d_MO_put_47 : decode M_MO_put.2.1 47 = .ok (.iconst 1, 1) := by decide +kernel
theorem d_MO_put_48 : decode M_MO_put.2.1 48 = .ok (.iadd, 1) := by decide +kernel
theorem d_MO_put_49 : decode M_MO_put.2.1 49 = .ok (.putfield 205, 3) := by decide +kernel
theorem d_MO_put_52 : decode M_MO_put.2.1 52 = .ok (.return_, 1) := by decide +kernel
theorem d_MO_putPoint_0 : decode M_MO_putPoint.2.1 0 = .ok (.iload_n 1, 1) := by decide +kernel
theorem d_MO_putPoint_1 : decode M_MO_putPoint.2.1 1 = .ok (.bipush 33, 2) := by decide +kernel
theorem d_MO_putPoint_3 : decode M_MO_putPoint.2.1 3 = .ok (.if_icmp .lt 34, 3) := by decide +kernel
theorem d_MO_putPoint_6 : decode M_MO_putPoint.2.1 6 = .ok (.iload_n 1, 1) := by decide +kernel
theorem d_MO_putPoint_7 : decode M_MO_putPoint.2.1 7 = .ok (.bipush 126, 2) := by decide +kernel
theorem d_MO_putPoint_9 : decode M_MO_putPoint.2.1 9 = .ok (.if_icmp .gt 28, 3) := by decide +kernel
theorem d_MO_putPoint_12 : decode M_MO_putPoint.2.1 12 = .ok (.iload_n 1, 1) := by decide +kernel
theorem d_MO_putPoint_13 : decode M_MO_putPoint.2.1 13 = .ok (.invokestatic 97, 3) := by decide +kernel
theorem d_MO_putPoint_16 : decode M_MO_putPoint.2.1 16 = .ok (.ifCond .ne 9, 3) := by decide +kernel
theorem d_MO_putPoint_19 : decode M_MO_putPoint.2.1 19 = .ok (.iload_n 1, 1) := by decide +kernel
theorem d_MO_putPoint_20 : decode M_MO_putPoint.2.1 20 = .ok (.bipush 58, 2) := by decide +kernel
theorem d_MO_putPoint_22 : decode M_MO_putPoint.2.1 22 = .ok (.if_icmp .ne 9, 3) := by decide +kernel
theorem d_MO_putPoint_25 : decode M_MO_putPoint.2.1 25 = .ok (.aload_n 0, 1) := by decide +kernel
theorem d_MO_putPoint_26 : decode M_MO_putPoint.2.1 26 = .ok (.bipush 92, 2) := by decide +kernel
theorem d_MO_putPoint_28 : decode M_MO_putPoint.2.1 28 = .ok (.invokevirtual 208, 3) := by decide +kernel
theorem d_MO_putPoint_31 : decode M_MO_putPoint.2.1 31 = .ok (.aload_n 0, 1) := by decide +kernel
theorem d_MO_putPoint_32 : decode M_MO_putPoint.2.1 32 = .ok (.iload_n 1, 1) := by decide +kernel
theorem d_MO_putPoint_33 : decode M_MO_putPoint.2.1 33 = .ok (.invokevirtual 208, 3) := by decide +kernel
theorem d_MO_putPoint_36 : decode M_MO_putPoint.2.1 36 = .ok (.return_, 1) := by decide +kernel
theorem d_MO_putPoint_37 : decode M_MO_putPoint.2.1 37 = .ok (.aload_n 0, 1) := by decide +kernel
theorem d_MO_putPoint_38 : decode M_MO_putPoint.2.1 38 = .ok (.bipush 92, 2) := by decide +kernel
theorem d_MO_putPoint_40 : decode M_MO_putPoint.2.1 40 = .ok (.invokevirtual 208, 3) := by decide +kernel
theorem d_MO_putPoint_43 : decode M_MO_putPoint.2.1 43 = .ok (.aload_n 0, 1) := by decide +kernel
theorem d_MO_putPoint_44 : decode M_MO_putPoint.2.1 44 = .ok (.bipush 120, 2) := by decide +kernel
theorem d_MO_putPoint_46 : decode M_MO_putPoint.2.1 46 = .ok (.invokevirtual 208, 3) := by decide +kernel
theorem d_MO_putPoint_49 : decode M_MO_putPoint.2.1 49 = .ok (.aload_n 0, 1) := by decide +kernel
theorem d_MO_putPoint_50 : decode M_MO_putPoint.2.1 50 = .ok (.bipush 123, 2) := by decide +kernel
theorem d_MO_putPoint_52 : decode M_MO_putPoint.2.1 52 = .ok (.invokevirtual 208, 3) := by decide +kernel
theorem d_MO_putPoint_55 : decode M_MO_putPoint.2.1 55 = .ok (.bipush 20, 2) := by decide +kernel
theorem d_MO_putPoint_57 : decode M_MO_putPoint.2.1 57 = .ok (.istore_n 2, 1) := by decide +kernel
theorem d_MO_putPoint_58 : decode M_MO_putPoint.2.1 58 = .ok (.iload_n 2, 1) := by decide +kernel
theorem d_MO_putPoint_59 : decode M_MO_putPoint.2.1 59 = .ok (.ifCond .le 16, 3) := by decide +kernel
theorem d_MO_putPoint_62 : decode M_MO_putPoint.2.1 62 = .ok (.iload_n 1, 1) := by decide +kernel
theorem d_MO_putPoint_63 : decode M_MO_putPoint.2.1 63 = .ok (.iload_n 2, 1) := by decide +kernel
theorem d_MO_putPoint_64 : decode M_MO_putPoint.2.1 64 = .ok (.ishr, 1) := by decide +kernel
theorem d_MO_putPoint_65 : decode M_MO_putPoint.2.1 65 = .ok (.ifCond .ne 10, 3) := by decide +kernel
theorem d_MO_putPoint_68 : decode M_MO_putPoint.2.1 68 = .ok (.iload_n 2, 1) := by decide +kernel
theorem d_MO_putPoint_69 : decode M_MO_putPoint.2.1 69 = .ok (.iconst 4, 1) := by decide +kernel
theorem d_MO_putPoint_70 : decode M_MO_putPoint.2.1 70 = .ok (.isub, 1) := by decide +kernel
theorem d_MO_putPoint_71 : decode M_MO_putPoint.2.1 71 = .ok (.istore_n 2, 1) := by decide +kernel
theorem d_MO_putPoint_72 : decode M_MO_putPoint.2.1 72 = .ok (.goto (-14), 3) := by decide +kernel
theorem d_MO_putPoint_75 : decode M_MO_putPoint.2.1 75 = .ok (.iload_n 2, 1) := by decide +kernel
theorem d_MO_putPoint_76 : decode M_MO_putPoint.2.1 76 = .ok (.ifCond .lt 41, 3) := by decide +kernel
theorem d_MO_putPoint_79 : decode M_MO_putPoint.2.1 79 = .ok (.iload_n 1, 1) := by decide +kernel
theorem d_MO_putPoint_80 : decode M_MO_putPoint.2.1 80 = .ok (.iload_n 2, 1) := by decide +kernel
theorem d_MO_putPoint_81 : decode M_MO_putPoint.2.1 81 = .ok (.ishr, 1) := by decide +kernel
theorem d_MO_putPoint_82 : decode M_MO_putPoint.2.1 82 = .ok (.bipush 15, 2) := by decide +kernel
theorem d_MO_putPoint_84 : decode M_MO_putPoint.2.1 84 = .ok (.iand, 1) := by decide +kernel
theorem d_MO_putPoint_85 : decode M_MO_putPoint.2.1 85 = .ok (.istore_n 3, 1) := by decide +kernel
theorem d_MO_putPoint_86 : decode M_MO_putPoint.2.1 86 = .ok (.aload_n 0, 1) := by decide +kernel
theorem d_MO_putPoint_87 : decode M_MO_putPoint.2.1 87 = .ok (.iload_n 3, 1) := by decide +kernel
theorem d_MO_putPoint_88 : decode M_MO_putPoint.2.1 88 = .ok (.bipush 10, 2) := by decide +kernel
theorem d_MO_putPoint_90 : decode M_MO_putPoint.2.1 90 = .ok (.if_icmp .ge 10, 3) := by decide +kernel
theorem d_MO_putPoint_93 : decode M_MO_putPoint.2.1 93 = .ok (.bipush 48, 2) := by decide +kernel
theorem d_MO_putPoint_95 : decode M_MO_putPoint.2.1 95 = .ok (.iload_n 3, 1) := by decide +kernel
theorem d_MO_putPoint_96 : decode M_MO_putPoint.2.1 96 = .ok (.iadd, 1) := by decide +kernel
theorem d_MO_putPoint_97 : decode M_MO_putPoint.2.1 97 = .ok (.goto 10, 3) := by decide +kernel
theorem d_MO_putPoint_100 : decode M_MO_putPoint.2.1 100 = .ok (.bipush 97, 2) := by decide +kernel
theorem d_MO_putPoint_102 : decode M_MO_putPoint.2.1 102 = .ok (.iload_n 3, 1) := by decide +kernel
theorem d_MO_putPoint_103 : decode M_MO_putPoint.2.1 103 = .ok (.iadd, 1) := by decide +kernel
theorem d_MO_putPoint_104 : decode M_MO_putPoint.2.1 104 = .ok (.bipush 10, 2) := by decide +kernel
theorem d_MO_putPoint_106 : decode M_MO_putPoint.2.1 106 = .ok (.isub, 1) := by decide +kernel
theorem d_MO_putPoint_107 : decode M_MO_putPoint.2.1 107 = .ok (.invokevirtual 208, 3) := by decide +kernel
theorem d_MO_putPoint_110 : decode M_MO_putPoint.2.1 110 = .ok (.iload_n 2, 1) := by decide +kernel
theorem d_MO_putPoint_111 : decode M_MO_putPoint.2.1 111 = .ok (.iconst 4, 1) := by decide +kernel
theorem d_MO_putPoint_112 : decode M_MO_putPoint.2.1 112 = .ok (.isub, 1) := by decide +kernel
theorem d_MO_putPoint_113 : decode M_MO_putPoint.2.1 113 = .ok (.istore_n 2, 1) := by decide +kernel
theorem d_MO_putPoint_114 : decode M_MO_putPoint.2.1 114 = .ok (.goto (-39), 3) := by decide +kernel
theorem d_MO_putPoint_117 : decode M_MO_putPoint.2.1 117 = .ok (.aload_n 0, 1) := by decide +kernel
theorem d_MO_putPoint_118 : decode M_MO_putPoint.2.1 118 = .ok (.bipush 125, 2) := by decide +kernel
theorem d_MO_putPoint_120 : decode M_MO_putPoint.2.1 120 = .ok (.invokevirtual 208, 3) := by decide +kernel
theorem d_MO_putPoint_123 : decode M_MO_putPoint.2.1 123 = .ok (.return_, 1) := by decide +kernel
theorem d_MO_putString_0 : decode M_MO_putString.2.1 0 = .ok (.lload_n 1, 1) := by decide +kernel
theorem d_MO_putString_1 : decode M_MO_putString.2.1 1 = .ok (.ldc2_w 211, 3) := by decide +kernel
theorem d_MO_putString_4 : decode M_MO_putString.2.1 4 = .ok (.land, 1) := by decide +kernel
theorem d_MO_putString_5 : decode M_MO_putString.2.1 5 = .ok (.l2i, 1) := by decide +kernel
theorem d_MO_putString_6 : decode M_MO_putString.2.1 6 = .ok (.istore_n 3, 1) := by decide +kernel
theorem d_MO_putString_7 : decode M_MO_putString.2.1 7 = .ok (.aload_n 0, 1) := by decide +kernel
theorem d_MO_putString_8 : decode M_MO_putString.2.1 8 = .ok (.bipush 123, 2) := by decide +kernel
theorem d_MO_putString_10 : decode M_MO_putString.2.1 10 = .ok (.invokevirtual 208, 3) := by decide +kernel
theorem d_MO_putString_13 : decode M_MO_putString.2.1 13 = .ok (.aload_n 0, 1) := by decide +kernel
theorem d_MO_putString_14 : decode M_MO_putString.2.1 14 = .ok (.lload_n 1, 1) := by decide +kernel
theorem d_MO_putString_15 : decode M_MO_putString.2.1 15 = .ok (.bipush 42, 2) := by decide +kernel
theorem d_MO_putString_17 : decode M_MO_putString.2.1 17 = .ok (.lshr, 1) := by decide +kernel
theorem d_MO_putString_18 : decode M_MO_putString.2.1 18 = .ok (.l2i, 1) := by decide +kernel
theorem d_MO_putString_19 : decode M_MO_putString.2.1 19 = .ok (.invokevirtual 213, 3) := by decide +kernel
theorem d_MO_putString_22 : decode M_MO_putString.2.1 22 = .ok (.aload_n 0, 1) := by decide +kernel
theorem d_MO_putString_23 : decode M_MO_putString.2.1 23 = .ok (.lload_n 1, 1) := by decide +kernel
theorem d_MO_putString_24 : decode M_MO_putString.2.1 24 = .ok (.bipush 21, 2) := by decide +kernel
theorem d_MO_putString_26 : decode M_MO_putString.2.1 26 = .ok (.lshr, 1) := by decide +kernel
theorem d_MO_putString_27 : decode M_MO_putString.2.1 27 = .ok (.ldc2_w 211, 3) := by decide +kernel
theorem d_MO_putString_30 : decode M_MO_putString.2.1 30 = .ok (.land, 1) := by decide +kernel
theorem d_MO_putString_31 : decode M_MO_putString.2.1 31 = .ok (.l2i, 1) := by decide +kernel
theorem d_MO_putString_32 : decode M_MO_putString.2.1 32 = .ok (.invokevirtual 213, 3) := by decide +kernel
theorem d_MO_putString_35 : decode M_MO_putString.2.1 35 = .ok (.iload_n 3, 1) := by decide +kernel
theorem d_MO_putString_36 : decode M_MO_putString.2.1 36 = .ok (.ifCond .le 10, 3) := by decide +kernel
theorem d_MO_putString_39 : decode M_MO_putString.2.1 39 = .ok (.aload_n 0, 1) := by decide +kernel
theorem d_MO_putString_40 : decode M_MO_putString.2.1 40 = .ok (.iload_n 3, 1) := by decide +kernel
theorem d_MO_putString_41 : decode M_MO_putString.2.1 41 = .ok (.iconst 1, 1) := by decide +kernel
theorem d_MO_putString_42 : decode M_MO_putString.2.1 42 = .ok (.isub, 1) := by decide +kernel
theorem d_MO_putString_43 : decode M_MO_putString.2.1 43 = .ok (.invokevirtual 213, 3) := by decide +kernel
theorem d_MO_putString_46 : decode M_MO_putString.2.1 46 = .ok (.aload_n 0, 1) := by decide +kernel
theorem d_MO_putString_47 : decode M_MO_putString.2.1 47 = .ok (.bipush 125, 2) := by decide +kernel
theorem d_MO_putString_49 : decode M_MO_putString.2.1 49 = .ok (.invokevirtual 208, 3) := by decide +kernel
theorem d_MO_putString_52 : decode M_MO_putString.2.1 52 = .ok (.return_, 1) := by decide +kernel
theorem d_MO_print_0 : decode M_MO_print.2.1 0 = .ok (.iload_n 1, 1) := by decide +kernel
theorem d_MO_print_1 : decode M_MO_print.2.1 1 = .ok (.invokestatic 196, 3) := by decide +kernel
theorem d_MO_print_4 : decode M_MO_print.2.1 4 = .ok (.ifCond .ne 5, 3) := by decide +kernel
theorem d_MO_print_7 : decode M_MO_print.2.1 7 = .ok (.iconst (-1), 1) := by decide +kernel
theorem d_MO_print_8 : decode M_MO_print.2.1 8 = .ok (.ireturn, 1) := by decide +kernel
theorem d_MO_print_9 : decode M_MO_print.2.1 9 = .ok (.aload_n 0, 1) := by decide +kernel
theorem d_MO_print_10 : decode M_MO_print.2.1 10 = .ok (.iconst 0, 1) := by decide +kernel
theorem d_MO_print_11 : decode M_MO_print.2.1 11 = .ok (.putfield 205, 3) := by decide +kernel
theorem d_MO_print_14 : decode M_MO_print.2.1 14 = .ok (.aload_n 0, 1) := by decide +kernel
theorem d_MO_print_15 : decode M_MO_print.2.1 15 = .ok (.iconst 1, 1) := by decide +kernel
theorem d_MO_print_16 : decode M_MO_print.2.1 16 = .ok (.putfield 202, 3) := by decide +kernel
theorem d_MO_print_19 : decode M_MO_print.2.1 19 = .ok (.aload_n 0, 1) := by decide +kernel
theorem d_MO_print_20 : decode M_MO_print.2.1 20 = .ok (.bipush 91, 2) := by decide +kernel
theorem d_MO_print_22 : decode M_MO_print.2.1 22 = .ok (.invokevirtual 208, 3) := by decide +kernel
theorem d_MO_print_25 : decode M_MO_print.2.1 25 = .ok (.iconst 0, 1) := by decide +kernel
theorem d_MO_print_26 : decode M_MO_print.2.1 26 = .ok (.istore_n 2, 1) := by decide +kernel
theorem d_MO_print_27 : decode M_MO_print.2.1 27 = .ok (.iload_n 2, 1) := by decide +kernel
theorem d_MO_print_28 : decode M_MO_print.2.1 28 = .ok (.iconst 1, 1) := by decide +kernel
theorem d_MO_print_29 : decode M_MO_print.2.1 29 = .ok (.iadd, 1) := by decide +kernel
theorem d_MO_print_30 : decode M_MO_print.2.1 30 = .ok (.aload_n 0, 1) := by decide +kernel
theorem d_MO_print_31 : decode M_MO_print.2.1 31 = .ok (.getfield 16, 3) := by decide +kernel
theorem d_MO_print_34 : decode M_MO_print.2.1 34 = .ok (.iload_n 1, 1) := by decide +kernel
theorem d_MO_print_35 : decode M_MO_print.2.1 35 = .ok (.iaload, 1) := by decide +kernel
theorem d_MO_print_36 : decode M_MO_print.2.1 36 = .ok (.if_icmp .ge 71, 3) := by decide +kernel
theorem d_MO_print_39 : decode M_MO_print.2.1 39 = .ok (.aload_n 0, 1) := by decide +kernel
theorem d_MO_print_40 : decode M_MO_print.2.1 40 = .ok (.getfield 13, 3) := by decide +kernel
theorem d_MO_print_43 : decode M_MO_print.2.1 43 = .ok (.sipush 420, 3) := by decide +kernel
theorem d_MO_print_46 : decode M_MO_print.2.1 46 = .ok (.iload_n 1, 1) := by decide +kernel
theorem d_MO_print_47 : decode M_MO_print.2.1 47 = .ok (.imul, 1) := by decide +kernel
theorem d_MO_print_48 : decode M_MO_print.2.1 48 = .ok (.iload_n 2, 1) := by decide +kernel
theorem d_MO_print_49 : decode M_MO_print.2.1 49 = .ok (.iadd, 1) := by decide +kernel
theorem d_MO_print_50 : decode M_MO_print.2.1 50 = .ok (.iaload, 1) := by decide +kernel
theorem d_MO_print_51 : decode M_MO_print.2.1 51 = .ok (.istore_n 3, 1) := by decide +kernel
theorem d_MO_print_52 : decode M_MO_print.2.1 52 = .ok (.aload_n 0, 1) := by decide +kernel
theorem d_MO_print_53 : decode M_MO_print.2.1 53 = .ok (.getfield 13, 3) := by decide +kernel
theorem d_MO_print_56 : decode M_MO_print.2.1 56 = .ok (.sipush 420, 3) := by decide +kernel
theorem d_MO_print_59 : decode M_MO_print.2.1 59 = .ok (.iload_n 1, 1) := by decide +kernel
theorem d_MO_print_60 : decode M_MO_print.2.1 60 = .ok (.imul, 1) := by decide +kernel
theorem d_MO_print_61 : decode M_MO_print.2.1 61 = .ok (.iload_n 2, 1) := by decide +kernel
theorem d_MO_print_62 : decode M_MO_print.2.1 62 = .ok (.iadd, 1) := by decide +kernel
theorem d_MO_print_63 : decode M_MO_print.2.1 63 = .ok (.iconst 1, 1) := by decide +kernel
theorem d_MO_print_64 : decode M_MO_print.2.1 64 = .ok (.iadd, 1) := by decide +kernel
theorem d_MO_print_65 : decode M_MO_print.2.1 65 = .ok (.iaload, 1) := by decide +kernel
theorem d_MO_print_66 : decode M_MO_print.2.1 66 = .ok (.iconst 1, 1) := by decide +kernel
theorem d_MO_print_67 : decode M_MO_print.2.1 67 = .ok (.isub, 1) := by decide +kernel
theorem d_MO_print_68 : decode M_MO_print.2.1 68 = .ok (.istore 4, 2) := by decide +kernel
theorem d_MO_print_70 : decode M_MO_print.2.1 70 = .ok (.aload_n 0, 1) := by decide +kernel
theorem d_MO_print_71 : decode M_MO_print.2.1 71 = .ok (.iload_n 3, 1) := by decide +kernel
theorem d_MO_print_72 : decode M_MO_print.2.1 72 = .ok (.invokevirtual 213, 3) := by decide +kernel
theorem d_MO_print_75 : decode M_MO_print.2.1 75 = .ok (.iload 4, 2) := by decide +kernel
theorem d_MO_print_77 : decode M_MO_print.2.1 77 = .ok (.iload_n 3, 1) := by decide +kernel
theorem d_MO_print_78 : decode M_MO_print.2.1 78 = .ok (.iconst 1, 1) := by decide +kernel
theorem d_MO_print_79 : decode M_MO_print.2.1 79 = .ok (.iadd, 1) := by decide +kernel
theorem d_MO_print_80 : decode M_MO_print.2.1 80 = .ok (.if_icmp .le 9, 3) := by decide +kernel
theorem d_MO_print_83 : decode M_MO_print.2.1 83 = .ok (.aload_n 0, 1) := by decide +kernel
theorem d_MO_print_84 : decode M_MO_print.2.1 84 = .ok (.bipush 45, 2) := by decide +kernel
theorem d_MO_print_86 : decode M_MO_print.2.1 86 = .ok (.invokevirtual 208, 3) := by decide +kernel
theorem d_MO_print_89 : decode M_MO_print.2.1 89 = .ok (.iload 4, 2) := by decide +kernel
theorem d_MO_print_91 : decode M_MO_print.2.1 91 = .ok (.iload_n 3, 1) := by decide +kernel
theorem d_MO_print_92 : decode M_MO_print.2.1 92 = .ok (.if_icmp .le 9, 3) := by decide +kernel
theorem d_MO_print_95 : decode M_MO_print.2.1 95 = .ok (.aload_n 0, 1) := by decide +kernel
theorem d_MO_print_96 : decode M_MO_print.2.1 96 = .ok (.iload 4, 2) := by decide +kernel
theorem d_MO_print_98 : decode M_MO_print.2.1 98 = .ok (.invokevirtual 213, 3) := by decide +kernel
theorem d_MO_print_101 : decode M_MO_print.2.1 101 = .ok (.iinc 2 2, 3) := by decide +kernel
theorem d_MO_print_104 : decode M_MO_print.2.1 104 = .ok (.goto (-77), 3) := by decide +kernel
theorem d_MO_print_107 : decode M_MO_print.2.1 107 = .ok (.ldc2_w 216, 3) := by decide +kernel
theorem d_MO_print_110 : decode M_MO_print.2.1 110 = .ok (.lstore_n 2, 1) := by decide +kernel
theorem d_MO_print_111 : decode M_MO_print.2.1 111 = .ok (.iconst 0, 1) := by decide +kernel
theorem d_MO_print_112 : decode M_MO_print.2.1 112 = .ok (.istore 4, 2) := by decide +kernel
theorem d_MO_print_114 : decode M_MO_print.2.1 114 = .ok (.iload 4, 2) := by decide +kernel
theorem d_MO_print_116 : decode M_MO_print.2.1 116 = .ok (.aload_n 0, 1) := by decide +kernel
theorem d_MO_print_117 : decode M_MO_print.2.1 117 = .ok (.getfield 23, 3) := by decide +kernel
theorem d_MO_print_120 : decode M_MO_print.2.1 120 = .ok (.iload_n 1, 1) := by decide +kernel
theorem d_MO_print_121 : decode M_MO_print.2.1 121 = .ok (.iaload, 1) := by decide +kernel
theorem d_MO_print_122 : decode M_MO_print.2.1 122 = .ok (.if_icmp .ge 81, 3) := by decide +kernel
theorem d_MO_print_125 : decode M_MO_print.2.1 125 = .ok (.ldc2_w 218, 3) := by decide +kernel
theorem d_MO_print_128 : decode M_MO_print.2.1 128 = .ok (.lstore 5, 2) := by decide +kernel
theorem d_MO_print_130 : decode M_MO_print.2.1 130 = .ok (.iconst 0, 1) := by decide +kernel
theorem d_MO_print_131 : decode M_MO_print.2.1 131 = .ok (.istore 7, 2) := by decide +kernel
theorem d_MO_print_133 : decode M_MO_print.2.1 133 = .ok (.iload 7, 2) := by decide +kernel
theorem d_MO_print_135 : decode M_MO_print.2.1 135 = .ok (.aload_n 0, 1) := by decide +kernel
theorem d_MO_print_136 : decode M_MO_print.2.1 136 = .ok (.getfield 23, 3) := by decide +kernel
theorem d_MO_print_139 : decode M_MO_print.2.1 139 = .ok (.iload_n 1, 1) := by decide +kernel
theorem d_MO_print_140 : decode M_MO_print.2.1 140 = .ok (.iaload, 1) := by decide +kernel
theorem d_MO_print_141 : decode M_MO_print.2.1 141 = .ok (.if_icmp .ge 47, 3) := by decide +kernel
theorem d_MO_print_144 : decode M_MO_print.2.1 144 = .ok (.aload_n 0, 1) := by decide +kernel
theorem d_MO_print_145 : decode M_MO_print.2.1 145 = .ok (.getfield 19, 3) := by decide +kernel
theorem d_MO_print_148 : decode M_MO_print.2.1 148 = .ok (.bipush 20, 2) := by decide +kernel
theorem d_MO_print_150 : decode M_MO_print.2.1 150 = .ok (.iload_n 1, 1) := by decide +kernel
theorem d_MO_print_151 : decode M_MO_print.2.1 151 = .ok (.imul, 1) := by decide +kernel
theorem d_MO_print_152 : decode M_MO_print.2.1 152 = .ok (.iload 7, 2) := by decide +kernel
theorem d_MO_print_154 : decode M_MO_print.2.1 154 = .ok (.iadd, 1) := by decide +kernel
theorem d_MO_print_155 : decode M_MO_print.2.1 155 = .ok (.laload, 1) := by decide +kernel
theorem d_MO_print_156 : decode M_MO_print.2.1 156 = .ok (.lstore 8, 2) := by decide +kernel
theorem d_MO_print_158 : decode M_MO_print.2.1 158 = .ok (.lload 8, 2) := by decide +kernel
theorem d_MO_print_160 : decode M_MO_print.2.1 160 = .ok (.lload_n 2, 1) := by decide +kernel
theorem d_MO_print_161 : decode M_MO_print.2.1 161 = .ok (.lcmp, 1) := by decide +kernel
theorem d_MO_print_162 : decode M_MO_print.2.1 162 = .ok (.ifCond .le 16, 3) := by decide +kernel
theorem d_MO_print_165 : decode M_MO_print.2.1 165 = .ok (.lload 8, 2) := by decide +kernel
theorem d_MO_print_167 : decode M_MO_print.2.1 167 = .ok (.lload 5, 2) := by decide +kernel
theorem d_MO_print_169 : decode M_MO_print.2.1 169 = .ok (.lcmp, 1) := by decide +kernel
theorem d_MO_print_170 : decode M_MO_print.2.1 170 = .ok (.ifCond .ge 8, 3) := by decide +kernel
theorem d_MO_print_173 : decode M_MO_print.2.1 173 = .ok (.lload 8, 2) := by decide +kernel
theorem d_MO_print_175 : decode M_MO_print.2.1 175 = .ok (.goto 5, 3) := by decide +kernel
theorem d_MO_print_178 : decode M_MO_print.2.1 178 = .ok (.lload 5, 2) := by decide +kernel
theorem d_MO_print_180 : decode M_MO_print.2.1 180 = .ok (.lstore 5, 2) := by decide +kernel
theorem d_MO_print_182 : decode M_MO_print.2.1 182 = .ok (.iinc 7 1, 3) := by decide +kernel
theorem d_MO_print_185 : decode M_MO_print.2.1 185 = .ok (.goto (-52), 3) := by decide +kernel
theorem d_MO_print_188 : decode M_MO_print.2.1 188 = .ok (.aload_n 0, 1) := by decide +kernel
theorem d_MO_print_189 : decode M_MO_print.2.1 189 = .ok (.lload 5, 2) := by decide +kernel
theorem d_MO_print_191 : decode M_MO_print.2.1 191 = .ok (.invokevirtual 220, 3) := by decide +kernel
theorem d_MO_print_194 : decode M_MO_print.2.1 194 = .ok (.lload 5, 2) := by decide +kernel
theorem d_MO_print_196 : decode M_MO_print.2.1 196 = .ok (.lstore_n 2, 1) := by decide +kernel
theorem d_MO_print_197 : decode M_MO_print.2.1 197 = .ok (.iinc 4 1, 3) := by decide +kernel
theorem d_MO_print_200 : decode M_MO_print.2.1 200 = .ok (.goto (-86), 3) := by decide +kernel
theorem d_MO_print_203 : decode M_MO_print.2.1 203 = .ok (.aload_n 0, 1) := by decide +kernel
theorem d_MO_print_204 : decode M_MO_print.2.1 204 = .ok (.bipush 93, 2) := by decide +kernel
theorem d_MO_print_206 : decode M_MO_print.2.1 206 = .ok (.invokevirtual 208, 3) := by decide +kernel
theorem d_MO_print_209 : decode M_MO_print.2.1 209 = .ok (.aload_n 0, 1) := by decide +kernel
theorem d_MO_print_210 : decode M_MO_print.2.1 210 = .ok (.getfield 202, 3) := by decide +kernel
theorem d_MO_print_213 : decode M_MO_print.2.1 213 = .ok (.ifCond .ne 5, 3) := by decide +kernel
theorem d_MO_print_216 : decode M_MO_print.2.1 216 = .ok (.iconst (-1), 1) := by decide +kernel
theorem d_MO_print_217 : decode M_MO_print.2.1 217 = .ok (.ireturn, 1) := by decide +kernel
theorem d_MO_print_218 : decode M_MO_print.2.1 218 = .ok (.aload_n 0, 1) := by decide +kernel
theorem d_MO_print_219 : decode M_MO_print.2.1 219 = .ok (.aload_n 0, 1) := by decide +kernel
theorem d_MO_print_220 : decode M_MO_print.2.1 220 = .ok (.getfield 205, 3) := by decide +kernel
theorem d_MO_print_223 : decode M_MO_print.2.1 223 = .ok (.putfield 43, 3) := by decide +kernel
theorem d_MO_print_226 : decode M_MO_print.2.1 226 = .ok (.iconst 0, 1) := by decide +kernel
theorem d_MO_print_227 : decode M_MO_print.2.1 227 = .ok (.istore 4, 2) := by decide +kernel
theorem d_MO_print_229 : decode M_MO_print.2.1 229 = .ok (.iload 4, 2) := by decide +kernel
theorem d_MO_print_231 : decode M_MO_print.2.1 231 = .ok (.aload_n 0, 1) := by decide +kernel
theorem d_MO_print_232 : decode M_MO_print.2.1 232 = .ok (.getfield 205, 3) := by decide +kernel
theorem d_MO_print_235 : decode M_MO_print.2.1 235 = .ok (.if_icmp .ge 23, 3) := by decide +kernel
theorem d_MO_print_238 : decode M_MO_print.2.1 238 = .ok (.aload_n 0, 1) := by decide +kernel
theorem d_MO_print_239 : decode M_MO_print.2.1 239 = .ok (.getfield 7, 3) := by decide +kernel
theorem d_MO_print_242 : decode M_MO_print.2.1 242 = .ok (.iload 4, 2) := by decide +kernel
theorem d_MO_print_244 : decode M_MO_print.2.1 244 = .ok (.aload_n 0, 1) := by decide +kernel
theorem d_MO_print_245 : decode M_MO_print.2.1 245 = .ok (.getfield 36, 3) := by decide +kernel
theorem d_MO_print_248 : decode M_MO_print.2.1 248 = .ok (.iload 4, 2) := by decide +kernel
theorem d_MO_print_250 : decode M_MO_print.2.1 250 = .ok (.iaload, 1) := by decide +kernel
theorem d_MO_print_251 : decode M_MO_print.2.1 251 = .ok (.iastore, 1) := by decide +kernel
theorem d_MO_print_252 : decode M_MO_print.2.1 252 = .ok (.iinc 4 1, 3) := by decide +kernel
theorem d_MO_print_255 : decode M_MO_print.2.1 255 = .ok (.goto (-26), 3) := by decide +kernel
theorem d_MO_print_258 : decode M_MO_print.2.1 258 = .ok (.aload_n 0, 1) := by decide +kernel
theorem d_MO_print_259 : decode M_MO_print.2.1 259 = .ok (.getfield 43, 3) := by decide +kernel
theorem d_MO_print_262 : decode M_MO_print.2.1 262 = .ok (.ireturn, 1) := by decide +kernel
theorem d_MO_takeMade_0 : decode M_MO_takeMade.2.1 0 = .ok (.aload_n 0, 1) := by decide +kernel
theorem d_MO_takeMade_1 : decode M_MO_takeMade.2.1 1 = .ok (.getfield 16, 3) := by decide +kernel
theorem d_MO_takeMade_4 : decode M_MO_takeMade.2.1 4 = .ok (.bipush 10, 2) := by decide +kernel
theorem d_MO_takeMade_6 : decode M_MO_takeMade.2.1 6 = .ok (.iaload, 1) := by decide +kernel
theorem d_MO_takeMade_7 : decode M_MO_takeMade.2.1 7 = .ok (.sipush 200, 3) := by decide +kernel
theorem d_MO_takeMade_10 : decode M_MO_takeMade.2.1 10 = .ok (.if_icmp .gt 15, 3) := by decide +kernel
theorem d_MO_takeMade_13 : decode M_MO_takeMade.2.1 13 = .ok (.aload_n 0, 1) := by decide +kernel
theorem d_MO_takeMade_14 : decode M_MO_takeMade.2.1 14 = .ok (.getfield 23, 3) := by decide +kernel
theorem d_MO_takeMade_17 : decode M_MO_takeMade.2.1 17 = .ok (.bipush 10, 2) := by decide +kernel
theorem d_MO_takeMade_19 : decode M_MO_takeMade.2.1 19 = .ok (.iaload, 1) := by decide +kernel
theorem d_MO_takeMade_20 : decode M_MO_takeMade.2.1 20 = .ok (.bipush 8, 2) := by decide +kernel
theorem d_MO_takeMade_22 : decode M_MO_takeMade.2.1 22 = .ok (.if_icmp .le 5, 3) := by decide +kernel
theorem d_MO_takeMade_25 : decode M_MO_takeMade.2.1 25 = .ok (.iconst 0, 1) := by decide +kernel
theorem d_MO_takeMade_26 : decode M_MO_takeMade.2.1 26 = .ok (.ireturn, 1) := by decide +kernel
theorem d_MO_takeMade_27 : decode M_MO_takeMade.2.1 27 = .ok (.aload_n 0, 1) := by decide +kernel
theorem d_MO_takeMade_28 : decode M_MO_takeMade.2.1 28 = .ok (.bipush 10, 2) := by decide +kernel
theorem d_MO_takeMade_30 : decode M_MO_takeMade.2.1 30 = .ok (.iload_n 1, 1) := by decide +kernel
theorem d_MO_takeMade_31 : decode M_MO_takeMade.2.1 31 = .ok (.invokevirtual 76, 3) := by decide +kernel
theorem d_MO_takeMade_34 : decode M_MO_takeMade.2.1 34 = .ok (.iconst 1, 1) := by decide +kernel
theorem d_MO_takeMade_35 : decode M_MO_takeMade.2.1 35 = .ok (.ireturn, 1) := by decide +kernel
theorem d_MO_combine_0 : decode M_MO_combine.2.1 0 = .ok (.iload_n 1, 1) := by decide +kernel
theorem d_MO_combine_1 : decode M_MO_combine.2.1 1 = .ok (.invokestatic 196, 3) := by decide +kernel
theorem d_MO_combine_4 : decode M_MO_combine.2.1 4 = .ok (.ifCond .eq 19, 3) := by decide +kernel
theorem d_MO_combine_7 : decode M_MO_combine.2.1 7 = .ok (.iload_n 2, 1) := by decide +kernel
theorem d_MO_combine_8 : decode M_MO_combine.2.1 8 = .ok (.invokestatic 196, 3) := by decide +kernel
theorem d_MO_combine_11 : decode M_MO_combine.2.1 11 = .ok (.ifCond .eq 12, 3) := by decide +kernel
theorem d_MO_combine_14 : decode M_MO_combine.2.1 14 = .ok (.iload_n 3, 1) := by decide +kernel
theorem d_MO_combine_15 : decode M_MO_combine.2.1 15 = .ok (.ifCond .lt 8, 3) := by decide +kernel
theorem d_MO_combine_18 : decode M_MO_combine.2.1 18 = .ok (.iload_n 3, 1) := by decide +kernel
theorem d_MO_combine_19 : decode M_MO_combine.2.1 19 = .ok (.iconst 3, 1) := by decide +kernel
theorem d_MO_combine_20 : decode M_MO_combine.2.1 20 = .ok (.if_icmp .le 5, 3) := by decide +kernel
theorem d_MO_combine_23 : decode M_MO_combine.2.1 23 = .ok (.iconst 0, 1) := by decide +kernel
theorem d_MO_combine_24 : decode M_MO_combine.2.1 24 = .ok (.ireturn, 1) := by decide +kernel
theorem d_MO_combine_25 : decode M_MO_combine.2.1 25 = .ok (.aload_n 0, 1) := by decide +kernel
theorem d_MO_combine_26 : decode M_MO_combine.2.1 26 = .ok (.iload_n 1, 1) := by decide +kernel
theorem d_MO_combine_27 : decode M_MO_combine.2.1 27 = .ok (.iload_n 2, 1) := by decide +kernel
theorem d_MO_combine_28 : decode M_MO_combine.2.1 28 = .ok (.iload_n 3, 1) := by decide +kernel
theorem d_MO_combine_29 : decode M_MO_combine.2.1 29 = .ok (.invokevirtual 72, 3) := by decide +kernel
theorem d_MO_combine_32 : decode M_MO_combine.2.1 32 = .ok (.aload_n 0, 1) := by decide +kernel
theorem d_MO_combine_33 : decode M_MO_combine.2.1 33 = .ok (.iload_n 1, 1) := by decide +kernel
theorem d_MO_combine_34 : decode M_MO_combine.2.1 34 = .ok (.invokevirtual 223, 3) := by decide +kernel
theorem d_MO_combine_37 : decode M_MO_combine.2.1 37 = .ok (.ireturn, 1) := by decide +kernel
theorem d_MO_turn_0 : decode M_MO_turn.2.1 0 = .ok (.iload_n 1, 1) := by decide +kernel
theorem d_MO_turn_1 : decode M_MO_turn.2.1 1 = .ok (.invokestatic 196, 3) := by decide +kernel
theorem d_MO_turn_4 : decode M_MO_turn.2.1 4 = .ok (.ifCond .eq 12, 3) := by decide +kernel
theorem d_MO_turn_7 : decode M_MO_turn.2.1 7 = .ok (.aload_n 0, 1) := by decide +kernel
theorem d_MO_turn_8 : decode M_MO_turn.2.1 8 = .ok (.getfield 23, 3) := by decide +kernel
theorem d_MO_turn_11 : decode M_MO_turn.2.1 11 = .ok (.iload_n 1, 1) := by decide +kernel
theorem d_MO_turn_12 : decode M_MO_turn.2.1 12 = .ok (.iaload, 1) := by decide +kernel
theorem d_MO_turn_13 : decode M_MO_turn.2.1 13 = .ok (.ifCond .le 5, 3) := by decide +kernel
theorem d_MO_turn_16 : decode M_MO_turn.2.1 16 = .ok (.iconst 0, 1) := by decide +kernel
theorem d_MO_turn_17 : decode M_MO_turn.2.1 17 = .ok (.ireturn, 1) := by decide +kernel
theorem d_MO_turn_18 : decode M_MO_turn.2.1 18 = .ok (.aload_n 0, 1) := by decide +kernel
theorem d_MO_turn_19 : decode M_MO_turn.2.1 19 = .ok (.iload_n 1, 1) := by decide +kernel
theorem d_MO_turn_20 : decode M_MO_turn.2.1 20 = .ok (.bipush 11, 2) := by decide +kernel
theorem d_MO_turn_22 : decode M_MO_turn.2.1 22 = .ok (.iconst 3, 1) := by decide +kernel
theorem d_MO_turn_23 : decode M_MO_turn.2.1 23 = .ok (.invokevirtual 72, 3) := by decide +kernel
theorem d_MO_turn_26 : decode M_MO_turn.2.1 26 = .ok (.aload_n 0, 1) := by decide +kernel
theorem d_MO_turn_27 : decode M_MO_turn.2.1 27 = .ok (.iload_n 1, 1) := by decide +kernel
theorem d_MO_turn_28 : decode M_MO_turn.2.1 28 = .ok (.invokevirtual 223, 3) := by decide +kernel
theorem d_MO_turn_31 : decode M_MO_turn.2.1 31 = .ok (.ireturn, 1) := by decide +kernel
theorem d_MO_alike_0 : decode M_MO_alike.2.1 0 = .ok (.aload_n 0, 1) := by decide +kernel
theorem d_MO_alike_1 : decode M_MO_alike.2.1 1 = .ok (.iload_n 1, 1) := by decide +kernel
theorem d_MO_alike_2 : decode M_MO_alike.2.1 2 = .ok (.iload_n 2, 1) := by decide +kernel
theorem d_MO_alike_3 : decode M_MO_alike.2.1 3 = .ok (.invokevirtual 56, 3) := by decide +kernel
theorem d_MO_alike_6 : decode M_MO_alike.2.1 6 = .ok (.istore 4, 2) := by decide +kernel
theorem d_MO_alike_8 : decode M_MO_alike.2.1 8 = .ok (.aload_n 0, 1) := by decide +kernel
theorem d_MO_alike_9 : decode M_MO_alike.2.1 9 = .ok (.iload_n 1, 1) := by decide +kernel
theorem d_MO_alike_10 : decode M_MO_alike.2.1 10 = .ok (.iload_n 3, 1) := by decide +kernel
theorem d_MO_alike_11 : decode M_MO_alike.2.1 11 = .ok (.invokevirtual 56, 3) := by decide +kernel
theorem d_MO_alike_14 : decode M_MO_alike.2.1 14 = .ok (.istore 5, 2) := by decide +kernel
theorem d_MO_alike_16 : decode M_MO_alike.2.1 16 = .ok (.iload 4, 2) := by decide +kernel
theorem d_MO_alike_18 : decode M_MO_alike.2.1 18 = .ok (.iload 5, 2) := by decide +kernel
theorem d_MO_alike_20 : decode M_MO_alike.2.1 20 = .ok (.if_icmp .eq 24, 3) := by decide +kernel
theorem d_MO_alike_23 : decode M_MO_alike.2.1 23 = .ok (.iload 4, 2) := by decide +kernel
theorem d_MO_alike_25 : decode M_MO_alike.2.1 25 = .ok (.ifCond .eq 7, 3) := by decide +kernel
theorem d_MO_alike_28 : decode M_MO_alike.2.1 28 = .ok (.iload_n 3, 1) := by decide +kernel
theorem d_MO_alike_29 : decode M_MO_alike.2.1 29 = .ok (.goto 4, 3) := by decide +kernel
theorem d_MO_alike_32 : decode M_MO_alike.2.1 32 = .ok (.iload_n 2, 1) := by decide +kernel
theorem d_MO_alike_33 : decode M_MO_alike.2.1 33 = .ok (.istore 6, 2) := by decide +kernel
theorem d_MO_alike_35 : decode M_MO_alike.2.1 35 = .ok (.aload_n 0, 1) := by decide +kernel
theorem d_MO_alike_36 : decode M_MO_alike.2.1 36 = .ok (.iconst 3, 1) := by decide +kernel
theorem d_MO_alike_37 : decode M_MO_alike.2.1 37 = .ok (.iload 6, 2) := by decide +kernel
theorem d_MO_alike_39 : decode M_MO_alike.2.1 39 = .ok (.iload 6, 2) := by decide +kernel
theorem d_MO_alike_41 : decode M_MO_alike.2.1 41 = .ok (.invokevirtual 123, 3) := by decide +kernel
theorem d_MO_alike_44 : decode M_MO_alike.2.1 44 = .ok (.return_, 1) := by decide +kernel
theorem d_MO_close_0 : decode M_MO_close.2.1 0 = .ok (.iload_n 1, 1) := by decide +kernel
theorem d_MO_close_1 : decode M_MO_close.2.1 1 = .ok (.invokestatic 196, 3) := by decide +kernel
theorem d_MO_close_4 : decode M_MO_close.2.1 4 = .ok (.ifCond .ne 5, 3) := by decide +kernel
theorem d_MO_close_7 : decode M_MO_close.2.1 7 = .ok (.iconst (-1), 1) := by decide +kernel
theorem d_MO_close_8 : decode M_MO_close.2.1 8 = .ok (.ireturn, 1) := by decide +kernel
theorem d_MO_close_9 : decode M_MO_close.2.1 9 = .ok (.aload_n 0, 1) := by decide +kernel
theorem d_MO_close_10 : decode M_MO_close.2.1 10 = .ok (.iload_n 1, 1) := by decide +kernel
theorem d_MO_close_11 : decode M_MO_close.2.1 11 = .ok (.iconst 3, 1) := by decide +kernel
theorem d_MO_close_12 : decode M_MO_close.2.1 12 = .ok (.invokevirtual 76, 3) := by decide +kernel
theorem d_MO_close_15 : decode M_MO_close.2.1 15 = .ok (.bipush 65, 2) := by decide +kernel
theorem d_MO_close_17 : decode M_MO_close.2.1 17 = .ok (.istore_n 2, 1) := by decide +kernel
theorem d_MO_close_18 : decode M_MO_close.2.1 18 = .ok (.iload_n 2, 1) := by decide +kernel
theorem d_MO_close_19 : decode M_MO_close.2.1 19 = .ok (.sipush 222, 3) := by decide +kernel
theorem d_MO_close_22 : decode M_MO_close.2.1 22 = .ok (.if_icmp .gt 39, 3) := by decide +kernel
theorem d_MO_close_25 : decode M_MO_close.2.1 25 = .ok (.iload_n 2, 1) := by decide +kernel
theorem d_MO_close_26 : decode M_MO_close.2.1 26 = .ok (.bipush 90, 2) := by decide +kernel
theorem d_MO_close_28 : decode M_MO_close.2.1 28 = .ok (.if_icmp .le 17, 3) := by decide +kernel
theorem d_MO_close_31 : decode M_MO_close.2.1 31 = .ok (.iload_n 2, 1) := by decide +kernel
theorem d_MO_close_32 : decode M_MO_close.2.1 32 = .ok (.sipush 192, 3) := by decide +kernel
theorem d_MO_close_35 : decode M_MO_close.2.1 35 = .ok (.if_icmp .lt 20, 3) := by decide +kernel
theorem d_MO_close_38 : decode M_MO_close.2.1 38 = .ok (.iload_n 2, 1) := by decide +kernel
theorem d_MO_close_39 : decode M_MO_close.2.1 39 = .ok (.sipush 215, 3) := by decide +kernel
theorem d_MO_close_42 : decode M_MO_close.2.1 42 = .ok (.if_icmp .eq 13, 3) := by decide +kernel
theorem d_MO_close_45 : decode M_MO_close.2.1 45 = .ok (.aload_n 0, 1) := by decide +kernel
theorem d_MO_close_46 : decode M_MO_close.2.1 46 = .ok (.iload_n 1, 1) := by decide +kernel
theorem d_MO_close_47 : decode M_MO_close.2.1 47 = .ok (.iload_n 2, 1) := by decide +kernel
theorem d_MO_close_48 : decode M_MO_close.2.1 48 = .ok (.iload_n 2, 1) := by decide +kernel
theorem d_MO_close_49 : decode M_MO_close.2.1 49 = .ok (.bipush 32, 2) := by decide +kernel
theorem d_MO_close_51 : decode M_MO_close.2.1 51 = .ok (.iadd, 1) := by decide +kernel
theorem d_MO_close_52 : decode M_MO_close.2.1 52 = .ok (.invokevirtual 226, 3) := by decide +kernel
theorem d_MO_close_55 : decode M_MO_close.2.1 55 = .ok (.iinc 2 1, 3) := by decide +kernel
theorem d_MO_close_58 : decode M_MO_close.2.1 58 = .ok (.goto (-40), 3) := by decide +kernel
theorem d_MO_close_61 : decode M_MO_close.2.1 61 = .ok (.aload_n 0, 1) := by decide +kernel
theorem d_MO_close_62 : decode M_MO_close.2.1 62 = .ok (.iload_n 1, 1) := by decide +kernel
theorem d_MO_close_63 : decode M_MO_close.2.1 63 = .ok (.bipush 75, 2) := by decide +kernel
theorem d_MO_close_65 : decode M_MO_close.2.1 65 = .ok (.sipush 8490, 3) := by decide +kernel
theorem d_MO_close_68 : decode M_MO_close.2.1 68 = .ok (.invokevirtual 226, 3) := by decide +kernel
theorem d_MO_close_71 : decode M_MO_close.2.1 71 = .ok (.aload_n 0, 1) := by decide +kernel
theorem d_MO_close_72 : decode M_MO_close.2.1 72 = .ok (.iload_n 1, 1) := by decide +kernel
theorem d_MO_close_73 : decode M_MO_close.2.1 73 = .ok (.bipush 107, 2) := by decide +kernel
theorem d_MO_close_75 : decode M_MO_close.2.1 75 = .ok (.sipush 8490, 3) := by decide +kernel
theorem d_MO_close_78 : decode M_MO_close.2.1 78 = .ok (.invokevirtual 226, 3) := by decide +kernel
theorem d_MO_close_81 : decode M_MO_close.2.1 81 = .ok (.aload_n 0, 1) := by decide +kernel
theorem d_MO_close_82 : decode M_MO_close.2.1 82 = .ok (.iload_n 1, 1) := by decide +kernel
theorem d_MO_close_83 : decode M_MO_close.2.1 83 = .ok (.bipush 83, 2) := by decide +kernel
theorem d_MO_close_85 : decode M_MO_close.2.1 85 = .ok (.sipush 383, 3) := by decide +kernel
theorem d_MO_close_88 : decode M_MO_close.2.1 88 = .ok (.invokevirtual 226, 3) := by decide +kernel
theorem d_MO_close_91 : decode M_MO_close.2.1 91 = .ok (.aload_n 0, 1) := by decide +kernel
theorem d_MO_close_92 : decode M_MO_close.2.1 92 = .ok (.iload_n 1, 1) := by decide +kernel
theorem d_MO_close_93 : decode M_MO_close.2.1 93 = .ok (.bipush 115, 2) := by decide +kernel
theorem d_MO_close_95 : decode M_MO_close.2.1 95 = .ok (.sipush 383, 3) := by decide +kernel
theorem d_MO_close_98 : decode M_MO_close.2.1 98 = .ok (.invokevirtual 226, 3) := by decide +kernel
theorem d_MO_close_101 : decode M_MO_close.2.1 101 = .ok (.aload_n 0, 1) := by decide +kernel
theorem d_MO_close_102 : decode M_MO_close.2.1 102 = .ok (.iload_n 1, 1) := by decide +kernel
theorem d_MO_close_103 : decode M_MO_close.2.1 103 = .ok (.sipush 197, 3) := by decide +kernel
theorem d_MO_close_106 : decode M_MO_close.2.1 106 = .ok (.sipush 8491, 3) := by decide +kernel
theorem d_MO_close_109 : decode M_MO_close.2.1 109 = .ok (.invokevirtual 226, 3) := by decide +kernel
theorem d_MO_close_112 : decode M_MO_close.2.1 112 = .ok (.aload_n 0, 1) := by decide +kernel
theorem d_MO_close_113 : decode M_MO_close.2.1 113 = .ok (.iload_n 1, 1) := by decide +kernel
theorem d_MO_close_114 : decode M_MO_close.2.1 114 = .ok (.sipush 229, 3) := by decide +kernel
theorem d_MO_close_117 : decode M_MO_close.2.1 117 = .ok (.sipush 8491, 3) := by decide +kernel
theorem d_MO_close_120 : decode M_MO_close.2.1 120 = .ok (.invokevirtual 226, 3) := by decide +kernel
theorem d_MO_close_123 : decode M_MO_close.2.1 123 = .ok (.aload_n 0, 1) := by decide +kernel
theorem d_MO_close_124 : decode M_MO_close.2.1 124 = .ok (.iload_n 1, 1) := by decide +kernel
theorem d_MO_close_125 : decode M_MO_close.2.1 125 = .ok (.sipush 931, 3) := by decide +kernel
theorem d_MO_close_128 : decode M_MO_close.2.1 128 = .ok (.sipush 962, 3) := by decide +kernel
theorem d_MO_close_131 : decode M_MO_close.2.1 131 = .ok (.invokevirtual 226, 3) := by decide +kernel
theorem d_MO_close_134 : decode M_MO_close.2.1 134 = .ok (.aload_n 0, 1) := by decide +kernel
theorem d_MO_close_135 : decode M_MO_close.2.1 135 = .ok (.iload_n 1, 1) := by decide +kernel
theorem d_MO_close_136 : decode M_MO_close.2.1 136 = .ok (.sipush 931, 3) := by decide +kernel
theorem d_MO_close_139 : decode M_MO_close.2.1 139 = .ok (.sipush 963, 3) := by decide +kernel
theorem d_MO_close_142 : decode M_MO_close.2.1 142 = .ok (.invokevirtual 226, 3) := by decide +kernel
theorem d_MO_close_145 : decode M_MO_close.2.1 145 = .ok (.aload_n 0, 1) := by decide +kernel
theorem d_MO_close_146 : decode M_MO_close.2.1 146 = .ok (.iload_n 1, 1) := by decide +kernel
theorem d_MO_close_147 : decode M_MO_close.2.1 147 = .ok (.sipush 962, 3) := by decide +kernel
theorem d_MO_close_150 : decode M_MO_close.2.1 150 = .ok (.sipush 963, 3) := by decide +kernel
theorem d_MO_close_153 : decode M_MO_close.2.1 153 = .ok (.invokevirtual 226, 3) := by decide +kernel
theorem d_MO_close_156 : decode M_MO_close.2.1 156 = .ok (.aload_n 0, 1) := by decide +kernel
theorem d_MO_close_157 : decode M_MO_close.2.1 157 = .ok (.getfield 16, 3) := by decide +kernel
theorem d_MO_close_160 : decode M_MO_close.2.1 160 = .ok (.iconst 3, 1) := by decide +kernel
theorem d_MO_close_161 : decode M_MO_close.2.1 161 = .ok (.iaload, 1) := by decide +kernel
theorem d_MO_close_162 : decode M_MO_close.2.1 162 = .ok (.sipush 200, 3) := by decide +kernel
theorem d_MO_close_165 : decode M_MO_close.2.1 165 = .ok (.if_icmp .le 5, 3) := by decide +kernel
theorem d_MO_close_168 : decode M_MO_close.2.1 168 = .ok (.iconst (-1), 1) := by decide +kernel
theorem d_MO_close_169 : decode M_MO_close.2.1 169 = .ok (.ireturn, 1) := by decide +kernel
theorem d_MO_close_170 : decode M_MO_close.2.1 170 = .ok (.aload_n 0, 1) := by decide +kernel
theorem d_MO_close_171 : decode M_MO_close.2.1 171 = .ok (.iload_n 1, 1) := by decide +kernel
theorem d_MO_close_172 : decode M_MO_close.2.1 172 = .ok (.invokevirtual 229, 3) := by decide +kernel
theorem d_MO_close_175 : decode M_MO_close.2.1 175 = .ok (.istore_n 2, 1) := by decide +kernel
theorem d_MO_close_176 : decode M_MO_close.2.1 176 = .ok (.aload_n 0, 1) := by decide +kernel
theorem d_MO_close_177 : decode M_MO_close.2.1 177 = .ok (.iconst 3, 1) := by decide +kernel
theorem d_MO_close_178 : decode M_MO_close.2.1 178 = .ok (.iload_n 1, 1) := by decide +kernel
theorem d_MO_close_179 : decode M_MO_close.2.1 179 = .ok (.invokevirtual 76, 3) := by decide +kernel
theorem d_MO_close_182 : decode M_MO_close.2.1 182 = .ok (.aload_n 0, 1) := by decide +kernel
theorem d_MO_close_183 : decode M_MO_close.2.1 183 = .ok (.iload_n 1, 1) := by decide +kernel
theorem d_MO_close_184 : decode M_MO_close.2.1 184 = .ok (.invokevirtual 229, 3) := by decide +kernel
theorem d_MO_close_187 : decode M_MO_close.2.1 187 = .ok (.iload_n 2, 1) := by decide +kernel
theorem d_MO_close_188 : decode M_MO_close.2.1 188 = .ok (.isub, 1) := by decide +kernel
theorem d_MO_close_189 : decode M_MO_close.2.1 189 = .ok (.ireturn, 1) := by decide +kernel
theorem d_MO_contains_0 : decode M_MO_contains.2.1 0 = .ok (.iload_n 1, 1) := by decide +kernel
theorem d_MO_contains_1 : decode M_MO_contains.2.1 1 = .ok (.invokestatic 196, 3) := by decide +kernel
theorem d_MO_contains_4 : decode M_MO_contains.2.1 4 = .ok (.ifCond .eq 26, 3) := by decide +kernel
theorem d_MO_contains_7 : decode M_MO_contains.2.1 7 = .ok (.iload_n 2, 1) := by decide +kernel
theorem d_MO_contains_8 : decode M_MO_contains.2.1 8 = .ok (.ifCond .lt 22, 3) := by decide +kernel
theorem d_MO_contains_11 : decode M_MO_contains.2.1 11 = .ok (.iload_n 2, 1) := by decide +kernel
theorem d_MO_contains_12 : decode M_MO_contains.2.1 12 = .ok (.ldc 42, 2) := by decide +kernel
theorem d_MO_contains_14 : decode M_MO_contains.2.1 14 = .ok (.if_icmp .ge 16, 3) := by decide +kernel
theorem d_MO_contains_17 : decode M_MO_contains.2.1 17 = .ok (.aload_n 0, 1) := by decide +kernel
theorem d_MO_contains_18 : decode M_MO_contains.2.1 18 = .ok (.iload_n 1, 1) := by decide +kernel
theorem d_MO_contains_19 : decode M_MO_contains.2.1 19 = .ok (.iload_n 2, 1) := by decide +kernel
theorem d_MO_contains_20 : decode M_MO_contains.2.1 20 = .ok (.invokevirtual 56, 3) := by decide +kernel
theorem d_MO_contains_23 : decode M_MO_contains.2.1 23 = .ok (.ifCond .eq 7, 3) := by decide +kernel
theorem d_MO_contains_26 : decode M_MO_contains.2.1 26 = .ok (.iconst 1, 1) := by decide +kernel
theorem d_MO_contains_27 : decode M_MO_contains.2.1 27 = .ok (.goto 4, 3) := by decide +kernel
theorem d_MO_contains_30 : decode M_MO_contains.2.1 30 = .ok (.iconst 0, 1) := by decide +kernel
theorem d_MO_contains_31 : decode M_MO_contains.2.1 31 = .ok (.ireturn, 1) := by decide +kernel
theorem d_MO_has_0 : decode M_MO_has.2.1 0 = .ok (.iload_n 1, 1) := by decide +kernel
theorem d_MO_has_1 : decode M_MO_has.2.1 1 = .ok (.invokestatic 196, 3) := by decide +kernel
theorem d_MO_has_4 : decode M_MO_has.2.1 4 = .ok (.ifCond .eq 18, 3) := by decide +kernel
theorem d_MO_has_7 : decode M_MO_has.2.1 7 = .ok (.aload_n 0, 1) := by decide +kernel
theorem d_MO_has_8 : decode M_MO_has.2.1 8 = .ok (.getfield 43, 3) := by decide +kernel
theorem d_MO_has_11 : decode M_MO_has.2.1 11 = .ok (.ifCond .eq 11, 3) := by decide +kernel
theorem d_MO_has_14 : decode M_MO_has.2.1 14 = .ok (.aload_n 0, 1) := by decide +kernel
theorem d_MO_has_15 : decode M_MO_has.2.1 15 = .ok (.getfield 43, 3) := by decide +kernel
theorem d_MO_has_18 : decode M_MO_has.2.1 18 = .ok (.iconst 3, 1) := by decide +kernel
theorem d_MO_has_19 : decode M_MO_has.2.1 19 = .ok (.if_icmp .le 5, 3) := by decide +kernel
theorem d_MO_has_22 : decode M_MO_has.2.1 22 = .ok (.iconst 0, 1) := by decide +kernel
theorem d_MO_has_23 : decode M_MO_has.2.1 23 = .ok (.ireturn, 1) := by decide +kernel
theorem d_MO_has_24 : decode M_MO_has.2.1 24 = .ok (.aload_n 0, 1) := by decide +kernel
theorem d_MO_has_25 : decode M_MO_has.2.1 25 = .ok (.getfield 43, 3) := by decide +kernel
theorem d_MO_has_28 : decode M_MO_has.2.1 28 = .ok (.iconst 1, 1) := by decide +kernel
theorem d_MO_has_29 : decode M_MO_has.2.1 29 = .ok (.if_icmp .ne 15, 3) := by decide +kernel
theorem d_MO_has_32 : decode M_MO_has.2.1 32 = .ok (.aload_n 0, 1) := by decide +kernel
theorem d_MO_has_33 : decode M_MO_has.2.1 33 = .ok (.iload_n 1, 1) := by decide +kernel
theorem d_MO_has_34 : decode M_MO_has.2.1 34 = .ok (.aload_n 0, 1) := by decide +kernel
theorem d_MO_has_35 : decode M_MO_has.2.1 35 = .ok (.getfield 7, 3) := by decide +kernel
theorem d_MO_has_38 : decode M_MO_has.2.1 38 = .ok (.iconst 0, 1) := by decide +kernel
theorem d_MO_has_39 : decode M_MO_has.2.1 39 = .ok (.iaload, 1) := by decide +kernel
theorem d_MO_has_40 : decode M_MO_has.2.1 40 = .ok (.invokevirtual 56, 3) := by decide +kernel
theorem d_MO_has_43 : decode M_MO_has.2.1 43 = .ok (.ireturn, 1) := by decide +kernel
theorem d_MO_has_44 : decode M_MO_has.2.1 44 = .ok (.aload_n 0, 1) := by decide +kernel
theorem d_MO_has_45 : decode M_MO_has.2.1 45 = .ok (.iload_n 1, 1) := by decide +kernel
theorem d_MO_has_46 : decode M_MO_has.2.1 46 = .ok (.aload_n 0, 1) := by decide +kernel
theorem d_MO_has_47 : decode M_MO_has.2.1 47 = .ok (.getfield 7, 3) := by decide +kernel
theorem d_MO_has_50 : decode M_MO_has.2.1 50 = .ok (.iconst 0, 1) := by decide +kernel
theorem d_MO_has_51 : decode M_MO_has.2.1 51 = .ok (.iaload, 1) := by decide +kernel
theorem d_MO_has_52 : decode M_MO_has.2.1 52 = .ok (.aload_n 0, 1) := by decide +kernel
theorem d_MO_has_53 : decode M_MO_has.2.1 53 = .ok (.getfield 7, 3) := by decide +kernel
theorem d_MO_has_56 : decode M_MO_has.2.1 56 = .ok (.iconst 1, 1) := by decide +kernel
theorem d_MO_has_57 : decode M_MO_has.2.1 57 = .ok (.iaload, 1) := by decide +kernel
theorem d_MO_has_58 : decode M_MO_has.2.1 58 = .ok (.aload_n 0, 1) := by decide +kernel
theorem d_MO_has_59 : decode M_MO_has.2.1 59 = .ok (.getfield 43, 3) := by decide +kernel
theorem d_MO_has_62 : decode M_MO_has.2.1 62 = .ok (.iconst 3, 1) := by decide +kernel
theorem d_MO_has_63 : decode M_MO_has.2.1 63 = .ok (.if_icmp .ne 12, 3) := by decide +kernel
theorem d_MO_has_66 : decode M_MO_has.2.1 66 = .ok (.aload_n 0, 1) := by decide +kernel
theorem d_MO_has_67 : decode M_MO_has.2.1 67 = .ok (.getfield 7, 3) := by decide +kernel
theorem d_MO_has_70 : decode M_MO_has.2.1 70 = .ok (.iconst 2, 1) := by decide +kernel
theorem d_MO_has_71 : decode M_MO_has.2.1 71 = .ok (.iaload, 1) := by decide +kernel
theorem d_MO_has_72 : decode M_MO_has.2.1 72 = .ok (.goto 4, 3) := by decide +kernel
theorem d_MO_has_75 : decode M_MO_has.2.1 75 = .ok (.iconst 0, 1) := by decide +kernel
theorem d_MO_has_76 : decode M_MO_has.2.1 76 = .ok (.aload_n 0, 1) := by decide +kernel
theorem d_MO_has_77 : decode M_MO_has.2.1 77 = .ok (.getfield 43, 3) := by decide +kernel
theorem d_MO_has_80 : decode M_MO_has.2.1 80 = .ok (.iconst 3, 1) := by decide +kernel
theorem d_MO_has_81 : decode M_MO_has.2.1 81 = .ok (.if_icmp .ne 7, 3) := by decide +kernel
theorem d_MO_has_84 : decode M_MO_has.2.1 84 = .ok (.iconst 1, 1) := by decide +kernel
theorem d_MO_has_85 : decode M_MO_has.2.1 85 = .ok (.goto 4, 3) := by decide +kernel
theorem d_MO_has_88 : decode M_MO_has.2.1 88 = .ok (.iconst 0, 1) := by decide +kernel
theorem d_MO_has_89 : decode M_MO_has.2.1 89 = .ok (.invokestatic 168, 3) := by decide +kernel
theorem d_MO_has_92 : decode M_MO_has.2.1 92 = .ok (.invokevirtual 64, 3) := by decide +kernel
theorem d_MO_has_95 : decode M_MO_has.2.1 95 = .ok (.ireturn, 1) := by decide +kernel
theorem d_MO_includes_0 : decode M_MO_includes.2.1 0 = .ok (.iload_n 1, 1) := by decide +kernel
theorem d_MO_includes_1 : decode M_MO_includes.2.1 1 = .ok (.invokestatic 196, 3) := by decide +kernel
theorem d_MO_includes_4 : decode M_MO_includes.2.1 4 = .ok (.ifCond .eq 10, 3) := by decide +kernel
theorem d_MO_includes_7 : decode M_MO_includes.2.1 7 = .ok (.iload_n 2, 1) := by decide +kernel
theorem d_MO_includes_8 : decode M_MO_includes.2.1 8 = .ok (.invokestatic 196, 3) := by decide +kernel
theorem d_MO_includes_11 : decode M_MO_includes.2.1 11 = .ok (.ifCond .ne 5, 3) := by decide +kernel
theorem d_MO_includes_14 : decode M_MO_includes.2.1 14 = .ok (.iconst 0, 1) := by decide +kernel
theorem d_MO_includes_15 : decode M_MO_includes.2.1 15 = .ok (.ireturn, 1) := by decide +kernel
theorem d_MO_includes_16 : decode M_MO_includes.2.1 16 = .ok (.aload_n 0, 1) := by decide +kernel
theorem d_MO_includes_17 : decode M_MO_includes.2.1 17 = .ok (.iload_n 2, 1) := by decide +kernel
theorem d_MO_includes_18 : decode M_MO_includes.2.1 18 = .ok (.iload_n 1, 1) := by decide +kernel
theorem d_MO_includes_19 : decode M_MO_includes.2.1 19 = .ok (.iconst 2, 1) := by decide +kernel
theorem d_MO_includes_20 : decode M_MO_includes.2.1 20 = .ok (.invokevirtual 72, 3) := by decide +kernel
theorem d_MO_includes_23 : decode M_MO_includes.2.1 23 = .ok (.aload_n 0, 1) := by decide +kernel
theorem d_MO_includes_24 : decode M_MO_includes.2.1 24 = .ok (.getfield 16, 3) := by decide +kernel
theorem d_MO_includes_27 : decode M_MO_includes.2.1 27 = .ok (.bipush 10, 2) := by decide +kernel
theorem d_MO_includes_29 : decode M_MO_includes.2.1 29 = .ok (.iaload, 1) := by decide +kernel
theorem d_MO_includes_30 : decode M_MO_includes.2.1 30 = .ok (.ifCond .ne 17, 3) := by decide +kernel
theorem d_MO_includes_33 : decode M_MO_includes.2.1 33 = .ok (.aload_n 0, 1) := by decide +kernel
theorem d_MO_includes_34 : decode M_MO_includes.2.1 34 = .ok (.getfield 23, 3) := by decide +kernel
theorem d_MO_includes_37 : decode M_MO_includes.2.1 37 = .ok (.bipush 10, 2) := by decide +kernel
theorem d_MO_includes_39 : decode M_MO_includes.2.1 39 = .ok (.iaload, 1) := by decide +kernel
theorem d_MO_includes_40 : decode M_MO_includes.2.1 40 = .ok (.ifCond .ne 7, 3) := by decide +kernel
theorem d_MO_includes_43 : decode M_MO_includes.2.1 43 = .ok (.iconst 1, 1) := by decide +kernel
theorem d_MO_includes_44 : decode M_MO_includes.2.1 44 = .ok (.goto 4, 3) := by decide +kernel
theorem d_MO_includes_47 : decode M_MO_includes.2.1 47 = .ok (.iconst 0, 1) := by decide +kernel
theorem d_MO_includes_48 : decode M_MO_includes.2.1 48 = .ok (.ireturn, 1) := by decide +kernel
theorem d_MO_size_0 : decode M_MO_size.2.1 0 = .ok (.iload_n 1, 1) := by decide +kernel
theorem d_MO_size_1 : decode M_MO_size.2.1 1 = .ok (.invokestatic 196, 3) := by decide +kernel
theorem d_MO_size_4 : decode M_MO_size.2.1 4 = .ok (.ifCond .ne 5, 3) := by decide +kernel
theorem d_MO_size_7 : decode M_MO_size.2.1 7 = .ok (.iconst (-1), 1) := by decide +kernel
theorem d_MO_size_8 : decode M_MO_size.2.1 8 = .ok (.ireturn, 1) := by decide +kernel
theorem d_MO_size_9 : decode M_MO_size.2.1 9 = .ok (.iconst 0, 1) := by decide +kernel
theorem d_MO_size_10 : decode M_MO_size.2.1 10 = .ok (.istore_n 2, 1) := by decide +kernel
theorem d_MO_size_11 : decode M_MO_size.2.1 11 = .ok (.iconst 0, 1) := by decide +kernel
theorem d_MO_size_12 : decode M_MO_size.2.1 12 = .ok (.istore_n 3, 1) := by decide +kernel
theorem d_MO_size_13 : decode M_MO_size.2.1 13 = .ok (.iload_n 3, 1) := by decide +kernel
theorem d_MO_size_14 : decode M_MO_size.2.1 14 = .ok (.iconst 1, 1) := by decide +kernel
theorem d_MO_size_15 : decode M_MO_size.2.1 15 = .ok (.iadd, 1) := by decide +kernel
theorem d_MO_size_16 : decode M_MO_size.2.1 16 = .ok (.aload_n 0, 1) := by decide +kernel
theorem d_MO_size_17 : decode M_MO_size.2.1 17 = .ok (.getfield 16, 3) := by decide +kernel
theorem d_MO_size_20 : decode M_MO_size.2.1 20 = .ok (.iload_n 1, 1) := by decide +kernel
theorem d_MO_size_21 : decode M_MO_size.2.1 21 = .ok (.iaload, 1) := by decide +kernel
theorem d_MO_size_22 : decode M_MO_size.2.1 22 = .ok (.if_icmp .ge 39, 3) := by decide +kernel
theorem d_MO_size_25 : decode M_MO_size.2.1 25 = .ok (.iload_n 2, 1) := by decide +kernel
theorem d_MO_size_26 : decode M_MO_size.2.1 26 = .ok (.aload_n 0, 1) := by decide +kernel
theorem d_MO_size_27 : decode M_MO_size.2.1 27 = .ok (.getfield 13, 3) := by decide +kernel
theorem d_MO_size_30 : decode M_MO_size.2.1 30 = .ok (.sipush 420, 3) := by decide +kernel
theorem d_MO_size_33 : decode M_MO_size.2.1 33 = .ok (.iload_n 1, 1) := by decide +kernel
theorem d_MO_size_34 : decode M_MO_size.2.1 34 = .ok (.imul, 1) := by decide +kernel
theorem d_MO_size_35 : decode M_MO_size.2.1 35 = .ok (.iload_n 3, 1) := by decide +kernel
theorem d_MO_size_36 : decode M_MO_size.2.1 36 = .ok (.iadd, 1) := by decide +kernel
theorem d_MO_size_37 : decode M_MO_size.2.1 37 = .ok (.iconst 1, 1) := by decide +kernel
theorem d_MO_size_38 : decode M_MO_size.2.1 38 = .ok (.iadd, 1) := by decide +kernel
theorem d_MO_size_39 : decode M_MO_size.2.1 39 = .ok (.iaload, 1) := by decide +kernel
theorem d_MO_size_40 : decode M_MO_size.2.1 40 = .ok (.iadd, 1) := by decide +kernel
theorem d_MO_size_41 : decode M_MO_size.2.1 41 = .ok (.aload_n 0, 1) := by decide +kernel
theorem d_MO_size_42 : decode M_MO_size.2.1 42 = .ok (.getfield 13, 3) := by decide +kernel
theorem d_MO_size_45 : decode M_MO_size.2.1 45 = .ok (.sipush 420, 3) := by decide +kernel
theorem d_MO_size_48 : decode M_MO_size.2.1 48 = .ok (.iload_n 1, 1) := by decide +kernel
theorem d_MO_size_49 : decode M_MO_size.2.1 49 = .ok (.imul, 1) := by decide +kernel
theorem d_MO_size_50 : decode M_MO_size.2.1 50 = .ok (.iload_n 3, 1) := by decide +kernel
theorem d_MO_size_51 : decode M_MO_size.2.1 51 = .ok (.iadd, 1) := by decide +kernel
theorem d_MO_size_52 : decode M_MO_size.2.1 52 = .ok (.iaload, 1) := by decide +kernel
theorem d_MO_size_53 : decode M_MO_size.2.1 53 = .ok (.isub, 1) := by decide +kernel
theorem d_MO_size_54 : decode M_MO_size.2.1 54 = .ok (.istore_n 2, 1) := by decide +kernel
theorem d_MO_size_55 : decode M_MO_size.2.1 55 = .ok (.iinc 3 2, 3) := by decide +kernel
theorem d_MO_size_58 : decode M_MO_size.2.1 58 = .ok (.goto (-45), 3) := by decide +kernel
theorem d_MO_size_61 : decode M_MO_size.2.1 61 = .ok (.iload_n 2, 1) := by decide +kernel
theorem d_MO_size_62 : decode M_MO_size.2.1 62 = .ok (.ireturn, 1) := by decide +kernel
theorem d_MO_strings_0 : decode M_MO_strings.2.1 0 = .ok (.iload_n 1, 1) := by decide +kernel
theorem d_MO_strings_1 : decode M_MO_strings.2.1 1 = .ok (.invokestatic 196, 3) := by decide +kernel
theorem d_MO_strings_4 : decode M_MO_strings.2.1 4 = .ok (.ifCond .eq 12, 3) := by decide +kernel
theorem d_MO_strings_7 : decode M_MO_strings.2.1 7 = .ok (.aload_n 0, 1) := by decide +kernel
theorem d_MO_strings_8 : decode M_MO_strings.2.1 8 = .ok (.getfield 23, 3) := by decide +kernel
theorem d_MO_strings_11 : decode M_MO_strings.2.1 11 = .ok (.iload_n 1, 1) := by decide +kernel
theorem d_MO_strings_12 : decode M_MO_strings.2.1 12 = .ok (.iaload, 1) := by decide +kernel
theorem d_MO_strings_13 : decode M_MO_strings.2.1 13 = .ok (.goto 4, 3) := by decide +kernel
theorem d_MO_strings_16 : decode M_MO_strings.2.1 16 = .ok (.iconst (-1), 1) := by decide +kernel
theorem d_MO_strings_17 : decode M_MO_strings.2.1 17 = .ok (.ireturn, 1) := by decide +kernel
theorem d_MO_edge_0 : decode M_MO_edge.2.1 0 = .ok (.iload_n 1, 1) := by decide +kernel
theorem d_MO_edge_1 : decode M_MO_edge.2.1 1 = .ok (.invokestatic 196, 3) := by decide +kernel
theorem d_MO_edge_4 : decode M_MO_edge.2.1 4 = .ok (.ifCond .eq 17, 3) := by decide +kernel
theorem d_MO_edge_7 : decode M_MO_edge.2.1 7 = .ok (.iload_n 2, 1) := by decide +kernel
theorem d_MO_edge_8 : decode M_MO_edge.2.1 8 = .ok (.ifCond .lt 13, 3) := by decide +kernel
theorem d_MO_edge_11 : decode M_MO_edge.2.1 11 = .ok (.iload_n 2, 1) := by decide +kernel
theorem d_MO_edge_12 : decode M_MO_edge.2.1 12 = .ok (.aload_n 0, 1) := by decide +kernel
theorem d_MO_edge_13 : decode M_MO_edge.2.1 13 = .ok (.getfield 16, 3) := by decide +kernel
theorem d_MO_edge_16 : decode M_MO_edge.2.1 16 = .ok (.iload_n 1, 1) := by decide +kernel
theorem d_MO_edge_17 : decode M_MO_edge.2.1 17 = .ok (.iaload, 1) := by decide +kernel
theorem d_MO_edge_18 : decode M_MO_edge.2.1 18 = .ok (.if_icmp .lt 7, 3) := by decide +kernel
theorem d_MO_edge_21 : decode M_MO_edge.2.1 21 = .ok (.iconst (-1), 1) := by decide +kernel
theorem d_MO_edge_22 : decode M_MO_edge.2.1 22 = .ok (.goto 15, 3) := by decide +kernel
theorem d_MO_edge_25 : decode M_MO_edge.2.1 25 = .ok (.aload_n 0, 1) := by decide +kernel
theorem d_MO_edge_26 : decode M_MO_edge.2.1 26 = .ok (.getfield 13, 3) := by decide +kernel
theorem d_MO_edge_29 : decode M_MO_edge.2.1 29 = .ok (.sipush 420, 3) := by decide +kernel
theorem d_MO_edge_32 : decode M_MO_edge.2.1 32 = .ok (.iload_n 1, 1) := by decide +kernel
theorem d_MO_edge_33 : decode M_MO_edge.2.1 33 = .ok (.imul, 1) := by decide +kernel
theorem d_MO_edge_34 : decode M_MO_edge.2.1 34 = .ok (.iload_n 2, 1) := by decide +kernel
theorem d_MO_edge_35 : decode M_MO_edge.2.1 35 = .ok (.iadd, 1) := by decide +kernel
theorem d_MO_edge_36 : decode M_MO_edge.2.1 36 = .ok (.iaload, 1) := by decide +kernel
theorem d_MO_edge_37 : decode M_MO_edge.2.1 37 = .ok (.ireturn, 1) := by decide +kernel
theorem d_MO_nth_0 : decode M_MO_nth.2.1 0 = .ok (.iload_n 1, 1) := by decide +kernel
theorem d_MO_nth_1 : decode M_MO_nth.2.1 1 = .ok (.invokestatic 196, 3) := by decide +kernel
theorem d_MO_nth_4 : decode M_MO_nth.2.1 4 = .ok (.ifCond .eq 7, 3) := by decide +kernel
theorem d_MO_nth_7 : decode M_MO_nth.2.1 7 = .ok (.iload_n 2, 1) := by decide +kernel
theorem d_MO_nth_8 : decode M_MO_nth.2.1 8 = .ok (.ifCond .ge 5, 3) := by decide +kernel
theorem d_MO_nth_11 : decode M_MO_nth.2.1 11 = .ok (.iconst (-1), 1) := by decide +kernel
theorem d_MO_nth_12 : decode M_MO_nth.2.1 12 = .ok (.ireturn, 1) := by decide +kernel
theorem d_MO_nth_13 : decode M_MO_nth.2.1 13 = .ok (.iload_n 2, 1) := by decide +kernel
theorem d_MO_nth_14 : decode M_MO_nth.2.1 14 = .ok (.istore_n 3, 1) := by decide +kernel
theorem d_MO_nth_15 : decode M_MO_nth.2.1 15 = .ok (.iconst 0, 1) := by decide +kernel
theorem d_MO_nth_16 : decode M_MO_nth.2.1 16 = .ok (.istore 4, 2) := by decide +kernel
theorem d_MO_nth_18 : decode M_MO_nth.2.1 18 = .ok (.iload 4, 2) := by decide +kernel
theorem d_MO_nth_20 : decode M_MO_nth.2.1 20 = .ok (.iconst 1, 1) := by decide +kernel
theorem d_MO_nth_21 : decode M_MO_nth.2.1 21 = .ok (.iadd, 1) := by decide +kernel
theorem d_MO_nth_22 : decode M_MO_nth.2.1 22 = .ok (.aload_n 0, 1) := by decide +kernel
theorem d_MO_nth_23 : decode M_MO_nth.2.1 23 = .ok (.getfield 16, 3) := by decide +kernel
theorem d_MO_nth_26 : decode M_MO_nth.2.1 26 = .ok (.iload_n 1, 1) := by decide +kernel
theorem d_MO_nth_27 : decode M_MO_nth.2.1 27 = .ok (.iaload, 1) := by decide +kernel
theorem d_MO_nth_28 : decode M_MO_nth.2.1 28 = .ok (.if_icmp .ge 60, 3) := by decide +kernel
theorem d_MO_nth_31 : decode M_MO_nth.2.1 31 = .ok (.aload_n 0, 1) := by decide +kernel
theorem d_MO_nth_32 : decode M_MO_nth.2.1 32 = .ok (.getfield 13, 3) := by decide +kernel
theorem d_MO_nth_35 : decode M_MO_nth.2.1 35 = .ok (.sipush 420, 3) := by decide +kernel
theorem d_MO_nth_38 : decode M_MO_nth.2.1 38 = .ok (.iload_n 1, 1) := by decide +kernel
theorem d_MO_nth_39 : decode M_MO_nth.2.1 39 = .ok (.imul, 1) := by decide +kernel
theorem d_MO_nth_40 : decode M_MO_nth.2.1 40 = .ok (.iload 4, 2) := by decide +kernel
theorem d_MO_nth_42 : decode M_MO_nth.2.1 42 = .ok (.iadd, 1) := by decide +kernel
theorem d_MO_nth_43 : decode M_MO_nth.2.1 43 = .ok (.iaload, 1) := by decide +kernel
theorem d_MO_nth_44 : decode M_MO_nth.2.1 44 = .ok (.istore 5, 2) := by decide +kernel
theorem d_MO_nth_46 : decode M_MO_nth.2.1 46 = .ok (.aload_n 0, 1) := by decide +kernel
theorem d_MO_nth_47 : decode M_MO_nth.2.1 47 = .ok (.getfield 13, 3) := by decide +kernel
theorem d_MO_nth_50 : decode M_MO_nth.2.1 50 = .ok (.sipush 420, 3) := by decide +kernel
theorem d_MO_nth_53 : decode M_MO_nth.2.1 53 = .ok (.iload_n 1, 1) := by decide +kernel
theorem d_MO_nth_54 : decode M_MO_nth.2.1 54 = .ok (.imul, 1) := by decide +kernel
theorem d_MO_nth_55 : decode M_MO_nth.2.1 55 = .ok (.iload 4, 2) := by decide +kernel
theorem d_MO_nth_57 : decode M_MO_nth.2.1 57 = .ok (.iadd, 1) := by decide +kernel
theorem d_MO_nth_58 : decode M_MO_nth.2.1 58 = .ok (.iconst 1, 1) := by decide +kernel
theorem d_MO_nth_59 : decode M_MO_nth.2.1 59 = .ok (.iadd, 1) := by decide +kernel
theorem d_MO_nth_60 : decode M_MO_nth.2.1 60 = .ok (.iaload, 1) := by decide +kernel
theorem d_MO_nth_61 : decode M_MO_nth.2.1 61 = .ok (.iload 5, 2) := by decide +kernel
theorem d_MO_nth_63 : decode M_MO_nth.2.1 63 = .ok (.isub, 1) := by decide +kernel
theorem d_MO_nth_64 : decode M_MO_nth.2.1 64 = .ok (.istore 6, 2) := by decide +kernel
theorem d_MO_nth_66 : decode M_MO_nth.2.1 66 = .ok (.iload_n 3, 1) := by decide +kernel
theorem d_MO_nth_67 : decode M_MO_nth.2.1 67 = .ok (.iload 6, 2) := by decide +kernel
theorem d_MO_nth_69 : decode M_MO_nth.2.1 69 = .ok (.if_icmp .ge 8, 3) := by decide +kernel
theorem d_MO_nth_72 : decode M_MO_nth.2.1 72 = .ok (.iload 5, 2) := by decide +kernel
theorem d_MO_nth_74 : decode M_MO_nth.2.1 74 = .ok (.iload_n 3, 1) := by decide +kernel
theorem d_MO_nth_75 : decode M_MO_nth.2.1 75 = .ok (.iadd, 1) := by decide +kernel
theorem d_MO_nth_76 : decode M_MO_nth.2.1 76 = .ok (.ireturn, 1) := by decide +kernel
theorem d_MO_nth_77 : decode M_MO_nth.2.1 77 = .ok (.iload_n 3, 1) := by decide +kernel
theorem d_MO_nth_78 : decode M_MO_nth.2.1 78 = .ok (.iload 6, 2) := by decide +kernel
theorem d_MO_nth_80 : decode M_MO_nth.2.1 80 = .ok (.isub, 1) := by decide +kernel
theorem d_MO_nth_81 : decode M_MO_nth.2.1 81 = .ok (.istore_n 3, 1) := by decide +kernel
theorem d_MO_nth_82 : decode M_MO_nth.2.1 82 = .ok (.iinc 4 2, 3) := by decide +kernel
theorem d_MO_nth_85 : decode M_MO_nth.2.1 85 = .ok (.goto (-67), 3) := by decide +kernel
theorem d_MO_nth_88 : decode M_MO_nth.2.1 88 = .ok (.iconst (-1), 1) := by decide +kernel
theorem d_MO_nth_89 : decode M_MO_nth.2.1 89 = .ok (.ireturn, 1) := by decide +kernel
theorem d_MO_begins_0 : decode M_MO_begins.2.1 0 = .ok (.iload_n 2, 1) := by decide +kernel
theorem d_MO_begins_1 : decode M_MO_begins.2.1 1 = .ok (.iload_n 3, 1) := by decide +kernel
theorem d_MO_begins_2 : decode M_MO_begins.2.1 2 = .ok (.iadd, 1) := by decide +kernel
theorem d_MO_begins_3 : decode M_MO_begins.2.1 3 = .ok (.aload_n 0, 1) := by decide +kernel
theorem d_MO_begins_4 : decode M_MO_begins.2.1 4 = .ok (.getfield 43, 3) := by decide +kernel
theorem d_MO_begins_7 : decode M_MO_begins.2.1 7 = .ok (.if_icmp .le 5, 3) := by decide +kernel
theorem d_MO_begins_10 : decode M_MO_begins.2.1 10 = .ok (.iconst 0, 1) := by decide +kernel
theorem d_MO_begins_11 : decode M_MO_begins.2.1 11 = .ok (.ireturn, 1) := by decide +kernel
theorem d_MO_begins_12 : decode M_MO_begins.2.1 12 = .ok (.iload_n 3, 1) := by decide +kernel
theorem d_MO_begins_13 : decode M_MO_begins.2.1 13 = .ok (.iconst 1, 1) := by decide +kernel
theorem d_MO_begins_14 : decode M_MO_begins.2.1 14 = .ok (.if_icmp .ne 15, 3) := by decide +kernel
theorem d_MO_begins_17 : decode M_MO_begins.2.1 17 = .ok (.aload_n 0, 1) := by decide +kernel
theorem d_MO_begins_18 : decode M_MO_begins.2.1 18 = .ok (.iload_n 1, 1) := by decide +kernel
theorem d_MO_begins_19 : decode M_MO_begins.2.1 19 = .ok (.aload_n 0, 1) := by decide +kernel
theorem d_MO_begins_20 : decode M_MO_begins.2.1 20 = .ok (.getfield 7, 3) := by decide +kernel
theorem d_MO_begins_23 : decode M_MO_begins.2.1 23 = .ok (.iload_n 2, 1) := by decide +kernel
theorem d_MO_begins_24 : decode M_MO_begins.2.1 24 = .ok (.iaload, 1) := by decide +kernel
theorem d_MO_begins_25 : decode M_MO_begins.2.1 25 = .ok (.invokevirtual 56, 3) := by decide +kernel
theorem d_MO_begins_28 : decode M_MO_begins.2.1 28 = .ok (.ireturn, 1) := by decide +kernel
theorem d_MO_begins_29 : decode M_MO_begins.2.1 29 = .ok (.aload_n 0, 1) := by decide +kernel
theorem d_MO_begins_30 : decode M_MO_begins.2.1 30 = .ok (.iload_n 1, 1) := by decide +kernel
theorem d_MO_begins_31 : decode M_MO_begins.2.1 31 = .ok (.aload_n 0, 1) := by decide +kernel
theorem d_MO_begins_32 : decode M_MO_begins.2.1 32 = .ok (.getfield 7, 3) := by decide +kernel
theorem d_MO_begins_35 : decode M_MO_begins.2.1 35 = .ok (.iload_n 2, 1) := by decide +kernel
theorem d_MO_begins_36 : decode M_MO_begins.2.1 36 = .ok (.iaload, 1) := by decide +kernel
theorem d_MO_begins_37 : decode M_MO_begins.2.1 37 = .ok (.aload_n 0, 1) := by decide +kernel
theorem d_MO_begins_38 : decode M_MO_begins.2.1 38 = .ok (.getfield 7, 3) := by decide +kernel
theorem d_MO_begins_41 : decode M_MO_begins.2.1 41 = .ok (.iload_n 2, 1) := by decide +kernel
theorem d_MO_begins_42 : decode M_MO_begins.2.1 42 = .ok (.iconst 1, 1) := by decide +kernel
theorem d_MO_begins_43 : decode M_MO_begins.2.1 43 = .ok (.iadd, 1) := by decide +kernel
theorem d_MO_begins_44 : decode M_MO_begins.2.1 44 = .ok (.iaload, 1) := by decide +kernel
theorem d_MO_begins_45 : decode M_MO_begins.2.1 45 = .ok (.iload_n 3, 1) := by decide +kernel
theorem d_MO_begins_46 : decode M_MO_begins.2.1 46 = .ok (.iconst 3, 1) := by decide +kernel
theorem d_MO_begins_47 : decode M_MO_begins.2.1 47 = .ok (.if_icmp .ne 14, 3) := by decide +kernel
theorem d_MO_begins_50 : decode M_MO_begins.2.1 50 = .ok (.aload_n 0, 1) := by decide +kernel
theorem d_MO_begins_51 : decode M_MO_begins.2.1 51 = .ok (.getfield 7, 3) := by decide +kernel
theorem d_MO_begins_54 : decode M_MO_begins.2.1 54 = .ok (.iload_n 2, 1) := by decide +kernel
theorem d_MO_begins_55 : decode M_MO_begins.2.1 55 = .ok (.iconst 2, 1) := by decide +kernel
theorem d_MO_begins_56 : decode M_MO_begins.2.1 56 = .ok (.iadd, 1) := by decide +kernel
theorem d_MO_begins_57 : decode M_MO_begins.2.1 57 = .ok (.iaload, 1) := by decide +kernel
theorem d_MO_begins_58 : decode M_MO_begins.2.1 58 = .ok (.goto 4, 3) := by decide +kernel
theorem d_MO_begins_61 : decode M_MO_begins.2.1 61 = .ok (.iconst 0, 1) := by decide +kernel
theorem d_MO_begins_62 : decode M_MO_begins.2.1 62 = .ok (.iload_n 3, 1) := by decide +kernel
theorem d_MO_begins_63 : decode M_MO_begins.2.1 63 = .ok (.iconst 3, 1) := by decide +kernel
theorem d_MO_begins_64 : decode M_MO_begins.2.1 64 = .ok (.if_icmp .ne 7, 3) := by decide +kernel
theorem d_MO_begins_67 : decode M_MO_begins.2.1 67 = .ok (.iconst 1, 1) := by decide +kernel
theorem d_MO_begins_68 : decode M_MO_begins.2.1 68 = .ok (.goto 4, 3) := by decide +kernel
theorem d_MO_begins_71 : decode M_MO_begins.2.1 71 = .ok (.iconst 0, 1) := by decide +kernel
theorem d_MO_begins_72 : decode M_MO_begins.2.1 72 = .ok (.invokestatic 168, 3) := by decide +kernel
theorem d_MO_begins_75 : decode M_MO_begins.2.1 75 = .ok (.invokevirtual 64, 3) := by decide +kernel
theorem d_MO_begins_78 : decode M_MO_begins.2.1 78 = .ok (.ireturn, 1) := by decide +kernel
theorem d_MO_span_0 : decode M_MO_span.2.1 0 = .ok (.iload_n 1, 1) := by decide +kernel
theorem d_MO_span_1 : decode M_MO_span.2.1 1 = .ok (.invokestatic 196, 3) := by decide +kernel
theorem d_MO_span_4 : decode M_MO_span.2.1 4 = .ok (.ifCond .eq 15, 3) := by decide +kernel
theorem d_MO_span_7 : decode M_MO_span.2.1 7 = .ok (.iload_n 2, 1) := by decide +kernel
theorem d_MO_span_8 : decode M_MO_span.2.1 8 = .ok (.ifCond .lt 11, 3) := by decide +kernel
theorem d_MO_span_11 : decode M_MO_span.2.1 11 = .ok (.iload_n 2, 1) := by decide +kernel
theorem d_MO_span_12 : decode M_MO_span.2.1 12 = .ok (.aload_n 0, 1) := by decide +kernel
theorem d_MO_span_13 : decode M_MO_span.2.1 13 = .ok (.getfield 43, 3) := by decide +kernel
theorem d_MO_span_16 : decode M_MO_span.2.1 16 = .ok (.if_icmp .le 5, 3) := by decide +kernel
theorem d_MO_span_19 : decode M_MO_span.2.1 19 = .ok (.iconst (-1), 1) := by decide +kernel
theorem d_MO_span_20 : decode M_MO_span.2.1 20 = .ok (.ireturn, 1) := by decide +kernel
theorem d_MO_span_21 : decode M_MO_span.2.1 21 = .ok (.iconst 0, 1) := by decide +kernel
theorem d_MO_span_22 : decode M_MO_span.2.1 22 = .ok (.istore 4, 2) := by decide +kernel
theorem d_MO_span_24 : decode M_MO_span.2.1 24 = .ok (.iload 4, 2) := by decide +kernel
theorem d_MO_span_26 : decode M_MO_span.2.1 26 = .ok (.aload_n 0, 1) := by decide +kernel
theorem d_MO_span_27 : decode M_MO_span.2.1 27 = .ok (.getfield 43, 3) := by decide +kernel
theorem d_MO_span_30 : decode M_MO_span.2.1 30 = .ok (.if_icmp .gt 27, 3) := by decide +kernel
theorem d_MO_span_33 : decode M_MO_span.2.1 33 = .ok (.aload_n 0, 1) := by decide +kernel
theorem d_MO_span_34 : decode M_MO_span.2.1 34 = .ok (.getfield 39, 3) := by decide +kernel
theorem d_MO_span_37 : decode M_MO_span.2.1 37 = .ok (.iload 4, 2) := by decide +kernel
theorem d_MO_span_39 : decode M_MO_span.2.1 39 = .ok (.iload 4, 2) := by decide +kernel
theorem d_MO_span_41 : decode M_MO_span.2.1 41 = .ok (.iload_n 2, 1) := by decide +kernel
theorem d_MO_span_42 : decode M_MO_span.2.1 42 = .ok (.if_icmp .ne 7, 3) := by decide +kernel
theorem d_MO_span_45 : decode M_MO_span.2.1 45 = .ok (.iconst 1, 1) := by decide +kernel
theorem d_MO_span_46 : decode M_MO_span.2.1 46 = .ok (.goto 4, 3) := by decide +kernel
theorem d_MO_span_49 : decode M_MO_span.2.1 49 = .ok (.iconst 0, 1) := by decide +kernel
theorem d_MO_span_50 : decode M_MO_span.2.1 50 = .ok (.bastore, 1) := by decide +kernel
theorem d_MO_span_51 : decode M_MO_span.2.1 51 = .ok (.iinc 4 1, 3) := by decide +kernel
theorem d_MO_span_54 : decode M_MO_span.2.1 54 = .ok (.goto (-30), 3) := by decide +kernel
theorem d_MO_span_57 : decode M_MO_span.2.1 57 = .ok (.iload_n 2, 1) := by decide +kernel
theorem d_MO_span_58 : decode M_MO_span.2.1 58 = .ok (.istore 4, 2) := by decide +kernel
theorem d_MO_span_60 : decode M_MO_span.2.1 60 = .ok (.iload_n 2, 1) := by decide +kernel
theorem d_MO_span_61 : decode M_MO_span.2.1 61 = .ok (.istore 5, 2) := by decide +kernel
theorem d_MO_span_63 : decode M_MO_span.2.1 63 = .ok (.iload 5, 2) := by decide +kernel
theorem d_MO_span_65 : decode M_MO_span.2.1 65 = .ok (.aload_n 0, 1) := by decide +kernel
theorem d_MO_span_66 : decode M_MO_span.2.1 66 = .ok (.getfield 43, 3) := by decide +kernel
theorem d_MO_span_69 : decode M_MO_span.2.1 69 = .ok (.if_icmp .gt 135, 3) := by decide +kernel
theorem d_MO_span_72 : decode M_MO_span.2.1 72 = .ok (.aload_n 0, 1) := by decide +kernel
theorem d_MO_span_73 : decode M_MO_span.2.1 73 = .ok (.iload_n 1, 1) := by decide +kernel
theorem d_MO_span_74 : decode M_MO_span.2.1 74 = .ok (.iload 5, 2) := by decide +kernel
theorem d_MO_span_76 : decode M_MO_span.2.1 76 = .ok (.iconst 1, 1) := by decide +kernel
theorem d_MO_span_77 : decode M_MO_span.2.1 77 = .ok (.invokevirtual 231, 3) := by decide +kernel
theorem d_MO_span_80 : decode M_MO_span.2.1 80 = .ok (.istore 6, 2) := by decide +kernel
theorem d_MO_span_82 : decode M_MO_span.2.1 82 = .ok (.aload_n 0, 1) := by decide +kernel
theorem d_MO_span_83 : decode M_MO_span.2.1 83 = .ok (.iload_n 1, 1) := by decide +kernel
theorem d_MO_span_84 : decode M_MO_span.2.1 84 = .ok (.iload 5, 2) := by decide +kernel
theorem d_MO_span_86 : decode M_MO_span.2.1 86 = .ok (.iconst 2, 1) := by decide +kernel
theorem d_MO_span_87 : decode M_MO_span.2.1 87 = .ok (.invokevirtual 231, 3) := by decide +kernel
theorem d_MO_span_90 : decode M_MO_span.2.1 90 = .ok (.istore 7, 2) := by decide +kernel
theorem d_MO_span_92 : decode M_MO_span.2.1 92 = .ok (.aload_n 0, 1) := by decide +kernel
theorem d_MO_span_93 : decode M_MO_span.2.1 93 = .ok (.iload_n 1, 1) := by decide +kernel
theorem d_MO_span_94 : decode M_MO_span.2.1 94 = .ok (.iload 5, 2) := by decide +kernel
theorem d_MO_span_96 : decode M_MO_span.2.1 96 = .ok (.iconst 3, 1) := by decide +kernel
theorem d_MO_span_97 : decode M_MO_span.2.1 97 = .ok (.invokevirtual 231, 3) := by decide +kernel
theorem d_MO_span_100 : decode M_MO_span.2.1 100 = .ok (.istore 8, 2) := by decide +kernel
theorem d_MO_span_102 : decode M_MO_span.2.1 102 = .ok (.iload_n 3, 1) := by decide +kernel
theorem d_MO_span_103 : decode M_MO_span.2.1 103 = .ok (.ifCond .ne 21, 3) := by decide +kernel
theorem d_MO_span_106 : decode M_MO_span.2.1 106 = .ok (.iload 6, 2) := by decide +kernel
theorem d_MO_span_108 : decode M_MO_span.2.1 108 = .ok (.ifCond .ne 13, 3) := by decide +kernel
theorem d_MO_span_111 : decode M_MO_span.2.1 111 = .ok (.iload 7, 2) := by decide +kernel
theorem d_MO_span_113 : decode M_MO_span.2.1 113 = .ok (.ifCond .ne 8, 3) := by decide +kernel
theorem d_MO_span_116 : decode M_MO_span.2.1 116 = .ok (.iload 8, 2) := by decide +kernel
theorem d_MO_span_118 : decode M_MO_span.2.1 118 = .ok (.ifCond .eq 6, 3) := by decide +kernel
theorem d_MO_span_121 : decode M_MO_span.2.1 121 = .ok (.iload 5, 2) := by decide +kernel
theorem d_MO_span_123 : decode M_MO_span.2.1 123 = .ok (.ireturn, 1) := by decide +kernel
theorem d_MO_span_124 : decode M_MO_span.2.1 124 = .ok (.aload_n 0, 1) := by decide +kernel
theorem d_MO_span_125 : decode M_MO_span.2.1 125 = .ok (.getfield 39, 3) := by decide +kernel
theorem d_MO_span_128 : decode M_MO_span.2.1 128 = .ok (.iload 5, 2) := by decide +kernel
theorem d_MO_span_130 : decode M_MO_span.2.1 130 = .ok (.baload, 1) := by decide +kernel
theorem d_MO_span_131 : decode M_MO_span.2.1 131 = .ok (.ifCond .eq 67, 3) := by decide +kernel
theorem d_MO_span_134 : decode M_MO_span.2.1 134 = .ok (.iload 5, 2) := by decide +kernel
theorem d_MO_span_136 : decode M_MO_span.2.1 136 = .ok (.istore 4, 2) := by decide +kernel
theorem d_MO_span_138 : decode M_MO_span.2.1 138 = .ok (.aload_n 0, 1) := by decide +kernel
theorem d_MO_span_139 : decode M_MO_span.2.1 139 = .ok (.getfield 39, 3) := by decide +kernel
theorem d_MO_span_142 : decode M_MO_span.2.1 142 = .ok (.iload 6, 2) := by decide +kernel
theorem d_MO_span_144 : decode M_MO_span.2.1 144 = .ok (.ifCond .eq 10, 3) := by decide +kernel
theorem d_MO_span_147 : decode M_MO_span.2.1 147 = .ok (.iload 5, 2) := by decide +kernel
theorem d_MO_span_149 : decode M_MO_span.2.1 149 = .ok (.iconst 1, 1) := by decide +kernel
theorem d_MO_span_150 : decode M_MO_span.2.1 150 = .ok (.iadd, 1) := by decide +kernel
theorem d_MO_span_151 : decode M_MO_span.2.1 151 = .ok (.goto 5, 3) := by decide +kernel
theorem d_MO_span_154 : decode M_MO_span.2.1 154 = .ok (.iload 5, 2) := by decide +kernel
theorem d_MO_span_156 : decode M_MO_span.2.1 156 = .ok (.iconst 1, 1) := by decide +kernel
theorem d_MO_span_157 : decode M_MO_span.2.1 157 = .ok (.bastore, 1) := by decide +kernel
theorem d_MO_span_158 : decode M_MO_span.2.1 158 = .ok (.aload_n 0, 1) := by decide +kernel
theorem d_MO_span_159 : decode M_MO_span.2.1 159 = .ok (.getfield 39, 3) := by decide +kernel
theorem d_MO_span_162 : decode M_MO_span.2.1 162 = .ok (.iload 7, 2) := by decide +kernel
theorem d_MO_span_164 : decode M_MO_span.2.1 164 = .ok (.ifCond .eq 10, 3) := by decide +kernel
theorem d_MO_span_167 : decode M_MO_span.2.1 167 = .ok (.iload 5, 2) := by decide +kernel
theorem d_MO_span_169 : decode M_MO_span.2.1 169 = .ok (.iconst 2, 1) := by decide +kernel
theorem d_MO_span_170 : decode M_MO_span.2.1 170 = .ok (.iadd, 1) := by decide +kernel
theorem d_MO_span_171 : decode M_MO_span.2.1 171 = .ok (.goto 5, 3) := by decide +kernel
theorem d_MO_span_174 : decode M_MO_span.2.1 174 = .ok (.iload 5, 2) := by decide +kernel
theorem d_MO_span_176 : decode M_MO_span.2.1 176 = .ok (.iconst 1, 1) := by decide +kernel
theorem d_MO_span_177 : decode M_MO_span.2.1 177 = .ok (.bastore, 1) := by decide +kernel
theorem d_MO_span_178 : decode M_MO_span.2.1 178 = .ok (.aload_n 0, 1) := by decide +kernel
theorem d_MO_span_179 : decode M_MO_span.2.1 179 = .ok (.getfield 39, 3) := by decide +kernel
theorem d_MO_span_182 : decode M_MO_span.2.1 182 = .ok (.iload 8, 2) := by decide +kernel
theorem d_MO_span_184 : decode M_MO_span.2.1 184 = .ok (.ifCond .eq 10, 3) := by decide +kernel
theorem d_MO_span_187 : decode M_MO_span.2.1 187 = .ok (.iload 5, 2) := by decide +kernel
theorem d_MO_span_189 : decode M_MO_span.2.1 189 = .ok (.iconst 3, 1) := by decide +kernel
theorem d_MO_span_190 : decode M_MO_span.2.1 190 = .ok (.iadd, 1) := by decide +kernel
theorem d_MO_span_191 : decode M_MO_span.2.1 191 = .ok (.goto 5, 3) := by decide +kernel
theorem d_MO_span_194 : decode M_MO_span.2.1 194 = .ok (.iload 5, 2) := by decide +kernel
theorem d_MO_span_196 : decode M_MO_span.2.1 196 = .ok (.iconst 1, 1) := by decide +kernel
theorem d_MO_span_197 : decode M_MO_span.2.1 197 = .ok (.bastore, 1) := by decide +kernel
theorem d_MO_span_198 : decode M_MO_span.2.1 198 = .ok (.iinc 5 1, 3) := by decide +kernel
theorem d_MO_span_201 : decode M_MO_span.2.1 201 = .ok (.goto (-138), 3) := by decide +kernel
theorem d_MO_span_204 : decode M_MO_span.2.1 204 = .ok (.iload_n 3, 1) := by decide +kernel
theorem d_MO_span_205 : decode M_MO_span.2.1 205 = .ok (.ifCond .eq 8, 3) := by decide +kernel
theorem d_MO_span_208 : decode M_MO_span.2.1 208 = .ok (.iload 4, 2) := by decide +kernel
theorem d_MO_span_210 : decode M_MO_span.2.1 210 = .ok (.goto 7, 3) := by decide +kernel
theorem d_MO_span_213 : decode M_MO_span.2.1 213 = .ok (.aload_n 0, 1) := by decide +kernel
theorem d_MO_span_214 : decode M_MO_span.2.1 214 = .ok (.getfield 43, 3) := by decide +kernel
theorem d_MO_span_217 : decode M_MO_span.2.1 217 = .ok (.ireturn, 1) := by decide +kernel
