/-! decode rows of MS: written by wip/gen/mknames.py -/
theorem d_MS_init_0 : decode M_MS_init.2.1 0 = .ok (.aload_n 0, 1) := by decide +kernel
theorem d_MS_init_1 : decode M_MS_init.2.1 1 = .ok (.invokespecial 5, 3) := by decide +kernel
theorem d_MS_init_4 : decode M_MS_init.2.1 4 = .ok (.aload_n 0, 1) := by decide +kernel
theorem d_MS_init_5 : decode M_MS_init.2.1 5 = .ok (.sipush 400, 3) := by decide +kernel
theorem d_MS_init_8 : decode M_MS_init.2.1 8 = .ok (.newarray .int, 2) := by decide +kernel
theorem d_MS_init_10 : decode M_MS_init.2.1 10 = .ok (.putfield 11, 3) := by decide +kernel
theorem d_MS_init_13 : decode M_MS_init.2.1 13 = .ok (.aload_n 0, 1) := by decide +kernel
theorem d_MS_init_14 : decode M_MS_init.2.1 14 = .ok (.bipush 16, 2) := by decide +kernel
theorem d_MS_init_16 : decode M_MS_init.2.1 16 = .ok (.newarray .long, 2) := by decide +kernel
theorem d_MS_init_18 : decode M_MS_init.2.1 18 = .ok (.putfield 15, 3) := by decide +kernel
theorem d_MS_init_21 : decode M_MS_init.2.1 21 = .ok (.return_, 1) := by decide +kernel
theorem d_MS_keyOf_0 : decode M_MS_keyOf.2.1 0 = .ok (.iload_n 0, 1) := by decide +kernel
theorem d_MS_keyOf_1 : decode M_MS_keyOf.2.1 1 = .ok (.i2l, 1) := by decide +kernel
theorem d_MS_keyOf_2 : decode M_MS_keyOf.2.1 2 = .ok (.lconst 1, 1) := by decide +kernel
theorem d_MS_keyOf_3 : decode M_MS_keyOf.2.1 3 = .ok (.ladd, 1) := by decide +kernel
theorem d_MS_keyOf_4 : decode M_MS_keyOf.2.1 4 = .ok (.bipush 42, 2) := by decide +kernel
theorem d_MS_keyOf_6 : decode M_MS_keyOf.2.1 6 = .ok (.lshl, 1) := by decide +kernel
theorem d_MS_keyOf_7 : decode M_MS_keyOf.2.1 7 = .ok (.iload_n 1, 1) := by decide +kernel
theorem d_MS_keyOf_8 : decode M_MS_keyOf.2.1 8 = .ok (.i2l, 1) := by decide +kernel
theorem d_MS_keyOf_9 : decode M_MS_keyOf.2.1 9 = .ok (.lconst 1, 1) := by decide +kernel
theorem d_MS_keyOf_10 : decode M_MS_keyOf.2.1 10 = .ok (.ladd, 1) := by decide +kernel
theorem d_MS_keyOf_11 : decode M_MS_keyOf.2.1 11 = .ok (.bipush 21, 2) := by decide +kernel
theorem d_MS_keyOf_13 : decode M_MS_keyOf.2.1 13 = .ok (.lshl, 1) := by decide +kernel
theorem d_MS_keyOf_14 : decode M_MS_keyOf.2.1 14 = .ok (.lor, 1) := by decide +kernel
theorem d_MS_keyOf_15 : decode M_MS_keyOf.2.1 15 = .ok (.iload_n 2, 1) := by decide +kernel
theorem d_MS_keyOf_16 : decode M_MS_keyOf.2.1 16 = .ok (.i2l, 1) := by decide +kernel
theorem d_MS_keyOf_17 : decode M_MS_keyOf.2.1 17 = .ok (.lconst 1, 1) := by decide +kernel
theorem d_MS_keyOf_18 : decode M_MS_keyOf.2.1 18 = .ok (.ladd, 1) := by decide +kernel
theorem d_MS_keyOf_19 : decode M_MS_keyOf.2.1 19 = .ok (.lor, 1) := by decide +kernel
theorem d_MS_keyOf_20 : decode M_MS_keyOf.2.1 20 = .ok (.lreturn, 1) := by decide +kernel
theorem d_MS_codeOfKey_0 : decode M_MS_codeOfKey.2.1 0 = .ok (.iconst 2, 1) := by decide +kernel
theorem d_MS_codeOfKey_1 : decode M_MS_codeOfKey.2.1 1 = .ok (.iload_n 2, 1) := by decide +kernel
theorem d_MS_codeOfKey_2 : decode M_MS_codeOfKey.2.1 2 = .ok (.isub, 1) := by decide +kernel
theorem d_MS_codeOfKey_3 : decode M_MS_codeOfKey.2.1 3 = .ok (.bipush 21, 2) := by decide +kernel
theorem d_MS_codeOfKey_5 : decode M_MS_codeOfKey.2.1 5 = .ok (.imul, 1) := by decide +kernel
theorem d_MS_codeOfKey_6 : decode M_MS_codeOfKey.2.1 6 = .ok (.istore_n 3, 1) := by decide +kernel
theorem d_MS_codeOfKey_7 : decode M_MS_codeOfKey.2.1 7 = .ok (.lload_n 0, 1) := by decide +kernel
theorem d_MS_codeOfKey_8 : decode M_MS_codeOfKey.2.1 8 = .ok (.iload_n 3, 1) := by decide +kernel
theorem d_MS_codeOfKey_9 : decode M_MS_codeOfKey.2.1 9 = .ok (.lshr, 1) := by decide +kernel
theorem d_MS_codeOfKey_10 : decode M_MS_codeOfKey.2.1 10 = .ok (.ldc2_w 19, 3) := by decide +kernel
theorem d_MS_codeOfKey_13 : decode M_MS_codeOfKey.2.1 13 = .ok (.land, 1) := by decide +kernel
theorem d_MS_codeOfKey_14 : decode M_MS_codeOfKey.2.1 14 = .ok (.l2i, 1) := by decide +kernel
theorem d_MS_codeOfKey_15 : decode M_MS_codeOfKey.2.1 15 = .ok (.iconst 1, 1) := by decide +kernel
theorem d_MS_codeOfKey_16 : decode M_MS_codeOfKey.2.1 16 = .ok (.isub, 1) := by decide +kernel
theorem d_MS_codeOfKey_17 : decode M_MS_codeOfKey.2.1 17 = .ok (.ireturn, 1) := by decide +kernel
theorem d_MS_clear_0 : decode M_MS_clear.2.1 0 = .ok (.aload_n 0, 1) := by decide +kernel
theorem d_MS_clear_1 : decode M_MS_clear.2.1 1 = .ok (.iconst 0, 1) := by decide +kernel
theorem d_MS_clear_2 : decode M_MS_clear.2.1 2 = .ok (.putfield 21, 3) := by decide +kernel
theorem d_MS_clear_5 : decode M_MS_clear.2.1 5 = .ok (.aload_n 0, 1) := by decide +kernel
theorem d_MS_clear_6 : decode M_MS_clear.2.1 6 = .ok (.iconst 0, 1) := by decide +kernel
theorem d_MS_clear_7 : decode M_MS_clear.2.1 7 = .ok (.putfield 25, 3) := by decide +kernel
theorem d_MS_clear_10 : decode M_MS_clear.2.1 10 = .ok (.return_, 1) := by decide +kernel
theorem d_MS_become_0 : decode M_MS_become.2.1 0 = .ok (.aload_n 1, 1) := by decide +kernel
theorem d_MS_become_1 : decode M_MS_become.2.1 1 = .ok (.getfield 11, 3) := by decide +kernel
theorem d_MS_become_4 : decode M_MS_become.2.1 4 = .ok (.iconst 0, 1) := by decide +kernel
theorem d_MS_become_5 : decode M_MS_become.2.1 5 = .ok (.aload_n 0, 1) := by decide +kernel
theorem d_MS_become_6 : decode M_MS_become.2.1 6 = .ok (.getfield 11, 3) := by decide +kernel
theorem d_MS_become_9 : decode M_MS_become.2.1 9 = .ok (.iconst 0, 1) := by decide +kernel
theorem d_MS_become_10 : decode M_MS_become.2.1 10 = .ok (.aload_n 1, 1) := by decide +kernel
theorem d_MS_become_11 : decode M_MS_become.2.1 11 = .ok (.getfield 21, 3) := by decide +kernel
theorem d_MS_become_14 : decode M_MS_become.2.1 14 = .ok (.invokestatic 28, 3) := by decide +kernel
theorem d_MS_become_17 : decode M_MS_become.2.1 17 = .ok (.aload_n 1, 1) := by decide +kernel
theorem d_MS_become_18 : decode M_MS_become.2.1 18 = .ok (.getfield 15, 3) := by decide +kernel
theorem d_MS_become_21 : decode M_MS_become.2.1 21 = .ok (.iconst 0, 1) := by decide +kernel
theorem d_MS_become_22 : decode M_MS_become.2.1 22 = .ok (.aload_n 0, 1) := by decide +kernel
theorem d_MS_become_23 : decode M_MS_become.2.1 23 = .ok (.getfield 15, 3) := by decide +kernel
theorem d_MS_become_26 : decode M_MS_become.2.1 26 = .ok (.iconst 0, 1) := by decide +kernel
theorem d_MS_become_27 : decode M_MS_become.2.1 27 = .ok (.aload_n 1, 1) := by decide +kernel
theorem d_MS_become_28 : decode M_MS_become.2.1 28 = .ok (.getfield 25, 3) := by decide +kernel
theorem d_MS_become_31 : decode M_MS_become.2.1 31 = .ok (.invokestatic 28, 3) := by decide +kernel
theorem d_MS_become_34 : decode M_MS_become.2.1 34 = .ok (.aload_n 0, 1) := by decide +kernel
theorem d_MS_become_35 : decode M_MS_become.2.1 35 = .ok (.aload_n 1, 1) := by decide +kernel
theorem d_MS_become_36 : decode M_MS_become.2.1 36 = .ok (.getfield 21, 3) := by decide +kernel
theorem d_MS_become_39 : decode M_MS_become.2.1 39 = .ok (.putfield 21, 3) := by decide +kernel
theorem d_MS_become_42 : decode M_MS_become.2.1 42 = .ok (.aload_n 0, 1) := by decide +kernel
theorem d_MS_become_43 : decode M_MS_become.2.1 43 = .ok (.aload_n 1, 1) := by decide +kernel
theorem d_MS_become_44 : decode M_MS_become.2.1 44 = .ok (.getfield 25, 3) := by decide +kernel
theorem d_MS_become_47 : decode M_MS_become.2.1 47 = .ok (.putfield 25, 3) := by decide +kernel
theorem d_MS_become_50 : decode M_MS_become.2.1 50 = .ok (.return_, 1) := by decide +kernel
theorem d_MS_becomeEdges_0 : decode M_MS_becomeEdges.2.1 0 = .ok (.aload_n 0, 1) := by decide +kernel
theorem d_MS_becomeEdges_1 : decode M_MS_becomeEdges.2.1 1 = .ok (.invokevirtual 34, 3) := by decide +kernel
theorem d_MS_becomeEdges_4 : decode M_MS_becomeEdges.2.1 4 = .ok (.iconst 0, 1) := by decide +kernel
theorem d_MS_becomeEdges_5 : decode M_MS_becomeEdges.2.1 5 = .ok (.istore_n 2, 1) := by decide +kernel
theorem d_MS_becomeEdges_6 : decode M_MS_becomeEdges.2.1 6 = .ok (.iload_n 2, 1) := by decide +kernel
theorem d_MS_becomeEdges_7 : decode M_MS_becomeEdges.2.1 7 = .ok (.aload_n 1, 1) := by decide +kernel
theorem d_MS_becomeEdges_8 : decode M_MS_becomeEdges.2.1 8 = .ok (.arraylength, 1) := by decide +kernel
theorem d_MS_becomeEdges_9 : decode M_MS_becomeEdges.2.1 9 = .ok (.if_icmp .ge 16, 3) := by decide +kernel
theorem d_MS_becomeEdges_12 : decode M_MS_becomeEdges.2.1 12 = .ok (.aload_n 0, 1) := by decide +kernel
theorem d_MS_becomeEdges_13 : decode M_MS_becomeEdges.2.1 13 = .ok (.aload_n 1, 1) := by decide +kernel
theorem d_MS_becomeEdges_14 : decode M_MS_becomeEdges.2.1 14 = .ok (.iload_n 2, 1) := by decide +kernel
theorem d_MS_becomeEdges_15 : decode M_MS_becomeEdges.2.1 15 = .ok (.iaload, 1) := by decide +kernel
theorem d_MS_becomeEdges_16 : decode M_MS_becomeEdges.2.1 16 = .ok (.invokevirtual 37, 3) := by decide +kernel
theorem d_MS_becomeEdges_19 : decode M_MS_becomeEdges.2.1 19 = .ok (.iinc 2 1, 3) := by decide +kernel
theorem d_MS_becomeEdges_22 : decode M_MS_becomeEdges.2.1 22 = .ok (.goto (-16), 3) := by decide +kernel
theorem d_MS_becomeEdges_25 : decode M_MS_becomeEdges.2.1 25 = .ok (.return_, 1) := by decide +kernel
theorem d_MS_becomeString_0 : decode M_MS_becomeString.2.1 0 = .ok (.aload_n 0, 1) := by decide +kernel
theorem d_MS_becomeString_1 : decode M_MS_becomeString.2.1 1 = .ok (.invokevirtual 34, 3) := by decide +kernel
theorem d_MS_becomeString_4 : decode M_MS_becomeString.2.1 4 = .ok (.aload_n 0, 1) := by decide +kernel
theorem d_MS_becomeString_5 : decode M_MS_becomeString.2.1 5 = .ok (.lload_n 1, 1) := by decide +kernel
theorem d_MS_becomeString_6 : decode M_MS_becomeString.2.1 6 = .ok (.invokevirtual 41, 3) := by decide +kernel
theorem d_MS_becomeString_9 : decode M_MS_becomeString.2.1 9 = .ok (.return_, 1) := by decide +kernel
theorem d_MS_appendRange_0 : decode M_MS_appendRange.2.1 0 = .ok (.aload_n 0, 1) := by decide +kernel
theorem d_MS_appendRange_1 : decode M_MS_appendRange.2.1 1 = .ok (.iload_n 1, 1) := by decide +kernel
theorem d_MS_appendRange_2 : decode M_MS_appendRange.2.1 2 = .ok (.invokevirtual 37, 3) := by decide +kernel
theorem d_MS_appendRange_5 : decode M_MS_appendRange.2.1 5 = .ok (.aload_n 0, 1) := by decide +kernel
theorem d_MS_appendRange_6 : decode M_MS_appendRange.2.1 6 = .ok (.iload_n 2, 1) := by decide +kernel
theorem d_MS_appendRange_7 : decode M_MS_appendRange.2.1 7 = .ok (.iconst 1, 1) := by decide +kernel
theorem d_MS_appendRange_8 : decode M_MS_appendRange.2.1 8 = .ok (.iadd, 1) := by decide +kernel
theorem d_MS_appendRange_9 : decode M_MS_appendRange.2.1 9 = .ok (.invokevirtual 37, 3) := by decide +kernel
theorem d_MS_appendRange_12 : decode M_MS_appendRange.2.1 12 = .ok (.return_, 1) := by decide +kernel
theorem d_MS_becomeOthers_0 : decode M_MS_becomeOthers.2.1 0 = .ok (.aload_n 0, 1) := by decide +kernel
theorem d_MS_becomeOthers_1 : decode M_MS_becomeOthers.2.1 1 = .ok (.invokevirtual 34, 3) := by decide +kernel
theorem d_MS_becomeOthers_4 : decode M_MS_becomeOthers.2.1 4 = .ok (.aload_n 0, 1) := by decide +kernel
theorem d_MS_becomeOthers_5 : decode M_MS_becomeOthers.2.1 5 = .ok (.iconst 0, 1) := by decide +kernel
theorem d_MS_becomeOthers_6 : decode M_MS_becomeOthers.2.1 6 = .ok (.invokevirtual 37, 3) := by decide +kernel
theorem d_MS_becomeOthers_9 : decode M_MS_becomeOthers.2.1 9 = .ok (.iconst 0, 1) := by decide +kernel
theorem d_MS_becomeOthers_10 : decode M_MS_becomeOthers.2.1 10 = .ok (.istore_n 2, 1) := by decide +kernel
theorem d_MS_becomeOthers_11 : decode M_MS_becomeOthers.2.1 11 = .ok (.iload_n 2, 1) := by decide +kernel
theorem d_MS_becomeOthers_12 : decode M_MS_becomeOthers.2.1 12 = .ok (.aload_n 1, 1) := by decide +kernel
theorem d_MS_becomeOthers_13 : decode M_MS_becomeOthers.2.1 13 = .ok (.getfield 21, 3) := by decide +kernel
theorem d_MS_becomeOthers_16 : decode M_MS_becomeOthers.2.1 16 = .ok (.if_icmp .ge 19, 3) := by decide +kernel
theorem d_MS_becomeOthers_19 : decode M_MS_becomeOthers.2.1 19 = .ok (.aload_n 0, 1) := by decide +kernel
theorem d_MS_becomeOthers_20 : decode M_MS_becomeOthers.2.1 20 = .ok (.aload_n 1, 1) := by decide +kernel
theorem d_MS_becomeOthers_21 : decode M_MS_becomeOthers.2.1 21 = .ok (.getfield 11, 3) := by decide +kernel
theorem d_MS_becomeOthers_24 : decode M_MS_becomeOthers.2.1 24 = .ok (.iload_n 2, 1) := by decide +kernel
theorem d_MS_becomeOthers_25 : decode M_MS_becomeOthers.2.1 25 = .ok (.iaload, 1) := by decide +kernel
theorem d_MS_becomeOthers_26 : decode M_MS_becomeOthers.2.1 26 = .ok (.invokevirtual 37, 3) := by decide +kernel
theorem d_MS_becomeOthers_29 : decode M_MS_becomeOthers.2.1 29 = .ok (.iinc 2 1, 3) := by decide +kernel
theorem d_MS_becomeOthers_32 : decode M_MS_becomeOthers.2.1 32 = .ok (.goto (-21), 3) := by decide +kernel
theorem d_MS_becomeOthers_35 : decode M_MS_becomeOthers.2.1 35 = .ok (.aload_n 0, 1) := by decide +kernel
theorem d_MS_becomeOthers_36 : decode M_MS_becomeOthers.2.1 36 = .ok (.ldc 45, 2) := by decide +kernel
theorem d_MS_becomeOthers_38 : decode M_MS_becomeOthers.2.1 38 = .ok (.invokevirtual 37, 3) := by decide +kernel
theorem d_MS_becomeOthers_41 : decode M_MS_becomeOthers.2.1 41 = .ok (.return_, 1) := by decide +kernel
theorem d_MS_becomeMerge_0 : decode M_MS_becomeMerge.2.1 0 = .ok (.aload_n 0, 1) := by decide +kernel
theorem d_MS_becomeMerge_1 : decode M_MS_becomeMerge.2.1 1 = .ok (.invokevirtual 34, 3) := by decide +kernel
theorem d_MS_becomeMerge_4 : decode M_MS_becomeMerge.2.1 4 = .ok (.aload_n 0, 1) := by decide +kernel
theorem d_MS_becomeMerge_5 : decode M_MS_becomeMerge.2.1 5 = .ok (.aload_n 1, 1) := by decide +kernel
theorem d_MS_becomeMerge_6 : decode M_MS_becomeMerge.2.1 6 = .ok (.aload_n 2, 1) := by decide +kernel
theorem d_MS_becomeMerge_7 : decode M_MS_becomeMerge.2.1 7 = .ok (.iload_n 3, 1) := by decide +kernel
theorem d_MS_becomeMerge_8 : decode M_MS_becomeMerge.2.1 8 = .ok (.invokevirtual 46, 3) := by decide +kernel
theorem d_MS_becomeMerge_11 : decode M_MS_becomeMerge.2.1 11 = .ok (.aload_n 0, 1) := by decide +kernel
theorem d_MS_becomeMerge_12 : decode M_MS_becomeMerge.2.1 12 = .ok (.aload_n 1, 1) := by decide +kernel
theorem d_MS_becomeMerge_13 : decode M_MS_becomeMerge.2.1 13 = .ok (.aload_n 2, 1) := by decide +kernel
theorem d_MS_becomeMerge_14 : decode M_MS_becomeMerge.2.1 14 = .ok (.iload_n 3, 1) := by decide +kernel
theorem d_MS_becomeMerge_15 : decode M_MS_becomeMerge.2.1 15 = .ok (.invokevirtual 50, 3) := by decide +kernel
theorem d_MS_becomeMerge_18 : decode M_MS_becomeMerge.2.1 18 = .ok (.return_, 1) := by decide +kernel
theorem d_MS_mergeEdges_0 : decode M_MS_mergeEdges.2.1 0 = .ok (.iconst 0, 1) := by decide +kernel
theorem d_MS_mergeEdges_1 : decode M_MS_mergeEdges.2.1 1 = .ok (.istore 4, 2) := by decide +kernel
theorem d_MS_mergeEdges_3 : decode M_MS_mergeEdges.2.1 3 = .ok (.iconst 0, 1) := by decide +kernel
theorem d_MS_mergeEdges_4 : decode M_MS_mergeEdges.2.1 4 = .ok (.istore 5, 2) := by decide +kernel
theorem d_MS_mergeEdges_6 : decode M_MS_mergeEdges.2.1 6 = .ok (.iconst 0, 1) := by decide +kernel
theorem d_MS_mergeEdges_7 : decode M_MS_mergeEdges.2.1 7 = .ok (.istore 6, 2) := by decide +kernel
theorem d_MS_mergeEdges_9 : decode M_MS_mergeEdges.2.1 9 = .ok (.aload_n 1, 1) := by decide +kernel
theorem d_MS_mergeEdges_10 : decode M_MS_mergeEdges.2.1 10 = .ok (.getfield 21, 3) := by decide +kernel
theorem d_MS_mergeEdges_13 : decode M_MS_mergeEdges.2.1 13 = .ok (.aload_n 2, 1) := by decide +kernel
theorem d_MS_mergeEdges_14 : decode M_MS_mergeEdges.2.1 14 = .ok (.getfield 21, 3) := by decide +kernel
theorem d_MS_mergeEdges_17 : decode M_MS_mergeEdges.2.1 17 = .ok (.iadd, 1) := by decide +kernel
theorem d_MS_mergeEdges_18 : decode M_MS_mergeEdges.2.1 18 = .ok (.istore 7, 2) := by decide +kernel
theorem d_MS_mergeEdges_20 : decode M_MS_mergeEdges.2.1 20 = .ok (.iconst 0, 1) := by decide +kernel
theorem d_MS_mergeEdges_21 : decode M_MS_mergeEdges.2.1 21 = .ok (.istore 8, 2) := by decide +kernel
theorem d_MS_mergeEdges_23 : decode M_MS_mergeEdges.2.1 23 = .ok (.iload 8, 2) := by decide +kernel
theorem d_MS_mergeEdges_25 : decode M_MS_mergeEdges.2.1 25 = .ok (.iload 7, 2) := by decide +kernel
theorem d_MS_mergeEdges_27 : decode M_MS_mergeEdges.2.1 27 = .ok (.if_icmp .ge 176, 3) := by decide +kernel
theorem d_MS_mergeEdges_30 : decode M_MS_mergeEdges.2.1 30 = .ok (.iload 4, 2) := by decide +kernel
theorem d_MS_mergeEdges_32 : decode M_MS_mergeEdges.2.1 32 = .ok (.aload_n 1, 1) := by decide +kernel
theorem d_MS_mergeEdges_33 : decode M_MS_mergeEdges.2.1 33 = .ok (.getfield 21, 3) := by decide +kernel
theorem d_MS_mergeEdges_36 : decode M_MS_mergeEdges.2.1 36 = .ok (.if_icmp .lt 12, 3) := by decide +kernel
theorem d_MS_mergeEdges_39 : decode M_MS_mergeEdges.2.1 39 = .ok (.iload 5, 2) := by decide +kernel
theorem d_MS_mergeEdges_41 : decode M_MS_mergeEdges.2.1 41 = .ok (.aload_n 2, 1) := by decide +kernel
theorem d_MS_mergeEdges_42 : decode M_MS_mergeEdges.2.1 42 = .ok (.getfield 21, 3) := by decide +kernel
theorem d_MS_mergeEdges_45 : decode M_MS_mergeEdges.2.1 45 = .ok (.if_icmp .ge 158, 3) := by decide +kernel
theorem d_MS_mergeEdges_48 : decode M_MS_mergeEdges.2.1 48 = .ok (.iload 4, 2) := by decide +kernel
theorem d_MS_mergeEdges_50 : decode M_MS_mergeEdges.2.1 50 = .ok (.aload_n 1, 1) := by decide +kernel
theorem d_MS_mergeEdges_51 : decode M_MS_mergeEdges.2.1 51 = .ok (.getfield 21, 3) := by decide +kernel
theorem d_MS_mergeEdges_54 : decode M_MS_mergeEdges.2.1 54 = .ok (.if_icmp .ge 13, 3) := by decide +kernel
theorem d_MS_mergeEdges_57 : decode M_MS_mergeEdges.2.1 57 = .ok (.aload_n 1, 1) := by decide +kernel
theorem d_MS_mergeEdges_58 : decode M_MS_mergeEdges.2.1 58 = .ok (.getfield 11, 3) := by decide +kernel
theorem d_MS_mergeEdges_61 : decode M_MS_mergeEdges.2.1 61 = .ok (.iload 4, 2) := by decide +kernel
theorem d_MS_mergeEdges_63 : decode M_MS_mergeEdges.2.1 63 = .ok (.iaload, 1) := by decide +kernel
theorem d_MS_mergeEdges_64 : decode M_MS_mergeEdges.2.1 64 = .ok (.goto 5, 3) := by decide +kernel
theorem d_MS_mergeEdges_67 : decode M_MS_mergeEdges.2.1 67 = .ok (.ldc 45, 2) := by decide +kernel
theorem d_MS_mergeEdges_69 : decode M_MS_mergeEdges.2.1 69 = .ok (.istore 9, 2) := by decide +kernel
theorem d_MS_mergeEdges_71 : decode M_MS_mergeEdges.2.1 71 = .ok (.iload 5, 2) := by decide +kernel
theorem d_MS_mergeEdges_73 : decode M_MS_mergeEdges.2.1 73 = .ok (.aload_n 2, 1) := by decide +kernel
theorem d_MS_mergeEdges_74 : decode M_MS_mergeEdges.2.1 74 = .ok (.getfield 21, 3) := by decide +kernel
theorem d_MS_mergeEdges_77 : decode M_MS_mergeEdges.2.1 77 = .ok (.if_icmp .ge 13, 3) := by decide +kernel
theorem d_MS_mergeEdges_80 : decode M_MS_mergeEdges.2.1 80 = .ok (.aload_n 2, 1) := by decide +kernel
theorem d_MS_mergeEdges_81 : decode M_MS_mergeEdges.2.1 81 = .ok (.getfield 11, 3) := by decide +kernel
theorem d_MS_mergeEdges_84 : decode M_MS_mergeEdges.2.1 84 = .ok (.iload 5, 2) := by decide +kernel
theorem d_MS_mergeEdges_86 : decode M_MS_mergeEdges.2.1 86 = .ok (.iaload, 1) := by decide +kernel
theorem d_MS_mergeEdges_87 : decode M_MS_mergeEdges.2.1 87 = .ok (.goto 5, 3) := by decide +kernel
theorem d_MS_mergeEdges_90 : decode M_MS_mergeEdges.2.1 90 = .ok (.ldc 45, 2) := by decide +kernel
theorem d_MS_mergeEdges_92 : decode M_MS_mergeEdges.2.1 92 = .ok (.istore 10, 2) := by decide +kernel
theorem d_MS_mergeEdges_94 : decode M_MS_mergeEdges.2.1 94 = .ok (.iload 9, 2) := by decide +kernel
theorem d_MS_mergeEdges_96 : decode M_MS_mergeEdges.2.1 96 = .ok (.iload 10, 2) := by decide +kernel
theorem d_MS_mergeEdges_98 : decode M_MS_mergeEdges.2.1 98 = .ok (.if_icmp .ge 8, 3) := by decide +kernel
theorem d_MS_mergeEdges_101 : decode M_MS_mergeEdges.2.1 101 = .ok (.iload 9, 2) := by decide +kernel
theorem d_MS_mergeEdges_103 : decode M_MS_mergeEdges.2.1 103 = .ok (.goto 5, 3) := by decide +kernel
theorem d_MS_mergeEdges_106 : decode M_MS_mergeEdges.2.1 106 = .ok (.iload 10, 2) := by decide +kernel
theorem d_MS_mergeEdges_108 : decode M_MS_mergeEdges.2.1 108 = .ok (.istore 11, 2) := by decide +kernel
theorem d_MS_mergeEdges_110 : decode M_MS_mergeEdges.2.1 110 = .ok (.iload 9, 2) := by decide +kernel
theorem d_MS_mergeEdges_112 : decode M_MS_mergeEdges.2.1 112 = .ok (.iload 11, 2) := by decide +kernel
theorem d_MS_mergeEdges_114 : decode M_MS_mergeEdges.2.1 114 = .ok (.if_icmp .ne 15, 3) := by decide +kernel
theorem d_MS_mergeEdges_117 : decode M_MS_mergeEdges.2.1 117 = .ok (.iload 4, 2) := by decide +kernel
theorem d_MS_mergeEdges_119 : decode M_MS_mergeEdges.2.1 119 = .ok (.aload_n 1, 1) := by decide +kernel
theorem d_MS_mergeEdges_120 : decode M_MS_mergeEdges.2.1 120 = .ok (.getfield 21, 3) := by decide +kernel
theorem d_MS_mergeEdges_123 : decode M_MS_mergeEdges.2.1 123 = .ok (.if_icmp .ge 6, 3) := by decide +kernel
theorem d_MS_mergeEdges_126 : decode M_MS_mergeEdges.2.1 126 = .ok (.iinc 4 1, 3) := by decide +kernel
theorem d_MS_mergeEdges_129 : decode M_MS_mergeEdges.2.1 129 = .ok (.iload 10, 2) := by decide +kernel
theorem d_MS_mergeEdges_131 : decode M_MS_mergeEdges.2.1 131 = .ok (.iload 11, 2) := by decide +kernel
theorem d_MS_mergeEdges_133 : decode M_MS_mergeEdges.2.1 133 = .ok (.if_icmp .ne 15, 3) := by decide +kernel
theorem d_MS_mergeEdges_136 : decode M_MS_mergeEdges.2.1 136 = .ok (.iload 5, 2) := by decide +kernel
theorem d_MS_mergeEdges_138 : decode M_MS_mergeEdges.2.1 138 = .ok (.aload_n 2, 1) := by decide +kernel
theorem d_MS_mergeEdges_139 : decode M_MS_mergeEdges.2.1 139 = .ok (.getfield 21, 3) := by decide +kernel
theorem d_MS_mergeEdges_142 : decode M_MS_mergeEdges.2.1 142 = .ok (.if_icmp .ge 6, 3) := by decide +kernel
theorem d_MS_mergeEdges_145 : decode M_MS_mergeEdges.2.1 145 = .ok (.iinc 5 1, 3) := by decide +kernel
theorem d_MS_mergeEdges_148 : decode M_MS_mergeEdges.2.1 148 = .ok (.iload 4, 2) := by decide +kernel
theorem d_MS_mergeEdges_150 : decode M_MS_mergeEdges.2.1 150 = .ok (.iconst 1, 1) := by decide +kernel
theorem d_MS_mergeEdges_151 : decode M_MS_mergeEdges.2.1 151 = .ok (.iand, 1) := by decide +kernel
theorem d_MS_mergeEdges_152 : decode M_MS_mergeEdges.2.1 152 = .ok (.iconst 1, 1) := by decide +kernel
theorem d_MS_mergeEdges_153 : decode M_MS_mergeEdges.2.1 153 = .ok (.if_icmp .ne 7, 3) := by decide +kernel
theorem d_MS_mergeEdges_156 : decode M_MS_mergeEdges.2.1 156 = .ok (.iconst 1, 1) := by decide +kernel
theorem d_MS_mergeEdges_157 : decode M_MS_mergeEdges.2.1 157 = .ok (.goto 4, 3) := by decide +kernel
theorem d_MS_mergeEdges_160 : decode M_MS_mergeEdges.2.1 160 = .ok (.iconst 0, 1) := by decide +kernel
theorem d_MS_mergeEdges_161 : decode M_MS_mergeEdges.2.1 161 = .ok (.iload 5, 2) := by decide +kernel
theorem d_MS_mergeEdges_163 : decode M_MS_mergeEdges.2.1 163 = .ok (.iconst 1, 1) := by decide +kernel
theorem d_MS_mergeEdges_164 : decode M_MS_mergeEdges.2.1 164 = .ok (.iand, 1) := by decide +kernel
theorem d_MS_mergeEdges_165 : decode M_MS_mergeEdges.2.1 165 = .ok (.iconst 1, 1) := by decide +kernel
theorem d_MS_mergeEdges_166 : decode M_MS_mergeEdges.2.1 166 = .ok (.if_icmp .ne 7, 3) := by decide +kernel
theorem d_MS_mergeEdges_169 : decode M_MS_mergeEdges.2.1 169 = .ok (.iconst 1, 1) := by decide +kernel
theorem d_MS_mergeEdges_170 : decode M_MS_mergeEdges.2.1 170 = .ok (.goto 4, 3) := by decide +kernel
theorem d_MS_mergeEdges_173 : decode M_MS_mergeEdges.2.1 173 = .ok (.iconst 0, 1) := by decide +kernel
theorem d_MS_mergeEdges_174 : decode M_MS_mergeEdges.2.1 174 = .ok (.iload_n 3, 1) := by decide +kernel
theorem d_MS_mergeEdges_175 : decode M_MS_mergeEdges.2.1 175 = .ok (.invokestatic 53, 3) := by decide +kernel
theorem d_MS_mergeEdges_178 : decode M_MS_mergeEdges.2.1 178 = .ok (.istore 12, 2) := by decide +kernel
theorem d_MS_mergeEdges_180 : decode M_MS_mergeEdges.2.1 180 = .ok (.iload 12, 2) := by decide +kernel
theorem d_MS_mergeEdges_182 : decode M_MS_mergeEdges.2.1 182 = .ok (.iload 6, 2) := by decide +kernel
theorem d_MS_mergeEdges_184 : decode M_MS_mergeEdges.2.1 184 = .ok (.if_icmp .eq 13, 3) := by decide +kernel
theorem d_MS_mergeEdges_187 : decode M_MS_mergeEdges.2.1 187 = .ok (.aload_n 0, 1) := by decide +kernel
theorem d_MS_mergeEdges_188 : decode M_MS_mergeEdges.2.1 188 = .ok (.iload 11, 2) := by decide +kernel
theorem d_MS_mergeEdges_190 : decode M_MS_mergeEdges.2.1 190 = .ok (.invokevirtual 37, 3) := by decide +kernel
theorem d_MS_mergeEdges_193 : decode M_MS_mergeEdges.2.1 193 = .ok (.iload 12, 2) := by decide +kernel
theorem d_MS_mergeEdges_195 : decode M_MS_mergeEdges.2.1 195 = .ok (.istore 6, 2) := by decide +kernel
theorem d_MS_mergeEdges_197 : decode M_MS_mergeEdges.2.1 197 = .ok (.iinc 8 1, 3) := by decide +kernel
theorem d_MS_mergeEdges_200 : decode M_MS_mergeEdges.2.1 200 = .ok (.goto (-177), 3) := by decide +kernel
theorem d_MS_mergeEdges_203 : decode M_MS_mergeEdges.2.1 203 = .ok (.return_, 1) := by decide +kernel
theorem d_MS_mergeKeys_0 : decode M_MS_mergeKeys.2.1 0 = .ok (.iconst 0, 1) := by decide +kernel
theorem d_MS_mergeKeys_1 : decode M_MS_mergeKeys.2.1 1 = .ok (.istore 4, 2) := by decide +kernel
theorem d_MS_mergeKeys_3 : decode M_MS_mergeKeys.2.1 3 = .ok (.iconst 0, 1) := by decide +kernel
theorem d_MS_mergeKeys_4 : decode M_MS_mergeKeys.2.1 4 = .ok (.istore 5, 2) := by decide +kernel
theorem d_MS_mergeKeys_6 : decode M_MS_mergeKeys.2.1 6 = .ok (.aload_n 1, 1) := by decide +kernel
theorem d_MS_mergeKeys_7 : decode M_MS_mergeKeys.2.1 7 = .ok (.getfield 25, 3) := by decide +kernel
theorem d_MS_mergeKeys_10 : decode M_MS_mergeKeys.2.1 10 = .ok (.aload_n 2, 1) := by decide +kernel
theorem d_MS_mergeKeys_11 : decode M_MS_mergeKeys.2.1 11 = .ok (.getfield 25, 3) := by decide +kernel
theorem d_MS_mergeKeys_14 : decode M_MS_mergeKeys.2.1 14 = .ok (.iadd, 1) := by decide +kernel
theorem d_MS_mergeKeys_15 : decode M_MS_mergeKeys.2.1 15 = .ok (.istore 6, 2) := by decide +kernel
theorem d_MS_mergeKeys_17 : decode M_MS_mergeKeys.2.1 17 = .ok (.iconst 0, 1) := by decide +kernel
theorem d_MS_mergeKeys_18 : decode M_MS_mergeKeys.2.1 18 = .ok (.istore 7, 2) := by decide +kernel
theorem d_MS_mergeKeys_20 : decode M_MS_mergeKeys.2.1 20 = .ok (.iload 7, 2) := by decide +kernel
theorem d_MS_mergeKeys_22 : decode M_MS_mergeKeys.2.1 22 = .ok (.iload 6, 2) := by decide +kernel
theorem d_MS_mergeKeys_24 : decode M_MS_mergeKeys.2.1 24 = .ok (.if_icmp .ge 153, 3) := by decide +kernel
theorem d_MS_mergeKeys_27 : decode M_MS_mergeKeys.2.1 27 = .ok (.iload 4, 2) := by decide +kernel
theorem d_MS_mergeKeys_29 : decode M_MS_mergeKeys.2.1 29 = .ok (.aload_n 1, 1) := by decide +kernel
theorem d_MS_mergeKeys_30 : decode M_MS_mergeKeys.2.1 30 = .ok (.getfield 25, 3) := by decide +kernel
theorem d_MS_mergeKeys_33 : decode M_MS_mergeKeys.2.1 33 = .ok (.if_icmp .lt 12, 3) := by decide +kernel
theorem d_MS_mergeKeys_36 : decode M_MS_mergeKeys.2.1 36 = .ok (.iload 5, 2) := by decide +kernel
theorem d_MS_mergeKeys_38 : decode M_MS_mergeKeys.2.1 38 = .ok (.aload_n 2, 1) := by decide +kernel
theorem d_MS_mergeKeys_39 : decode M_MS_mergeKeys.2.1 39 = .ok (.getfield 25, 3) := by decide +kernel
theorem d_MS_mergeKeys_42 : decode M_MS_mergeKeys.2.1 42 = .ok (.if_icmp .ge 135, 3) := by decide +kernel
theorem d_MS_mergeKeys_45 : decode M_MS_mergeKeys.2.1 45 = .ok (.iload 4, 2) := by decide +kernel
theorem d_MS_mergeKeys_47 : decode M_MS_mergeKeys.2.1 47 = .ok (.aload_n 1, 1) := by decide +kernel
theorem d_MS_mergeKeys_48 : decode M_MS_mergeKeys.2.1 48 = .ok (.getfield 25, 3) := by decide +kernel
theorem d_MS_mergeKeys_51 : decode M_MS_mergeKeys.2.1 51 = .ok (.if_icmp .ge 13, 3) := by decide +kernel
theorem d_MS_mergeKeys_54 : decode M_MS_mergeKeys.2.1 54 = .ok (.aload_n 1, 1) := by decide +kernel
theorem d_MS_mergeKeys_55 : decode M_MS_mergeKeys.2.1 55 = .ok (.getfield 15, 3) := by decide +kernel
theorem d_MS_mergeKeys_58 : decode M_MS_mergeKeys.2.1 58 = .ok (.iload 4, 2) := by decide +kernel
theorem d_MS_mergeKeys_60 : decode M_MS_mergeKeys.2.1 60 = .ok (.laload, 1) := by decide +kernel
theorem d_MS_mergeKeys_61 : decode M_MS_mergeKeys.2.1 61 = .ok (.goto 6, 3) := by decide +kernel
theorem d_MS_mergeKeys_64 : decode M_MS_mergeKeys.2.1 64 = .ok (.ldc2_w 57, 3) := by decide +kernel
theorem d_MS_mergeKeys_67 : decode M_MS_mergeKeys.2.1 67 = .ok (.lstore 8, 2) := by decide +kernel
theorem d_MS_mergeKeys_69 : decode M_MS_mergeKeys.2.1 69 = .ok (.iload 5, 2) := by decide +kernel
theorem d_MS_mergeKeys_71 : decode M_MS_mergeKeys.2.1 71 = .ok (.aload_n 2, 1) := by decide +kernel
theorem d_MS_mergeKeys_72 : decode M_MS_mergeKeys.2.1 72 = .ok (.getfield 25, 3) := by decide +kernel
theorem d_MS_mergeKeys_75 : decode M_MS_mergeKeys.2.1 75 = .ok (.if_icmp .ge 13, 3) := by decide +kernel
theorem d_MS_mergeKeys_78 : decode M_MS_mergeKeys.2.1 78 = .ok (.aload_n 2, 1) := by decide +kernel
theorem d_MS_mergeKeys_79 : decode M_MS_mergeKeys.2.1 79 = .ok (.getfield 15, 3) := by decide +kernel
theorem d_MS_mergeKeys_82 : decode M_MS_mergeKeys.2.1 82 = .ok (.iload 5, 2) := by decide +kernel
theorem d_MS_mergeKeys_84 : decode M_MS_mergeKeys.2.1 84 = .ok (.laload, 1) := by decide +kernel
theorem d_MS_mergeKeys_85 : decode M_MS_mergeKeys.2.1 85 = .ok (.goto 6, 3) := by decide +kernel
theorem d_MS_mergeKeys_88 : decode M_MS_mergeKeys.2.1 88 = .ok (.ldc2_w 57, 3) := by decide +kernel
theorem d_MS_mergeKeys_91 : decode M_MS_mergeKeys.2.1 91 = .ok (.lstore 10, 2) := by decide +kernel
theorem d_MS_mergeKeys_93 : decode M_MS_mergeKeys.2.1 93 = .ok (.lload 8, 2) := by decide +kernel
theorem d_MS_mergeKeys_95 : decode M_MS_mergeKeys.2.1 95 = .ok (.lload 10, 2) := by decide +kernel
theorem d_MS_mergeKeys_97 : decode M_MS_mergeKeys.2.1 97 = .ok (.lcmp, 1) := by decide +kernel
theorem d_MS_mergeKeys_98 : decode M_MS_mergeKeys.2.1 98 = .ok (.ifCond .ge 8, 3) := by decide +kernel
theorem d_MS_mergeKeys_101 : decode M_MS_mergeKeys.2.1 101 = .ok (.lload 8, 2) := by decide +kernel
theorem d_MS_mergeKeys_103 : decode M_MS_mergeKeys.2.1 103 = .ok (.goto 5, 3) := by decide +kernel
theorem d_MS_mergeKeys_106 : decode M_MS_mergeKeys.2.1 106 = .ok (.lload 10, 2) := by decide +kernel
theorem d_MS_mergeKeys_108 : decode M_MS_mergeKeys.2.1 108 = .ok (.lstore 12, 2) := by decide +kernel
theorem d_MS_mergeKeys_110 : decode M_MS_mergeKeys.2.1 110 = .ok (.lload 8, 2) := by decide +kernel
theorem d_MS_mergeKeys_112 : decode M_MS_mergeKeys.2.1 112 = .ok (.lload 12, 2) := by decide +kernel
theorem d_MS_mergeKeys_114 : decode M_MS_mergeKeys.2.1 114 = .ok (.lcmp, 1) := by decide +kernel
theorem d_MS_mergeKeys_115 : decode M_MS_mergeKeys.2.1 115 = .ok (.ifCond .ne 7, 3) := by decide +kernel
theorem d_MS_mergeKeys_118 : decode M_MS_mergeKeys.2.1 118 = .ok (.iconst 1, 1) := by decide +kernel
theorem d_MS_mergeKeys_119 : decode M_MS_mergeKeys.2.1 119 = .ok (.goto 4, 3) := by decide +kernel
theorem d_MS_mergeKeys_122 : decode M_MS_mergeKeys.2.1 122 = .ok (.iconst 0, 1) := by decide +kernel
theorem d_MS_mergeKeys_123 : decode M_MS_mergeKeys.2.1 123 = .ok (.lload 10, 2) := by decide +kernel
theorem d_MS_mergeKeys_125 : decode M_MS_mergeKeys.2.1 125 = .ok (.lload 12, 2) := by decide +kernel
theorem d_MS_mergeKeys_127 : decode M_MS_mergeKeys.2.1 127 = .ok (.lcmp, 1) := by decide +kernel
theorem d_MS_mergeKeys_128 : decode M_MS_mergeKeys.2.1 128 = .ok (.ifCond .ne 7, 3) := by decide +kernel
theorem d_MS_mergeKeys_131 : decode M_MS_mergeKeys.2.1 131 = .ok (.iconst 1, 1) := by decide +kernel
theorem d_MS_mergeKeys_132 : decode M_MS_mergeKeys.2.1 132 = .ok (.goto 4, 3) := by decide +kernel
theorem d_MS_mergeKeys_135 : decode M_MS_mergeKeys.2.1 135 = .ok (.iconst 0, 1) := by decide +kernel
theorem d_MS_mergeKeys_136 : decode M_MS_mergeKeys.2.1 136 = .ok (.iload_n 3, 1) := by decide +kernel
theorem d_MS_mergeKeys_137 : decode M_MS_mergeKeys.2.1 137 = .ok (.invokestatic 53, 3) := by decide +kernel
theorem d_MS_mergeKeys_140 : decode M_MS_mergeKeys.2.1 140 = .ok (.ifCond .eq 9, 3) := by decide +kernel
theorem d_MS_mergeKeys_143 : decode M_MS_mergeKeys.2.1 143 = .ok (.aload_n 0, 1) := by decide +kernel
theorem d_MS_mergeKeys_144 : decode M_MS_mergeKeys.2.1 144 = .ok (.lload 12, 2) := by decide +kernel
theorem d_MS_mergeKeys_146 : decode M_MS_mergeKeys.2.1 146 = .ok (.invokevirtual 41, 3) := by decide +kernel
theorem d_MS_mergeKeys_149 : decode M_MS_mergeKeys.2.1 149 = .ok (.lload 8, 2) := by decide +kernel
theorem d_MS_mergeKeys_151 : decode M_MS_mergeKeys.2.1 151 = .ok (.lload 12, 2) := by decide +kernel
theorem d_MS_mergeKeys_153 : decode M_MS_mergeKeys.2.1 153 = .ok (.lcmp, 1) := by decide +kernel
theorem d_MS_mergeKeys_154 : decode M_MS_mergeKeys.2.1 154 = .ok (.ifCond .ne 6, 3) := by decide +kernel
theorem d_MS_mergeKeys_157 : decode M_MS_mergeKeys.2.1 157 = .ok (.iinc 4 1, 3) := by decide +kernel
theorem d_MS_mergeKeys_160 : decode M_MS_mergeKeys.2.1 160 = .ok (.lload 10, 2) := by decide +kernel
theorem d_MS_mergeKeys_162 : decode M_MS_mergeKeys.2.1 162 = .ok (.lload 12, 2) := by decide +kernel
theorem d_MS_mergeKeys_164 : decode M_MS_mergeKeys.2.1 164 = .ok (.lcmp, 1) := by decide +kernel
theorem d_MS_mergeKeys_165 : decode M_MS_mergeKeys.2.1 165 = .ok (.ifCond .ne 6, 3) := by decide +kernel
theorem d_MS_mergeKeys_168 : decode M_MS_mergeKeys.2.1 168 = .ok (.iinc 5 1, 3) := by decide +kernel
theorem d_MS_mergeKeys_171 : decode M_MS_mergeKeys.2.1 171 = .ok (.iinc 7 1, 3) := by decide +kernel
theorem d_MS_mergeKeys_174 : decode M_MS_mergeKeys.2.1 174 = .ok (.goto (-154), 3) := by decide +kernel
theorem d_MS_mergeKeys_177 : decode M_MS_mergeKeys.2.1 177 = .ok (.return_, 1) := by decide +kernel
theorem d_MS_isKept_0 : decode M_MS_isKept.2.1 0 = .ok (.iload_n 2, 1) := by decide +kernel
theorem d_MS_isKept_1 : decode M_MS_isKept.2.1 1 = .ok (.tableswitch 69 0 2 #[27, 41, 55], 27) := by decide +kernel
theorem d_MS_isKept_28 : decode M_MS_isKept.2.1 28 = .ok (.iload_n 0, 1) := by decide +kernel
theorem d_MS_isKept_29 : decode M_MS_isKept.2.1 29 = .ok (.ifCond .ne 7, 3) := by decide +kernel
theorem d_MS_isKept_32 : decode M_MS_isKept.2.1 32 = .ok (.iload_n 1, 1) := by decide +kernel
theorem d_MS_isKept_33 : decode M_MS_isKept.2.1 33 = .ok (.ifCond .eq 7, 3) := by decide +kernel
theorem d_MS_isKept_36 : decode M_MS_isKept.2.1 36 = .ok (.iconst 1, 1) := by decide +kernel
theorem d_MS_isKept_37 : decode M_MS_isKept.2.1 37 = .ok (.goto 4, 3) := by decide +kernel
theorem d_MS_isKept_40 : decode M_MS_isKept.2.1 40 = .ok (.iconst 0, 1) := by decide +kernel
theorem d_MS_isKept_41 : decode M_MS_isKept.2.1 41 = .ok (.ireturn, 1) := by decide +kernel
theorem d_MS_isKept_42 : decode M_MS_isKept.2.1 42 = .ok (.iload_n 0, 1) := by decide +kernel
theorem d_MS_isKept_43 : decode M_MS_isKept.2.1 43 = .ok (.ifCond .eq 11, 3) := by decide +kernel
theorem d_MS_isKept_46 : decode M_MS_isKept.2.1 46 = .ok (.iload_n 1, 1) := by decide +kernel
theorem d_MS_isKept_47 : decode M_MS_isKept.2.1 47 = .ok (.ifCond .eq 7, 3) := by decide +kernel
theorem d_MS_isKept_50 : decode M_MS_isKept.2.1 50 = .ok (.iconst 1, 1) := by decide +kernel
theorem d_MS_isKept_51 : decode M_MS_isKept.2.1 51 = .ok (.goto 4, 3) := by decide +kernel
theorem d_MS_isKept_54 : decode M_MS_isKept.2.1 54 = .ok (.iconst 0, 1) := by decide +kernel
theorem d_MS_isKept_55 : decode M_MS_isKept.2.1 55 = .ok (.ireturn, 1) := by decide +kernel
theorem d_MS_isKept_56 : decode M_MS_isKept.2.1 56 = .ok (.iload_n 0, 1) := by decide +kernel
theorem d_MS_isKept_57 : decode M_MS_isKept.2.1 57 = .ok (.ifCond .eq 11, 3) := by decide +kernel
theorem d_MS_isKept_60 : decode M_MS_isKept.2.1 60 = .ok (.iload_n 1, 1) := by decide +kernel
theorem d_MS_isKept_61 : decode M_MS_isKept.2.1 61 = .ok (.ifCond .ne 7, 3) := by decide +kernel
theorem d_MS_isKept_64 : decode M_MS_isKept.2.1 64 = .ok (.iconst 1, 1) := by decide +kernel
theorem d_MS_isKept_65 : decode M_MS_isKept.2.1 65 = .ok (.goto 4, 3) := by decide +kernel
theorem d_MS_isKept_68 : decode M_MS_isKept.2.1 68 = .ok (.iconst 0, 1) := by decide +kernel
theorem d_MS_isKept_69 : decode M_MS_isKept.2.1 69 = .ok (.ireturn, 1) := by decide +kernel
theorem d_MS_isKept_70 : decode M_MS_isKept.2.1 70 = .ok (.iload_n 0, 1) := by decide +kernel
theorem d_MS_isKept_71 : decode M_MS_isKept.2.1 71 = .ok (.iload_n 1, 1) := by decide +kernel
theorem d_MS_isKept_72 : decode M_MS_isKept.2.1 72 = .ok (.if_icmp .eq 7, 3) := by decide +kernel
theorem d_MS_isKept_75 : decode M_MS_isKept.2.1 75 = .ok (.iconst 1, 1) := by decide +kernel
theorem d_MS_isKept_76 : decode M_MS_isKept.2.1 76 = .ok (.goto 4, 3) := by decide +kernel
theorem d_MS_isKept_79 : decode M_MS_isKept.2.1 79 = .ok (.iconst 0, 1) := by decide +kernel
theorem d_MS_isKept_80 : decode M_MS_isKept.2.1 80 = .ok (.ireturn, 1) := by decide +kernel
theorem d_MS_toggleEdge_0 : decode M_MS_toggleEdge.2.1 0 = .ok (.aload_n 0, 1) := by decide +kernel
theorem d_MS_toggleEdge_1 : decode M_MS_toggleEdge.2.1 1 = .ok (.getfield 21, 3) := by decide +kernel
theorem d_MS_toggleEdge_4 : decode M_MS_toggleEdge.2.1 4 = .ok (.ifCond .le 31, 3) := by decide +kernel
theorem d_MS_toggleEdge_7 : decode M_MS_toggleEdge.2.1 7 = .ok (.aload_n 0, 1) := by decide +kernel
theorem d_MS_toggleEdge_8 : decode M_MS_toggleEdge.2.1 8 = .ok (.getfield 11, 3) := by decide +kernel
theorem d_MS_toggleEdge_11 : decode M_MS_toggleEdge.2.1 11 = .ok (.aload_n 0, 1) := by decide +kernel
theorem d_MS_toggleEdge_12 : decode M_MS_toggleEdge.2.1 12 = .ok (.getfield 21, 3) := by decide +kernel
theorem d_MS_toggleEdge_15 : decode M_MS_toggleEdge.2.1 15 = .ok (.iconst 1, 1) := by decide +kernel
theorem d_MS_toggleEdge_16 : decode M_MS_toggleEdge.2.1 16 = .ok (.isub, 1) := by decide +kernel
theorem d_MS_toggleEdge_17 : decode M_MS_toggleEdge.2.1 17 = .ok (.iaload, 1) := by decide +kernel
theorem d_MS_toggleEdge_18 : decode M_MS_toggleEdge.2.1 18 = .ok (.iload_n 1, 1) := by decide +kernel
theorem d_MS_toggleEdge_19 : decode M_MS_toggleEdge.2.1 19 = .ok (.if_icmp .ne 16, 3) := by decide +kernel
theorem d_MS_toggleEdge_22 : decode M_MS_toggleEdge.2.1 22 = .ok (.aload_n 0, 1) := by decide +kernel
theorem d_MS_toggleEdge_23 : decode M_MS_toggleEdge.2.1 23 = .ok (.dup, 1) := by decide +kernel
theorem d_MS_toggleEdge_24 : decode M_MS_toggleEdge.2.1 24 = .ok (.getfield 21, 3) := by decide +kernel
theorem d_MS_toggleEdge_27 : decode M_MS_toggleEdge.2.1 27 = .ok (.iconst 1, 1) := by decide +kernel
theorem d_MS_toggleEdge_28 : decode M_MS_toggleEdge.2.1 28 = .ok (.isub, 1) := by decide +kernel
theorem d_MS_toggleEdge_29 : decode M_MS_toggleEdge.2.1 29 = .ok (.putfield 21, 3) := by decide +kernel
theorem d_MS_toggleEdge_32 : decode M_MS_toggleEdge.2.1 32 = .ok (.goto 33, 3) := by decide +kernel
theorem d_MS_toggleEdge_35 : decode M_MS_toggleEdge.2.1 35 = .ok (.aload_n 0, 1) := by decide +kernel
theorem d_MS_toggleEdge_36 : decode M_MS_toggleEdge.2.1 36 = .ok (.getfield 21, 3) := by decide +kernel
theorem d_MS_toggleEdge_39 : decode M_MS_toggleEdge.2.1 39 = .ok (.sipush 400, 3) := by decide +kernel
theorem d_MS_toggleEdge_42 : decode M_MS_toggleEdge.2.1 42 = .ok (.if_icmp .ge 23, 3) := by decide +kernel
theorem d_MS_toggleEdge_45 : decode M_MS_toggleEdge.2.1 45 = .ok (.aload_n 0, 1) := by decide +kernel
theorem d_MS_toggleEdge_46 : decode M_MS_toggleEdge.2.1 46 = .ok (.getfield 11, 3) := by decide +kernel
theorem d_MS_toggleEdge_49 : decode M_MS_toggleEdge.2.1 49 = .ok (.aload_n 0, 1) := by decide +kernel
theorem d_MS_toggleEdge_50 : decode M_MS_toggleEdge.2.1 50 = .ok (.getfield 21, 3) := by decide +kernel
theorem d_MS_toggleEdge_53 : decode M_MS_toggleEdge.2.1 53 = .ok (.iload_n 1, 1) := by decide +kernel
theorem d_MS_toggleEdge_54 : decode M_MS_toggleEdge.2.1 54 = .ok (.iastore, 1) := by decide +kernel
theorem d_MS_toggleEdge_55 : decode M_MS_toggleEdge.2.1 55 = .ok (.aload_n 0, 1) := by decide +kernel
theorem d_MS_toggleEdge_56 : decode M_MS_toggleEdge.2.1 56 = .ok (.dup, 1) := by decide +kernel
theorem d_MS_toggleEdge_57 : decode M_MS_toggleEdge.2.1 57 = .ok (.getfield 21, 3) := by decide +kernel
theorem d_MS_toggleEdge_60 : decode M_MS_toggleEdge.2.1 60 = .ok (.iconst 1, 1) := by decide +kernel
theorem d_MS_toggleEdge_61 : decode M_MS_toggleEdge.2.1 61 = .ok (.iadd, 1) := by decide +kernel
theorem d_MS_toggleEdge_62 : decode M_MS_toggleEdge.2.1 62 = .ok (.putfield 21, 3) := by decide +kernel
theorem d_MS_toggleEdge_65 : decode M_MS_toggleEdge.2.1 65 = .ok (.return_, 1) := by decide +kernel
theorem d_MS_appendKey_0 : decode M_MS_appendKey.2.1 0 = .ok (.aload_n 0, 1) := by decide +kernel
theorem d_MS_appendKey_1 : decode M_MS_appendKey.2.1 1 = .ok (.getfield 25, 3) := by decide +kernel
theorem d_MS_appendKey_4 : decode M_MS_appendKey.2.1 4 = .ok (.bipush 16, 2) := by decide +kernel
theorem d_MS_appendKey_6 : decode M_MS_appendKey.2.1 6 = .ok (.if_icmp .ge 23, 3) := by decide +kernel
theorem d_MS_appendKey_9 : decode M_MS_appendKey.2.1 9 = .ok (.aload_n 0, 1) := by decide +kernel
theorem d_MS_appendKey_10 : decode M_MS_appendKey.2.1 10 = .ok (.getfield 15, 3) := by decide +kernel
theorem d_MS_appendKey_13 : decode M_MS_appendKey.2.1 13 = .ok (.aload_n 0, 1) := by decide +kernel
theorem d_MS_appendKey_14 : decode M_MS_appendKey.2.1 14 = .ok (.getfield 25, 3) := by decide +kernel
theorem d_MS_appendKey_17 : decode M_MS_appendKey.2.1 17 = .ok (.lload_n 1, 1) := by decide +kernel
theorem d_MS_appendKey_18 : decode M_MS_appendKey.2.1 18 = .ok (.lastore, 1) := by decide +kernel
theorem d_MS_appendKey_19 : decode M_MS_appendKey.2.1 19 = .ok (.aload_n 0, 1) := by decide +kernel
theorem d_MS_appendKey_20 : decode M_MS_appendKey.2.1 20 = .ok (.dup, 1) := by decide +kernel
theorem d_MS_appendKey_21 : decode M_MS_appendKey.2.1 21 = .ok (.getfield 25, 3) := by decide +kernel
theorem d_MS_appendKey_24 : decode M_MS_appendKey.2.1 24 = .ok (.iconst 1, 1) := by decide +kernel
theorem d_MS_appendKey_25 : decode M_MS_appendKey.2.1 25 = .ok (.iadd, 1) := by decide +kernel
theorem d_MS_appendKey_26 : decode M_MS_appendKey.2.1 26 = .ok (.putfield 25, 3) := by decide +kernel
theorem d_MS_appendKey_29 : decode M_MS_appendKey.2.1 29 = .ok (.return_, 1) := by decide +kernel
theorem d_MS_holdsCode_0 : decode M_MS_holdsCode.2.1 0 = .ok (.iconst 0, 1) := by decide +kernel
theorem d_MS_holdsCode_1 : decode M_MS_holdsCode.2.1 1 = .ok (.istore_n 2, 1) := by decide +kernel
theorem d_MS_holdsCode_2 : decode M_MS_holdsCode.2.1 2 = .ok (.aload_n 0, 1) := by decide +kernel
theorem d_MS_holdsCode_3 : decode M_MS_holdsCode.2.1 3 = .ok (.getfield 21, 3) := by decide +kernel
theorem d_MS_holdsCode_6 : decode M_MS_holdsCode.2.1 6 = .ok (.istore_n 3, 1) := by decide +kernel
theorem d_MS_holdsCode_7 : decode M_MS_holdsCode.2.1 7 = .ok (.iconst 0, 1) := by decide +kernel
theorem d_MS_holdsCode_8 : decode M_MS_holdsCode.2.1 8 = .ok (.istore 4, 2) := by decide +kernel
theorem d_MS_holdsCode_10 : decode M_MS_holdsCode.2.1 10 = .ok (.iload 4, 2) := by decide +kernel
theorem d_MS_holdsCode_12 : decode M_MS_holdsCode.2.1 12 = .ok (.sipush 400, 3) := by decide +kernel
theorem d_MS_holdsCode_15 : decode M_MS_holdsCode.2.1 15 = .ok (.if_icmp .ge 43, 3) := by decide +kernel
theorem d_MS_holdsCode_18 : decode M_MS_holdsCode.2.1 18 = .ok (.iload_n 2, 1) := by decide +kernel
theorem d_MS_holdsCode_19 : decode M_MS_holdsCode.2.1 19 = .ok (.iload_n 3, 1) := by decide +kernel
theorem d_MS_holdsCode_20 : decode M_MS_holdsCode.2.1 20 = .ok (.if_icmp .ge 38, 3) := by decide +kernel
theorem d_MS_holdsCode_23 : decode M_MS_holdsCode.2.1 23 = .ok (.iload_n 2, 1) := by decide +kernel
theorem d_MS_holdsCode_24 : decode M_MS_holdsCode.2.1 24 = .ok (.iload_n 3, 1) := by decide +kernel
theorem d_MS_holdsCode_25 : decode M_MS_holdsCode.2.1 25 = .ok (.iadd, 1) := by decide +kernel
theorem d_MS_holdsCode_26 : decode M_MS_holdsCode.2.1 26 = .ok (.iconst 2, 1) := by decide +kernel
theorem d_MS_holdsCode_27 : decode M_MS_holdsCode.2.1 27 = .ok (.idiv, 1) := by decide +kernel
theorem d_MS_holdsCode_28 : decode M_MS_holdsCode.2.1 28 = .ok (.istore 5, 2) := by decide +kernel
theorem d_MS_holdsCode_30 : decode M_MS_holdsCode.2.1 30 = .ok (.aload_n 0, 1) := by decide +kernel
theorem d_MS_holdsCode_31 : decode M_MS_holdsCode.2.1 31 = .ok (.getfield 11, 3) := by decide +kernel
theorem d_MS_holdsCode_34 : decode M_MS_holdsCode.2.1 34 = .ok (.iload 5, 2) := by decide +kernel
theorem d_MS_holdsCode_36 : decode M_MS_holdsCode.2.1 36 = .ok (.iaload, 1) := by decide +kernel
theorem d_MS_holdsCode_37 : decode M_MS_holdsCode.2.1 37 = .ok (.iload_n 1, 1) := by decide +kernel
theorem d_MS_holdsCode_38 : decode M_MS_holdsCode.2.1 38 = .ok (.if_icmp .gt 11, 3) := by decide +kernel
theorem d_MS_holdsCode_41 : decode M_MS_holdsCode.2.1 41 = .ok (.iload 5, 2) := by decide +kernel
theorem d_MS_holdsCode_43 : decode M_MS_holdsCode.2.1 43 = .ok (.iconst 1, 1) := by decide +kernel
theorem d_MS_holdsCode_44 : decode M_MS_holdsCode.2.1 44 = .ok (.iadd, 1) := by decide +kernel
theorem d_MS_holdsCode_45 : decode M_MS_holdsCode.2.1 45 = .ok (.istore_n 2, 1) := by decide +kernel
theorem d_MS_holdsCode_46 : decode M_MS_holdsCode.2.1 46 = .ok (.goto 6, 3) := by decide +kernel
theorem d_MS_holdsCode_49 : decode M_MS_holdsCode.2.1 49 = .ok (.iload 5, 2) := by decide +kernel
theorem d_MS_holdsCode_51 : decode M_MS_holdsCode.2.1 51 = .ok (.istore_n 3, 1) := by decide +kernel
theorem d_MS_holdsCode_52 : decode M_MS_holdsCode.2.1 52 = .ok (.iinc 4 1, 3) := by decide +kernel
theorem d_MS_holdsCode_55 : decode M_MS_holdsCode.2.1 55 = .ok (.goto (-45), 3) := by decide +kernel
theorem d_MS_holdsCode_58 : decode M_MS_holdsCode.2.1 58 = .ok (.iload_n 2, 1) := by decide +kernel
theorem d_MS_holdsCode_59 : decode M_MS_holdsCode.2.1 59 = .ok (.iconst 1, 1) := by decide +kernel
theorem d_MS_holdsCode_60 : decode M_MS_holdsCode.2.1 60 = .ok (.iand, 1) := by decide +kernel
theorem d_MS_holdsCode_61 : decode M_MS_holdsCode.2.1 61 = .ok (.iconst 1, 1) := by decide +kernel
theorem d_MS_holdsCode_62 : decode M_MS_holdsCode.2.1 62 = .ok (.if_icmp .ne 7, 3) := by decide +kernel
theorem d_MS_holdsCode_65 : decode M_MS_holdsCode.2.1 65 = .ok (.iconst 1, 1) := by decide +kernel
theorem d_MS_holdsCode_66 : decode M_MS_holdsCode.2.1 66 = .ok (.goto 4, 3) := by decide +kernel
theorem d_MS_holdsCode_69 : decode M_MS_holdsCode.2.1 69 = .ok (.iconst 0, 1) := by decide +kernel
theorem d_MS_holdsCode_70 : decode M_MS_holdsCode.2.1 70 = .ok (.ireturn, 1) := by decide +kernel
theorem d_MS_holdsString_0 : decode M_MS_holdsString.2.1 0 = .ok (.iconst 0, 1) := by decide +kernel
theorem d_MS_holdsString_1 : decode M_MS_holdsString.2.1 1 = .ok (.istore_n 3, 1) := by decide +kernel
theorem d_MS_holdsString_2 : decode M_MS_holdsString.2.1 2 = .ok (.iload_n 3, 1) := by decide +kernel
theorem d_MS_holdsString_3 : decode M_MS_holdsString.2.1 3 = .ok (.aload_n 0, 1) := by decide +kernel
theorem d_MS_holdsString_4 : decode M_MS_holdsString.2.1 4 = .ok (.getfield 25, 3) := by decide +kernel
theorem d_MS_holdsString_7 : decode M_MS_holdsString.2.1 7 = .ok (.if_icmp .ge 22, 3) := by decide +kernel
theorem d_MS_holdsString_10 : decode M_MS_holdsString.2.1 10 = .ok (.aload_n 0, 1) := by decide +kernel
theorem d_MS_holdsString_11 : decode M_MS_holdsString.2.1 11 = .ok (.getfield 15, 3) := by decide +kernel
theorem d_MS_holdsString_14 : decode M_MS_holdsString.2.1 14 = .ok (.iload_n 3, 1) := by decide +kernel
theorem d_MS_holdsString_15 : decode M_MS_holdsString.2.1 15 = .ok (.laload, 1) := by decide +kernel
theorem d_MS_holdsString_16 : decode M_MS_holdsString.2.1 16 = .ok (.lload_n 1, 1) := by decide +kernel
theorem d_MS_holdsString_17 : decode M_MS_holdsString.2.1 17 = .ok (.lcmp, 1) := by decide +kernel
theorem d_MS_holdsString_18 : decode M_MS_holdsString.2.1 18 = .ok (.ifCond .ne 5, 3) := by decide +kernel
theorem d_MS_holdsString_21 : decode M_MS_holdsString.2.1 21 = .ok (.iconst 1, 1) := by decide +kernel
theorem d_MS_holdsString_22 : decode M_MS_holdsString.2.1 22 = .ok (.ireturn, 1) := by decide +kernel
theorem d_MS_holdsString_23 : decode M_MS_holdsString.2.1 23 = .ok (.iinc 3 1, 3) := by decide +kernel
theorem d_MS_holdsString_26 : decode M_MS_holdsString.2.1 26 = .ok (.goto (-24), 3) := by decide +kernel
theorem d_MS_holdsString_29 : decode M_MS_holdsString.2.1 29 = .ok (.iconst 0, 1) := by decide +kernel
theorem d_MS_holdsString_30 : decode M_MS_holdsString.2.1 30 = .ok (.ireturn, 1) := by decide +kernel
theorem d_MS_codeCount_0 : decode M_MS_codeCount.2.1 0 = .ok (.iconst 0, 1) := by decide +kernel
theorem d_MS_codeCount_1 : decode M_MS_codeCount.2.1 1 = .ok (.istore_n 1, 1) := by decide +kernel
theorem d_MS_codeCount_2 : decode M_MS_codeCount.2.1 2 = .ok (.iconst 0, 1) := by decide +kernel
theorem d_MS_codeCount_3 : decode M_MS_codeCount.2.1 3 = .ok (.istore_n 2, 1) := by decide +kernel
theorem d_MS_codeCount_4 : decode M_MS_codeCount.2.1 4 = .ok (.iload_n 2, 1) := by decide +kernel
theorem d_MS_codeCount_5 : decode M_MS_codeCount.2.1 5 = .ok (.iconst 1, 1) := by decide +kernel
theorem d_MS_codeCount_6 : decode M_MS_codeCount.2.1 6 = .ok (.iadd, 1) := by decide +kernel
theorem d_MS_codeCount_7 : decode M_MS_codeCount.2.1 7 = .ok (.aload_n 0, 1) := by decide +kernel
theorem d_MS_codeCount_8 : decode M_MS_codeCount.2.1 8 = .ok (.getfield 21, 3) := by decide +kernel
theorem d_MS_codeCount_11 : decode M_MS_codeCount.2.1 11 = .ok (.if_icmp .ge 27, 3) := by decide +kernel
theorem d_MS_codeCount_14 : decode M_MS_codeCount.2.1 14 = .ok (.iload_n 1, 1) := by decide +kernel
theorem d_MS_codeCount_15 : decode M_MS_codeCount.2.1 15 = .ok (.aload_n 0, 1) := by decide +kernel
theorem d_MS_codeCount_16 : decode M_MS_codeCount.2.1 16 = .ok (.getfield 11, 3) := by decide +kernel
theorem d_MS_codeCount_19 : decode M_MS_codeCount.2.1 19 = .ok (.iload_n 2, 1) := by decide +kernel
theorem d_MS_codeCount_20 : decode M_MS_codeCount.2.1 20 = .ok (.iconst 1, 1) := by decide +kernel
theorem d_MS_codeCount_21 : decode M_MS_codeCount.2.1 21 = .ok (.iadd, 1) := by decide +kernel
theorem d_MS_codeCount_22 : decode M_MS_codeCount.2.1 22 = .ok (.iaload, 1) := by decide +kernel
theorem d_MS_codeCount_23 : decode M_MS_codeCount.2.1 23 = .ok (.aload_n 0, 1) := by decide +kernel
theorem d_MS_codeCount_24 : decode M_MS_codeCount.2.1 24 = .ok (.getfield 11, 3) := by decide +kernel
theorem d_MS_codeCount_27 : decode M_MS_codeCount.2.1 27 = .ok (.iload_n 2, 1) := by decide +kernel
theorem d_MS_codeCount_28 : decode M_MS_codeCount.2.1 28 = .ok (.iaload, 1) := by decide +kernel
theorem d_MS_codeCount_29 : decode M_MS_codeCount.2.1 29 = .ok (.isub, 1) := by decide +kernel
theorem d_MS_codeCount_30 : decode M_MS_codeCount.2.1 30 = .ok (.iadd, 1) := by decide +kernel
theorem d_MS_codeCount_31 : decode M_MS_codeCount.2.1 31 = .ok (.istore_n 1, 1) := by decide +kernel
theorem d_MS_codeCount_32 : decode M_MS_codeCount.2.1 32 = .ok (.iinc 2 2, 3) := by decide +kernel
theorem d_MS_codeCount_35 : decode M_MS_codeCount.2.1 35 = .ok (.goto (-31), 3) := by decide +kernel
theorem d_MS_codeCount_38 : decode M_MS_codeCount.2.1 38 = .ok (.iload_n 1, 1) := by decide +kernel
theorem d_MS_codeCount_39 : decode M_MS_codeCount.2.1 39 = .ok (.ireturn, 1) := by decide +kernel
theorem d_MS_codeOfRank_0 : decode M_MS_codeOfRank.2.1 0 = .ok (.iload_n 1, 1) := by decide +kernel
theorem d_MS_codeOfRank_1 : decode M_MS_codeOfRank.2.1 1 = .ok (.istore_n 2, 1) := by decide +kernel
theorem d_MS_codeOfRank_2 : decode M_MS_codeOfRank.2.1 2 = .ok (.iconst 0, 1) := by decide +kernel
theorem d_MS_codeOfRank_3 : decode M_MS_codeOfRank.2.1 3 = .ok (.istore_n 3, 1) := by decide +kernel
theorem d_MS_codeOfRank_4 : decode M_MS_codeOfRank.2.1 4 = .ok (.iload_n 3, 1) := by decide +kernel
theorem d_MS_codeOfRank_5 : decode M_MS_codeOfRank.2.1 5 = .ok (.iconst 1, 1) := by decide +kernel
theorem d_MS_codeOfRank_6 : decode M_MS_codeOfRank.2.1 6 = .ok (.iadd, 1) := by decide +kernel
theorem d_MS_codeOfRank_7 : decode M_MS_codeOfRank.2.1 7 = .ok (.aload_n 0, 1) := by decide +kernel
theorem d_MS_codeOfRank_8 : decode M_MS_codeOfRank.2.1 8 = .ok (.getfield 21, 3) := by decide +kernel
theorem d_MS_codeOfRank_11 : decode M_MS_codeOfRank.2.1 11 = .ok (.if_icmp .ge 46, 3) := by decide +kernel
theorem d_MS_codeOfRank_14 : decode M_MS_codeOfRank.2.1 14 = .ok (.aload_n 0, 1) := by decide +kernel
theorem d_MS_codeOfRank_15 : decode M_MS_codeOfRank.2.1 15 = .ok (.getfield 11, 3) := by decide +kernel
theorem d_MS_codeOfRank_18 : decode M_MS_codeOfRank.2.1 18 = .ok (.iload_n 3, 1) := by decide +kernel
theorem d_MS_codeOfRank_19 : decode M_MS_codeOfRank.2.1 19 = .ok (.iconst 1, 1) := by decide +kernel
theorem d_MS_codeOfRank_20 : decode M_MS_codeOfRank.2.1 20 = .ok (.iadd, 1) := by decide +kernel
theorem d_MS_codeOfRank_21 : decode M_MS_codeOfRank.2.1 21 = .ok (.iaload, 1) := by decide +kernel
theorem d_MS_codeOfRank_22 : decode M_MS_codeOfRank.2.1 22 = .ok (.aload_n 0, 1) := by decide +kernel
theorem d_MS_codeOfRank_23 : decode M_MS_codeOfRank.2.1 23 = .ok (.getfield 11, 3) := by decide +kernel
theorem d_MS_codeOfRank_26 : decode M_MS_codeOfRank.2.1 26 = .ok (.iload_n 3, 1) := by decide +kernel
theorem d_MS_codeOfRank_27 : decode M_MS_codeOfRank.2.1 27 = .ok (.iaload, 1) := by decide +kernel
theorem d_MS_codeOfRank_28 : decode M_MS_codeOfRank.2.1 28 = .ok (.isub, 1) := by decide +kernel
theorem d_MS_codeOfRank_29 : decode M_MS_codeOfRank.2.1 29 = .ok (.istore 4, 2) := by decide +kernel
theorem d_MS_codeOfRank_31 : decode M_MS_codeOfRank.2.1 31 = .ok (.iload_n 2, 1) := by decide +kernel
theorem d_MS_codeOfRank_32 : decode M_MS_codeOfRank.2.1 32 = .ok (.iload 4, 2) := by decide +kernel
theorem d_MS_codeOfRank_34 : decode M_MS_codeOfRank.2.1 34 = .ok (.if_icmp .ge 12, 3) := by decide +kernel
theorem d_MS_codeOfRank_37 : decode M_MS_codeOfRank.2.1 37 = .ok (.aload_n 0, 1) := by decide +kernel
theorem d_MS_codeOfRank_38 : decode M_MS_codeOfRank.2.1 38 = .ok (.getfield 11, 3) := by decide +kernel
theorem d_MS_codeOfRank_41 : decode M_MS_codeOfRank.2.1 41 = .ok (.iload_n 3, 1) := by decide +kernel
theorem d_MS_codeOfRank_42 : decode M_MS_codeOfRank.2.1 42 = .ok (.iaload, 1) := by decide +kernel
theorem d_MS_codeOfRank_43 : decode M_MS_codeOfRank.2.1 43 = .ok (.iload_n 2, 1) := by decide +kernel
theorem d_MS_codeOfRank_44 : decode M_MS_codeOfRank.2.1 44 = .ok (.iadd, 1) := by decide +kernel
theorem d_MS_codeOfRank_45 : decode M_MS_codeOfRank.2.1 45 = .ok (.ireturn, 1) := by decide +kernel
theorem d_MS_codeOfRank_46 : decode M_MS_codeOfRank.2.1 46 = .ok (.iload_n 2, 1) := by decide +kernel
theorem d_MS_codeOfRank_47 : decode M_MS_codeOfRank.2.1 47 = .ok (.iload 4, 2) := by decide +kernel
theorem d_MS_codeOfRank_49 : decode M_MS_codeOfRank.2.1 49 = .ok (.isub, 1) := by decide +kernel
theorem d_MS_codeOfRank_50 : decode M_MS_codeOfRank.2.1 50 = .ok (.istore_n 2, 1) := by decide +kernel
theorem d_MS_codeOfRank_51 : decode M_MS_codeOfRank.2.1 51 = .ok (.iinc 3 2, 3) := by decide +kernel
theorem d_MS_codeOfRank_54 : decode M_MS_codeOfRank.2.1 54 = .ok (.goto (-50), 3) := by decide +kernel
theorem d_MS_codeOfRank_57 : decode M_MS_codeOfRank.2.1 57 = .ok (.iconst (-1), 1) := by decide +kernel
theorem d_MS_codeOfRank_58 : decode M_MS_codeOfRank.2.1 58 = .ok (.ireturn, 1) := by decide +kernel
