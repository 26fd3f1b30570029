/-! decode rows of PR CP: written by wip/gen/mknames.py -/
theorem d_CP_init_0 : decode M_CP_init.2.1 0 = .ok (.aload_n 0, 1) := by decide +kernel
theorem d_CP_init_1 : decode M_CP_init.2.1 1 = .ok (.invokespecial 1, 3) := by decide +kernel
theorem d_CP_init_4 : decode M_CP_init.2.1 4 = .ok (.aload_n 0, 1) := by decide +kernel
theorem d_CP_init_5 : decode M_CP_init.2.1 5 = .ok (.new 7, 3) := by decide +kernel
theorem d_CP_init_8 : decode M_CP_init.2.1 8 = .ok (.dup, 1) := by decide +kernel
theorem d_CP_init_9 : decode M_CP_init.2.1 9 = .ok (.invokespecial 9, 3) := by decide +kernel
theorem d_CP_init_12 : decode M_CP_init.2.1 12 = .ok (.putfield 10, 3) := by decide +kernel
theorem d_CP_init_15 : decode M_CP_init.2.1 15 = .ok (.aload_n 0, 1) := by decide +kernel
theorem d_CP_init_16 : decode M_CP_init.2.1 16 = .ok (.iconst 3, 1) := by decide +kernel
theorem d_CP_init_17 : decode M_CP_init.2.1 17 = .ok (.anewarray 16, 3) := by decide +kernel
theorem d_CP_init_20 : decode M_CP_init.2.1 20 = .ok (.putfield 18, 3) := by decide +kernel
theorem d_CP_init_23 : decode M_CP_init.2.1 23 = .ok (.iconst 0, 1) := by decide +kernel
theorem d_CP_init_24 : decode M_CP_init.2.1 24 = .ok (.istore_n 1, 1) := by decide +kernel
theorem d_CP_init_25 : decode M_CP_init.2.1 25 = .ok (.iload_n 1, 1) := by decide +kernel
theorem d_CP_init_26 : decode M_CP_init.2.1 26 = .ok (.iconst 3, 1) := by decide +kernel
theorem d_CP_init_27 : decode M_CP_init.2.1 27 = .ok (.if_icmp .ge 22, 3) := by decide +kernel
theorem d_CP_init_30 : decode M_CP_init.2.1 30 = .ok (.aload_n 0, 1) := by decide +kernel
theorem d_CP_init_31 : decode M_CP_init.2.1 31 = .ok (.getfield 18, 3) := by decide +kernel
theorem d_CP_init_34 : decode M_CP_init.2.1 34 = .ok (.iload_n 1, 1) := by decide +kernel
theorem d_CP_init_35 : decode M_CP_init.2.1 35 = .ok (.new 16, 3) := by decide +kernel
theorem d_CP_init_38 : decode M_CP_init.2.1 38 = .ok (.dup, 1) := by decide +kernel
theorem d_CP_init_39 : decode M_CP_init.2.1 39 = .ok (.invokespecial 22, 3) := by decide +kernel
theorem d_CP_init_42 : decode M_CP_init.2.1 42 = .ok (.aastore, 1) := by decide +kernel
theorem d_CP_init_43 : decode M_CP_init.2.1 43 = .ok (.iinc 1 1, 3) := by decide +kernel
theorem d_CP_init_46 : decode M_CP_init.2.1 46 = .ok (.goto (-21), 3) := by decide +kernel
theorem d_CP_init_49 : decode M_CP_init.2.1 49 = .ok (.aload_n 0, 1) := by decide +kernel
theorem d_CP_init_50 : decode M_CP_init.2.1 50 = .ok (.new 23, 3) := by decide +kernel
theorem d_CP_init_53 : decode M_CP_init.2.1 53 = .ok (.dup, 1) := by decide +kernel
theorem d_CP_init_54 : decode M_CP_init.2.1 54 = .ok (.invokespecial 25, 3) := by decide +kernel
theorem d_CP_init_57 : decode M_CP_init.2.1 57 = .ok (.putfield 26, 3) := by decide +kernel
theorem d_CP_init_60 : decode M_CP_init.2.1 60 = .ok (.aload_n 0, 1) := by decide +kernel
theorem d_CP_init_61 : decode M_CP_init.2.1 61 = .ok (.new 30, 3) := by decide +kernel
theorem d_CP_init_64 : decode M_CP_init.2.1 64 = .ok (.dup, 1) := by decide +kernel
theorem d_CP_init_65 : decode M_CP_init.2.1 65 = .ok (.invokespecial 32, 3) := by decide +kernel
theorem d_CP_init_68 : decode M_CP_init.2.1 68 = .ok (.putfield 33, 3) := by decide +kernel
theorem d_CP_init_71 : decode M_CP_init.2.1 71 = .ok (.aload_n 0, 1) := by decide +kernel
theorem d_CP_init_72 : decode M_CP_init.2.1 72 = .ok (.new 16, 3) := by decide +kernel
theorem d_CP_init_75 : decode M_CP_init.2.1 75 = .ok (.dup, 1) := by decide +kernel
theorem d_CP_init_76 : decode M_CP_init.2.1 76 = .ok (.invokespecial 22, 3) := by decide +kernel
theorem d_CP_init_79 : decode M_CP_init.2.1 79 = .ok (.putfield 37, 3) := by decide +kernel
theorem d_CP_init_82 : decode M_CP_init.2.1 82 = .ok (.aload_n 0, 1) := by decide +kernel
theorem d_CP_init_83 : decode M_CP_init.2.1 83 = .ok (.new 16, 3) := by decide +kernel
theorem d_CP_init_86 : decode M_CP_init.2.1 86 = .ok (.dup, 1) := by decide +kernel
theorem d_CP_init_87 : decode M_CP_init.2.1 87 = .ok (.invokespecial 22, 3) := by decide +kernel
theorem d_CP_init_90 : decode M_CP_init.2.1 90 = .ok (.putfield 41, 3) := by decide +kernel
theorem d_CP_init_93 : decode M_CP_init.2.1 93 = .ok (.return_, 1) := by decide +kernel
theorem d_CP_type_0 : decode M_CP_type.2.1 0 = .ok (.iload_n 1, 1) := by decide +kernel
theorem d_CP_type_1 : decode M_CP_type.2.1 1 = .ok (.invokestatic 44, 3) := by decide +kernel
theorem d_CP_type_4 : decode M_CP_type.2.1 4 = .ok (.ifCond .eq 18, 3) := by decide +kernel
theorem d_CP_type_7 : decode M_CP_type.2.1 7 = .ok (.aload_n 0, 1) := by decide +kernel
theorem d_CP_type_8 : decode M_CP_type.2.1 8 = .ok (.getfield 10, 3) := by decide +kernel
theorem d_CP_type_11 : decode M_CP_type.2.1 11 = .ok (.iload_n 1, 1) := by decide +kernel
theorem d_CP_type_12 : decode M_CP_type.2.1 12 = .ok (.invokevirtual 48, 3) := by decide +kernel
theorem d_CP_type_15 : decode M_CP_type.2.1 15 = .ok (.ifCond .eq 7, 3) := by decide +kernel
theorem d_CP_type_18 : decode M_CP_type.2.1 18 = .ok (.iconst 1, 1) := by decide +kernel
theorem d_CP_type_19 : decode M_CP_type.2.1 19 = .ok (.goto 4, 3) := by decide +kernel
theorem d_CP_type_22 : decode M_CP_type.2.1 22 = .ok (.iconst 0, 1) := by decide +kernel
theorem d_CP_type_23 : decode M_CP_type.2.1 23 = .ok (.ireturn, 1) := by decide +kernel
theorem d_CP_wipe_0 : decode M_CP_wipe.2.1 0 = .ok (.aload_n 0, 1) := by decide +kernel
theorem d_CP_wipe_1 : decode M_CP_wipe.2.1 1 = .ok (.getfield 10, 3) := by decide +kernel
theorem d_CP_wipe_4 : decode M_CP_wipe.2.1 4 = .ok (.invokevirtual 51, 3) := by decide +kernel
theorem d_CP_wipe_7 : decode M_CP_wipe.2.1 7 = .ok (.return_, 1) := by decide +kernel
theorem d_CP_length_0 : decode M_CP_length.2.1 0 = .ok (.aload_n 0, 1) := by decide +kernel
theorem d_CP_length_1 : decode M_CP_length.2.1 1 = .ok (.getfield 10, 3) := by decide +kernel
theorem d_CP_length_4 : decode M_CP_length.2.1 4 = .ok (.getfield 54, 3) := by decide +kernel
theorem d_CP_length_7 : decode M_CP_length.2.1 7 = .ok (.ireturn, 1) := by decide +kernel
theorem d_CP_at_0 : decode M_CP_at.2.1 0 = .ok (.aload_n 0, 1) := by decide +kernel
theorem d_CP_at_1 : decode M_CP_at.2.1 1 = .ok (.getfield 10, 3) := by decide +kernel
theorem d_CP_at_4 : decode M_CP_at.2.1 4 = .ok (.iload_n 1, 1) := by decide +kernel
theorem d_CP_at_5 : decode M_CP_at.2.1 5 = .ok (.invokevirtual 58, 3) := by decide +kernel
theorem d_CP_at_8 : decode M_CP_at.2.1 8 = .ok (.ireturn, 1) := by decide +kernel
theorem d_CP_apply_0 : decode M_CP_apply.2.1 0 = .ok (.aload_n 0, 1) := by decide +kernel
theorem d_CP_apply_1 : decode M_CP_apply.2.1 1 = .ok (.iload_n 1, 1) := by decide +kernel
theorem d_CP_apply_2 : decode M_CP_apply.2.1 2 = .ok (.invokevirtual 62, 3) := by decide +kernel
theorem d_CP_apply_5 : decode M_CP_apply.2.1 5 = .ok (.astore_n 2, 1) := by decide +kernel
theorem d_CP_apply_6 : decode M_CP_apply.2.1 6 = .ok (.aload_n 2, 1) := by decide +kernel
theorem d_CP_apply_7 : decode M_CP_apply.2.1 7 = .ok (.ifnull 30, 3) := by decide +kernel
theorem d_CP_apply_10 : decode M_CP_apply.2.1 10 = .ok (.aload_n 0, 1) := by decide +kernel
theorem d_CP_apply_11 : decode M_CP_apply.2.1 11 = .ok (.getfield 26, 3) := by decide +kernel
theorem d_CP_apply_14 : decode M_CP_apply.2.1 14 = .ok (.getfield 66, 3) := by decide +kernel
theorem d_CP_apply_17 : decode M_CP_apply.2.1 17 = .ok (.aload_n 0, 1) := by decide +kernel
theorem d_CP_apply_18 : decode M_CP_apply.2.1 18 = .ok (.getfield 10, 3) := by decide +kernel
theorem d_CP_apply_21 : decode M_CP_apply.2.1 21 = .ok (.invokevirtual 70, 3) := by decide +kernel
theorem d_CP_apply_24 : decode M_CP_apply.2.1 24 = .ok (.ifCond .eq 13, 3) := by decide +kernel
theorem d_CP_apply_27 : decode M_CP_apply.2.1 27 = .ok (.aload_n 0, 1) := by decide +kernel
theorem d_CP_apply_28 : decode M_CP_apply.2.1 28 = .ok (.getfield 26, 3) := by decide +kernel
theorem d_CP_apply_31 : decode M_CP_apply.2.1 31 = .ok (.invokevirtual 76, 3) := by decide +kernel
theorem d_CP_apply_34 : decode M_CP_apply.2.1 34 = .ok (.ifCond .ne 5, 3) := by decide +kernel
theorem d_CP_apply_37 : decode M_CP_apply.2.1 37 = .ok (.iconst 0, 1) := by decide +kernel
theorem d_CP_apply_38 : decode M_CP_apply.2.1 38 = .ok (.ireturn, 1) := by decide +kernel
theorem d_CP_apply_39 : decode M_CP_apply.2.1 39 = .ok (.aload_n 2, 1) := by decide +kernel
theorem d_CP_apply_40 : decode M_CP_apply.2.1 40 = .ok (.aload_n 0, 1) := by decide +kernel
theorem d_CP_apply_41 : decode M_CP_apply.2.1 41 = .ok (.getfield 26, 3) := by decide +kernel
theorem d_CP_apply_44 : decode M_CP_apply.2.1 44 = .ok (.getfield 80, 3) := by decide +kernel
theorem d_CP_apply_47 : decode M_CP_apply.2.1 47 = .ok (.invokevirtual 83, 3) := by decide +kernel
theorem d_CP_apply_50 : decode M_CP_apply.2.1 50 = .ok (.iconst 1, 1) := by decide +kernel
theorem d_CP_apply_51 : decode M_CP_apply.2.1 51 = .ok (.ireturn, 1) := by decide +kernel
theorem d_CP_print_0 : decode M_CP_print.2.1 0 = .ok (.aload_n 0, 1) := by decide +kernel
theorem d_CP_print_1 : decode M_CP_print.2.1 1 = .ok (.iload_n 1, 1) := by decide +kernel
theorem d_CP_print_2 : decode M_CP_print.2.1 2 = .ok (.invokevirtual 62, 3) := by decide +kernel
theorem d_CP_print_5 : decode M_CP_print.2.1 5 = .ok (.astore_n 2, 1) := by decide +kernel
theorem d_CP_print_6 : decode M_CP_print.2.1 6 = .ok (.aload_n 2, 1) := by decide +kernel
theorem d_CP_print_7 : decode M_CP_print.2.1 7 = .ok (.ifnull 14, 3) := by decide +kernel
theorem d_CP_print_10 : decode M_CP_print.2.1 10 = .ok (.aload_n 0, 1) := by decide +kernel
theorem d_CP_print_11 : decode M_CP_print.2.1 11 = .ok (.getfield 33, 3) := by decide +kernel
theorem d_CP_print_14 : decode M_CP_print.2.1 14 = .ok (.aload_n 2, 1) := by decide +kernel
theorem d_CP_print_15 : decode M_CP_print.2.1 15 = .ok (.invokevirtual 87, 3) := by decide +kernel
theorem d_CP_print_18 : decode M_CP_print.2.1 18 = .ok (.ifCond .ne 5, 3) := by decide +kernel
theorem d_CP_print_21 : decode M_CP_print.2.1 21 = .ok (.iconst (-1), 1) := by decide +kernel
theorem d_CP_print_22 : decode M_CP_print.2.1 22 = .ok (.ireturn, 1) := by decide +kernel
theorem d_CP_print_23 : decode M_CP_print.2.1 23 = .ok (.aload_n 0, 1) := by decide +kernel
theorem d_CP_print_24 : decode M_CP_print.2.1 24 = .ok (.getfield 10, 3) := by decide +kernel
theorem d_CP_print_27 : decode M_CP_print.2.1 27 = .ok (.aload_n 0, 1) := by decide +kernel
theorem d_CP_print_28 : decode M_CP_print.2.1 28 = .ok (.getfield 33, 3) := by decide +kernel
theorem d_CP_print_31 : decode M_CP_print.2.1 31 = .ok (.getfield 91, 3) := by decide +kernel
theorem d_CP_print_34 : decode M_CP_print.2.1 34 = .ok (.invokevirtual 94, 3) := by decide +kernel
theorem d_CP_print_37 : decode M_CP_print.2.1 37 = .ok (.aload_n 0, 1) := by decide +kernel
theorem d_CP_print_38 : decode M_CP_print.2.1 38 = .ok (.getfield 10, 3) := by decide +kernel
theorem d_CP_print_41 : decode M_CP_print.2.1 41 = .ok (.getfield 54, 3) := by decide +kernel
theorem d_CP_print_44 : decode M_CP_print.2.1 44 = .ok (.ireturn, 1) := by decide +kernel
theorem d_CP_combine_0 : decode M_CP_combine.2.1 0 = .ok (.aload_n 0, 1) := by decide +kernel
theorem d_CP_combine_1 : decode M_CP_combine.2.1 1 = .ok (.iload_n 1, 1) := by decide +kernel
theorem d_CP_combine_2 : decode M_CP_combine.2.1 2 = .ok (.invokevirtual 62, 3) := by decide +kernel
theorem d_CP_combine_5 : decode M_CP_combine.2.1 5 = .ok (.astore 4, 2) := by decide +kernel
theorem d_CP_combine_7 : decode M_CP_combine.2.1 7 = .ok (.aload_n 0, 1) := by decide +kernel
theorem d_CP_combine_8 : decode M_CP_combine.2.1 8 = .ok (.iload_n 2, 1) := by decide +kernel
theorem d_CP_combine_9 : decode M_CP_combine.2.1 9 = .ok (.invokevirtual 62, 3) := by decide +kernel
theorem d_CP_combine_12 : decode M_CP_combine.2.1 12 = .ok (.astore 5, 2) := by decide +kernel
theorem d_CP_combine_14 : decode M_CP_combine.2.1 14 = .ok (.aload 4, 2) := by decide +kernel
theorem d_CP_combine_16 : decode M_CP_combine.2.1 16 = .ok (.ifnull 17, 3) := by decide +kernel
theorem d_CP_combine_19 : decode M_CP_combine.2.1 19 = .ok (.aload 5, 2) := by decide +kernel
theorem d_CP_combine_21 : decode M_CP_combine.2.1 21 = .ok (.ifnull 12, 3) := by decide +kernel
theorem d_CP_combine_24 : decode M_CP_combine.2.1 24 = .ok (.iload_n 3, 1) := by decide +kernel
theorem d_CP_combine_25 : decode M_CP_combine.2.1 25 = .ok (.ifCond .lt 8, 3) := by decide +kernel
theorem d_CP_combine_28 : decode M_CP_combine.2.1 28 = .ok (.iload_n 3, 1) := by decide +kernel
theorem d_CP_combine_29 : decode M_CP_combine.2.1 29 = .ok (.iconst 3, 1) := by decide +kernel
theorem d_CP_combine_30 : decode M_CP_combine.2.1 30 = .ok (.if_icmp .le 5, 3) := by decide +kernel
theorem d_CP_combine_33 : decode M_CP_combine.2.1 33 = .ok (.iconst 0, 1) := by decide +kernel
theorem d_CP_combine_34 : decode M_CP_combine.2.1 34 = .ok (.ireturn, 1) := by decide +kernel
theorem d_CP_combine_35 : decode M_CP_combine.2.1 35 = .ok (.aload_n 0, 1) := by decide +kernel
theorem d_CP_combine_36 : decode M_CP_combine.2.1 36 = .ok (.getfield 41, 3) := by decide +kernel
theorem d_CP_combine_39 : decode M_CP_combine.2.1 39 = .ok (.aload 4, 2) := by decide +kernel
theorem d_CP_combine_41 : decode M_CP_combine.2.1 41 = .ok (.aload 5, 2) := by decide +kernel
theorem d_CP_combine_43 : decode M_CP_combine.2.1 43 = .ok (.iload_n 3, 1) := by decide +kernel
theorem d_CP_combine_44 : decode M_CP_combine.2.1 44 = .ok (.invokevirtual 97, 3) := by decide +kernel
theorem d_CP_combine_47 : decode M_CP_combine.2.1 47 = .ok (.aload_n 0, 1) := by decide +kernel
theorem d_CP_combine_48 : decode M_CP_combine.2.1 48 = .ok (.iload_n 1, 1) := by decide +kernel
theorem d_CP_combine_49 : decode M_CP_combine.2.1 49 = .ok (.invokevirtual 101, 3) := by decide +kernel
theorem d_CP_combine_52 : decode M_CP_combine.2.1 52 = .ok (.ireturn, 1) := by decide +kernel
theorem d_CP_turn_0 : decode M_CP_turn.2.1 0 = .ok (.aload_n 0, 1) := by decide +kernel
theorem d_CP_turn_1 : decode M_CP_turn.2.1 1 = .ok (.iload_n 1, 1) := by decide +kernel
theorem d_CP_turn_2 : decode M_CP_turn.2.1 2 = .ok (.invokevirtual 62, 3) := by decide +kernel
theorem d_CP_turn_5 : decode M_CP_turn.2.1 5 = .ok (.astore_n 2, 1) := by decide +kernel
theorem d_CP_turn_6 : decode M_CP_turn.2.1 6 = .ok (.aload_n 2, 1) := by decide +kernel
theorem d_CP_turn_7 : decode M_CP_turn.2.1 7 = .ok (.ifnull 10, 3) := by decide +kernel
theorem d_CP_turn_10 : decode M_CP_turn.2.1 10 = .ok (.aload_n 2, 1) := by decide +kernel
theorem d_CP_turn_11 : decode M_CP_turn.2.1 11 = .ok (.getfield 104, 3) := by decide +kernel
theorem d_CP_turn_14 : decode M_CP_turn.2.1 14 = .ok (.ifCond .le 5, 3) := by decide +kernel
theorem d_CP_turn_17 : decode M_CP_turn.2.1 17 = .ok (.iconst 0, 1) := by decide +kernel
theorem d_CP_turn_18 : decode M_CP_turn.2.1 18 = .ok (.ireturn, 1) := by decide +kernel
theorem d_CP_turn_19 : decode M_CP_turn.2.1 19 = .ok (.aload_n 0, 1) := by decide +kernel
theorem d_CP_turn_20 : decode M_CP_turn.2.1 20 = .ok (.getfield 41, 3) := by decide +kernel
theorem d_CP_turn_23 : decode M_CP_turn.2.1 23 = .ok (.aload_n 2, 1) := by decide +kernel
theorem d_CP_turn_24 : decode M_CP_turn.2.1 24 = .ok (.invokevirtual 107, 3) := by decide +kernel
theorem d_CP_turn_27 : decode M_CP_turn.2.1 27 = .ok (.aload_n 0, 1) := by decide +kernel
theorem d_CP_turn_28 : decode M_CP_turn.2.1 28 = .ok (.iload_n 1, 1) := by decide +kernel
theorem d_CP_turn_29 : decode M_CP_turn.2.1 29 = .ok (.invokevirtual 101, 3) := by decide +kernel
theorem d_CP_turn_32 : decode M_CP_turn.2.1 32 = .ok (.ireturn, 1) := by decide +kernel
theorem d_CP_close_0 : decode M_CP_close.2.1 0 = .ok (.aload_n 0, 1) := by decide +kernel
theorem d_CP_close_1 : decode M_CP_close.2.1 1 = .ok (.iload_n 1, 1) := by decide +kernel
theorem d_CP_close_2 : decode M_CP_close.2.1 2 = .ok (.invokevirtual 62, 3) := by decide +kernel
theorem d_CP_close_5 : decode M_CP_close.2.1 5 = .ok (.astore_n 2, 1) := by decide +kernel
theorem d_CP_close_6 : decode M_CP_close.2.1 6 = .ok (.aload_n 2, 1) := by decide +kernel
theorem d_CP_close_7 : decode M_CP_close.2.1 7 = .ok (.ifnonnull 5, 3) := by decide +kernel
theorem d_CP_close_10 : decode M_CP_close.2.1 10 = .ok (.iconst (-1), 1) := by decide +kernel
theorem d_CP_close_11 : decode M_CP_close.2.1 11 = .ok (.ireturn, 1) := by decide +kernel
theorem d_CP_close_12 : decode M_CP_close.2.1 12 = .ok (.aload_n 2, 1) := by decide +kernel
theorem d_CP_close_13 : decode M_CP_close.2.1 13 = .ok (.aload_n 0, 1) := by decide +kernel
theorem d_CP_close_14 : decode M_CP_close.2.1 14 = .ok (.getfield 37, 3) := by decide +kernel
theorem d_CP_close_17 : decode M_CP_close.2.1 17 = .ok (.invokestatic 110, 3) := by decide +kernel
theorem d_CP_close_20 : decode M_CP_close.2.1 20 = .ok (.aload_n 0, 1) := by decide +kernel
theorem d_CP_close_21 : decode M_CP_close.2.1 21 = .ok (.getfield 41, 3) := by decide +kernel
theorem d_CP_close_24 : decode M_CP_close.2.1 24 = .ok (.aload_n 2, 1) := by decide +kernel
theorem d_CP_close_25 : decode M_CP_close.2.1 25 = .ok (.aload_n 0, 1) := by decide +kernel
theorem d_CP_close_26 : decode M_CP_close.2.1 26 = .ok (.getfield 37, 3) := by decide +kernel
theorem d_CP_close_29 : decode M_CP_close.2.1 29 = .ok (.iconst 0, 1) := by decide +kernel
theorem d_CP_close_30 : decode M_CP_close.2.1 30 = .ok (.invokevirtual 97, 3) := by decide +kernel
theorem d_CP_close_33 : decode M_CP_close.2.1 33 = .ok (.aload_n 0, 1) := by decide +kernel
theorem d_CP_close_34 : decode M_CP_close.2.1 34 = .ok (.getfield 41, 3) := by decide +kernel
theorem d_CP_close_37 : decode M_CP_close.2.1 37 = .ok (.invokevirtual 116, 3) := by decide +kernel
theorem d_CP_close_40 : decode M_CP_close.2.1 40 = .ok (.aload_n 2, 1) := by decide +kernel
theorem d_CP_close_41 : decode M_CP_close.2.1 41 = .ok (.invokevirtual 116, 3) := by decide +kernel
theorem d_CP_close_44 : decode M_CP_close.2.1 44 = .ok (.isub, 1) := by decide +kernel
theorem d_CP_close_45 : decode M_CP_close.2.1 45 = .ok (.istore_n 3, 1) := by decide +kernel
theorem d_CP_close_46 : decode M_CP_close.2.1 46 = .ok (.aload_n 0, 1) := by decide +kernel
theorem d_CP_close_47 : decode M_CP_close.2.1 47 = .ok (.iload_n 1, 1) := by decide +kernel
theorem d_CP_close_48 : decode M_CP_close.2.1 48 = .ok (.invokevirtual 101, 3) := by decide +kernel
theorem d_CP_close_51 : decode M_CP_close.2.1 51 = .ok (.ifCond .eq 7, 3) := by decide +kernel
theorem d_CP_close_54 : decode M_CP_close.2.1 54 = .ok (.iload_n 3, 1) := by decide +kernel
theorem d_CP_close_55 : decode M_CP_close.2.1 55 = .ok (.goto 4, 3) := by decide +kernel
theorem d_CP_close_58 : decode M_CP_close.2.1 58 = .ok (.iconst (-1), 1) := by decide +kernel
theorem d_CP_close_59 : decode M_CP_close.2.1 59 = .ok (.ireturn, 1) := by decide +kernel
theorem d_CP_contains_0 : decode M_CP_contains.2.1 0 = .ok (.aload_n 0, 1) := by decide +kernel
theorem d_CP_contains_1 : decode M_CP_contains.2.1 1 = .ok (.iload_n 1, 1) := by decide +kernel
theorem d_CP_contains_2 : decode M_CP_contains.2.1 2 = .ok (.invokevirtual 62, 3) := by decide +kernel
theorem d_CP_contains_5 : decode M_CP_contains.2.1 5 = .ok (.astore_n 3, 1) := by decide +kernel
theorem d_CP_contains_6 : decode M_CP_contains.2.1 6 = .ok (.aload_n 3, 1) := by decide +kernel
theorem d_CP_contains_7 : decode M_CP_contains.2.1 7 = .ok (.ifnull 22, 3) := by decide +kernel
theorem d_CP_contains_10 : decode M_CP_contains.2.1 10 = .ok (.iload_n 2, 1) := by decide +kernel
theorem d_CP_contains_11 : decode M_CP_contains.2.1 11 = .ok (.invokestatic 44, 3) := by decide +kernel
theorem d_CP_contains_14 : decode M_CP_contains.2.1 14 = .ok (.ifCond .eq 15, 3) := by decide +kernel
theorem d_CP_contains_17 : decode M_CP_contains.2.1 17 = .ok (.aload_n 3, 1) := by decide +kernel
theorem d_CP_contains_18 : decode M_CP_contains.2.1 18 = .ok (.iload_n 2, 1) := by decide +kernel
theorem d_CP_contains_19 : decode M_CP_contains.2.1 19 = .ok (.invokevirtual 120, 3) := by decide +kernel
theorem d_CP_contains_22 : decode M_CP_contains.2.1 22 = .ok (.ifCond .eq 7, 3) := by decide +kernel
theorem d_CP_contains_25 : decode M_CP_contains.2.1 25 = .ok (.iconst 1, 1) := by decide +kernel
theorem d_CP_contains_26 : decode M_CP_contains.2.1 26 = .ok (.goto 4, 3) := by decide +kernel
theorem d_CP_contains_29 : decode M_CP_contains.2.1 29 = .ok (.iconst 0, 1) := by decide +kernel
theorem d_CP_contains_30 : decode M_CP_contains.2.1 30 = .ok (.ireturn, 1) := by decide +kernel
theorem d_CP_has_0 : decode M_CP_has.2.1 0 = .ok (.aload_n 0, 1) := by decide +kernel
theorem d_CP_has_1 : decode M_CP_has.2.1 1 = .ok (.iload_n 1, 1) := by decide +kernel
theorem d_CP_has_2 : decode M_CP_has.2.1 2 = .ok (.invokevirtual 62, 3) := by decide +kernel
theorem d_CP_has_5 : decode M_CP_has.2.1 5 = .ok (.astore_n 2, 1) := by decide +kernel
theorem d_CP_has_6 : decode M_CP_has.2.1 6 = .ok (.aload_n 2, 1) := by decide +kernel
theorem d_CP_has_7 : decode M_CP_has.2.1 7 = .ok (.ifnull 23, 3) := by decide +kernel
theorem d_CP_has_10 : decode M_CP_has.2.1 10 = .ok (.aload_n 0, 1) := by decide +kernel
theorem d_CP_has_11 : decode M_CP_has.2.1 11 = .ok (.aload_n 2, 1) := by decide +kernel
theorem d_CP_has_12 : decode M_CP_has.2.1 12 = .ok (.iconst 0, 1) := by decide +kernel
theorem d_CP_has_13 : decode M_CP_has.2.1 13 = .ok (.aload_n 0, 1) := by decide +kernel
theorem d_CP_has_14 : decode M_CP_has.2.1 14 = .ok (.getfield 10, 3) := by decide +kernel
theorem d_CP_has_17 : decode M_CP_has.2.1 17 = .ok (.getfield 54, 3) := by decide +kernel
theorem d_CP_has_20 : decode M_CP_has.2.1 20 = .ok (.invokevirtual 123, 3) := by decide +kernel
theorem d_CP_has_23 : decode M_CP_has.2.1 23 = .ok (.ifCond .eq 7, 3) := by decide +kernel
theorem d_CP_has_26 : decode M_CP_has.2.1 26 = .ok (.iconst 1, 1) := by decide +kernel
theorem d_CP_has_27 : decode M_CP_has.2.1 27 = .ok (.goto 4, 3) := by decide +kernel
theorem d_CP_has_30 : decode M_CP_has.2.1 30 = .ok (.iconst 0, 1) := by decide +kernel
theorem d_CP_has_31 : decode M_CP_has.2.1 31 = .ok (.ireturn, 1) := by decide +kernel
theorem d_CP_includes_0 : decode M_CP_includes.2.1 0 = .ok (.aload_n 0, 1) := by decide +kernel
theorem d_CP_includes_1 : decode M_CP_includes.2.1 1 = .ok (.iload_n 1, 1) := by decide +kernel
theorem d_CP_includes_2 : decode M_CP_includes.2.1 2 = .ok (.invokevirtual 62, 3) := by decide +kernel
theorem d_CP_includes_5 : decode M_CP_includes.2.1 5 = .ok (.astore_n 3, 1) := by decide +kernel
theorem d_CP_includes_6 : decode M_CP_includes.2.1 6 = .ok (.aload_n 0, 1) := by decide +kernel
theorem d_CP_includes_7 : decode M_CP_includes.2.1 7 = .ok (.iload_n 2, 1) := by decide +kernel
theorem d_CP_includes_8 : decode M_CP_includes.2.1 8 = .ok (.invokevirtual 62, 3) := by decide +kernel
theorem d_CP_includes_11 : decode M_CP_includes.2.1 11 = .ok (.astore 4, 2) := by decide +kernel
theorem d_CP_includes_13 : decode M_CP_includes.2.1 13 = .ok (.aload_n 3, 1) := by decide +kernel
theorem d_CP_includes_14 : decode M_CP_includes.2.1 14 = .ok (.ifnull 8, 3) := by decide +kernel
theorem d_CP_includes_17 : decode M_CP_includes.2.1 17 = .ok (.aload 4, 2) := by decide +kernel
theorem d_CP_includes_19 : decode M_CP_includes.2.1 19 = .ok (.ifnonnull 5, 3) := by decide +kernel
theorem d_CP_includes_22 : decode M_CP_includes.2.1 22 = .ok (.iconst 0, 1) := by decide +kernel
theorem d_CP_includes_23 : decode M_CP_includes.2.1 23 = .ok (.ireturn, 1) := by decide +kernel
theorem d_CP_includes_24 : decode M_CP_includes.2.1 24 = .ok (.aload_n 0, 1) := by decide +kernel
theorem d_CP_includes_25 : decode M_CP_includes.2.1 25 = .ok (.getfield 41, 3) := by decide +kernel
theorem d_CP_includes_28 : decode M_CP_includes.2.1 28 = .ok (.aload 4, 2) := by decide +kernel
theorem d_CP_includes_30 : decode M_CP_includes.2.1 30 = .ok (.aload_n 3, 1) := by decide +kernel
theorem d_CP_includes_31 : decode M_CP_includes.2.1 31 = .ok (.iconst 2, 1) := by decide +kernel
theorem d_CP_includes_32 : decode M_CP_includes.2.1 32 = .ok (.invokevirtual 97, 3) := by decide +kernel
theorem d_CP_includes_35 : decode M_CP_includes.2.1 35 = .ok (.aload_n 0, 1) := by decide +kernel
theorem d_CP_includes_36 : decode M_CP_includes.2.1 36 = .ok (.getfield 41, 3) := by decide +kernel
theorem d_CP_includes_39 : decode M_CP_includes.2.1 39 = .ok (.getfield 127, 3) := by decide +kernel
theorem d_CP_includes_42 : decode M_CP_includes.2.1 42 = .ok (.ifCond .ne 17, 3) := by decide +kernel
theorem d_CP_includes_45 : decode M_CP_includes.2.1 45 = .ok (.aload_n 0, 1) := by decide +kernel
theorem d_CP_includes_46 : decode M_CP_includes.2.1 46 = .ok (.getfield 41, 3) := by decide +kernel
theorem d_CP_includes_49 : decode M_CP_includes.2.1 49 = .ok (.getfield 104, 3) := by decide +kernel
theorem d_CP_includes_52 : decode M_CP_includes.2.1 52 = .ok (.ifCond .ne 7, 3) := by decide +kernel
theorem d_CP_includes_55 : decode M_CP_includes.2.1 55 = .ok (.iconst 1, 1) := by decide +kernel
theorem d_CP_includes_56 : decode M_CP_includes.2.1 56 = .ok (.goto 4, 3) := by decide +kernel
theorem d_CP_includes_59 : decode M_CP_includes.2.1 59 = .ok (.iconst 0, 1) := by decide +kernel
theorem d_CP_includes_60 : decode M_CP_includes.2.1 60 = .ok (.ireturn, 1) := by decide +kernel
theorem d_CP_size_0 : decode M_CP_size.2.1 0 = .ok (.aload_n 0, 1) := by decide +kernel
theorem d_CP_size_1 : decode M_CP_size.2.1 1 = .ok (.iload_n 1, 1) := by decide +kernel
theorem d_CP_size_2 : decode M_CP_size.2.1 2 = .ok (.invokevirtual 62, 3) := by decide +kernel
theorem d_CP_size_5 : decode M_CP_size.2.1 5 = .ok (.astore_n 2, 1) := by decide +kernel
theorem d_CP_size_6 : decode M_CP_size.2.1 6 = .ok (.aload_n 2, 1) := by decide +kernel
theorem d_CP_size_7 : decode M_CP_size.2.1 7 = .ok (.ifnonnull 7, 3) := by decide +kernel
theorem d_CP_size_10 : decode M_CP_size.2.1 10 = .ok (.iconst (-1), 1) := by decide +kernel
theorem d_CP_size_11 : decode M_CP_size.2.1 11 = .ok (.goto 7, 3) := by decide +kernel
theorem d_CP_size_14 : decode M_CP_size.2.1 14 = .ok (.aload_n 2, 1) := by decide +kernel
theorem d_CP_size_15 : decode M_CP_size.2.1 15 = .ok (.invokevirtual 116, 3) := by decide +kernel
theorem d_CP_size_18 : decode M_CP_size.2.1 18 = .ok (.ireturn, 1) := by decide +kernel
theorem d_CP_strings_0 : decode M_CP_strings.2.1 0 = .ok (.aload_n 0, 1) := by decide +kernel
theorem d_CP_strings_1 : decode M_CP_strings.2.1 1 = .ok (.iload_n 1, 1) := by decide +kernel
theorem d_CP_strings_2 : decode M_CP_strings.2.1 2 = .ok (.invokevirtual 62, 3) := by decide +kernel
theorem d_CP_strings_5 : decode M_CP_strings.2.1 5 = .ok (.astore_n 2, 1) := by decide +kernel
theorem d_CP_strings_6 : decode M_CP_strings.2.1 6 = .ok (.aload_n 2, 1) := by decide +kernel
theorem d_CP_strings_7 : decode M_CP_strings.2.1 7 = .ok (.ifnonnull 7, 3) := by decide +kernel
theorem d_CP_strings_10 : decode M_CP_strings.2.1 10 = .ok (.iconst (-1), 1) := by decide +kernel
theorem d_CP_strings_11 : decode M_CP_strings.2.1 11 = .ok (.goto 7, 3) := by decide +kernel
theorem d_CP_strings_14 : decode M_CP_strings.2.1 14 = .ok (.aload_n 2, 1) := by decide +kernel
theorem d_CP_strings_15 : decode M_CP_strings.2.1 15 = .ok (.getfield 104, 3) := by decide +kernel
theorem d_CP_strings_18 : decode M_CP_strings.2.1 18 = .ok (.ireturn, 1) := by decide +kernel
theorem d_CP_edge_0 : decode M_CP_edge.2.1 0 = .ok (.aload_n 0, 1) := by decide +kernel
theorem d_CP_edge_1 : decode M_CP_edge.2.1 1 = .ok (.iload_n 1, 1) := by decide +kernel
theorem d_CP_edge_2 : decode M_CP_edge.2.1 2 = .ok (.invokevirtual 62, 3) := by decide +kernel
theorem d_CP_edge_5 : decode M_CP_edge.2.1 5 = .ok (.astore_n 3, 1) := by decide +kernel
theorem d_CP_edge_6 : decode M_CP_edge.2.1 6 = .ok (.aload_n 3, 1) := by decide +kernel
theorem d_CP_edge_7 : decode M_CP_edge.2.1 7 = .ok (.ifnull 15, 3) := by decide +kernel
theorem d_CP_edge_10 : decode M_CP_edge.2.1 10 = .ok (.iload_n 2, 1) := by decide +kernel
theorem d_CP_edge_11 : decode M_CP_edge.2.1 11 = .ok (.ifCond .lt 11, 3) := by decide +kernel
theorem d_CP_edge_14 : decode M_CP_edge.2.1 14 = .ok (.iload_n 2, 1) := by decide +kernel
theorem d_CP_edge_15 : decode M_CP_edge.2.1 15 = .ok (.aload_n 3, 1) := by decide +kernel
theorem d_CP_edge_16 : decode M_CP_edge.2.1 16 = .ok (.getfield 127, 3) := by decide +kernel
theorem d_CP_edge_19 : decode M_CP_edge.2.1 19 = .ok (.if_icmp .lt 5, 3) := by decide +kernel
theorem d_CP_edge_22 : decode M_CP_edge.2.1 22 = .ok (.iconst (-1), 1) := by decide +kernel
theorem d_CP_edge_23 : decode M_CP_edge.2.1 23 = .ok (.ireturn, 1) := by decide +kernel
theorem d_CP_edge_24 : decode M_CP_edge.2.1 24 = .ok (.aload_n 3, 1) := by decide +kernel
theorem d_CP_edge_25 : decode M_CP_edge.2.1 25 = .ok (.getfield 130, 3) := by decide +kernel
theorem d_CP_edge_28 : decode M_CP_edge.2.1 28 = .ok (.iload_n 2, 1) := by decide +kernel
theorem d_CP_edge_29 : decode M_CP_edge.2.1 29 = .ok (.iaload, 1) := by decide +kernel
theorem d_CP_edge_30 : decode M_CP_edge.2.1 30 = .ok (.ireturn, 1) := by decide +kernel
theorem d_CP_nth_0 : decode M_CP_nth.2.1 0 = .ok (.aload_n 0, 1) := by decide +kernel
theorem d_CP_nth_1 : decode M_CP_nth.2.1 1 = .ok (.iload_n 1, 1) := by decide +kernel
theorem d_CP_nth_2 : decode M_CP_nth.2.1 2 = .ok (.invokevirtual 62, 3) := by decide +kernel
theorem d_CP_nth_5 : decode M_CP_nth.2.1 5 = .ok (.astore_n 3, 1) := by decide +kernel
theorem d_CP_nth_6 : decode M_CP_nth.2.1 6 = .ok (.aload_n 3, 1) := by decide +kernel
theorem d_CP_nth_7 : decode M_CP_nth.2.1 7 = .ok (.ifnull 7, 3) := by decide +kernel
theorem d_CP_nth_10 : decode M_CP_nth.2.1 10 = .ok (.iload_n 2, 1) := by decide +kernel
theorem d_CP_nth_11 : decode M_CP_nth.2.1 11 = .ok (.ifCond .ge 7, 3) := by decide +kernel
theorem d_CP_nth_14 : decode M_CP_nth.2.1 14 = .ok (.iconst (-1), 1) := by decide +kernel
theorem d_CP_nth_15 : decode M_CP_nth.2.1 15 = .ok (.goto 8, 3) := by decide +kernel
theorem d_CP_nth_18 : decode M_CP_nth.2.1 18 = .ok (.aload_n 3, 1) := by decide +kernel
theorem d_CP_nth_19 : decode M_CP_nth.2.1 19 = .ok (.iload_n 2, 1) := by decide +kernel
theorem d_CP_nth_20 : decode M_CP_nth.2.1 20 = .ok (.invokevirtual 134, 3) := by decide +kernel
theorem d_CP_nth_23 : decode M_CP_nth.2.1 23 = .ok (.ireturn, 1) := by decide +kernel
theorem d_CP_span_0 : decode M_CP_span.2.1 0 = .ok (.aload_n 0, 1) := by decide +kernel
theorem d_CP_span_1 : decode M_CP_span.2.1 1 = .ok (.iload_n 1, 1) := by decide +kernel
theorem d_CP_span_2 : decode M_CP_span.2.1 2 = .ok (.invokevirtual 62, 3) := by decide +kernel
theorem d_CP_span_5 : decode M_CP_span.2.1 5 = .ok (.astore 4, 2) := by decide +kernel
theorem d_CP_span_7 : decode M_CP_span.2.1 7 = .ok (.aload 4, 2) := by decide +kernel
theorem d_CP_span_9 : decode M_CP_span.2.1 9 = .ok (.ifnull 18, 3) := by decide +kernel
theorem d_CP_span_12 : decode M_CP_span.2.1 12 = .ok (.iload_n 2, 1) := by decide +kernel
theorem d_CP_span_13 : decode M_CP_span.2.1 13 = .ok (.ifCond .lt 14, 3) := by decide +kernel
theorem d_CP_span_16 : decode M_CP_span.2.1 16 = .ok (.iload_n 2, 1) := by decide +kernel
theorem d_CP_span_17 : decode M_CP_span.2.1 17 = .ok (.aload_n 0, 1) := by decide +kernel
theorem d_CP_span_18 : decode M_CP_span.2.1 18 = .ok (.getfield 10, 3) := by decide +kernel
theorem d_CP_span_21 : decode M_CP_span.2.1 21 = .ok (.getfield 54, 3) := by decide +kernel
theorem d_CP_span_24 : decode M_CP_span.2.1 24 = .ok (.if_icmp .le 5, 3) := by decide +kernel
theorem d_CP_span_27 : decode M_CP_span.2.1 27 = .ok (.iconst (-1), 1) := by decide +kernel
theorem d_CP_span_28 : decode M_CP_span.2.1 28 = .ok (.ireturn, 1) := by decide +kernel
theorem d_CP_span_29 : decode M_CP_span.2.1 29 = .ok (.iload_n 3, 1) := by decide +kernel
theorem d_CP_span_30 : decode M_CP_span.2.1 30 = .ok (.ifCond .eq 13, 3) := by decide +kernel
theorem d_CP_span_33 : decode M_CP_span.2.1 33 = .ok (.aload_n 0, 1) := by decide +kernel
theorem d_CP_span_34 : decode M_CP_span.2.1 34 = .ok (.aload 4, 2) := by decide +kernel
theorem d_CP_span_36 : decode M_CP_span.2.1 36 = .ok (.iload_n 2, 1) := by decide +kernel
theorem d_CP_span_37 : decode M_CP_span.2.1 37 = .ok (.invokevirtual 137, 3) := by decide +kernel
theorem d_CP_span_40 : decode M_CP_span.2.1 40 = .ok (.goto 10, 3) := by decide +kernel
theorem d_CP_span_43 : decode M_CP_span.2.1 43 = .ok (.aload_n 0, 1) := by decide +kernel
theorem d_CP_span_44 : decode M_CP_span.2.1 44 = .ok (.aload 4, 2) := by decide +kernel
theorem d_CP_span_46 : decode M_CP_span.2.1 46 = .ok (.iload_n 2, 1) := by decide +kernel
theorem d_CP_span_47 : decode M_CP_span.2.1 47 = .ok (.invokevirtual 141, 3) := by decide +kernel
theorem d_CP_span_50 : decode M_CP_span.2.1 50 = .ok (.ireturn, 1) := by decide +kernel
theorem d_CP_endOfMembers_0 : decode M_CP_endOfMembers.2.1 0 = .ok (.lconst 1, 1) := by decide +kernel
theorem d_CP_endOfMembers_1 : decode M_CP_endOfMembers.2.1 1 = .ok (.iload_n 2, 1) := by decide +kernel
theorem d_CP_endOfMembers_2 : decode M_CP_endOfMembers.2.1 2 = .ok (.lshl, 1) := by decide +kernel
theorem d_CP_endOfMembers_3 : decode M_CP_endOfMembers.2.1 3 = .ok (.lstore_n 3, 1) := by decide +kernel
theorem d_CP_endOfMembers_4 : decode M_CP_endOfMembers.2.1 4 = .ok (.iload_n 2, 1) := by decide +kernel
theorem d_CP_endOfMembers_5 : decode M_CP_endOfMembers.2.1 5 = .ok (.istore 5, 2) := by decide +kernel
theorem d_CP_endOfMembers_7 : decode M_CP_endOfMembers.2.1 7 = .ok (.iload_n 2, 1) := by decide +kernel
theorem d_CP_endOfMembers_8 : decode M_CP_endOfMembers.2.1 8 = .ok (.istore 6, 2) := by decide +kernel
theorem d_CP_endOfMembers_10 : decode M_CP_endOfMembers.2.1 10 = .ok (.iload 6, 2) := by decide +kernel
theorem d_CP_endOfMembers_12 : decode M_CP_endOfMembers.2.1 12 = .ok (.aload_n 0, 1) := by decide +kernel
theorem d_CP_endOfMembers_13 : decode M_CP_endOfMembers.2.1 13 = .ok (.getfield 10, 3) := by decide +kernel
theorem d_CP_endOfMembers_16 : decode M_CP_endOfMembers.2.1 16 = .ok (.getfield 54, 3) := by decide +kernel
theorem d_CP_endOfMembers_19 : decode M_CP_endOfMembers.2.1 19 = .ok (.if_icmp .gt 64, 3) := by decide +kernel
theorem d_CP_endOfMembers_22 : decode M_CP_endOfMembers.2.1 22 = .ok (.lload_n 3, 1) := by decide +kernel
theorem d_CP_endOfMembers_23 : decode M_CP_endOfMembers.2.1 23 = .ok (.iload 6, 2) := by decide +kernel
theorem d_CP_endOfMembers_25 : decode M_CP_endOfMembers.2.1 25 = .ok (.lshr, 1) := by decide +kernel
theorem d_CP_endOfMembers_26 : decode M_CP_endOfMembers.2.1 26 = .ok (.lconst 1, 1) := by decide +kernel
theorem d_CP_endOfMembers_27 : decode M_CP_endOfMembers.2.1 27 = .ok (.land, 1) := by decide +kernel
theorem d_CP_endOfMembers_28 : decode M_CP_endOfMembers.2.1 28 = .ok (.lconst 0, 1) := by decide +kernel
theorem d_CP_endOfMembers_29 : decode M_CP_endOfMembers.2.1 29 = .ok (.lcmp, 1) := by decide +kernel
theorem d_CP_endOfMembers_30 : decode M_CP_endOfMembers.2.1 30 = .ok (.ifCond .ne 6, 3) := by decide +kernel
theorem d_CP_endOfMembers_33 : decode M_CP_endOfMembers.2.1 33 = .ok (.goto 44, 3) := by decide +kernel
theorem d_CP_endOfMembers_36 : decode M_CP_endOfMembers.2.1 36 = .ok (.iload 6, 2) := by decide +kernel
theorem d_CP_endOfMembers_38 : decode M_CP_endOfMembers.2.1 38 = .ok (.istore 5, 2) := by decide +kernel
theorem d_CP_endOfMembers_40 : decode M_CP_endOfMembers.2.1 40 = .ok (.iconst 1, 1) := by decide +kernel
theorem d_CP_endOfMembers_41 : decode M_CP_endOfMembers.2.1 41 = .ok (.istore 7, 2) := by decide +kernel
theorem d_CP_endOfMembers_43 : decode M_CP_endOfMembers.2.1 43 = .ok (.iload 7, 2) := by decide +kernel
theorem d_CP_endOfMembers_45 : decode M_CP_endOfMembers.2.1 45 = .ok (.iconst 3, 1) := by decide +kernel
theorem d_CP_endOfMembers_46 : decode M_CP_endOfMembers.2.1 46 = .ok (.if_icmp .gt 31, 3) := by decide +kernel
theorem d_CP_endOfMembers_49 : decode M_CP_endOfMembers.2.1 49 = .ok (.aload_n 0, 1) := by decide +kernel
theorem d_CP_endOfMembers_50 : decode M_CP_endOfMembers.2.1 50 = .ok (.aload_n 1, 1) := by decide +kernel
theorem d_CP_endOfMembers_51 : decode M_CP_endOfMembers.2.1 51 = .ok (.iload 6, 2) := by decide +kernel
theorem d_CP_endOfMembers_53 : decode M_CP_endOfMembers.2.1 53 = .ok (.iload 7, 2) := by decide +kernel
theorem d_CP_endOfMembers_55 : decode M_CP_endOfMembers.2.1 55 = .ok (.invokevirtual 123, 3) := by decide +kernel
theorem d_CP_endOfMembers_58 : decode M_CP_endOfMembers.2.1 58 = .ok (.ifCond .eq 13, 3) := by decide +kernel
theorem d_CP_endOfMembers_61 : decode M_CP_endOfMembers.2.1 61 = .ok (.lload_n 3, 1) := by decide +kernel
theorem d_CP_endOfMembers_62 : decode M_CP_endOfMembers.2.1 62 = .ok (.lconst 1, 1) := by decide +kernel
theorem d_CP_endOfMembers_63 : decode M_CP_endOfMembers.2.1 63 = .ok (.iload 6, 2) := by decide +kernel
theorem d_CP_endOfMembers_65 : decode M_CP_endOfMembers.2.1 65 = .ok (.iload 7, 2) := by decide +kernel
theorem d_CP_endOfMembers_67 : decode M_CP_endOfMembers.2.1 67 = .ok (.iadd, 1) := by decide +kernel
theorem d_CP_endOfMembers_68 : decode M_CP_endOfMembers.2.1 68 = .ok (.lshl, 1) := by decide +kernel
theorem d_CP_endOfMembers_69 : decode M_CP_endOfMembers.2.1 69 = .ok (.lor, 1) := by decide +kernel
theorem d_CP_endOfMembers_70 : decode M_CP_endOfMembers.2.1 70 = .ok (.lstore_n 3, 1) := by decide +kernel
theorem d_CP_endOfMembers_71 : decode M_CP_endOfMembers.2.1 71 = .ok (.iinc 7 1, 3) := by decide +kernel
theorem d_CP_endOfMembers_74 : decode M_CP_endOfMembers.2.1 74 = .ok (.goto (-31), 3) := by decide +kernel
theorem d_CP_endOfMembers_77 : decode M_CP_endOfMembers.2.1 77 = .ok (.iinc 6 1, 3) := by decide +kernel
theorem d_CP_endOfMembers_80 : decode M_CP_endOfMembers.2.1 80 = .ok (.goto (-70), 3) := by decide +kernel
theorem d_CP_endOfMembers_83 : decode M_CP_endOfMembers.2.1 83 = .ok (.iload 5, 2) := by decide +kernel
theorem d_CP_endOfMembers_85 : decode M_CP_endOfMembers.2.1 85 = .ok (.ireturn, 1) := by decide +kernel
theorem d_CP_beginOfMember_0 : decode M_CP_beginOfMember.2.1 0 = .ok (.iload_n 2, 1) := by decide +kernel
theorem d_CP_beginOfMember_1 : decode M_CP_beginOfMember.2.1 1 = .ok (.istore_n 3, 1) := by decide +kernel
theorem d_CP_beginOfMember_2 : decode M_CP_beginOfMember.2.1 2 = .ok (.iload_n 3, 1) := by decide +kernel
theorem d_CP_beginOfMember_3 : decode M_CP_beginOfMember.2.1 3 = .ok (.aload_n 0, 1) := by decide +kernel
theorem d_CP_beginOfMember_4 : decode M_CP_beginOfMember.2.1 4 = .ok (.getfield 10, 3) := by decide +kernel
theorem d_CP_beginOfMember_7 : decode M_CP_beginOfMember.2.1 7 = .ok (.getfield 54, 3) := by decide +kernel
theorem d_CP_beginOfMember_10 : decode M_CP_beginOfMember.2.1 10 = .ok (.if_icmp .ge 37, 3) := by decide +kernel
theorem d_CP_beginOfMember_13 : decode M_CP_beginOfMember.2.1 13 = .ok (.iconst 1, 1) := by decide +kernel
theorem d_CP_beginOfMember_14 : decode M_CP_beginOfMember.2.1 14 = .ok (.istore 4, 2) := by decide +kernel
theorem d_CP_beginOfMember_16 : decode M_CP_beginOfMember.2.1 16 = .ok (.iload 4, 2) := by decide +kernel
theorem d_CP_beginOfMember_18 : decode M_CP_beginOfMember.2.1 18 = .ok (.iconst 3, 1) := by decide +kernel
theorem d_CP_beginOfMember_19 : decode M_CP_beginOfMember.2.1 19 = .ok (.if_icmp .gt 22, 3) := by decide +kernel
theorem d_CP_beginOfMember_22 : decode M_CP_beginOfMember.2.1 22 = .ok (.aload_n 0, 1) := by decide +kernel
theorem d_CP_beginOfMember_23 : decode M_CP_beginOfMember.2.1 23 = .ok (.aload_n 1, 1) := by decide +kernel
theorem d_CP_beginOfMember_24 : decode M_CP_beginOfMember.2.1 24 = .ok (.iload_n 3, 1) := by decide +kernel
theorem d_CP_beginOfMember_25 : decode M_CP_beginOfMember.2.1 25 = .ok (.iload 4, 2) := by decide +kernel
theorem d_CP_beginOfMember_27 : decode M_CP_beginOfMember.2.1 27 = .ok (.invokevirtual 123, 3) := by decide +kernel
theorem d_CP_beginOfMember_30 : decode M_CP_beginOfMember.2.1 30 = .ok (.ifCond .eq 5, 3) := by decide +kernel
theorem d_CP_beginOfMember_33 : decode M_CP_beginOfMember.2.1 33 = .ok (.iload_n 3, 1) := by decide +kernel
theorem d_CP_beginOfMember_34 : decode M_CP_beginOfMember.2.1 34 = .ok (.ireturn, 1) := by decide +kernel
theorem d_CP_beginOfMember_35 : decode M_CP_beginOfMember.2.1 35 = .ok (.iinc 4 1, 3) := by decide +kernel
theorem d_CP_beginOfMember_38 : decode M_CP_beginOfMember.2.1 38 = .ok (.goto (-22), 3) := by decide +kernel
theorem d_CP_beginOfMember_41 : decode M_CP_beginOfMember.2.1 41 = .ok (.iinc 3 1, 3) := by decide +kernel
theorem d_CP_beginOfMember_44 : decode M_CP_beginOfMember.2.1 44 = .ok (.goto (-42), 3) := by decide +kernel
theorem d_CP_beginOfMember_47 : decode M_CP_beginOfMember.2.1 47 = .ok (.aload_n 0, 1) := by decide +kernel
theorem d_CP_beginOfMember_48 : decode M_CP_beginOfMember.2.1 48 = .ok (.getfield 10, 3) := by decide +kernel
theorem d_CP_beginOfMember_51 : decode M_CP_beginOfMember.2.1 51 = .ok (.getfield 54, 3) := by decide +kernel
theorem d_CP_beginOfMember_54 : decode M_CP_beginOfMember.2.1 54 = .ok (.ireturn, 1) := by decide +kernel
theorem d_CP_textIsMember_0 : decode M_CP_textIsMember.2.1 0 = .ok (.iload_n 3, 1) := by decide +kernel
theorem d_CP_textIsMember_1 : decode M_CP_textIsMember.2.1 1 = .ok (.iconst 1, 1) := by decide +kernel
theorem d_CP_textIsMember_2 : decode M_CP_textIsMember.2.1 2 = .ok (.if_icmp .lt 21, 3) := by decide +kernel
theorem d_CP_textIsMember_5 : decode M_CP_textIsMember.2.1 5 = .ok (.iload_n 3, 1) := by decide +kernel
theorem d_CP_textIsMember_6 : decode M_CP_textIsMember.2.1 6 = .ok (.iconst 3, 1) := by decide +kernel
theorem d_CP_textIsMember_7 : decode M_CP_textIsMember.2.1 7 = .ok (.if_icmp .gt 16, 3) := by decide +kernel
theorem d_CP_textIsMember_10 : decode M_CP_textIsMember.2.1 10 = .ok (.iload_n 2, 1) := by decide +kernel
theorem d_CP_textIsMember_11 : decode M_CP_textIsMember.2.1 11 = .ok (.iload_n 3, 1) := by decide +kernel
theorem d_CP_textIsMember_12 : decode M_CP_textIsMember.2.1 12 = .ok (.iadd, 1) := by decide +kernel
theorem d_CP_textIsMember_13 : decode M_CP_textIsMember.2.1 13 = .ok (.aload_n 0, 1) := by decide +kernel
theorem d_CP_textIsMember_14 : decode M_CP_textIsMember.2.1 14 = .ok (.getfield 10, 3) := by decide +kernel
theorem d_CP_textIsMember_17 : decode M_CP_textIsMember.2.1 17 = .ok (.getfield 54, 3) := by decide +kernel
theorem d_CP_textIsMember_20 : decode M_CP_textIsMember.2.1 20 = .ok (.if_icmp .le 5, 3) := by decide +kernel
theorem d_CP_textIsMember_23 : decode M_CP_textIsMember.2.1 23 = .ok (.iconst 0, 1) := by decide +kernel
theorem d_CP_textIsMember_24 : decode M_CP_textIsMember.2.1 24 = .ok (.ireturn, 1) := by decide +kernel
theorem d_CP_textIsMember_25 : decode M_CP_textIsMember.2.1 25 = .ok (.aload_n 0, 1) := by decide +kernel
theorem d_CP_textIsMember_26 : decode M_CP_textIsMember.2.1 26 = .ok (.getfield 10, 3) := by decide +kernel
theorem d_CP_textIsMember_29 : decode M_CP_textIsMember.2.1 29 = .ok (.iload_n 2, 1) := by decide +kernel
theorem d_CP_textIsMember_30 : decode M_CP_textIsMember.2.1 30 = .ok (.invokevirtual 58, 3) := by decide +kernel
theorem d_CP_textIsMember_33 : decode M_CP_textIsMember.2.1 33 = .ok (.istore 4, 2) := by decide +kernel
theorem d_CP_textIsMember_35 : decode M_CP_textIsMember.2.1 35 = .ok (.iload_n 3, 1) := by decide +kernel
theorem d_CP_textIsMember_36 : decode M_CP_textIsMember.2.1 36 = .ok (.iconst 1, 1) := by decide +kernel
theorem d_CP_textIsMember_37 : decode M_CP_textIsMember.2.1 37 = .ok (.if_icmp .ne 10, 3) := by decide +kernel
theorem d_CP_textIsMember_40 : decode M_CP_textIsMember.2.1 40 = .ok (.aload_n 1, 1) := by decide +kernel
theorem d_CP_textIsMember_41 : decode M_CP_textIsMember.2.1 41 = .ok (.iload 4, 2) := by decide +kernel
theorem d_CP_textIsMember_43 : decode M_CP_textIsMember.2.1 43 = .ok (.invokevirtual 120, 3) := by decide +kernel
theorem d_CP_textIsMember_46 : decode M_CP_textIsMember.2.1 46 = .ok (.ireturn, 1) := by decide +kernel
theorem d_CP_textIsMember_47 : decode M_CP_textIsMember.2.1 47 = .ok (.iload_n 3, 1) := by decide +kernel
theorem d_CP_textIsMember_48 : decode M_CP_textIsMember.2.1 48 = .ok (.iconst 3, 1) := by decide +kernel
theorem d_CP_textIsMember_49 : decode M_CP_textIsMember.2.1 49 = .ok (.if_icmp .ne 16, 3) := by decide +kernel
theorem d_CP_textIsMember_52 : decode M_CP_textIsMember.2.1 52 = .ok (.aload_n 0, 1) := by decide +kernel
theorem d_CP_textIsMember_53 : decode M_CP_textIsMember.2.1 53 = .ok (.getfield 10, 3) := by decide +kernel
theorem d_CP_textIsMember_56 : decode M_CP_textIsMember.2.1 56 = .ok (.iload_n 2, 1) := by decide +kernel
theorem d_CP_textIsMember_57 : decode M_CP_textIsMember.2.1 57 = .ok (.iconst 2, 1) := by decide +kernel
theorem d_CP_textIsMember_58 : decode M_CP_textIsMember.2.1 58 = .ok (.iadd, 1) := by decide +kernel
theorem d_CP_textIsMember_59 : decode M_CP_textIsMember.2.1 59 = .ok (.invokevirtual 58, 3) := by decide +kernel
theorem d_CP_textIsMember_62 : decode M_CP_textIsMember.2.1 62 = .ok (.goto 4, 3) := by decide +kernel
theorem d_CP_textIsMember_65 : decode M_CP_textIsMember.2.1 65 = .ok (.iconst (-1), 1) := by decide +kernel
theorem d_CP_textIsMember_66 : decode M_CP_textIsMember.2.1 66 = .ok (.istore 5, 2) := by decide +kernel
theorem d_CP_textIsMember_68 : decode M_CP_textIsMember.2.1 68 = .ok (.aload_n 1, 1) := by decide +kernel
theorem d_CP_textIsMember_69 : decode M_CP_textIsMember.2.1 69 = .ok (.iload 4, 2) := by decide +kernel
theorem d_CP_textIsMember_71 : decode M_CP_textIsMember.2.1 71 = .ok (.aload_n 0, 1) := by decide +kernel
theorem d_CP_textIsMember_72 : decode M_CP_textIsMember.2.1 72 = .ok (.getfield 10, 3) := by decide +kernel
theorem d_CP_textIsMember_75 : decode M_CP_textIsMember.2.1 75 = .ok (.iload_n 2, 1) := by decide +kernel
theorem d_CP_textIsMember_76 : decode M_CP_textIsMember.2.1 76 = .ok (.iconst 1, 1) := by decide +kernel
theorem d_CP_textIsMember_77 : decode M_CP_textIsMember.2.1 77 = .ok (.iadd, 1) := by decide +kernel
theorem d_CP_textIsMember_78 : decode M_CP_textIsMember.2.1 78 = .ok (.invokevirtual 58, 3) := by decide +kernel
theorem d_CP_textIsMember_81 : decode M_CP_textIsMember.2.1 81 = .ok (.iload 5, 2) := by decide +kernel
theorem d_CP_textIsMember_83 : decode M_CP_textIsMember.2.1 83 = .ok (.invokestatic 144, 3) := by decide +kernel
theorem d_CP_textIsMember_86 : decode M_CP_textIsMember.2.1 86 = .ok (.invokevirtual 148, 3) := by decide +kernel
theorem d_CP_textIsMember_89 : decode M_CP_textIsMember.2.1 89 = .ok (.ireturn, 1) := by decide +kernel
theorem d_CP_registerAt_0 : decode M_CP_registerAt.2.1 0 = .ok (.iload_n 1, 1) := by decide +kernel
theorem d_CP_registerAt_1 : decode M_CP_registerAt.2.1 1 = .ok (.ifCond .lt 17, 3) := by decide +kernel
theorem d_CP_registerAt_4 : decode M_CP_registerAt.2.1 4 = .ok (.iload_n 1, 1) := by decide +kernel
theorem d_CP_registerAt_5 : decode M_CP_registerAt.2.1 5 = .ok (.iconst 3, 1) := by decide +kernel
theorem d_CP_registerAt_6 : decode M_CP_registerAt.2.1 6 = .ok (.if_icmp .ge 12, 3) := by decide +kernel
theorem d_CP_registerAt_9 : decode M_CP_registerAt.2.1 9 = .ok (.aload_n 0, 1) := by decide +kernel
theorem d_CP_registerAt_10 : decode M_CP_registerAt.2.1 10 = .ok (.getfield 18, 3) := by decide +kernel
theorem d_CP_registerAt_13 : decode M_CP_registerAt.2.1 13 = .ok (.iload_n 1, 1) := by decide +kernel
theorem d_CP_registerAt_14 : decode M_CP_registerAt.2.1 14 = .ok (.aaload, 1) := by decide +kernel
theorem d_CP_registerAt_15 : decode M_CP_registerAt.2.1 15 = .ok (.goto 4, 3) := by decide +kernel
theorem d_CP_registerAt_18 : decode M_CP_registerAt.2.1 18 = .ok (.aconst_null, 1) := by decide +kernel
theorem d_CP_registerAt_19 : decode M_CP_registerAt.2.1 19 = .ok (.areturn, 1) := by decide +kernel
theorem d_CP_keepSpare_0 : decode M_CP_keepSpare.2.1 0 = .ok (.aload_n 0, 1) := by decide +kernel
theorem d_CP_keepSpare_1 : decode M_CP_keepSpare.2.1 1 = .ok (.getfield 41, 3) := by decide +kernel
theorem d_CP_keepSpare_4 : decode M_CP_keepSpare.2.1 4 = .ok (.getfield 127, 3) := by decide +kernel
theorem d_CP_keepSpare_7 : decode M_CP_keepSpare.2.1 7 = .ok (.sipush 200, 3) := by decide +kernel
theorem d_CP_keepSpare_10 : decode M_CP_keepSpare.2.1 10 = .ok (.if_icmp .gt 15, 3) := by decide +kernel
theorem d_CP_keepSpare_13 : decode M_CP_keepSpare.2.1 13 = .ok (.aload_n 0, 1) := by decide +kernel
theorem d_CP_keepSpare_14 : decode M_CP_keepSpare.2.1 14 = .ok (.getfield 41, 3) := by decide +kernel
theorem d_CP_keepSpare_17 : decode M_CP_keepSpare.2.1 17 = .ok (.getfield 104, 3) := by decide +kernel
theorem d_CP_keepSpare_20 : decode M_CP_keepSpare.2.1 20 = .ok (.bipush 8, 2) := by decide +kernel
theorem d_CP_keepSpare_22 : decode M_CP_keepSpare.2.1 22 = .ok (.if_icmp .le 5, 3) := by decide +kernel
theorem d_CP_keepSpare_25 : decode M_CP_keepSpare.2.1 25 = .ok (.iconst 0, 1) := by decide +kernel
theorem d_CP_keepSpare_26 : decode M_CP_keepSpare.2.1 26 = .ok (.ireturn, 1) := by decide +kernel
theorem d_CP_keepSpare_27 : decode M_CP_keepSpare.2.1 27 = .ok (.aload_n 0, 1) := by decide +kernel
theorem d_CP_keepSpare_28 : decode M_CP_keepSpare.2.1 28 = .ok (.getfield 18, 3) := by decide +kernel
theorem d_CP_keepSpare_31 : decode M_CP_keepSpare.2.1 31 = .ok (.iload_n 1, 1) := by decide +kernel
theorem d_CP_keepSpare_32 : decode M_CP_keepSpare.2.1 32 = .ok (.aaload, 1) := by decide +kernel
theorem d_CP_keepSpare_33 : decode M_CP_keepSpare.2.1 33 = .ok (.astore_n 2, 1) := by decide +kernel
theorem d_CP_keepSpare_34 : decode M_CP_keepSpare.2.1 34 = .ok (.aload_n 0, 1) := by decide +kernel
theorem d_CP_keepSpare_35 : decode M_CP_keepSpare.2.1 35 = .ok (.getfield 18, 3) := by decide +kernel
theorem d_CP_keepSpare_38 : decode M_CP_keepSpare.2.1 38 = .ok (.iload_n 1, 1) := by decide +kernel
theorem d_CP_keepSpare_39 : decode M_CP_keepSpare.2.1 39 = .ok (.aload_n 0, 1) := by decide +kernel
theorem d_CP_keepSpare_40 : decode M_CP_keepSpare.2.1 40 = .ok (.getfield 41, 3) := by decide +kernel
theorem d_CP_keepSpare_43 : decode M_CP_keepSpare.2.1 43 = .ok (.aastore, 1) := by decide +kernel
theorem d_CP_keepSpare_44 : decode M_CP_keepSpare.2.1 44 = .ok (.aload_n 0, 1) := by decide +kernel
theorem d_CP_keepSpare_45 : decode M_CP_keepSpare.2.1 45 = .ok (.aload_n 2, 1) := by decide +kernel
theorem d_CP_keepSpare_46 : decode M_CP_keepSpare.2.1 46 = .ok (.putfield 41, 3) := by decide +kernel
theorem d_CP_keepSpare_49 : decode M_CP_keepSpare.2.1 49 = .ok (.iconst 1, 1) := by decide +kernel
theorem d_CP_keepSpare_50 : decode M_CP_keepSpare.2.1 50 = .ok (.ireturn, 1) := by decide +kernel
theorem d_CP_isCodePoint_0 : decode M_CP_isCodePoint.2.1 0 = .ok (.iload_n 0, 1) := by decide +kernel
theorem d_CP_isCodePoint_1 : decode M_CP_isCodePoint.2.1 1 = .ok (.ifCond .lt 13, 3) := by decide +kernel
theorem d_CP_isCodePoint_4 : decode M_CP_isCodePoint.2.1 4 = .ok (.iload_n 0, 1) := by decide +kernel
theorem d_CP_isCodePoint_5 : decode M_CP_isCodePoint.2.1 5 = .ok (.ldc 152, 2) := by decide +kernel
theorem d_CP_isCodePoint_7 : decode M_CP_isCodePoint.2.1 7 = .ok (.if_icmp .ge 7, 3) := by decide +kernel
theorem d_CP_isCodePoint_10 : decode M_CP_isCodePoint.2.1 10 = .ok (.iconst 1, 1) := by decide +kernel
theorem d_CP_isCodePoint_11 : decode M_CP_isCodePoint.2.1 11 = .ok (.goto 4, 3) := by decide +kernel
theorem d_CP_isCodePoint_14 : decode M_CP_isCodePoint.2.1 14 = .ok (.iconst 0, 1) := by decide +kernel
theorem d_CP_isCodePoint_15 : decode M_CP_isCodePoint.2.1 15 = .ok (.ireturn, 1) := by decide +kernel
theorem d_PR_init_0 : decode M_PR_init.2.1 0 = .ok (.aload_n 0, 1) := by decide +kernel
theorem d_PR_init_1 : decode M_PR_init.2.1 1 = .ok (.invokespecial 3, 3) := by decide +kernel
theorem d_PR_init_4 : decode M_PR_init.2.1 4 = .ok (.aload_n 0, 1) := by decide +kernel
theorem d_PR_init_5 : decode M_PR_init.2.1 5 = .ok (.new 9, 3) := by decide +kernel
theorem d_PR_init_8 : decode M_PR_init.2.1 8 = .ok (.dup, 1) := by decide +kernel
theorem d_PR_init_9 : decode M_PR_init.2.1 9 = .ok (.invokespecial 11, 3) := by decide +kernel
theorem d_PR_init_12 : decode M_PR_init.2.1 12 = .ok (.putfield 12, 3) := by decide +kernel
theorem d_PR_init_15 : decode M_PR_init.2.1 15 = .ok (.aload_n 0, 1) := by decide +kernel
theorem d_PR_init_16 : decode M_PR_init.2.1 16 = .ok (.iconst 5, 1) := by decide +kernel
theorem d_PR_init_17 : decode M_PR_init.2.1 17 = .ok (.anewarray 18, 3) := by decide +kernel
theorem d_PR_init_20 : decode M_PR_init.2.1 20 = .ok (.putfield 20, 3) := by decide +kernel
theorem d_PR_init_23 : decode M_PR_init.2.1 23 = .ok (.aload_n 0, 1) := by decide +kernel
theorem d_PR_init_24 : decode M_PR_init.2.1 24 = .ok (.new 24, 3) := by decide +kernel
theorem d_PR_init_27 : decode M_PR_init.2.1 27 = .ok (.dup, 1) := by decide +kernel
theorem d_PR_init_28 : decode M_PR_init.2.1 28 = .ok (.invokespecial 26, 3) := by decide +kernel
theorem d_PR_init_31 : decode M_PR_init.2.1 31 = .ok (.putfield 27, 3) := by decide +kernel
theorem d_PR_init_34 : decode M_PR_init.2.1 34 = .ok (.aload_n 0, 1) := by decide +kernel
theorem d_PR_init_35 : decode M_PR_init.2.1 35 = .ok (.new 24, 3) := by decide +kernel
theorem d_PR_init_38 : decode M_PR_init.2.1 38 = .ok (.dup, 1) := by decide +kernel
theorem d_PR_init_39 : decode M_PR_init.2.1 39 = .ok (.invokespecial 26, 3) := by decide +kernel
theorem d_PR_init_42 : decode M_PR_init.2.1 42 = .ok (.putfield 31, 3) := by decide +kernel
theorem d_PR_init_45 : decode M_PR_init.2.1 45 = .ok (.aload_n 0, 1) := by decide +kernel
theorem d_PR_init_46 : decode M_PR_init.2.1 46 = .ok (.aload_n 0, 1) := by decide +kernel
theorem d_PR_init_47 : decode M_PR_init.2.1 47 = .ok (.getfield 27, 3) := by decide +kernel
theorem d_PR_init_50 : decode M_PR_init.2.1 50 = .ok (.putfield 34, 3) := by decide +kernel
theorem d_PR_init_53 : decode M_PR_init.2.1 53 = .ok (.iconst 0, 1) := by decide +kernel
theorem d_PR_init_54 : decode M_PR_init.2.1 54 = .ok (.istore_n 1, 1) := by decide +kernel
theorem d_PR_init_55 : decode M_PR_init.2.1 55 = .ok (.iload_n 1, 1) := by decide +kernel
theorem d_PR_init_56 : decode M_PR_init.2.1 56 = .ok (.iconst 5, 1) := by decide +kernel
theorem d_PR_init_57 : decode M_PR_init.2.1 57 = .ok (.if_icmp .ge 22, 3) := by decide +kernel
theorem d_PR_init_60 : decode M_PR_init.2.1 60 = .ok (.aload_n 0, 1) := by decide +kernel
theorem d_PR_init_61 : decode M_PR_init.2.1 61 = .ok (.getfield 20, 3) := by decide +kernel
theorem d_PR_init_64 : decode M_PR_init.2.1 64 = .ok (.iload_n 1, 1) := by decide +kernel
theorem d_PR_init_65 : decode M_PR_init.2.1 65 = .ok (.new 18, 3) := by decide +kernel
theorem d_PR_init_68 : decode M_PR_init.2.1 68 = .ok (.dup, 1) := by decide +kernel
theorem d_PR_init_69 : decode M_PR_init.2.1 69 = .ok (.invokespecial 37, 3) := by decide +kernel
theorem d_PR_init_72 : decode M_PR_init.2.1 72 = .ok (.aastore, 1) := by decide +kernel
theorem d_PR_init_73 : decode M_PR_init.2.1 73 = .ok (.iinc 1 1, 3) := by decide +kernel
theorem d_PR_init_76 : decode M_PR_init.2.1 76 = .ok (.goto (-21), 3) := by decide +kernel
theorem d_PR_init_79 : decode M_PR_init.2.1 79 = .ok (.return_, 1) := by decide +kernel
theorem d_PR_readPattern_0 : decode M_PR_readPattern.2.1 0 = .ok (.aload_n 0, 1) := by decide +kernel
theorem d_PR_readPattern_1 : decode M_PR_readPattern.2.1 1 = .ok (.iconst 0, 1) := by decide +kernel
theorem d_PR_readPattern_2 : decode M_PR_readPattern.2.1 2 = .ok (.putfield 38, 3) := by decide +kernel
theorem d_PR_readPattern_5 : decode M_PR_readPattern.2.1 5 = .ok (.aload_n 0, 1) := by decide +kernel
theorem d_PR_readPattern_6 : decode M_PR_readPattern.2.1 6 = .ok (.iconst 0, 1) := by decide +kernel
theorem d_PR_readPattern_7 : decode M_PR_readPattern.2.1 7 = .ok (.putfield 42, 3) := by decide +kernel
theorem d_PR_readPattern_10 : decode M_PR_readPattern.2.1 10 = .ok (.iconst 0, 1) := by decide +kernel
theorem d_PR_readPattern_11 : decode M_PR_readPattern.2.1 11 = .ok (.istore_n 1, 1) := by decide +kernel
theorem d_PR_readPattern_12 : decode M_PR_readPattern.2.1 12 = .ok (.iload_n 1, 1) := by decide +kernel
theorem d_PR_readPattern_13 : decode M_PR_readPattern.2.1 13 = .ok (.bipush 60, 2) := by decide +kernel
theorem d_PR_readPattern_15 : decode M_PR_readPattern.2.1 15 = .ok (.if_icmp .ge 59, 3) := by decide +kernel
theorem d_PR_readPattern_18 : decode M_PR_readPattern.2.1 18 = .ok (.aload_n 0, 1) := by decide +kernel
theorem d_PR_readPattern_19 : decode M_PR_readPattern.2.1 19 = .ok (.getfield 42, 3) := by decide +kernel
theorem d_PR_readPattern_22 : decode M_PR_readPattern.2.1 22 = .ok (.aload_n 0, 1) := by decide +kernel
theorem d_PR_readPattern_23 : decode M_PR_readPattern.2.1 23 = .ok (.getfield 12, 3) := by decide +kernel
theorem d_PR_readPattern_26 : decode M_PR_readPattern.2.1 26 = .ok (.getfield 45, 3) := by decide +kernel
theorem d_PR_readPattern_29 : decode M_PR_readPattern.2.1 29 = .ok (.if_icmp .ge 45, 3) := by decide +kernel
theorem d_PR_readPattern_32 : decode M_PR_readPattern.2.1 32 = .ok (.aload_n 0, 1) := by decide +kernel
theorem d_PR_readPattern_33 : decode M_PR_readPattern.2.1 33 = .ok (.invokevirtual 48, 3) := by decide +kernel
theorem d_PR_readPattern_36 : decode M_PR_readPattern.2.1 36 = .ok (.ifCond .ne 5, 3) := by decide +kernel
theorem d_PR_readPattern_39 : decode M_PR_readPattern.2.1 39 = .ok (.iconst 0, 1) := by decide +kernel
theorem d_PR_readPattern_40 : decode M_PR_readPattern.2.1 40 = .ok (.ireturn, 1) := by decide +kernel
theorem d_PR_readPattern_41 : decode M_PR_readPattern.2.1 41 = .ok (.aload_n 0, 1) := by decide +kernel
theorem d_PR_readPattern_42 : decode M_PR_readPattern.2.1 42 = .ok (.getfield 38, 3) := by decide +kernel
theorem d_PR_readPattern_45 : decode M_PR_readPattern.2.1 45 = .ok (.ifCond .ne 23, 3) := by decide +kernel
theorem d_PR_readPattern_48 : decode M_PR_readPattern.2.1 48 = .ok (.aload_n 0, 1) := by decide +kernel
theorem d_PR_readPattern_49 : decode M_PR_readPattern.2.1 49 = .ok (.getfield 42, 3) := by decide +kernel
theorem d_PR_readPattern_52 : decode M_PR_readPattern.2.1 52 = .ok (.aload_n 0, 1) := by decide +kernel
theorem d_PR_readPattern_53 : decode M_PR_readPattern.2.1 53 = .ok (.getfield 12, 3) := by decide +kernel
theorem d_PR_readPattern_56 : decode M_PR_readPattern.2.1 56 = .ok (.getfield 45, 3) := by decide +kernel
theorem d_PR_readPattern_59 : decode M_PR_readPattern.2.1 59 = .ok (.if_icmp .ne 7, 3) := by decide +kernel
theorem d_PR_readPattern_62 : decode M_PR_readPattern.2.1 62 = .ok (.iconst 1, 1) := by decide +kernel
theorem d_PR_readPattern_63 : decode M_PR_readPattern.2.1 63 = .ok (.goto 4, 3) := by decide +kernel
theorem d_PR_readPattern_66 : decode M_PR_readPattern.2.1 66 = .ok (.iconst 0, 1) := by decide +kernel
theorem d_PR_readPattern_67 : decode M_PR_readPattern.2.1 67 = .ok (.ireturn, 1) := by decide +kernel
theorem d_PR_readPattern_68 : decode M_PR_readPattern.2.1 68 = .ok (.iinc 1 1, 3) := by decide +kernel
theorem d_PR_readPattern_71 : decode M_PR_readPattern.2.1 71 = .ok (.goto (-59), 3) := by decide +kernel
theorem d_PR_readPattern_74 : decode M_PR_readPattern.2.1 74 = .ok (.iconst 0, 1) := by decide +kernel
theorem d_PR_readPattern_75 : decode M_PR_readPattern.2.1 75 = .ok (.ireturn, 1) := by decide +kernel
theorem d_PR_readPart_0 : decode M_PR_readPart.2.1 0 = .ok (.aload_n 0, 1) := by decide +kernel
theorem d_PR_readPart_1 : decode M_PR_readPart.2.1 1 = .ok (.getfield 12, 3) := by decide +kernel
theorem d_PR_readPart_4 : decode M_PR_readPart.2.1 4 = .ok (.aload_n 0, 1) := by decide +kernel
theorem d_PR_readPart_5 : decode M_PR_readPart.2.1 5 = .ok (.getfield 42, 3) := by decide +kernel
theorem d_PR_readPart_8 : decode M_PR_readPart.2.1 8 = .ok (.invokevirtual 52, 3) := by decide +kernel
theorem d_PR_readPart_11 : decode M_PR_readPart.2.1 11 = .ok (.istore_n 1, 1) := by decide +kernel
theorem d_PR_readPart_12 : decode M_PR_readPart.2.1 12 = .ok (.aload_n 0, 1) := by decide +kernel
theorem d_PR_readPart_13 : decode M_PR_readPart.2.1 13 = .ok (.getfield 38, 3) := by decide +kernel
theorem d_PR_readPart_16 : decode M_PR_readPart.2.1 16 = .ok (.ifCond .ne 19, 3) := by decide +kernel
theorem d_PR_readPart_19 : decode M_PR_readPart.2.1 19 = .ok (.aload_n 0, 1) := by decide +kernel
theorem d_PR_readPart_20 : decode M_PR_readPart.2.1 20 = .ok (.getfield 12, 3) := by decide +kernel
theorem d_PR_readPart_23 : decode M_PR_readPart.2.1 23 = .ok (.aload_n 0, 1) := by decide +kernel
theorem d_PR_readPart_24 : decode M_PR_readPart.2.1 24 = .ok (.getfield 42, 3) := by decide +kernel
theorem d_PR_readPart_27 : decode M_PR_readPart.2.1 27 = .ok (.invokevirtual 56, 3) := by decide +kernel
theorem d_PR_readPart_30 : decode M_PR_readPart.2.1 30 = .ok (.ifCond .ne 5, 3) := by decide +kernel
theorem d_PR_readPart_33 : decode M_PR_readPart.2.1 33 = .ok (.iconst 0, 1) := by decide +kernel
theorem d_PR_readPart_34 : decode M_PR_readPart.2.1 34 = .ok (.ireturn, 1) := by decide +kernel
theorem d_PR_readPart_35 : decode M_PR_readPart.2.1 35 = .ok (.iload_n 1, 1) := by decide +kernel
theorem d_PR_readPart_36 : decode M_PR_readPart.2.1 36 = .ok (.tableswitch 112 1 10 #[96, 76, 76, 56, 56, 71, 91, 112, 101, 106], 56) := by decide +kernel
theorem d_PR_readPart_92 : decode M_PR_readPart.2.1 92 = .ok (.aload_n 0, 1) := by decide +kernel
theorem d_PR_readPart_93 : decode M_PR_readPart.2.1 93 = .ok (.iload_n 1, 1) := by decide +kernel
theorem d_PR_readPart_94 : decode M_PR_readPart.2.1 94 = .ok (.iconst 5, 1) := by decide +kernel
theorem d_PR_readPart_95 : decode M_PR_readPart.2.1 95 = .ok (.if_icmp .ne 7, 3) := by decide +kernel
theorem d_PR_readPart_98 : decode M_PR_readPart.2.1 98 = .ok (.iconst 1, 1) := by decide +kernel
theorem d_PR_readPart_99 : decode M_PR_readPart.2.1 99 = .ok (.goto 4, 3) := by decide +kernel
theorem d_PR_readPart_102 : decode M_PR_readPart.2.1 102 = .ok (.iconst 0, 1) := by decide +kernel
theorem d_PR_readPart_103 : decode M_PR_readPart.2.1 103 = .ok (.invokevirtual 60, 3) := by decide +kernel
theorem d_PR_readPart_106 : decode M_PR_readPart.2.1 106 = .ok (.ireturn, 1) := by decide +kernel
theorem d_PR_readPart_107 : decode M_PR_readPart.2.1 107 = .ok (.aload_n 0, 1) := by decide +kernel
theorem d_PR_readPart_108 : decode M_PR_readPart.2.1 108 = .ok (.invokevirtual 64, 3) := by decide +kernel
theorem d_PR_readPart_111 : decode M_PR_readPart.2.1 111 = .ok (.ireturn, 1) := by decide +kernel
theorem d_PR_readPart_112 : decode M_PR_readPart.2.1 112 = .ok (.aload_n 0, 1) := by decide +kernel
theorem d_PR_readPart_113 : decode M_PR_readPart.2.1 113 = .ok (.iload_n 1, 1) := by decide +kernel
theorem d_PR_readPart_114 : decode M_PR_readPart.2.1 114 = .ok (.iconst 3, 1) := by decide +kernel
theorem d_PR_readPart_115 : decode M_PR_readPart.2.1 115 = .ok (.if_icmp .ne 7, 3) := by decide +kernel
theorem d_PR_readPart_118 : decode M_PR_readPart.2.1 118 = .ok (.iconst 1, 1) := by decide +kernel
theorem d_PR_readPart_119 : decode M_PR_readPart.2.1 119 = .ok (.goto 4, 3) := by decide +kernel
theorem d_PR_readPart_122 : decode M_PR_readPart.2.1 122 = .ok (.iconst 0, 1) := by decide +kernel
theorem d_PR_readPart_123 : decode M_PR_readPart.2.1 123 = .ok (.invokevirtual 67, 3) := by decide +kernel
theorem d_PR_readPart_126 : decode M_PR_readPart.2.1 126 = .ok (.ireturn, 1) := by decide +kernel
theorem d_PR_readPart_127 : decode M_PR_readPart.2.1 127 = .ok (.aload_n 0, 1) := by decide +kernel
theorem d_PR_readPart_128 : decode M_PR_readPart.2.1 128 = .ok (.invokevirtual 70, 3) := by decide +kernel
theorem d_PR_readPart_131 : decode M_PR_readPart.2.1 131 = .ok (.ireturn, 1) := by decide +kernel
theorem d_PR_readPart_132 : decode M_PR_readPart.2.1 132 = .ok (.aload_n 0, 1) := by decide +kernel
theorem d_PR_readPart_133 : decode M_PR_readPart.2.1 133 = .ok (.invokevirtual 73, 3) := by decide +kernel
theorem d_PR_readPart_136 : decode M_PR_readPart.2.1 136 = .ok (.ireturn, 1) := by decide +kernel
theorem d_PR_readPart_137 : decode M_PR_readPart.2.1 137 = .ok (.aload_n 0, 1) := by decide +kernel
theorem d_PR_readPart_138 : decode M_PR_readPart.2.1 138 = .ok (.invokevirtual 76, 3) := by decide +kernel
theorem d_PR_readPart_141 : decode M_PR_readPart.2.1 141 = .ok (.ireturn, 1) := by decide +kernel
theorem d_PR_readPart_142 : decode M_PR_readPart.2.1 142 = .ok (.aload_n 0, 1) := by decide +kernel
theorem d_PR_readPart_143 : decode M_PR_readPart.2.1 143 = .ok (.iconst 1, 1) := by decide +kernel
theorem d_PR_readPart_144 : decode M_PR_readPart.2.1 144 = .ok (.invokevirtual 79, 3) := by decide +kernel
theorem d_PR_readPart_147 : decode M_PR_readPart.2.1 147 = .ok (.ireturn, 1) := by decide +kernel
theorem d_PR_readPart_148 : decode M_PR_readPart.2.1 148 = .ok (.iconst 0, 1) := by decide +kernel
theorem d_PR_readPart_149 : decode M_PR_readPart.2.1 149 = .ok (.ireturn, 1) := by decide +kernel
theorem d_PR_openBracket_0 : decode M_PR_openBracket.2.1 0 = .ok (.aload_n 0, 1) := by decide +kernel
theorem d_PR_openBracket_1 : decode M_PR_openBracket.2.1 1 = .ok (.getfield 38, 3) := by decide +kernel
theorem d_PR_openBracket_4 : decode M_PR_openBracket.2.1 4 = .ok (.iconst 5, 1) := by decide +kernel
theorem d_PR_openBracket_5 : decode M_PR_openBracket.2.1 5 = .ok (.if_icmp .lt 5, 3) := by decide +kernel
theorem d_PR_openBracket_8 : decode M_PR_openBracket.2.1 8 = .ok (.iconst 0, 1) := by decide +kernel
theorem d_PR_openBracket_9 : decode M_PR_openBracket.2.1 9 = .ok (.ireturn, 1) := by decide +kernel
theorem d_PR_openBracket_10 : decode M_PR_openBracket.2.1 10 = .ok (.aload_n 0, 1) := by decide +kernel
theorem d_PR_openBracket_11 : decode M_PR_openBracket.2.1 11 = .ok (.getfield 20, 3) := by decide +kernel
theorem d_PR_openBracket_14 : decode M_PR_openBracket.2.1 14 = .ok (.aload_n 0, 1) := by decide +kernel
theorem d_PR_openBracket_15 : decode M_PR_openBracket.2.1 15 = .ok (.getfield 38, 3) := by decide +kernel
theorem d_PR_openBracket_18 : decode M_PR_openBracket.2.1 18 = .ok (.aaload, 1) := by decide +kernel
theorem d_PR_openBracket_19 : decode M_PR_openBracket.2.1 19 = .ok (.iload_n 1, 1) := by decide +kernel
theorem d_PR_openBracket_20 : decode M_PR_openBracket.2.1 20 = .ok (.invokevirtual 82, 3) := by decide +kernel
theorem d_PR_openBracket_23 : decode M_PR_openBracket.2.1 23 = .ok (.aload_n 0, 1) := by decide +kernel
theorem d_PR_openBracket_24 : decode M_PR_openBracket.2.1 24 = .ok (.dup, 1) := by decide +kernel
theorem d_PR_openBracket_25 : decode M_PR_openBracket.2.1 25 = .ok (.getfield 38, 3) := by decide +kernel
theorem d_PR_openBracket_28 : decode M_PR_openBracket.2.1 28 = .ok (.iconst 1, 1) := by decide +kernel
theorem d_PR_openBracket_29 : decode M_PR_openBracket.2.1 29 = .ok (.iadd, 1) := by decide +kernel
theorem d_PR_openBracket_30 : decode M_PR_openBracket.2.1 30 = .ok (.putfield 38, 3) := by decide +kernel
theorem d_PR_openBracket_33 : decode M_PR_openBracket.2.1 33 = .ok (.aload_n 0, 1) := by decide +kernel
theorem d_PR_openBracket_34 : decode M_PR_openBracket.2.1 34 = .ok (.dup, 1) := by decide +kernel
theorem d_PR_openBracket_35 : decode M_PR_openBracket.2.1 35 = .ok (.getfield 42, 3) := by decide +kernel
theorem d_PR_openBracket_38 : decode M_PR_openBracket.2.1 38 = .ok (.iconst 1, 1) := by decide +kernel
theorem d_PR_openBracket_39 : decode M_PR_openBracket.2.1 39 = .ok (.iadd, 1) := by decide +kernel
theorem d_PR_openBracket_40 : decode M_PR_openBracket.2.1 40 = .ok (.putfield 42, 3) := by decide +kernel
theorem d_PR_openBracket_43 : decode M_PR_openBracket.2.1 43 = .ok (.iconst 1, 1) := by decide +kernel
theorem d_PR_openBracket_44 : decode M_PR_openBracket.2.1 44 = .ok (.ireturn, 1) := by decide +kernel
theorem d_PR_endBracket_0 : decode M_PR_endBracket.2.1 0 = .ok (.aload_n 0, 1) := by decide +kernel
theorem d_PR_endBracket_1 : decode M_PR_endBracket.2.1 1 = .ok (.invokevirtual 86, 3) := by decide +kernel
theorem d_PR_endBracket_4 : decode M_PR_endBracket.2.1 4 = .ok (.astore_n 1, 1) := by decide +kernel
theorem d_PR_endBracket_5 : decode M_PR_endBracket.2.1 5 = .ok (.aload_n 1, 1) := by decide +kernel
theorem d_PR_endBracket_6 : decode M_PR_endBracket.2.1 6 = .ok (.getfield 90, 3) := by decide +kernel
theorem d_PR_endBracket_9 : decode M_PR_endBracket.2.1 9 = .ok (.ifCond .eq 44, 3) := by decide +kernel
theorem d_PR_endBracket_12 : decode M_PR_endBracket.2.1 12 = .ok (.aload_n 1, 1) := by decide +kernel
theorem d_PR_endBracket_13 : decode M_PR_endBracket.2.1 13 = .ok (.getfield 94, 3) := by decide +kernel
theorem d_PR_endBracket_16 : decode M_PR_endBracket.2.1 16 = .ok (.getfield 95, 3) := by decide +kernel
theorem d_PR_endBracket_19 : decode M_PR_endBracket.2.1 19 = .ok (.ifCond .le 5, 3) := by decide +kernel
theorem d_PR_endBracket_22 : decode M_PR_endBracket.2.1 22 = .ok (.iconst 0, 1) := by decide +kernel
theorem d_PR_endBracket_23 : decode M_PR_endBracket.2.1 23 = .ok (.ireturn, 1) := by decide +kernel
theorem d_PR_endBracket_24 : decode M_PR_endBracket.2.1 24 = .ok (.aload_n 0, 1) := by decide +kernel
theorem d_PR_endBracket_25 : decode M_PR_endBracket.2.1 25 = .ok (.getfield 31, 3) := by decide +kernel
theorem d_PR_endBracket_28 : decode M_PR_endBracket.2.1 28 = .ok (.aload_n 1, 1) := by decide +kernel
theorem d_PR_endBracket_29 : decode M_PR_endBracket.2.1 29 = .ok (.getfield 94, 3) := by decide +kernel
theorem d_PR_endBracket_32 : decode M_PR_endBracket.2.1 32 = .ok (.invokevirtual 98, 3) := by decide +kernel
theorem d_PR_endBracket_35 : decode M_PR_endBracket.2.1 35 = .ok (.aload_n 1, 1) := by decide +kernel
theorem d_PR_endBracket_36 : decode M_PR_endBracket.2.1 36 = .ok (.getfield 94, 3) := by decide +kernel
theorem d_PR_endBracket_39 : decode M_PR_endBracket.2.1 39 = .ok (.astore_n 2, 1) := by decide +kernel
theorem d_PR_endBracket_40 : decode M_PR_endBracket.2.1 40 = .ok (.aload_n 1, 1) := by decide +kernel
theorem d_PR_endBracket_41 : decode M_PR_endBracket.2.1 41 = .ok (.aload_n 0, 1) := by decide +kernel
theorem d_PR_endBracket_42 : decode M_PR_endBracket.2.1 42 = .ok (.getfield 31, 3) := by decide +kernel
theorem d_PR_endBracket_45 : decode M_PR_endBracket.2.1 45 = .ok (.putfield 94, 3) := by decide +kernel
theorem d_PR_endBracket_48 : decode M_PR_endBracket.2.1 48 = .ok (.aload_n 0, 1) := by decide +kernel
theorem d_PR_endBracket_49 : decode M_PR_endBracket.2.1 49 = .ok (.aload_n 2, 1) := by decide +kernel
theorem d_PR_endBracket_50 : decode M_PR_endBracket.2.1 50 = .ok (.putfield 31, 3) := by decide +kernel
theorem d_PR_endBracket_53 : decode M_PR_endBracket.2.1 53 = .ok (.aload_n 0, 1) := by decide +kernel
theorem d_PR_endBracket_54 : decode M_PR_endBracket.2.1 54 = .ok (.dup, 1) := by decide +kernel
theorem d_PR_endBracket_55 : decode M_PR_endBracket.2.1 55 = .ok (.getfield 38, 3) := by decide +kernel
theorem d_PR_endBracket_58 : decode M_PR_endBracket.2.1 58 = .ok (.iconst 1, 1) := by decide +kernel
theorem d_PR_endBracket_59 : decode M_PR_endBracket.2.1 59 = .ok (.isub, 1) := by decide +kernel
theorem d_PR_endBracket_60 : decode M_PR_endBracket.2.1 60 = .ok (.putfield 38, 3) := by decide +kernel
theorem d_PR_endBracket_63 : decode M_PR_endBracket.2.1 63 = .ok (.aload_n 0, 1) := by decide +kernel
theorem d_PR_endBracket_64 : decode M_PR_endBracket.2.1 64 = .ok (.dup, 1) := by decide +kernel
theorem d_PR_endBracket_65 : decode M_PR_endBracket.2.1 65 = .ok (.getfield 42, 3) := by decide +kernel
theorem d_PR_endBracket_68 : decode M_PR_endBracket.2.1 68 = .ok (.iconst 1, 1) := by decide +kernel
theorem d_PR_endBracket_69 : decode M_PR_endBracket.2.1 69 = .ok (.iadd, 1) := by decide +kernel
theorem d_PR_endBracket_70 : decode M_PR_endBracket.2.1 70 = .ok (.putfield 42, 3) := by decide +kernel
theorem d_PR_endBracket_73 : decode M_PR_endBracket.2.1 73 = .ok (.aload_n 0, 1) := by decide +kernel
theorem d_PR_endBracket_74 : decode M_PR_endBracket.2.1 74 = .ok (.aload_n 1, 1) := by decide +kernel
theorem d_PR_endBracket_75 : decode M_PR_endBracket.2.1 75 = .ok (.getfield 94, 3) := by decide +kernel
theorem d_PR_endBracket_78 : decode M_PR_endBracket.2.1 78 = .ok (.iconst 1, 1) := by decide +kernel
theorem d_PR_endBracket_79 : decode M_PR_endBracket.2.1 79 = .ok (.invokevirtual 102, 3) := by decide +kernel
theorem d_PR_endBracket_82 : decode M_PR_endBracket.2.1 82 = .ok (.ireturn, 1) := by decide +kernel
theorem d_PR_readProperty_0 : decode M_PR_readProperty.2.1 0 = .ok (.aload_n 0, 1) := by decide +kernel
theorem d_PR_readProperty_1 : decode M_PR_readProperty.2.1 1 = .ok (.getfield 27, 3) := by decide +kernel
theorem d_PR_readProperty_4 : decode M_PR_readProperty.2.1 4 = .ok (.aload_n 0, 1) := by decide +kernel
theorem d_PR_readProperty_5 : decode M_PR_readProperty.2.1 5 = .ok (.getfield 12, 3) := by decide +kernel
theorem d_PR_readProperty_8 : decode M_PR_readProperty.2.1 8 = .ok (.aload_n 0, 1) := by decide +kernel
theorem d_PR_readProperty_9 : decode M_PR_readProperty.2.1 9 = .ok (.getfield 42, 3) := by decide +kernel
theorem d_PR_readProperty_12 : decode M_PR_readProperty.2.1 12 = .ok (.invokevirtual 106, 3) := by decide +kernel
theorem d_PR_readProperty_15 : decode M_PR_readProperty.2.1 15 = .ok (.invokestatic 109, 3) := by decide +kernel
theorem d_PR_readProperty_18 : decode M_PR_readProperty.2.1 18 = .ok (.invokevirtual 115, 3) := by decide +kernel
theorem d_PR_readProperty_21 : decode M_PR_readProperty.2.1 21 = .ok (.iload_n 1, 1) := by decide +kernel
theorem d_PR_readProperty_22 : decode M_PR_readProperty.2.1 22 = .ok (.ifCond .eq 32, 3) := by decide +kernel
theorem d_PR_readProperty_25 : decode M_PR_readProperty.2.1 25 = .ok (.aload_n 0, 1) := by decide +kernel
theorem d_PR_readProperty_26 : decode M_PR_readProperty.2.1 26 = .ok (.getfield 31, 3) := by decide +kernel
theorem d_PR_readProperty_29 : decode M_PR_readProperty.2.1 29 = .ok (.aload_n 0, 1) := by decide +kernel
theorem d_PR_readProperty_30 : decode M_PR_readProperty.2.1 30 = .ok (.getfield 27, 3) := by decide +kernel
theorem d_PR_readProperty_33 : decode M_PR_readProperty.2.1 33 = .ok (.invokevirtual 98, 3) := by decide +kernel
theorem d_PR_readProperty_36 : decode M_PR_readProperty.2.1 36 = .ok (.aload_n 0, 1) := by decide +kernel
theorem d_PR_readProperty_37 : decode M_PR_readProperty.2.1 37 = .ok (.getfield 27, 3) := by decide +kernel
theorem d_PR_readProperty_40 : decode M_PR_readProperty.2.1 40 = .ok (.astore_n 2, 1) := by decide +kernel
theorem d_PR_readProperty_41 : decode M_PR_readProperty.2.1 41 = .ok (.aload_n 0, 1) := by decide +kernel
theorem d_PR_readProperty_42 : decode M_PR_readProperty.2.1 42 = .ok (.aload_n 0, 1) := by decide +kernel
theorem d_PR_readProperty_43 : decode M_PR_readProperty.2.1 43 = .ok (.getfield 31, 3) := by decide +kernel
theorem d_PR_readProperty_46 : decode M_PR_readProperty.2.1 46 = .ok (.putfield 27, 3) := by decide +kernel
theorem d_PR_readProperty_49 : decode M_PR_readProperty.2.1 49 = .ok (.aload_n 0, 1) := by decide +kernel
theorem d_PR_readProperty_50 : decode M_PR_readProperty.2.1 50 = .ok (.aload_n 2, 1) := by decide +kernel
theorem d_PR_readProperty_51 : decode M_PR_readProperty.2.1 51 = .ok (.putfield 31, 3) := by decide +kernel
theorem d_PR_readProperty_54 : decode M_PR_readProperty.2.1 54 = .ok (.aload_n 0, 1) := by decide +kernel
theorem d_PR_readProperty_55 : decode M_PR_readProperty.2.1 55 = .ok (.dup, 1) := by decide +kernel
theorem d_PR_readProperty_56 : decode M_PR_readProperty.2.1 56 = .ok (.getfield 42, 3) := by decide +kernel
theorem d_PR_readProperty_59 : decode M_PR_readProperty.2.1 59 = .ok (.iconst 1, 1) := by decide +kernel
theorem d_PR_readProperty_60 : decode M_PR_readProperty.2.1 60 = .ok (.iadd, 1) := by decide +kernel
theorem d_PR_readProperty_61 : decode M_PR_readProperty.2.1 61 = .ok (.putfield 42, 3) := by decide +kernel
theorem d_PR_readProperty_64 : decode M_PR_readProperty.2.1 64 = .ok (.aload_n 0, 1) := by decide +kernel
theorem d_PR_readProperty_65 : decode M_PR_readProperty.2.1 65 = .ok (.aload_n 0, 1) := by decide +kernel
theorem d_PR_readProperty_66 : decode M_PR_readProperty.2.1 66 = .ok (.getfield 27, 3) := by decide +kernel
theorem d_PR_readProperty_69 : decode M_PR_readProperty.2.1 69 = .ok (.iconst 1, 1) := by decide +kernel
theorem d_PR_readProperty_70 : decode M_PR_readProperty.2.1 70 = .ok (.invokevirtual 102, 3) := by decide +kernel
theorem d_PR_readProperty_73 : decode M_PR_readProperty.2.1 73 = .ok (.ireturn, 1) := by decide +kernel
theorem d_PR_readString_0 : decode M_PR_readString.2.1 0 = .ok (.iconst 0, 1) := by decide +kernel
theorem d_PR_readString_1 : decode M_PR_readString.2.1 1 = .ok (.istore_n 1, 1) := by decide +kernel
theorem d_PR_readString_2 : decode M_PR_readString.2.1 2 = .ok (.iconst 1, 1) := by decide +kernel
theorem d_PR_readString_3 : decode M_PR_readString.2.1 3 = .ok (.istore_n 2, 1) := by decide +kernel
theorem d_PR_readString_4 : decode M_PR_readString.2.1 4 = .ok (.iload_n 2, 1) := by decide +kernel
theorem d_PR_readString_5 : decode M_PR_readString.2.1 5 = .ok (.iconst 3, 1) := by decide +kernel
theorem d_PR_readString_6 : decode M_PR_readString.2.1 6 = .ok (.if_icmp .gt 28, 3) := by decide +kernel
theorem d_PR_readString_9 : decode M_PR_readString.2.1 9 = .ok (.aload_n 0, 1) := by decide +kernel
theorem d_PR_readString_10 : decode M_PR_readString.2.1 10 = .ok (.getfield 12, 3) := by decide +kernel
theorem d_PR_readString_13 : decode M_PR_readString.2.1 13 = .ok (.aload_n 0, 1) := by decide +kernel
theorem d_PR_readString_14 : decode M_PR_readString.2.1 14 = .ok (.getfield 42, 3) := by decide +kernel
theorem d_PR_readString_17 : decode M_PR_readString.2.1 17 = .ok (.iload_n 2, 1) := by decide +kernel
theorem d_PR_readString_18 : decode M_PR_readString.2.1 18 = .ok (.iadd, 1) := by decide +kernel
theorem d_PR_readString_19 : decode M_PR_readString.2.1 19 = .ok (.invokevirtual 52, 3) := by decide +kernel
theorem d_PR_readString_22 : decode M_PR_readString.2.1 22 = .ok (.iconst 1, 1) := by decide +kernel
theorem d_PR_readString_23 : decode M_PR_readString.2.1 23 = .ok (.if_icmp .ne 11, 3) := by decide +kernel
theorem d_PR_readString_26 : decode M_PR_readString.2.1 26 = .ok (.iload_n 2, 1) := by decide +kernel
theorem d_PR_readString_27 : decode M_PR_readString.2.1 27 = .ok (.istore_n 1, 1) := by decide +kernel
theorem d_PR_readString_28 : decode M_PR_readString.2.1 28 = .ok (.iinc 2 1, 3) := by decide +kernel
theorem d_PR_readString_31 : decode M_PR_readString.2.1 31 = .ok (.goto (-27), 3) := by decide +kernel
theorem d_PR_readString_34 : decode M_PR_readString.2.1 34 = .ok (.iload_n 1, 1) := by decide +kernel
theorem d_PR_readString_35 : decode M_PR_readString.2.1 35 = .ok (.ifCond .eq 23, 3) := by decide +kernel
theorem d_PR_readString_38 : decode M_PR_readString.2.1 38 = .ok (.aload_n 0, 1) := by decide +kernel
theorem d_PR_readString_39 : decode M_PR_readString.2.1 39 = .ok (.getfield 12, 3) := by decide +kernel
theorem d_PR_readString_42 : decode M_PR_readString.2.1 42 = .ok (.aload_n 0, 1) := by decide +kernel
theorem d_PR_readString_43 : decode M_PR_readString.2.1 43 = .ok (.getfield 42, 3) := by decide +kernel
theorem d_PR_readString_46 : decode M_PR_readString.2.1 46 = .ok (.iload_n 1, 1) := by decide +kernel
theorem d_PR_readString_47 : decode M_PR_readString.2.1 47 = .ok (.iadd, 1) := by decide +kernel
theorem d_PR_readString_48 : decode M_PR_readString.2.1 48 = .ok (.iconst 1, 1) := by decide +kernel
theorem d_PR_readString_49 : decode M_PR_readString.2.1 49 = .ok (.iadd, 1) := by decide +kernel
theorem d_PR_readString_50 : decode M_PR_readString.2.1 50 = .ok (.invokevirtual 52, 3) := by decide +kernel
theorem d_PR_readString_53 : decode M_PR_readString.2.1 53 = .ok (.bipush 8, 2) := by decide +kernel
theorem d_PR_readString_55 : decode M_PR_readString.2.1 55 = .ok (.if_icmp .eq 5, 3) := by decide +kernel
theorem d_PR_readString_58 : decode M_PR_readString.2.1 58 = .ok (.iconst 0, 1) := by decide +kernel
theorem d_PR_readString_59 : decode M_PR_readString.2.1 59 = .ok (.ireturn, 1) := by decide +kernel
theorem d_PR_readString_60 : decode M_PR_readString.2.1 60 = .ok (.aload_n 0, 1) := by decide +kernel
theorem d_PR_readString_61 : decode M_PR_readString.2.1 61 = .ok (.getfield 12, 3) := by decide +kernel
theorem d_PR_readString_64 : decode M_PR_readString.2.1 64 = .ok (.aload_n 0, 1) := by decide +kernel
theorem d_PR_readString_65 : decode M_PR_readString.2.1 65 = .ok (.getfield 42, 3) := by decide +kernel
theorem d_PR_readString_68 : decode M_PR_readString.2.1 68 = .ok (.iconst 1, 1) := by decide +kernel
theorem d_PR_readString_69 : decode M_PR_readString.2.1 69 = .ok (.iadd, 1) := by decide +kernel
theorem d_PR_readString_70 : decode M_PR_readString.2.1 70 = .ok (.invokevirtual 106, 3) := by decide +kernel
theorem d_PR_readString_73 : decode M_PR_readString.2.1 73 = .ok (.istore_n 2, 1) := by decide +kernel
theorem d_PR_readString_74 : decode M_PR_readString.2.1 74 = .ok (.iload_n 1, 1) := by decide +kernel
theorem d_PR_readString_75 : decode M_PR_readString.2.1 75 = .ok (.iconst 1, 1) := by decide +kernel
theorem d_PR_readString_76 : decode M_PR_readString.2.1 76 = .ok (.if_icmp .ne 20, 3) := by decide +kernel
theorem d_PR_readString_79 : decode M_PR_readString.2.1 79 = .ok (.aload_n 0, 1) := by decide +kernel
theorem d_PR_readString_80 : decode M_PR_readString.2.1 80 = .ok (.iload_n 2, 1) := by decide +kernel
theorem d_PR_readString_81 : decode M_PR_readString.2.1 81 = .ok (.iload_n 2, 1) := by decide +kernel
theorem d_PR_readString_82 : decode M_PR_readString.2.1 82 = .ok (.iconst 3, 1) := by decide +kernel
theorem d_PR_readString_83 : decode M_PR_readString.2.1 83 = .ok (.invokevirtual 119, 3) := by decide +kernel
theorem d_PR_readString_86 : decode M_PR_readString.2.1 86 = .ok (.aload_n 0, 1) := by decide +kernel
theorem d_PR_readString_87 : decode M_PR_readString.2.1 87 = .ok (.aload_n 0, 1) := by decide +kernel
theorem d_PR_readString_88 : decode M_PR_readString.2.1 88 = .ok (.getfield 27, 3) := by decide +kernel
theorem d_PR_readString_91 : decode M_PR_readString.2.1 91 = .ok (.iconst 0, 1) := by decide +kernel
theorem d_PR_readString_92 : decode M_PR_readString.2.1 92 = .ok (.invokevirtual 102, 3) := by decide +kernel
theorem d_PR_readString_95 : decode M_PR_readString.2.1 95 = .ok (.ireturn, 1) := by decide +kernel
theorem d_PR_readString_96 : decode M_PR_readString.2.1 96 = .ok (.iload_n 1, 1) := by decide +kernel
theorem d_PR_readString_97 : decode M_PR_readString.2.1 97 = .ok (.iconst 3, 1) := by decide +kernel
theorem d_PR_readString_98 : decode M_PR_readString.2.1 98 = .ok (.if_icmp .ne 19, 3) := by decide +kernel
theorem d_PR_readString_101 : decode M_PR_readString.2.1 101 = .ok (.aload_n 0, 1) := by decide +kernel
theorem d_PR_readString_102 : decode M_PR_readString.2.1 102 = .ok (.getfield 12, 3) := by decide +kernel
theorem d_PR_readString_105 : decode M_PR_readString.2.1 105 = .ok (.aload_n 0, 1) := by decide +kernel
theorem d_PR_readString_106 : decode M_PR_readString.2.1 106 = .ok (.getfield 42, 3) := by decide +kernel
theorem d_PR_readString_109 : decode M_PR_readString.2.1 109 = .ok (.iconst 3, 1) := by decide +kernel
theorem d_PR_readString_110 : decode M_PR_readString.2.1 110 = .ok (.iadd, 1) := by decide +kernel
theorem d_PR_readString_111 : decode M_PR_readString.2.1 111 = .ok (.invokevirtual 106, 3) := by decide +kernel
theorem d_PR_readString_114 : decode M_PR_readString.2.1 114 = .ok (.goto 4, 3) := by decide +kernel
theorem d_PR_readString_117 : decode M_PR_readString.2.1 117 = .ok (.iconst (-1), 1) := by decide +kernel
theorem d_PR_readString_118 : decode M_PR_readString.2.1 118 = .ok (.istore_n 3, 1) := by decide +kernel
theorem d_PR_readString_119 : decode M_PR_readString.2.1 119 = .ok (.aload_n 0, 1) := by decide +kernel
theorem d_PR_readString_120 : decode M_PR_readString.2.1 120 = .ok (.getfield 27, 3) := by decide +kernel
theorem d_PR_readString_123 : decode M_PR_readString.2.1 123 = .ok (.iload_n 2, 1) := by decide +kernel
theorem d_PR_readString_124 : decode M_PR_readString.2.1 124 = .ok (.aload_n 0, 1) := by decide +kernel
theorem d_PR_readString_125 : decode M_PR_readString.2.1 125 = .ok (.getfield 12, 3) := by decide +kernel
theorem d_PR_readString_128 : decode M_PR_readString.2.1 128 = .ok (.aload_n 0, 1) := by decide +kernel
theorem d_PR_readString_129 : decode M_PR_readString.2.1 129 = .ok (.getfield 42, 3) := by decide +kernel
theorem d_PR_readString_132 : decode M_PR_readString.2.1 132 = .ok (.iconst 2, 1) := by decide +kernel
theorem d_PR_readString_133 : decode M_PR_readString.2.1 133 = .ok (.iadd, 1) := by decide +kernel
theorem d_PR_readString_134 : decode M_PR_readString.2.1 134 = .ok (.invokevirtual 106, 3) := by decide +kernel
theorem d_PR_readString_137 : decode M_PR_readString.2.1 137 = .ok (.iload_n 3, 1) := by decide +kernel
theorem d_PR_readString_138 : decode M_PR_readString.2.1 138 = .ok (.invokestatic 123, 3) := by decide +kernel
theorem d_PR_readString_141 : decode M_PR_readString.2.1 141 = .ok (.invokevirtual 127, 3) := by decide +kernel
theorem d_PR_readString_144 : decode M_PR_readString.2.1 144 = .ok (.aload_n 0, 1) := by decide +kernel
theorem d_PR_readString_145 : decode M_PR_readString.2.1 145 = .ok (.dup, 1) := by decide +kernel
theorem d_PR_readString_146 : decode M_PR_readString.2.1 146 = .ok (.getfield 42, 3) := by decide +kernel
theorem d_PR_readString_149 : decode M_PR_readString.2.1 149 = .ok (.iload_n 1, 1) := by decide +kernel
theorem d_PR_readString_150 : decode M_PR_readString.2.1 150 = .ok (.iconst 2, 1) := by decide +kernel
theorem d_PR_readString_151 : decode M_PR_readString.2.1 151 = .ok (.iadd, 1) := by decide +kernel
theorem d_PR_readString_152 : decode M_PR_readString.2.1 152 = .ok (.iadd, 1) := by decide +kernel
theorem d_PR_readString_153 : decode M_PR_readString.2.1 153 = .ok (.putfield 42, 3) := by decide +kernel
theorem d_PR_readString_156 : decode M_PR_readString.2.1 156 = .ok (.aload_n 0, 1) := by decide +kernel
theorem d_PR_readString_157 : decode M_PR_readString.2.1 157 = .ok (.aload_n 0, 1) := by decide +kernel
theorem d_PR_readString_158 : decode M_PR_readString.2.1 158 = .ok (.getfield 27, 3) := by decide +kernel
theorem d_PR_readString_161 : decode M_PR_readString.2.1 161 = .ok (.iconst 0, 1) := by decide +kernel
theorem d_PR_readString_162 : decode M_PR_readString.2.1 162 = .ok (.invokevirtual 102, 3) := by decide +kernel
theorem d_PR_readString_165 : decode M_PR_readString.2.1 165 = .ok (.ireturn, 1) := by decide +kernel
theorem d_PR_readChar_0 : decode M_PR_readChar.2.1 0 = .ok (.aload_n 0, 1) := by decide +kernel
theorem d_PR_readChar_1 : decode M_PR_readChar.2.1 1 = .ok (.getfield 12, 3) := by decide +kernel
theorem d_PR_readChar_4 : decode M_PR_readChar.2.1 4 = .ok (.aload_n 0, 1) := by decide +kernel
theorem d_PR_readChar_5 : decode M_PR_readChar.2.1 5 = .ok (.getfield 42, 3) := by decide +kernel
theorem d_PR_readChar_8 : decode M_PR_readChar.2.1 8 = .ok (.invokevirtual 106, 3) := by decide +kernel
theorem d_PR_readChar_11 : decode M_PR_readChar.2.1 11 = .ok (.istore_n 1, 1) := by decide +kernel
theorem d_PR_readChar_12 : decode M_PR_readChar.2.1 12 = .ok (.aload_n 0, 1) := by decide +kernel
theorem d_PR_readChar_13 : decode M_PR_readChar.2.1 13 = .ok (.getfield 12, 3) := by decide +kernel
theorem d_PR_readChar_16 : decode M_PR_readChar.2.1 16 = .ok (.aload_n 0, 1) := by decide +kernel
theorem d_PR_readChar_17 : decode M_PR_readChar.2.1 17 = .ok (.getfield 42, 3) := by decide +kernel
theorem d_PR_readChar_20 : decode M_PR_readChar.2.1 20 = .ok (.iconst 1, 1) := by decide +kernel
theorem d_PR_readChar_21 : decode M_PR_readChar.2.1 21 = .ok (.iadd, 1) := by decide +kernel
theorem d_PR_readChar_22 : decode M_PR_readChar.2.1 22 = .ok (.invokevirtual 52, 3) := by decide +kernel
theorem d_PR_readChar_25 : decode M_PR_readChar.2.1 25 = .ok (.bipush 9, 2) := by decide +kernel
theorem d_PR_readChar_27 : decode M_PR_readChar.2.1 27 = .ok (.if_icmp .ne 21, 3) := by decide +kernel
theorem d_PR_readChar_30 : decode M_PR_readChar.2.1 30 = .ok (.aload_n 0, 1) := by decide +kernel
theorem d_PR_readChar_31 : decode M_PR_readChar.2.1 31 = .ok (.getfield 12, 3) := by decide +kernel
theorem d_PR_readChar_34 : decode M_PR_readChar.2.1 34 = .ok (.aload_n 0, 1) := by decide +kernel
theorem d_PR_readChar_35 : decode M_PR_readChar.2.1 35 = .ok (.getfield 42, 3) := by decide +kernel
theorem d_PR_readChar_38 : decode M_PR_readChar.2.1 38 = .ok (.iconst 2, 1) := by decide +kernel
theorem d_PR_readChar_39 : decode M_PR_readChar.2.1 39 = .ok (.iadd, 1) := by decide +kernel
theorem d_PR_readChar_40 : decode M_PR_readChar.2.1 40 = .ok (.invokevirtual 52, 3) := by decide +kernel
theorem d_PR_readChar_43 : decode M_PR_readChar.2.1 43 = .ok (.bipush 6, 2) := by decide +kernel
theorem d_PR_readChar_45 : decode M_PR_readChar.2.1 45 = .ok (.if_icmp .ne 20, 3) := by decide +kernel
theorem d_PR_readChar_48 : decode M_PR_readChar.2.1 48 = .ok (.aload_n 0, 1) := by decide +kernel
theorem d_PR_readChar_49 : decode M_PR_readChar.2.1 49 = .ok (.iload_n 1, 1) := by decide +kernel
theorem d_PR_readChar_50 : decode M_PR_readChar.2.1 50 = .ok (.iload_n 1, 1) := by decide +kernel
theorem d_PR_readChar_51 : decode M_PR_readChar.2.1 51 = .ok (.iconst 1, 1) := by decide +kernel
theorem d_PR_readChar_52 : decode M_PR_readChar.2.1 52 = .ok (.invokevirtual 119, 3) := by decide +kernel
theorem d_PR_readChar_55 : decode M_PR_readChar.2.1 55 = .ok (.aload_n 0, 1) := by decide +kernel
theorem d_PR_readChar_56 : decode M_PR_readChar.2.1 56 = .ok (.aload_n 0, 1) := by decide +kernel
theorem d_PR_readChar_57 : decode M_PR_readChar.2.1 57 = .ok (.getfield 27, 3) := by decide +kernel
theorem d_PR_readChar_60 : decode M_PR_readChar.2.1 60 = .ok (.iconst 0, 1) := by decide +kernel
theorem d_PR_readChar_61 : decode M_PR_readChar.2.1 61 = .ok (.invokevirtual 102, 3) := by decide +kernel
theorem d_PR_readChar_64 : decode M_PR_readChar.2.1 64 = .ok (.ireturn, 1) := by decide +kernel
theorem d_PR_readChar_65 : decode M_PR_readChar.2.1 65 = .ok (.aload_n 0, 1) := by decide +kernel
theorem d_PR_readChar_66 : decode M_PR_readChar.2.1 66 = .ok (.getfield 12, 3) := by decide +kernel
theorem d_PR_readChar_69 : decode M_PR_readChar.2.1 69 = .ok (.aload_n 0, 1) := by decide +kernel
theorem d_PR_readChar_70 : decode M_PR_readChar.2.1 70 = .ok (.getfield 42, 3) := by decide +kernel
theorem d_PR_readChar_73 : decode M_PR_readChar.2.1 73 = .ok (.iconst 2, 1) := by decide +kernel
theorem d_PR_readChar_74 : decode M_PR_readChar.2.1 74 = .ok (.iadd, 1) := by decide +kernel
theorem d_PR_readChar_75 : decode M_PR_readChar.2.1 75 = .ok (.invokevirtual 106, 3) := by decide +kernel
theorem d_PR_readChar_78 : decode M_PR_readChar.2.1 78 = .ok (.istore_n 2, 1) := by decide +kernel
theorem d_PR_readChar_79 : decode M_PR_readChar.2.1 79 = .ok (.aload_n 0, 1) := by decide +kernel
theorem d_PR_readChar_80 : decode M_PR_readChar.2.1 80 = .ok (.getfield 12, 3) := by decide +kernel
theorem d_PR_readChar_83 : decode M_PR_readChar.2.1 83 = .ok (.aload_n 0, 1) := by decide +kernel
theorem d_PR_readChar_84 : decode M_PR_readChar.2.1 84 = .ok (.getfield 42, 3) := by decide +kernel
theorem d_PR_readChar_87 : decode M_PR_readChar.2.1 87 = .ok (.iconst 2, 1) := by decide +kernel
theorem d_PR_readChar_88 : decode M_PR_readChar.2.1 88 = .ok (.iadd, 1) := by decide +kernel
theorem d_PR_readChar_89 : decode M_PR_readChar.2.1 89 = .ok (.invokevirtual 52, 3) := by decide +kernel
theorem d_PR_readChar_92 : decode M_PR_readChar.2.1 92 = .ok (.iconst 1, 1) := by decide +kernel
theorem d_PR_readChar_93 : decode M_PR_readChar.2.1 93 = .ok (.if_icmp .ne 8, 3) := by decide +kernel
theorem d_PR_readChar_96 : decode M_PR_readChar.2.1 96 = .ok (.iload_n 2, 1) := by decide +kernel
theorem d_PR_readChar_97 : decode M_PR_readChar.2.1 97 = .ok (.iload_n 1, 1) := by decide +kernel
theorem d_PR_readChar_98 : decode M_PR_readChar.2.1 98 = .ok (.if_icmp .ge 5, 3) := by decide +kernel
theorem d_PR_readChar_101 : decode M_PR_readChar.2.1 101 = .ok (.iconst 0, 1) := by decide +kernel
theorem d_PR_readChar_102 : decode M_PR_readChar.2.1 102 = .ok (.ireturn, 1) := by decide +kernel
theorem d_PR_readChar_103 : decode M_PR_readChar.2.1 103 = .ok (.aload_n 0, 1) := by decide +kernel
theorem d_PR_readChar_104 : decode M_PR_readChar.2.1 104 = .ok (.iload_n 1, 1) := by decide +kernel
theorem d_PR_readChar_105 : decode M_PR_readChar.2.1 105 = .ok (.iload_n 2, 1) := by decide +kernel
theorem d_PR_readChar_106 : decode M_PR_readChar.2.1 106 = .ok (.iconst 3, 1) := by decide +kernel
theorem d_PR_readChar_107 : decode M_PR_readChar.2.1 107 = .ok (.invokevirtual 119, 3) := by decide +kernel
theorem d_PR_readChar_110 : decode M_PR_readChar.2.1 110 = .ok (.aload_n 0, 1) := by decide +kernel
theorem d_PR_readChar_111 : decode M_PR_readChar.2.1 111 = .ok (.aload_n 0, 1) := by decide +kernel
theorem d_PR_readChar_112 : decode M_PR_readChar.2.1 112 = .ok (.getfield 27, 3) := by decide +kernel
theorem d_PR_readChar_115 : decode M_PR_readChar.2.1 115 = .ok (.iconst 0, 1) := by decide +kernel
theorem d_PR_readChar_116 : decode M_PR_readChar.2.1 116 = .ok (.invokevirtual 102, 3) := by decide +kernel
theorem d_PR_readChar_119 : decode M_PR_readChar.2.1 119 = .ok (.ireturn, 1) := by decide +kernel
theorem d_PR_readHyphen_0 : decode M_PR_readHyphen.2.1 0 = .ok (.aload_n 0, 1) := by decide +kernel
theorem d_PR_readHyphen_1 : decode M_PR_readHyphen.2.1 1 = .ok (.invokevirtual 86, 3) := by decide +kernel
theorem d_PR_readHyphen_4 : decode M_PR_readHyphen.2.1 4 = .ok (.getfield 131, 3) := by decide +kernel
theorem d_PR_readHyphen_7 : decode M_PR_readHyphen.2.1 7 = .ok (.ifCond .eq 21, 3) := by decide +kernel
theorem d_PR_readHyphen_10 : decode M_PR_readHyphen.2.1 10 = .ok (.aload_n 0, 1) := by decide +kernel
theorem d_PR_readHyphen_11 : decode M_PR_readHyphen.2.1 11 = .ok (.getfield 12, 3) := by decide +kernel
theorem d_PR_readHyphen_14 : decode M_PR_readHyphen.2.1 14 = .ok (.aload_n 0, 1) := by decide +kernel
theorem d_PR_readHyphen_15 : decode M_PR_readHyphen.2.1 15 = .ok (.getfield 42, 3) := by decide +kernel
theorem d_PR_readHyphen_18 : decode M_PR_readHyphen.2.1 18 = .ok (.iconst 1, 1) := by decide +kernel
theorem d_PR_readHyphen_19 : decode M_PR_readHyphen.2.1 19 = .ok (.iadd, 1) := by decide +kernel
theorem d_PR_readHyphen_20 : decode M_PR_readHyphen.2.1 20 = .ok (.invokevirtual 52, 3) := by decide +kernel
theorem d_PR_readHyphen_23 : decode M_PR_readHyphen.2.1 23 = .ok (.bipush 6, 2) := by decide +kernel
theorem d_PR_readHyphen_25 : decode M_PR_readHyphen.2.1 25 = .ok (.if_icmp .ne 22, 3) := by decide +kernel
theorem d_PR_readHyphen_28 : decode M_PR_readHyphen.2.1 28 = .ok (.aload_n 0, 1) := by decide +kernel
theorem d_PR_readHyphen_29 : decode M_PR_readHyphen.2.1 29 = .ok (.bipush 45, 2) := by decide +kernel
theorem d_PR_readHyphen_31 : decode M_PR_readHyphen.2.1 31 = .ok (.bipush 45, 2) := by decide +kernel
theorem d_PR_readHyphen_33 : decode M_PR_readHyphen.2.1 33 = .ok (.iconst 1, 1) := by decide +kernel
theorem d_PR_readHyphen_34 : decode M_PR_readHyphen.2.1 34 = .ok (.invokevirtual 119, 3) := by decide +kernel
theorem d_PR_readHyphen_37 : decode M_PR_readHyphen.2.1 37 = .ok (.aload_n 0, 1) := by decide +kernel
theorem d_PR_readHyphen_38 : decode M_PR_readHyphen.2.1 38 = .ok (.aload_n 0, 1) := by decide +kernel
theorem d_PR_readHyphen_39 : decode M_PR_readHyphen.2.1 39 = .ok (.getfield 27, 3) := by decide +kernel
theorem d_PR_readHyphen_42 : decode M_PR_readHyphen.2.1 42 = .ok (.iconst 0, 1) := by decide +kernel
theorem d_PR_readHyphen_43 : decode M_PR_readHyphen.2.1 43 = .ok (.invokevirtual 102, 3) := by decide +kernel
theorem d_PR_readHyphen_46 : decode M_PR_readHyphen.2.1 46 = .ok (.ireturn, 1) := by decide +kernel
theorem d_PR_readHyphen_47 : decode M_PR_readHyphen.2.1 47 = .ok (.aload_n 0, 1) := by decide +kernel
theorem d_PR_readHyphen_48 : decode M_PR_readHyphen.2.1 48 = .ok (.iconst 2, 1) := by decide +kernel
theorem d_PR_readHyphen_49 : decode M_PR_readHyphen.2.1 49 = .ok (.invokevirtual 79, 3) := by decide +kernel
theorem d_PR_readHyphen_52 : decode M_PR_readHyphen.2.1 52 = .ok (.ireturn, 1) := by decide +kernel
theorem d_PR_readSign_0 : decode M_PR_readSign.2.1 0 = .ok (.aload_n 0, 1) := by decide +kernel
theorem d_PR_readSign_1 : decode M_PR_readSign.2.1 1 = .ok (.invokevirtual 86, 3) := by decide +kernel
theorem d_PR_readSign_4 : decode M_PR_readSign.2.1 4 = .ok (.astore_n 2, 1) := by decide +kernel
theorem d_PR_readSign_5 : decode M_PR_readSign.2.1 5 = .ok (.aload_n 2, 1) := by decide +kernel
theorem d_PR_readSign_6 : decode M_PR_readSign.2.1 6 = .ok (.getfield 134, 3) := by decide +kernel
theorem d_PR_readSign_9 : decode M_PR_readSign.2.1 9 = .ok (.ifCond .eq 19, 3) := by decide +kernel
theorem d_PR_readSign_12 : decode M_PR_readSign.2.1 12 = .ok (.aload_n 0, 1) := by decide +kernel
theorem d_PR_readSign_13 : decode M_PR_readSign.2.1 13 = .ok (.getfield 12, 3) := by decide +kernel
theorem d_PR_readSign_16 : decode M_PR_readSign.2.1 16 = .ok (.aload_n 0, 1) := by decide +kernel
theorem d_PR_readSign_17 : decode M_PR_readSign.2.1 17 = .ok (.getfield 42, 3) := by decide +kernel
theorem d_PR_readSign_20 : decode M_PR_readSign.2.1 20 = .ok (.iconst 1, 1) := by decide +kernel
theorem d_PR_readSign_21 : decode M_PR_readSign.2.1 21 = .ok (.iadd, 1) := by decide +kernel
theorem d_PR_readSign_22 : decode M_PR_readSign.2.1 22 = .ok (.invokevirtual 56, 3) := by decide +kernel
theorem d_PR_readSign_25 : decode M_PR_readSign.2.1 25 = .ok (.ifCond .ne 5, 3) := by decide +kernel
theorem d_PR_readSign_28 : decode M_PR_readSign.2.1 28 = .ok (.iconst 0, 1) := by decide +kernel
theorem d_PR_readSign_29 : decode M_PR_readSign.2.1 29 = .ok (.ireturn, 1) := by decide +kernel
theorem d_PR_readSign_30 : decode M_PR_readSign.2.1 30 = .ok (.aload_n 2, 1) := by decide +kernel
theorem d_PR_readSign_31 : decode M_PR_readSign.2.1 31 = .ok (.iload_n 1, 1) := by decide +kernel
theorem d_PR_readSign_32 : decode M_PR_readSign.2.1 32 = .ok (.putfield 137, 3) := by decide +kernel
theorem d_PR_readSign_35 : decode M_PR_readSign.2.1 35 = .ok (.aload_n 0, 1) := by decide +kernel
theorem d_PR_readSign_36 : decode M_PR_readSign.2.1 36 = .ok (.dup, 1) := by decide +kernel
theorem d_PR_readSign_37 : decode M_PR_readSign.2.1 37 = .ok (.getfield 42, 3) := by decide +kernel
theorem d_PR_readSign_40 : decode M_PR_readSign.2.1 40 = .ok (.iconst 1, 1) := by decide +kernel
theorem d_PR_readSign_41 : decode M_PR_readSign.2.1 41 = .ok (.iadd, 1) := by decide +kernel
theorem d_PR_readSign_42 : decode M_PR_readSign.2.1 42 = .ok (.putfield 42, 3) := by decide +kernel
theorem d_PR_readSign_45 : decode M_PR_readSign.2.1 45 = .ok (.iconst 1, 1) := by decide +kernel
theorem d_PR_readSign_46 : decode M_PR_readSign.2.1 46 = .ok (.ireturn, 1) := by decide +kernel
theorem d_PR_takeRange_0 : decode M_PR_takeRange.2.1 0 = .ok (.aload_n 0, 1) := by decide +kernel
theorem d_PR_takeRange_1 : decode M_PR_takeRange.2.1 1 = .ok (.getfield 27, 3) := by decide +kernel
theorem d_PR_takeRange_4 : decode M_PR_takeRange.2.1 4 = .ok (.invokevirtual 140, 3) := by decide +kernel
theorem d_PR_takeRange_7 : decode M_PR_takeRange.2.1 7 = .ok (.aload_n 0, 1) := by decide +kernel
theorem d_PR_takeRange_8 : decode M_PR_takeRange.2.1 8 = .ok (.getfield 27, 3) := by decide +kernel
theorem d_PR_takeRange_11 : decode M_PR_takeRange.2.1 11 = .ok (.iload_n 1, 1) := by decide +kernel
theorem d_PR_takeRange_12 : decode M_PR_takeRange.2.1 12 = .ok (.iload_n 2, 1) := by decide +kernel
theorem d_PR_takeRange_13 : decode M_PR_takeRange.2.1 13 = .ok (.invokevirtual 143, 3) := by decide +kernel
theorem d_PR_takeRange_16 : decode M_PR_takeRange.2.1 16 = .ok (.aload_n 0, 1) := by decide +kernel
theorem d_PR_takeRange_17 : decode M_PR_takeRange.2.1 17 = .ok (.dup, 1) := by decide +kernel
theorem d_PR_takeRange_18 : decode M_PR_takeRange.2.1 18 = .ok (.getfield 42, 3) := by decide +kernel
theorem d_PR_takeRange_21 : decode M_PR_takeRange.2.1 21 = .ok (.iload_n 3, 1) := by decide +kernel
theorem d_PR_takeRange_22 : decode M_PR_takeRange.2.1 22 = .ok (.iadd, 1) := by decide +kernel
theorem d_PR_takeRange_23 : decode M_PR_takeRange.2.1 23 = .ok (.putfield 42, 3) := by decide +kernel
theorem d_PR_takeRange_26 : decode M_PR_takeRange.2.1 26 = .ok (.return_, 1) := by decide +kernel
theorem d_PR_join_0 : decode M_PR_join.2.1 0 = .ok (.aload_n 0, 1) := by decide +kernel
theorem d_PR_join_1 : decode M_PR_join.2.1 1 = .ok (.getfield 38, 3) := by decide +kernel
theorem d_PR_join_4 : decode M_PR_join.2.1 4 = .ok (.ifCond .ne 10, 3) := by decide +kernel
theorem d_PR_join_7 : decode M_PR_join.2.1 7 = .ok (.aload_n 0, 1) := by decide +kernel
theorem d_PR_join_8 : decode M_PR_join.2.1 8 = .ok (.aload_n 1, 1) := by decide +kernel
theorem d_PR_join_9 : decode M_PR_join.2.1 9 = .ok (.putfield 34, 3) := by decide +kernel
theorem d_PR_join_12 : decode M_PR_join.2.1 12 = .ok (.iconst 1, 1) := by decide +kernel
theorem d_PR_join_13 : decode M_PR_join.2.1 13 = .ok (.ireturn, 1) := by decide +kernel
theorem d_PR_join_14 : decode M_PR_join.2.1 14 = .ok (.aload_n 0, 1) := by decide +kernel
theorem d_PR_join_15 : decode M_PR_join.2.1 15 = .ok (.invokevirtual 86, 3) := by decide +kernel
theorem d_PR_join_18 : decode M_PR_join.2.1 18 = .ok (.astore_n 3, 1) := by decide +kernel
theorem d_PR_join_19 : decode M_PR_join.2.1 19 = .ok (.aload_n 0, 1) := by decide +kernel
theorem d_PR_join_20 : decode M_PR_join.2.1 20 = .ok (.getfield 31, 3) := by decide +kernel
theorem d_PR_join_23 : decode M_PR_join.2.1 23 = .ok (.aload_n 3, 1) := by decide +kernel
theorem d_PR_join_24 : decode M_PR_join.2.1 24 = .ok (.getfield 94, 3) := by decide +kernel
theorem d_PR_join_27 : decode M_PR_join.2.1 27 = .ok (.aload_n 1, 1) := by decide +kernel
theorem d_PR_join_28 : decode M_PR_join.2.1 28 = .ok (.aload_n 3, 1) := by decide +kernel
theorem d_PR_join_29 : decode M_PR_join.2.1 29 = .ok (.getfield 137, 3) := by decide +kernel
theorem d_PR_join_32 : decode M_PR_join.2.1 32 = .ok (.invokevirtual 147, 3) := by decide +kernel
theorem d_PR_join_35 : decode M_PR_join.2.1 35 = .ok (.aload_n 3, 1) := by decide +kernel
theorem d_PR_join_36 : decode M_PR_join.2.1 36 = .ok (.getfield 94, 3) := by decide +kernel
theorem d_PR_join_39 : decode M_PR_join.2.1 39 = .ok (.astore 4, 2) := by decide +kernel
theorem d_PR_join_41 : decode M_PR_join.2.1 41 = .ok (.aload_n 3, 1) := by decide +kernel
theorem d_PR_join_42 : decode M_PR_join.2.1 42 = .ok (.aload_n 0, 1) := by decide +kernel
theorem d_PR_join_43 : decode M_PR_join.2.1 43 = .ok (.getfield 31, 3) := by decide +kernel
theorem d_PR_join_46 : decode M_PR_join.2.1 46 = .ok (.putfield 94, 3) := by decide +kernel
theorem d_PR_join_49 : decode M_PR_join.2.1 49 = .ok (.aload_n 0, 1) := by decide +kernel
theorem d_PR_join_50 : decode M_PR_join.2.1 50 = .ok (.aload 4, 2) := by decide +kernel
theorem d_PR_join_52 : decode M_PR_join.2.1 52 = .ok (.putfield 31, 3) := by decide +kernel
theorem d_PR_join_55 : decode M_PR_join.2.1 55 = .ok (.aload_n 3, 1) := by decide +kernel
theorem d_PR_join_56 : decode M_PR_join.2.1 56 = .ok (.iconst 0, 1) := by decide +kernel
theorem d_PR_join_57 : decode M_PR_join.2.1 57 = .ok (.putfield 137, 3) := by decide +kernel
theorem d_PR_join_60 : decode M_PR_join.2.1 60 = .ok (.aload_n 3, 1) := by decide +kernel
theorem d_PR_join_61 : decode M_PR_join.2.1 61 = .ok (.iload_n 2, 1) := by decide +kernel
theorem d_PR_join_62 : decode M_PR_join.2.1 62 = .ok (.putfield 134, 3) := by decide +kernel
theorem d_PR_join_65 : decode M_PR_join.2.1 65 = .ok (.aload_n 3, 1) := by decide +kernel
theorem d_PR_join_66 : decode M_PR_join.2.1 66 = .ok (.dup, 1) := by decide +kernel
theorem d_PR_join_67 : decode M_PR_join.2.1 67 = .ok (.getfield 131, 3) := by decide +kernel
theorem d_PR_join_70 : decode M_PR_join.2.1 70 = .ok (.iconst 1, 1) := by decide +kernel
theorem d_PR_join_71 : decode M_PR_join.2.1 71 = .ok (.iadd, 1) := by decide +kernel
theorem d_PR_join_72 : decode M_PR_join.2.1 72 = .ok (.putfield 131, 3) := by decide +kernel
theorem d_PR_join_75 : decode M_PR_join.2.1 75 = .ok (.aload_n 3, 1) := by decide +kernel
theorem d_PR_join_76 : decode M_PR_join.2.1 76 = .ok (.getfield 94, 3) := by decide +kernel
theorem d_PR_join_79 : decode M_PR_join.2.1 79 = .ok (.getfield 95, 3) := by decide +kernel
theorem d_PR_join_82 : decode M_PR_join.2.1 82 = .ok (.bipush 8, 2) := by decide +kernel
theorem d_PR_join_84 : decode M_PR_join.2.1 84 = .ok (.if_icmp .gt 7, 3) := by decide +kernel
theorem d_PR_join_87 : decode M_PR_join.2.1 87 = .ok (.iconst 1, 1) := by decide +kernel
theorem d_PR_join_88 : decode M_PR_join.2.1 88 = .ok (.goto 4, 3) := by decide +kernel
theorem d_PR_join_91 : decode M_PR_join.2.1 91 = .ok (.iconst 0, 1) := by decide +kernel
theorem d_PR_join_92 : decode M_PR_join.2.1 92 = .ok (.ireturn, 1) := by decide +kernel
theorem d_PR_innermost_0 : decode M_PR_innermost.2.1 0 = .ok (.aload_n 0, 1) := by decide +kernel
theorem d_PR_innermost_1 : decode M_PR_innermost.2.1 1 = .ok (.getfield 20, 3) := by decide +kernel
theorem d_PR_innermost_4 : decode M_PR_innermost.2.1 4 = .ok (.aload_n 0, 1) := by decide +kernel
theorem d_PR_innermost_5 : decode M_PR_innermost.2.1 5 = .ok (.getfield 38, 3) := by decide +kernel
theorem d_PR_innermost_8 : decode M_PR_innermost.2.1 8 = .ok (.ifCond .le 12, 3) := by decide +kernel
theorem d_PR_innermost_11 : decode M_PR_innermost.2.1 11 = .ok (.aload_n 0, 1) := by decide +kernel
theorem d_PR_innermost_12 : decode M_PR_innermost.2.1 12 = .ok (.getfield 38, 3) := by decide +kernel
theorem d_PR_innermost_15 : decode M_PR_innermost.2.1 15 = .ok (.iconst 1, 1) := by decide +kernel
theorem d_PR_innermost_16 : decode M_PR_innermost.2.1 16 = .ok (.isub, 1) := by decide +kernel
theorem d_PR_innermost_17 : decode M_PR_innermost.2.1 17 = .ok (.goto 4, 3) := by decide +kernel
theorem d_PR_innermost_20 : decode M_PR_innermost.2.1 20 = .ok (.iconst 0, 1) := by decide +kernel
theorem d_PR_innermost_21 : decode M_PR_innermost.2.1 21 = .ok (.aaload, 1) := by decide +kernel
theorem d_PR_innermost_22 : decode M_PR_innermost.2.1 22 = .ok (.areturn, 1) := by decide +kernel
