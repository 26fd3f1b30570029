/-! decode rows of CR: written by wip/gen/mknames.py -/
theorem d_CR_init_0 : decode M_CR_init.2.1 0 = .ok (.aload_n 0, 1) := by decide +kernel
theorem d_CR_init_1 : decode M_CR_init.2.1 1 = .ok (.invokespecial 3, 3) := by decide +kernel
theorem d_CR_init_4 : decode M_CR_init.2.1 4 = .ok (.aload_n 0, 1) := by decide +kernel
theorem d_CR_init_5 : decode M_CR_init.2.1 5 = .ok (.bipush 60, 2) := by decide +kernel
theorem d_CR_init_7 : decode M_CR_init.2.1 7 = .ok (.newarray .int, 2) := by decide +kernel
theorem d_CR_init_9 : decode M_CR_init.2.1 9 = .ok (.putfield 9, 3) := by decide +kernel
theorem d_CR_init_12 : decode M_CR_init.2.1 12 = .ok (.return_, 1) := by decide +kernel
theorem d_CR_append_0 : decode M_CR_append.2.1 0 = .ok (.aload_n 0, 1) := by decide +kernel
theorem d_CR_append_1 : decode M_CR_append.2.1 1 = .ok (.getfield 15, 3) := by decide +kernel
theorem d_CR_append_4 : decode M_CR_append.2.1 4 = .ok (.bipush 60, 2) := by decide +kernel
theorem d_CR_append_6 : decode M_CR_append.2.1 6 = .ok (.if_icmp .lt 5, 3) := by decide +kernel
theorem d_CR_append_9 : decode M_CR_append.2.1 9 = .ok (.iconst 0, 1) := by decide +kernel
theorem d_CR_append_10 : decode M_CR_append.2.1 10 = .ok (.ireturn, 1) := by decide +kernel
theorem d_CR_append_11 : decode M_CR_append.2.1 11 = .ok (.aload_n 0, 1) := by decide +kernel
theorem d_CR_append_12 : decode M_CR_append.2.1 12 = .ok (.getfield 9, 3) := by decide +kernel
theorem d_CR_append_15 : decode M_CR_append.2.1 15 = .ok (.aload_n 0, 1) := by decide +kernel
theorem d_CR_append_16 : decode M_CR_append.2.1 16 = .ok (.getfield 15, 3) := by decide +kernel
theorem d_CR_append_19 : decode M_CR_append.2.1 19 = .ok (.iload_n 1, 1) := by decide +kernel
theorem d_CR_append_20 : decode M_CR_append.2.1 20 = .ok (.iastore, 1) := by decide +kernel
theorem d_CR_append_21 : decode M_CR_append.2.1 21 = .ok (.aload_n 0, 1) := by decide +kernel
theorem d_CR_append_22 : decode M_CR_append.2.1 22 = .ok (.dup, 1) := by decide +kernel
theorem d_CR_append_23 : decode M_CR_append.2.1 23 = .ok (.getfield 15, 3) := by decide +kernel
theorem d_CR_append_26 : decode M_CR_append.2.1 26 = .ok (.iconst 1, 1) := by decide +kernel
theorem d_CR_append_27 : decode M_CR_append.2.1 27 = .ok (.iadd, 1) := by decide +kernel
theorem d_CR_append_28 : decode M_CR_append.2.1 28 = .ok (.putfield 15, 3) := by decide +kernel
theorem d_CR_append_31 : decode M_CR_append.2.1 31 = .ok (.iconst 1, 1) := by decide +kernel
theorem d_CR_append_32 : decode M_CR_append.2.1 32 = .ok (.ireturn, 1) := by decide +kernel
theorem d_CR_clear_0 : decode M_CR_clear.2.1 0 = .ok (.aload_n 0, 1) := by decide +kernel
theorem d_CR_clear_1 : decode M_CR_clear.2.1 1 = .ok (.iconst 0, 1) := by decide +kernel
theorem d_CR_clear_2 : decode M_CR_clear.2.1 2 = .ok (.putfield 15, 3) := by decide +kernel
theorem d_CR_clear_5 : decode M_CR_clear.2.1 5 = .ok (.return_, 1) := by decide +kernel
theorem d_CR_codeAt_0 : decode M_CR_codeAt.2.1 0 = .ok (.iload_n 1, 1) := by decide +kernel
theorem d_CR_codeAt_1 : decode M_CR_codeAt.2.1 1 = .ok (.ifCond .lt 20, 3) := by decide +kernel
theorem d_CR_codeAt_4 : decode M_CR_codeAt.2.1 4 = .ok (.iload_n 1, 1) := by decide +kernel
theorem d_CR_codeAt_5 : decode M_CR_codeAt.2.1 5 = .ok (.aload_n 0, 1) := by decide +kernel
theorem d_CR_codeAt_6 : decode M_CR_codeAt.2.1 6 = .ok (.getfield 15, 3) := by decide +kernel
theorem d_CR_codeAt_9 : decode M_CR_codeAt.2.1 9 = .ok (.if_icmp .ge 12, 3) := by decide +kernel
theorem d_CR_codeAt_12 : decode M_CR_codeAt.2.1 12 = .ok (.aload_n 0, 1) := by decide +kernel
theorem d_CR_codeAt_13 : decode M_CR_codeAt.2.1 13 = .ok (.getfield 9, 3) := by decide +kernel
theorem d_CR_codeAt_16 : decode M_CR_codeAt.2.1 16 = .ok (.iload_n 1, 1) := by decide +kernel
theorem d_CR_codeAt_17 : decode M_CR_codeAt.2.1 17 = .ok (.iaload, 1) := by decide +kernel
theorem d_CR_codeAt_18 : decode M_CR_codeAt.2.1 18 = .ok (.goto 4, 3) := by decide +kernel
theorem d_CR_codeAt_21 : decode M_CR_codeAt.2.1 21 = .ok (.iconst (-1), 1) := by decide +kernel
theorem d_CR_codeAt_22 : decode M_CR_codeAt.2.1 22 = .ok (.ireturn, 1) := by decide +kernel
theorem d_CR_become_0 : decode M_CR_become.2.1 0 = .ok (.aload_n 1, 1) := by decide +kernel
theorem d_CR_become_1 : decode M_CR_become.2.1 1 = .ok (.getfield 9, 3) := by decide +kernel
theorem d_CR_become_4 : decode M_CR_become.2.1 4 = .ok (.iconst 0, 1) := by decide +kernel
theorem d_CR_become_5 : decode M_CR_become.2.1 5 = .ok (.aload_n 0, 1) := by decide +kernel
theorem d_CR_become_6 : decode M_CR_become.2.1 6 = .ok (.getfield 9, 3) := by decide +kernel
theorem d_CR_become_9 : decode M_CR_become.2.1 9 = .ok (.iconst 0, 1) := by decide +kernel
theorem d_CR_become_10 : decode M_CR_become.2.1 10 = .ok (.aload_n 1, 1) := by decide +kernel
theorem d_CR_become_11 : decode M_CR_become.2.1 11 = .ok (.getfield 15, 3) := by decide +kernel
theorem d_CR_become_14 : decode M_CR_become.2.1 14 = .ok (.invokestatic 19, 3) := by decide +kernel
theorem d_CR_become_17 : decode M_CR_become.2.1 17 = .ok (.aload_n 0, 1) := by decide +kernel
theorem d_CR_become_18 : decode M_CR_become.2.1 18 = .ok (.aload_n 1, 1) := by decide +kernel
theorem d_CR_become_19 : decode M_CR_become.2.1 19 = .ok (.getfield 15, 3) := by decide +kernel
theorem d_CR_become_22 : decode M_CR_become.2.1 22 = .ok (.putfield 15, 3) := by decide +kernel
theorem d_CR_become_25 : decode M_CR_become.2.1 25 = .ok (.return_, 1) := by decide +kernel
