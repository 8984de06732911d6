theorem dc_P_init_0 : decode bc_P_init 0 = .ok (.aload_n 0, 1) := by decide +kernel
theorem dc_P_init_1 : decode bc_P_init 1 = .ok (.invokespecial 3, 3) := by decide +kernel
theorem dc_P_init_4 : decode bc_P_init 4 = .ok (.aload_n 0, 1) := by decide +kernel
theorem dc_P_init_5 : decode bc_P_init 5 = .ok (.bipush 40, 2) := by decide +kernel
theorem dc_P_init_7 : decode bc_P_init 7 = .ok (.newarray .int, 2) := by decide +kernel
theorem dc_P_init_9 : decode bc_P_init 9 = .ok (.putfield 9, 3) := by decide +kernel
theorem dc_P_init_12 : decode bc_P_init 12 = .ok (.aload_n 0, 1) := by decide +kernel
theorem dc_P_init_13 : decode bc_P_init 13 = .ok (.bipush 40, 2) := by decide +kernel
theorem dc_P_init_15 : decode bc_P_init 15 = .ok (.newarray .int, 2) := by decide +kernel
theorem dc_P_init_17 : decode bc_P_init 17 = .ok (.putfield 15, 3) := by decide +kernel
theorem dc_P_init_20 : decode bc_P_init 20 = .ok (.return_, 1) := by decide +kernel
theorem dc_I_init_0 : decode bc_I_init 0 = .ok (.aload_n 0, 1) := by decide +kernel
theorem dc_I_init_1 : decode bc_I_init 1 = .ok (.invokespecial 3, 3) := by decide +kernel
theorem dc_I_init_4 : decode bc_I_init 4 = .ok (.aload_n 0, 1) := by decide +kernel
theorem dc_I_init_5 : decode bc_I_init 5 = .ok (.bipush 40, 2) := by decide +kernel
theorem dc_I_init_7 : decode bc_I_init 7 = .ok (.newarray .int, 2) := by decide +kernel
theorem dc_I_init_9 : decode bc_I_init 9 = .ok (.putfield 9, 3) := by decide +kernel
theorem dc_I_init_12 : decode bc_I_init 12 = .ok (.aload_n 0, 1) := by decide +kernel
theorem dc_I_init_13 : decode bc_I_init 13 = .ok (.bipush 40, 2) := by decide +kernel
theorem dc_I_init_15 : decode bc_I_init 15 = .ok (.newarray .int, 2) := by decide +kernel
theorem dc_I_init_17 : decode bc_I_init 17 = .ok (.putfield 15, 3) := by decide +kernel
theorem dc_I_init_20 : decode bc_I_init 20 = .ok (.aload_n 0, 1) := by decide +kernel
theorem dc_I_init_21 : decode bc_I_init 21 = .ok (.bipush 40, 2) := by decide +kernel
theorem dc_I_init_23 : decode bc_I_init 23 = .ok (.newarray .int, 2) := by decide +kernel
theorem dc_I_init_25 : decode bc_I_init 25 = .ok (.putfield 18, 3) := by decide +kernel
theorem dc_I_init_28 : decode bc_I_init 28 = .ok (.aload_n 0, 1) := by decide +kernel
theorem dc_I_init_29 : decode bc_I_init 29 = .ok (.bipush 40, 2) := by decide +kernel
theorem dc_I_init_31 : decode bc_I_init 31 = .ok (.newarray .long, 2) := by decide +kernel
theorem dc_I_init_33 : decode bc_I_init 33 = .ok (.putfield 21, 3) := by decide +kernel
theorem dc_I_init_36 : decode bc_I_init 36 = .ok (.return_, 1) := by decide +kernel
theorem dc_M_init_0 : decode bc_M_init 0 = .ok (.aload_n 0, 1) := by decide +kernel
theorem dc_M_init_1 : decode bc_M_init 1 = .ok (.invokespecial 3, 3) := by decide +kernel
theorem dc_M_init_4 : decode bc_M_init 4 = .ok (.aload_n 0, 1) := by decide +kernel
theorem dc_M_init_5 : decode bc_M_init 5 = .ok (.bipush 104, 2) := by decide +kernel
theorem dc_M_init_7 : decode bc_M_init 7 = .ok (.newarray .int, 2) := by decide +kernel
theorem dc_M_init_9 : decode bc_M_init 9 = .ok (.putfield 9, 3) := by decide +kernel
theorem dc_M_init_12 : decode bc_M_init 12 = .ok (.aload_n 0, 1) := by decide +kernel
theorem dc_M_init_13 : decode bc_M_init 13 = .ok (.bipush 104, 2) := by decide +kernel
theorem dc_M_init_15 : decode bc_M_init 15 = .ok (.newarray .int, 2) := by decide +kernel
theorem dc_M_init_17 : decode bc_M_init 17 = .ok (.putfield 15, 3) := by decide +kernel
theorem dc_M_init_20 : decode bc_M_init 20 = .ok (.aload_n 0, 1) := by decide +kernel
theorem dc_M_init_21 : decode bc_M_init 21 = .ok (.bipush 104, 2) := by decide +kernel
theorem dc_M_init_23 : decode bc_M_init 23 = .ok (.newarray .int, 2) := by decide +kernel
theorem dc_M_init_25 : decode bc_M_init 25 = .ok (.putfield 18, 3) := by decide +kernel
theorem dc_M_init_28 : decode bc_M_init 28 = .ok (.aload_n 0, 1) := by decide +kernel
theorem dc_M_init_29 : decode bc_M_init 29 = .ok (.bipush 104, 2) := by decide +kernel
theorem dc_M_init_31 : decode bc_M_init 31 = .ok (.newarray .int, 2) := by decide +kernel
theorem dc_M_init_33 : decode bc_M_init 33 = .ok (.putfield 21, 3) := by decide +kernel
theorem dc_M_init_36 : decode bc_M_init 36 = .ok (.aload_n 0, 1) := by decide +kernel
theorem dc_M_init_37 : decode bc_M_init 37 = .ok (.bipush 104, 2) := by decide +kernel
theorem dc_M_init_39 : decode bc_M_init 39 = .ok (.newarray .int, 2) := by decide +kernel
theorem dc_M_init_41 : decode bc_M_init 41 = .ok (.putfield 24, 3) := by decide +kernel
theorem dc_M_init_44 : decode bc_M_init 44 = .ok (.return_, 1) := by decide +kernel
theorem dc_P_clear_0 : decode bc_P_clear 0 = .ok (.aload_n 0, 1) := by decide +kernel
theorem dc_P_clear_1 : decode bc_P_clear 1 = .ok (.iconst 0, 1) := by decide +kernel
theorem dc_P_clear_2 : decode bc_P_clear 2 = .ok (.putfield 18, 3) := by decide +kernel
theorem dc_P_clear_5 : decode bc_P_clear 5 = .ok (.aload_n 0, 1) := by decide +kernel
theorem dc_P_clear_6 : decode bc_P_clear 6 = .ok (.iconst 0, 1) := by decide +kernel
theorem dc_P_clear_7 : decode bc_P_clear 7 = .ok (.putfield 22, 3) := by decide +kernel
theorem dc_P_clear_10 : decode bc_P_clear 10 = .ok (.aload_n 0, 1) := by decide +kernel
theorem dc_P_clear_11 : decode bc_P_clear 11 = .ok (.iconst 0, 1) := by decide +kernel
theorem dc_P_clear_12 : decode bc_P_clear 12 = .ok (.putfield 26, 3) := by decide +kernel
theorem dc_P_clear_15 : decode bc_P_clear 15 = .ok (.aload_n 0, 1) := by decide +kernel
theorem dc_P_clear_16 : decode bc_P_clear 16 = .ok (.iconst 0, 1) := by decide +kernel
theorem dc_P_clear_17 : decode bc_P_clear 17 = .ok (.putfield 29, 3) := by decide +kernel
theorem dc_P_clear_20 : decode bc_P_clear 20 = .ok (.aload_n 0, 1) := by decide +kernel
theorem dc_P_clear_21 : decode bc_P_clear 21 = .ok (.lconst 0, 1) := by decide +kernel
theorem dc_P_clear_22 : decode bc_P_clear 22 = .ok (.putfield 32, 3) := by decide +kernel
theorem dc_P_clear_25 : decode bc_P_clear 25 = .ok (.aload_n 0, 1) := by decide +kernel
theorem dc_P_clear_26 : decode bc_P_clear 26 = .ok (.lconst 0, 1) := by decide +kernel
theorem dc_P_clear_27 : decode bc_P_clear 27 = .ok (.putfield 36, 3) := by decide +kernel
theorem dc_P_clear_30 : decode bc_P_clear 30 = .ok (.aload_n 0, 1) := by decide +kernel
theorem dc_P_clear_31 : decode bc_P_clear 31 = .ok (.iconst 0, 1) := by decide +kernel
theorem dc_P_clear_32 : decode bc_P_clear 32 = .ok (.putfield 39, 3) := by decide +kernel
theorem dc_P_clear_35 : decode bc_P_clear 35 = .ok (.aload_n 0, 1) := by decide +kernel
theorem dc_P_clear_36 : decode bc_P_clear 36 = .ok (.iconst 0, 1) := by decide +kernel
theorem dc_P_clear_37 : decode bc_P_clear 37 = .ok (.putfield 42, 3) := by decide +kernel
theorem dc_P_clear_40 : decode bc_P_clear 40 = .ok (.aload_n 0, 1) := by decide +kernel
theorem dc_P_clear_41 : decode bc_P_clear 41 = .ok (.iconst 0, 1) := by decide +kernel
theorem dc_P_clear_42 : decode bc_P_clear 42 = .ok (.putfield 45, 3) := by decide +kernel
theorem dc_P_clear_45 : decode bc_P_clear 45 = .ok (.return_, 1) := by decide +kernel
theorem dc_I_clear_0 : decode bc_I_clear 0 = .ok (.aload_n 0, 1) := by decide +kernel
theorem dc_I_clear_1 : decode bc_I_clear 1 = .ok (.iconst 0, 1) := by decide +kernel
theorem dc_I_clear_2 : decode bc_I_clear 2 = .ok (.putfield 25, 3) := by decide +kernel
theorem dc_I_clear_5 : decode bc_I_clear 5 = .ok (.aload_n 0, 1) := by decide +kernel
theorem dc_I_clear_6 : decode bc_I_clear 6 = .ok (.lconst 0, 1) := by decide +kernel
theorem dc_I_clear_7 : decode bc_I_clear 7 = .ok (.putfield 29, 3) := by decide +kernel
theorem dc_I_clear_10 : decode bc_I_clear 10 = .ok (.aload_n 0, 1) := by decide +kernel
theorem dc_I_clear_11 : decode bc_I_clear 11 = .ok (.lconst 0, 1) := by decide +kernel
theorem dc_I_clear_12 : decode bc_I_clear 12 = .ok (.putfield 33, 3) := by decide +kernel
theorem dc_I_clear_15 : decode bc_I_clear 15 = .ok (.aload_n 0, 1) := by decide +kernel
theorem dc_I_clear_16 : decode bc_I_clear 16 = .ok (.lconst 0, 1) := by decide +kernel
theorem dc_I_clear_17 : decode bc_I_clear 17 = .ok (.putfield 36, 3) := by decide +kernel
theorem dc_I_clear_20 : decode bc_I_clear 20 = .ok (.return_, 1) := by decide +kernel
theorem dc_M_clear_0 : decode bc_M_clear 0 = .ok (.aload_n 0, 1) := by decide +kernel
theorem dc_M_clear_1 : decode bc_M_clear 1 = .ok (.iconst 0, 1) := by decide +kernel
theorem dc_M_clear_2 : decode bc_M_clear 2 = .ok (.putfield 27, 3) := by decide +kernel
theorem dc_M_clear_5 : decode bc_M_clear 5 = .ok (.aload_n 0, 1) := by decide +kernel
theorem dc_M_clear_6 : decode bc_M_clear 6 = .ok (.iconst 0, 1) := by decide +kernel
theorem dc_M_clear_7 : decode bc_M_clear 7 = .ok (.putfield 31, 3) := by decide +kernel
theorem dc_M_clear_10 : decode bc_M_clear 10 = .ok (.return_, 1) := by decide +kernel
theorem dc_M_make_0 : decode bc_M_make 0 = .ok (.aload_n 0, 1) := by decide +kernel
theorem dc_M_make_1 : decode bc_M_make 1 = .ok (.getfield 27, 3) := by decide +kernel
theorem dc_M_make_4 : decode bc_M_make 4 = .ok (.istore 5, 2) := by decide +kernel
theorem dc_M_make_6 : decode bc_M_make 6 = .ok (.aload_n 0, 1) := by decide +kernel
theorem dc_M_make_7 : decode bc_M_make 7 = .ok (.dup, 1) := by decide +kernel
theorem dc_M_make_8 : decode bc_M_make 8 = .ok (.getfield 27, 3) := by decide +kernel
theorem dc_M_make_11 : decode bc_M_make 11 = .ok (.iconst 1, 1) := by decide +kernel
theorem dc_M_make_12 : decode bc_M_make 12 = .ok (.iadd, 1) := by decide +kernel
theorem dc_M_make_13 : decode bc_M_make 13 = .ok (.putfield 27, 3) := by decide +kernel
theorem dc_M_make_16 : decode bc_M_make 16 = .ok (.aload_n 0, 1) := by decide +kernel
theorem dc_M_make_17 : decode bc_M_make 17 = .ok (.getfield 9, 3) := by decide +kernel
theorem dc_M_make_20 : decode bc_M_make 20 = .ok (.iload 5, 2) := by decide +kernel
theorem dc_M_make_22 : decode bc_M_make 22 = .ok (.iload_n 1, 1) := by decide +kernel
theorem dc_M_make_23 : decode bc_M_make 23 = .ok (.iastore, 1) := by decide +kernel
theorem dc_M_make_24 : decode bc_M_make 24 = .ok (.aload_n 0, 1) := by decide +kernel
theorem dc_M_make_25 : decode bc_M_make 25 = .ok (.getfield 15, 3) := by decide +kernel
theorem dc_M_make_28 : decode bc_M_make 28 = .ok (.iload 5, 2) := by decide +kernel
theorem dc_M_make_30 : decode bc_M_make 30 = .ok (.iload_n 2, 1) := by decide +kernel
theorem dc_M_make_31 : decode bc_M_make 31 = .ok (.iastore, 1) := by decide +kernel
theorem dc_M_make_32 : decode bc_M_make 32 = .ok (.aload_n 0, 1) := by decide +kernel
theorem dc_M_make_33 : decode bc_M_make 33 = .ok (.getfield 18, 3) := by decide +kernel
theorem dc_M_make_36 : decode bc_M_make 36 = .ok (.iload 5, 2) := by decide +kernel
theorem dc_M_make_38 : decode bc_M_make 38 = .ok (.iload_n 3, 1) := by decide +kernel
theorem dc_M_make_39 : decode bc_M_make 39 = .ok (.iastore, 1) := by decide +kernel
theorem dc_M_make_40 : decode bc_M_make 40 = .ok (.aload_n 0, 1) := by decide +kernel
theorem dc_M_make_41 : decode bc_M_make 41 = .ok (.getfield 21, 3) := by decide +kernel
theorem dc_M_make_44 : decode bc_M_make 44 = .ok (.iload 5, 2) := by decide +kernel
theorem dc_M_make_46 : decode bc_M_make 46 = .ok (.iload 4, 2) := by decide +kernel
theorem dc_M_make_48 : decode bc_M_make 48 = .ok (.iastore, 1) := by decide +kernel
theorem dc_M_make_49 : decode bc_M_make 49 = .ok (.aload_n 0, 1) := by decide +kernel
theorem dc_M_make_50 : decode bc_M_make 50 = .ok (.getfield 24, 3) := by decide +kernel
theorem dc_M_make_53 : decode bc_M_make 53 = .ok (.iload 5, 2) := by decide +kernel
theorem dc_M_make_55 : decode bc_M_make 55 = .ok (.iconst 0, 1) := by decide +kernel
theorem dc_M_make_56 : decode bc_M_make 56 = .ok (.iastore, 1) := by decide +kernel
theorem dc_M_make_57 : decode bc_M_make 57 = .ok (.iload 5, 2) := by decide +kernel
theorem dc_M_make_59 : decode bc_M_make 59 = .ok (.ireturn, 1) := by decide +kernel
theorem dc_M_isWaiting_0 : decode bc_M_isWaiting 0 = .ok (.aload_n 0, 1) := by decide +kernel
theorem dc_M_isWaiting_1 : decode bc_M_isWaiting 1 = .ok (.iload_n 1, 1) := by decide +kernel
theorem dc_M_isWaiting_2 : decode bc_M_isWaiting 2 = .ok (.invokevirtual 34, 3) := by decide +kernel
theorem dc_M_isWaiting_5 : decode bc_M_isWaiting 5 = .ok (.ifCond .eq 16, 3) := by decide +kernel
theorem dc_M_isWaiting_8 : decode bc_M_isWaiting 8 = .ok (.aload_n 0, 1) := by decide +kernel
theorem dc_M_isWaiting_9 : decode bc_M_isWaiting 9 = .ok (.getfield 24, 3) := by decide +kernel
theorem dc_M_isWaiting_12 : decode bc_M_isWaiting 12 = .ok (.iload_n 1, 1) := by decide +kernel
theorem dc_M_isWaiting_13 : decode bc_M_isWaiting 13 = .ok (.iaload, 1) := by decide +kernel
theorem dc_M_isWaiting_14 : decode bc_M_isWaiting 14 = .ok (.ifCond .ne 7, 3) := by decide +kernel
theorem dc_M_isWaiting_17 : decode bc_M_isWaiting 17 = .ok (.iconst 1, 1) := by decide +kernel
theorem dc_M_isWaiting_18 : decode bc_M_isWaiting 18 = .ok (.goto 4, 3) := by decide +kernel
theorem dc_M_isWaiting_21 : decode bc_M_isWaiting 21 = .ok (.iconst 0, 1) := by decide +kernel
theorem dc_M_isWaiting_22 : decode bc_M_isWaiting 22 = .ok (.ireturn, 1) := by decide +kernel
theorem dc_M_isMade_0 : decode bc_M_isMade 0 = .ok (.iload_n 1, 1) := by decide +kernel
theorem dc_M_isMade_1 : decode bc_M_isMade 1 = .ok (.ifCond .lt 15, 3) := by decide +kernel
theorem dc_M_isMade_4 : decode bc_M_isMade 4 = .ok (.iload_n 1, 1) := by decide +kernel
theorem dc_M_isMade_5 : decode bc_M_isMade 5 = .ok (.aload_n 0, 1) := by decide +kernel
theorem dc_M_isMade_6 : decode bc_M_isMade 6 = .ok (.getfield 27, 3) := by decide +kernel
theorem dc_M_isMade_9 : decode bc_M_isMade 9 = .ok (.if_icmp .ge 7, 3) := by decide +kernel
theorem dc_M_isMade_12 : decode bc_M_isMade 12 = .ok (.iconst 1, 1) := by decide +kernel
theorem dc_M_isMade_13 : decode bc_M_isMade 13 = .ok (.goto 4, 3) := by decide +kernel
theorem dc_M_isMade_16 : decode bc_M_isMade 16 = .ok (.iconst 0, 1) := by decide +kernel
theorem dc_M_isMade_17 : decode bc_M_isMade 17 = .ok (.ireturn, 1) := by decide +kernel
theorem dc_I_make_0 : decode bc_I_make 0 = .ok (.aload_n 0, 1) := by decide +kernel
theorem dc_I_make_1 : decode bc_I_make 1 = .ok (.getfield 25, 3) := by decide +kernel
theorem dc_I_make_4 : decode bc_I_make 4 = .ok (.istore 5, 2) := by decide +kernel
theorem dc_I_make_6 : decode bc_I_make 6 = .ok (.aload_n 0, 1) := by decide +kernel
theorem dc_I_make_7 : decode bc_I_make 7 = .ok (.dup, 1) := by decide +kernel
theorem dc_I_make_8 : decode bc_I_make 8 = .ok (.getfield 25, 3) := by decide +kernel
theorem dc_I_make_11 : decode bc_I_make 11 = .ok (.iconst 1, 1) := by decide +kernel
theorem dc_I_make_12 : decode bc_I_make 12 = .ok (.iadd, 1) := by decide +kernel
theorem dc_I_make_13 : decode bc_I_make 13 = .ok (.putfield 25, 3) := by decide +kernel
theorem dc_I_make_16 : decode bc_I_make 16 = .ok (.aload_n 0, 1) := by decide +kernel
theorem dc_I_make_17 : decode bc_I_make 17 = .ok (.getfield 9, 3) := by decide +kernel
theorem dc_I_make_20 : decode bc_I_make 20 = .ok (.iload 5, 2) := by decide +kernel
theorem dc_I_make_22 : decode bc_I_make 22 = .ok (.iload_n 1, 1) := by decide +kernel
theorem dc_I_make_23 : decode bc_I_make 23 = .ok (.iastore, 1) := by decide +kernel
theorem dc_I_make_24 : decode bc_I_make 24 = .ok (.aload_n 0, 1) := by decide +kernel
theorem dc_I_make_25 : decode bc_I_make 25 = .ok (.getfield 15, 3) := by decide +kernel
theorem dc_I_make_28 : decode bc_I_make 28 = .ok (.iload 5, 2) := by decide +kernel
theorem dc_I_make_30 : decode bc_I_make 30 = .ok (.iload_n 2, 1) := by decide +kernel
theorem dc_I_make_31 : decode bc_I_make 31 = .ok (.iastore, 1) := by decide +kernel
theorem dc_I_make_32 : decode bc_I_make 32 = .ok (.aload_n 0, 1) := by decide +kernel
theorem dc_I_make_33 : decode bc_I_make 33 = .ok (.getfield 18, 3) := by decide +kernel
theorem dc_I_make_36 : decode bc_I_make 36 = .ok (.iload 5, 2) := by decide +kernel
theorem dc_I_make_38 : decode bc_I_make 38 = .ok (.iconst (-1), 1) := by decide +kernel
theorem dc_I_make_39 : decode bc_I_make 39 = .ok (.iastore, 1) := by decide +kernel
theorem dc_I_make_40 : decode bc_I_make 40 = .ok (.aload_n 0, 1) := by decide +kernel
theorem dc_I_make_41 : decode bc_I_make 41 = .ok (.getfield 21, 3) := by decide +kernel
theorem dc_I_make_44 : decode bc_I_make 44 = .ok (.iload 5, 2) := by decide +kernel
theorem dc_I_make_46 : decode bc_I_make 46 = .ok (.lload_n 3, 1) := by decide +kernel
theorem dc_I_make_47 : decode bc_I_make 47 = .ok (.lconst 1, 1) := by decide +kernel
theorem dc_I_make_48 : decode bc_I_make 48 = .ok (.iload 5, 2) := by decide +kernel
theorem dc_I_make_50 : decode bc_I_make 50 = .ok (.lshl, 1) := by decide +kernel
theorem dc_I_make_51 : decode bc_I_make 51 = .ok (.lor, 1) := by decide +kernel
theorem dc_I_make_52 : decode bc_I_make 52 = .ok (.lastore, 1) := by decide +kernel
theorem dc_I_make_53 : decode bc_I_make 53 = .ok (.iload 5, 2) := by decide +kernel
theorem dc_I_make_55 : decode bc_I_make 55 = .ok (.ireturn, 1) := by decide +kernel
theorem dc_P_append_0 : decode bc_P_append 0 = .ok (.aload_n 0, 1) := by decide +kernel
theorem dc_P_append_1 : decode bc_P_append 1 = .ok (.getfield 9, 3) := by decide +kernel
theorem dc_P_append_4 : decode bc_P_append 4 = .ok (.aload_n 0, 1) := by decide +kernel
theorem dc_P_append_5 : decode bc_P_append 5 = .ok (.getfield 22, 3) := by decide +kernel
theorem dc_P_append_8 : decode bc_P_append 8 = .ok (.iload_n 1, 1) := by decide +kernel
theorem dc_P_append_9 : decode bc_P_append 9 = .ok (.iastore, 1) := by decide +kernel
theorem dc_P_append_10 : decode bc_P_append 10 = .ok (.aload_n 0, 1) := by decide +kernel
theorem dc_P_append_11 : decode bc_P_append 11 = .ok (.dup, 1) := by decide +kernel
theorem dc_P_append_12 : decode bc_P_append 12 = .ok (.getfield 22, 3) := by decide +kernel
theorem dc_P_append_15 : decode bc_P_append 15 = .ok (.iconst 1, 1) := by decide +kernel
theorem dc_P_append_16 : decode bc_P_append 16 = .ok (.iadd, 1) := by decide +kernel
theorem dc_P_append_17 : decode bc_P_append 17 = .ok (.putfield 22, 3) := by decide +kernel
theorem dc_P_append_20 : decode bc_P_append 20 = .ok (.return_, 1) := by decide +kernel
theorem dc_P_chainSet_0 : decode bc_P_chainSet 0 = .ok (.lconst 0, 1) := by decide +kernel
theorem dc_P_chainSet_1 : decode bc_P_chainSet 1 = .ok (.lstore_n 1, 1) := by decide +kernel
theorem dc_P_chainSet_2 : decode bc_P_chainSet 2 = .ok (.iconst 0, 1) := by decide +kernel
theorem dc_P_chainSet_3 : decode bc_P_chainSet 3 = .ok (.istore_n 3, 1) := by decide +kernel
theorem dc_P_chainSet_4 : decode bc_P_chainSet 4 = .ok (.iload_n 3, 1) := by decide +kernel
theorem dc_P_chainSet_5 : decode bc_P_chainSet 5 = .ok (.aload_n 0, 1) := by decide +kernel
theorem dc_P_chainSet_6 : decode bc_P_chainSet 6 = .ok (.getfield 22, 3) := by decide +kernel
theorem dc_P_chainSet_9 : decode bc_P_chainSet 9 = .ok (.if_icmp .ge 20, 3) := by decide +kernel
theorem dc_P_chainSet_12 : decode bc_P_chainSet 12 = .ok (.lload_n 1, 1) := by decide +kernel
theorem dc_P_chainSet_13 : decode bc_P_chainSet 13 = .ok (.lconst 1, 1) := by decide +kernel
theorem dc_P_chainSet_14 : decode bc_P_chainSet 14 = .ok (.aload_n 0, 1) := by decide +kernel
theorem dc_P_chainSet_15 : decode bc_P_chainSet 15 = .ok (.getfield 9, 3) := by decide +kernel
theorem dc_P_chainSet_18 : decode bc_P_chainSet 18 = .ok (.iload_n 3, 1) := by decide +kernel
theorem dc_P_chainSet_19 : decode bc_P_chainSet 19 = .ok (.iaload, 1) := by decide +kernel
theorem dc_P_chainSet_20 : decode bc_P_chainSet 20 = .ok (.lshl, 1) := by decide +kernel
theorem dc_P_chainSet_21 : decode bc_P_chainSet 21 = .ok (.lor, 1) := by decide +kernel
theorem dc_P_chainSet_22 : decode bc_P_chainSet 22 = .ok (.lstore_n 1, 1) := by decide +kernel
theorem dc_P_chainSet_23 : decode bc_P_chainSet 23 = .ok (.iinc 3 1, 3) := by decide +kernel
theorem dc_P_chainSet_26 : decode bc_P_chainSet 26 = .ok (.goto (-22), 3) := by decide +kernel
theorem dc_P_chainSet_29 : decode bc_P_chainSet 29 = .ok (.lload_n 1, 1) := by decide +kernel
theorem dc_P_chainSet_30 : decode bc_P_chainSet 30 = .ok (.lreturn, 1) := by decide +kernel
theorem dc_M_reviveFrom_0 : decode bc_M_reviveFrom 0 = .ok (.iconst 0, 1) := by decide +kernel
theorem dc_M_reviveFrom_1 : decode bc_M_reviveFrom 1 = .ok (.istore_n 3, 1) := by decide +kernel
theorem dc_M_reviveFrom_2 : decode bc_M_reviveFrom 2 = .ok (.iconst 0, 1) := by decide +kernel
theorem dc_M_reviveFrom_3 : decode bc_M_reviveFrom 3 = .ok (.istore 4, 2) := by decide +kernel
theorem dc_M_reviveFrom_5 : decode bc_M_reviveFrom 5 = .ok (.iload 4, 2) := by decide +kernel
theorem dc_M_reviveFrom_7 : decode bc_M_reviveFrom 7 = .ok (.aload_n 0, 1) := by decide +kernel
theorem dc_M_reviveFrom_8 : decode bc_M_reviveFrom 8 = .ok (.getfield 27, 3) := by decide +kernel
theorem dc_M_reviveFrom_11 : decode bc_M_reviveFrom 11 = .ok (.if_icmp .ge 47, 3) := by decide +kernel
theorem dc_M_reviveFrom_14 : decode bc_M_reviveFrom 14 = .ok (.aload_n 0, 1) := by decide +kernel
theorem dc_M_reviveFrom_15 : decode bc_M_reviveFrom 15 = .ok (.getfield 24, 3) := by decide +kernel
theorem dc_M_reviveFrom_18 : decode bc_M_reviveFrom 18 = .ok (.iload 4, 2) := by decide +kernel
theorem dc_M_reviveFrom_20 : decode bc_M_reviveFrom 20 = .ok (.iaload, 1) := by decide +kernel
theorem dc_M_reviveFrom_21 : decode bc_M_reviveFrom 21 = .ok (.iconst 2, 1) := by decide +kernel
theorem dc_M_reviveFrom_22 : decode bc_M_reviveFrom 22 = .ok (.if_icmp .ne 30, 3) := by decide +kernel
theorem dc_M_reviveFrom_25 : decode bc_M_reviveFrom 25 = .ok (.lload_n 1, 1) := by decide +kernel
theorem dc_M_reviveFrom_26 : decode bc_M_reviveFrom 26 = .ok (.lconst 1, 1) := by decide +kernel
theorem dc_M_reviveFrom_27 : decode bc_M_reviveFrom 27 = .ok (.aload_n 0, 1) := by decide +kernel
theorem dc_M_reviveFrom_28 : decode bc_M_reviveFrom 28 = .ok (.getfield 18, 3) := by decide +kernel
theorem dc_M_reviveFrom_31 : decode bc_M_reviveFrom 31 = .ok (.iload 4, 2) := by decide +kernel
theorem dc_M_reviveFrom_33 : decode bc_M_reviveFrom 33 = .ok (.iaload, 1) := by decide +kernel
theorem dc_M_reviveFrom_34 : decode bc_M_reviveFrom 34 = .ok (.lshl, 1) := by decide +kernel
theorem dc_M_reviveFrom_35 : decode bc_M_reviveFrom 35 = .ok (.land, 1) := by decide +kernel
theorem dc_M_reviveFrom_36 : decode bc_M_reviveFrom 36 = .ok (.lconst 0, 1) := by decide +kernel
theorem dc_M_reviveFrom_37 : decode bc_M_reviveFrom 37 = .ok (.lcmp, 1) := by decide +kernel
theorem dc_M_reviveFrom_38 : decode bc_M_reviveFrom 38 = .ok (.ifCond .eq 14, 3) := by decide +kernel
theorem dc_M_reviveFrom_41 : decode bc_M_reviveFrom 41 = .ok (.aload_n 0, 1) := by decide +kernel
theorem dc_M_reviveFrom_42 : decode bc_M_reviveFrom 42 = .ok (.getfield 24, 3) := by decide +kernel
theorem dc_M_reviveFrom_45 : decode bc_M_reviveFrom 45 = .ok (.iload 4, 2) := by decide +kernel
theorem dc_M_reviveFrom_47 : decode bc_M_reviveFrom 47 = .ok (.iconst 0, 1) := by decide +kernel
theorem dc_M_reviveFrom_48 : decode bc_M_reviveFrom 48 = .ok (.iastore, 1) := by decide +kernel
theorem dc_M_reviveFrom_49 : decode bc_M_reviveFrom 49 = .ok (.iinc 3 1, 3) := by decide +kernel
theorem dc_M_reviveFrom_52 : decode bc_M_reviveFrom 52 = .ok (.iinc 4 1, 3) := by decide +kernel
theorem dc_M_reviveFrom_55 : decode bc_M_reviveFrom 55 = .ok (.goto (-50), 3) := by decide +kernel
theorem dc_M_reviveFrom_58 : decode bc_M_reviveFrom 58 = .ok (.iload_n 3, 1) := by decide +kernel
theorem dc_M_reviveFrom_59 : decode bc_M_reviveFrom 59 = .ok (.ireturn, 1) := by decide +kernel
theorem dc_P_keepCheckpoint_0 : decode bc_P_keepCheckpoint 0 = .ok (.aload_n 0, 1) := by decide +kernel
theorem dc_P_keepCheckpoint_1 : decode bc_P_keepCheckpoint 1 = .ok (.getfield 39, 3) := by decide +kernel
theorem dc_P_keepCheckpoint_4 : decode bc_P_keepCheckpoint 4 = .ok (.aload_n 0, 1) := by decide +kernel
theorem dc_P_keepCheckpoint_5 : decode bc_P_keepCheckpoint 5 = .ok (.getfield 22, 3) := by decide +kernel
theorem dc_P_keepCheckpoint_8 : decode bc_P_keepCheckpoint 8 = .ok (.if_icmp .eq 19, 3) := by decide +kernel
theorem dc_P_keepCheckpoint_11 : decode bc_P_keepCheckpoint 11 = .ok (.aload_n 0, 1) := by decide +kernel
theorem dc_P_keepCheckpoint_12 : decode bc_P_keepCheckpoint 12 = .ok (.aload_n 0, 1) := by decide +kernel
theorem dc_P_keepCheckpoint_13 : decode bc_P_keepCheckpoint 13 = .ok (.getfield 39, 3) := by decide +kernel
theorem dc_P_keepCheckpoint_16 : decode bc_P_keepCheckpoint 16 = .ok (.putfield 42, 3) := by decide +kernel
theorem dc_P_keepCheckpoint_19 : decode bc_P_keepCheckpoint 19 = .ok (.aload_n 0, 1) := by decide +kernel
theorem dc_P_keepCheckpoint_20 : decode bc_P_keepCheckpoint 20 = .ok (.aload_n 0, 1) := by decide +kernel
theorem dc_P_keepCheckpoint_21 : decode bc_P_keepCheckpoint 21 = .ok (.getfield 22, 3) := by decide +kernel
theorem dc_P_keepCheckpoint_24 : decode bc_P_keepCheckpoint 24 = .ok (.putfield 39, 3) := by decide +kernel
theorem dc_P_keepCheckpoint_27 : decode bc_P_keepCheckpoint 27 = .ok (.return_, 1) := by decide +kernel
theorem dc_I_announce_0 : decode bc_I_announce 0 = .ok (.iconst 0, 1) := by decide +kernel
theorem dc_I_announce_1 : decode bc_I_announce 1 = .ok (.istore 4, 2) := by decide +kernel
theorem dc_I_announce_3 : decode bc_I_announce 3 = .ok (.iload 4, 2) := by decide +kernel
theorem dc_I_announce_5 : decode bc_I_announce 5 = .ok (.aload_n 0, 1) := by decide +kernel
theorem dc_I_announce_6 : decode bc_I_announce 6 = .ok (.getfield 25, 3) := by decide +kernel
theorem dc_I_announce_9 : decode bc_I_announce 9 = .ok (.if_icmp .ge 28, 3) := by decide +kernel
theorem dc_I_announce_12 : decode bc_I_announce 12 = .ok (.lload_n 1, 1) := by decide +kernel
theorem dc_I_announce_13 : decode bc_I_announce 13 = .ok (.lconst 1, 1) := by decide +kernel
theorem dc_I_announce_14 : decode bc_I_announce 14 = .ok (.iload 4, 2) := by decide +kernel
theorem dc_I_announce_16 : decode bc_I_announce 16 = .ok (.lshl, 1) := by decide +kernel
theorem dc_I_announce_17 : decode bc_I_announce 17 = .ok (.land, 1) := by decide +kernel
theorem dc_I_announce_18 : decode bc_I_announce 18 = .ok (.lconst 0, 1) := by decide +kernel
theorem dc_I_announce_19 : decode bc_I_announce 19 = .ok (.lcmp, 1) := by decide +kernel
theorem dc_I_announce_20 : decode bc_I_announce 20 = .ok (.ifCond .eq 11, 3) := by decide +kernel
theorem dc_I_announce_23 : decode bc_I_announce 23 = .ok (.aload_n 0, 1) := by decide +kernel
theorem dc_I_announce_24 : decode bc_I_announce 24 = .ok (.getfield 18, 3) := by decide +kernel
theorem dc_I_announce_27 : decode bc_I_announce 27 = .ok (.iload 4, 2) := by decide +kernel
theorem dc_I_announce_29 : decode bc_I_announce 29 = .ok (.iload_n 3, 1) := by decide +kernel
theorem dc_I_announce_30 : decode bc_I_announce 30 = .ok (.iastore, 1) := by decide +kernel
theorem dc_I_announce_31 : decode bc_I_announce 31 = .ok (.iinc 4 1, 3) := by decide +kernel
theorem dc_I_announce_34 : decode bc_I_announce 34 = .ok (.goto (-31), 3) := by decide +kernel
theorem dc_I_announce_37 : decode bc_I_announce 37 = .ok (.return_, 1) := by decide +kernel
theorem dc_I_announcedBy_0 : decode bc_I_announcedBy 0 = .ok (.lconst 0, 1) := by decide +kernel
theorem dc_I_announcedBy_1 : decode bc_I_announcedBy 1 = .ok (.lstore_n 2, 1) := by decide +kernel
theorem dc_I_announcedBy_2 : decode bc_I_announcedBy 2 = .ok (.iconst 0, 1) := by decide +kernel
theorem dc_I_announcedBy_3 : decode bc_I_announcedBy 3 = .ok (.istore 4, 2) := by decide +kernel
theorem dc_I_announcedBy_5 : decode bc_I_announcedBy 5 = .ok (.iload 4, 2) := by decide +kernel
theorem dc_I_announcedBy_7 : decode bc_I_announcedBy 7 = .ok (.aload_n 0, 1) := by decide +kernel
theorem dc_I_announcedBy_8 : decode bc_I_announcedBy 8 = .ok (.getfield 25, 3) := by decide +kernel
theorem dc_I_announcedBy_11 : decode bc_I_announcedBy 11 = .ok (.if_icmp .ge 27, 3) := by decide +kernel
theorem dc_I_announcedBy_14 : decode bc_I_announcedBy 14 = .ok (.aload_n 0, 1) := by decide +kernel
theorem dc_I_announcedBy_15 : decode bc_I_announcedBy 15 = .ok (.getfield 18, 3) := by decide +kernel
theorem dc_I_announcedBy_18 : decode bc_I_announcedBy 18 = .ok (.iload 4, 2) := by decide +kernel
theorem dc_I_announcedBy_20 : decode bc_I_announcedBy 20 = .ok (.iaload, 1) := by decide +kernel
theorem dc_I_announcedBy_21 : decode bc_I_announcedBy 21 = .ok (.iload_n 1, 1) := by decide +kernel
theorem dc_I_announcedBy_22 : decode bc_I_announcedBy 22 = .ok (.if_icmp .ne 10, 3) := by decide +kernel
theorem dc_I_announcedBy_25 : decode bc_I_announcedBy 25 = .ok (.lload_n 2, 1) := by decide +kernel
theorem dc_I_announcedBy_26 : decode bc_I_announcedBy 26 = .ok (.lconst 1, 1) := by decide +kernel
theorem dc_I_announcedBy_27 : decode bc_I_announcedBy 27 = .ok (.iload 4, 2) := by decide +kernel
theorem dc_I_announcedBy_29 : decode bc_I_announcedBy 29 = .ok (.lshl, 1) := by decide +kernel
theorem dc_I_announcedBy_30 : decode bc_I_announcedBy 30 = .ok (.lor, 1) := by decide +kernel
theorem dc_I_announcedBy_31 : decode bc_I_announcedBy 31 = .ok (.lstore_n 2, 1) := by decide +kernel
theorem dc_I_announcedBy_32 : decode bc_I_announcedBy 32 = .ok (.iinc 4 1, 3) := by decide +kernel
theorem dc_I_announcedBy_35 : decode bc_I_announcedBy 35 = .ok (.goto (-30), 3) := by decide +kernel
theorem dc_I_announcedBy_38 : decode bc_I_announcedBy 38 = .ok (.lload_n 2, 1) := by decide +kernel
theorem dc_I_announcedBy_39 : decode bc_I_announcedBy 39 = .ok (.lreturn, 1) := by decide +kernel
theorem dc_P_dropLongCheckpoints_0 : decode bc_P_dropLongCheckpoints 0 = .ok (.aload_n 0, 1) := by decide +kernel
theorem dc_P_dropLongCheckpoints_1 : decode bc_P_dropLongCheckpoints 1 = .ok (.getfield 42, 3) := by decide +kernel
theorem dc_P_dropLongCheckpoints_4 : decode bc_P_dropLongCheckpoints 4 = .ok (.aload_n 0, 1) := by decide +kernel
theorem dc_P_dropLongCheckpoints_5 : decode bc_P_dropLongCheckpoints 5 = .ok (.getfield 22, 3) := by decide +kernel
theorem dc_P_dropLongCheckpoints_8 : decode bc_P_dropLongCheckpoints 8 = .ok (.if_icmp .le 16, 3) := by decide +kernel
theorem dc_P_dropLongCheckpoints_11 : decode bc_P_dropLongCheckpoints 11 = .ok (.aload_n 0, 1) := by decide +kernel
theorem dc_P_dropLongCheckpoints_12 : decode bc_P_dropLongCheckpoints 12 = .ok (.iconst 0, 1) := by decide +kernel
theorem dc_P_dropLongCheckpoints_13 : decode bc_P_dropLongCheckpoints 13 = .ok (.putfield 42, 3) := by decide +kernel
theorem dc_P_dropLongCheckpoints_16 : decode bc_P_dropLongCheckpoints 16 = .ok (.aload_n 0, 1) := by decide +kernel
theorem dc_P_dropLongCheckpoints_17 : decode bc_P_dropLongCheckpoints 17 = .ok (.iconst 0, 1) := by decide +kernel
theorem dc_P_dropLongCheckpoints_18 : decode bc_P_dropLongCheckpoints 18 = .ok (.putfield 39, 3) := by decide +kernel
theorem dc_P_dropLongCheckpoints_21 : decode bc_P_dropLongCheckpoints 21 = .ok (.goto 27, 3) := by decide +kernel
theorem dc_P_dropLongCheckpoints_24 : decode bc_P_dropLongCheckpoints 24 = .ok (.aload_n 0, 1) := by decide +kernel
theorem dc_P_dropLongCheckpoints_25 : decode bc_P_dropLongCheckpoints 25 = .ok (.getfield 39, 3) := by decide +kernel
theorem dc_P_dropLongCheckpoints_28 : decode bc_P_dropLongCheckpoints 28 = .ok (.aload_n 0, 1) := by decide +kernel
theorem dc_P_dropLongCheckpoints_29 : decode bc_P_dropLongCheckpoints 29 = .ok (.getfield 22, 3) := by decide +kernel
theorem dc_P_dropLongCheckpoints_32 : decode bc_P_dropLongCheckpoints 32 = .ok (.if_icmp .le 16, 3) := by decide +kernel
theorem dc_P_dropLongCheckpoints_35 : decode bc_P_dropLongCheckpoints 35 = .ok (.aload_n 0, 1) := by decide +kernel
theorem dc_P_dropLongCheckpoints_36 : decode bc_P_dropLongCheckpoints 36 = .ok (.aload_n 0, 1) := by decide +kernel
theorem dc_P_dropLongCheckpoints_37 : decode bc_P_dropLongCheckpoints 37 = .ok (.getfield 42, 3) := by decide +kernel
theorem dc_P_dropLongCheckpoints_40 : decode bc_P_dropLongCheckpoints 40 = .ok (.putfield 39, 3) := by decide +kernel
theorem dc_P_dropLongCheckpoints_43 : decode bc_P_dropLongCheckpoints 43 = .ok (.aload_n 0, 1) := by decide +kernel
theorem dc_P_dropLongCheckpoints_44 : decode bc_P_dropLongCheckpoints 44 = .ok (.iconst 0, 1) := by decide +kernel
theorem dc_P_dropLongCheckpoints_45 : decode bc_P_dropLongCheckpoints 45 = .ok (.putfield 42, 3) := by decide +kernel
theorem dc_P_dropLongCheckpoints_48 : decode bc_P_dropLongCheckpoints 48 = .ok (.return_, 1) := by decide +kernel
theorem dc_P_countReplay_0 : decode bc_P_countReplay 0 = .ok (.aload_n 0, 1) := by decide +kernel
theorem dc_P_countReplay_1 : decode bc_P_countReplay 1 = .ok (.dup, 1) := by decide +kernel
theorem dc_P_countReplay_2 : decode bc_P_countReplay 2 = .ok (.getfield 45, 3) := by decide +kernel
theorem dc_P_countReplay_5 : decode bc_P_countReplay 5 = .ok (.aload_n 0, 1) := by decide +kernel
theorem dc_P_countReplay_6 : decode bc_P_countReplay 6 = .ok (.getfield 22, 3) := by decide +kernel
theorem dc_P_countReplay_9 : decode bc_P_countReplay 9 = .ok (.aload_n 0, 1) := by decide +kernel
theorem dc_P_countReplay_10 : decode bc_P_countReplay 10 = .ok (.getfield 39, 3) := by decide +kernel
theorem dc_P_countReplay_13 : decode bc_P_countReplay 13 = .ok (.isub, 1) := by decide +kernel
theorem dc_P_countReplay_14 : decode bc_P_countReplay 14 = .ok (.iadd, 1) := by decide +kernel
theorem dc_P_countReplay_15 : decode bc_P_countReplay 15 = .ok (.putfield 45, 3) := by decide +kernel
theorem dc_P_countReplay_18 : decode bc_P_countReplay 18 = .ok (.return_, 1) := by decide +kernel
theorem dc_I_isReleasable_0 : decode bc_I_isReleasable 0 = .ok (.aload_n 0, 1) := by decide +kernel
theorem dc_I_isReleasable_1 : decode bc_I_isReleasable 1 = .ok (.getfield 9, 3) := by decide +kernel
theorem dc_I_isReleasable_4 : decode bc_I_isReleasable 4 = .ok (.iload_n 1, 1) := by decide +kernel
theorem dc_I_isReleasable_5 : decode bc_I_isReleasable 5 = .ok (.iaload, 1) := by decide +kernel
theorem dc_I_isReleasable_6 : decode bc_I_isReleasable 6 = .ok (.iconst 4, 1) := by decide +kernel
theorem dc_I_isReleasable_7 : decode bc_I_isReleasable 7 = .ok (.iand, 1) := by decide +kernel
theorem dc_I_isReleasable_8 : decode bc_I_isReleasable 8 = .ok (.ifCond .eq 40, 3) := by decide +kernel
theorem dc_I_isReleasable_11 : decode bc_I_isReleasable 11 = .ok (.aload_n 0, 1) := by decide +kernel
theorem dc_I_isReleasable_12 : decode bc_I_isReleasable 12 = .ok (.getfield 36, 3) := by decide +kernel
theorem dc_I_isReleasable_15 : decode bc_I_isReleasable 15 = .ok (.lconst 1, 1) := by decide +kernel
theorem dc_I_isReleasable_16 : decode bc_I_isReleasable 16 = .ok (.iload_n 1, 1) := by decide +kernel
theorem dc_I_isReleasable_17 : decode bc_I_isReleasable 17 = .ok (.lshl, 1) := by decide +kernel
theorem dc_I_isReleasable_18 : decode bc_I_isReleasable 18 = .ok (.land, 1) := by decide +kernel
theorem dc_I_isReleasable_19 : decode bc_I_isReleasable 19 = .ok (.lconst 0, 1) := by decide +kernel
theorem dc_I_isReleasable_20 : decode bc_I_isReleasable 20 = .ok (.lcmp, 1) := by decide +kernel
theorem dc_I_isReleasable_21 : decode bc_I_isReleasable 21 = .ok (.ifCond .ne 27, 3) := by decide +kernel
theorem dc_I_isReleasable_24 : decode bc_I_isReleasable 24 = .ok (.aload_n 0, 1) := by decide +kernel
theorem dc_I_isReleasable_25 : decode bc_I_isReleasable 25 = .ok (.getfield 21, 3) := by decide +kernel
theorem dc_I_isReleasable_28 : decode bc_I_isReleasable 28 = .ok (.iload_n 1, 1) := by decide +kernel
theorem dc_I_isReleasable_29 : decode bc_I_isReleasable 29 = .ok (.laload, 1) := by decide +kernel
theorem dc_I_isReleasable_30 : decode bc_I_isReleasable 30 = .ok (.aload_n 0, 1) := by decide +kernel
theorem dc_I_isReleasable_31 : decode bc_I_isReleasable 31 = .ok (.getfield 29, 3) := by decide +kernel
theorem dc_I_isReleasable_34 : decode bc_I_isReleasable 34 = .ok (.ldc2_w 39, 3) := by decide +kernel
theorem dc_I_isReleasable_37 : decode bc_I_isReleasable 37 = .ok (.lxor, 1) := by decide +kernel
theorem dc_I_isReleasable_38 : decode bc_I_isReleasable 38 = .ok (.land, 1) := by decide +kernel
theorem dc_I_isReleasable_39 : decode bc_I_isReleasable 39 = .ok (.lconst 0, 1) := by decide +kernel
theorem dc_I_isReleasable_40 : decode bc_I_isReleasable 40 = .ok (.lcmp, 1) := by decide +kernel
theorem dc_I_isReleasable_41 : decode bc_I_isReleasable 41 = .ok (.ifCond .ne 7, 3) := by decide +kernel
theorem dc_I_isReleasable_44 : decode bc_I_isReleasable 44 = .ok (.iconst 1, 1) := by decide +kernel
theorem dc_I_isReleasable_45 : decode bc_I_isReleasable 45 = .ok (.goto 4, 3) := by decide +kernel
theorem dc_I_isReleasable_48 : decode bc_I_isReleasable 48 = .ok (.iconst 0, 1) := by decide +kernel
theorem dc_I_isReleasable_49 : decode bc_I_isReleasable 49 = .ok (.ireturn, 1) := by decide +kernel
theorem dc_P_addOutput_0 : decode bc_P_addOutput 0 = .ok (.aload_n 0, 1) := by decide +kernel
theorem dc_P_addOutput_1 : decode bc_P_addOutput 1 = .ok (.getfield 15, 3) := by decide +kernel
theorem dc_P_addOutput_4 : decode bc_P_addOutput 4 = .ok (.aload_n 0, 1) := by decide +kernel
theorem dc_P_addOutput_5 : decode bc_P_addOutput 5 = .ok (.getfield 26, 3) := by decide +kernel
theorem dc_P_addOutput_8 : decode bc_P_addOutput 8 = .ok (.iload_n 1, 1) := by decide +kernel
theorem dc_P_addOutput_9 : decode bc_P_addOutput 9 = .ok (.iastore, 1) := by decide +kernel
theorem dc_P_addOutput_10 : decode bc_P_addOutput 10 = .ok (.aload_n 0, 1) := by decide +kernel
theorem dc_P_addOutput_11 : decode bc_P_addOutput 11 = .ok (.dup, 1) := by decide +kernel
theorem dc_P_addOutput_12 : decode bc_P_addOutput 12 = .ok (.getfield 26, 3) := by decide +kernel
theorem dc_P_addOutput_15 : decode bc_P_addOutput 15 = .ok (.iconst 1, 1) := by decide +kernel
theorem dc_P_addOutput_16 : decode bc_P_addOutput 16 = .ok (.iadd, 1) := by decide +kernel
theorem dc_P_addOutput_17 : decode bc_P_addOutput 17 = .ok (.putfield 26, 3) := by decide +kernel
theorem dc_P_addOutput_20 : decode bc_P_addOutput 20 = .ok (.return_, 1) := by decide +kernel
