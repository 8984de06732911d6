theorem dc_O_isUp_0 : decode bc_O_isUp 0 = .ok (.iload_n 1, 1) := by decide +kernel
theorem dc_O_isUp_1 : decode bc_O_isUp 1 = .ok (.invokestatic 39, 3) := by decide +kernel
theorem dc_O_isUp_4 : decode bc_O_isUp 4 = .ok (.ifCond .eq 19, 3) := by decide +kernel
theorem dc_O_isUp_7 : decode bc_O_isUp 7 = .ok (.aload_n 0, 1) := by decide +kernel
theorem dc_O_isUp_8 : decode bc_O_isUp 8 = .ok (.getfield 11, 3) := by decide +kernel
theorem dc_O_isUp_11 : decode bc_O_isUp 11 = .ok (.iload_n 1, 1) := by decide +kernel
theorem dc_O_isUp_12 : decode bc_O_isUp 12 = .ok (.aaload, 1) := by decide +kernel
theorem dc_O_isUp_13 : decode bc_O_isUp 13 = .ok (.getfield 60, 3) := by decide +kernel
theorem dc_O_isUp_16 : decode bc_O_isUp 16 = .ok (.ifCond .ne 7, 3) := by decide +kernel
theorem dc_O_isUp_19 : decode bc_O_isUp 19 = .ok (.iconst 1, 1) := by decide +kernel
theorem dc_O_isUp_20 : decode bc_O_isUp 20 = .ok (.goto 4, 3) := by decide +kernel
theorem dc_O_isUp_23 : decode bc_O_isUp 23 = .ok (.iconst 0, 1) := by decide +kernel
theorem dc_O_isUp_24 : decode bc_O_isUp 24 = .ok (.ireturn, 1) := by decide +kernel
theorem dc_O_flush_0 : decode bc_O_flush 0 = .ok (.aload_n 0, 1) := by decide +kernel
theorem dc_O_flush_1 : decode bc_O_flush 1 = .ok (.iload_n 1, 1) := by decide +kernel
theorem dc_O_flush_2 : decode bc_O_flush 2 = .ok (.invokevirtual 84, 3) := by decide +kernel
theorem dc_O_flush_5 : decode bc_O_flush 5 = .ok (.ifCond .ne 5, 3) := by decide +kernel
theorem dc_O_flush_8 : decode bc_O_flush 8 = .ok (.iconst (-1), 1) := by decide +kernel
theorem dc_O_flush_9 : decode bc_O_flush 9 = .ok (.ireturn, 1) := by decide +kernel
theorem dc_O_flush_10 : decode bc_O_flush 10 = .ok (.aload_n 0, 1) := by decide +kernel
theorem dc_O_flush_11 : decode bc_O_flush 11 = .ok (.aload_n 0, 1) := by decide +kernel
theorem dc_O_flush_12 : decode bc_O_flush 12 = .ok (.getfield 11, 3) := by decide +kernel
theorem dc_O_flush_15 : decode bc_O_flush 15 = .ok (.iload_n 1, 1) := by decide +kernel
theorem dc_O_flush_16 : decode bc_O_flush 16 = .ok (.aaload, 1) := by decide +kernel
theorem dc_O_flush_17 : decode bc_O_flush 17 = .ok (.invokevirtual 95, 3) := by decide +kernel
theorem dc_O_flush_20 : decode bc_O_flush 20 = .ok (.ireturn, 1) := by decide +kernel
theorem dc_O_checkpoint_0 : decode bc_O_checkpoint 0 = .ok (.aload_n 0, 1) := by decide +kernel
theorem dc_O_checkpoint_1 : decode bc_O_checkpoint 1 = .ok (.iload_n 1, 1) := by decide +kernel
theorem dc_O_checkpoint_2 : decode bc_O_checkpoint 2 = .ok (.invokevirtual 84, 3) := by decide +kernel
theorem dc_O_checkpoint_5 : decode bc_O_checkpoint 5 = .ok (.ifCond .ne 5, 3) := by decide +kernel
theorem dc_O_checkpoint_8 : decode bc_O_checkpoint 8 = .ok (.iconst (-1), 1) := by decide +kernel
theorem dc_O_checkpoint_9 : decode bc_O_checkpoint 9 = .ok (.ireturn, 1) := by decide +kernel
theorem dc_O_checkpoint_10 : decode bc_O_checkpoint 10 = .ok (.aload_n 0, 1) := by decide +kernel
theorem dc_O_checkpoint_11 : decode bc_O_checkpoint 11 = .ok (.getfield 11, 3) := by decide +kernel
theorem dc_O_checkpoint_14 : decode bc_O_checkpoint 14 = .ok (.iload_n 1, 1) := by decide +kernel
theorem dc_O_checkpoint_15 : decode bc_O_checkpoint 15 = .ok (.aaload, 1) := by decide +kernel
theorem dc_O_checkpoint_16 : decode bc_O_checkpoint 16 = .ok (.astore_n 2, 1) := by decide +kernel
theorem dc_O_checkpoint_17 : decode bc_O_checkpoint 17 = .ok (.aload_n 0, 1) := by decide +kernel
theorem dc_O_checkpoint_18 : decode bc_O_checkpoint 18 = .ok (.aload_n 2, 1) := by decide +kernel
theorem dc_O_checkpoint_19 : decode bc_O_checkpoint 19 = .ok (.invokevirtual 95, 3) := by decide +kernel
theorem dc_O_checkpoint_22 : decode bc_O_checkpoint 22 = .ok (.pop, 1) := by decide +kernel
theorem dc_O_checkpoint_23 : decode bc_O_checkpoint 23 = .ok (.aload_n 2, 1) := by decide +kernel
theorem dc_O_checkpoint_24 : decode bc_O_checkpoint 24 = .ok (.invokevirtual 99, 3) := by decide +kernel
theorem dc_O_checkpoint_27 : decode bc_O_checkpoint 27 = .ok (.aload_n 2, 1) := by decide +kernel
theorem dc_O_checkpoint_28 : decode bc_O_checkpoint 28 = .ok (.getfield 102, 3) := by decide +kernel
theorem dc_O_checkpoint_31 : decode bc_O_checkpoint 31 = .ok (.ireturn, 1) := by decide +kernel
theorem dc_O_crash_0 : decode bc_O_crash 0 = .ok (.aload_n 0, 1) := by decide +kernel
theorem dc_O_crash_1 : decode bc_O_crash 1 = .ok (.iload_n 1, 1) := by decide +kernel
theorem dc_O_crash_2 : decode bc_O_crash 2 = .ok (.invokevirtual 84, 3) := by decide +kernel
theorem dc_O_crash_5 : decode bc_O_crash 5 = .ok (.ifCond .ne 5, 3) := by decide +kernel
theorem dc_O_crash_8 : decode bc_O_crash 8 = .ok (.iconst (-1), 1) := by decide +kernel
theorem dc_O_crash_9 : decode bc_O_crash 9 = .ok (.ireturn, 1) := by decide +kernel
theorem dc_O_crash_10 : decode bc_O_crash 10 = .ok (.aload_n 0, 1) := by decide +kernel
theorem dc_O_crash_11 : decode bc_O_crash 11 = .ok (.getfield 11, 3) := by decide +kernel
theorem dc_O_crash_14 : decode bc_O_crash 14 = .ok (.iload_n 1, 1) := by decide +kernel
theorem dc_O_crash_15 : decode bc_O_crash 15 = .ok (.aaload, 1) := by decide +kernel
theorem dc_O_crash_16 : decode bc_O_crash 16 = .ok (.astore_n 2, 1) := by decide +kernel
theorem dc_O_crash_17 : decode bc_O_crash 17 = .ok (.aload_n 2, 1) := by decide +kernel
theorem dc_O_crash_18 : decode bc_O_crash 18 = .ok (.iconst 1, 1) := by decide +kernel
theorem dc_O_crash_19 : decode bc_O_crash 19 = .ok (.putfield 60, 3) := by decide +kernel
theorem dc_O_crash_22 : decode bc_O_crash 22 = .ok (.aload_n 0, 1) := by decide +kernel
theorem dc_O_crash_23 : decode bc_O_crash 23 = .ok (.aload_n 2, 1) := by decide +kernel
theorem dc_O_crash_24 : decode bc_O_crash 24 = .ok (.invokevirtual 105, 3) := by decide +kernel
theorem dc_O_crash_27 : decode bc_O_crash 27 = .ok (.ireturn, 1) := by decide +kernel
theorem dc_O_loseUnstable_0 : decode bc_O_loseUnstable 0 = .ok (.aload_n 1, 1) := by decide +kernel
theorem dc_O_loseUnstable_1 : decode bc_O_loseUnstable 1 = .ok (.invokevirtual 87, 3) := by decide +kernel
theorem dc_O_loseUnstable_4 : decode bc_O_loseUnstable 4 = .ok (.aload_n 0, 1) := by decide +kernel
theorem dc_O_loseUnstable_5 : decode bc_O_loseUnstable 5 = .ok (.getfield 19, 3) := by decide +kernel
theorem dc_O_loseUnstable_8 : decode bc_O_loseUnstable 8 = .ok (.getfield 184, 3) := by decide +kernel
theorem dc_O_loseUnstable_11 : decode bc_O_loseUnstable 11 = .ok (.ldc2_w 187, 3) := by decide +kernel
theorem dc_O_loseUnstable_14 : decode bc_O_loseUnstable 14 = .ok (.lxor, 1) := by decide +kernel
theorem dc_O_loseUnstable_15 : decode bc_O_loseUnstable 15 = .ok (.land, 1) := by decide +kernel
theorem dc_O_loseUnstable_16 : decode bc_O_loseUnstable 16 = .ok (.lstore_n 2, 1) := by decide +kernel
theorem dc_O_loseUnstable_17 : decode bc_O_loseUnstable 17 = .ok (.aload_n 1, 1) := by decide +kernel
theorem dc_O_loseUnstable_18 : decode bc_O_loseUnstable 18 = .ok (.getfield 102, 3) := by decide +kernel
theorem dc_O_loseUnstable_21 : decode bc_O_loseUnstable 21 = .ok (.lload_n 2, 1) := by decide +kernel
theorem dc_O_loseUnstable_22 : decode bc_O_loseUnstable 22 = .ok (.invokestatic 189, 3) := by decide +kernel
theorem dc_O_loseUnstable_25 : decode bc_O_loseUnstable 25 = .ok (.isub, 1) := by decide +kernel
theorem dc_O_loseUnstable_26 : decode bc_O_loseUnstable 26 = .ok (.istore 4, 2) := by decide +kernel
theorem dc_O_loseUnstable_28 : decode bc_O_loseUnstable 28 = .ok (.iload 4, 2) := by decide +kernel
theorem dc_O_loseUnstable_30 : decode bc_O_loseUnstable 30 = .ok (.istore 5, 2) := by decide +kernel
theorem dc_O_loseUnstable_32 : decode bc_O_loseUnstable 32 = .ok (.iload 5, 2) := by decide +kernel
theorem dc_O_loseUnstable_34 : decode bc_O_loseUnstable 34 = .ok (.aload_n 1, 1) := by decide +kernel
theorem dc_O_loseUnstable_35 : decode bc_O_loseUnstable 35 = .ok (.getfield 102, 3) := by decide +kernel
theorem dc_O_loseUnstable_38 : decode bc_O_loseUnstable 38 = .ok (.if_icmp .ge 33, 3) := by decide +kernel
theorem dc_O_loseUnstable_41 : decode bc_O_loseUnstable 41 = .ok (.aload_n 0, 1) := by decide +kernel
theorem dc_O_loseUnstable_42 : decode bc_O_loseUnstable 42 = .ok (.getfield 26, 3) := by decide +kernel
theorem dc_O_loseUnstable_45 : decode bc_O_loseUnstable 45 = .ok (.getfield 74, 3) := by decide +kernel
theorem dc_O_loseUnstable_48 : decode bc_O_loseUnstable 48 = .ok (.aload_n 0, 1) := by decide +kernel
theorem dc_O_loseUnstable_49 : decode bc_O_loseUnstable 49 = .ok (.getfield 19, 3) := by decide +kernel
theorem dc_O_loseUnstable_52 : decode bc_O_loseUnstable 52 = .ok (.getfield 194, 3) := by decide +kernel
theorem dc_O_loseUnstable_55 : decode bc_O_loseUnstable 55 = .ok (.aload_n 1, 1) := by decide +kernel
theorem dc_O_loseUnstable_56 : decode bc_O_loseUnstable 56 = .ok (.getfield 125, 3) := by decide +kernel
theorem dc_O_loseUnstable_59 : decode bc_O_loseUnstable 59 = .ok (.iload 5, 2) := by decide +kernel
theorem dc_O_loseUnstable_61 : decode bc_O_loseUnstable 61 = .ok (.iaload, 1) := by decide +kernel
theorem dc_O_loseUnstable_62 : decode bc_O_loseUnstable 62 = .ok (.iaload, 1) := by decide +kernel
theorem dc_O_loseUnstable_63 : decode bc_O_loseUnstable 63 = .ok (.iconst 2, 1) := by decide +kernel
theorem dc_O_loseUnstable_64 : decode bc_O_loseUnstable 64 = .ok (.iastore, 1) := by decide +kernel
theorem dc_O_loseUnstable_65 : decode bc_O_loseUnstable 65 = .ok (.iinc 5 1, 3) := by decide +kernel
theorem dc_O_loseUnstable_68 : decode bc_O_loseUnstable 68 = .ok (.goto (-36), 3) := by decide +kernel
theorem dc_O_loseUnstable_71 : decode bc_O_loseUnstable 71 = .ok (.aload_n 1, 1) := by decide +kernel
theorem dc_O_loseUnstable_72 : decode bc_O_loseUnstable 72 = .ok (.iload 4, 2) := by decide +kernel
theorem dc_O_loseUnstable_74 : decode bc_O_loseUnstable 74 = .ok (.putfield 102, 3) := by decide +kernel
theorem dc_O_loseUnstable_77 : decode bc_O_loseUnstable 77 = .ok (.aload_n 1, 1) := by decide +kernel
theorem dc_O_loseUnstable_78 : decode bc_O_loseUnstable 78 = .ok (.lload_n 2, 1) := by decide +kernel
theorem dc_O_loseUnstable_79 : decode bc_O_loseUnstable 79 = .ok (.putfield 108, 3) := by decide +kernel
theorem dc_O_loseUnstable_82 : decode bc_O_loseUnstable 82 = .ok (.aload_n 0, 1) := by decide +kernel
theorem dc_O_loseUnstable_83 : decode bc_O_loseUnstable 83 = .ok (.getfield 19, 3) := by decide +kernel
theorem dc_O_loseUnstable_86 : decode bc_O_loseUnstable 86 = .ok (.dup, 1) := by decide +kernel
theorem dc_O_loseUnstable_87 : decode bc_O_loseUnstable 87 = .ok (.getfield 197, 3) := by decide +kernel
theorem dc_O_loseUnstable_90 : decode bc_O_loseUnstable 90 = .ok (.lload_n 2, 1) := by decide +kernel
theorem dc_O_loseUnstable_91 : decode bc_O_loseUnstable 91 = .ok (.lor, 1) := by decide +kernel
theorem dc_O_loseUnstable_92 : decode bc_O_loseUnstable 92 = .ok (.putfield 197, 3) := by decide +kernel
theorem dc_O_loseUnstable_95 : decode bc_O_loseUnstable 95 = .ok (.lload_n 2, 1) := by decide +kernel
theorem dc_O_loseUnstable_96 : decode bc_O_loseUnstable 96 = .ok (.invokestatic 189, 3) := by decide +kernel
theorem dc_O_loseUnstable_99 : decode bc_O_loseUnstable 99 = .ok (.ireturn, 1) := by decide +kernel
theorem dc_O_restart_0 : decode bc_O_restart 0 = .ok (.iload_n 1, 1) := by decide +kernel
theorem dc_O_restart_1 : decode bc_O_restart 1 = .ok (.invokestatic 39, 3) := by decide +kernel
theorem dc_O_restart_4 : decode bc_O_restart 4 = .ok (.ifCond .eq 15, 3) := by decide +kernel
theorem dc_O_restart_7 : decode bc_O_restart 7 = .ok (.aload_n 0, 1) := by decide +kernel
theorem dc_O_restart_8 : decode bc_O_restart 8 = .ok (.getfield 11, 3) := by decide +kernel
theorem dc_O_restart_11 : decode bc_O_restart 11 = .ok (.iload_n 1, 1) := by decide +kernel
theorem dc_O_restart_12 : decode bc_O_restart 12 = .ok (.aaload, 1) := by decide +kernel
theorem dc_O_restart_13 : decode bc_O_restart 13 = .ok (.getfield 60, 3) := by decide +kernel
theorem dc_O_restart_16 : decode bc_O_restart 16 = .ok (.ifCond .ne 5, 3) := by decide +kernel
theorem dc_O_restart_19 : decode bc_O_restart 19 = .ok (.iconst (-1), 1) := by decide +kernel
theorem dc_O_restart_20 : decode bc_O_restart 20 = .ok (.ireturn, 1) := by decide +kernel
theorem dc_O_restart_21 : decode bc_O_restart 21 = .ok (.aload_n 0, 1) := by decide +kernel
theorem dc_O_restart_22 : decode bc_O_restart 22 = .ok (.getfield 11, 3) := by decide +kernel
theorem dc_O_restart_25 : decode bc_O_restart 25 = .ok (.iload_n 1, 1) := by decide +kernel
theorem dc_O_restart_26 : decode bc_O_restart 26 = .ok (.aaload, 1) := by decide +kernel
theorem dc_O_restart_27 : decode bc_O_restart 27 = .ok (.astore_n 2, 1) := by decide +kernel
theorem dc_O_restart_28 : decode bc_O_restart 28 = .ok (.aload_n 2, 1) := by decide +kernel
theorem dc_O_restart_29 : decode bc_O_restart 29 = .ok (.iconst 0, 1) := by decide +kernel
theorem dc_O_restart_30 : decode bc_O_restart 30 = .ok (.putfield 60, 3) := by decide +kernel
theorem dc_O_restart_33 : decode bc_O_restart 33 = .ok (.aload_n 0, 1) := by decide +kernel
theorem dc_O_restart_34 : decode bc_O_restart 34 = .ok (.getfield 19, 3) := by decide +kernel
theorem dc_O_restart_37 : decode bc_O_restart 37 = .ok (.aload_n 2, 1) := by decide +kernel
theorem dc_O_restart_38 : decode bc_O_restart 38 = .ok (.getfield 108, 3) := by decide +kernel
theorem dc_O_restart_41 : decode bc_O_restart 41 = .ok (.aload_n 0, 1) := by decide +kernel
theorem dc_O_restart_42 : decode bc_O_restart 42 = .ok (.getfield 35, 3) := by decide +kernel
theorem dc_O_restart_45 : decode bc_O_restart 45 = .ok (.invokevirtual 112, 3) := by decide +kernel
theorem dc_O_restart_48 : decode bc_O_restart 48 = .ok (.aload_n 0, 1) := by decide +kernel
theorem dc_O_restart_49 : decode bc_O_restart 49 = .ok (.dup, 1) := by decide +kernel
theorem dc_O_restart_50 : decode bc_O_restart 50 = .ok (.getfield 35, 3) := by decide +kernel
theorem dc_O_restart_53 : decode bc_O_restart 53 = .ok (.iconst 1, 1) := by decide +kernel
theorem dc_O_restart_54 : decode bc_O_restart 54 = .ok (.iadd, 1) := by decide +kernel
theorem dc_O_restart_55 : decode bc_O_restart 55 = .ok (.putfield 35, 3) := by decide +kernel
theorem dc_O_restart_58 : decode bc_O_restart 58 = .ok (.aload_n 2, 1) := by decide +kernel
theorem dc_O_restart_59 : decode bc_O_restart 59 = .ok (.getfield 67, 3) := by decide +kernel
theorem dc_O_restart_62 : decode bc_O_restart 62 = .ok (.istore_n 3, 1) := by decide +kernel
theorem dc_O_restart_63 : decode bc_O_restart 63 = .ok (.iload_n 3, 1) := by decide +kernel
theorem dc_O_restart_64 : decode bc_O_restart 64 = .ok (.aload_n 0, 1) := by decide +kernel
theorem dc_O_restart_65 : decode bc_O_restart 65 = .ok (.getfield 35, 3) := by decide +kernel
theorem dc_O_restart_68 : decode bc_O_restart 68 = .ok (.if_icmp .ge 15, 3) := by decide +kernel
theorem dc_O_restart_71 : decode bc_O_restart 71 = .ok (.aload_n 0, 1) := by decide +kernel
theorem dc_O_restart_72 : decode bc_O_restart 72 = .ok (.aload_n 2, 1) := by decide +kernel
theorem dc_O_restart_73 : decode bc_O_restart 73 = .ok (.invokevirtual 116, 3) := by decide +kernel
theorem dc_O_restart_76 : decode bc_O_restart 76 = .ok (.pop, 1) := by decide +kernel
theorem dc_O_restart_77 : decode bc_O_restart 77 = .ok (.iinc 3 1, 3) := by decide +kernel
theorem dc_O_restart_80 : decode bc_O_restart 80 = .ok (.goto (-17), 3) := by decide +kernel
theorem dc_O_restart_83 : decode bc_O_restart 83 = .ok (.aload_n 2, 1) := by decide +kernel
theorem dc_O_restart_84 : decode bc_O_restart 84 = .ok (.invokevirtual 119, 3) := by decide +kernel
theorem dc_O_restart_87 : decode bc_O_restart 87 = .ok (.aload_n 2, 1) := by decide +kernel
theorem dc_O_restart_88 : decode bc_O_restart 88 = .ok (.getfield 102, 3) := by decide +kernel
theorem dc_O_restart_91 : decode bc_O_restart 91 = .ok (.ireturn, 1) := by decide +kernel
theorem dc_O_learnNext_0 : decode bc_O_learnNext 0 = .ok (.aload_n 0, 1) := by decide +kernel
theorem dc_O_learnNext_1 : decode bc_O_learnNext 1 = .ok (.getfield 19, 3) := by decide +kernel
theorem dc_O_learnNext_4 : decode bc_O_learnNext 4 = .ok (.aload_n 1, 1) := by decide +kernel
theorem dc_O_learnNext_5 : decode bc_O_learnNext 5 = .ok (.getfield 67, 3) := by decide +kernel
theorem dc_O_learnNext_8 : decode bc_O_learnNext 8 = .ok (.invokevirtual 200, 3) := by decide +kernel
theorem dc_O_learnNext_11 : decode bc_O_learnNext 11 = .ok (.lstore_n 2, 1) := by decide +kernel
theorem dc_O_learnNext_12 : decode bc_O_learnNext 12 = .ok (.aload_n 1, 1) := by decide +kernel
theorem dc_O_learnNext_13 : decode bc_O_learnNext 13 = .ok (.dup, 1) := by decide +kernel
theorem dc_O_learnNext_14 : decode bc_O_learnNext 14 = .ok (.getfield 67, 3) := by decide +kernel
theorem dc_O_learnNext_17 : decode bc_O_learnNext 17 = .ok (.iconst 1, 1) := by decide +kernel
theorem dc_O_learnNext_18 : decode bc_O_learnNext 18 = .ok (.iadd, 1) := by decide +kernel
theorem dc_O_learnNext_19 : decode bc_O_learnNext 19 = .ok (.putfield 67, 3) := by decide +kernel
theorem dc_O_learnNext_22 : decode bc_O_learnNext 22 = .ok (.aload_n 1, 1) := by decide +kernel
theorem dc_O_learnNext_23 : decode bc_O_learnNext 23 = .ok (.dup, 1) := by decide +kernel
theorem dc_O_learnNext_24 : decode bc_O_learnNext 24 = .ok (.getfield 164, 3) := by decide +kernel
theorem dc_O_learnNext_27 : decode bc_O_learnNext 27 = .ok (.lload_n 2, 1) := by decide +kernel
theorem dc_O_learnNext_28 : decode bc_O_learnNext 28 = .ok (.lor, 1) := by decide +kernel
theorem dc_O_learnNext_29 : decode bc_O_learnNext 29 = .ok (.putfield 164, 3) := by decide +kernel
theorem dc_O_learnNext_32 : decode bc_O_learnNext 32 = .ok (.aload_n 0, 1) := by decide +kernel
theorem dc_O_learnNext_33 : decode bc_O_learnNext 33 = .ok (.aload_n 1, 1) := by decide +kernel
theorem dc_O_learnNext_34 : decode bc_O_learnNext 34 = .ok (.lload_n 2, 1) := by decide +kernel
theorem dc_O_learnNext_35 : decode bc_O_learnNext 35 = .ok (.invokevirtual 203, 3) := by decide +kernel
theorem dc_O_learnNext_38 : decode bc_O_learnNext 38 = .ok (.istore 4, 2) := by decide +kernel
theorem dc_O_learnNext_40 : decode bc_O_learnNext 40 = .ok (.aload_n 1, 1) := by decide +kernel
theorem dc_O_learnNext_41 : decode bc_O_learnNext 41 = .ok (.getfield 102, 3) := by decide +kernel
theorem dc_O_learnNext_44 : decode bc_O_learnNext 44 = .ok (.iload 4, 2) := by decide +kernel
theorem dc_O_learnNext_46 : decode bc_O_learnNext 46 = .ok (.isub, 1) := by decide +kernel
theorem dc_O_learnNext_47 : decode bc_O_learnNext 47 = .ok (.istore 5, 2) := by decide +kernel
theorem dc_O_learnNext_49 : decode bc_O_learnNext 49 = .ok (.iload 4, 2) := by decide +kernel
theorem dc_O_learnNext_51 : decode bc_O_learnNext 51 = .ok (.istore 6, 2) := by decide +kernel
theorem dc_O_learnNext_53 : decode bc_O_learnNext 53 = .ok (.iload 6, 2) := by decide +kernel
theorem dc_O_learnNext_55 : decode bc_O_learnNext 55 = .ok (.aload_n 1, 1) := by decide +kernel
theorem dc_O_learnNext_56 : decode bc_O_learnNext 56 = .ok (.getfield 102, 3) := by decide +kernel
theorem dc_O_learnNext_59 : decode bc_O_learnNext 59 = .ok (.if_icmp .ge 29, 3) := by decide +kernel
theorem dc_O_learnNext_62 : decode bc_O_learnNext 62 = .ok (.aload_n 0, 1) := by decide +kernel
theorem dc_O_learnNext_63 : decode bc_O_learnNext 63 = .ok (.aload_n 1, 1) := by decide +kernel
theorem dc_O_learnNext_64 : decode bc_O_learnNext 64 = .ok (.aload_n 0, 1) := by decide +kernel
theorem dc_O_learnNext_65 : decode bc_O_learnNext 65 = .ok (.getfield 19, 3) := by decide +kernel
theorem dc_O_learnNext_68 : decode bc_O_learnNext 68 = .ok (.getfield 194, 3) := by decide +kernel
theorem dc_O_learnNext_71 : decode bc_O_learnNext 71 = .ok (.aload_n 1, 1) := by decide +kernel
theorem dc_O_learnNext_72 : decode bc_O_learnNext 72 = .ok (.getfield 125, 3) := by decide +kernel
theorem dc_O_learnNext_75 : decode bc_O_learnNext 75 = .ok (.iload 6, 2) := by decide +kernel
theorem dc_O_learnNext_77 : decode bc_O_learnNext 77 = .ok (.iaload, 1) := by decide +kernel
theorem dc_O_learnNext_78 : decode bc_O_learnNext 78 = .ok (.iaload, 1) := by decide +kernel
theorem dc_O_learnNext_79 : decode bc_O_learnNext 79 = .ok (.invokevirtual 207, 3) := by decide +kernel
theorem dc_O_learnNext_82 : decode bc_O_learnNext 82 = .ok (.iinc 6 1, 3) := by decide +kernel
theorem dc_O_learnNext_85 : decode bc_O_learnNext 85 = .ok (.goto (-32), 3) := by decide +kernel
theorem dc_O_learnNext_88 : decode bc_O_learnNext 88 = .ok (.aload_n 1, 1) := by decide +kernel
theorem dc_O_learnNext_89 : decode bc_O_learnNext 89 = .ok (.iload 4, 2) := by decide +kernel
theorem dc_O_learnNext_91 : decode bc_O_learnNext 91 = .ok (.putfield 102, 3) := by decide +kernel
theorem dc_O_learnNext_94 : decode bc_O_learnNext 94 = .ok (.aload_n 1, 1) := by decide +kernel
theorem dc_O_learnNext_95 : decode bc_O_learnNext 95 = .ok (.invokevirtual 211, 3) := by decide +kernel
theorem dc_O_learnNext_98 : decode bc_O_learnNext 98 = .ok (.iload 5, 2) := by decide +kernel
theorem dc_O_learnNext_100 : decode bc_O_learnNext 100 = .ok (.ireturn, 1) := by decide +kernel
theorem dc_O_firstOnChain_0 : decode bc_O_firstOnChain 0 = .ok (.iconst 0, 1) := by decide +kernel
theorem dc_O_firstOnChain_1 : decode bc_O_firstOnChain 1 = .ok (.istore 4, 2) := by decide +kernel
theorem dc_O_firstOnChain_3 : decode bc_O_firstOnChain 3 = .ok (.iload 4, 2) := by decide +kernel
theorem dc_O_firstOnChain_5 : decode bc_O_firstOnChain 5 = .ok (.aload_n 1, 1) := by decide +kernel
theorem dc_O_firstOnChain_6 : decode bc_O_firstOnChain 6 = .ok (.getfield 102, 3) := by decide +kernel
theorem dc_O_firstOnChain_9 : decode bc_O_firstOnChain 9 = .ok (.if_icmp .ge 34, 3) := by decide +kernel
theorem dc_O_firstOnChain_12 : decode bc_O_firstOnChain 12 = .ok (.aload_n 0, 1) := by decide +kernel
theorem dc_O_firstOnChain_13 : decode bc_O_firstOnChain 13 = .ok (.getfield 19, 3) := by decide +kernel
theorem dc_O_firstOnChain_16 : decode bc_O_firstOnChain 16 = .ok (.getfield 156, 3) := by decide +kernel
theorem dc_O_firstOnChain_19 : decode bc_O_firstOnChain 19 = .ok (.aload_n 1, 1) := by decide +kernel
theorem dc_O_firstOnChain_20 : decode bc_O_firstOnChain 20 = .ok (.getfield 125, 3) := by decide +kernel
theorem dc_O_firstOnChain_23 : decode bc_O_firstOnChain 23 = .ok (.iload 4, 2) := by decide +kernel
theorem dc_O_firstOnChain_25 : decode bc_O_firstOnChain 25 = .ok (.iaload, 1) := by decide +kernel
theorem dc_O_firstOnChain_26 : decode bc_O_firstOnChain 26 = .ok (.laload, 1) := by decide +kernel
theorem dc_O_firstOnChain_27 : decode bc_O_firstOnChain 27 = .ok (.lload_n 2, 1) := by decide +kernel
theorem dc_O_firstOnChain_28 : decode bc_O_firstOnChain 28 = .ok (.land, 1) := by decide +kernel
theorem dc_O_firstOnChain_29 : decode bc_O_firstOnChain 29 = .ok (.lconst 0, 1) := by decide +kernel
theorem dc_O_firstOnChain_30 : decode bc_O_firstOnChain 30 = .ok (.lcmp, 1) := by decide +kernel
theorem dc_O_firstOnChain_31 : decode bc_O_firstOnChain 31 = .ok (.ifCond .eq 6, 3) := by decide +kernel
theorem dc_O_firstOnChain_34 : decode bc_O_firstOnChain 34 = .ok (.iload 4, 2) := by decide +kernel
theorem dc_O_firstOnChain_36 : decode bc_O_firstOnChain 36 = .ok (.ireturn, 1) := by decide +kernel
theorem dc_O_firstOnChain_37 : decode bc_O_firstOnChain 37 = .ok (.iinc 4 1, 3) := by decide +kernel
theorem dc_O_firstOnChain_40 : decode bc_O_firstOnChain 40 = .ok (.goto (-37), 3) := by decide +kernel
theorem dc_O_firstOnChain_43 : decode bc_O_firstOnChain 43 = .ok (.aload_n 1, 1) := by decide +kernel
theorem dc_O_firstOnChain_44 : decode bc_O_firstOnChain 44 = .ok (.getfield 102, 3) := by decide +kernel
theorem dc_O_firstOnChain_47 : decode bc_O_firstOnChain 47 = .ok (.ireturn, 1) := by decide +kernel
theorem dc_O_giveBack_0 : decode bc_O_giveBack 0 = .ok (.aload_n 0, 1) := by decide +kernel
theorem dc_O_giveBack_1 : decode bc_O_giveBack 1 = .ok (.getfield 26, 3) := by decide +kernel
theorem dc_O_giveBack_4 : decode bc_O_giveBack 4 = .ok (.getfield 74, 3) := by decide +kernel
theorem dc_O_giveBack_7 : decode bc_O_giveBack 7 = .ok (.iload_n 2, 1) := by decide +kernel
theorem dc_O_giveBack_8 : decode bc_O_giveBack 8 = .ok (.aload_n 0, 1) := by decide +kernel
theorem dc_O_giveBack_9 : decode bc_O_giveBack 9 = .ok (.aload_n 1, 1) := by decide +kernel
theorem dc_O_giveBack_10 : decode bc_O_giveBack 10 = .ok (.iload_n 2, 1) := by decide +kernel
theorem dc_O_giveBack_11 : decode bc_O_giveBack 11 = .ok (.invokevirtual 70, 3) := by decide +kernel
theorem dc_O_giveBack_14 : decode bc_O_giveBack 14 = .ok (.ifCond .eq 7, 3) := by decide +kernel
theorem dc_O_giveBack_17 : decode bc_O_giveBack 17 = .ok (.iconst 3, 1) := by decide +kernel
theorem dc_O_giveBack_18 : decode bc_O_giveBack 18 = .ok (.goto 4, 3) := by decide +kernel
theorem dc_O_giveBack_21 : decode bc_O_giveBack 21 = .ok (.iconst 0, 1) := by decide +kernel
theorem dc_O_giveBack_22 : decode bc_O_giveBack 22 = .ok (.iastore, 1) := by decide +kernel
theorem dc_O_giveBack_23 : decode bc_O_giveBack 23 = .ok (.return_, 1) := by decide +kernel
theorem dc_O_learn_0 : decode bc_O_learn 0 = .ok (.aload_n 0, 1) := by decide +kernel
theorem dc_O_learn_1 : decode bc_O_learn 1 = .ok (.iload_n 1, 1) := by decide +kernel
theorem dc_O_learn_2 : decode bc_O_learn 2 = .ok (.invokevirtual 84, 3) := by decide +kernel
theorem dc_O_learn_5 : decode bc_O_learn 5 = .ok (.ifCond .eq 19, 3) := by decide +kernel
theorem dc_O_learn_8 : decode bc_O_learn 8 = .ok (.aload_n 0, 1) := by decide +kernel
theorem dc_O_learn_9 : decode bc_O_learn 9 = .ok (.getfield 11, 3) := by decide +kernel
theorem dc_O_learn_12 : decode bc_O_learn 12 = .ok (.iload_n 1, 1) := by decide +kernel
theorem dc_O_learn_13 : decode bc_O_learn 13 = .ok (.aaload, 1) := by decide +kernel
theorem dc_O_learn_14 : decode bc_O_learn 14 = .ok (.getfield 67, 3) := by decide +kernel
theorem dc_O_learn_17 : decode bc_O_learn 17 = .ok (.aload_n 0, 1) := by decide +kernel
theorem dc_O_learn_18 : decode bc_O_learn 18 = .ok (.getfield 35, 3) := by decide +kernel
theorem dc_O_learn_21 : decode bc_O_learn 21 = .ok (.if_icmp .lt 5, 3) := by decide +kernel
theorem dc_O_learn_24 : decode bc_O_learn 24 = .ok (.iconst (-1), 1) := by decide +kernel
theorem dc_O_learn_25 : decode bc_O_learn 25 = .ok (.ireturn, 1) := by decide +kernel
theorem dc_O_learn_26 : decode bc_O_learn 26 = .ok (.aload_n 0, 1) := by decide +kernel
theorem dc_O_learn_27 : decode bc_O_learn 27 = .ok (.getfield 11, 3) := by decide +kernel
theorem dc_O_learn_30 : decode bc_O_learn 30 = .ok (.iload_n 1, 1) := by decide +kernel
theorem dc_O_learn_31 : decode bc_O_learn 31 = .ok (.aaload, 1) := by decide +kernel
theorem dc_O_learn_32 : decode bc_O_learn 32 = .ok (.astore_n 2, 1) := by decide +kernel
theorem dc_O_learn_33 : decode bc_O_learn 33 = .ok (.aload_n 0, 1) := by decide +kernel
theorem dc_O_learn_34 : decode bc_O_learn 34 = .ok (.aload_n 2, 1) := by decide +kernel
theorem dc_O_learn_35 : decode bc_O_learn 35 = .ok (.invokevirtual 116, 3) := by decide +kernel
theorem dc_O_learn_38 : decode bc_O_learn 38 = .ok (.istore_n 3, 1) := by decide +kernel
theorem dc_O_learn_39 : decode bc_O_learn 39 = .ok (.iload_n 3, 1) := by decide +kernel
theorem dc_O_learn_40 : decode bc_O_learn 40 = .ok (.ifCond .le 7, 3) := by decide +kernel
theorem dc_O_learn_43 : decode bc_O_learn 43 = .ok (.aload_n 2, 1) := by decide +kernel
theorem dc_O_learn_44 : decode bc_O_learn 44 = .ok (.invokevirtual 119, 3) := by decide +kernel
theorem dc_O_learn_47 : decode bc_O_learn 47 = .ok (.iload_n 3, 1) := by decide +kernel
theorem dc_O_learn_48 : decode bc_O_learn 48 = .ok (.ireturn, 1) := by decide +kernel
theorem dc_O_release_0 : decode bc_O_release 0 = .ok (.aload_n 0, 1) := by decide +kernel
theorem dc_O_release_1 : decode bc_O_release 1 = .ok (.iload_n 1, 1) := by decide +kernel
theorem dc_O_release_2 : decode bc_O_release 2 = .ok (.invokevirtual 84, 3) := by decide +kernel
theorem dc_O_release_5 : decode bc_O_release 5 = .ok (.ifCond .ne 5, 3) := by decide +kernel
theorem dc_O_release_8 : decode bc_O_release 8 = .ok (.iconst (-1), 1) := by decide +kernel
theorem dc_O_release_9 : decode bc_O_release 9 = .ok (.ireturn, 1) := by decide +kernel
theorem dc_O_release_10 : decode bc_O_release 10 = .ok (.aload_n 0, 1) := by decide +kernel
theorem dc_O_release_11 : decode bc_O_release 11 = .ok (.getfield 11, 3) := by decide +kernel
theorem dc_O_release_14 : decode bc_O_release 14 = .ok (.iload_n 1, 1) := by decide +kernel
theorem dc_O_release_15 : decode bc_O_release 15 = .ok (.aaload, 1) := by decide +kernel
theorem dc_O_release_16 : decode bc_O_release 16 = .ok (.astore_n 2, 1) := by decide +kernel
theorem dc_O_release_17 : decode bc_O_release 17 = .ok (.aload_n 2, 1) := by decide +kernel
theorem dc_O_release_18 : decode bc_O_release 18 = .ok (.getfield 122, 3) := by decide +kernel
theorem dc_O_release_21 : decode bc_O_release 21 = .ok (.istore_n 3, 1) := by decide +kernel
theorem dc_O_release_22 : decode bc_O_release 22 = .ok (.iconst 0, 1) := by decide +kernel
theorem dc_O_release_23 : decode bc_O_release 23 = .ok (.istore 4, 2) := by decide +kernel
theorem dc_O_release_25 : decode bc_O_release 25 = .ok (.iload 4, 2) := by decide +kernel
theorem dc_O_release_27 : decode bc_O_release 27 = .ok (.aload_n 2, 1) := by decide +kernel
theorem dc_O_release_28 : decode bc_O_release 28 = .ok (.getfield 102, 3) := by decide +kernel
theorem dc_O_release_31 : decode bc_O_release 31 = .ok (.if_icmp .ge 60, 3) := by decide +kernel
theorem dc_O_release_34 : decode bc_O_release 34 = .ok (.aload_n 2, 1) := by decide +kernel
theorem dc_O_release_35 : decode bc_O_release 35 = .ok (.getfield 125, 3) := by decide +kernel
theorem dc_O_release_38 : decode bc_O_release 38 = .ok (.iload 4, 2) := by decide +kernel
theorem dc_O_release_40 : decode bc_O_release 40 = .ok (.iaload, 1) := by decide +kernel
theorem dc_O_release_41 : decode bc_O_release 41 = .ok (.istore 5, 2) := by decide +kernel
theorem dc_O_release_43 : decode bc_O_release 43 = .ok (.aload_n 0, 1) := by decide +kernel
theorem dc_O_release_44 : decode bc_O_release 44 = .ok (.getfield 19, 3) := by decide +kernel
theorem dc_O_release_47 : decode bc_O_release 47 = .ok (.iload 5, 2) := by decide +kernel
theorem dc_O_release_49 : decode bc_O_release 49 = .ok (.invokevirtual 128, 3) := by decide +kernel
theorem dc_O_release_52 : decode bc_O_release 52 = .ok (.ifCond .eq 33, 3) := by decide +kernel
theorem dc_O_release_55 : decode bc_O_release 55 = .ok (.aload_n 0, 1) := by decide +kernel
theorem dc_O_release_56 : decode bc_O_release 56 = .ok (.getfield 19, 3) := by decide +kernel
theorem dc_O_release_59 : decode bc_O_release 59 = .ok (.dup, 1) := by decide +kernel
theorem dc_O_release_60 : decode bc_O_release 60 = .ok (.getfield 131, 3) := by decide +kernel
theorem dc_O_release_63 : decode bc_O_release 63 = .ok (.lconst 1, 1) := by decide +kernel
theorem dc_O_release_64 : decode bc_O_release 64 = .ok (.iload 5, 2) := by decide +kernel
theorem dc_O_release_66 : decode bc_O_release 66 = .ok (.lshl, 1) := by decide +kernel
theorem dc_O_release_67 : decode bc_O_release 67 = .ok (.lor, 1) := by decide +kernel
theorem dc_O_release_68 : decode bc_O_release 68 = .ok (.putfield 131, 3) := by decide +kernel
theorem dc_O_release_71 : decode bc_O_release 71 = .ok (.aload_n 2, 1) := by decide +kernel
theorem dc_O_release_72 : decode bc_O_release 72 = .ok (.aload_n 0, 1) := by decide +kernel
theorem dc_O_release_73 : decode bc_O_release 73 = .ok (.getfield 19, 3) := by decide +kernel
theorem dc_O_release_76 : decode bc_O_release 76 = .ok (.getfield 134, 3) := by decide +kernel
theorem dc_O_release_79 : decode bc_O_release 79 = .ok (.iload 5, 2) := by decide +kernel
theorem dc_O_release_81 : decode bc_O_release 81 = .ok (.iaload, 1) := by decide +kernel
theorem dc_O_release_82 : decode bc_O_release 82 = .ok (.invokevirtual 137, 3) := by decide +kernel
theorem dc_O_release_85 : decode bc_O_release 85 = .ok (.iinc 4 1, 3) := by decide +kernel
theorem dc_O_release_88 : decode bc_O_release 88 = .ok (.goto (-63), 3) := by decide +kernel
theorem dc_O_release_91 : decode bc_O_release 91 = .ok (.aload_n 2, 1) := by decide +kernel
theorem dc_O_release_92 : decode bc_O_release 92 = .ok (.getfield 122, 3) := by decide +kernel
theorem dc_O_release_95 : decode bc_O_release 95 = .ok (.iload_n 3, 1) := by decide +kernel
theorem dc_O_release_96 : decode bc_O_release 96 = .ok (.isub, 1) := by decide +kernel
theorem dc_O_release_97 : decode bc_O_release 97 = .ok (.ireturn, 1) := by decide +kernel
theorem dc_O_released_0 : decode bc_O_released 0 = .ok (.iload_n 1, 1) := by decide +kernel
theorem dc_O_released_1 : decode bc_O_released 1 = .ok (.invokestatic 39, 3) := by decide +kernel
theorem dc_O_released_4 : decode bc_O_released 4 = .ok (.ifCond .eq 20, 3) := by decide +kernel
theorem dc_O_released_7 : decode bc_O_released 7 = .ok (.iload_n 2, 1) := by decide +kernel
theorem dc_O_released_8 : decode bc_O_released 8 = .ok (.ifCond .lt 16, 3) := by decide +kernel
theorem dc_O_released_11 : decode bc_O_released 11 = .ok (.iload_n 2, 1) := by decide +kernel
theorem dc_O_released_12 : decode bc_O_released 12 = .ok (.aload_n 0, 1) := by decide +kernel
theorem dc_O_released_13 : decode bc_O_released 13 = .ok (.getfield 11, 3) := by decide +kernel
theorem dc_O_released_16 : decode bc_O_released 16 = .ok (.iload_n 1, 1) := by decide +kernel
theorem dc_O_released_17 : decode bc_O_released 17 = .ok (.aaload, 1) := by decide +kernel
theorem dc_O_released_18 : decode bc_O_released 18 = .ok (.getfield 122, 3) := by decide +kernel
theorem dc_O_released_21 : decode bc_O_released 21 = .ok (.if_icmp .lt 5, 3) := by decide +kernel
theorem dc_O_released_24 : decode bc_O_released 24 = .ok (.iconst 0, 1) := by decide +kernel
theorem dc_O_released_25 : decode bc_O_released 25 = .ok (.ireturn, 1) := by decide +kernel
theorem dc_O_released_26 : decode bc_O_released 26 = .ok (.aload_n 0, 1) := by decide +kernel
theorem dc_O_released_27 : decode bc_O_released 27 = .ok (.getfield 11, 3) := by decide +kernel
theorem dc_O_released_30 : decode bc_O_released 30 = .ok (.iload_n 1, 1) := by decide +kernel
theorem dc_O_released_31 : decode bc_O_released 31 = .ok (.aaload, 1) := by decide +kernel
theorem dc_O_released_32 : decode bc_O_released 32 = .ok (.getfield 141, 3) := by decide +kernel
theorem dc_O_released_35 : decode bc_O_released 35 = .ok (.iload_n 2, 1) := by decide +kernel
theorem dc_O_released_36 : decode bc_O_released 36 = .ok (.iaload, 1) := by decide +kernel
theorem dc_O_released_37 : decode bc_O_released 37 = .ok (.ireturn, 1) := by decide +kernel
theorem dc_O_outputs_0 : decode bc_O_outputs 0 = .ok (.iload_n 1, 1) := by decide +kernel
theorem dc_O_outputs_1 : decode bc_O_outputs 1 = .ok (.invokestatic 39, 3) := by decide +kernel
theorem dc_O_outputs_4 : decode bc_O_outputs 4 = .ok (.ifCond .eq 15, 3) := by decide +kernel
theorem dc_O_outputs_7 : decode bc_O_outputs 7 = .ok (.aload_n 0, 1) := by decide +kernel
theorem dc_O_outputs_8 : decode bc_O_outputs 8 = .ok (.getfield 11, 3) := by decide +kernel
theorem dc_O_outputs_11 : decode bc_O_outputs 11 = .ok (.iload_n 1, 1) := by decide +kernel
theorem dc_O_outputs_12 : decode bc_O_outputs 12 = .ok (.aaload, 1) := by decide +kernel
theorem dc_O_outputs_13 : decode bc_O_outputs 13 = .ok (.getfield 122, 3) := by decide +kernel
theorem dc_O_outputs_16 : decode bc_O_outputs 16 = .ok (.goto 4, 3) := by decide +kernel
theorem dc_O_outputs_19 : decode bc_O_outputs 19 = .ok (.iconst (-1), 1) := by decide +kernel
theorem dc_O_outputs_20 : decode bc_O_outputs 20 = .ok (.ireturn, 1) := by decide +kernel
theorem dc_O_state_0 : decode bc_O_state 0 = .ok (.aload_n 0, 1) := by decide +kernel
theorem dc_O_state_1 : decode bc_O_state 1 = .ok (.iload_n 1, 1) := by decide +kernel
theorem dc_O_state_2 : decode bc_O_state 2 = .ok (.invokevirtual 84, 3) := by decide +kernel
theorem dc_O_state_5 : decode bc_O_state 5 = .ok (.ifCond .eq 16, 3) := by decide +kernel
theorem dc_O_state_8 : decode bc_O_state 8 = .ok (.aload_n 0, 1) := by decide +kernel
theorem dc_O_state_9 : decode bc_O_state 9 = .ok (.aload_n 0, 1) := by decide +kernel
theorem dc_O_state_10 : decode bc_O_state 10 = .ok (.getfield 11, 3) := by decide +kernel
theorem dc_O_state_13 : decode bc_O_state 13 = .ok (.iload_n 1, 1) := by decide +kernel
theorem dc_O_state_14 : decode bc_O_state 14 = .ok (.aaload, 1) := by decide +kernel
theorem dc_O_state_15 : decode bc_O_state 15 = .ok (.invokevirtual 144, 3) := by decide +kernel
theorem dc_O_state_18 : decode bc_O_state 18 = .ok (.goto 4, 3) := by decide +kernel
theorem dc_O_state_21 : decode bc_O_state 21 = .ok (.iconst 0, 1) := by decide +kernel
theorem dc_O_state_22 : decode bc_O_state 22 = .ok (.ireturn, 1) := by decide +kernel
theorem dc_O_length_0 : decode bc_O_length 0 = .ok (.aload_n 0, 1) := by decide +kernel
theorem dc_O_length_1 : decode bc_O_length 1 = .ok (.iload_n 1, 1) := by decide +kernel
theorem dc_O_length_2 : decode bc_O_length 2 = .ok (.invokevirtual 84, 3) := by decide +kernel
theorem dc_O_length_5 : decode bc_O_length 5 = .ok (.ifCond .eq 15, 3) := by decide +kernel
theorem dc_O_length_8 : decode bc_O_length 8 = .ok (.aload_n 0, 1) := by decide +kernel
theorem dc_O_length_9 : decode bc_O_length 9 = .ok (.getfield 11, 3) := by decide +kernel
theorem dc_O_length_12 : decode bc_O_length 12 = .ok (.iload_n 1, 1) := by decide +kernel
theorem dc_O_length_13 : decode bc_O_length 13 = .ok (.aaload, 1) := by decide +kernel
theorem dc_O_length_14 : decode bc_O_length 14 = .ok (.getfield 102, 3) := by decide +kernel
theorem dc_O_length_17 : decode bc_O_length 17 = .ok (.goto 4, 3) := by decide +kernel
theorem dc_O_length_20 : decode bc_O_length 20 = .ok (.iconst (-1), 1) := by decide +kernel
theorem dc_O_length_21 : decode bc_O_length 21 = .ok (.ireturn, 1) := by decide +kernel
theorem dc_O_known_0 : decode bc_O_known 0 = .ok (.iload_n 1, 1) := by decide +kernel
theorem dc_O_known_1 : decode bc_O_known 1 = .ok (.invokestatic 39, 3) := by decide +kernel
theorem dc_O_known_4 : decode bc_O_known 4 = .ok (.ifCond .eq 15, 3) := by decide +kernel
theorem dc_O_known_7 : decode bc_O_known 7 = .ok (.aload_n 0, 1) := by decide +kernel
theorem dc_O_known_8 : decode bc_O_known 8 = .ok (.getfield 11, 3) := by decide +kernel
theorem dc_O_known_11 : decode bc_O_known 11 = .ok (.iload_n 1, 1) := by decide +kernel
theorem dc_O_known_12 : decode bc_O_known 12 = .ok (.aaload, 1) := by decide +kernel
theorem dc_O_known_13 : decode bc_O_known 13 = .ok (.getfield 67, 3) := by decide +kernel
theorem dc_O_known_16 : decode bc_O_known 16 = .ok (.goto 4, 3) := by decide +kernel
theorem dc_O_known_19 : decode bc_O_known 19 = .ok (.iconst (-1), 1) := by decide +kernel
theorem dc_O_known_20 : decode bc_O_known 20 = .ok (.ireturn, 1) := by decide +kernel
