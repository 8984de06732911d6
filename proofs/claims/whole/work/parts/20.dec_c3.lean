theorem dc_R_crash_0 : decode bc_R_crash 0 = .ok (.aload_n 0, 1) := by decide +kernel
theorem dc_R_crash_1 : decode bc_R_crash 1 = .ok (.iload_n 1, 1) := by decide +kernel
theorem dc_R_crash_2 : decode bc_R_crash 2 = .ok (.invokevirtual 126, 3) := by decide +kernel
theorem dc_R_crash_5 : decode bc_R_crash 5 = .ok (.ifCond .ne 5, 3) := by decide +kernel
theorem dc_R_crash_8 : decode bc_R_crash 8 = .ok (.iconst (-1), 1) := by decide +kernel
theorem dc_R_crash_9 : decode bc_R_crash 9 = .ok (.ireturn, 1) := by decide +kernel
theorem dc_R_crash_10 : decode bc_R_crash 10 = .ok (.aload_n 0, 1) := by decide +kernel
theorem dc_R_crash_11 : decode bc_R_crash 11 = .ok (.getfield 53, 3) := by decide +kernel
theorem dc_R_crash_14 : decode bc_R_crash 14 = .ok (.iload_n 1, 1) := by decide +kernel
theorem dc_R_crash_15 : decode bc_R_crash 15 = .ok (.iconst 1, 1) := by decide +kernel
theorem dc_R_crash_16 : decode bc_R_crash 16 = .ok (.bastore, 1) := by decide +kernel
theorem dc_R_crash_17 : decode bc_R_crash 17 = .ok (.iconst 0, 1) := by decide +kernel
theorem dc_R_crash_18 : decode bc_R_crash 18 = .ok (.istore_n 2, 1) := by decide +kernel
theorem dc_R_crash_19 : decode bc_R_crash 19 = .ok (.iconst 0, 1) := by decide +kernel
theorem dc_R_crash_20 : decode bc_R_crash 20 = .ok (.istore_n 3, 1) := by decide +kernel
theorem dc_R_crash_21 : decode bc_R_crash 21 = .ok (.iload_n 3, 1) := by decide +kernel
theorem dc_R_crash_22 : decode bc_R_crash 22 = .ok (.aload_n 0, 1) := by decide +kernel
theorem dc_R_crash_23 : decode bc_R_crash 23 = .ok (.getfield 59, 3) := by decide +kernel
theorem dc_R_crash_26 : decode bc_R_crash 26 = .ok (.iload_n 1, 1) := by decide +kernel
theorem dc_R_crash_27 : decode bc_R_crash 27 = .ok (.iaload, 1) := by decide +kernel
theorem dc_R_crash_28 : decode bc_R_crash 28 = .ok (.if_icmp .ge 80, 3) := by decide +kernel
theorem dc_R_crash_31 : decode bc_R_crash 31 = .ok (.aload_n 0, 1) := by decide +kernel
theorem dc_R_crash_32 : decode bc_R_crash 32 = .ok (.getfield 56, 3) := by decide +kernel
theorem dc_R_crash_35 : decode bc_R_crash 35 = .ok (.bipush 40, 2) := by decide +kernel
theorem dc_R_crash_37 : decode bc_R_crash 37 = .ok (.iload_n 1, 1) := by decide +kernel
theorem dc_R_crash_38 : decode bc_R_crash 38 = .ok (.imul, 1) := by decide +kernel
theorem dc_R_crash_39 : decode bc_R_crash 39 = .ok (.iload_n 3, 1) := by decide +kernel
theorem dc_R_crash_40 : decode bc_R_crash 40 = .ok (.iadd, 1) := by decide +kernel
theorem dc_R_crash_41 : decode bc_R_crash 41 = .ok (.iaload, 1) := by decide +kernel
theorem dc_R_crash_42 : decode bc_R_crash 42 = .ok (.istore 4, 2) := by decide +kernel
theorem dc_R_crash_44 : decode bc_R_crash 44 = .ok (.aload_n 0, 1) := by decide +kernel
theorem dc_R_crash_45 : decode bc_R_crash 45 = .ok (.getfield 19, 3) := by decide +kernel
theorem dc_R_crash_48 : decode bc_R_crash 48 = .ok (.iload 4, 2) := by decide +kernel
theorem dc_R_crash_50 : decode bc_R_crash 50 = .ok (.baload, 1) := by decide +kernel
theorem dc_R_crash_51 : decode bc_R_crash 51 = .ok (.ifCond .eq 22, 3) := by decide +kernel
theorem dc_R_crash_54 : decode bc_R_crash 54 = .ok (.aload_n 0, 1) := by decide +kernel
theorem dc_R_crash_55 : decode bc_R_crash 55 = .ok (.getfield 56, 3) := by decide +kernel
theorem dc_R_crash_58 : decode bc_R_crash 58 = .ok (.bipush 40, 2) := by decide +kernel
theorem dc_R_crash_60 : decode bc_R_crash 60 = .ok (.iload_n 1, 1) := by decide +kernel
theorem dc_R_crash_61 : decode bc_R_crash 61 = .ok (.imul, 1) := by decide +kernel
theorem dc_R_crash_62 : decode bc_R_crash 62 = .ok (.iload_n 2, 1) := by decide +kernel
theorem dc_R_crash_63 : decode bc_R_crash 63 = .ok (.iadd, 1) := by decide +kernel
theorem dc_R_crash_64 : decode bc_R_crash 64 = .ok (.iload 4, 2) := by decide +kernel
theorem dc_R_crash_66 : decode bc_R_crash 66 = .ok (.iastore, 1) := by decide +kernel
theorem dc_R_crash_67 : decode bc_R_crash 67 = .ok (.iinc 2 1, 3) := by decide +kernel
theorem dc_R_crash_70 : decode bc_R_crash 70 = .ok (.goto 32, 3) := by decide +kernel
theorem dc_R_crash_73 : decode bc_R_crash 73 = .ok (.aload_n 0, 1) := by decide +kernel
theorem dc_R_crash_74 : decode bc_R_crash 74 = .ok (.getfield 23, 3) := by decide +kernel
theorem dc_R_crash_77 : decode bc_R_crash 77 = .ok (.iload 4, 2) := by decide +kernel
theorem dc_R_crash_79 : decode bc_R_crash 79 = .ok (.iconst 1, 1) := by decide +kernel
theorem dc_R_crash_80 : decode bc_R_crash 80 = .ok (.bastore, 1) := by decide +kernel
theorem dc_R_crash_81 : decode bc_R_crash 81 = .ok (.aload_n 0, 1) := by decide +kernel
theorem dc_R_crash_82 : decode bc_R_crash 82 = .ok (.getfield 26, 3) := by decide +kernel
theorem dc_R_crash_85 : decode bc_R_crash 85 = .ok (.iload 4, 2) := by decide +kernel
theorem dc_R_crash_87 : decode bc_R_crash 87 = .ok (.iload_n 1, 1) := by decide +kernel
theorem dc_R_crash_88 : decode bc_R_crash 88 = .ok (.iastore, 1) := by decide +kernel
theorem dc_R_crash_89 : decode bc_R_crash 89 = .ok (.aload_n 0, 1) := by decide +kernel
theorem dc_R_crash_90 : decode bc_R_crash 90 = .ok (.getfield 44, 3) := by decide +kernel
theorem dc_R_crash_93 : decode bc_R_crash 93 = .ok (.aload_n 0, 1) := by decide +kernel
theorem dc_R_crash_94 : decode bc_R_crash 94 = .ok (.getfield 13, 3) := by decide +kernel
theorem dc_R_crash_97 : decode bc_R_crash 97 = .ok (.iload 4, 2) := by decide +kernel
theorem dc_R_crash_99 : decode bc_R_crash 99 = .ok (.iaload, 1) := by decide +kernel
theorem dc_R_crash_100 : decode bc_R_crash 100 = .ok (.iconst 2, 1) := by decide +kernel
theorem dc_R_crash_101 : decode bc_R_crash 101 = .ok (.iastore, 1) := by decide +kernel
theorem dc_R_crash_102 : decode bc_R_crash 102 = .ok (.iinc 3 1, 3) := by decide +kernel
theorem dc_R_crash_105 : decode bc_R_crash 105 = .ok (.goto (-84), 3) := by decide +kernel
theorem dc_R_crash_108 : decode bc_R_crash 108 = .ok (.aload_n 0, 1) := by decide +kernel
theorem dc_R_crash_109 : decode bc_R_crash 109 = .ok (.getfield 59, 3) := by decide +kernel
theorem dc_R_crash_112 : decode bc_R_crash 112 = .ok (.iload_n 1, 1) := by decide +kernel
theorem dc_R_crash_113 : decode bc_R_crash 113 = .ok (.iaload, 1) := by decide +kernel
theorem dc_R_crash_114 : decode bc_R_crash 114 = .ok (.iload_n 2, 1) := by decide +kernel
theorem dc_R_crash_115 : decode bc_R_crash 115 = .ok (.isub, 1) := by decide +kernel
theorem dc_R_crash_116 : decode bc_R_crash 116 = .ok (.istore_n 3, 1) := by decide +kernel
theorem dc_R_crash_117 : decode bc_R_crash 117 = .ok (.aload_n 0, 1) := by decide +kernel
theorem dc_R_crash_118 : decode bc_R_crash 118 = .ok (.getfield 59, 3) := by decide +kernel
theorem dc_R_crash_121 : decode bc_R_crash 121 = .ok (.iload_n 1, 1) := by decide +kernel
theorem dc_R_crash_122 : decode bc_R_crash 122 = .ok (.iload_n 2, 1) := by decide +kernel
theorem dc_R_crash_123 : decode bc_R_crash 123 = .ok (.iastore, 1) := by decide +kernel
theorem dc_R_crash_124 : decode bc_R_crash 124 = .ok (.iload_n 3, 1) := by decide +kernel
theorem dc_R_crash_125 : decode bc_R_crash 125 = .ok (.ireturn, 1) := by decide +kernel
theorem dc_R_restart_0 : decode bc_R_restart 0 = .ok (.aload_n 0, 1) := by decide +kernel
theorem dc_R_restart_1 : decode bc_R_restart 1 = .ok (.iload_n 1, 1) := by decide +kernel
theorem dc_R_restart_2 : decode bc_R_restart 2 = .ok (.invokevirtual 96, 3) := by decide +kernel
theorem dc_R_restart_5 : decode bc_R_restart 5 = .ok (.ifCond .eq 12, 3) := by decide +kernel
theorem dc_R_restart_8 : decode bc_R_restart 8 = .ok (.aload_n 0, 1) := by decide +kernel
theorem dc_R_restart_9 : decode bc_R_restart 9 = .ok (.getfield 53, 3) := by decide +kernel
theorem dc_R_restart_12 : decode bc_R_restart 12 = .ok (.iload_n 1, 1) := by decide +kernel
theorem dc_R_restart_13 : decode bc_R_restart 13 = .ok (.baload, 1) := by decide +kernel
theorem dc_R_restart_14 : decode bc_R_restart 14 = .ok (.ifCond .ne 5, 3) := by decide +kernel
theorem dc_R_restart_17 : decode bc_R_restart 17 = .ok (.iconst (-1), 1) := by decide +kernel
theorem dc_R_restart_18 : decode bc_R_restart 18 = .ok (.ireturn, 1) := by decide +kernel
theorem dc_R_restart_19 : decode bc_R_restart 19 = .ok (.aload_n 0, 1) := by decide +kernel
theorem dc_R_restart_20 : decode bc_R_restart 20 = .ok (.getfield 53, 3) := by decide +kernel
theorem dc_R_restart_23 : decode bc_R_restart 23 = .ok (.iload_n 1, 1) := by decide +kernel
theorem dc_R_restart_24 : decode bc_R_restart 24 = .ok (.iconst 0, 1) := by decide +kernel
theorem dc_R_restart_25 : decode bc_R_restart 25 = .ok (.bastore, 1) := by decide +kernel
theorem dc_R_restart_26 : decode bc_R_restart 26 = .ok (.iconst 0, 1) := by decide +kernel
theorem dc_R_restart_27 : decode bc_R_restart 27 = .ok (.istore_n 2, 1) := by decide +kernel
theorem dc_R_restart_28 : decode bc_R_restart 28 = .ok (.iload_n 2, 1) := by decide +kernel
theorem dc_R_restart_29 : decode bc_R_restart 29 = .ok (.aload_n 0, 1) := by decide +kernel
theorem dc_R_restart_30 : decode bc_R_restart 30 = .ok (.getfield 83, 3) := by decide +kernel
theorem dc_R_restart_33 : decode bc_R_restart 33 = .ok (.if_icmp .ge 36, 3) := by decide +kernel
theorem dc_R_restart_36 : decode bc_R_restart 36 = .ok (.aload_n 0, 1) := by decide +kernel
theorem dc_R_restart_37 : decode bc_R_restart 37 = .ok (.getfield 26, 3) := by decide +kernel
theorem dc_R_restart_40 : decode bc_R_restart 40 = .ok (.iload_n 2, 1) := by decide +kernel
theorem dc_R_restart_41 : decode bc_R_restart 41 = .ok (.iaload, 1) := by decide +kernel
theorem dc_R_restart_42 : decode bc_R_restart 42 = .ok (.iload_n 1, 1) := by decide +kernel
theorem dc_R_restart_43 : decode bc_R_restart 43 = .ok (.if_icmp .ne 20, 3) := by decide +kernel
theorem dc_R_restart_46 : decode bc_R_restart 46 = .ok (.aload_n 0, 1) := by decide +kernel
theorem dc_R_restart_47 : decode bc_R_restart 47 = .ok (.getfield 26, 3) := by decide +kernel
theorem dc_R_restart_50 : decode bc_R_restart 50 = .ok (.iload_n 2, 1) := by decide +kernel
theorem dc_R_restart_51 : decode bc_R_restart 51 = .ok (.iconst 3, 1) := by decide +kernel
theorem dc_R_restart_52 : decode bc_R_restart 52 = .ok (.iastore, 1) := by decide +kernel
theorem dc_R_restart_53 : decode bc_R_restart 53 = .ok (.aload_n 0, 1) := by decide +kernel
theorem dc_R_restart_54 : decode bc_R_restart 54 = .ok (.getfield 29, 3) := by decide +kernel
theorem dc_R_restart_57 : decode bc_R_restart 57 = .ok (.iload_n 2, 1) := by decide +kernel
theorem dc_R_restart_58 : decode bc_R_restart 58 = .ok (.aload_n 0, 1) := by decide +kernel
theorem dc_R_restart_59 : decode bc_R_restart 59 = .ok (.getfield 93, 3) := by decide +kernel
theorem dc_R_restart_62 : decode bc_R_restart 62 = .ok (.iastore, 1) := by decide +kernel
theorem dc_R_restart_63 : decode bc_R_restart 63 = .ok (.iinc 2 1, 3) := by decide +kernel
theorem dc_R_restart_66 : decode bc_R_restart 66 = .ok (.goto (-38), 3) := by decide +kernel
theorem dc_R_restart_69 : decode bc_R_restart 69 = .ok (.aload_n 0, 1) := by decide +kernel
theorem dc_R_restart_70 : decode bc_R_restart 70 = .ok (.dup, 1) := by decide +kernel
theorem dc_R_restart_71 : decode bc_R_restart 71 = .ok (.getfield 93, 3) := by decide +kernel
theorem dc_R_restart_74 : decode bc_R_restart 74 = .ok (.iconst 1, 1) := by decide +kernel
theorem dc_R_restart_75 : decode bc_R_restart 75 = .ok (.iadd, 1) := by decide +kernel
theorem dc_R_restart_76 : decode bc_R_restart 76 = .ok (.putfield 93, 3) := by decide +kernel
theorem dc_R_restart_79 : decode bc_R_restart 79 = .ok (.aload_n 0, 1) := by decide +kernel
theorem dc_R_restart_80 : decode bc_R_restart 80 = .ok (.getfield 62, 3) := by decide +kernel
theorem dc_R_restart_83 : decode bc_R_restart 83 = .ok (.iload_n 1, 1) := by decide +kernel
theorem dc_R_restart_84 : decode bc_R_restart 84 = .ok (.iaload, 1) := by decide +kernel
theorem dc_R_restart_85 : decode bc_R_restart 85 = .ok (.istore_n 2, 1) := by decide +kernel
theorem dc_R_restart_86 : decode bc_R_restart 86 = .ok (.iload_n 2, 1) := by decide +kernel
theorem dc_R_restart_87 : decode bc_R_restart 87 = .ok (.aload_n 0, 1) := by decide +kernel
theorem dc_R_restart_88 : decode bc_R_restart 88 = .ok (.getfield 93, 3) := by decide +kernel
theorem dc_R_restart_91 : decode bc_R_restart 91 = .ok (.if_icmp .ge 15, 3) := by decide +kernel
theorem dc_R_restart_94 : decode bc_R_restart 94 = .ok (.aload_n 0, 1) := by decide +kernel
theorem dc_R_restart_95 : decode bc_R_restart 95 = .ok (.iload_n 1, 1) := by decide +kernel
theorem dc_R_restart_96 : decode bc_R_restart 96 = .ok (.invokevirtual 136, 3) := by decide +kernel
theorem dc_R_restart_99 : decode bc_R_restart 99 = .ok (.pop, 1) := by decide +kernel
theorem dc_R_restart_100 : decode bc_R_restart 100 = .ok (.iinc 2 1, 3) := by decide +kernel
theorem dc_R_restart_103 : decode bc_R_restart 103 = .ok (.goto (-17), 3) := by decide +kernel
theorem dc_R_restart_106 : decode bc_R_restart 106 = .ok (.aload_n 0, 1) := by decide +kernel
theorem dc_R_restart_107 : decode bc_R_restart 107 = .ok (.iload_n 1, 1) := by decide +kernel
theorem dc_R_restart_108 : decode bc_R_restart 108 = .ok (.invokevirtual 139, 3) := by decide +kernel
theorem dc_R_restart_111 : decode bc_R_restart 111 = .ok (.aload_n 0, 1) := by decide +kernel
theorem dc_R_restart_112 : decode bc_R_restart 112 = .ok (.getfield 59, 3) := by decide +kernel
theorem dc_R_restart_115 : decode bc_R_restart 115 = .ok (.iload_n 1, 1) := by decide +kernel
theorem dc_R_restart_116 : decode bc_R_restart 116 = .ok (.iaload, 1) := by decide +kernel
theorem dc_R_restart_117 : decode bc_R_restart 117 = .ok (.ireturn, 1) := by decide +kernel
theorem dc_R_next_0 : decode bc_R_next 0 = .ok (.aload_n 0, 1) := by decide +kernel
theorem dc_R_next_1 : decode bc_R_next 1 = .ok (.getfield 62, 3) := by decide +kernel
theorem dc_R_next_4 : decode bc_R_next 4 = .ok (.iload_n 1, 1) := by decide +kernel
theorem dc_R_next_5 : decode bc_R_next 5 = .ok (.iaload, 1) := by decide +kernel
theorem dc_R_next_6 : decode bc_R_next 6 = .ok (.istore_n 2, 1) := by decide +kernel
theorem dc_R_next_7 : decode bc_R_next 7 = .ok (.aload_n 0, 1) := by decide +kernel
theorem dc_R_next_8 : decode bc_R_next 8 = .ok (.getfield 62, 3) := by decide +kernel
theorem dc_R_next_11 : decode bc_R_next 11 = .ok (.iload_n 1, 1) := by decide +kernel
theorem dc_R_next_12 : decode bc_R_next 12 = .ok (.dup2, 1) := by decide +kernel
theorem dc_R_next_13 : decode bc_R_next 13 = .ok (.iaload, 1) := by decide +kernel
theorem dc_R_next_14 : decode bc_R_next 14 = .ok (.iconst 1, 1) := by decide +kernel
theorem dc_R_next_15 : decode bc_R_next 15 = .ok (.iadd, 1) := by decide +kernel
theorem dc_R_next_16 : decode bc_R_next 16 = .ok (.iastore, 1) := by decide +kernel
theorem dc_R_next_17 : decode bc_R_next 17 = .ok (.aload_n 0, 1) := by decide +kernel
theorem dc_R_next_18 : decode bc_R_next 18 = .ok (.getfield 59, 3) := by decide +kernel
theorem dc_R_next_21 : decode bc_R_next 21 = .ok (.iload_n 1, 1) := by decide +kernel
theorem dc_R_next_22 : decode bc_R_next 22 = .ok (.iaload, 1) := by decide +kernel
theorem dc_R_next_23 : decode bc_R_next 23 = .ok (.istore_n 3, 1) := by decide +kernel
theorem dc_R_next_24 : decode bc_R_next 24 = .ok (.aload_n 0, 1) := by decide +kernel
theorem dc_R_next_25 : decode bc_R_next 25 = .ok (.getfield 59, 3) := by decide +kernel
theorem dc_R_next_28 : decode bc_R_next 28 = .ok (.iload_n 1, 1) := by decide +kernel
theorem dc_R_next_29 : decode bc_R_next 29 = .ok (.iaload, 1) := by decide +kernel
theorem dc_R_next_30 : decode bc_R_next 30 = .ok (.iconst 1, 1) := by decide +kernel
theorem dc_R_next_31 : decode bc_R_next 31 = .ok (.isub, 1) := by decide +kernel
theorem dc_R_next_32 : decode bc_R_next 32 = .ok (.istore 4, 2) := by decide +kernel
theorem dc_R_next_34 : decode bc_R_next 34 = .ok (.iload 4, 2) := by decide +kernel
theorem dc_R_next_36 : decode bc_R_next 36 = .ok (.ifCond .lt 39, 3) := by decide +kernel
theorem dc_R_next_39 : decode bc_R_next 39 = .ok (.aload_n 0, 1) := by decide +kernel
theorem dc_R_next_40 : decode bc_R_next 40 = .ok (.aload_n 0, 1) := by decide +kernel
theorem dc_R_next_41 : decode bc_R_next 41 = .ok (.getfield 56, 3) := by decide +kernel
theorem dc_R_next_44 : decode bc_R_next 44 = .ok (.bipush 40, 2) := by decide +kernel
theorem dc_R_next_46 : decode bc_R_next 46 = .ok (.iload_n 1, 1) := by decide +kernel
theorem dc_R_next_47 : decode bc_R_next 47 = .ok (.imul, 1) := by decide +kernel
theorem dc_R_next_48 : decode bc_R_next 48 = .ok (.iload 4, 2) := by decide +kernel
theorem dc_R_next_50 : decode bc_R_next 50 = .ok (.iadd, 1) := by decide +kernel
theorem dc_R_next_51 : decode bc_R_next 51 = .ok (.iaload, 1) := by decide +kernel
theorem dc_R_next_52 : decode bc_R_next 52 = .ok (.iload_n 2, 1) := by decide +kernel
theorem dc_R_next_53 : decode bc_R_next 53 = .ok (.iload_n 2, 1) := by decide +kernel
theorem dc_R_next_54 : decode bc_R_next 54 = .ok (.iconst 1, 1) := by decide +kernel
theorem dc_R_next_55 : decode bc_R_next 55 = .ok (.iadd, 1) := by decide +kernel
theorem dc_R_next_56 : decode bc_R_next 56 = .ok (.invokevirtual 111, 3) := by decide +kernel
theorem dc_R_next_59 : decode bc_R_next 59 = .ok (.ifCond .eq 8, 3) := by decide +kernel
theorem dc_R_next_62 : decode bc_R_next 62 = .ok (.iload 4, 2) := by decide +kernel
theorem dc_R_next_64 : decode bc_R_next 64 = .ok (.goto 4, 3) := by decide +kernel
theorem dc_R_next_67 : decode bc_R_next 67 = .ok (.iload_n 3, 1) := by decide +kernel
theorem dc_R_next_68 : decode bc_R_next 68 = .ok (.istore_n 3, 1) := by decide +kernel
theorem dc_R_next_69 : decode bc_R_next 69 = .ok (.iinc 4 (-1), 3) := by decide +kernel
theorem dc_R_next_72 : decode bc_R_next 72 = .ok (.goto (-38), 3) := by decide +kernel
theorem dc_R_next_75 : decode bc_R_next 75 = .ok (.aload_n 0, 1) := by decide +kernel
theorem dc_R_next_76 : decode bc_R_next 76 = .ok (.getfield 59, 3) := by decide +kernel
theorem dc_R_next_79 : decode bc_R_next 79 = .ok (.iload_n 1, 1) := by decide +kernel
theorem dc_R_next_80 : decode bc_R_next 80 = .ok (.iaload, 1) := by decide +kernel
theorem dc_R_next_81 : decode bc_R_next 81 = .ok (.iload_n 3, 1) := by decide +kernel
theorem dc_R_next_82 : decode bc_R_next 82 = .ok (.isub, 1) := by decide +kernel
theorem dc_R_next_83 : decode bc_R_next 83 = .ok (.istore 4, 2) := by decide +kernel
theorem dc_R_next_85 : decode bc_R_next 85 = .ok (.iload_n 3, 1) := by decide +kernel
theorem dc_R_next_86 : decode bc_R_next 86 = .ok (.istore 5, 2) := by decide +kernel
theorem dc_R_next_88 : decode bc_R_next 88 = .ok (.iload 5, 2) := by decide +kernel
theorem dc_R_next_90 : decode bc_R_next 90 = .ok (.aload_n 0, 1) := by decide +kernel
theorem dc_R_next_91 : decode bc_R_next 91 = .ok (.getfield 59, 3) := by decide +kernel
theorem dc_R_next_94 : decode bc_R_next 94 = .ok (.iload_n 1, 1) := by decide +kernel
theorem dc_R_next_95 : decode bc_R_next 95 = .ok (.iaload, 1) := by decide +kernel
theorem dc_R_next_96 : decode bc_R_next 96 = .ok (.if_icmp .ge 61, 3) := by decide +kernel
theorem dc_R_next_99 : decode bc_R_next 99 = .ok (.aload_n 0, 1) := by decide +kernel
theorem dc_R_next_100 : decode bc_R_next 100 = .ok (.getfield 13, 3) := by decide +kernel
theorem dc_R_next_103 : decode bc_R_next 103 = .ok (.aload_n 0, 1) := by decide +kernel
theorem dc_R_next_104 : decode bc_R_next 104 = .ok (.getfield 56, 3) := by decide +kernel
theorem dc_R_next_107 : decode bc_R_next 107 = .ok (.bipush 40, 2) := by decide +kernel
theorem dc_R_next_109 : decode bc_R_next 109 = .ok (.iload_n 1, 1) := by decide +kernel
theorem dc_R_next_110 : decode bc_R_next 110 = .ok (.imul, 1) := by decide +kernel
theorem dc_R_next_111 : decode bc_R_next 111 = .ok (.iload 5, 2) := by decide +kernel
theorem dc_R_next_113 : decode bc_R_next 113 = .ok (.iadd, 1) := by decide +kernel
theorem dc_R_next_114 : decode bc_R_next 114 = .ok (.iaload, 1) := by decide +kernel
theorem dc_R_next_115 : decode bc_R_next 115 = .ok (.iaload, 1) := by decide +kernel
theorem dc_R_next_116 : decode bc_R_next 116 = .ok (.istore 6, 2) := by decide +kernel
theorem dc_R_next_118 : decode bc_R_next 118 = .ok (.aload_n 0, 1) := by decide +kernel
theorem dc_R_next_119 : decode bc_R_next 119 = .ok (.getfield 44, 3) := by decide +kernel
theorem dc_R_next_122 : decode bc_R_next 122 = .ok (.iload 6, 2) := by decide +kernel
theorem dc_R_next_124 : decode bc_R_next 124 = .ok (.aload_n 0, 1) := by decide +kernel
theorem dc_R_next_125 : decode bc_R_next 125 = .ok (.aload_n 0, 1) := by decide +kernel
theorem dc_R_next_126 : decode bc_R_next 126 = .ok (.getfield 47, 3) := by decide +kernel
theorem dc_R_next_129 : decode bc_R_next 129 = .ok (.iload 6, 2) := by decide +kernel
theorem dc_R_next_131 : decode bc_R_next 131 = .ok (.iaload, 1) := by decide +kernel
theorem dc_R_next_132 : decode bc_R_next 132 = .ok (.iconst 0, 1) := by decide +kernel
theorem dc_R_next_133 : decode bc_R_next 133 = .ok (.aload_n 0, 1) := by decide +kernel
theorem dc_R_next_134 : decode bc_R_next 134 = .ok (.getfield 62, 3) := by decide +kernel
theorem dc_R_next_137 : decode bc_R_next 137 = .ok (.iload_n 1, 1) := by decide +kernel
theorem dc_R_next_138 : decode bc_R_next 138 = .ok (.iaload, 1) := by decide +kernel
theorem dc_R_next_139 : decode bc_R_next 139 = .ok (.invokevirtual 111, 3) := by decide +kernel
theorem dc_R_next_142 : decode bc_R_next 142 = .ok (.ifCond .eq 7, 3) := by decide +kernel
theorem dc_R_next_145 : decode bc_R_next 145 = .ok (.iconst 3, 1) := by decide +kernel
theorem dc_R_next_146 : decode bc_R_next 146 = .ok (.goto 4, 3) := by decide +kernel
theorem dc_R_next_149 : decode bc_R_next 149 = .ok (.iconst 0, 1) := by decide +kernel
theorem dc_R_next_150 : decode bc_R_next 150 = .ok (.iastore, 1) := by decide +kernel
theorem dc_R_next_151 : decode bc_R_next 151 = .ok (.iinc 5 1, 3) := by decide +kernel
theorem dc_R_next_154 : decode bc_R_next 154 = .ok (.goto (-66), 3) := by decide +kernel
theorem dc_R_next_157 : decode bc_R_next 157 = .ok (.aload_n 0, 1) := by decide +kernel
theorem dc_R_next_158 : decode bc_R_next 158 = .ok (.getfield 59, 3) := by decide +kernel
theorem dc_R_next_161 : decode bc_R_next 161 = .ok (.iload_n 1, 1) := by decide +kernel
theorem dc_R_next_162 : decode bc_R_next 162 = .ok (.iload_n 3, 1) := by decide +kernel
theorem dc_R_next_163 : decode bc_R_next 163 = .ok (.iastore, 1) := by decide +kernel
theorem dc_R_next_164 : decode bc_R_next 164 = .ok (.aload_n 0, 1) := by decide +kernel
theorem dc_R_next_165 : decode bc_R_next 165 = .ok (.iload_n 1, 1) := by decide +kernel
theorem dc_R_next_166 : decode bc_R_next 166 = .ok (.invokevirtual 133, 3) := by decide +kernel
theorem dc_R_next_169 : decode bc_R_next 169 = .ok (.iload 4, 2) := by decide +kernel
theorem dc_R_next_171 : decode bc_R_next 171 = .ok (.ireturn, 1) := by decide +kernel
theorem dc_R_drop_0 : decode bc_R_drop 0 = .ok (.aload_n 0, 1) := by decide +kernel
theorem dc_R_drop_1 : decode bc_R_drop 1 = .ok (.getfield 68, 3) := by decide +kernel
theorem dc_R_drop_4 : decode bc_R_drop 4 = .ok (.iload_n 1, 1) := by decide +kernel
theorem dc_R_drop_5 : decode bc_R_drop 5 = .ok (.iaload, 1) := by decide +kernel
theorem dc_R_drop_6 : decode bc_R_drop 6 = .ok (.aload_n 0, 1) := by decide +kernel
theorem dc_R_drop_7 : decode bc_R_drop 7 = .ok (.getfield 59, 3) := by decide +kernel
theorem dc_R_drop_10 : decode bc_R_drop 10 = .ok (.iload_n 1, 1) := by decide +kernel
theorem dc_R_drop_11 : decode bc_R_drop 11 = .ok (.iaload, 1) := by decide +kernel
theorem dc_R_drop_12 : decode bc_R_drop 12 = .ok (.if_icmp .le 10, 3) := by decide +kernel
theorem dc_R_drop_15 : decode bc_R_drop 15 = .ok (.aload_n 0, 1) := by decide +kernel
theorem dc_R_drop_16 : decode bc_R_drop 16 = .ok (.getfield 68, 3) := by decide +kernel
theorem dc_R_drop_19 : decode bc_R_drop 19 = .ok (.iload_n 1, 1) := by decide +kernel
theorem dc_R_drop_20 : decode bc_R_drop 20 = .ok (.iconst (-1), 1) := by decide +kernel
theorem dc_R_drop_21 : decode bc_R_drop 21 = .ok (.iastore, 1) := by decide +kernel
theorem dc_R_drop_22 : decode bc_R_drop 22 = .ok (.aload_n 0, 1) := by decide +kernel
theorem dc_R_drop_23 : decode bc_R_drop 23 = .ok (.getfield 65, 3) := by decide +kernel
theorem dc_R_drop_26 : decode bc_R_drop 26 = .ok (.iload_n 1, 1) := by decide +kernel
theorem dc_R_drop_27 : decode bc_R_drop 27 = .ok (.iaload, 1) := by decide +kernel
theorem dc_R_drop_28 : decode bc_R_drop 28 = .ok (.aload_n 0, 1) := by decide +kernel
theorem dc_R_drop_29 : decode bc_R_drop 29 = .ok (.getfield 59, 3) := by decide +kernel
theorem dc_R_drop_32 : decode bc_R_drop 32 = .ok (.iload_n 1, 1) := by decide +kernel
theorem dc_R_drop_33 : decode bc_R_drop 33 = .ok (.iaload, 1) := by decide +kernel
theorem dc_R_drop_34 : decode bc_R_drop 34 = .ok (.if_icmp .le 22, 3) := by decide +kernel
theorem dc_R_drop_37 : decode bc_R_drop 37 = .ok (.aload_n 0, 1) := by decide +kernel
theorem dc_R_drop_38 : decode bc_R_drop 38 = .ok (.getfield 65, 3) := by decide +kernel
theorem dc_R_drop_41 : decode bc_R_drop 41 = .ok (.iload_n 1, 1) := by decide +kernel
theorem dc_R_drop_42 : decode bc_R_drop 42 = .ok (.aload_n 0, 1) := by decide +kernel
theorem dc_R_drop_43 : decode bc_R_drop 43 = .ok (.getfield 68, 3) := by decide +kernel
theorem dc_R_drop_46 : decode bc_R_drop 46 = .ok (.iload_n 1, 1) := by decide +kernel
theorem dc_R_drop_47 : decode bc_R_drop 47 = .ok (.iaload, 1) := by decide +kernel
theorem dc_R_drop_48 : decode bc_R_drop 48 = .ok (.iastore, 1) := by decide +kernel
theorem dc_R_drop_49 : decode bc_R_drop 49 = .ok (.aload_n 0, 1) := by decide +kernel
theorem dc_R_drop_50 : decode bc_R_drop 50 = .ok (.getfield 68, 3) := by decide +kernel
theorem dc_R_drop_53 : decode bc_R_drop 53 = .ok (.iload_n 1, 1) := by decide +kernel
theorem dc_R_drop_54 : decode bc_R_drop 54 = .ok (.iconst (-1), 1) := by decide +kernel
theorem dc_R_drop_55 : decode bc_R_drop 55 = .ok (.iastore, 1) := by decide +kernel
theorem dc_R_drop_56 : decode bc_R_drop 56 = .ok (.return_, 1) := by decide +kernel
theorem dc_R_replay_0 : decode bc_R_replay 0 = .ok (.aload_n 0, 1) := by decide +kernel
theorem dc_R_replay_1 : decode bc_R_replay 1 = .ok (.getfield 71, 3) := by decide +kernel
theorem dc_R_replay_4 : decode bc_R_replay 4 = .ok (.iload_n 1, 1) := by decide +kernel
theorem dc_R_replay_5 : decode bc_R_replay 5 = .ok (.aload_n 0, 1) := by decide +kernel
theorem dc_R_replay_6 : decode bc_R_replay 6 = .ok (.getfield 71, 3) := by decide +kernel
theorem dc_R_replay_9 : decode bc_R_replay 9 = .ok (.iload_n 1, 1) := by decide +kernel
theorem dc_R_replay_10 : decode bc_R_replay 10 = .ok (.iaload, 1) := by decide +kernel
theorem dc_R_replay_11 : decode bc_R_replay 11 = .ok (.aload_n 0, 1) := by decide +kernel
theorem dc_R_replay_12 : decode bc_R_replay 12 = .ok (.getfield 59, 3) := by decide +kernel
theorem dc_R_replay_15 : decode bc_R_replay 15 = .ok (.iload_n 1, 1) := by decide +kernel
theorem dc_R_replay_16 : decode bc_R_replay 16 = .ok (.iaload, 1) := by decide +kernel
theorem dc_R_replay_17 : decode bc_R_replay 17 = .ok (.iadd, 1) := by decide +kernel
theorem dc_R_replay_18 : decode bc_R_replay 18 = .ok (.aload_n 0, 1) := by decide +kernel
theorem dc_R_replay_19 : decode bc_R_replay 19 = .ok (.getfield 65, 3) := by decide +kernel
theorem dc_R_replay_22 : decode bc_R_replay 22 = .ok (.iload_n 1, 1) := by decide +kernel
theorem dc_R_replay_23 : decode bc_R_replay 23 = .ok (.iaload, 1) := by decide +kernel
theorem dc_R_replay_24 : decode bc_R_replay 24 = .ok (.ifCond .ge 7, 3) := by decide +kernel
theorem dc_R_replay_27 : decode bc_R_replay 27 = .ok (.iconst 0, 1) := by decide +kernel
theorem dc_R_replay_28 : decode bc_R_replay 28 = .ok (.goto 9, 3) := by decide +kernel
theorem dc_R_replay_31 : decode bc_R_replay 31 = .ok (.aload_n 0, 1) := by decide +kernel
theorem dc_R_replay_32 : decode bc_R_replay 32 = .ok (.getfield 65, 3) := by decide +kernel
theorem dc_R_replay_35 : decode bc_R_replay 35 = .ok (.iload_n 1, 1) := by decide +kernel
theorem dc_R_replay_36 : decode bc_R_replay 36 = .ok (.iaload, 1) := by decide +kernel
theorem dc_R_replay_37 : decode bc_R_replay 37 = .ok (.isub, 1) := by decide +kernel
theorem dc_R_replay_38 : decode bc_R_replay 38 = .ok (.iastore, 1) := by decide +kernel
theorem dc_R_replay_39 : decode bc_R_replay 39 = .ok (.return_, 1) := by decide +kernel
theorem dc_R_learn_0 : decode bc_R_learn 0 = .ok (.aload_n 0, 1) := by decide +kernel
theorem dc_R_learn_1 : decode bc_R_learn 1 = .ok (.iload_n 1, 1) := by decide +kernel
theorem dc_R_learn_2 : decode bc_R_learn 2 = .ok (.invokevirtual 126, 3) := by decide +kernel
theorem dc_R_learn_5 : decode bc_R_learn 5 = .ok (.ifCond .eq 16, 3) := by decide +kernel
theorem dc_R_learn_8 : decode bc_R_learn 8 = .ok (.aload_n 0, 1) := by decide +kernel
theorem dc_R_learn_9 : decode bc_R_learn 9 = .ok (.getfield 62, 3) := by decide +kernel
theorem dc_R_learn_12 : decode bc_R_learn 12 = .ok (.iload_n 1, 1) := by decide +kernel
theorem dc_R_learn_13 : decode bc_R_learn 13 = .ok (.iaload, 1) := by decide +kernel
theorem dc_R_learn_14 : decode bc_R_learn 14 = .ok (.aload_n 0, 1) := by decide +kernel
theorem dc_R_learn_15 : decode bc_R_learn 15 = .ok (.getfield 93, 3) := by decide +kernel
theorem dc_R_learn_18 : decode bc_R_learn 18 = .ok (.if_icmp .lt 5, 3) := by decide +kernel
theorem dc_R_learn_21 : decode bc_R_learn 21 = .ok (.iconst (-1), 1) := by decide +kernel
theorem dc_R_learn_22 : decode bc_R_learn 22 = .ok (.ireturn, 1) := by decide +kernel
theorem dc_R_learn_23 : decode bc_R_learn 23 = .ok (.aload_n 0, 1) := by decide +kernel
theorem dc_R_learn_24 : decode bc_R_learn 24 = .ok (.iload_n 1, 1) := by decide +kernel
theorem dc_R_learn_25 : decode bc_R_learn 25 = .ok (.invokevirtual 136, 3) := by decide +kernel
theorem dc_R_learn_28 : decode bc_R_learn 28 = .ok (.istore_n 2, 1) := by decide +kernel
theorem dc_R_learn_29 : decode bc_R_learn 29 = .ok (.iload_n 2, 1) := by decide +kernel
theorem dc_R_learn_30 : decode bc_R_learn 30 = .ok (.ifCond .le 8, 3) := by decide +kernel
theorem dc_R_learn_33 : decode bc_R_learn 33 = .ok (.aload_n 0, 1) := by decide +kernel
theorem dc_R_learn_34 : decode bc_R_learn 34 = .ok (.iload_n 1, 1) := by decide +kernel
theorem dc_R_learn_35 : decode bc_R_learn 35 = .ok (.invokevirtual 139, 3) := by decide +kernel
theorem dc_R_learn_38 : decode bc_R_learn 38 = .ok (.iload_n 2, 1) := by decide +kernel
theorem dc_R_learn_39 : decode bc_R_learn 39 = .ok (.ireturn, 1) := by decide +kernel
theorem dc_R_release_0 : decode bc_R_release 0 = .ok (.aload_n 0, 1) := by decide +kernel
theorem dc_R_release_1 : decode bc_R_release 1 = .ok (.iload_n 1, 1) := by decide +kernel
theorem dc_R_release_2 : decode bc_R_release 2 = .ok (.invokevirtual 126, 3) := by decide +kernel
theorem dc_R_release_5 : decode bc_R_release 5 = .ok (.ifCond .ne 5, 3) := by decide +kernel
theorem dc_R_release_8 : decode bc_R_release 8 = .ok (.iconst (-1), 1) := by decide +kernel
theorem dc_R_release_9 : decode bc_R_release 9 = .ok (.ireturn, 1) := by decide +kernel
theorem dc_R_release_10 : decode bc_R_release 10 = .ok (.iconst 0, 1) := by decide +kernel
theorem dc_R_release_11 : decode bc_R_release 11 = .ok (.istore_n 2, 1) := by decide +kernel
theorem dc_R_release_12 : decode bc_R_release 12 = .ok (.iconst 0, 1) := by decide +kernel
theorem dc_R_release_13 : decode bc_R_release 13 = .ok (.istore_n 3, 1) := by decide +kernel
theorem dc_R_release_14 : decode bc_R_release 14 = .ok (.iload_n 3, 1) := by decide +kernel
theorem dc_R_release_15 : decode bc_R_release 15 = .ok (.aload_n 0, 1) := by decide +kernel
theorem dc_R_release_16 : decode bc_R_release 16 = .ok (.getfield 59, 3) := by decide +kernel
theorem dc_R_release_19 : decode bc_R_release 19 = .ok (.iload_n 1, 1) := by decide +kernel
theorem dc_R_release_20 : decode bc_R_release 20 = .ok (.iaload, 1) := by decide +kernel
theorem dc_R_release_21 : decode bc_R_release 21 = .ok (.if_icmp .ge 97, 3) := by decide +kernel
theorem dc_R_release_24 : decode bc_R_release 24 = .ok (.aload_n 0, 1) := by decide +kernel
theorem dc_R_release_25 : decode bc_R_release 25 = .ok (.getfield 56, 3) := by decide +kernel
theorem dc_R_release_28 : decode bc_R_release 28 = .ok (.bipush 40, 2) := by decide +kernel
theorem dc_R_release_30 : decode bc_R_release 30 = .ok (.iload_n 1, 1) := by decide +kernel
theorem dc_R_release_31 : decode bc_R_release 31 = .ok (.imul, 1) := by decide +kernel
theorem dc_R_release_32 : decode bc_R_release 32 = .ok (.iload_n 3, 1) := by decide +kernel
theorem dc_R_release_33 : decode bc_R_release 33 = .ok (.iadd, 1) := by decide +kernel
theorem dc_R_release_34 : decode bc_R_release 34 = .ok (.iaload, 1) := by decide +kernel
theorem dc_R_release_35 : decode bc_R_release 35 = .ok (.istore 4, 2) := by decide +kernel
theorem dc_R_release_37 : decode bc_R_release 37 = .ok (.aload_n 0, 1) := by decide +kernel
theorem dc_R_release_38 : decode bc_R_release 38 = .ok (.getfield 16, 3) := by decide +kernel
theorem dc_R_release_41 : decode bc_R_release 41 = .ok (.iload 4, 2) := by decide +kernel
theorem dc_R_release_43 : decode bc_R_release 43 = .ok (.iaload, 1) := by decide +kernel
theorem dc_R_release_44 : decode bc_R_release 44 = .ok (.iconst 4, 1) := by decide +kernel
theorem dc_R_release_45 : decode bc_R_release 45 = .ok (.iand, 1) := by decide +kernel
theorem dc_R_release_46 : decode bc_R_release 46 = .ok (.ifCond .eq 66, 3) := by decide +kernel
theorem dc_R_release_49 : decode bc_R_release 49 = .ok (.aload_n 0, 1) := by decide +kernel
theorem dc_R_release_50 : decode bc_R_release 50 = .ok (.getfield 32, 3) := by decide +kernel
theorem dc_R_release_53 : decode bc_R_release 53 = .ok (.iload 4, 2) := by decide +kernel
theorem dc_R_release_55 : decode bc_R_release 55 = .ok (.baload, 1) := by decide +kernel
theorem dc_R_release_56 : decode bc_R_release 56 = .ok (.ifCond .ne 56, 3) := by decide +kernel
theorem dc_R_release_59 : decode bc_R_release 59 = .ok (.aload_n 0, 1) := by decide +kernel
theorem dc_R_release_60 : decode bc_R_release 60 = .ok (.iload 4, 2) := by decide +kernel
theorem dc_R_release_62 : decode bc_R_release 62 = .ok (.invokevirtual 142, 3) := by decide +kernel
theorem dc_R_release_65 : decode bc_R_release 65 = .ok (.ifCond .eq 47, 3) := by decide +kernel
theorem dc_R_release_68 : decode bc_R_release 68 = .ok (.aload_n 0, 1) := by decide +kernel
theorem dc_R_release_69 : decode bc_R_release 69 = .ok (.getfield 32, 3) := by decide +kernel
theorem dc_R_release_72 : decode bc_R_release 72 = .ok (.iload 4, 2) := by decide +kernel
theorem dc_R_release_74 : decode bc_R_release 74 = .ok (.iconst 1, 1) := by decide +kernel
theorem dc_R_release_75 : decode bc_R_release 75 = .ok (.bastore, 1) := by decide +kernel
theorem dc_R_release_76 : decode bc_R_release 76 = .ok (.aload_n 0, 1) := by decide +kernel
theorem dc_R_release_77 : decode bc_R_release 77 = .ok (.getfield 74, 3) := by decide +kernel
theorem dc_R_release_80 : decode bc_R_release 80 = .ok (.bipush 40, 2) := by decide +kernel
theorem dc_R_release_82 : decode bc_R_release 82 = .ok (.iload_n 1, 1) := by decide +kernel
theorem dc_R_release_83 : decode bc_R_release 83 = .ok (.imul, 1) := by decide +kernel
theorem dc_R_release_84 : decode bc_R_release 84 = .ok (.aload_n 0, 1) := by decide +kernel
theorem dc_R_release_85 : decode bc_R_release 85 = .ok (.getfield 77, 3) := by decide +kernel
theorem dc_R_release_88 : decode bc_R_release 88 = .ok (.iload_n 1, 1) := by decide +kernel
theorem dc_R_release_89 : decode bc_R_release 89 = .ok (.iaload, 1) := by decide +kernel
theorem dc_R_release_90 : decode bc_R_release 90 = .ok (.iadd, 1) := by decide +kernel
theorem dc_R_release_91 : decode bc_R_release 91 = .ok (.aload_n 0, 1) := by decide +kernel
theorem dc_R_release_92 : decode bc_R_release 92 = .ok (.getfield 16, 3) := by decide +kernel
theorem dc_R_release_95 : decode bc_R_release 95 = .ok (.iload 4, 2) := by decide +kernel
theorem dc_R_release_97 : decode bc_R_release 97 = .ok (.iaload, 1) := by decide +kernel
theorem dc_R_release_98 : decode bc_R_release 98 = .ok (.iastore, 1) := by decide +kernel
theorem dc_R_release_99 : decode bc_R_release 99 = .ok (.aload_n 0, 1) := by decide +kernel
theorem dc_R_release_100 : decode bc_R_release 100 = .ok (.getfield 77, 3) := by decide +kernel
theorem dc_R_release_103 : decode bc_R_release 103 = .ok (.iload_n 1, 1) := by decide +kernel
theorem dc_R_release_104 : decode bc_R_release 104 = .ok (.dup2, 1) := by decide +kernel
theorem dc_R_release_105 : decode bc_R_release 105 = .ok (.iaload, 1) := by decide +kernel
theorem dc_R_release_106 : decode bc_R_release 106 = .ok (.iconst 1, 1) := by decide +kernel
theorem dc_R_release_107 : decode bc_R_release 107 = .ok (.iadd, 1) := by decide +kernel
theorem dc_R_release_108 : decode bc_R_release 108 = .ok (.iastore, 1) := by decide +kernel
theorem dc_R_release_109 : decode bc_R_release 109 = .ok (.iinc 2 1, 3) := by decide +kernel
theorem dc_R_release_112 : decode bc_R_release 112 = .ok (.iinc 3 1, 3) := by decide +kernel
theorem dc_R_release_115 : decode bc_R_release 115 = .ok (.goto (-101), 3) := by decide +kernel
theorem dc_R_release_118 : decode bc_R_release 118 = .ok (.iload_n 2, 1) := by decide +kernel
theorem dc_R_release_119 : decode bc_R_release 119 = .ok (.ireturn, 1) := by decide +kernel
