theorem dc_R_init_0 : decode bc_R_init 0 = .ok (.aload_n 0, 1) := by decide +kernel
theorem dc_R_init_1 : decode bc_R_init 1 = .ok (.invokespecial 1, 3) := by decide +kernel
theorem dc_R_init_4 : decode bc_R_init 4 = .ok (.aload_n 0, 1) := by decide +kernel
theorem dc_R_init_5 : decode bc_R_init 5 = .ok (.bipush 40, 2) := by decide +kernel
theorem dc_R_init_7 : decode bc_R_init 7 = .ok (.newarray .int, 2) := by decide +kernel
theorem dc_R_init_9 : decode bc_R_init 9 = .ok (.putfield 7, 3) := by decide +kernel
theorem dc_R_init_12 : decode bc_R_init 12 = .ok (.aload_n 0, 1) := by decide +kernel
theorem dc_R_init_13 : decode bc_R_init 13 = .ok (.bipush 40, 2) := by decide +kernel
theorem dc_R_init_15 : decode bc_R_init 15 = .ok (.newarray .int, 2) := by decide +kernel
theorem dc_R_init_17 : decode bc_R_init 17 = .ok (.putfield 13, 3) := by decide +kernel
theorem dc_R_init_20 : decode bc_R_init 20 = .ok (.aload_n 0, 1) := by decide +kernel
theorem dc_R_init_21 : decode bc_R_init 21 = .ok (.bipush 40, 2) := by decide +kernel
theorem dc_R_init_23 : decode bc_R_init 23 = .ok (.newarray .int, 2) := by decide +kernel
theorem dc_R_init_25 : decode bc_R_init 25 = .ok (.putfield 16, 3) := by decide +kernel
theorem dc_R_init_28 : decode bc_R_init 28 = .ok (.aload_n 0, 1) := by decide +kernel
theorem dc_R_init_29 : decode bc_R_init 29 = .ok (.bipush 40, 2) := by decide +kernel
theorem dc_R_init_31 : decode bc_R_init 31 = .ok (.newarray .boolean, 2) := by decide +kernel
theorem dc_R_init_33 : decode bc_R_init 33 = .ok (.putfield 19, 3) := by decide +kernel
theorem dc_R_init_36 : decode bc_R_init 36 = .ok (.aload_n 0, 1) := by decide +kernel
theorem dc_R_init_37 : decode bc_R_init 37 = .ok (.bipush 40, 2) := by decide +kernel
theorem dc_R_init_39 : decode bc_R_init 39 = .ok (.newarray .boolean, 2) := by decide +kernel
theorem dc_R_init_41 : decode bc_R_init 41 = .ok (.putfield 23, 3) := by decide +kernel
theorem dc_R_init_44 : decode bc_R_init 44 = .ok (.aload_n 0, 1) := by decide +kernel
theorem dc_R_init_45 : decode bc_R_init 45 = .ok (.bipush 40, 2) := by decide +kernel
theorem dc_R_init_47 : decode bc_R_init 47 = .ok (.newarray .int, 2) := by decide +kernel
theorem dc_R_init_49 : decode bc_R_init 49 = .ok (.putfield 26, 3) := by decide +kernel
theorem dc_R_init_52 : decode bc_R_init 52 = .ok (.aload_n 0, 1) := by decide +kernel
theorem dc_R_init_53 : decode bc_R_init 53 = .ok (.bipush 40, 2) := by decide +kernel
theorem dc_R_init_55 : decode bc_R_init 55 = .ok (.newarray .int, 2) := by decide +kernel
theorem dc_R_init_57 : decode bc_R_init 57 = .ok (.putfield 29, 3) := by decide +kernel
theorem dc_R_init_60 : decode bc_R_init 60 = .ok (.aload_n 0, 1) := by decide +kernel
theorem dc_R_init_61 : decode bc_R_init 61 = .ok (.bipush 40, 2) := by decide +kernel
theorem dc_R_init_63 : decode bc_R_init 63 = .ok (.newarray .boolean, 2) := by decide +kernel
theorem dc_R_init_65 : decode bc_R_init 65 = .ok (.putfield 32, 3) := by decide +kernel
theorem dc_R_init_68 : decode bc_R_init 68 = .ok (.aload_n 0, 1) := by decide +kernel
theorem dc_R_init_69 : decode bc_R_init 69 = .ok (.bipush 40, 2) := by decide +kernel
theorem dc_R_init_71 : decode bc_R_init 71 = .ok (.newarray .boolean, 2) := by decide +kernel
theorem dc_R_init_73 : decode bc_R_init 73 = .ok (.putfield 35, 3) := by decide +kernel
theorem dc_R_init_76 : decode bc_R_init 76 = .ok (.aload_n 0, 1) := by decide +kernel
theorem dc_R_init_77 : decode bc_R_init 77 = .ok (.bipush 104, 2) := by decide +kernel
theorem dc_R_init_79 : decode bc_R_init 79 = .ok (.newarray .int, 2) := by decide +kernel
theorem dc_R_init_81 : decode bc_R_init 81 = .ok (.putfield 38, 3) := by decide +kernel
theorem dc_R_init_84 : decode bc_R_init 84 = .ok (.aload_n 0, 1) := by decide +kernel
theorem dc_R_init_85 : decode bc_R_init 85 = .ok (.bipush 104, 2) := by decide +kernel
theorem dc_R_init_87 : decode bc_R_init 87 = .ok (.newarray .int, 2) := by decide +kernel
theorem dc_R_init_89 : decode bc_R_init 89 = .ok (.putfield 41, 3) := by decide +kernel
theorem dc_R_init_92 : decode bc_R_init 92 = .ok (.aload_n 0, 1) := by decide +kernel
theorem dc_R_init_93 : decode bc_R_init 93 = .ok (.bipush 104, 2) := by decide +kernel
theorem dc_R_init_95 : decode bc_R_init 95 = .ok (.newarray .int, 2) := by decide +kernel
theorem dc_R_init_97 : decode bc_R_init 97 = .ok (.putfield 44, 3) := by decide +kernel
theorem dc_R_init_100 : decode bc_R_init 100 = .ok (.aload_n 0, 1) := by decide +kernel
theorem dc_R_init_101 : decode bc_R_init 101 = .ok (.bipush 104, 2) := by decide +kernel
theorem dc_R_init_103 : decode bc_R_init 103 = .ok (.newarray .int, 2) := by decide +kernel
theorem dc_R_init_105 : decode bc_R_init 105 = .ok (.putfield 47, 3) := by decide +kernel
theorem dc_R_init_108 : decode bc_R_init 108 = .ok (.aload_n 0, 1) := by decide +kernel
theorem dc_R_init_109 : decode bc_R_init 109 = .ok (.bipush 104, 2) := by decide +kernel
theorem dc_R_init_111 : decode bc_R_init 111 = .ok (.newarray .int, 2) := by decide +kernel
theorem dc_R_init_113 : decode bc_R_init 113 = .ok (.putfield 50, 3) := by decide +kernel
theorem dc_R_init_116 : decode bc_R_init 116 = .ok (.aload_n 0, 1) := by decide +kernel
theorem dc_R_init_117 : decode bc_R_init 117 = .ok (.iconst 3, 1) := by decide +kernel
theorem dc_R_init_118 : decode bc_R_init 118 = .ok (.newarray .boolean, 2) := by decide +kernel
theorem dc_R_init_120 : decode bc_R_init 120 = .ok (.putfield 53, 3) := by decide +kernel
theorem dc_R_init_123 : decode bc_R_init 123 = .ok (.aload_n 0, 1) := by decide +kernel
theorem dc_R_init_124 : decode bc_R_init 124 = .ok (.bipush 120, 2) := by decide +kernel
theorem dc_R_init_126 : decode bc_R_init 126 = .ok (.newarray .int, 2) := by decide +kernel
theorem dc_R_init_128 : decode bc_R_init 128 = .ok (.putfield 56, 3) := by decide +kernel
theorem dc_R_init_131 : decode bc_R_init 131 = .ok (.aload_n 0, 1) := by decide +kernel
theorem dc_R_init_132 : decode bc_R_init 132 = .ok (.iconst 3, 1) := by decide +kernel
theorem dc_R_init_133 : decode bc_R_init 133 = .ok (.newarray .int, 2) := by decide +kernel
theorem dc_R_init_135 : decode bc_R_init 135 = .ok (.putfield 59, 3) := by decide +kernel
theorem dc_R_init_138 : decode bc_R_init 138 = .ok (.aload_n 0, 1) := by decide +kernel
theorem dc_R_init_139 : decode bc_R_init 139 = .ok (.iconst 3, 1) := by decide +kernel
theorem dc_R_init_140 : decode bc_R_init 140 = .ok (.newarray .int, 2) := by decide +kernel
theorem dc_R_init_142 : decode bc_R_init 142 = .ok (.putfield 62, 3) := by decide +kernel
theorem dc_R_init_145 : decode bc_R_init 145 = .ok (.aload_n 0, 1) := by decide +kernel
theorem dc_R_init_146 : decode bc_R_init 146 = .ok (.iconst 3, 1) := by decide +kernel
theorem dc_R_init_147 : decode bc_R_init 147 = .ok (.newarray .int, 2) := by decide +kernel
theorem dc_R_init_149 : decode bc_R_init 149 = .ok (.putfield 65, 3) := by decide +kernel
theorem dc_R_init_152 : decode bc_R_init 152 = .ok (.aload_n 0, 1) := by decide +kernel
theorem dc_R_init_153 : decode bc_R_init 153 = .ok (.iconst 3, 1) := by decide +kernel
theorem dc_R_init_154 : decode bc_R_init 154 = .ok (.newarray .int, 2) := by decide +kernel
theorem dc_R_init_156 : decode bc_R_init 156 = .ok (.putfield 68, 3) := by decide +kernel
theorem dc_R_init_159 : decode bc_R_init 159 = .ok (.aload_n 0, 1) := by decide +kernel
theorem dc_R_init_160 : decode bc_R_init 160 = .ok (.iconst 3, 1) := by decide +kernel
theorem dc_R_init_161 : decode bc_R_init 161 = .ok (.newarray .int, 2) := by decide +kernel
theorem dc_R_init_163 : decode bc_R_init 163 = .ok (.putfield 71, 3) := by decide +kernel
theorem dc_R_init_166 : decode bc_R_init 166 = .ok (.aload_n 0, 1) := by decide +kernel
theorem dc_R_init_167 : decode bc_R_init 167 = .ok (.bipush 120, 2) := by decide +kernel
theorem dc_R_init_169 : decode bc_R_init 169 = .ok (.newarray .int, 2) := by decide +kernel
theorem dc_R_init_171 : decode bc_R_init 171 = .ok (.putfield 74, 3) := by decide +kernel
theorem dc_R_init_174 : decode bc_R_init 174 = .ok (.aload_n 0, 1) := by decide +kernel
theorem dc_R_init_175 : decode bc_R_init 175 = .ok (.iconst 3, 1) := by decide +kernel
theorem dc_R_init_176 : decode bc_R_init 176 = .ok (.newarray .int, 2) := by decide +kernel
theorem dc_R_init_178 : decode bc_R_init 178 = .ok (.putfield 77, 3) := by decide +kernel
theorem dc_R_init_181 : decode bc_R_init 181 = .ok (.aload_n 0, 1) := by decide +kernel
theorem dc_R_init_182 : decode bc_R_init 182 = .ok (.invokevirtual 80, 3) := by decide +kernel
theorem dc_R_init_185 : decode bc_R_init 185 = .ok (.return_, 1) := by decide +kernel
theorem dc_R_renew_0 : decode bc_R_renew 0 = .ok (.aload_n 0, 1) := by decide +kernel
theorem dc_R_renew_1 : decode bc_R_renew 1 = .ok (.iconst 0, 1) := by decide +kernel
theorem dc_R_renew_2 : decode bc_R_renew 2 = .ok (.putfield 83, 3) := by decide +kernel
theorem dc_R_renew_5 : decode bc_R_renew 5 = .ok (.aload_n 0, 1) := by decide +kernel
theorem dc_R_renew_6 : decode bc_R_renew 6 = .ok (.iconst 0, 1) := by decide +kernel
theorem dc_R_renew_7 : decode bc_R_renew 7 = .ok (.putfield 87, 3) := by decide +kernel
theorem dc_R_renew_10 : decode bc_R_renew 10 = .ok (.aload_n 0, 1) := by decide +kernel
theorem dc_R_renew_11 : decode bc_R_renew 11 = .ok (.iconst 0, 1) := by decide +kernel
theorem dc_R_renew_12 : decode bc_R_renew 12 = .ok (.putfield 90, 3) := by decide +kernel
theorem dc_R_renew_15 : decode bc_R_renew 15 = .ok (.aload_n 0, 1) := by decide +kernel
theorem dc_R_renew_16 : decode bc_R_renew 16 = .ok (.iconst 0, 1) := by decide +kernel
theorem dc_R_renew_17 : decode bc_R_renew 17 = .ok (.putfield 93, 3) := by decide +kernel
theorem dc_R_renew_20 : decode bc_R_renew 20 = .ok (.iconst 0, 1) := by decide +kernel
theorem dc_R_renew_21 : decode bc_R_renew 21 = .ok (.istore_n 1, 1) := by decide +kernel
theorem dc_R_renew_22 : decode bc_R_renew 22 = .ok (.iload_n 1, 1) := by decide +kernel
theorem dc_R_renew_23 : decode bc_R_renew 23 = .ok (.iconst 3, 1) := by decide +kernel
theorem dc_R_renew_24 : decode bc_R_renew 24 = .ok (.if_icmp .ge 58, 3) := by decide +kernel
theorem dc_R_renew_27 : decode bc_R_renew 27 = .ok (.aload_n 0, 1) := by decide +kernel
theorem dc_R_renew_28 : decode bc_R_renew 28 = .ok (.getfield 53, 3) := by decide +kernel
theorem dc_R_renew_31 : decode bc_R_renew 31 = .ok (.iload_n 1, 1) := by decide +kernel
theorem dc_R_renew_32 : decode bc_R_renew 32 = .ok (.iconst 0, 1) := by decide +kernel
theorem dc_R_renew_33 : decode bc_R_renew 33 = .ok (.bastore, 1) := by decide +kernel
theorem dc_R_renew_34 : decode bc_R_renew 34 = .ok (.aload_n 0, 1) := by decide +kernel
theorem dc_R_renew_35 : decode bc_R_renew 35 = .ok (.getfield 59, 3) := by decide +kernel
theorem dc_R_renew_38 : decode bc_R_renew 38 = .ok (.iload_n 1, 1) := by decide +kernel
theorem dc_R_renew_39 : decode bc_R_renew 39 = .ok (.iconst 0, 1) := by decide +kernel
theorem dc_R_renew_40 : decode bc_R_renew 40 = .ok (.iastore, 1) := by decide +kernel
theorem dc_R_renew_41 : decode bc_R_renew 41 = .ok (.aload_n 0, 1) := by decide +kernel
theorem dc_R_renew_42 : decode bc_R_renew 42 = .ok (.getfield 62, 3) := by decide +kernel
theorem dc_R_renew_45 : decode bc_R_renew 45 = .ok (.iload_n 1, 1) := by decide +kernel
theorem dc_R_renew_46 : decode bc_R_renew 46 = .ok (.iconst 0, 1) := by decide +kernel
theorem dc_R_renew_47 : decode bc_R_renew 47 = .ok (.iastore, 1) := by decide +kernel
theorem dc_R_renew_48 : decode bc_R_renew 48 = .ok (.aload_n 0, 1) := by decide +kernel
theorem dc_R_renew_49 : decode bc_R_renew 49 = .ok (.getfield 65, 3) := by decide +kernel
theorem dc_R_renew_52 : decode bc_R_renew 52 = .ok (.iload_n 1, 1) := by decide +kernel
theorem dc_R_renew_53 : decode bc_R_renew 53 = .ok (.iconst (-1), 1) := by decide +kernel
theorem dc_R_renew_54 : decode bc_R_renew 54 = .ok (.iastore, 1) := by decide +kernel
theorem dc_R_renew_55 : decode bc_R_renew 55 = .ok (.aload_n 0, 1) := by decide +kernel
theorem dc_R_renew_56 : decode bc_R_renew 56 = .ok (.getfield 68, 3) := by decide +kernel
theorem dc_R_renew_59 : decode bc_R_renew 59 = .ok (.iload_n 1, 1) := by decide +kernel
theorem dc_R_renew_60 : decode bc_R_renew 60 = .ok (.iconst (-1), 1) := by decide +kernel
theorem dc_R_renew_61 : decode bc_R_renew 61 = .ok (.iastore, 1) := by decide +kernel
theorem dc_R_renew_62 : decode bc_R_renew 62 = .ok (.aload_n 0, 1) := by decide +kernel
theorem dc_R_renew_63 : decode bc_R_renew 63 = .ok (.getfield 71, 3) := by decide +kernel
theorem dc_R_renew_66 : decode bc_R_renew 66 = .ok (.iload_n 1, 1) := by decide +kernel
theorem dc_R_renew_67 : decode bc_R_renew 67 = .ok (.iconst 0, 1) := by decide +kernel
theorem dc_R_renew_68 : decode bc_R_renew 68 = .ok (.iastore, 1) := by decide +kernel
theorem dc_R_renew_69 : decode bc_R_renew 69 = .ok (.aload_n 0, 1) := by decide +kernel
theorem dc_R_renew_70 : decode bc_R_renew 70 = .ok (.getfield 77, 3) := by decide +kernel
theorem dc_R_renew_73 : decode bc_R_renew 73 = .ok (.iload_n 1, 1) := by decide +kernel
theorem dc_R_renew_74 : decode bc_R_renew 74 = .ok (.iconst 0, 1) := by decide +kernel
theorem dc_R_renew_75 : decode bc_R_renew 75 = .ok (.iastore, 1) := by decide +kernel
theorem dc_R_renew_76 : decode bc_R_renew 76 = .ok (.iinc 1 1, 3) := by decide +kernel
theorem dc_R_renew_79 : decode bc_R_renew 79 = .ok (.goto (-57), 3) := by decide +kernel
theorem dc_R_renew_82 : decode bc_R_renew 82 = .ok (.return_, 1) := by decide +kernel
theorem dc_R_input_0 : decode bc_R_input 0 = .ok (.aload_n 0, 1) := by decide +kernel
theorem dc_R_input_1 : decode bc_R_input 1 = .ok (.iload_n 1, 1) := by decide +kernel
theorem dc_R_input_2 : decode bc_R_input 2 = .ok (.invokevirtual 96, 3) := by decide +kernel
theorem dc_R_input_5 : decode bc_R_input 5 = .ok (.ifCond .eq 12, 3) := by decide +kernel
theorem dc_R_input_8 : decode bc_R_input 8 = .ok (.aload_n 0, 1) := by decide +kernel
theorem dc_R_input_9 : decode bc_R_input 9 = .ok (.getfield 90, 3) := by decide +kernel
theorem dc_R_input_12 : decode bc_R_input 12 = .ok (.bipush 24, 2) := by decide +kernel
theorem dc_R_input_14 : decode bc_R_input 14 = .ok (.if_icmp .lt 5, 3) := by decide +kernel
theorem dc_R_input_17 : decode bc_R_input 17 = .ok (.iconst (-1), 1) := by decide +kernel
theorem dc_R_input_18 : decode bc_R_input 18 = .ok (.ireturn, 1) := by decide +kernel
theorem dc_R_input_19 : decode bc_R_input 19 = .ok (.aload_n 0, 1) := by decide +kernel
theorem dc_R_input_20 : decode bc_R_input 20 = .ok (.dup, 1) := by decide +kernel
theorem dc_R_input_21 : decode bc_R_input 21 = .ok (.getfield 90, 3) := by decide +kernel
theorem dc_R_input_24 : decode bc_R_input 24 = .ok (.iconst 1, 1) := by decide +kernel
theorem dc_R_input_25 : decode bc_R_input 25 = .ok (.iadd, 1) := by decide +kernel
theorem dc_R_input_26 : decode bc_R_input 26 = .ok (.putfield 90, 3) := by decide +kernel
theorem dc_R_input_29 : decode bc_R_input 29 = .ok (.aload_n 0, 1) := by decide +kernel
theorem dc_R_input_30 : decode bc_R_input 30 = .ok (.iload_n 1, 1) := by decide +kernel
theorem dc_R_input_31 : decode bc_R_input 31 = .ok (.iload_n 2, 1) := by decide +kernel
theorem dc_R_input_32 : decode bc_R_input 32 = .ok (.iconst (-1), 1) := by decide +kernel
theorem dc_R_input_33 : decode bc_R_input 33 = .ok (.iconst 0, 1) := by decide +kernel
theorem dc_R_input_34 : decode bc_R_input 34 = .ok (.invokevirtual 104, 3) := by decide +kernel
theorem dc_R_input_37 : decode bc_R_input 37 = .ok (.ireturn, 1) := by decide +kernel
theorem dc_R_isProcess_0 : decode bc_R_isProcess 0 = .ok (.iload_n 1, 1) := by decide +kernel
theorem dc_R_isProcess_1 : decode bc_R_isProcess 1 = .ok (.ifCond .lt 12, 3) := by decide +kernel
theorem dc_R_isProcess_4 : decode bc_R_isProcess 4 = .ok (.iload_n 1, 1) := by decide +kernel
theorem dc_R_isProcess_5 : decode bc_R_isProcess 5 = .ok (.iconst 2, 1) := by decide +kernel
theorem dc_R_isProcess_6 : decode bc_R_isProcess 6 = .ok (.if_icmp .gt 7, 3) := by decide +kernel
theorem dc_R_isProcess_9 : decode bc_R_isProcess 9 = .ok (.iconst 1, 1) := by decide +kernel
theorem dc_R_isProcess_10 : decode bc_R_isProcess 10 = .ok (.goto 4, 3) := by decide +kernel
theorem dc_R_isProcess_13 : decode bc_R_isProcess 13 = .ok (.iconst 0, 1) := by decide +kernel
theorem dc_R_isProcess_14 : decode bc_R_isProcess 14 = .ok (.ireturn, 1) := by decide +kernel
theorem dc_R_send_0 : decode bc_R_send 0 = .ok (.aload_n 0, 1) := by decide +kernel
theorem dc_R_send_1 : decode bc_R_send 1 = .ok (.getfield 38, 3) := by decide +kernel
theorem dc_R_send_4 : decode bc_R_send 4 = .ok (.aload_n 0, 1) := by decide +kernel
theorem dc_R_send_5 : decode bc_R_send 5 = .ok (.getfield 87, 3) := by decide +kernel
theorem dc_R_send_8 : decode bc_R_send 8 = .ok (.iload_n 2, 1) := by decide +kernel
theorem dc_R_send_9 : decode bc_R_send 9 = .ok (.iastore, 1) := by decide +kernel
theorem dc_R_send_10 : decode bc_R_send 10 = .ok (.aload_n 0, 1) := by decide +kernel
theorem dc_R_send_11 : decode bc_R_send 11 = .ok (.getfield 41, 3) := by decide +kernel
theorem dc_R_send_14 : decode bc_R_send 14 = .ok (.aload_n 0, 1) := by decide +kernel
theorem dc_R_send_15 : decode bc_R_send 15 = .ok (.getfield 87, 3) := by decide +kernel
theorem dc_R_send_18 : decode bc_R_send 18 = .ok (.iload_n 1, 1) := by decide +kernel
theorem dc_R_send_19 : decode bc_R_send 19 = .ok (.iastore, 1) := by decide +kernel
theorem dc_R_send_20 : decode bc_R_send 20 = .ok (.aload_n 0, 1) := by decide +kernel
theorem dc_R_send_21 : decode bc_R_send 21 = .ok (.getfield 44, 3) := by decide +kernel
theorem dc_R_send_24 : decode bc_R_send 24 = .ok (.aload_n 0, 1) := by decide +kernel
theorem dc_R_send_25 : decode bc_R_send 25 = .ok (.getfield 87, 3) := by decide +kernel
theorem dc_R_send_28 : decode bc_R_send 28 = .ok (.iconst 0, 1) := by decide +kernel
theorem dc_R_send_29 : decode bc_R_send 29 = .ok (.iastore, 1) := by decide +kernel
theorem dc_R_send_30 : decode bc_R_send 30 = .ok (.aload_n 0, 1) := by decide +kernel
theorem dc_R_send_31 : decode bc_R_send 31 = .ok (.getfield 47, 3) := by decide +kernel
theorem dc_R_send_34 : decode bc_R_send 34 = .ok (.aload_n 0, 1) := by decide +kernel
theorem dc_R_send_35 : decode bc_R_send 35 = .ok (.getfield 87, 3) := by decide +kernel
theorem dc_R_send_38 : decode bc_R_send 38 = .ok (.iload_n 3, 1) := by decide +kernel
theorem dc_R_send_39 : decode bc_R_send 39 = .ok (.iastore, 1) := by decide +kernel
theorem dc_R_send_40 : decode bc_R_send 40 = .ok (.aload_n 0, 1) := by decide +kernel
theorem dc_R_send_41 : decode bc_R_send 41 = .ok (.getfield 50, 3) := by decide +kernel
theorem dc_R_send_44 : decode bc_R_send 44 = .ok (.aload_n 0, 1) := by decide +kernel
theorem dc_R_send_45 : decode bc_R_send 45 = .ok (.getfield 87, 3) := by decide +kernel
theorem dc_R_send_48 : decode bc_R_send 48 = .ok (.iload 4, 2) := by decide +kernel
theorem dc_R_send_50 : decode bc_R_send 50 = .ok (.iastore, 1) := by decide +kernel
theorem dc_R_send_51 : decode bc_R_send 51 = .ok (.aload_n 0, 1) := by decide +kernel
theorem dc_R_send_52 : decode bc_R_send 52 = .ok (.dup, 1) := by decide +kernel
theorem dc_R_send_53 : decode bc_R_send 53 = .ok (.getfield 87, 3) := by decide +kernel
theorem dc_R_send_56 : decode bc_R_send 56 = .ok (.iconst 1, 1) := by decide +kernel
theorem dc_R_send_57 : decode bc_R_send 57 = .ok (.iadd, 1) := by decide +kernel
theorem dc_R_send_58 : decode bc_R_send 58 = .ok (.putfield 87, 3) := by decide +kernel
theorem dc_R_send_61 : decode bc_R_send 61 = .ok (.aload_n 0, 1) := by decide +kernel
theorem dc_R_send_62 : decode bc_R_send 62 = .ok (.getfield 87, 3) := by decide +kernel
theorem dc_R_send_65 : decode bc_R_send 65 = .ok (.iconst 1, 1) := by decide +kernel
theorem dc_R_send_66 : decode bc_R_send 66 = .ok (.isub, 1) := by decide +kernel
theorem dc_R_send_67 : decode bc_R_send 67 = .ok (.ireturn, 1) := by decide +kernel
theorem dc_R_deliver_0 : decode bc_R_deliver 0 = .ok (.aload_n 0, 1) := by decide +kernel
theorem dc_R_deliver_1 : decode bc_R_deliver 1 = .ok (.iload_n 1, 1) := by decide +kernel
theorem dc_R_deliver_2 : decode bc_R_deliver 2 = .ok (.invokevirtual 108, 3) := by decide +kernel
theorem dc_R_deliver_5 : decode bc_R_deliver 5 = .ok (.ifCond .eq 35, 3) := by decide +kernel
theorem dc_R_deliver_8 : decode bc_R_deliver 8 = .ok (.aload_n 0, 1) := by decide +kernel
theorem dc_R_deliver_9 : decode bc_R_deliver 9 = .ok (.getfield 44, 3) := by decide +kernel
theorem dc_R_deliver_12 : decode bc_R_deliver 12 = .ok (.iload_n 1, 1) := by decide +kernel
theorem dc_R_deliver_13 : decode bc_R_deliver 13 = .ok (.iaload, 1) := by decide +kernel
theorem dc_R_deliver_14 : decode bc_R_deliver 14 = .ok (.ifCond .ne 26, 3) := by decide +kernel
theorem dc_R_deliver_17 : decode bc_R_deliver 17 = .ok (.aload_n 0, 1) := by decide +kernel
theorem dc_R_deliver_18 : decode bc_R_deliver 18 = .ok (.getfield 53, 3) := by decide +kernel
theorem dc_R_deliver_21 : decode bc_R_deliver 21 = .ok (.aload_n 0, 1) := by decide +kernel
theorem dc_R_deliver_22 : decode bc_R_deliver 22 = .ok (.getfield 41, 3) := by decide +kernel
theorem dc_R_deliver_25 : decode bc_R_deliver 25 = .ok (.iload_n 1, 1) := by decide +kernel
theorem dc_R_deliver_26 : decode bc_R_deliver 26 = .ok (.iaload, 1) := by decide +kernel
theorem dc_R_deliver_27 : decode bc_R_deliver 27 = .ok (.baload, 1) := by decide +kernel
theorem dc_R_deliver_28 : decode bc_R_deliver 28 = .ok (.ifCond .ne 12, 3) := by decide +kernel
theorem dc_R_deliver_31 : decode bc_R_deliver 31 = .ok (.aload_n 0, 1) := by decide +kernel
theorem dc_R_deliver_32 : decode bc_R_deliver 32 = .ok (.getfield 83, 3) := by decide +kernel
theorem dc_R_deliver_35 : decode bc_R_deliver 35 = .ok (.bipush 40, 2) := by decide +kernel
theorem dc_R_deliver_37 : decode bc_R_deliver 37 = .ok (.if_icmp .lt 5, 3) := by decide +kernel
theorem dc_R_deliver_40 : decode bc_R_deliver 40 = .ok (.iconst (-1), 1) := by decide +kernel
theorem dc_R_deliver_41 : decode bc_R_deliver 41 = .ok (.ireturn, 1) := by decide +kernel
theorem dc_R_deliver_42 : decode bc_R_deliver 42 = .ok (.aload_n 0, 1) := by decide +kernel
theorem dc_R_deliver_43 : decode bc_R_deliver 43 = .ok (.getfield 41, 3) := by decide +kernel
theorem dc_R_deliver_46 : decode bc_R_deliver 46 = .ok (.iload_n 1, 1) := by decide +kernel
theorem dc_R_deliver_47 : decode bc_R_deliver 47 = .ok (.iaload, 1) := by decide +kernel
theorem dc_R_deliver_48 : decode bc_R_deliver 48 = .ok (.istore_n 2, 1) := by decide +kernel
theorem dc_R_deliver_49 : decode bc_R_deliver 49 = .ok (.aload_n 0, 1) := by decide +kernel
theorem dc_R_deliver_50 : decode bc_R_deliver 50 = .ok (.getfield 50, 3) := by decide +kernel
theorem dc_R_deliver_53 : decode bc_R_deliver 53 = .ok (.iload_n 1, 1) := by decide +kernel
theorem dc_R_deliver_54 : decode bc_R_deliver 54 = .ok (.iaload, 1) := by decide +kernel
theorem dc_R_deliver_55 : decode bc_R_deliver 55 = .ok (.aload_n 0, 1) := by decide +kernel
theorem dc_R_deliver_56 : decode bc_R_deliver 56 = .ok (.getfield 62, 3) := by decide +kernel
theorem dc_R_deliver_59 : decode bc_R_deliver 59 = .ok (.iload_n 2, 1) := by decide +kernel
theorem dc_R_deliver_60 : decode bc_R_deliver 60 = .ok (.iaload, 1) := by decide +kernel
theorem dc_R_deliver_61 : decode bc_R_deliver 61 = .ok (.if_icmp .le 6, 3) := by decide +kernel
theorem dc_R_deliver_64 : decode bc_R_deliver 64 = .ok (.bipush (-2), 2) := by decide +kernel
theorem dc_R_deliver_66 : decode bc_R_deliver 66 = .ok (.ireturn, 1) := by decide +kernel
theorem dc_R_deliver_67 : decode bc_R_deliver 67 = .ok (.aload_n 0, 1) := by decide +kernel
theorem dc_R_deliver_68 : decode bc_R_deliver 68 = .ok (.aload_n 0, 1) := by decide +kernel
theorem dc_R_deliver_69 : decode bc_R_deliver 69 = .ok (.getfield 47, 3) := by decide +kernel
theorem dc_R_deliver_72 : decode bc_R_deliver 72 = .ok (.iload_n 1, 1) := by decide +kernel
theorem dc_R_deliver_73 : decode bc_R_deliver 73 = .ok (.iaload, 1) := by decide +kernel
theorem dc_R_deliver_74 : decode bc_R_deliver 74 = .ok (.iconst 0, 1) := by decide +kernel
theorem dc_R_deliver_75 : decode bc_R_deliver 75 = .ok (.aload_n 0, 1) := by decide +kernel
theorem dc_R_deliver_76 : decode bc_R_deliver 76 = .ok (.getfield 62, 3) := by decide +kernel
theorem dc_R_deliver_79 : decode bc_R_deliver 79 = .ok (.iload_n 2, 1) := by decide +kernel
theorem dc_R_deliver_80 : decode bc_R_deliver 80 = .ok (.iaload, 1) := by decide +kernel
theorem dc_R_deliver_81 : decode bc_R_deliver 81 = .ok (.invokevirtual 111, 3) := by decide +kernel
theorem dc_R_deliver_84 : decode bc_R_deliver 84 = .ok (.ifCond .eq 13, 3) := by decide +kernel
theorem dc_R_deliver_87 : decode bc_R_deliver 87 = .ok (.aload_n 0, 1) := by decide +kernel
theorem dc_R_deliver_88 : decode bc_R_deliver 88 = .ok (.getfield 44, 3) := by decide +kernel
theorem dc_R_deliver_91 : decode bc_R_deliver 91 = .ok (.iload_n 1, 1) := by decide +kernel
theorem dc_R_deliver_92 : decode bc_R_deliver 92 = .ok (.iconst 3, 1) := by decide +kernel
theorem dc_R_deliver_93 : decode bc_R_deliver 93 = .ok (.iastore, 1) := by decide +kernel
theorem dc_R_deliver_94 : decode bc_R_deliver 94 = .ok (.bipush (-3), 2) := by decide +kernel
theorem dc_R_deliver_96 : decode bc_R_deliver 96 = .ok (.ireturn, 1) := by decide +kernel
theorem dc_R_deliver_97 : decode bc_R_deliver 97 = .ok (.aload_n 0, 1) := by decide +kernel
theorem dc_R_deliver_98 : decode bc_R_deliver 98 = .ok (.getfield 44, 3) := by decide +kernel
theorem dc_R_deliver_101 : decode bc_R_deliver 101 = .ok (.iload_n 1, 1) := by decide +kernel
theorem dc_R_deliver_102 : decode bc_R_deliver 102 = .ok (.iconst 1, 1) := by decide +kernel
theorem dc_R_deliver_103 : decode bc_R_deliver 103 = .ok (.iastore, 1) := by decide +kernel
theorem dc_R_deliver_104 : decode bc_R_deliver 104 = .ok (.aload_n 0, 1) := by decide +kernel
theorem dc_R_deliver_105 : decode bc_R_deliver 105 = .ok (.iload_n 2, 1) := by decide +kernel
theorem dc_R_deliver_106 : decode bc_R_deliver 106 = .ok (.iload_n 1, 1) := by decide +kernel
theorem dc_R_deliver_107 : decode bc_R_deliver 107 = .ok (.invokevirtual 115, 3) := by decide +kernel
theorem dc_R_deliver_110 : decode bc_R_deliver 110 = .ok (.aload_n 0, 1) := by decide +kernel
theorem dc_R_deliver_111 : decode bc_R_deliver 111 = .ok (.getfield 83, 3) := by decide +kernel
theorem dc_R_deliver_114 : decode bc_R_deliver 114 = .ok (.iconst 1, 1) := by decide +kernel
theorem dc_R_deliver_115 : decode bc_R_deliver 115 = .ok (.isub, 1) := by decide +kernel
theorem dc_R_deliver_116 : decode bc_R_deliver 116 = .ok (.ireturn, 1) := by decide +kernel
theorem dc_R_isMessage_0 : decode bc_R_isMessage 0 = .ok (.iload_n 1, 1) := by decide +kernel
theorem dc_R_isMessage_1 : decode bc_R_isMessage 1 = .ok (.ifCond .lt 15, 3) := by decide +kernel
theorem dc_R_isMessage_4 : decode bc_R_isMessage 4 = .ok (.iload_n 1, 1) := by decide +kernel
theorem dc_R_isMessage_5 : decode bc_R_isMessage 5 = .ok (.aload_n 0, 1) := by decide +kernel
theorem dc_R_isMessage_6 : decode bc_R_isMessage 6 = .ok (.getfield 87, 3) := by decide +kernel
theorem dc_R_isMessage_9 : decode bc_R_isMessage 9 = .ok (.if_icmp .ge 7, 3) := by decide +kernel
theorem dc_R_isMessage_12 : decode bc_R_isMessage 12 = .ok (.iconst 1, 1) := by decide +kernel
theorem dc_R_isMessage_13 : decode bc_R_isMessage 13 = .ok (.goto 4, 3) := by decide +kernel
theorem dc_R_isMessage_16 : decode bc_R_isMessage 16 = .ok (.iconst 0, 1) := by decide +kernel
theorem dc_R_isMessage_17 : decode bc_R_isMessage 17 = .ok (.ireturn, 1) := by decide +kernel
theorem dc_R_isHit_0 : decode bc_R_isHit 0 = .ok (.aload_n 0, 1) := by decide +kernel
theorem dc_R_isHit_1 : decode bc_R_isHit 1 = .ok (.iload_n 1, 1) := by decide +kernel
theorem dc_R_isHit_2 : decode bc_R_isHit 2 = .ok (.invokevirtual 100, 3) := by decide +kernel
theorem dc_R_isHit_5 : decode bc_R_isHit 5 = .ok (.iconst 0, 1) := by decide +kernel
theorem dc_R_isHit_6 : decode bc_R_isHit 6 = .ok (.istore 4, 2) := by decide +kernel
theorem dc_R_isHit_8 : decode bc_R_isHit 8 = .ok (.iconst 0, 1) := by decide +kernel
theorem dc_R_isHit_9 : decode bc_R_isHit 9 = .ok (.istore 5, 2) := by decide +kernel
theorem dc_R_isHit_11 : decode bc_R_isHit 11 = .ok (.iload 5, 2) := by decide +kernel
theorem dc_R_isHit_13 : decode bc_R_isHit 13 = .ok (.aload_n 0, 1) := by decide +kernel
theorem dc_R_isHit_14 : decode bc_R_isHit 14 = .ok (.getfield 83, 3) := by decide +kernel
theorem dc_R_isHit_17 : decode bc_R_isHit 17 = .ok (.if_icmp .ge 53, 3) := by decide +kernel
theorem dc_R_isHit_20 : decode bc_R_isHit 20 = .ok (.iload 4, 2) := by decide +kernel
theorem dc_R_isHit_22 : decode bc_R_isHit 22 = .ok (.ifCond .ne 35, 3) := by decide +kernel
theorem dc_R_isHit_25 : decode bc_R_isHit 25 = .ok (.aload_n 0, 1) := by decide +kernel
theorem dc_R_isHit_26 : decode bc_R_isHit 26 = .ok (.getfield 35, 3) := by decide +kernel
theorem dc_R_isHit_29 : decode bc_R_isHit 29 = .ok (.iload 5, 2) := by decide +kernel
theorem dc_R_isHit_31 : decode bc_R_isHit 31 = .ok (.baload, 1) := by decide +kernel
theorem dc_R_isHit_32 : decode bc_R_isHit 32 = .ok (.ifCond .eq 29, 3) := by decide +kernel
theorem dc_R_isHit_35 : decode bc_R_isHit 35 = .ok (.aload_n 0, 1) := by decide +kernel
theorem dc_R_isHit_36 : decode bc_R_isHit 36 = .ok (.getfield 29, 3) := by decide +kernel
theorem dc_R_isHit_39 : decode bc_R_isHit 39 = .ok (.iload 5, 2) := by decide +kernel
theorem dc_R_isHit_41 : decode bc_R_isHit 41 = .ok (.iaload, 1) := by decide +kernel
theorem dc_R_isHit_42 : decode bc_R_isHit 42 = .ok (.iload_n 2, 1) := by decide +kernel
theorem dc_R_isHit_43 : decode bc_R_isHit 43 = .ok (.if_icmp .lt 18, 3) := by decide +kernel
theorem dc_R_isHit_46 : decode bc_R_isHit 46 = .ok (.aload_n 0, 1) := by decide +kernel
theorem dc_R_isHit_47 : decode bc_R_isHit 47 = .ok (.getfield 29, 3) := by decide +kernel
theorem dc_R_isHit_50 : decode bc_R_isHit 50 = .ok (.iload 5, 2) := by decide +kernel
theorem dc_R_isHit_52 : decode bc_R_isHit 52 = .ok (.iaload, 1) := by decide +kernel
theorem dc_R_isHit_53 : decode bc_R_isHit 53 = .ok (.iload_n 3, 1) := by decide +kernel
theorem dc_R_isHit_54 : decode bc_R_isHit 54 = .ok (.if_icmp .ge 7, 3) := by decide +kernel
theorem dc_R_isHit_57 : decode bc_R_isHit 57 = .ok (.iconst 1, 1) := by decide +kernel
theorem dc_R_isHit_58 : decode bc_R_isHit 58 = .ok (.goto 4, 3) := by decide +kernel
theorem dc_R_isHit_61 : decode bc_R_isHit 61 = .ok (.iconst 0, 1) := by decide +kernel
theorem dc_R_isHit_62 : decode bc_R_isHit 62 = .ok (.istore 4, 2) := by decide +kernel
theorem dc_R_isHit_64 : decode bc_R_isHit 64 = .ok (.iinc 5 1, 3) := by decide +kernel
theorem dc_R_isHit_67 : decode bc_R_isHit 67 = .ok (.goto (-56), 3) := by decide +kernel
theorem dc_R_isHit_70 : decode bc_R_isHit 70 = .ok (.iload 4, 2) := by decide +kernel
theorem dc_R_isHit_72 : decode bc_R_isHit 72 = .ok (.ireturn, 1) := by decide +kernel
theorem dc_R_trace_0 : decode bc_R_trace 0 = .ok (.iconst 0, 1) := by decide +kernel
theorem dc_R_trace_1 : decode bc_R_trace 1 = .ok (.istore_n 2, 1) := by decide +kernel
theorem dc_R_trace_2 : decode bc_R_trace 2 = .ok (.iload_n 2, 1) := by decide +kernel
theorem dc_R_trace_3 : decode bc_R_trace 3 = .ok (.bipush 40, 2) := by decide +kernel
theorem dc_R_trace_5 : decode bc_R_trace 5 = .ok (.if_icmp .ge 25, 3) := by decide +kernel
theorem dc_R_trace_8 : decode bc_R_trace 8 = .ok (.aload_n 0, 1) := by decide +kernel
theorem dc_R_trace_9 : decode bc_R_trace 9 = .ok (.getfield 35, 3) := by decide +kernel
theorem dc_R_trace_12 : decode bc_R_trace 12 = .ok (.iload_n 2, 1) := by decide +kernel
theorem dc_R_trace_13 : decode bc_R_trace 13 = .ok (.iload_n 2, 1) := by decide +kernel
theorem dc_R_trace_14 : decode bc_R_trace 14 = .ok (.iload_n 1, 1) := by decide +kernel
theorem dc_R_trace_15 : decode bc_R_trace 15 = .ok (.if_icmp .ne 7, 3) := by decide +kernel
theorem dc_R_trace_18 : decode bc_R_trace 18 = .ok (.iconst 1, 1) := by decide +kernel
theorem dc_R_trace_19 : decode bc_R_trace 19 = .ok (.goto 4, 3) := by decide +kernel
theorem dc_R_trace_22 : decode bc_R_trace 22 = .ok (.iconst 0, 1) := by decide +kernel
theorem dc_R_trace_23 : decode bc_R_trace 23 = .ok (.bastore, 1) := by decide +kernel
theorem dc_R_trace_24 : decode bc_R_trace 24 = .ok (.iinc 2 1, 3) := by decide +kernel
theorem dc_R_trace_27 : decode bc_R_trace 27 = .ok (.goto (-25), 3) := by decide +kernel
theorem dc_R_trace_30 : decode bc_R_trace 30 = .ok (.iload_n 1, 1) := by decide +kernel
theorem dc_R_trace_31 : decode bc_R_trace 31 = .ok (.istore_n 2, 1) := by decide +kernel
theorem dc_R_trace_32 : decode bc_R_trace 32 = .ok (.iload_n 2, 1) := by decide +kernel
theorem dc_R_trace_33 : decode bc_R_trace 33 = .ok (.ifCond .lt 62, 3) := by decide +kernel
theorem dc_R_trace_36 : decode bc_R_trace 36 = .ok (.aload_n 0, 1) := by decide +kernel
theorem dc_R_trace_37 : decode bc_R_trace 37 = .ok (.getfield 35, 3) := by decide +kernel
theorem dc_R_trace_40 : decode bc_R_trace 40 = .ok (.iload_n 2, 1) := by decide +kernel
theorem dc_R_trace_41 : decode bc_R_trace 41 = .ok (.baload, 1) := by decide +kernel
theorem dc_R_trace_42 : decode bc_R_trace 42 = .ok (.ifCond .eq 47, 3) := by decide +kernel
theorem dc_R_trace_45 : decode bc_R_trace 45 = .ok (.aload_n 0, 1) := by decide +kernel
theorem dc_R_trace_46 : decode bc_R_trace 46 = .ok (.getfield 7, 3) := by decide +kernel
theorem dc_R_trace_49 : decode bc_R_trace 49 = .ok (.iload_n 2, 1) := by decide +kernel
theorem dc_R_trace_50 : decode bc_R_trace 50 = .ok (.iaload, 1) := by decide +kernel
theorem dc_R_trace_51 : decode bc_R_trace 51 = .ok (.ifCond .lt 15, 3) := by decide +kernel
theorem dc_R_trace_54 : decode bc_R_trace 54 = .ok (.aload_n 0, 1) := by decide +kernel
theorem dc_R_trace_55 : decode bc_R_trace 55 = .ok (.getfield 35, 3) := by decide +kernel
theorem dc_R_trace_58 : decode bc_R_trace 58 = .ok (.aload_n 0, 1) := by decide +kernel
theorem dc_R_trace_59 : decode bc_R_trace 59 = .ok (.getfield 7, 3) := by decide +kernel
theorem dc_R_trace_62 : decode bc_R_trace 62 = .ok (.iload_n 2, 1) := by decide +kernel
theorem dc_R_trace_63 : decode bc_R_trace 63 = .ok (.iaload, 1) := by decide +kernel
theorem dc_R_trace_64 : decode bc_R_trace 64 = .ok (.iconst 1, 1) := by decide +kernel
theorem dc_R_trace_65 : decode bc_R_trace 65 = .ok (.bastore, 1) := by decide +kernel
theorem dc_R_trace_66 : decode bc_R_trace 66 = .ok (.aload_n 0, 1) := by decide +kernel
theorem dc_R_trace_67 : decode bc_R_trace 67 = .ok (.getfield 47, 3) := by decide +kernel
theorem dc_R_trace_70 : decode bc_R_trace 70 = .ok (.aload_n 0, 1) := by decide +kernel
theorem dc_R_trace_71 : decode bc_R_trace 71 = .ok (.getfield 13, 3) := by decide +kernel
theorem dc_R_trace_74 : decode bc_R_trace 74 = .ok (.iload_n 2, 1) := by decide +kernel
theorem dc_R_trace_75 : decode bc_R_trace 75 = .ok (.iaload, 1) := by decide +kernel
theorem dc_R_trace_76 : decode bc_R_trace 76 = .ok (.iaload, 1) := by decide +kernel
theorem dc_R_trace_77 : decode bc_R_trace 77 = .ok (.istore_n 3, 1) := by decide +kernel
theorem dc_R_trace_78 : decode bc_R_trace 78 = .ok (.iload_n 3, 1) := by decide +kernel
theorem dc_R_trace_79 : decode bc_R_trace 79 = .ok (.ifCond .lt 10, 3) := by decide +kernel
theorem dc_R_trace_82 : decode bc_R_trace 82 = .ok (.aload_n 0, 1) := by decide +kernel
theorem dc_R_trace_83 : decode bc_R_trace 83 = .ok (.getfield 35, 3) := by decide +kernel
theorem dc_R_trace_86 : decode bc_R_trace 86 = .ok (.iload_n 3, 1) := by decide +kernel
theorem dc_R_trace_87 : decode bc_R_trace 87 = .ok (.iconst 1, 1) := by decide +kernel
theorem dc_R_trace_88 : decode bc_R_trace 88 = .ok (.bastore, 1) := by decide +kernel
theorem dc_R_trace_89 : decode bc_R_trace 89 = .ok (.iinc 2 (-1), 3) := by decide +kernel
theorem dc_R_trace_92 : decode bc_R_trace 92 = .ok (.goto (-60), 3) := by decide +kernel
theorem dc_R_trace_95 : decode bc_R_trace 95 = .ok (.return_, 1) := by decide +kernel
