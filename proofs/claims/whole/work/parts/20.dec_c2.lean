theorem dc_R_receive_0 : decode bc_R_receive 0 = .ok (.aload_n 0, 1) := by decide +kernel
theorem dc_R_receive_1 : decode bc_R_receive 1 = .ok (.getfield 83, 3) := by decide +kernel
theorem dc_R_receive_4 : decode bc_R_receive 4 = .ok (.istore_n 3, 1) := by decide +kernel
theorem dc_R_receive_5 : decode bc_R_receive 5 = .ok (.aload_n 0, 1) := by decide +kernel
theorem dc_R_receive_6 : decode bc_R_receive 6 = .ok (.dup, 1) := by decide +kernel
theorem dc_R_receive_7 : decode bc_R_receive 7 = .ok (.getfield 83, 3) := by decide +kernel
theorem dc_R_receive_10 : decode bc_R_receive 10 = .ok (.iconst 1, 1) := by decide +kernel
theorem dc_R_receive_11 : decode bc_R_receive 11 = .ok (.iadd, 1) := by decide +kernel
theorem dc_R_receive_12 : decode bc_R_receive 12 = .ok (.putfield 83, 3) := by decide +kernel
theorem dc_R_receive_15 : decode bc_R_receive 15 = .ok (.aload_n 0, 1) := by decide +kernel
theorem dc_R_receive_16 : decode bc_R_receive 16 = .ok (.getfield 7, 3) := by decide +kernel
theorem dc_R_receive_19 : decode bc_R_receive 19 = .ok (.iload_n 3, 1) := by decide +kernel
theorem dc_R_receive_20 : decode bc_R_receive 20 = .ok (.aload_n 0, 1) := by decide +kernel
theorem dc_R_receive_21 : decode bc_R_receive 21 = .ok (.getfield 59, 3) := by decide +kernel
theorem dc_R_receive_24 : decode bc_R_receive 24 = .ok (.iload_n 1, 1) := by decide +kernel
theorem dc_R_receive_25 : decode bc_R_receive 25 = .ok (.iaload, 1) := by decide +kernel
theorem dc_R_receive_26 : decode bc_R_receive 26 = .ok (.ifCond .ne 7, 3) := by decide +kernel
theorem dc_R_receive_29 : decode bc_R_receive 29 = .ok (.iconst (-1), 1) := by decide +kernel
theorem dc_R_receive_30 : decode bc_R_receive 30 = .ok (.goto 21, 3) := by decide +kernel
theorem dc_R_receive_33 : decode bc_R_receive 33 = .ok (.aload_n 0, 1) := by decide +kernel
theorem dc_R_receive_34 : decode bc_R_receive 34 = .ok (.getfield 56, 3) := by decide +kernel
theorem dc_R_receive_37 : decode bc_R_receive 37 = .ok (.bipush 40, 2) := by decide +kernel
theorem dc_R_receive_39 : decode bc_R_receive 39 = .ok (.iload_n 1, 1) := by decide +kernel
theorem dc_R_receive_40 : decode bc_R_receive 40 = .ok (.imul, 1) := by decide +kernel
theorem dc_R_receive_41 : decode bc_R_receive 41 = .ok (.aload_n 0, 1) := by decide +kernel
theorem dc_R_receive_42 : decode bc_R_receive 42 = .ok (.getfield 59, 3) := by decide +kernel
theorem dc_R_receive_45 : decode bc_R_receive 45 = .ok (.iload_n 1, 1) := by decide +kernel
theorem dc_R_receive_46 : decode bc_R_receive 46 = .ok (.iaload, 1) := by decide +kernel
theorem dc_R_receive_47 : decode bc_R_receive 47 = .ok (.iadd, 1) := by decide +kernel
theorem dc_R_receive_48 : decode bc_R_receive 48 = .ok (.iconst 1, 1) := by decide +kernel
theorem dc_R_receive_49 : decode bc_R_receive 49 = .ok (.isub, 1) := by decide +kernel
theorem dc_R_receive_50 : decode bc_R_receive 50 = .ok (.iaload, 1) := by decide +kernel
theorem dc_R_receive_51 : decode bc_R_receive 51 = .ok (.iastore, 1) := by decide +kernel
theorem dc_R_receive_52 : decode bc_R_receive 52 = .ok (.bipush 31, 2) := by decide +kernel
theorem dc_R_receive_54 : decode bc_R_receive 54 = .ok (.aload_n 0, 1) := by decide +kernel
theorem dc_R_receive_55 : decode bc_R_receive 55 = .ok (.iload_n 1, 1) := by decide +kernel
theorem dc_R_receive_56 : decode bc_R_receive 56 = .ok (.invokevirtual 119, 3) := by decide +kernel
theorem dc_R_receive_59 : decode bc_R_receive 59 = .ok (.imul, 1) := by decide +kernel
theorem dc_R_receive_60 : decode bc_R_receive 60 = .ok (.aload_n 0, 1) := by decide +kernel
theorem dc_R_receive_61 : decode bc_R_receive 61 = .ok (.getfield 38, 3) := by decide +kernel
theorem dc_R_receive_64 : decode bc_R_receive 64 = .ok (.iload_n 2, 1) := by decide +kernel
theorem dc_R_receive_65 : decode bc_R_receive 65 = .ok (.iaload, 1) := by decide +kernel
theorem dc_R_receive_66 : decode bc_R_receive 66 = .ok (.iadd, 1) := by decide +kernel
theorem dc_R_receive_67 : decode bc_R_receive 67 = .ok (.istore 4, 2) := by decide +kernel
theorem dc_R_receive_69 : decode bc_R_receive 69 = .ok (.aload_n 0, 1) := by decide +kernel
theorem dc_R_receive_70 : decode bc_R_receive 70 = .ok (.getfield 13, 3) := by decide +kernel
theorem dc_R_receive_73 : decode bc_R_receive 73 = .ok (.iload_n 3, 1) := by decide +kernel
theorem dc_R_receive_74 : decode bc_R_receive 74 = .ok (.iload_n 2, 1) := by decide +kernel
theorem dc_R_receive_75 : decode bc_R_receive 75 = .ok (.iastore, 1) := by decide +kernel
theorem dc_R_receive_76 : decode bc_R_receive 76 = .ok (.aload_n 0, 1) := by decide +kernel
theorem dc_R_receive_77 : decode bc_R_receive 77 = .ok (.getfield 16, 3) := by decide +kernel
theorem dc_R_receive_80 : decode bc_R_receive 80 = .ok (.iload_n 3, 1) := by decide +kernel
theorem dc_R_receive_81 : decode bc_R_receive 81 = .ok (.iload 4, 2) := by decide +kernel
theorem dc_R_receive_83 : decode bc_R_receive 83 = .ok (.iastore, 1) := by decide +kernel
theorem dc_R_receive_84 : decode bc_R_receive 84 = .ok (.aload_n 0, 1) := by decide +kernel
theorem dc_R_receive_85 : decode bc_R_receive 85 = .ok (.getfield 19, 3) := by decide +kernel
theorem dc_R_receive_88 : decode bc_R_receive 88 = .ok (.iload_n 3, 1) := by decide +kernel
theorem dc_R_receive_89 : decode bc_R_receive 89 = .ok (.iconst 0, 1) := by decide +kernel
theorem dc_R_receive_90 : decode bc_R_receive 90 = .ok (.bastore, 1) := by decide +kernel
theorem dc_R_receive_91 : decode bc_R_receive 91 = .ok (.aload_n 0, 1) := by decide +kernel
theorem dc_R_receive_92 : decode bc_R_receive 92 = .ok (.getfield 23, 3) := by decide +kernel
theorem dc_R_receive_95 : decode bc_R_receive 95 = .ok (.iload_n 3, 1) := by decide +kernel
theorem dc_R_receive_96 : decode bc_R_receive 96 = .ok (.iconst 0, 1) := by decide +kernel
theorem dc_R_receive_97 : decode bc_R_receive 97 = .ok (.bastore, 1) := by decide +kernel
theorem dc_R_receive_98 : decode bc_R_receive 98 = .ok (.aload_n 0, 1) := by decide +kernel
theorem dc_R_receive_99 : decode bc_R_receive 99 = .ok (.getfield 26, 3) := by decide +kernel
theorem dc_R_receive_102 : decode bc_R_receive 102 = .ok (.iload_n 3, 1) := by decide +kernel
theorem dc_R_receive_103 : decode bc_R_receive 103 = .ok (.iconst 3, 1) := by decide +kernel
theorem dc_R_receive_104 : decode bc_R_receive 104 = .ok (.iastore, 1) := by decide +kernel
theorem dc_R_receive_105 : decode bc_R_receive 105 = .ok (.aload_n 0, 1) := by decide +kernel
theorem dc_R_receive_106 : decode bc_R_receive 106 = .ok (.getfield 29, 3) := by decide +kernel
theorem dc_R_receive_109 : decode bc_R_receive 109 = .ok (.iload_n 3, 1) := by decide +kernel
theorem dc_R_receive_110 : decode bc_R_receive 110 = .ok (.iconst (-1), 1) := by decide +kernel
theorem dc_R_receive_111 : decode bc_R_receive 111 = .ok (.iastore, 1) := by decide +kernel
theorem dc_R_receive_112 : decode bc_R_receive 112 = .ok (.aload_n 0, 1) := by decide +kernel
theorem dc_R_receive_113 : decode bc_R_receive 113 = .ok (.getfield 32, 3) := by decide +kernel
theorem dc_R_receive_116 : decode bc_R_receive 116 = .ok (.iload_n 3, 1) := by decide +kernel
theorem dc_R_receive_117 : decode bc_R_receive 117 = .ok (.iconst 0, 1) := by decide +kernel
theorem dc_R_receive_118 : decode bc_R_receive 118 = .ok (.bastore, 1) := by decide +kernel
theorem dc_R_receive_119 : decode bc_R_receive 119 = .ok (.aload_n 0, 1) := by decide +kernel
theorem dc_R_receive_120 : decode bc_R_receive 120 = .ok (.getfield 56, 3) := by decide +kernel
theorem dc_R_receive_123 : decode bc_R_receive 123 = .ok (.bipush 40, 2) := by decide +kernel
theorem dc_R_receive_125 : decode bc_R_receive 125 = .ok (.iload_n 1, 1) := by decide +kernel
theorem dc_R_receive_126 : decode bc_R_receive 126 = .ok (.imul, 1) := by decide +kernel
theorem dc_R_receive_127 : decode bc_R_receive 127 = .ok (.aload_n 0, 1) := by decide +kernel
theorem dc_R_receive_128 : decode bc_R_receive 128 = .ok (.getfield 59, 3) := by decide +kernel
theorem dc_R_receive_131 : decode bc_R_receive 131 = .ok (.iload_n 1, 1) := by decide +kernel
theorem dc_R_receive_132 : decode bc_R_receive 132 = .ok (.iaload, 1) := by decide +kernel
theorem dc_R_receive_133 : decode bc_R_receive 133 = .ok (.iadd, 1) := by decide +kernel
theorem dc_R_receive_134 : decode bc_R_receive 134 = .ok (.iload_n 3, 1) := by decide +kernel
theorem dc_R_receive_135 : decode bc_R_receive 135 = .ok (.iastore, 1) := by decide +kernel
theorem dc_R_receive_136 : decode bc_R_receive 136 = .ok (.aload_n 0, 1) := by decide +kernel
theorem dc_R_receive_137 : decode bc_R_receive 137 = .ok (.getfield 59, 3) := by decide +kernel
theorem dc_R_receive_140 : decode bc_R_receive 140 = .ok (.iload_n 1, 1) := by decide +kernel
theorem dc_R_receive_141 : decode bc_R_receive 141 = .ok (.dup2, 1) := by decide +kernel
theorem dc_R_receive_142 : decode bc_R_receive 142 = .ok (.iaload, 1) := by decide +kernel
theorem dc_R_receive_143 : decode bc_R_receive 143 = .ok (.iconst 1, 1) := by decide +kernel
theorem dc_R_receive_144 : decode bc_R_receive 144 = .ok (.iadd, 1) := by decide +kernel
theorem dc_R_receive_145 : decode bc_R_receive 145 = .ok (.iastore, 1) := by decide +kernel
theorem dc_R_receive_146 : decode bc_R_receive 146 = .ok (.iload 4, 2) := by decide +kernel
theorem dc_R_receive_148 : decode bc_R_receive 148 = .ok (.iconst 1, 1) := by decide +kernel
theorem dc_R_receive_149 : decode bc_R_receive 149 = .ok (.iand, 1) := by decide +kernel
theorem dc_R_receive_150 : decode bc_R_receive 150 = .ok (.ifCond .eq 24, 3) := by decide +kernel
theorem dc_R_receive_153 : decode bc_R_receive 153 = .ok (.aload_n 0, 1) := by decide +kernel
theorem dc_R_receive_154 : decode bc_R_receive 154 = .ok (.iload_n 1, 1) := by decide +kernel
theorem dc_R_receive_155 : decode bc_R_receive 155 = .ok (.iconst 1, 1) := by decide +kernel
theorem dc_R_receive_156 : decode bc_R_receive 156 = .ok (.iadd, 1) := by decide +kernel
theorem dc_R_receive_157 : decode bc_R_receive 157 = .ok (.iconst 3, 1) := by decide +kernel
theorem dc_R_receive_158 : decode bc_R_receive 158 = .ok (.irem, 1) := by decide +kernel
theorem dc_R_receive_159 : decode bc_R_receive 159 = .ok (.iload 4, 2) := by decide +kernel
theorem dc_R_receive_161 : decode bc_R_receive 161 = .ok (.iconst 1, 1) := by decide +kernel
theorem dc_R_receive_162 : decode bc_R_receive 162 = .ok (.ishr, 1) := by decide +kernel
theorem dc_R_receive_163 : decode bc_R_receive 163 = .ok (.iload_n 3, 1) := by decide +kernel
theorem dc_R_receive_164 : decode bc_R_receive 164 = .ok (.aload_n 0, 1) := by decide +kernel
theorem dc_R_receive_165 : decode bc_R_receive 165 = .ok (.getfield 62, 3) := by decide +kernel
theorem dc_R_receive_168 : decode bc_R_receive 168 = .ok (.iload_n 1, 1) := by decide +kernel
theorem dc_R_receive_169 : decode bc_R_receive 169 = .ok (.iaload, 1) := by decide +kernel
theorem dc_R_receive_170 : decode bc_R_receive 170 = .ok (.invokevirtual 104, 3) := by decide +kernel
theorem dc_R_receive_173 : decode bc_R_receive 173 = .ok (.pop, 1) := by decide +kernel
theorem dc_R_receive_174 : decode bc_R_receive 174 = .ok (.iload 4, 2) := by decide +kernel
theorem dc_R_receive_176 : decode bc_R_receive 176 = .ok (.iconst 2, 1) := by decide +kernel
theorem dc_R_receive_177 : decode bc_R_receive 177 = .ok (.iand, 1) := by decide +kernel
theorem dc_R_receive_178 : decode bc_R_receive 178 = .ok (.ifCond .eq 24, 3) := by decide +kernel
theorem dc_R_receive_181 : decode bc_R_receive 181 = .ok (.aload_n 0, 1) := by decide +kernel
theorem dc_R_receive_182 : decode bc_R_receive 182 = .ok (.iload_n 1, 1) := by decide +kernel
theorem dc_R_receive_183 : decode bc_R_receive 183 = .ok (.iconst 2, 1) := by decide +kernel
theorem dc_R_receive_184 : decode bc_R_receive 184 = .ok (.iadd, 1) := by decide +kernel
theorem dc_R_receive_185 : decode bc_R_receive 185 = .ok (.iconst 3, 1) := by decide +kernel
theorem dc_R_receive_186 : decode bc_R_receive 186 = .ok (.irem, 1) := by decide +kernel
theorem dc_R_receive_187 : decode bc_R_receive 187 = .ok (.iload 4, 2) := by decide +kernel
theorem dc_R_receive_189 : decode bc_R_receive 189 = .ok (.iconst 2, 1) := by decide +kernel
theorem dc_R_receive_190 : decode bc_R_receive 190 = .ok (.ishr, 1) := by decide +kernel
theorem dc_R_receive_191 : decode bc_R_receive 191 = .ok (.iload_n 3, 1) := by decide +kernel
theorem dc_R_receive_192 : decode bc_R_receive 192 = .ok (.aload_n 0, 1) := by decide +kernel
theorem dc_R_receive_193 : decode bc_R_receive 193 = .ok (.getfield 62, 3) := by decide +kernel
theorem dc_R_receive_196 : decode bc_R_receive 196 = .ok (.iload_n 1, 1) := by decide +kernel
theorem dc_R_receive_197 : decode bc_R_receive 197 = .ok (.iaload, 1) := by decide +kernel
theorem dc_R_receive_198 : decode bc_R_receive 198 = .ok (.invokevirtual 104, 3) := by decide +kernel
theorem dc_R_receive_201 : decode bc_R_receive 201 = .ok (.pop, 1) := by decide +kernel
theorem dc_R_receive_202 : decode bc_R_receive 202 = .ok (.aload_n 0, 1) := by decide +kernel
theorem dc_R_receive_203 : decode bc_R_receive 203 = .ok (.getfield 47, 3) := by decide +kernel
theorem dc_R_receive_206 : decode bc_R_receive 206 = .ok (.iload_n 2, 1) := by decide +kernel
theorem dc_R_receive_207 : decode bc_R_receive 207 = .ok (.iaload, 1) := by decide +kernel
theorem dc_R_receive_208 : decode bc_R_receive 208 = .ok (.ifCond .ge 9, 3) := by decide +kernel
theorem dc_R_receive_211 : decode bc_R_receive 211 = .ok (.aload_n 0, 1) := by decide +kernel
theorem dc_R_receive_212 : decode bc_R_receive 212 = .ok (.iload_n 1, 1) := by decide +kernel
theorem dc_R_receive_213 : decode bc_R_receive 213 = .ok (.invokevirtual 123, 3) := by decide +kernel
theorem dc_R_receive_216 : decode bc_R_receive 216 = .ok (.pop, 1) := by decide +kernel
theorem dc_R_receive_217 : decode bc_R_receive 217 = .ok (.return_, 1) := by decide +kernel
theorem dc_R_stateOf_0 : decode bc_R_stateOf 0 = .ok (.aload_n 0, 1) := by decide +kernel
theorem dc_R_stateOf_1 : decode bc_R_stateOf 1 = .ok (.getfield 59, 3) := by decide +kernel
theorem dc_R_stateOf_4 : decode bc_R_stateOf 4 = .ok (.iload_n 1, 1) := by decide +kernel
theorem dc_R_stateOf_5 : decode bc_R_stateOf 5 = .ok (.iaload, 1) := by decide +kernel
theorem dc_R_stateOf_6 : decode bc_R_stateOf 6 = .ok (.ifCond .ne 7, 3) := by decide +kernel
theorem dc_R_stateOf_9 : decode bc_R_stateOf 9 = .ok (.iconst 0, 1) := by decide +kernel
theorem dc_R_stateOf_10 : decode bc_R_stateOf 10 = .ok (.goto 26, 3) := by decide +kernel
theorem dc_R_stateOf_13 : decode bc_R_stateOf 13 = .ok (.aload_n 0, 1) := by decide +kernel
theorem dc_R_stateOf_14 : decode bc_R_stateOf 14 = .ok (.getfield 16, 3) := by decide +kernel
theorem dc_R_stateOf_17 : decode bc_R_stateOf 17 = .ok (.aload_n 0, 1) := by decide +kernel
theorem dc_R_stateOf_18 : decode bc_R_stateOf 18 = .ok (.getfield 56, 3) := by decide +kernel
theorem dc_R_stateOf_21 : decode bc_R_stateOf 21 = .ok (.bipush 40, 2) := by decide +kernel
theorem dc_R_stateOf_23 : decode bc_R_stateOf 23 = .ok (.iload_n 1, 1) := by decide +kernel
theorem dc_R_stateOf_24 : decode bc_R_stateOf 24 = .ok (.imul, 1) := by decide +kernel
theorem dc_R_stateOf_25 : decode bc_R_stateOf 25 = .ok (.aload_n 0, 1) := by decide +kernel
theorem dc_R_stateOf_26 : decode bc_R_stateOf 26 = .ok (.getfield 59, 3) := by decide +kernel
theorem dc_R_stateOf_29 : decode bc_R_stateOf 29 = .ok (.iload_n 1, 1) := by decide +kernel
theorem dc_R_stateOf_30 : decode bc_R_stateOf 30 = .ok (.iaload, 1) := by decide +kernel
theorem dc_R_stateOf_31 : decode bc_R_stateOf 31 = .ok (.iadd, 1) := by decide +kernel
theorem dc_R_stateOf_32 : decode bc_R_stateOf 32 = .ok (.iconst 1, 1) := by decide +kernel
theorem dc_R_stateOf_33 : decode bc_R_stateOf 33 = .ok (.isub, 1) := by decide +kernel
theorem dc_R_stateOf_34 : decode bc_R_stateOf 34 = .ok (.iaload, 1) := by decide +kernel
theorem dc_R_stateOf_35 : decode bc_R_stateOf 35 = .ok (.iaload, 1) := by decide +kernel
theorem dc_R_stateOf_36 : decode bc_R_stateOf 36 = .ok (.ireturn, 1) := by decide +kernel
theorem dc_R_settle_0 : decode bc_R_settle 0 = .ok (.iconst 0, 1) := by decide +kernel
theorem dc_R_settle_1 : decode bc_R_settle 1 = .ok (.istore_n 2, 1) := by decide +kernel
theorem dc_R_settle_2 : decode bc_R_settle 2 = .ok (.iconst 0, 1) := by decide +kernel
theorem dc_R_settle_3 : decode bc_R_settle 3 = .ok (.istore_n 3, 1) := by decide +kernel
theorem dc_R_settle_4 : decode bc_R_settle 4 = .ok (.iload_n 3, 1) := by decide +kernel
theorem dc_R_settle_5 : decode bc_R_settle 5 = .ok (.aload_n 0, 1) := by decide +kernel
theorem dc_R_settle_6 : decode bc_R_settle 6 = .ok (.getfield 59, 3) := by decide +kernel
theorem dc_R_settle_9 : decode bc_R_settle 9 = .ok (.iload_n 1, 1) := by decide +kernel
theorem dc_R_settle_10 : decode bc_R_settle 10 = .ok (.iaload, 1) := by decide +kernel
theorem dc_R_settle_11 : decode bc_R_settle 11 = .ok (.if_icmp .ge 48, 3) := by decide +kernel
theorem dc_R_settle_14 : decode bc_R_settle 14 = .ok (.aload_n 0, 1) := by decide +kernel
theorem dc_R_settle_15 : decode bc_R_settle 15 = .ok (.getfield 56, 3) := by decide +kernel
theorem dc_R_settle_18 : decode bc_R_settle 18 = .ok (.bipush 40, 2) := by decide +kernel
theorem dc_R_settle_20 : decode bc_R_settle 20 = .ok (.iload_n 1, 1) := by decide +kernel
theorem dc_R_settle_21 : decode bc_R_settle 21 = .ok (.imul, 1) := by decide +kernel
theorem dc_R_settle_22 : decode bc_R_settle 22 = .ok (.iload_n 3, 1) := by decide +kernel
theorem dc_R_settle_23 : decode bc_R_settle 23 = .ok (.iadd, 1) := by decide +kernel
theorem dc_R_settle_24 : decode bc_R_settle 24 = .ok (.iaload, 1) := by decide +kernel
theorem dc_R_settle_25 : decode bc_R_settle 25 = .ok (.istore 4, 2) := by decide +kernel
theorem dc_R_settle_27 : decode bc_R_settle 27 = .ok (.aload_n 0, 1) := by decide +kernel
theorem dc_R_settle_28 : decode bc_R_settle 28 = .ok (.getfield 19, 3) := by decide +kernel
theorem dc_R_settle_31 : decode bc_R_settle 31 = .ok (.iload 4, 2) := by decide +kernel
theorem dc_R_settle_33 : decode bc_R_settle 33 = .ok (.baload, 1) := by decide +kernel
theorem dc_R_settle_34 : decode bc_R_settle 34 = .ok (.ifCond .eq 7, 3) := by decide +kernel
theorem dc_R_settle_37 : decode bc_R_settle 37 = .ok (.iload_n 2, 1) := by decide +kernel
theorem dc_R_settle_38 : decode bc_R_settle 38 = .ok (.goto 6, 3) := by decide +kernel
theorem dc_R_settle_41 : decode bc_R_settle 41 = .ok (.iload_n 2, 1) := by decide +kernel
theorem dc_R_settle_42 : decode bc_R_settle 42 = .ok (.iconst 1, 1) := by decide +kernel
theorem dc_R_settle_43 : decode bc_R_settle 43 = .ok (.iadd, 1) := by decide +kernel
theorem dc_R_settle_44 : decode bc_R_settle 44 = .ok (.istore_n 2, 1) := by decide +kernel
theorem dc_R_settle_45 : decode bc_R_settle 45 = .ok (.aload_n 0, 1) := by decide +kernel
theorem dc_R_settle_46 : decode bc_R_settle 46 = .ok (.getfield 19, 3) := by decide +kernel
theorem dc_R_settle_49 : decode bc_R_settle 49 = .ok (.iload 4, 2) := by decide +kernel
theorem dc_R_settle_51 : decode bc_R_settle 51 = .ok (.iconst 1, 1) := by decide +kernel
theorem dc_R_settle_52 : decode bc_R_settle 52 = .ok (.bastore, 1) := by decide +kernel
theorem dc_R_settle_53 : decode bc_R_settle 53 = .ok (.iinc 3 1, 3) := by decide +kernel
theorem dc_R_settle_56 : decode bc_R_settle 56 = .ok (.goto (-52), 3) := by decide +kernel
theorem dc_R_settle_59 : decode bc_R_settle 59 = .ok (.iload_n 2, 1) := by decide +kernel
theorem dc_R_settle_60 : decode bc_R_settle 60 = .ok (.ireturn, 1) := by decide +kernel
theorem dc_R_lose_0 : decode bc_R_lose 0 = .ok (.aload_n 0, 1) := by decide +kernel
theorem dc_R_lose_1 : decode bc_R_lose 1 = .ok (.iload_n 1, 1) := by decide +kernel
theorem dc_R_lose_2 : decode bc_R_lose 2 = .ok (.invokevirtual 108, 3) := by decide +kernel
theorem dc_R_lose_5 : decode bc_R_lose 5 = .ok (.ifCond .eq 21, 3) := by decide +kernel
theorem dc_R_lose_8 : decode bc_R_lose 8 = .ok (.aload_n 0, 1) := by decide +kernel
theorem dc_R_lose_9 : decode bc_R_lose 9 = .ok (.getfield 44, 3) := by decide +kernel
theorem dc_R_lose_12 : decode bc_R_lose 12 = .ok (.iload_n 1, 1) := by decide +kernel
theorem dc_R_lose_13 : decode bc_R_lose 13 = .ok (.iaload, 1) := by decide +kernel
theorem dc_R_lose_14 : decode bc_R_lose 14 = .ok (.ifCond .ne 12, 3) := by decide +kernel
theorem dc_R_lose_17 : decode bc_R_lose 17 = .ok (.aload_n 0, 1) := by decide +kernel
theorem dc_R_lose_18 : decode bc_R_lose 18 = .ok (.getfield 47, 3) := by decide +kernel
theorem dc_R_lose_21 : decode bc_R_lose 21 = .ok (.iload_n 1, 1) := by decide +kernel
theorem dc_R_lose_22 : decode bc_R_lose 22 = .ok (.iaload, 1) := by decide +kernel
theorem dc_R_lose_23 : decode bc_R_lose 23 = .ok (.ifCond .ge 5, 3) := by decide +kernel
theorem dc_R_lose_26 : decode bc_R_lose 26 = .ok (.iconst 0, 1) := by decide +kernel
theorem dc_R_lose_27 : decode bc_R_lose 27 = .ok (.ireturn, 1) := by decide +kernel
theorem dc_R_lose_28 : decode bc_R_lose 28 = .ok (.aload_n 0, 1) := by decide +kernel
theorem dc_R_lose_29 : decode bc_R_lose 29 = .ok (.getfield 44, 3) := by decide +kernel
theorem dc_R_lose_32 : decode bc_R_lose 32 = .ok (.iload_n 1, 1) := by decide +kernel
theorem dc_R_lose_33 : decode bc_R_lose 33 = .ok (.iconst 2, 1) := by decide +kernel
theorem dc_R_lose_34 : decode bc_R_lose 34 = .ok (.iastore, 1) := by decide +kernel
theorem dc_R_lose_35 : decode bc_R_lose 35 = .ok (.iconst 1, 1) := by decide +kernel
theorem dc_R_lose_36 : decode bc_R_lose 36 = .ok (.ireturn, 1) := by decide +kernel
theorem dc_R_resend_0 : decode bc_R_resend 0 = .ok (.aload_n 0, 1) := by decide +kernel
theorem dc_R_resend_1 : decode bc_R_resend 1 = .ok (.iload_n 1, 1) := by decide +kernel
theorem dc_R_resend_2 : decode bc_R_resend 2 = .ok (.invokevirtual 126, 3) := by decide +kernel
theorem dc_R_resend_5 : decode bc_R_resend 5 = .ok (.ifCond .ne 5, 3) := by decide +kernel
theorem dc_R_resend_8 : decode bc_R_resend 8 = .ok (.iconst (-1), 1) := by decide +kernel
theorem dc_R_resend_9 : decode bc_R_resend 9 = .ok (.ireturn, 1) := by decide +kernel
theorem dc_R_resend_10 : decode bc_R_resend 10 = .ok (.iconst 0, 1) := by decide +kernel
theorem dc_R_resend_11 : decode bc_R_resend 11 = .ok (.istore_n 2, 1) := by decide +kernel
theorem dc_R_resend_12 : decode bc_R_resend 12 = .ok (.iconst 0, 1) := by decide +kernel
theorem dc_R_resend_13 : decode bc_R_resend 13 = .ok (.istore_n 3, 1) := by decide +kernel
theorem dc_R_resend_14 : decode bc_R_resend 14 = .ok (.iload_n 3, 1) := by decide +kernel
theorem dc_R_resend_15 : decode bc_R_resend 15 = .ok (.aload_n 0, 1) := by decide +kernel
theorem dc_R_resend_16 : decode bc_R_resend 16 = .ok (.getfield 87, 3) := by decide +kernel
theorem dc_R_resend_19 : decode bc_R_resend 19 = .ok (.if_icmp .ge 43, 3) := by decide +kernel
theorem dc_R_resend_22 : decode bc_R_resend 22 = .ok (.aload_n 0, 1) := by decide +kernel
theorem dc_R_resend_23 : decode bc_R_resend 23 = .ok (.getfield 44, 3) := by decide +kernel
theorem dc_R_resend_26 : decode bc_R_resend 26 = .ok (.iload_n 3, 1) := by decide +kernel
theorem dc_R_resend_27 : decode bc_R_resend 27 = .ok (.iaload, 1) := by decide +kernel
theorem dc_R_resend_28 : decode bc_R_resend 28 = .ok (.iconst 2, 1) := by decide +kernel
theorem dc_R_resend_29 : decode bc_R_resend 29 = .ok (.if_icmp .ne 27, 3) := by decide +kernel
theorem dc_R_resend_32 : decode bc_R_resend 32 = .ok (.aload_n 0, 1) := by decide +kernel
theorem dc_R_resend_33 : decode bc_R_resend 33 = .ok (.iload_n 1, 1) := by decide +kernel
theorem dc_R_resend_34 : decode bc_R_resend 34 = .ok (.aload_n 0, 1) := by decide +kernel
theorem dc_R_resend_35 : decode bc_R_resend 35 = .ok (.getfield 47, 3) := by decide +kernel
theorem dc_R_resend_38 : decode bc_R_resend 38 = .ok (.iload_n 3, 1) := by decide +kernel
theorem dc_R_resend_39 : decode bc_R_resend 39 = .ok (.iaload, 1) := by decide +kernel
theorem dc_R_resend_40 : decode bc_R_resend 40 = .ok (.invokevirtual 129, 3) := by decide +kernel
theorem dc_R_resend_43 : decode bc_R_resend 43 = .ok (.ifCond .eq 13, 3) := by decide +kernel
theorem dc_R_resend_46 : decode bc_R_resend 46 = .ok (.aload_n 0, 1) := by decide +kernel
theorem dc_R_resend_47 : decode bc_R_resend 47 = .ok (.getfield 44, 3) := by decide +kernel
theorem dc_R_resend_50 : decode bc_R_resend 50 = .ok (.iload_n 3, 1) := by decide +kernel
theorem dc_R_resend_51 : decode bc_R_resend 51 = .ok (.iconst 0, 1) := by decide +kernel
theorem dc_R_resend_52 : decode bc_R_resend 52 = .ok (.iastore, 1) := by decide +kernel
theorem dc_R_resend_53 : decode bc_R_resend 53 = .ok (.iinc 2 1, 3) := by decide +kernel
theorem dc_R_resend_56 : decode bc_R_resend 56 = .ok (.iinc 3 1, 3) := by decide +kernel
theorem dc_R_resend_59 : decode bc_R_resend 59 = .ok (.goto (-45), 3) := by decide +kernel
theorem dc_R_resend_62 : decode bc_R_resend 62 = .ok (.iload_n 2, 1) := by decide +kernel
theorem dc_R_resend_63 : decode bc_R_resend 63 = .ok (.ireturn, 1) := by decide +kernel
theorem dc_R_isUp_0 : decode bc_R_isUp 0 = .ok (.aload_n 0, 1) := by decide +kernel
theorem dc_R_isUp_1 : decode bc_R_isUp 1 = .ok (.iload_n 1, 1) := by decide +kernel
theorem dc_R_isUp_2 : decode bc_R_isUp 2 = .ok (.invokevirtual 96, 3) := by decide +kernel
theorem dc_R_isUp_5 : decode bc_R_isUp 5 = .ok (.ifCond .eq 16, 3) := by decide +kernel
theorem dc_R_isUp_8 : decode bc_R_isUp 8 = .ok (.aload_n 0, 1) := by decide +kernel
theorem dc_R_isUp_9 : decode bc_R_isUp 9 = .ok (.getfield 53, 3) := by decide +kernel
theorem dc_R_isUp_12 : decode bc_R_isUp 12 = .ok (.iload_n 1, 1) := by decide +kernel
theorem dc_R_isUp_13 : decode bc_R_isUp 13 = .ok (.baload, 1) := by decide +kernel
theorem dc_R_isUp_14 : decode bc_R_isUp 14 = .ok (.ifCond .ne 7, 3) := by decide +kernel
theorem dc_R_isUp_17 : decode bc_R_isUp 17 = .ok (.iconst 1, 1) := by decide +kernel
theorem dc_R_isUp_18 : decode bc_R_isUp 18 = .ok (.goto 4, 3) := by decide +kernel
theorem dc_R_isUp_21 : decode bc_R_isUp 21 = .ok (.iconst 0, 1) := by decide +kernel
theorem dc_R_isUp_22 : decode bc_R_isUp 22 = .ok (.ireturn, 1) := by decide +kernel
theorem dc_R_isOn_0 : decode bc_R_isOn 0 = .ok (.iconst 0, 1) := by decide +kernel
theorem dc_R_isOn_1 : decode bc_R_isOn 1 = .ok (.istore_n 3, 1) := by decide +kernel
theorem dc_R_isOn_2 : decode bc_R_isOn 2 = .ok (.iconst 0, 1) := by decide +kernel
theorem dc_R_isOn_3 : decode bc_R_isOn 3 = .ok (.istore 4, 2) := by decide +kernel
theorem dc_R_isOn_5 : decode bc_R_isOn 5 = .ok (.iload 4, 2) := by decide +kernel
theorem dc_R_isOn_7 : decode bc_R_isOn 7 = .ok (.aload_n 0, 1) := by decide +kernel
theorem dc_R_isOn_8 : decode bc_R_isOn 8 = .ok (.getfield 59, 3) := by decide +kernel
theorem dc_R_isOn_11 : decode bc_R_isOn 11 = .ok (.iload_n 1, 1) := by decide +kernel
theorem dc_R_isOn_12 : decode bc_R_isOn 12 = .ok (.iaload, 1) := by decide +kernel
theorem dc_R_isOn_13 : decode bc_R_isOn 13 = .ok (.if_icmp .ge 35, 3) := by decide +kernel
theorem dc_R_isOn_16 : decode bc_R_isOn 16 = .ok (.iload_n 3, 1) := by decide +kernel
theorem dc_R_isOn_17 : decode bc_R_isOn 17 = .ok (.ifCond .ne 19, 3) := by decide +kernel
theorem dc_R_isOn_20 : decode bc_R_isOn 20 = .ok (.aload_n 0, 1) := by decide +kernel
theorem dc_R_isOn_21 : decode bc_R_isOn 21 = .ok (.getfield 56, 3) := by decide +kernel
theorem dc_R_isOn_24 : decode bc_R_isOn 24 = .ok (.bipush 40, 2) := by decide +kernel
theorem dc_R_isOn_26 : decode bc_R_isOn 26 = .ok (.iload_n 1, 1) := by decide +kernel
theorem dc_R_isOn_27 : decode bc_R_isOn 27 = .ok (.imul, 1) := by decide +kernel
theorem dc_R_isOn_28 : decode bc_R_isOn 28 = .ok (.iload 4, 2) := by decide +kernel
theorem dc_R_isOn_30 : decode bc_R_isOn 30 = .ok (.iadd, 1) := by decide +kernel
theorem dc_R_isOn_31 : decode bc_R_isOn 31 = .ok (.iaload, 1) := by decide +kernel
theorem dc_R_isOn_32 : decode bc_R_isOn 32 = .ok (.iload_n 2, 1) := by decide +kernel
theorem dc_R_isOn_33 : decode bc_R_isOn 33 = .ok (.if_icmp .ne 7, 3) := by decide +kernel
theorem dc_R_isOn_36 : decode bc_R_isOn 36 = .ok (.iconst 1, 1) := by decide +kernel
theorem dc_R_isOn_37 : decode bc_R_isOn 37 = .ok (.goto 4, 3) := by decide +kernel
theorem dc_R_isOn_40 : decode bc_R_isOn 40 = .ok (.iconst 0, 1) := by decide +kernel
theorem dc_R_isOn_41 : decode bc_R_isOn 41 = .ok (.istore_n 3, 1) := by decide +kernel
theorem dc_R_isOn_42 : decode bc_R_isOn 42 = .ok (.iinc 4 1, 3) := by decide +kernel
theorem dc_R_isOn_45 : decode bc_R_isOn 45 = .ok (.goto (-40), 3) := by decide +kernel
theorem dc_R_isOn_48 : decode bc_R_isOn 48 = .ok (.iload_n 3, 1) := by decide +kernel
theorem dc_R_isOn_49 : decode bc_R_isOn 49 = .ok (.ireturn, 1) := by decide +kernel
theorem dc_R_flush_0 : decode bc_R_flush 0 = .ok (.aload_n 0, 1) := by decide +kernel
theorem dc_R_flush_1 : decode bc_R_flush 1 = .ok (.iload_n 1, 1) := by decide +kernel
theorem dc_R_flush_2 : decode bc_R_flush 2 = .ok (.invokevirtual 126, 3) := by decide +kernel
theorem dc_R_flush_5 : decode bc_R_flush 5 = .ok (.ifCond .eq 11, 3) := by decide +kernel
theorem dc_R_flush_8 : decode bc_R_flush 8 = .ok (.aload_n 0, 1) := by decide +kernel
theorem dc_R_flush_9 : decode bc_R_flush 9 = .ok (.iload_n 1, 1) := by decide +kernel
theorem dc_R_flush_10 : decode bc_R_flush 10 = .ok (.invokevirtual 123, 3) := by decide +kernel
theorem dc_R_flush_13 : decode bc_R_flush 13 = .ok (.goto 4, 3) := by decide +kernel
theorem dc_R_flush_16 : decode bc_R_flush 16 = .ok (.iconst (-1), 1) := by decide +kernel
theorem dc_R_flush_17 : decode bc_R_flush 17 = .ok (.ireturn, 1) := by decide +kernel
theorem dc_R_checkpoint_0 : decode bc_R_checkpoint 0 = .ok (.aload_n 0, 1) := by decide +kernel
theorem dc_R_checkpoint_1 : decode bc_R_checkpoint 1 = .ok (.iload_n 1, 1) := by decide +kernel
theorem dc_R_checkpoint_2 : decode bc_R_checkpoint 2 = .ok (.invokevirtual 126, 3) := by decide +kernel
theorem dc_R_checkpoint_5 : decode bc_R_checkpoint 5 = .ok (.ifCond .ne 5, 3) := by decide +kernel
theorem dc_R_checkpoint_8 : decode bc_R_checkpoint 8 = .ok (.iconst (-1), 1) := by decide +kernel
theorem dc_R_checkpoint_9 : decode bc_R_checkpoint 9 = .ok (.ireturn, 1) := by decide +kernel
theorem dc_R_checkpoint_10 : decode bc_R_checkpoint 10 = .ok (.aload_n 0, 1) := by decide +kernel
theorem dc_R_checkpoint_11 : decode bc_R_checkpoint 11 = .ok (.iload_n 1, 1) := by decide +kernel
theorem dc_R_checkpoint_12 : decode bc_R_checkpoint 12 = .ok (.invokevirtual 123, 3) := by decide +kernel
theorem dc_R_checkpoint_15 : decode bc_R_checkpoint 15 = .ok (.pop, 1) := by decide +kernel
theorem dc_R_checkpoint_16 : decode bc_R_checkpoint 16 = .ok (.aload_n 0, 1) := by decide +kernel
theorem dc_R_checkpoint_17 : decode bc_R_checkpoint 17 = .ok (.getfield 65, 3) := by decide +kernel
theorem dc_R_checkpoint_20 : decode bc_R_checkpoint 20 = .ok (.iload_n 1, 1) := by decide +kernel
theorem dc_R_checkpoint_21 : decode bc_R_checkpoint 21 = .ok (.iaload, 1) := by decide +kernel
theorem dc_R_checkpoint_22 : decode bc_R_checkpoint 22 = .ok (.aload_n 0, 1) := by decide +kernel
theorem dc_R_checkpoint_23 : decode bc_R_checkpoint 23 = .ok (.getfield 59, 3) := by decide +kernel
theorem dc_R_checkpoint_26 : decode bc_R_checkpoint 26 = .ok (.iload_n 1, 1) := by decide +kernel
theorem dc_R_checkpoint_27 : decode bc_R_checkpoint 27 = .ok (.iaload, 1) := by decide +kernel
theorem dc_R_checkpoint_28 : decode bc_R_checkpoint 28 = .ok (.if_icmp .eq 27, 3) := by decide +kernel
theorem dc_R_checkpoint_31 : decode bc_R_checkpoint 31 = .ok (.aload_n 0, 1) := by decide +kernel
theorem dc_R_checkpoint_32 : decode bc_R_checkpoint 32 = .ok (.getfield 68, 3) := by decide +kernel
theorem dc_R_checkpoint_35 : decode bc_R_checkpoint 35 = .ok (.iload_n 1, 1) := by decide +kernel
theorem dc_R_checkpoint_36 : decode bc_R_checkpoint 36 = .ok (.aload_n 0, 1) := by decide +kernel
theorem dc_R_checkpoint_37 : decode bc_R_checkpoint 37 = .ok (.getfield 65, 3) := by decide +kernel
theorem dc_R_checkpoint_40 : decode bc_R_checkpoint 40 = .ok (.iload_n 1, 1) := by decide +kernel
theorem dc_R_checkpoint_41 : decode bc_R_checkpoint 41 = .ok (.iaload, 1) := by decide +kernel
theorem dc_R_checkpoint_42 : decode bc_R_checkpoint 42 = .ok (.iastore, 1) := by decide +kernel
theorem dc_R_checkpoint_43 : decode bc_R_checkpoint 43 = .ok (.aload_n 0, 1) := by decide +kernel
theorem dc_R_checkpoint_44 : decode bc_R_checkpoint 44 = .ok (.getfield 65, 3) := by decide +kernel
theorem dc_R_checkpoint_47 : decode bc_R_checkpoint 47 = .ok (.iload_n 1, 1) := by decide +kernel
theorem dc_R_checkpoint_48 : decode bc_R_checkpoint 48 = .ok (.aload_n 0, 1) := by decide +kernel
theorem dc_R_checkpoint_49 : decode bc_R_checkpoint 49 = .ok (.getfield 59, 3) := by decide +kernel
theorem dc_R_checkpoint_52 : decode bc_R_checkpoint 52 = .ok (.iload_n 1, 1) := by decide +kernel
theorem dc_R_checkpoint_53 : decode bc_R_checkpoint 53 = .ok (.iaload, 1) := by decide +kernel
theorem dc_R_checkpoint_54 : decode bc_R_checkpoint 54 = .ok (.iastore, 1) := by decide +kernel
theorem dc_R_checkpoint_55 : decode bc_R_checkpoint 55 = .ok (.aload_n 0, 1) := by decide +kernel
theorem dc_R_checkpoint_56 : decode bc_R_checkpoint 56 = .ok (.getfield 59, 3) := by decide +kernel
theorem dc_R_checkpoint_59 : decode bc_R_checkpoint 59 = .ok (.iload_n 1, 1) := by decide +kernel
theorem dc_R_checkpoint_60 : decode bc_R_checkpoint 60 = .ok (.iaload, 1) := by decide +kernel
theorem dc_R_checkpoint_61 : decode bc_R_checkpoint 61 = .ok (.ireturn, 1) := by decide +kernel
