/-- the tables' words that keep over calls -/
def gtbl : List Cond := lw_tbl.filter goodWord
theorem kg_ {w : Cond} (h : w ∈ lw_tbl) (hg : goodWord w = true) : w ∈ gtbl := List.mem_filter.mpr ⟨h, hg⟩
theorem kg_lw {w : Cond} (h : w ∈ gtbl) : w ∈ lw_tbl := (List.mem_filter.mp h).1
theorem kw_0 : (.initialized cn_L : Cond) ∈ gtbl := kg_ (List.mem_append_right _ (List.mem_of_getElem? (i := 0) (by decide +kernel))) rfl
theorem kw_1 : (.initialized cn_O : Cond) ∈ gtbl := kg_ (List.mem_append_right _ (List.mem_of_getElem? (i := 1) (by decide +kernel))) rfl
theorem kw_2 : (.initialized cn_P : Cond) ∈ gtbl := kg_ (List.mem_append_right _ (List.mem_of_getElem? (i := 2) (by decide +kernel))) rfl
theorem kw_3 : (.initialized cn_I : Cond) ∈ gtbl := kg_ (List.mem_append_right _ (List.mem_of_getElem? (i := 3) (by decide +kernel))) rfl
theorem kw_4 : (.initialized cn_M : Cond) ∈ gtbl := kg_ (List.mem_append_right _ (List.mem_of_getElem? (i := 4) (by decide +kernel))) rfl
theorem kw_5 : (.initialized cn_R : Cond) ∈ gtbl := kg_ (List.mem_append_right _ (List.mem_of_getElem? (i := 5) (by decide +kernel))) rfl
theorem kw_6 : (.initialized cn_B : Cond) ∈ gtbl := kg_ (List.mem_append_right _ (List.mem_of_getElem? (i := 6) (by decide +kernel))) rfl
theorem kw_7 : (.classLink cn_L 7 cn_O : Cond) ∈ gtbl := kg_ (List.mem_append_right _ (List.mem_of_getElem? (i := 7) (by decide +kernel))) rfl
theorem kw_8 : (.instantiable cn_O 4 : Cond) ∈ gtbl := kg_ (List.mem_append_right _ (List.mem_of_getElem? (i := 8) (by decide +kernel))) rfl
theorem kw_9 : (.methodLink cn_L 9 mn_O_init : Cond) ∈ gtbl := kg_ (List.mem_append_right _ (List.mem_of_getElem? (i := 9) (by decide +kernel))) rfl
theorem kw_10 : (.instanceMethod mn_O_init : Cond) ∈ gtbl := kg_ (List.mem_append_right _ (List.mem_of_getElem? (i := 10) (by decide +kernel))) rfl
theorem kw_11 : (.code mn_O_init bc_O_init 2 none : Cond) ∈ gtbl := kg_ (List.mem_append_right _ (List.mem_of_getElem? (i := 11) (by decide +kernel))) rfl
theorem kw_12 : (.methodLink cn_O 3 Lib.objectInit : Cond) ∈ gtbl := kg_ (List.mem_append_right _ (List.mem_of_getElem? (i := 12) (by decide +kernel))) rfl
theorem kw_13 : (.instanceMethod Lib.objectInit : Cond) ∈ gtbl := kg_ (List.mem_append_right _ (List.mem_of_getElem? (i := 13) (by decide +kernel))) rfl
theorem kw_14 : (.code Lib.objectInit ⟨#[0xb1]⟩ 1 none : Cond) ∈ gtbl := kg_ (List.mem_append_right _ (List.mem_of_getElem? (i := 14) (by decide +kernel))) rfl
theorem kw_15 : (.classLink cn_O 9 cn_P : Cond) ∈ gtbl := kg_ (List.mem_append_right _ (List.mem_of_getElem? (i := 15) (by decide +kernel))) rfl
theorem kw_16 : (.arrayOver (.object cn_P) : Cond) ∈ lw_tbl := List.mem_append_right _ (List.mem_of_getElem? (i := 16) (by decide +kernel))
theorem kw_17 : (.instantiable cn_P 11 : Cond) ∈ gtbl := kg_ (List.mem_append_right _ (List.mem_of_getElem? (i := 17) (by decide +kernel))) rfl
theorem kw_18 : (.methodLinkNest cn_O 15 mn_P_init cn_O : Cond) ∈ lw_tbl := List.mem_append_right _ (List.mem_of_getElem? (i := 18) (by decide +kernel))
theorem kw_19 : (.instanceMethod mn_P_init : Cond) ∈ gtbl := kg_ (List.mem_append_right _ (List.mem_of_getElem? (i := 19) (by decide +kernel))) rfl
theorem kw_20 : (.code mn_P_init bc_P_init 1 none : Cond) ∈ gtbl := kg_ (List.mem_append_right _ (List.mem_of_getElem? (i := 20) (by decide +kernel))) rfl
theorem kw_21 : (.methodLink cn_P 3 Lib.objectInit : Cond) ∈ gtbl := kg_ (List.mem_append_right _ (List.mem_of_getElem? (i := 21) (by decide +kernel))) rfl
theorem kw_22 : (.fieldLink cn_P 9 cn_P "chain" "[I" : Cond) ∈ gtbl := kg_ (List.mem_append_right _ (List.mem_of_getElem? (i := 22) (by decide +kernel))) rfl
theorem kw_23 : (.fieldLink cn_O 125 cn_P "chain" "[I" : Cond) ∈ gtbl := kg_ (List.mem_append_right _ (List.mem_of_getElem? (i := 23) (by decide +kernel))) rfl
theorem kw_24 : (.fieldLink cn_P 15 cn_P "outputs" "[I" : Cond) ∈ gtbl := kg_ (List.mem_append_right _ (List.mem_of_getElem? (i := 24) (by decide +kernel))) rfl
theorem kw_25 : (.fieldLink cn_O 141 cn_P "outputs" "[I" : Cond) ∈ gtbl := kg_ (List.mem_append_right _ (List.mem_of_getElem? (i := 25) (by decide +kernel))) rfl
theorem kw_26 : (.fieldLink cn_P 18 cn_P "down" "Z" : Cond) ∈ gtbl := kg_ (List.mem_append_right _ (List.mem_of_getElem? (i := 26) (by decide +kernel))) rfl
theorem kw_27 : (.fieldLink cn_O 60 cn_P "down" "Z" : Cond) ∈ gtbl := kg_ (List.mem_append_right _ (List.mem_of_getElem? (i := 27) (by decide +kernel))) rfl
theorem kw_28 : (.fieldLink cn_P 22 cn_P "chainLength" "I" : Cond) ∈ gtbl := kg_ (List.mem_append_right _ (List.mem_of_getElem? (i := 28) (by decide +kernel))) rfl
theorem kw_29 : (.fieldLink cn_O 102 cn_P "chainLength" "I" : Cond) ∈ gtbl := kg_ (List.mem_append_right _ (List.mem_of_getElem? (i := 29) (by decide +kernel))) rfl
theorem kw_30 : (.fieldLink cn_P 26 cn_P "outputCount" "I" : Cond) ∈ gtbl := kg_ (List.mem_append_right _ (List.mem_of_getElem? (i := 30) (by decide +kernel))) rfl
theorem kw_31 : (.fieldLink cn_O 122 cn_P "outputCount" "I" : Cond) ∈ gtbl := kg_ (List.mem_append_right _ (List.mem_of_getElem? (i := 31) (by decide +kernel))) rfl
theorem kw_32 : (.fieldLink cn_P 29 cn_P "learned" "I" : Cond) ∈ gtbl := kg_ (List.mem_append_right _ (List.mem_of_getElem? (i := 32) (by decide +kernel))) rfl
theorem kw_33 : (.fieldLink cn_O 67 cn_P "learned" "I" : Cond) ∈ gtbl := kg_ (List.mem_append_right _ (List.mem_of_getElem? (i := 33) (by decide +kernel))) rfl
theorem kw_34 : (.fieldLink cn_P 32 cn_P "learnedLost" "J" : Cond) ∈ gtbl := kg_ (List.mem_append_right _ (List.mem_of_getElem? (i := 34) (by decide +kernel))) rfl
theorem kw_35 : (.fieldLink cn_O 164 cn_P "learnedLost" "J" : Cond) ∈ gtbl := kg_ (List.mem_append_right _ (List.mem_of_getElem? (i := 35) (by decide +kernel))) rfl
theorem kw_36 : (.fieldLink cn_P 36 cn_P "lostInCrash" "J" : Cond) ∈ gtbl := kg_ (List.mem_append_right _ (List.mem_of_getElem? (i := 36) (by decide +kernel))) rfl
theorem kw_37 : (.fieldLink cn_O 108 cn_P "lostInCrash" "J" : Cond) ∈ gtbl := kg_ (List.mem_append_right _ (List.mem_of_getElem? (i := 37) (by decide +kernel))) rfl
theorem kw_38 : (.fieldLink cn_P 39 cn_P "latestCheckpoint" "I" : Cond) ∈ gtbl := kg_ (List.mem_append_right _ (List.mem_of_getElem? (i := 38) (by decide +kernel))) rfl
theorem kw_39 : (.fieldLink cn_P 42 cn_P "olderCheckpoint" "I" : Cond) ∈ gtbl := kg_ (List.mem_append_right _ (List.mem_of_getElem? (i := 39) (by decide +kernel))) rfl
theorem kw_40 : (.fieldLink cn_P 45 cn_P "replays" "I" : Cond) ∈ gtbl := kg_ (List.mem_append_right _ (List.mem_of_getElem? (i := 40) (by decide +kernel))) rfl
theorem kw_41 : (.fieldLink cn_O 153 cn_P "replays" "I" : Cond) ∈ gtbl := kg_ (List.mem_append_right _ (List.mem_of_getElem? (i := 41) (by decide +kernel))) rfl
theorem kw_65 : (.arrayClass .int : Cond) ∈ gtbl := kg_ (List.mem_append_right _ (List.mem_of_getElem? (i := 65) (by decide +kernel))) rfl
theorem kw_66 : (.classLink cn_O 16 cn_I : Cond) ∈ gtbl := kg_ (List.mem_append_right _ (List.mem_of_getElem? (i := 66) (by decide +kernel))) rfl
theorem kw_67 : (.instantiable cn_I 8 : Cond) ∈ gtbl := kg_ (List.mem_append_right _ (List.mem_of_getElem? (i := 67) (by decide +kernel))) rfl
theorem kw_68 : (.methodLinkNest cn_O 18 mn_I_init cn_O : Cond) ∈ lw_tbl := List.mem_append_right _ (List.mem_of_getElem? (i := 68) (by decide +kernel))
theorem kw_69 : (.instanceMethod mn_I_init : Cond) ∈ gtbl := kg_ (List.mem_append_right _ (List.mem_of_getElem? (i := 69) (by decide +kernel))) rfl
theorem kw_70 : (.code mn_I_init bc_I_init 1 none : Cond) ∈ gtbl := kg_ (List.mem_append_right _ (List.mem_of_getElem? (i := 70) (by decide +kernel))) rfl
theorem kw_71 : (.methodLink cn_I 3 Lib.objectInit : Cond) ∈ gtbl := kg_ (List.mem_append_right _ (List.mem_of_getElem? (i := 71) (by decide +kernel))) rfl
theorem kw_72 : (.fieldLink cn_I 9 cn_I "states" "[I" : Cond) ∈ gtbl := kg_ (List.mem_append_right _ (List.mem_of_getElem? (i := 72) (by decide +kernel))) rfl
theorem kw_73 : (.fieldLink cn_O 134 cn_I "states" "[I" : Cond) ∈ gtbl := kg_ (List.mem_append_right _ (List.mem_of_getElem? (i := 73) (by decide +kernel))) rfl
theorem kw_74 : (.fieldLink cn_I 15 cn_I "receipts" "[I" : Cond) ∈ gtbl := kg_ (List.mem_append_right _ (List.mem_of_getElem? (i := 74) (by decide +kernel))) rfl
theorem kw_75 : (.fieldLink cn_O 194 cn_I "receipts" "[I" : Cond) ∈ gtbl := kg_ (List.mem_append_right _ (List.mem_of_getElem? (i := 75) (by decide +kernel))) rfl
theorem kw_76 : (.fieldLink cn_I 18 cn_I "announcedIn" "[I" : Cond) ∈ gtbl := kg_ (List.mem_append_right _ (List.mem_of_getElem? (i := 76) (by decide +kernel))) rfl
theorem kw_77 : (.fieldLink cn_I 21 cn_I "depends" "[J" : Cond) ∈ gtbl := kg_ (List.mem_append_right _ (List.mem_of_getElem? (i := 77) (by decide +kernel))) rfl
theorem kw_78 : (.fieldLink cn_O 156 cn_I "depends" "[J" : Cond) ∈ gtbl := kg_ (List.mem_append_right _ (List.mem_of_getElem? (i := 78) (by decide +kernel))) rfl
theorem kw_79 : (.fieldLink cn_I 25 cn_I "count" "I" : Cond) ∈ gtbl := kg_ (List.mem_append_right _ (List.mem_of_getElem? (i := 79) (by decide +kernel))) rfl
theorem kw_80 : (.fieldLink cn_O 53 cn_I "count" "I" : Cond) ∈ gtbl := kg_ (List.mem_append_right _ (List.mem_of_getElem? (i := 80) (by decide +kernel))) rfl
theorem kw_81 : (.fieldLink cn_I 29 cn_I "stable" "J" : Cond) ∈ gtbl := kg_ (List.mem_append_right _ (List.mem_of_getElem? (i := 81) (by decide +kernel))) rfl
theorem kw_82 : (.fieldLink cn_O 184 cn_I "stable" "J" : Cond) ∈ gtbl := kg_ (List.mem_append_right _ (List.mem_of_getElem? (i := 82) (by decide +kernel))) rfl
theorem kw_83 : (.fieldLink cn_I 33 cn_I "lost" "J" : Cond) ∈ gtbl := kg_ (List.mem_append_right _ (List.mem_of_getElem? (i := 83) (by decide +kernel))) rfl
theorem kw_84 : (.fieldLink cn_O 197 cn_I "lost" "J" : Cond) ∈ gtbl := kg_ (List.mem_append_right _ (List.mem_of_getElem? (i := 84) (by decide +kernel))) rfl
theorem kw_85 : (.fieldLink cn_I 36 cn_I "released" "J" : Cond) ∈ gtbl := kg_ (List.mem_append_right _ (List.mem_of_getElem? (i := 85) (by decide +kernel))) rfl
theorem kw_86 : (.fieldLink cn_O 131 cn_I "released" "J" : Cond) ∈ gtbl := kg_ (List.mem_append_right _ (List.mem_of_getElem? (i := 86) (by decide +kernel))) rfl
theorem kw_104 : (.arrayClass .long : Cond) ∈ gtbl := kg_ (List.mem_append_right _ (List.mem_of_getElem? (i := 104) (by decide +kernel))) rfl
theorem kw_105 : (.classLink cn_O 23 cn_M : Cond) ∈ gtbl := kg_ (List.mem_append_right _ (List.mem_of_getElem? (i := 105) (by decide +kernel))) rfl
theorem kw_106 : (.instantiable cn_M 7 : Cond) ∈ gtbl := kg_ (List.mem_append_right _ (List.mem_of_getElem? (i := 106) (by decide +kernel))) rfl
theorem kw_107 : (.methodLinkNest cn_O 25 mn_M_init cn_O : Cond) ∈ lw_tbl := List.mem_append_right _ (List.mem_of_getElem? (i := 107) (by decide +kernel))
theorem kw_108 : (.instanceMethod mn_M_init : Cond) ∈ gtbl := kg_ (List.mem_append_right _ (List.mem_of_getElem? (i := 108) (by decide +kernel))) rfl
theorem kw_109 : (.code mn_M_init bc_M_init 1 none : Cond) ∈ gtbl := kg_ (List.mem_append_right _ (List.mem_of_getElem? (i := 109) (by decide +kernel))) rfl
theorem kw_110 : (.methodLink cn_M 3 Lib.objectInit : Cond) ∈ gtbl := kg_ (List.mem_append_right _ (List.mem_of_getElem? (i := 110) (by decide +kernel))) rfl
theorem kw_111 : (.fieldLink cn_M 9 cn_M "values" "[I" : Cond) ∈ gtbl := kg_ (List.mem_append_right _ (List.mem_of_getElem? (i := 111) (by decide +kernel))) rfl
theorem kw_112 : (.fieldLink cn_O 167 cn_M "values" "[I" : Cond) ∈ gtbl := kg_ (List.mem_append_right _ (List.mem_of_getElem? (i := 112) (by decide +kernel))) rfl
theorem kw_113 : (.fieldLink cn_M 15 cn_M "targets" "[I" : Cond) ∈ gtbl := kg_ (List.mem_append_right _ (List.mem_of_getElem? (i := 113) (by decide +kernel))) rfl
theorem kw_114 : (.fieldLink cn_O 56 cn_M "targets" "[I" : Cond) ∈ gtbl := kg_ (List.mem_append_right _ (List.mem_of_getElem? (i := 114) (by decide +kernel))) rfl
theorem kw_115 : (.fieldLink cn_M 18 cn_M "sources" "[I" : Cond) ∈ gtbl := kg_ (List.mem_append_right _ (List.mem_of_getElem? (i := 115) (by decide +kernel))) rfl
theorem kw_116 : (.fieldLink cn_O 81 cn_M "sources" "[I" : Cond) ∈ gtbl := kg_ (List.mem_append_right _ (List.mem_of_getElem? (i := 116) (by decide +kernel))) rfl
theorem kw_117 : (.fieldLink cn_M 21 cn_M "knows" "[I" : Cond) ∈ gtbl := kg_ (List.mem_append_right _ (List.mem_of_getElem? (i := 117) (by decide +kernel))) rfl
theorem kw_118 : (.fieldLink cn_O 64 cn_M "knows" "[I" : Cond) ∈ gtbl := kg_ (List.mem_append_right _ (List.mem_of_getElem? (i := 118) (by decide +kernel))) rfl
theorem kw_119 : (.fieldLink cn_M 24 cn_M "statuses" "[I" : Cond) ∈ gtbl := kg_ (List.mem_append_right _ (List.mem_of_getElem? (i := 119) (by decide +kernel))) rfl
theorem kw_120 : (.fieldLink cn_O 74 cn_M "statuses" "[I" : Cond) ∈ gtbl := kg_ (List.mem_append_right _ (List.mem_of_getElem? (i := 120) (by decide +kernel))) rfl
theorem kw_121 : (.fieldLink cn_M 27 cn_M "count" "I" : Cond) ∈ gtbl := kg_ (List.mem_append_right _ (List.mem_of_getElem? (i := 121) (by decide +kernel))) rfl
theorem kw_122 : (.fieldLink cn_M 31 cn_M "inputs" "I" : Cond) ∈ gtbl := kg_ (List.mem_append_right _ (List.mem_of_getElem? (i := 122) (by decide +kernel))) rfl
theorem kw_123 : (.fieldLink cn_O 43 cn_M "inputs" "I" : Cond) ∈ gtbl := kg_ (List.mem_append_right _ (List.mem_of_getElem? (i := 123) (by decide +kernel))) rfl
theorem kw_139 : (.fieldLink cn_O 11 cn_O "processes" "[LOrphanRuntime$ProcessRecord;" : Cond) ∈ gtbl := kg_ (List.mem_append_right _ (List.mem_of_getElem? (i := 139) (by decide +kernel))) rfl
theorem kw_140 : (.fieldLink cn_O 19 cn_O "intervals" "LOrphanRuntime$IntervalTable;" : Cond) ∈ gtbl := kg_ (List.mem_append_right _ (List.mem_of_getElem? (i := 140) (by decide +kernel))) rfl
theorem kw_141 : (.fieldLink cn_O 26 cn_O "messages" "LOrphanRuntime$MessageTable;" : Cond) ∈ gtbl := kg_ (List.mem_append_right _ (List.mem_of_getElem? (i := 141) (by decide +kernel))) rfl
theorem kw_142 : (.fieldLink cn_O 35 cn_O "announcements" "I" : Cond) ∈ gtbl := kg_ (List.mem_append_right _ (List.mem_of_getElem? (i := 142) (by decide +kernel))) rfl
theorem kw_152 : (.methodLink cn_L 13 mn_O_renew : Cond) ∈ gtbl := kg_ (List.mem_append_right _ (List.mem_of_getElem? (i := 152) (by decide +kernel))) rfl
theorem kw_153 : (.instanceMethod mn_O_renew : Cond) ∈ gtbl := kg_ (List.mem_append_right _ (List.mem_of_getElem? (i := 153) (by decide +kernel))) rfl
theorem kw_154 : (.selects cn_O mn_O_renew mn_O_renew : Cond) ∈ gtbl := kg_ (List.mem_append_right _ (List.mem_of_getElem? (i := 154) (by decide +kernel))) rfl
theorem kw_155 : (.code mn_O_renew bc_O_renew 2 none : Cond) ∈ gtbl := kg_ (List.mem_append_right _ (List.mem_of_getElem? (i := 155) (by decide +kernel))) rfl
theorem kw_156 : (.methodLink cn_O 30 mn_P_clear : Cond) ∈ gtbl := kg_ (List.mem_append_right _ (List.mem_of_getElem? (i := 156) (by decide +kernel))) rfl
theorem kw_157 : (.instanceMethod mn_P_clear : Cond) ∈ gtbl := kg_ (List.mem_append_right _ (List.mem_of_getElem? (i := 157) (by decide +kernel))) rfl
theorem kw_158 : (.selects cn_P mn_P_clear mn_P_clear : Cond) ∈ gtbl := kg_ (List.mem_append_right _ (List.mem_of_getElem? (i := 158) (by decide +kernel))) rfl
theorem kw_159 : (.code mn_P_clear bc_P_clear 1 none : Cond) ∈ gtbl := kg_ (List.mem_append_right _ (List.mem_of_getElem? (i := 159) (by decide +kernel))) rfl
theorem kw_160 : (.methodLink cn_O 33 mn_I_clear : Cond) ∈ gtbl := kg_ (List.mem_append_right _ (List.mem_of_getElem? (i := 160) (by decide +kernel))) rfl
theorem kw_161 : (.instanceMethod mn_I_clear : Cond) ∈ gtbl := kg_ (List.mem_append_right _ (List.mem_of_getElem? (i := 161) (by decide +kernel))) rfl
theorem kw_162 : (.selects cn_I mn_I_clear mn_I_clear : Cond) ∈ gtbl := kg_ (List.mem_append_right _ (List.mem_of_getElem? (i := 162) (by decide +kernel))) rfl
theorem kw_163 : (.code mn_I_clear bc_I_clear 1 none : Cond) ∈ gtbl := kg_ (List.mem_append_right _ (List.mem_of_getElem? (i := 163) (by decide +kernel))) rfl
theorem kw_164 : (.methodLink cn_O 34 mn_M_clear : Cond) ∈ gtbl := kg_ (List.mem_append_right _ (List.mem_of_getElem? (i := 164) (by decide +kernel))) rfl
theorem kw_165 : (.instanceMethod mn_M_clear : Cond) ∈ gtbl := kg_ (List.mem_append_right _ (List.mem_of_getElem? (i := 165) (by decide +kernel))) rfl
theorem kw_166 : (.selects cn_M mn_M_clear mn_M_clear : Cond) ∈ gtbl := kg_ (List.mem_append_right _ (List.mem_of_getElem? (i := 166) (by decide +kernel))) rfl
theorem kw_167 : (.code mn_M_clear bc_M_clear 1 none : Cond) ∈ gtbl := kg_ (List.mem_append_right _ (List.mem_of_getElem? (i := 167) (by decide +kernel))) rfl
theorem kw_168 : (.methodLink cn_L 17 mn_O_input : Cond) ∈ gtbl := kg_ (List.mem_append_right _ (List.mem_of_getElem? (i := 168) (by decide +kernel))) rfl
theorem kw_169 : (.instanceMethod mn_O_input : Cond) ∈ gtbl := kg_ (List.mem_append_right _ (List.mem_of_getElem? (i := 169) (by decide +kernel))) rfl
theorem kw_170 : (.selects cn_O mn_O_input mn_O_input : Cond) ∈ gtbl := kg_ (List.mem_append_right _ (List.mem_of_getElem? (i := 170) (by decide +kernel))) rfl
theorem kw_171 : (.code mn_O_input bc_O_input 3 (some .int) : Cond) ∈ gtbl := kg_ (List.mem_append_right _ (List.mem_of_getElem? (i := 171) (by decide +kernel))) rfl
theorem kw_172 : (.methodLink cn_O 39 mn_O_isProcess : Cond) ∈ gtbl := kg_ (List.mem_append_right _ (List.mem_of_getElem? (i := 172) (by decide +kernel))) rfl
theorem kw_173 : (.static mn_O_isProcess : Cond) ∈ gtbl := kg_ (List.mem_append_right _ (List.mem_of_getElem? (i := 173) (by decide +kernel))) rfl
theorem kw_174 : (.code mn_O_isProcess bc_O_isProcess 1 (some .boolean) : Cond) ∈ gtbl := kg_ (List.mem_append_right _ (List.mem_of_getElem? (i := 174) (by decide +kernel))) rfl
theorem kw_175 : (.methodLink cn_O 46 mn_M_make : Cond) ∈ gtbl := kg_ (List.mem_append_right _ (List.mem_of_getElem? (i := 175) (by decide +kernel))) rfl
theorem kw_176 : (.instanceMethod mn_M_make : Cond) ∈ gtbl := kg_ (List.mem_append_right _ (List.mem_of_getElem? (i := 176) (by decide +kernel))) rfl
theorem kw_177 : (.selects cn_M mn_M_make mn_M_make : Cond) ∈ gtbl := kg_ (List.mem_append_right _ (List.mem_of_getElem? (i := 177) (by decide +kernel))) rfl
theorem kw_178 : (.code mn_M_make bc_M_make 6 (some .int) : Cond) ∈ gtbl := kg_ (List.mem_append_right _ (List.mem_of_getElem? (i := 178) (by decide +kernel))) rfl
theorem kw_179 : (.methodLink cn_L 22 mn_O_deliver : Cond) ∈ gtbl := kg_ (List.mem_append_right _ (List.mem_of_getElem? (i := 179) (by decide +kernel))) rfl
theorem kw_180 : (.instanceMethod mn_O_deliver : Cond) ∈ gtbl := kg_ (List.mem_append_right _ (List.mem_of_getElem? (i := 180) (by decide +kernel))) rfl
theorem kw_181 : (.selects cn_O mn_O_deliver mn_O_deliver : Cond) ∈ gtbl := kg_ (List.mem_append_right _ (List.mem_of_getElem? (i := 181) (by decide +kernel))) rfl
theorem kw_182 : (.code mn_O_deliver bc_O_deliver 4 (some .int) : Cond) ∈ gtbl := kg_ (List.mem_append_right _ (List.mem_of_getElem? (i := 182) (by decide +kernel))) rfl
theorem kw_183 : (.methodLink cn_O 50 mn_M_isWaiting : Cond) ∈ gtbl := kg_ (List.mem_append_right _ (List.mem_of_getElem? (i := 183) (by decide +kernel))) rfl
theorem kw_184 : (.instanceMethod mn_M_isWaiting : Cond) ∈ gtbl := kg_ (List.mem_append_right _ (List.mem_of_getElem? (i := 184) (by decide +kernel))) rfl
theorem kw_185 : (.selects cn_M mn_M_isWaiting mn_M_isWaiting : Cond) ∈ gtbl := kg_ (List.mem_append_right _ (List.mem_of_getElem? (i := 185) (by decide +kernel))) rfl
theorem kw_186 : (.code mn_M_isWaiting bc_M_isWaiting 2 (some .boolean) : Cond) ∈ gtbl := kg_ (List.mem_append_right _ (List.mem_of_getElem? (i := 186) (by decide +kernel))) rfl
theorem kw_187 : (.methodLink cn_M 34 mn_M_isMade : Cond) ∈ gtbl := kg_ (List.mem_append_right _ (List.mem_of_getElem? (i := 187) (by decide +kernel))) rfl
theorem kw_188 : (.instanceMethod mn_M_isMade : Cond) ∈ gtbl := kg_ (List.mem_append_right _ (List.mem_of_getElem? (i := 188) (by decide +kernel))) rfl
theorem kw_189 : (.selects cn_M mn_M_isMade mn_M_isMade : Cond) ∈ gtbl := kg_ (List.mem_append_right _ (List.mem_of_getElem? (i := 189) (by decide +kernel))) rfl
theorem kw_190 : (.code mn_M_isMade bc_M_isMade 2 (some .boolean) : Cond) ∈ gtbl := kg_ (List.mem_append_right _ (List.mem_of_getElem? (i := 190) (by decide +kernel))) rfl
theorem kw_191 : (.methodLink cn_O 70 mn_O_isKnownOrphan : Cond) ∈ gtbl := kg_ (List.mem_append_right _ (List.mem_of_getElem? (i := 191) (by decide +kernel))) rfl
theorem kw_193 : (.instanceMethod mn_O_isKnownOrphan : Cond) ∈ gtbl := kg_ (List.mem_append_right _ (List.mem_of_getElem? (i := 193) (by decide +kernel))) rfl
theorem kw_194 : (.code mn_O_isKnownOrphan bc_O_isKnownOrphan 3 (some .boolean) : Cond) ∈ gtbl := kg_ (List.mem_append_right _ (List.mem_of_getElem? (i := 194) (by decide +kernel))) rfl
theorem kw_195 : (.methodLink cn_O 160 mn_O_dependsAtSource : Cond) ∈ gtbl := kg_ (List.mem_append_right _ (List.mem_of_getElem? (i := 195) (by decide +kernel))) rfl
theorem kw_197 : (.instanceMethod mn_O_dependsAtSource : Cond) ∈ gtbl := kg_ (List.mem_append_right _ (List.mem_of_getElem? (i := 197) (by decide +kernel))) rfl
theorem kw_198 : (.code mn_O_dependsAtSource bc_O_dependsAtSource 3 (some .long) : Cond) ∈ gtbl := kg_ (List.mem_append_right _ (List.mem_of_getElem? (i := 198) (by decide +kernel))) rfl
theorem kw_199 : (.methodLink cn_O 77 mn_O_receive : Cond) ∈ gtbl := kg_ (List.mem_append_right _ (List.mem_of_getElem? (i := 199) (by decide +kernel))) rfl
theorem kw_201 : (.instanceMethod mn_O_receive : Cond) ∈ gtbl := kg_ (List.mem_append_right _ (List.mem_of_getElem? (i := 201) (by decide +kernel))) rfl
theorem kw_202 : (.code mn_O_receive bc_O_receive 6 (some .int) : Cond) ∈ gtbl := kg_ (List.mem_append_right _ (List.mem_of_getElem? (i := 202) (by decide +kernel))) rfl
theorem kw_203 : (.methodLink cn_O 144 mn_O_stateAtEnd : Cond) ∈ gtbl := kg_ (List.mem_append_right _ (List.mem_of_getElem? (i := 203) (by decide +kernel))) rfl
theorem kw_205 : (.instanceMethod mn_O_stateAtEnd : Cond) ∈ gtbl := kg_ (List.mem_append_right _ (List.mem_of_getElem? (i := 205) (by decide +kernel))) rfl
theorem kw_206 : (.code mn_O_stateAtEnd bc_O_stateAtEnd 3 (some .int) : Cond) ∈ gtbl := kg_ (List.mem_append_right _ (List.mem_of_getElem? (i := 206) (by decide +kernel))) rfl
theorem kw_207 : (.methodLink cn_O 170 mn_O_dependsAtEnd : Cond) ∈ gtbl := kg_ (List.mem_append_right _ (List.mem_of_getElem? (i := 207) (by decide +kernel))) rfl
theorem kw_209 : (.instanceMethod mn_O_dependsAtEnd : Cond) ∈ gtbl := kg_ (List.mem_append_right _ (List.mem_of_getElem? (i := 209) (by decide +kernel))) rfl
theorem kw_210 : (.code mn_O_dependsAtEnd bc_O_dependsAtEnd 3 (some .long) : Cond) ∈ gtbl := kg_ (List.mem_append_right _ (List.mem_of_getElem? (i := 210) (by decide +kernel))) rfl
theorem kw_211 : (.methodLink cn_O 174 mn_I_make : Cond) ∈ gtbl := kg_ (List.mem_append_right _ (List.mem_of_getElem? (i := 211) (by decide +kernel))) rfl
theorem kw_212 : (.instanceMethod mn_I_make : Cond) ∈ gtbl := kg_ (List.mem_append_right _ (List.mem_of_getElem? (i := 212) (by decide +kernel))) rfl
theorem kw_213 : (.selects cn_I mn_I_make mn_I_make : Cond) ∈ gtbl := kg_ (List.mem_append_right _ (List.mem_of_getElem? (i := 213) (by decide +kernel))) rfl
theorem kw_214 : (.code mn_I_make bc_I_make 6 (some .int) : Cond) ∈ gtbl := kg_ (List.mem_append_right _ (List.mem_of_getElem? (i := 214) (by decide +kernel))) rfl
theorem kw_215 : (.methodLink cn_O 177 mn_P_append : Cond) ∈ gtbl := kg_ (List.mem_append_right _ (List.mem_of_getElem? (i := 215) (by decide +kernel))) rfl
theorem kw_216 : (.instanceMethod mn_P_append : Cond) ∈ gtbl := kg_ (List.mem_append_right _ (List.mem_of_getElem? (i := 216) (by decide +kernel))) rfl
theorem kw_217 : (.selects cn_P mn_P_append mn_P_append : Cond) ∈ gtbl := kg_ (List.mem_append_right _ (List.mem_of_getElem? (i := 217) (by decide +kernel))) rfl
theorem kw_218 : (.code mn_P_append bc_P_append 2 none : Cond) ∈ gtbl := kg_ (List.mem_append_right _ (List.mem_of_getElem? (i := 218) (by decide +kernel))) rfl
theorem kw_219 : (.methodLink cn_O 180 mn_O_sendFrom : Cond) ∈ gtbl := kg_ (List.mem_append_right _ (List.mem_of_getElem? (i := 219) (by decide +kernel))) rfl
theorem kw_221 : (.instanceMethod mn_O_sendFrom : Cond) ∈ gtbl := kg_ (List.mem_append_right _ (List.mem_of_getElem? (i := 221) (by decide +kernel))) rfl
theorem kw_222 : (.code mn_O_sendFrom bc_O_sendFrom 5 none : Cond) ∈ gtbl := kg_ (List.mem_append_right _ (List.mem_of_getElem? (i := 222) (by decide +kernel))) rfl
theorem kw_223 : (.methodLink cn_O 95 mn_O_makeStable : Cond) ∈ gtbl := kg_ (List.mem_append_right _ (List.mem_of_getElem? (i := 223) (by decide +kernel))) rfl
theorem kw_225 : (.instanceMethod mn_O_makeStable : Cond) ∈ gtbl := kg_ (List.mem_append_right _ (List.mem_of_getElem? (i := 225) (by decide +kernel))) rfl
theorem kw_226 : (.code mn_O_makeStable bc_O_makeStable 4 (some .int) : Cond) ∈ gtbl := kg_ (List.mem_append_right _ (List.mem_of_getElem? (i := 226) (by decide +kernel))) rfl
theorem kw_227 : (.methodLink cn_O 87 mn_P_chainSet : Cond) ∈ gtbl := kg_ (List.mem_append_right _ (List.mem_of_getElem? (i := 227) (by decide +kernel))) rfl
theorem kw_228 : (.instanceMethod mn_P_chainSet : Cond) ∈ gtbl := kg_ (List.mem_append_right _ (List.mem_of_getElem? (i := 228) (by decide +kernel))) rfl
theorem kw_229 : (.selects cn_P mn_P_chainSet mn_P_chainSet : Cond) ∈ gtbl := kg_ (List.mem_append_right _ (List.mem_of_getElem? (i := 229) (by decide +kernel))) rfl
theorem kw_230 : (.code mn_P_chainSet bc_P_chainSet 4 (some .long) : Cond) ∈ gtbl := kg_ (List.mem_append_right _ (List.mem_of_getElem? (i := 230) (by decide +kernel))) rfl
theorem kw_231 : (.constantLong cn_O 187 (-1) : Cond) ∈ gtbl := kg_ (List.mem_append_right _ (List.mem_of_getElem? (i := 231) (by decide +kernel))) rfl
theorem kw_232 : (.methodLink cn_O 189 mn_B_bitCount : Cond) ∈ gtbl := kg_ (List.mem_append_right _ (List.mem_of_getElem? (i := 232) (by decide +kernel))) rfl
theorem kw_233 : (.static mn_B_bitCount : Cond) ∈ gtbl := kg_ (List.mem_append_right _ (List.mem_of_getElem? (i := 233) (by decide +kernel))) rfl
theorem kw_234 : (.code mn_B_bitCount bc_B_bitCount 2 (some .int) : Cond) ∈ gtbl := kg_ (List.mem_append_right _ (List.mem_of_getElem? (i := 234) (by decide +kernel))) rfl
theorem kw_235 : (.constantLong cn_B 314 (6148914691236517205) : Cond) ∈ gtbl := kg_ (List.mem_append_right _ (List.mem_of_getElem? (i := 235) (by decide +kernel))) rfl
theorem kw_236 : (.constantLong cn_B 316 (3689348814741910323) : Cond) ∈ gtbl := kg_ (List.mem_append_right _ (List.mem_of_getElem? (i := 236) (by decide +kernel))) rfl
theorem kw_237 : (.constantLong cn_B 318 (1085102592571150095) : Cond) ∈ gtbl := kg_ (List.mem_append_right _ (List.mem_of_getElem? (i := 237) (by decide +kernel))) rfl
theorem kw_238 : (.methodLink cn_L 27 mn_O_lose : Cond) ∈ gtbl := kg_ (List.mem_append_right _ (List.mem_of_getElem? (i := 238) (by decide +kernel))) rfl
theorem kw_239 : (.instanceMethod mn_O_lose : Cond) ∈ gtbl := kg_ (List.mem_append_right _ (List.mem_of_getElem? (i := 239) (by decide +kernel))) rfl
theorem kw_240 : (.selects cn_O mn_O_lose mn_O_lose : Cond) ∈ gtbl := kg_ (List.mem_append_right _ (List.mem_of_getElem? (i := 240) (by decide +kernel))) rfl
theorem kw_241 : (.code mn_O_lose bc_O_lose 2 (some .boolean) : Cond) ∈ gtbl := kg_ (List.mem_append_right _ (List.mem_of_getElem? (i := 241) (by decide +kernel))) rfl
theorem kw_242 : (.methodLink cn_L 32 mn_O_resend : Cond) ∈ gtbl := kg_ (List.mem_append_right _ (List.mem_of_getElem? (i := 242) (by decide +kernel))) rfl
theorem kw_243 : (.instanceMethod mn_O_resend : Cond) ∈ gtbl := kg_ (List.mem_append_right _ (List.mem_of_getElem? (i := 243) (by decide +kernel))) rfl
theorem kw_244 : (.selects cn_O mn_O_resend mn_O_resend : Cond) ∈ gtbl := kg_ (List.mem_append_right _ (List.mem_of_getElem? (i := 244) (by decide +kernel))) rfl
theorem kw_245 : (.code mn_O_resend bc_O_resend 2 (some .int) : Cond) ∈ gtbl := kg_ (List.mem_append_right _ (List.mem_of_getElem? (i := 245) (by decide +kernel))) rfl
theorem kw_246 : (.methodLink cn_O 84 mn_O_isUp : Cond) ∈ gtbl := kg_ (List.mem_append_right _ (List.mem_of_getElem? (i := 246) (by decide +kernel))) rfl
theorem kw_248 : (.instanceMethod mn_O_isUp : Cond) ∈ gtbl := kg_ (List.mem_append_right _ (List.mem_of_getElem? (i := 248) (by decide +kernel))) rfl
theorem kw_249 : (.code mn_O_isUp bc_O_isUp 2 (some .boolean) : Cond) ∈ gtbl := kg_ (List.mem_append_right _ (List.mem_of_getElem? (i := 249) (by decide +kernel))) rfl
theorem kw_250 : (.methodLink cn_O 91 mn_M_reviveFrom : Cond) ∈ gtbl := kg_ (List.mem_append_right _ (List.mem_of_getElem? (i := 250) (by decide +kernel))) rfl
theorem kw_251 : (.instanceMethod mn_M_reviveFrom : Cond) ∈ gtbl := kg_ (List.mem_append_right _ (List.mem_of_getElem? (i := 251) (by decide +kernel))) rfl
theorem kw_252 : (.selects cn_M mn_M_reviveFrom mn_M_reviveFrom : Cond) ∈ gtbl := kg_ (List.mem_append_right _ (List.mem_of_getElem? (i := 252) (by decide +kernel))) rfl
theorem kw_253 : (.code mn_M_reviveFrom bc_M_reviveFrom 5 (some .int) : Cond) ∈ gtbl := kg_ (List.mem_append_right _ (List.mem_of_getElem? (i := 253) (by decide +kernel))) rfl
theorem kw_254 : (.methodLink cn_L 36 mn_O_flush : Cond) ∈ gtbl := kg_ (List.mem_append_right _ (List.mem_of_getElem? (i := 254) (by decide +kernel))) rfl
theorem kw_255 : (.instanceMethod mn_O_flush : Cond) ∈ gtbl := kg_ (List.mem_append_right _ (List.mem_of_getElem? (i := 255) (by decide +kernel))) rfl
theorem kw_256 : (.selects cn_O mn_O_flush mn_O_flush : Cond) ∈ gtbl := kg_ (List.mem_append_right _ (List.mem_of_getElem? (i := 256) (by decide +kernel))) rfl
theorem kw_257 : (.code mn_O_flush bc_O_flush 2 (some .int) : Cond) ∈ gtbl := kg_ (List.mem_append_right _ (List.mem_of_getElem? (i := 257) (by decide +kernel))) rfl
theorem kw_258 : (.methodLink cn_L 40 mn_O_checkpoint : Cond) ∈ gtbl := kg_ (List.mem_append_right _ (List.mem_of_getElem? (i := 258) (by decide +kernel))) rfl
theorem kw_259 : (.instanceMethod mn_O_checkpoint : Cond) ∈ gtbl := kg_ (List.mem_append_right _ (List.mem_of_getElem? (i := 259) (by decide +kernel))) rfl
theorem kw_260 : (.selects cn_O mn_O_checkpoint mn_O_checkpoint : Cond) ∈ gtbl := kg_ (List.mem_append_right _ (List.mem_of_getElem? (i := 260) (by decide +kernel))) rfl
theorem kw_261 : (.code mn_O_checkpoint bc_O_checkpoint 3 (some .int) : Cond) ∈ gtbl := kg_ (List.mem_append_right _ (List.mem_of_getElem? (i := 261) (by decide +kernel))) rfl
theorem kw_262 : (.methodLink cn_O 99 mn_P_keepCheckpoint : Cond) ∈ gtbl := kg_ (List.mem_append_right _ (List.mem_of_getElem? (i := 262) (by decide +kernel))) rfl
theorem kw_263 : (.instanceMethod mn_P_keepCheckpoint : Cond) ∈ gtbl := kg_ (List.mem_append_right _ (List.mem_of_getElem? (i := 263) (by decide +kernel))) rfl
theorem kw_264 : (.selects cn_P mn_P_keepCheckpoint mn_P_keepCheckpoint : Cond) ∈ gtbl := kg_ (List.mem_append_right _ (List.mem_of_getElem? (i := 264) (by decide +kernel))) rfl
theorem kw_265 : (.code mn_P_keepCheckpoint bc_P_keepCheckpoint 1 none : Cond) ∈ gtbl := kg_ (List.mem_append_right _ (List.mem_of_getElem? (i := 265) (by decide +kernel))) rfl
theorem kw_266 : (.methodLink cn_L 44 mn_O_crash : Cond) ∈ gtbl := kg_ (List.mem_append_right _ (List.mem_of_getElem? (i := 266) (by decide +kernel))) rfl
theorem kw_267 : (.instanceMethod mn_O_crash : Cond) ∈ gtbl := kg_ (List.mem_append_right _ (List.mem_of_getElem? (i := 267) (by decide +kernel))) rfl
theorem kw_268 : (.selects cn_O mn_O_crash mn_O_crash : Cond) ∈ gtbl := kg_ (List.mem_append_right _ (List.mem_of_getElem? (i := 268) (by decide +kernel))) rfl
theorem kw_269 : (.code mn_O_crash bc_O_crash 3 (some .int) : Cond) ∈ gtbl := kg_ (List.mem_append_right _ (List.mem_of_getElem? (i := 269) (by decide +kernel))) rfl
theorem kw_270 : (.methodLink cn_O 105 mn_O_loseUnstable : Cond) ∈ gtbl := kg_ (List.mem_append_right _ (List.mem_of_getElem? (i := 270) (by decide +kernel))) rfl
theorem kw_272 : (.instanceMethod mn_O_loseUnstable : Cond) ∈ gtbl := kg_ (List.mem_append_right _ (List.mem_of_getElem? (i := 272) (by decide +kernel))) rfl
theorem kw_273 : (.code mn_O_loseUnstable bc_O_loseUnstable 6 (some .int) : Cond) ∈ gtbl := kg_ (List.mem_append_right _ (List.mem_of_getElem? (i := 273) (by decide +kernel))) rfl
theorem kw_274 : (.methodLink cn_L 48 mn_O_restart : Cond) ∈ gtbl := kg_ (List.mem_append_right _ (List.mem_of_getElem? (i := 274) (by decide +kernel))) rfl
theorem kw_275 : (.instanceMethod mn_O_restart : Cond) ∈ gtbl := kg_ (List.mem_append_right _ (List.mem_of_getElem? (i := 275) (by decide +kernel))) rfl
theorem kw_276 : (.selects cn_O mn_O_restart mn_O_restart : Cond) ∈ gtbl := kg_ (List.mem_append_right _ (List.mem_of_getElem? (i := 276) (by decide +kernel))) rfl
theorem kw_277 : (.code mn_O_restart bc_O_restart 4 (some .int) : Cond) ∈ gtbl := kg_ (List.mem_append_right _ (List.mem_of_getElem? (i := 277) (by decide +kernel))) rfl
theorem kw_278 : (.methodLink cn_O 112 mn_I_announce : Cond) ∈ gtbl := kg_ (List.mem_append_right _ (List.mem_of_getElem? (i := 278) (by decide +kernel))) rfl
theorem kw_279 : (.instanceMethod mn_I_announce : Cond) ∈ gtbl := kg_ (List.mem_append_right _ (List.mem_of_getElem? (i := 279) (by decide +kernel))) rfl
theorem kw_280 : (.selects cn_I mn_I_announce mn_I_announce : Cond) ∈ gtbl := kg_ (List.mem_append_right _ (List.mem_of_getElem? (i := 280) (by decide +kernel))) rfl
theorem kw_281 : (.code mn_I_announce bc_I_announce 5 none : Cond) ∈ gtbl := kg_ (List.mem_append_right _ (List.mem_of_getElem? (i := 281) (by decide +kernel))) rfl
theorem kw_282 : (.methodLink cn_O 116 mn_O_learnNext : Cond) ∈ gtbl := kg_ (List.mem_append_right _ (List.mem_of_getElem? (i := 282) (by decide +kernel))) rfl
theorem kw_284 : (.instanceMethod mn_O_learnNext : Cond) ∈ gtbl := kg_ (List.mem_append_right _ (List.mem_of_getElem? (i := 284) (by decide +kernel))) rfl
theorem kw_285 : (.code mn_O_learnNext bc_O_learnNext 7 (some .int) : Cond) ∈ gtbl := kg_ (List.mem_append_right _ (List.mem_of_getElem? (i := 285) (by decide +kernel))) rfl
theorem kw_286 : (.methodLink cn_O 200 mn_I_announcedBy : Cond) ∈ gtbl := kg_ (List.mem_append_right _ (List.mem_of_getElem? (i := 286) (by decide +kernel))) rfl
theorem kw_287 : (.instanceMethod mn_I_announcedBy : Cond) ∈ gtbl := kg_ (List.mem_append_right _ (List.mem_of_getElem? (i := 287) (by decide +kernel))) rfl
theorem kw_288 : (.selects cn_I mn_I_announcedBy mn_I_announcedBy : Cond) ∈ gtbl := kg_ (List.mem_append_right _ (List.mem_of_getElem? (i := 288) (by decide +kernel))) rfl
theorem kw_289 : (.code mn_I_announcedBy bc_I_announcedBy 5 (some .long) : Cond) ∈ gtbl := kg_ (List.mem_append_right _ (List.mem_of_getElem? (i := 289) (by decide +kernel))) rfl
theorem kw_290 : (.methodLink cn_O 203 mn_O_firstOnChain : Cond) ∈ gtbl := kg_ (List.mem_append_right _ (List.mem_of_getElem? (i := 290) (by decide +kernel))) rfl
theorem kw_292 : (.instanceMethod mn_O_firstOnChain : Cond) ∈ gtbl := kg_ (List.mem_append_right _ (List.mem_of_getElem? (i := 292) (by decide +kernel))) rfl
theorem kw_293 : (.code mn_O_firstOnChain bc_O_firstOnChain 5 (some .int) : Cond) ∈ gtbl := kg_ (List.mem_append_right _ (List.mem_of_getElem? (i := 293) (by decide +kernel))) rfl
theorem kw_294 : (.methodLink cn_O 207 mn_O_giveBack : Cond) ∈ gtbl := kg_ (List.mem_append_right _ (List.mem_of_getElem? (i := 294) (by decide +kernel))) rfl
theorem kw_296 : (.instanceMethod mn_O_giveBack : Cond) ∈ gtbl := kg_ (List.mem_append_right _ (List.mem_of_getElem? (i := 296) (by decide +kernel))) rfl
theorem kw_297 : (.code mn_O_giveBack bc_O_giveBack 3 none : Cond) ∈ gtbl := kg_ (List.mem_append_right _ (List.mem_of_getElem? (i := 297) (by decide +kernel))) rfl
theorem kw_298 : (.methodLink cn_O 211 mn_P_dropLongCheckpoints : Cond) ∈ gtbl := kg_ (List.mem_append_right _ (List.mem_of_getElem? (i := 298) (by decide +kernel))) rfl
theorem kw_299 : (.instanceMethod mn_P_dropLongCheckpoints : Cond) ∈ gtbl := kg_ (List.mem_append_right _ (List.mem_of_getElem? (i := 299) (by decide +kernel))) rfl
theorem kw_300 : (.selects cn_P mn_P_dropLongCheckpoints mn_P_dropLongCheckpoints : Cond) ∈ gtbl := kg_ (List.mem_append_right _ (List.mem_of_getElem? (i := 300) (by decide +kernel))) rfl
theorem kw_301 : (.code mn_P_dropLongCheckpoints bc_P_dropLongCheckpoints 1 none : Cond) ∈ gtbl := kg_ (List.mem_append_right _ (List.mem_of_getElem? (i := 301) (by decide +kernel))) rfl
theorem kw_302 : (.methodLink cn_O 119 mn_P_countReplay : Cond) ∈ gtbl := kg_ (List.mem_append_right _ (List.mem_of_getElem? (i := 302) (by decide +kernel))) rfl
theorem kw_303 : (.instanceMethod mn_P_countReplay : Cond) ∈ gtbl := kg_ (List.mem_append_right _ (List.mem_of_getElem? (i := 303) (by decide +kernel))) rfl
theorem kw_304 : (.selects cn_P mn_P_countReplay mn_P_countReplay : Cond) ∈ gtbl := kg_ (List.mem_append_right _ (List.mem_of_getElem? (i := 304) (by decide +kernel))) rfl
theorem kw_305 : (.code mn_P_countReplay bc_P_countReplay 1 none : Cond) ∈ gtbl := kg_ (List.mem_append_right _ (List.mem_of_getElem? (i := 305) (by decide +kernel))) rfl
theorem kw_306 : (.methodLink cn_L 52 mn_O_learn : Cond) ∈ gtbl := kg_ (List.mem_append_right _ (List.mem_of_getElem? (i := 306) (by decide +kernel))) rfl
theorem kw_307 : (.instanceMethod mn_O_learn : Cond) ∈ gtbl := kg_ (List.mem_append_right _ (List.mem_of_getElem? (i := 307) (by decide +kernel))) rfl
theorem kw_308 : (.selects cn_O mn_O_learn mn_O_learn : Cond) ∈ gtbl := kg_ (List.mem_append_right _ (List.mem_of_getElem? (i := 308) (by decide +kernel))) rfl
theorem kw_309 : (.code mn_O_learn bc_O_learn 4 (some .int) : Cond) ∈ gtbl := kg_ (List.mem_append_right _ (List.mem_of_getElem? (i := 309) (by decide +kernel))) rfl
theorem kw_310 : (.methodLink cn_L 56 mn_O_release : Cond) ∈ gtbl := kg_ (List.mem_append_right _ (List.mem_of_getElem? (i := 310) (by decide +kernel))) rfl
theorem kw_311 : (.instanceMethod mn_O_release : Cond) ∈ gtbl := kg_ (List.mem_append_right _ (List.mem_of_getElem? (i := 311) (by decide +kernel))) rfl
theorem kw_312 : (.selects cn_O mn_O_release mn_O_release : Cond) ∈ gtbl := kg_ (List.mem_append_right _ (List.mem_of_getElem? (i := 312) (by decide +kernel))) rfl
theorem kw_313 : (.code mn_O_release bc_O_release 6 (some .int) : Cond) ∈ gtbl := kg_ (List.mem_append_right _ (List.mem_of_getElem? (i := 313) (by decide +kernel))) rfl
theorem kw_314 : (.methodLink cn_O 128 mn_I_isReleasable : Cond) ∈ gtbl := kg_ (List.mem_append_right _ (List.mem_of_getElem? (i := 314) (by decide +kernel))) rfl
theorem kw_315 : (.instanceMethod mn_I_isReleasable : Cond) ∈ gtbl := kg_ (List.mem_append_right _ (List.mem_of_getElem? (i := 315) (by decide +kernel))) rfl
theorem kw_316 : (.selects cn_I mn_I_isReleasable mn_I_isReleasable : Cond) ∈ gtbl := kg_ (List.mem_append_right _ (List.mem_of_getElem? (i := 316) (by decide +kernel))) rfl
theorem kw_317 : (.code mn_I_isReleasable bc_I_isReleasable 2 (some .boolean) : Cond) ∈ gtbl := kg_ (List.mem_append_right _ (List.mem_of_getElem? (i := 317) (by decide +kernel))) rfl
theorem kw_318 : (.constantLong cn_I 39 (-1) : Cond) ∈ gtbl := kg_ (List.mem_append_right _ (List.mem_of_getElem? (i := 318) (by decide +kernel))) rfl
theorem kw_319 : (.methodLink cn_O 137 mn_P_addOutput : Cond) ∈ gtbl := kg_ (List.mem_append_right _ (List.mem_of_getElem? (i := 319) (by decide +kernel))) rfl
theorem kw_320 : (.instanceMethod mn_P_addOutput : Cond) ∈ gtbl := kg_ (List.mem_append_right _ (List.mem_of_getElem? (i := 320) (by decide +kernel))) rfl
theorem kw_321 : (.selects cn_P mn_P_addOutput mn_P_addOutput : Cond) ∈ gtbl := kg_ (List.mem_append_right _ (List.mem_of_getElem? (i := 321) (by decide +kernel))) rfl
theorem kw_322 : (.code mn_P_addOutput bc_P_addOutput 2 none : Cond) ∈ gtbl := kg_ (List.mem_append_right _ (List.mem_of_getElem? (i := 322) (by decide +kernel))) rfl
theorem kw_323 : (.methodLink cn_L 60 mn_O_released : Cond) ∈ gtbl := kg_ (List.mem_append_right _ (List.mem_of_getElem? (i := 323) (by decide +kernel))) rfl
theorem kw_324 : (.instanceMethod mn_O_released : Cond) ∈ gtbl := kg_ (List.mem_append_right _ (List.mem_of_getElem? (i := 324) (by decide +kernel))) rfl
theorem kw_325 : (.selects cn_O mn_O_released mn_O_released : Cond) ∈ gtbl := kg_ (List.mem_append_right _ (List.mem_of_getElem? (i := 325) (by decide +kernel))) rfl
theorem kw_326 : (.code mn_O_released bc_O_released 3 (some .int) : Cond) ∈ gtbl := kg_ (List.mem_append_right _ (List.mem_of_getElem? (i := 326) (by decide +kernel))) rfl
theorem kw_327 : (.methodLink cn_L 64 mn_O_outputs : Cond) ∈ gtbl := kg_ (List.mem_append_right _ (List.mem_of_getElem? (i := 327) (by decide +kernel))) rfl
theorem kw_328 : (.instanceMethod mn_O_outputs : Cond) ∈ gtbl := kg_ (List.mem_append_right _ (List.mem_of_getElem? (i := 328) (by decide +kernel))) rfl
theorem kw_329 : (.selects cn_O mn_O_outputs mn_O_outputs : Cond) ∈ gtbl := kg_ (List.mem_append_right _ (List.mem_of_getElem? (i := 329) (by decide +kernel))) rfl
theorem kw_330 : (.code mn_O_outputs bc_O_outputs 2 (some .int) : Cond) ∈ gtbl := kg_ (List.mem_append_right _ (List.mem_of_getElem? (i := 330) (by decide +kernel))) rfl
theorem kw_331 : (.methodLink cn_L 68 mn_O_state : Cond) ∈ gtbl := kg_ (List.mem_append_right _ (List.mem_of_getElem? (i := 331) (by decide +kernel))) rfl
theorem kw_332 : (.instanceMethod mn_O_state : Cond) ∈ gtbl := kg_ (List.mem_append_right _ (List.mem_of_getElem? (i := 332) (by decide +kernel))) rfl
theorem kw_333 : (.selects cn_O mn_O_state mn_O_state : Cond) ∈ gtbl := kg_ (List.mem_append_right _ (List.mem_of_getElem? (i := 333) (by decide +kernel))) rfl
theorem kw_334 : (.code mn_O_state bc_O_state 2 (some .int) : Cond) ∈ gtbl := kg_ (List.mem_append_right _ (List.mem_of_getElem? (i := 334) (by decide +kernel))) rfl
theorem kw_335 : (.methodLink cn_L 72 mn_O_length : Cond) ∈ gtbl := kg_ (List.mem_append_right _ (List.mem_of_getElem? (i := 335) (by decide +kernel))) rfl
theorem kw_336 : (.instanceMethod mn_O_length : Cond) ∈ gtbl := kg_ (List.mem_append_right _ (List.mem_of_getElem? (i := 336) (by decide +kernel))) rfl
theorem kw_337 : (.selects cn_O mn_O_length mn_O_length : Cond) ∈ gtbl := kg_ (List.mem_append_right _ (List.mem_of_getElem? (i := 337) (by decide +kernel))) rfl
theorem kw_338 : (.code mn_O_length bc_O_length 2 (some .int) : Cond) ∈ gtbl := kg_ (List.mem_append_right _ (List.mem_of_getElem? (i := 338) (by decide +kernel))) rfl
theorem kw_339 : (.methodLink cn_L 76 mn_O_known : Cond) ∈ gtbl := kg_ (List.mem_append_right _ (List.mem_of_getElem? (i := 339) (by decide +kernel))) rfl
theorem kw_340 : (.instanceMethod mn_O_known : Cond) ∈ gtbl := kg_ (List.mem_append_right _ (List.mem_of_getElem? (i := 340) (by decide +kernel))) rfl
theorem kw_341 : (.selects cn_O mn_O_known mn_O_known : Cond) ∈ gtbl := kg_ (List.mem_append_right _ (List.mem_of_getElem? (i := 341) (by decide +kernel))) rfl
theorem kw_342 : (.code mn_O_known bc_O_known 2 (some .int) : Cond) ∈ gtbl := kg_ (List.mem_append_right _ (List.mem_of_getElem? (i := 342) (by decide +kernel))) rfl
theorem kw_343 : (.methodLink cn_L 80 mn_O_status : Cond) ∈ gtbl := kg_ (List.mem_append_right _ (List.mem_of_getElem? (i := 343) (by decide +kernel))) rfl
theorem kw_344 : (.instanceMethod mn_O_status : Cond) ∈ gtbl := kg_ (List.mem_append_right _ (List.mem_of_getElem? (i := 344) (by decide +kernel))) rfl
theorem kw_345 : (.selects cn_O mn_O_status mn_O_status : Cond) ∈ gtbl := kg_ (List.mem_append_right _ (List.mem_of_getElem? (i := 345) (by decide +kernel))) rfl
theorem kw_346 : (.code mn_O_status bc_O_status 2 (some .int) : Cond) ∈ gtbl := kg_ (List.mem_append_right _ (List.mem_of_getElem? (i := 346) (by decide +kernel))) rfl
theorem kw_347 : (.methodLink cn_O 147 mn_M_isMade : Cond) ∈ gtbl := kg_ (List.mem_append_right _ (List.mem_of_getElem? (i := 347) (by decide +kernel))) rfl
theorem kw_348 : (.methodLink cn_L 84 mn_O_orphans : Cond) ∈ gtbl := kg_ (List.mem_append_right _ (List.mem_of_getElem? (i := 348) (by decide +kernel))) rfl
theorem kw_349 : (.instanceMethod mn_O_orphans : Cond) ∈ gtbl := kg_ (List.mem_append_right _ (List.mem_of_getElem? (i := 349) (by decide +kernel))) rfl
theorem kw_350 : (.selects cn_O mn_O_orphans mn_O_orphans : Cond) ∈ gtbl := kg_ (List.mem_append_right _ (List.mem_of_getElem? (i := 350) (by decide +kernel))) rfl
theorem kw_351 : (.code mn_O_orphans bc_O_orphans 3 (some .int) : Cond) ∈ gtbl := kg_ (List.mem_append_right _ (List.mem_of_getElem? (i := 351) (by decide +kernel))) rfl
theorem kw_352 : (.methodLink cn_O 150 mn_O_orphansOn : Cond) ∈ gtbl := kg_ (List.mem_append_right _ (List.mem_of_getElem? (i := 352) (by decide +kernel))) rfl
theorem kw_354 : (.instanceMethod mn_O_orphansOn : Cond) ∈ gtbl := kg_ (List.mem_append_right _ (List.mem_of_getElem? (i := 354) (by decide +kernel))) rfl
theorem kw_355 : (.code mn_O_orphansOn bc_O_orphansOn 2 (some .int) : Cond) ∈ gtbl := kg_ (List.mem_append_right _ (List.mem_of_getElem? (i := 355) (by decide +kernel))) rfl
theorem kw_356 : (.methodLink cn_L 89 mn_O_replayed : Cond) ∈ gtbl := kg_ (List.mem_append_right _ (List.mem_of_getElem? (i := 356) (by decide +kernel))) rfl
theorem kw_357 : (.instanceMethod mn_O_replayed : Cond) ∈ gtbl := kg_ (List.mem_append_right _ (List.mem_of_getElem? (i := 357) (by decide +kernel))) rfl
theorem kw_358 : (.selects cn_O mn_O_replayed mn_O_replayed : Cond) ∈ gtbl := kg_ (List.mem_append_right _ (List.mem_of_getElem? (i := 358) (by decide +kernel))) rfl
theorem kw_359 : (.code mn_O_replayed bc_O_replayed 2 (some .int) : Cond) ∈ gtbl := kg_ (List.mem_append_right _ (List.mem_of_getElem? (i := 359) (by decide +kernel))) rfl
theorem kw_360 : (.classLink cn_L 10 cn_R : Cond) ∈ gtbl := kg_ (List.mem_append_right _ (List.mem_of_getElem? (i := 360) (by decide +kernel))) rfl
theorem kw_361 : (.instantiable cn_R 27 : Cond) ∈ gtbl := kg_ (List.mem_append_right _ (List.mem_of_getElem? (i := 361) (by decide +kernel))) rfl
theorem kw_362 : (.methodLink cn_L 12 mn_R_init : Cond) ∈ gtbl := kg_ (List.mem_append_right _ (List.mem_of_getElem? (i := 362) (by decide +kernel))) rfl
theorem kw_363 : (.instanceMethod mn_R_init : Cond) ∈ gtbl := kg_ (List.mem_append_right _ (List.mem_of_getElem? (i := 363) (by decide +kernel))) rfl
theorem kw_364 : (.code mn_R_init bc_R_init 1 none : Cond) ∈ gtbl := kg_ (List.mem_append_right _ (List.mem_of_getElem? (i := 364) (by decide +kernel))) rfl
theorem kw_365 : (.methodLink cn_R 1 Lib.objectInit : Cond) ∈ gtbl := kg_ (List.mem_append_right _ (List.mem_of_getElem? (i := 365) (by decide +kernel))) rfl
theorem kw_366 : (.methodLink cn_R 80 mn_R_renew : Cond) ∈ gtbl := kg_ (List.mem_append_right _ (List.mem_of_getElem? (i := 366) (by decide +kernel))) rfl
theorem kw_367 : (.instanceMethod mn_R_renew : Cond) ∈ gtbl := kg_ (List.mem_append_right _ (List.mem_of_getElem? (i := 367) (by decide +kernel))) rfl
theorem kw_368 : (.selects cn_R mn_R_renew mn_R_renew : Cond) ∈ gtbl := kg_ (List.mem_append_right _ (List.mem_of_getElem? (i := 368) (by decide +kernel))) rfl
theorem kw_369 : (.code mn_R_renew bc_R_renew 2 none : Cond) ∈ gtbl := kg_ (List.mem_append_right _ (List.mem_of_getElem? (i := 369) (by decide +kernel))) rfl
theorem kw_370 : (.fieldLink cn_R 83 cn_R "intervals" "I" : Cond) ∈ gtbl := kg_ (List.mem_append_right _ (List.mem_of_getElem? (i := 370) (by decide +kernel))) rfl
theorem kw_371 : (.fieldLink cn_R 7 cn_R "before" "[I" : Cond) ∈ gtbl := kg_ (List.mem_append_right _ (List.mem_of_getElem? (i := 371) (by decide +kernel))) rfl
theorem kw_372 : (.fieldLink cn_R 13 cn_R "received" "[I" : Cond) ∈ gtbl := kg_ (List.mem_append_right _ (List.mem_of_getElem? (i := 372) (by decide +kernel))) rfl
theorem kw_373 : (.fieldLink cn_R 16 cn_R "value" "[I" : Cond) ∈ gtbl := kg_ (List.mem_append_right _ (List.mem_of_getElem? (i := 373) (by decide +kernel))) rfl
theorem kw_374 : (.fieldLink cn_R 19 cn_R "stable" "[Z" : Cond) ∈ gtbl := kg_ (List.mem_append_right _ (List.mem_of_getElem? (i := 374) (by decide +kernel))) rfl
theorem kw_375 : (.fieldLink cn_R 23 cn_R "lost" "[Z" : Cond) ∈ gtbl := kg_ (List.mem_append_right _ (List.mem_of_getElem? (i := 375) (by decide +kernel))) rfl
theorem kw_376 : (.fieldLink cn_R 26 cn_R "fresh" "[I" : Cond) ∈ gtbl := kg_ (List.mem_append_right _ (List.mem_of_getElem? (i := 376) (by decide +kernel))) rfl
theorem kw_377 : (.fieldLink cn_R 29 cn_R "about" "[I" : Cond) ∈ gtbl := kg_ (List.mem_append_right _ (List.mem_of_getElem? (i := 377) (by decide +kernel))) rfl
theorem kw_378 : (.fieldLink cn_R 32 cn_R "out" "[Z" : Cond) ∈ gtbl := kg_ (List.mem_append_right _ (List.mem_of_getElem? (i := 378) (by decide +kernel))) rfl
theorem kw_379 : (.fieldLink cn_R 35 cn_R "mark" "[Z" : Cond) ∈ gtbl := kg_ (List.mem_append_right _ (List.mem_of_getElem? (i := 379) (by decide +kernel))) rfl
theorem kw_380 : (.fieldLink cn_R 87 cn_R "messages" "I" : Cond) ∈ gtbl := kg_ (List.mem_append_right _ (List.mem_of_getElem? (i := 380) (by decide +kernel))) rfl
theorem kw_381 : (.fieldLink cn_R 90 cn_R "inputs" "I" : Cond) ∈ gtbl := kg_ (List.mem_append_right _ (List.mem_of_getElem? (i := 381) (by decide +kernel))) rfl
theorem kw_382 : (.fieldLink cn_R 38 cn_R "amount" "[I" : Cond) ∈ gtbl := kg_ (List.mem_append_right _ (List.mem_of_getElem? (i := 382) (by decide +kernel))) rfl
theorem kw_383 : (.fieldLink cn_R 41 cn_R "target" "[I" : Cond) ∈ gtbl := kg_ (List.mem_append_right _ (List.mem_of_getElem? (i := 383) (by decide +kernel))) rfl
theorem kw_384 : (.fieldLink cn_R 44 cn_R "status" "[I" : Cond) ∈ gtbl := kg_ (List.mem_append_right _ (List.mem_of_getElem? (i := 384) (by decide +kernel))) rfl
theorem kw_385 : (.fieldLink cn_R 47 cn_R "source" "[I" : Cond) ∈ gtbl := kg_ (List.mem_append_right _ (List.mem_of_getElem? (i := 385) (by decide +kernel))) rfl
theorem kw_386 : (.fieldLink cn_R 50 cn_R "knows" "[I" : Cond) ∈ gtbl := kg_ (List.mem_append_right _ (List.mem_of_getElem? (i := 386) (by decide +kernel))) rfl
theorem kw_387 : (.fieldLink cn_R 93 cn_R "announced" "I" : Cond) ∈ gtbl := kg_ (List.mem_append_right _ (List.mem_of_getElem? (i := 387) (by decide +kernel))) rfl
theorem kw_388 : (.fieldLink cn_R 53 cn_R "down" "[Z" : Cond) ∈ gtbl := kg_ (List.mem_append_right _ (List.mem_of_getElem? (i := 388) (by decide +kernel))) rfl
theorem kw_389 : (.fieldLink cn_R 56 cn_R "chain" "[I" : Cond) ∈ gtbl := kg_ (List.mem_append_right _ (List.mem_of_getElem? (i := 389) (by decide +kernel))) rfl
theorem kw_390 : (.fieldLink cn_R 59 cn_R "length" "[I" : Cond) ∈ gtbl := kg_ (List.mem_append_right _ (List.mem_of_getElem? (i := 390) (by decide +kernel))) rfl
theorem kw_391 : (.fieldLink cn_R 62 cn_R "learned" "[I" : Cond) ∈ gtbl := kg_ (List.mem_append_right _ (List.mem_of_getElem? (i := 391) (by decide +kernel))) rfl
theorem kw_392 : (.fieldLink cn_R 65 cn_R "latest" "[I" : Cond) ∈ gtbl := kg_ (List.mem_append_right _ (List.mem_of_getElem? (i := 392) (by decide +kernel))) rfl
theorem kw_393 : (.fieldLink cn_R 68 cn_R "second" "[I" : Cond) ∈ gtbl := kg_ (List.mem_append_right _ (List.mem_of_getElem? (i := 393) (by decide +kernel))) rfl
theorem kw_394 : (.fieldLink cn_R 71 cn_R "played" "[I" : Cond) ∈ gtbl := kg_ (List.mem_append_right _ (List.mem_of_getElem? (i := 394) (by decide +kernel))) rfl
theorem kw_395 : (.fieldLink cn_R 74 cn_R "shown" "[I" : Cond) ∈ gtbl := kg_ (List.mem_append_right _ (List.mem_of_getElem? (i := 395) (by decide +kernel))) rfl
theorem kw_396 : (.fieldLink cn_R 77 cn_R "shownCount" "[I" : Cond) ∈ gtbl := kg_ (List.mem_append_right _ (List.mem_of_getElem? (i := 396) (by decide +kernel))) rfl
theorem kw_452 : (.arrayClass .boolean : Cond) ∈ gtbl := kg_ (List.mem_append_right _ (List.mem_of_getElem? (i := 452) (by decide +kernel))) rfl
theorem kw_453 : (.methodLink cn_L 16 mn_R_renew : Cond) ∈ gtbl := kg_ (List.mem_append_right _ (List.mem_of_getElem? (i := 453) (by decide +kernel))) rfl
theorem kw_454 : (.methodLink cn_L 21 mn_R_input : Cond) ∈ gtbl := kg_ (List.mem_append_right _ (List.mem_of_getElem? (i := 454) (by decide +kernel))) rfl
theorem kw_455 : (.instanceMethod mn_R_input : Cond) ∈ gtbl := kg_ (List.mem_append_right _ (List.mem_of_getElem? (i := 455) (by decide +kernel))) rfl
theorem kw_456 : (.selects cn_R mn_R_input mn_R_input : Cond) ∈ gtbl := kg_ (List.mem_append_right _ (List.mem_of_getElem? (i := 456) (by decide +kernel))) rfl
theorem kw_457 : (.code mn_R_input bc_R_input 3 (some .int) : Cond) ∈ gtbl := kg_ (List.mem_append_right _ (List.mem_of_getElem? (i := 457) (by decide +kernel))) rfl
theorem kw_458 : (.methodLink cn_R 96 mn_R_isProcess : Cond) ∈ gtbl := kg_ (List.mem_append_right _ (List.mem_of_getElem? (i := 458) (by decide +kernel))) rfl
theorem kw_460 : (.instanceMethod mn_R_isProcess : Cond) ∈ gtbl := kg_ (List.mem_append_right _ (List.mem_of_getElem? (i := 460) (by decide +kernel))) rfl
theorem kw_461 : (.code mn_R_isProcess bc_R_isProcess 2 (some .boolean) : Cond) ∈ gtbl := kg_ (List.mem_append_right _ (List.mem_of_getElem? (i := 461) (by decide +kernel))) rfl
theorem kw_462 : (.methodLink cn_R 104 mn_R_send : Cond) ∈ gtbl := kg_ (List.mem_append_right _ (List.mem_of_getElem? (i := 462) (by decide +kernel))) rfl
theorem kw_464 : (.instanceMethod mn_R_send : Cond) ∈ gtbl := kg_ (List.mem_append_right _ (List.mem_of_getElem? (i := 464) (by decide +kernel))) rfl
theorem kw_465 : (.code mn_R_send bc_R_send 5 (some .int) : Cond) ∈ gtbl := kg_ (List.mem_append_right _ (List.mem_of_getElem? (i := 465) (by decide +kernel))) rfl
theorem kw_466 : (.methodLink cn_L 26 mn_R_deliver : Cond) ∈ gtbl := kg_ (List.mem_append_right _ (List.mem_of_getElem? (i := 466) (by decide +kernel))) rfl
theorem kw_467 : (.instanceMethod mn_R_deliver : Cond) ∈ gtbl := kg_ (List.mem_append_right _ (List.mem_of_getElem? (i := 467) (by decide +kernel))) rfl
theorem kw_468 : (.selects cn_R mn_R_deliver mn_R_deliver : Cond) ∈ gtbl := kg_ (List.mem_append_right _ (List.mem_of_getElem? (i := 468) (by decide +kernel))) rfl
theorem kw_469 : (.code mn_R_deliver bc_R_deliver 3 (some .int) : Cond) ∈ gtbl := kg_ (List.mem_append_right _ (List.mem_of_getElem? (i := 469) (by decide +kernel))) rfl
theorem kw_470 : (.methodLink cn_R 108 mn_R_isMessage : Cond) ∈ gtbl := kg_ (List.mem_append_right _ (List.mem_of_getElem? (i := 470) (by decide +kernel))) rfl
theorem kw_472 : (.instanceMethod mn_R_isMessage : Cond) ∈ gtbl := kg_ (List.mem_append_right _ (List.mem_of_getElem? (i := 472) (by decide +kernel))) rfl
theorem kw_473 : (.code mn_R_isMessage bc_R_isMessage 2 (some .boolean) : Cond) ∈ gtbl := kg_ (List.mem_append_right _ (List.mem_of_getElem? (i := 473) (by decide +kernel))) rfl
theorem kw_474 : (.methodLink cn_R 111 mn_R_isHit : Cond) ∈ gtbl := kg_ (List.mem_append_right _ (List.mem_of_getElem? (i := 474) (by decide +kernel))) rfl
theorem kw_476 : (.instanceMethod mn_R_isHit : Cond) ∈ gtbl := kg_ (List.mem_append_right _ (List.mem_of_getElem? (i := 476) (by decide +kernel))) rfl
theorem kw_477 : (.code mn_R_isHit bc_R_isHit 6 (some .boolean) : Cond) ∈ gtbl := kg_ (List.mem_append_right _ (List.mem_of_getElem? (i := 477) (by decide +kernel))) rfl
theorem kw_478 : (.methodLink cn_R 100 mn_R_trace : Cond) ∈ gtbl := kg_ (List.mem_append_right _ (List.mem_of_getElem? (i := 478) (by decide +kernel))) rfl
theorem kw_480 : (.instanceMethod mn_R_trace : Cond) ∈ gtbl := kg_ (List.mem_append_right _ (List.mem_of_getElem? (i := 480) (by decide +kernel))) rfl
theorem kw_481 : (.code mn_R_trace bc_R_trace 4 none : Cond) ∈ gtbl := kg_ (List.mem_append_right _ (List.mem_of_getElem? (i := 481) (by decide +kernel))) rfl
theorem kw_482 : (.methodLink cn_R 115 mn_R_receive : Cond) ∈ gtbl := kg_ (List.mem_append_right _ (List.mem_of_getElem? (i := 482) (by decide +kernel))) rfl
theorem kw_484 : (.instanceMethod mn_R_receive : Cond) ∈ gtbl := kg_ (List.mem_append_right _ (List.mem_of_getElem? (i := 484) (by decide +kernel))) rfl
theorem kw_485 : (.code mn_R_receive bc_R_receive 5 none : Cond) ∈ gtbl := kg_ (List.mem_append_right _ (List.mem_of_getElem? (i := 485) (by decide +kernel))) rfl
theorem kw_486 : (.methodLink cn_R 119 mn_R_stateOf : Cond) ∈ gtbl := kg_ (List.mem_append_right _ (List.mem_of_getElem? (i := 486) (by decide +kernel))) rfl
theorem kw_488 : (.instanceMethod mn_R_stateOf : Cond) ∈ gtbl := kg_ (List.mem_append_right _ (List.mem_of_getElem? (i := 488) (by decide +kernel))) rfl
theorem kw_489 : (.code mn_R_stateOf bc_R_stateOf 2 (some .int) : Cond) ∈ gtbl := kg_ (List.mem_append_right _ (List.mem_of_getElem? (i := 489) (by decide +kernel))) rfl
theorem kw_490 : (.methodLink cn_R 123 mn_R_settle : Cond) ∈ gtbl := kg_ (List.mem_append_right _ (List.mem_of_getElem? (i := 490) (by decide +kernel))) rfl
theorem kw_492 : (.instanceMethod mn_R_settle : Cond) ∈ gtbl := kg_ (List.mem_append_right _ (List.mem_of_getElem? (i := 492) (by decide +kernel))) rfl
theorem kw_493 : (.code mn_R_settle bc_R_settle 5 (some .int) : Cond) ∈ gtbl := kg_ (List.mem_append_right _ (List.mem_of_getElem? (i := 493) (by decide +kernel))) rfl
theorem kw_494 : (.methodLink cn_L 31 mn_R_lose : Cond) ∈ gtbl := kg_ (List.mem_append_right _ (List.mem_of_getElem? (i := 494) (by decide +kernel))) rfl
theorem kw_495 : (.instanceMethod mn_R_lose : Cond) ∈ gtbl := kg_ (List.mem_append_right _ (List.mem_of_getElem? (i := 495) (by decide +kernel))) rfl
theorem kw_496 : (.selects cn_R mn_R_lose mn_R_lose : Cond) ∈ gtbl := kg_ (List.mem_append_right _ (List.mem_of_getElem? (i := 496) (by decide +kernel))) rfl
theorem kw_497 : (.code mn_R_lose bc_R_lose 2 (some .boolean) : Cond) ∈ gtbl := kg_ (List.mem_append_right _ (List.mem_of_getElem? (i := 497) (by decide +kernel))) rfl
theorem kw_498 : (.methodLink cn_L 35 mn_R_resend : Cond) ∈ gtbl := kg_ (List.mem_append_right _ (List.mem_of_getElem? (i := 498) (by decide +kernel))) rfl
theorem kw_499 : (.instanceMethod mn_R_resend : Cond) ∈ gtbl := kg_ (List.mem_append_right _ (List.mem_of_getElem? (i := 499) (by decide +kernel))) rfl
theorem kw_500 : (.selects cn_R mn_R_resend mn_R_resend : Cond) ∈ gtbl := kg_ (List.mem_append_right _ (List.mem_of_getElem? (i := 500) (by decide +kernel))) rfl
theorem kw_501 : (.code mn_R_resend bc_R_resend 4 (some .int) : Cond) ∈ gtbl := kg_ (List.mem_append_right _ (List.mem_of_getElem? (i := 501) (by decide +kernel))) rfl
theorem kw_502 : (.methodLink cn_R 126 mn_R_isUp : Cond) ∈ gtbl := kg_ (List.mem_append_right _ (List.mem_of_getElem? (i := 502) (by decide +kernel))) rfl
theorem kw_504 : (.instanceMethod mn_R_isUp : Cond) ∈ gtbl := kg_ (List.mem_append_right _ (List.mem_of_getElem? (i := 504) (by decide +kernel))) rfl
theorem kw_505 : (.code mn_R_isUp bc_R_isUp 2 (some .boolean) : Cond) ∈ gtbl := kg_ (List.mem_append_right _ (List.mem_of_getElem? (i := 505) (by decide +kernel))) rfl
theorem kw_506 : (.methodLink cn_R 129 mn_R_isOn : Cond) ∈ gtbl := kg_ (List.mem_append_right _ (List.mem_of_getElem? (i := 506) (by decide +kernel))) rfl
theorem kw_508 : (.instanceMethod mn_R_isOn : Cond) ∈ gtbl := kg_ (List.mem_append_right _ (List.mem_of_getElem? (i := 508) (by decide +kernel))) rfl
theorem kw_509 : (.code mn_R_isOn bc_R_isOn 5 (some .boolean) : Cond) ∈ gtbl := kg_ (List.mem_append_right _ (List.mem_of_getElem? (i := 509) (by decide +kernel))) rfl
theorem kw_510 : (.methodLink cn_L 39 mn_R_flush : Cond) ∈ gtbl := kg_ (List.mem_append_right _ (List.mem_of_getElem? (i := 510) (by decide +kernel))) rfl
theorem kw_511 : (.instanceMethod mn_R_flush : Cond) ∈ gtbl := kg_ (List.mem_append_right _ (List.mem_of_getElem? (i := 511) (by decide +kernel))) rfl
theorem kw_512 : (.selects cn_R mn_R_flush mn_R_flush : Cond) ∈ gtbl := kg_ (List.mem_append_right _ (List.mem_of_getElem? (i := 512) (by decide +kernel))) rfl
theorem kw_513 : (.code mn_R_flush bc_R_flush 2 (some .int) : Cond) ∈ gtbl := kg_ (List.mem_append_right _ (List.mem_of_getElem? (i := 513) (by decide +kernel))) rfl
theorem kw_514 : (.methodLink cn_L 43 mn_R_checkpoint : Cond) ∈ gtbl := kg_ (List.mem_append_right _ (List.mem_of_getElem? (i := 514) (by decide +kernel))) rfl
theorem kw_515 : (.instanceMethod mn_R_checkpoint : Cond) ∈ gtbl := kg_ (List.mem_append_right _ (List.mem_of_getElem? (i := 515) (by decide +kernel))) rfl
theorem kw_516 : (.selects cn_R mn_R_checkpoint mn_R_checkpoint : Cond) ∈ gtbl := kg_ (List.mem_append_right _ (List.mem_of_getElem? (i := 516) (by decide +kernel))) rfl
theorem kw_517 : (.code mn_R_checkpoint bc_R_checkpoint 2 (some .int) : Cond) ∈ gtbl := kg_ (List.mem_append_right _ (List.mem_of_getElem? (i := 517) (by decide +kernel))) rfl
theorem kw_518 : (.methodLink cn_L 47 mn_R_crash : Cond) ∈ gtbl := kg_ (List.mem_append_right _ (List.mem_of_getElem? (i := 518) (by decide +kernel))) rfl
theorem kw_519 : (.instanceMethod mn_R_crash : Cond) ∈ gtbl := kg_ (List.mem_append_right _ (List.mem_of_getElem? (i := 519) (by decide +kernel))) rfl
theorem kw_520 : (.selects cn_R mn_R_crash mn_R_crash : Cond) ∈ gtbl := kg_ (List.mem_append_right _ (List.mem_of_getElem? (i := 520) (by decide +kernel))) rfl
theorem kw_521 : (.code mn_R_crash bc_R_crash 5 (some .int) : Cond) ∈ gtbl := kg_ (List.mem_append_right _ (List.mem_of_getElem? (i := 521) (by decide +kernel))) rfl
theorem kw_522 : (.methodLink cn_L 51 mn_R_restart : Cond) ∈ gtbl := kg_ (List.mem_append_right _ (List.mem_of_getElem? (i := 522) (by decide +kernel))) rfl
theorem kw_523 : (.instanceMethod mn_R_restart : Cond) ∈ gtbl := kg_ (List.mem_append_right _ (List.mem_of_getElem? (i := 523) (by decide +kernel))) rfl
theorem kw_524 : (.selects cn_R mn_R_restart mn_R_restart : Cond) ∈ gtbl := kg_ (List.mem_append_right _ (List.mem_of_getElem? (i := 524) (by decide +kernel))) rfl
theorem kw_525 : (.code mn_R_restart bc_R_restart 3 (some .int) : Cond) ∈ gtbl := kg_ (List.mem_append_right _ (List.mem_of_getElem? (i := 525) (by decide +kernel))) rfl
theorem kw_526 : (.methodLink cn_R 136 mn_R_next : Cond) ∈ gtbl := kg_ (List.mem_append_right _ (List.mem_of_getElem? (i := 526) (by decide +kernel))) rfl
theorem kw_528 : (.instanceMethod mn_R_next : Cond) ∈ gtbl := kg_ (List.mem_append_right _ (List.mem_of_getElem? (i := 528) (by decide +kernel))) rfl
theorem kw_529 : (.code mn_R_next bc_R_next 7 (some .int) : Cond) ∈ gtbl := kg_ (List.mem_append_right _ (List.mem_of_getElem? (i := 529) (by decide +kernel))) rfl
theorem kw_530 : (.methodLink cn_R 133 mn_R_drop : Cond) ∈ gtbl := kg_ (List.mem_append_right _ (List.mem_of_getElem? (i := 530) (by decide +kernel))) rfl
theorem kw_532 : (.instanceMethod mn_R_drop : Cond) ∈ gtbl := kg_ (List.mem_append_right _ (List.mem_of_getElem? (i := 532) (by decide +kernel))) rfl
theorem kw_533 : (.code mn_R_drop bc_R_drop 2 none : Cond) ∈ gtbl := kg_ (List.mem_append_right _ (List.mem_of_getElem? (i := 533) (by decide +kernel))) rfl
theorem kw_534 : (.methodLink cn_R 139 mn_R_replay : Cond) ∈ gtbl := kg_ (List.mem_append_right _ (List.mem_of_getElem? (i := 534) (by decide +kernel))) rfl
theorem kw_536 : (.instanceMethod mn_R_replay : Cond) ∈ gtbl := kg_ (List.mem_append_right _ (List.mem_of_getElem? (i := 536) (by decide +kernel))) rfl
theorem kw_537 : (.code mn_R_replay bc_R_replay 2 none : Cond) ∈ gtbl := kg_ (List.mem_append_right _ (List.mem_of_getElem? (i := 537) (by decide +kernel))) rfl
theorem kw_538 : (.methodLink cn_L 55 mn_R_learn : Cond) ∈ gtbl := kg_ (List.mem_append_right _ (List.mem_of_getElem? (i := 538) (by decide +kernel))) rfl
theorem kw_539 : (.instanceMethod mn_R_learn : Cond) ∈ gtbl := kg_ (List.mem_append_right _ (List.mem_of_getElem? (i := 539) (by decide +kernel))) rfl
theorem kw_540 : (.selects cn_R mn_R_learn mn_R_learn : Cond) ∈ gtbl := kg_ (List.mem_append_right _ (List.mem_of_getElem? (i := 540) (by decide +kernel))) rfl
theorem kw_541 : (.code mn_R_learn bc_R_learn 3 (some .int) : Cond) ∈ gtbl := kg_ (List.mem_append_right _ (List.mem_of_getElem? (i := 541) (by decide +kernel))) rfl
theorem kw_542 : (.methodLink cn_L 59 mn_R_release : Cond) ∈ gtbl := kg_ (List.mem_append_right _ (List.mem_of_getElem? (i := 542) (by decide +kernel))) rfl
theorem kw_543 : (.instanceMethod mn_R_release : Cond) ∈ gtbl := kg_ (List.mem_append_right _ (List.mem_of_getElem? (i := 543) (by decide +kernel))) rfl
theorem kw_544 : (.selects cn_R mn_R_release mn_R_release : Cond) ∈ gtbl := kg_ (List.mem_append_right _ (List.mem_of_getElem? (i := 544) (by decide +kernel))) rfl
theorem kw_545 : (.code mn_R_release bc_R_release 5 (some .int) : Cond) ∈ gtbl := kg_ (List.mem_append_right _ (List.mem_of_getElem? (i := 545) (by decide +kernel))) rfl
theorem kw_546 : (.methodLink cn_R 142 mn_R_dependsOnStable : Cond) ∈ gtbl := kg_ (List.mem_append_right _ (List.mem_of_getElem? (i := 546) (by decide +kernel))) rfl
theorem kw_548 : (.instanceMethod mn_R_dependsOnStable : Cond) ∈ gtbl := kg_ (List.mem_append_right _ (List.mem_of_getElem? (i := 548) (by decide +kernel))) rfl
theorem kw_549 : (.code mn_R_dependsOnStable bc_R_dependsOnStable 4 (some .boolean) : Cond) ∈ gtbl := kg_ (List.mem_append_right _ (List.mem_of_getElem? (i := 549) (by decide +kernel))) rfl
theorem kw_550 : (.methodLink cn_L 63 mn_R_released : Cond) ∈ gtbl := kg_ (List.mem_append_right _ (List.mem_of_getElem? (i := 550) (by decide +kernel))) rfl
theorem kw_551 : (.instanceMethod mn_R_released : Cond) ∈ gtbl := kg_ (List.mem_append_right _ (List.mem_of_getElem? (i := 551) (by decide +kernel))) rfl
theorem kw_552 : (.selects cn_R mn_R_released mn_R_released : Cond) ∈ gtbl := kg_ (List.mem_append_right _ (List.mem_of_getElem? (i := 552) (by decide +kernel))) rfl
theorem kw_553 : (.code mn_R_released bc_R_released 3 (some .int) : Cond) ∈ gtbl := kg_ (List.mem_append_right _ (List.mem_of_getElem? (i := 553) (by decide +kernel))) rfl
theorem kw_554 : (.methodLink cn_L 67 mn_R_outputs : Cond) ∈ gtbl := kg_ (List.mem_append_right _ (List.mem_of_getElem? (i := 554) (by decide +kernel))) rfl
theorem kw_555 : (.instanceMethod mn_R_outputs : Cond) ∈ gtbl := kg_ (List.mem_append_right _ (List.mem_of_getElem? (i := 555) (by decide +kernel))) rfl
theorem kw_556 : (.selects cn_R mn_R_outputs mn_R_outputs : Cond) ∈ gtbl := kg_ (List.mem_append_right _ (List.mem_of_getElem? (i := 556) (by decide +kernel))) rfl
theorem kw_557 : (.code mn_R_outputs bc_R_outputs 2 (some .int) : Cond) ∈ gtbl := kg_ (List.mem_append_right _ (List.mem_of_getElem? (i := 557) (by decide +kernel))) rfl
theorem kw_558 : (.methodLink cn_L 71 mn_R_state : Cond) ∈ gtbl := kg_ (List.mem_append_right _ (List.mem_of_getElem? (i := 558) (by decide +kernel))) rfl
theorem kw_559 : (.instanceMethod mn_R_state : Cond) ∈ gtbl := kg_ (List.mem_append_right _ (List.mem_of_getElem? (i := 559) (by decide +kernel))) rfl
theorem kw_560 : (.selects cn_R mn_R_state mn_R_state : Cond) ∈ gtbl := kg_ (List.mem_append_right _ (List.mem_of_getElem? (i := 560) (by decide +kernel))) rfl
theorem kw_561 : (.code mn_R_state bc_R_state 2 (some .int) : Cond) ∈ gtbl := kg_ (List.mem_append_right _ (List.mem_of_getElem? (i := 561) (by decide +kernel))) rfl
theorem kw_562 : (.methodLink cn_L 75 mn_R_length : Cond) ∈ gtbl := kg_ (List.mem_append_right _ (List.mem_of_getElem? (i := 562) (by decide +kernel))) rfl
theorem kw_563 : (.instanceMethod mn_R_length : Cond) ∈ gtbl := kg_ (List.mem_append_right _ (List.mem_of_getElem? (i := 563) (by decide +kernel))) rfl
theorem kw_564 : (.selects cn_R mn_R_length mn_R_length : Cond) ∈ gtbl := kg_ (List.mem_append_right _ (List.mem_of_getElem? (i := 564) (by decide +kernel))) rfl
theorem kw_565 : (.code mn_R_length bc_R_length 2 (some .int) : Cond) ∈ gtbl := kg_ (List.mem_append_right _ (List.mem_of_getElem? (i := 565) (by decide +kernel))) rfl
theorem kw_566 : (.methodLink cn_L 79 mn_R_known : Cond) ∈ gtbl := kg_ (List.mem_append_right _ (List.mem_of_getElem? (i := 566) (by decide +kernel))) rfl
theorem kw_567 : (.instanceMethod mn_R_known : Cond) ∈ gtbl := kg_ (List.mem_append_right _ (List.mem_of_getElem? (i := 567) (by decide +kernel))) rfl
theorem kw_568 : (.selects cn_R mn_R_known mn_R_known : Cond) ∈ gtbl := kg_ (List.mem_append_right _ (List.mem_of_getElem? (i := 568) (by decide +kernel))) rfl
theorem kw_569 : (.code mn_R_known bc_R_known 2 (some .int) : Cond) ∈ gtbl := kg_ (List.mem_append_right _ (List.mem_of_getElem? (i := 569) (by decide +kernel))) rfl
theorem kw_570 : (.methodLink cn_L 83 mn_R_status : Cond) ∈ gtbl := kg_ (List.mem_append_right _ (List.mem_of_getElem? (i := 570) (by decide +kernel))) rfl
theorem kw_571 : (.instanceMethod mn_R_status : Cond) ∈ gtbl := kg_ (List.mem_append_right _ (List.mem_of_getElem? (i := 571) (by decide +kernel))) rfl
theorem kw_572 : (.selects cn_R mn_R_status mn_R_status : Cond) ∈ gtbl := kg_ (List.mem_append_right _ (List.mem_of_getElem? (i := 572) (by decide +kernel))) rfl
theorem kw_573 : (.code mn_R_status bc_R_status 2 (some .int) : Cond) ∈ gtbl := kg_ (List.mem_append_right _ (List.mem_of_getElem? (i := 573) (by decide +kernel))) rfl
theorem kw_574 : (.methodLink cn_L 88 mn_R_orphans : Cond) ∈ gtbl := kg_ (List.mem_append_right _ (List.mem_of_getElem? (i := 574) (by decide +kernel))) rfl
theorem kw_575 : (.instanceMethod mn_R_orphans : Cond) ∈ gtbl := kg_ (List.mem_append_right _ (List.mem_of_getElem? (i := 575) (by decide +kernel))) rfl
theorem kw_576 : (.selects cn_R mn_R_orphans mn_R_orphans : Cond) ∈ gtbl := kg_ (List.mem_append_right _ (List.mem_of_getElem? (i := 576) (by decide +kernel))) rfl
theorem kw_577 : (.code mn_R_orphans bc_R_orphans 4 (some .int) : Cond) ∈ gtbl := kg_ (List.mem_append_right _ (List.mem_of_getElem? (i := 577) (by decide +kernel))) rfl
theorem kw_578 : (.methodLink cn_R 145 mn_R_dependsOnLost : Cond) ∈ gtbl := kg_ (List.mem_append_right _ (List.mem_of_getElem? (i := 578) (by decide +kernel))) rfl
theorem kw_580 : (.instanceMethod mn_R_dependsOnLost : Cond) ∈ gtbl := kg_ (List.mem_append_right _ (List.mem_of_getElem? (i := 580) (by decide +kernel))) rfl
theorem kw_581 : (.code mn_R_dependsOnLost bc_R_dependsOnLost 4 (some .boolean) : Cond) ∈ gtbl := kg_ (List.mem_append_right _ (List.mem_of_getElem? (i := 581) (by decide +kernel))) rfl
theorem kw_582 : (.methodLink cn_L 92 mn_R_replayed : Cond) ∈ gtbl := kg_ (List.mem_append_right _ (List.mem_of_getElem? (i := 582) (by decide +kernel))) rfl
theorem kw_583 : (.instanceMethod mn_R_replayed : Cond) ∈ gtbl := kg_ (List.mem_append_right _ (List.mem_of_getElem? (i := 583) (by decide +kernel))) rfl
theorem kw_584 : (.selects cn_R mn_R_replayed mn_R_replayed : Cond) ∈ gtbl := kg_ (List.mem_append_right _ (List.mem_of_getElem? (i := 584) (by decide +kernel))) rfl
theorem kw_585 : (.code mn_R_replayed bc_R_replayed 2 (some .int) : Cond) ∈ gtbl := kg_ (List.mem_append_right _ (List.mem_of_getElem? (i := 585) (by decide +kernel))) rfl
theorem kp_0 : (.selects cn_O mn_O_isKnownOrphan mn_O_isKnownOrphan : Cond) ∈ gtbl := kg_ (List.mem_append_left _ (List.mem_of_getElem? (i := 0) (by decide +kernel))) rfl
theorem kp_1 : (.selects cn_O mn_O_dependsAtSource mn_O_dependsAtSource : Cond) ∈ gtbl := kg_ (List.mem_append_left _ (List.mem_of_getElem? (i := 1) (by decide +kernel))) rfl
theorem kp_2 : (.selects cn_O mn_O_receive mn_O_receive : Cond) ∈ gtbl := kg_ (List.mem_append_left _ (List.mem_of_getElem? (i := 2) (by decide +kernel))) rfl
theorem kp_3 : (.selects cn_O mn_O_stateAtEnd mn_O_stateAtEnd : Cond) ∈ gtbl := kg_ (List.mem_append_left _ (List.mem_of_getElem? (i := 3) (by decide +kernel))) rfl
theorem kp_4 : (.selects cn_O mn_O_dependsAtEnd mn_O_dependsAtEnd : Cond) ∈ gtbl := kg_ (List.mem_append_left _ (List.mem_of_getElem? (i := 4) (by decide +kernel))) rfl
theorem kp_5 : (.selects cn_O mn_O_sendFrom mn_O_sendFrom : Cond) ∈ gtbl := kg_ (List.mem_append_left _ (List.mem_of_getElem? (i := 5) (by decide +kernel))) rfl
theorem kp_6 : (.selects cn_O mn_O_makeStable mn_O_makeStable : Cond) ∈ gtbl := kg_ (List.mem_append_left _ (List.mem_of_getElem? (i := 6) (by decide +kernel))) rfl
theorem kp_7 : (.selects cn_O mn_O_isUp mn_O_isUp : Cond) ∈ gtbl := kg_ (List.mem_append_left _ (List.mem_of_getElem? (i := 7) (by decide +kernel))) rfl
theorem kp_8 : (.selects cn_O mn_O_loseUnstable mn_O_loseUnstable : Cond) ∈ gtbl := kg_ (List.mem_append_left _ (List.mem_of_getElem? (i := 8) (by decide +kernel))) rfl
theorem kp_9 : (.selects cn_O mn_O_learnNext mn_O_learnNext : Cond) ∈ gtbl := kg_ (List.mem_append_left _ (List.mem_of_getElem? (i := 9) (by decide +kernel))) rfl
theorem kp_10 : (.selects cn_O mn_O_firstOnChain mn_O_firstOnChain : Cond) ∈ gtbl := kg_ (List.mem_append_left _ (List.mem_of_getElem? (i := 10) (by decide +kernel))) rfl
theorem kp_11 : (.selects cn_O mn_O_giveBack mn_O_giveBack : Cond) ∈ gtbl := kg_ (List.mem_append_left _ (List.mem_of_getElem? (i := 11) (by decide +kernel))) rfl
theorem kp_12 : (.selects cn_O mn_O_orphansOn mn_O_orphansOn : Cond) ∈ gtbl := kg_ (List.mem_append_left _ (List.mem_of_getElem? (i := 12) (by decide +kernel))) rfl
theorem kp_13 : (.selects cn_R mn_R_isProcess mn_R_isProcess : Cond) ∈ gtbl := kg_ (List.mem_append_left _ (List.mem_of_getElem? (i := 13) (by decide +kernel))) rfl
theorem kp_14 : (.selects cn_R mn_R_send mn_R_send : Cond) ∈ gtbl := kg_ (List.mem_append_left _ (List.mem_of_getElem? (i := 14) (by decide +kernel))) rfl
theorem kp_15 : (.selects cn_R mn_R_isMessage mn_R_isMessage : Cond) ∈ gtbl := kg_ (List.mem_append_left _ (List.mem_of_getElem? (i := 15) (by decide +kernel))) rfl
theorem kp_16 : (.selects cn_R mn_R_isHit mn_R_isHit : Cond) ∈ gtbl := kg_ (List.mem_append_left _ (List.mem_of_getElem? (i := 16) (by decide +kernel))) rfl
theorem kp_17 : (.selects cn_R mn_R_trace mn_R_trace : Cond) ∈ gtbl := kg_ (List.mem_append_left _ (List.mem_of_getElem? (i := 17) (by decide +kernel))) rfl
theorem kp_18 : (.selects cn_R mn_R_receive mn_R_receive : Cond) ∈ gtbl := kg_ (List.mem_append_left _ (List.mem_of_getElem? (i := 18) (by decide +kernel))) rfl
theorem kp_19 : (.selects cn_R mn_R_stateOf mn_R_stateOf : Cond) ∈ gtbl := kg_ (List.mem_append_left _ (List.mem_of_getElem? (i := 19) (by decide +kernel))) rfl
theorem kp_20 : (.selects cn_R mn_R_settle mn_R_settle : Cond) ∈ gtbl := kg_ (List.mem_append_left _ (List.mem_of_getElem? (i := 20) (by decide +kernel))) rfl
theorem kp_21 : (.selects cn_R mn_R_isUp mn_R_isUp : Cond) ∈ gtbl := kg_ (List.mem_append_left _ (List.mem_of_getElem? (i := 21) (by decide +kernel))) rfl
theorem kp_22 : (.selects cn_R mn_R_isOn mn_R_isOn : Cond) ∈ gtbl := kg_ (List.mem_append_left _ (List.mem_of_getElem? (i := 22) (by decide +kernel))) rfl
theorem kp_23 : (.selects cn_R mn_R_next mn_R_next : Cond) ∈ gtbl := kg_ (List.mem_append_left _ (List.mem_of_getElem? (i := 23) (by decide +kernel))) rfl
theorem kp_24 : (.selects cn_R mn_R_drop mn_R_drop : Cond) ∈ gtbl := kg_ (List.mem_append_left _ (List.mem_of_getElem? (i := 24) (by decide +kernel))) rfl
theorem kp_25 : (.selects cn_R mn_R_replay mn_R_replay : Cond) ∈ gtbl := kg_ (List.mem_append_left _ (List.mem_of_getElem? (i := 25) (by decide +kernel))) rfl
theorem kp_26 : (.selects cn_R mn_R_dependsOnStable mn_R_dependsOnStable : Cond) ∈ gtbl := kg_ (List.mem_append_left _ (List.mem_of_getElem? (i := 26) (by decide +kernel))) rfl
theorem kp_27 : (.selects cn_R mn_R_dependsOnLost mn_R_dependsOnLost : Cond) ∈ gtbl := kg_ (List.mem_append_left _ (List.mem_of_getElem? (i := 27) (by decide +kernel))) rfl
theorem ki_I : ∀ w ∈ u_ws cn_I ft_I 8, w ∈ gtbl := by decide +kernel
theorem ki_M : ∀ w ∈ u_ws cn_M ft_M 7, w ∈ gtbl := by decide +kernel
theorem ki_P : ∀ w ∈ u_ws cn_P ft_P 11, w ∈ gtbl := by decide +kernel
theorem ki_O : ∀ w ∈ u_ws cn_O ft_O 4, w ∈ gtbl := by decide +kernel
theorem ki_R : ∀ w ∈ u_ws cn_R ft_R 27, w ∈ gtbl := by decide +kernel
