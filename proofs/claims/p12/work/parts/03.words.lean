theorem tw_0 : Cond.selects R_V y_V_beginAgain y_V_beginAgain ∈ TB := inTB 0 (by decide +kernel) rfl
theorem tw_1 : Cond.selects R_S y_S_superblockStands y_S_superblockStands ∈ TB := inTB 1 (by decide +kernel) rfl
theorem tw_2 : Cond.selects R_S y_S_superblockHas y_S_superblockHas ∈ TB := inTB 2 (by decide +kernel) rfl
theorem tw_3 : Cond.selects R_S y_S_copiesStand y_S_copiesStand ∈ TB := inTB 3 (by decide +kernel) rfl
theorem tw_4 : Cond.selects R_S y_S_hasCopies y_S_hasCopies ∈ TB := inTB 4 (by decide +kernel) rfl
theorem tw_5 : Cond.selects R_S y_S_groupsStand y_S_groupsStand ∈ TB := inTB 5 (by decide +kernel) rfl
theorem tw_6 : Cond.selects R_S y_S_fix y_S_fix ∈ TB := inTB 6 (by decide +kernel) rfl
theorem tw_7 : Cond.selects R_S y_S_treeFault y_S_treeFault ∈ TB := inTB 7 (by decide +kernel) rfl
theorem tw_8 : Cond.selects R_S y_S_takeWhole y_S_takeWhole ∈ TB := inTB 8 (by decide +kernel) rfl
theorem tw_9 : Cond.selects R_S y_S_spareAreZero y_S_spareAreZero ∈ TB := inTB 9 (by decide +kernel) rfl
theorem tw_10 : Cond.selects R_S y_S_take y_S_take ∈ TB := inTB 10 (by decide +kernel) rfl
theorem tw_11 : Cond.selects R_S y_S_standInLine y_S_standInLine ∈ TB := inTB 11 (by decide +kernel) rfl
theorem tw_12 : Cond.selects R_S y_S_entriesStand y_S_entriesStand ∈ TB := inTB 12 (by decide +kernel) rfl
theorem tw_13 : Cond.selects R_S y_S_entryStands y_S_entryStands ∈ TB := inTB 13 (by decide +kernel) rfl
theorem tw_14 : Cond.selects R_S y_S_itemsComeUp y_S_itemsComeUp ∈ TB := inTB 14 (by decide +kernel) rfl
theorem tw_15 : Cond.selects R_S y_S_isKnown y_S_isKnown ∈ TB := inTB 15 (by decide +kernel) rfl
theorem tw_16 : Cond.selects R_S y_S_lateFault y_S_lateFault ∈ TB := inTB 16 (by decide +kernel) rfl
theorem tw_17 : Cond.selects R_S y_S_linksStand y_S_linksStand ∈ TB := inTB 17 (by decide +kernel) rfl
theorem tw_18 : Cond.selects R_S y_S_inodesStand y_S_inodesStand ∈ TB := inTB 18 (by decide +kernel) rfl
theorem tw_19 : Cond.selects R_S y_S_isBlank y_S_isBlank ∈ TB := inTB 19 (by decide +kernel) rfl
theorem tw_20 : Cond.selects R_S y_S_mapsStand y_S_mapsStand ∈ TB := inTB 20 (by decide +kernel) rfl
theorem tw_21 : Cond.selects R_S y_S_blockMapStands y_S_blockMapStands ∈ TB := inTB 21 (by decide +kernel) rfl
theorem tw_22 : Cond.selects R_S y_S_isTaken y_S_isTaken ∈ TB := inTB 22 (by decide +kernel) rfl
theorem tw_23 : Cond.selects R_S y_S_freeBlocks y_S_freeBlocks ∈ TB := inTB 23 (by decide +kernel) rfl
theorem tw_24 : Cond.selects R_S y_S_freeInodes y_S_freeInodes ∈ TB := inTB 24 (by decide +kernel) rfl
theorem tw_25 : Cond.selects R_S y_S_directories y_S_directories ∈ TB := inTB 25 (by decide +kernel) rfl
theorem tw_27 : Cond.selects R_V y_V_countItems y_V_countItems ∈ TB := inTB 27 (by decide +kernel) rfl
theorem tw_28 : Cond.selects R_V y_V_seekItem y_V_seekItem ∈ TB := inTB 28 (by decide +kernel) rfl
theorem tw_29 : Cond.selects R_V y_V_lastBlock y_V_lastBlock ∈ TB := inTB 29 (by decide +kernel) rfl
theorem tw_30 : Cond.selects R_M y_M_isThere y_M_isThere ∈ TB := inTB 30 (by decide +kernel) rfl
theorem tw_31 : Cond.selects R_M y_M_changed y_M_changed ∈ TB := inTB 31 (by decide +kernel) rfl
theorem tw_32 : Cond.selects R_M y_M_one y_M_one ∈ TB := inTB 32 (by decide +kernel) rfl
theorem tw_33 : Cond.selects R_M y_M_look y_M_look ∈ TB := inTB 33 (by decide +kernel) rfl
theorem tw_34 : Cond.selects R_M y_M_firstFault y_M_firstFault ∈ TB := inTB 34 (by decide +kernel) rfl
theorem tw_35 : Cond.selects R_M y_M_badHead y_M_badHead ∈ TB := inTB 35 (by decide +kernel) rfl
theorem tw_36 : Cond.selects R_M y_M_four y_M_four ∈ TB := inTB 36 (by decide +kernel) rfl
theorem tw_37 : Cond.selects R_M y_M_two y_M_two ∈ TB := inTB 37 (by decide +kernel) rfl
theorem tw_38 : Cond.selects R_M y_M_badCopies y_M_badCopies ∈ TB := inTB 38 (by decide +kernel) rfl
theorem tw_39 : Cond.selects R_M y_M_sizeOf y_M_sizeOf ∈ TB := inTB 39 (by decide +kernel) rfl
theorem tw_40 : Cond.selects R_M y_M_begin y_M_begin ∈ TB := inTB 40 (by decide +kernel) rfl
theorem tw_41 : Cond.selects R_M y_M_badMaps y_M_badMaps ∈ TB := inTB 41 (by decide +kernel) rfl
theorem tw_42 : Cond.selects R_M y_M_fixes y_M_fixes ∈ TB := inTB 42 (by decide +kernel) rfl
theorem tw_43 : Cond.selects R_M y_M_tree y_M_tree ∈ TB := inTB 43 (by decide +kernel) rfl
theorem tw_44 : Cond.selects R_M y_M_isUsed y_M_isUsed ∈ TB := inTB 44 (by decide +kernel) rfl
theorem tw_45 : Cond.selects R_M y_M_bit y_M_bit ∈ TB := inTB 45 (by decide +kernel) rfl
theorem tw_46 : Cond.selects R_M y_M_typeOf y_M_typeOf ∈ TB := inTB 46 (by decide +kernel) rfl
theorem tw_47 : Cond.selects R_M y_M_inodeAt y_M_inodeAt ∈ TB := inTB 47 (by decide +kernel) rfl
theorem tw_48 : Cond.selects R_M y_M_isWhole y_M_isWhole ∈ TB := inTB 48 (by decide +kernel) rfl
theorem tw_49 : Cond.selects R_M y_M_sizeOfInode y_M_sizeOfInode ∈ TB := inTB 49 (by decide +kernel) rfl
theorem tw_50 : Cond.selects R_M y_M_pointer y_M_pointer ∈ TB := inTB 50 (by decide +kernel) rfl
theorem tw_51 : Cond.selects R_M y_M_takes y_M_takes ∈ TB := inTB 51 (by decide +kernel) rfl
theorem tw_52 : Cond.selects R_M y_M_blockOf y_M_blockOf ∈ TB := inTB 52 (by decide +kernel) rfl
theorem tw_53 : Cond.selects R_M y_M_comes y_M_comes ∈ TB := inTB 53 (by decide +kernel) rfl
theorem tw_54 : Cond.selects R_M y_M_badEntries y_M_badEntries ∈ TB := inTB 54 (by decide +kernel) rfl
theorem tw_55 : Cond.selects R_M y_M_isEntry y_M_isEntry ∈ TB := inTB 55 (by decide +kernel) rfl
theorem tw_56 : Cond.selects R_M y_M_lengthAt y_M_lengthAt ∈ TB := inTB 56 (by decide +kernel) rfl
theorem tw_57 : Cond.selects R_M y_M_nameSize y_M_nameSize ∈ TB := inTB 57 (by decide +kernel) rfl
theorem tw_58 : Cond.selects R_M y_M_isDots y_M_isDots ∈ TB := inTB 58 (by decide +kernel) rfl
theorem tw_59 : Cond.selects R_M y_M_finds y_M_finds ∈ TB := inTB 59 (by decide +kernel) rfl
theorem tw_60 : Cond.selects R_M y_M_badLinks y_M_badLinks ∈ TB := inTB 60 (by decide +kernel) rfl
theorem tw_61 : Cond.selects R_M y_M_badInodes y_M_badInodes ∈ TB := inTB 61 (by decide +kernel) rfl
theorem tw_62 : Cond.selects R_M y_M_badCounts y_M_badCounts ∈ TB := inTB 62 (by decide +kernel) rfl
theorem tw_63 : Cond.selects R_M y_M_none y_M_none ∈ TB := inTB 63 (by decide +kernel) rfl
theorem tw_64 : Cond.selects R_M y_M_fails y_M_fails ∈ TB := inTB 64 (by decide +kernel) rfl
theorem tw_65 : Cond.selects R_M y_M_count y_M_count ∈ TB := inTB 65 (by decide +kernel) rfl
theorem tw_66 : Cond.selects R_M y_M_no y_M_no ∈ TB := inTB 66 (by decide +kernel) rfl
theorem tw_68 : Cond.initialized R_V ∈ TB := inTB 68 (by decide +kernel) rfl
theorem tw_69 : Cond.initialized R_D ∈ TB := inTB 69 (by decide +kernel) rfl
theorem tw_70 : Cond.initialized "java/lang/Math" ∈ TB := inTB 70 (by decide +kernel) rfl
theorem tw_71 : Cond.initialized R_L ∈ TB := inTB 71 (by decide +kernel) rfl
theorem tw_72 : Cond.initialized R_E ∈ TB := inTB 72 (by decide +kernel) rfl
theorem tw_73 : Cond.initialized R_S ∈ TB := inTB 73 (by decide +kernel) rfl
theorem tw_74 : Cond.initialized R_M ∈ TB := inTB 74 (by decide +kernel) rfl
theorem tw_75 : Cond.initialized R_J ∈ TB := inTB 75 (by decide +kernel) rfl
theorem tw_79 : Cond.initialized "java/lang/IllegalStateException" ∈ TB := inTB 79 (by decide +kernel) rfl
theorem tw_80 : Cond.initialized "java/lang/IndexOutOfBoundsException" ∈ TB := inTB 80 (by decide +kernel) rfl
theorem tw_81 : Cond.initialized "java/lang/IllegalArgumentException" ∈ TB := inTB 81 (by decide +kernel) rfl
theorem tw_97 : Cond.static ⟨"java/lang/Math", "min", "(II)I"⟩ ∈ TB := inTB 97 (by decide +kernel) rfl
set_option maxRecDepth 100000 in
theorem tw_98 : Cond.code ⟨"java/lang/Math", "min", "(II)I"⟩ prog_12_method_69_code 2 (some .int) ∈ TB := inTB 98 rfl rfl
theorem tw_100 : Cond.static ⟨"java/lang/Math", "max", "(II)I"⟩ ∈ TB := inTB 100 (by decide +kernel) rfl
set_option maxRecDepth 100000 in
theorem tw_101 : Cond.code ⟨"java/lang/Math", "max", "(II)I"⟩ prog_12_method_65_code 2 (some .int) ∈ TB := inTB 101 rfl rfl
theorem tw_102 : Cond.fieldLink R_D 18 R_D "blocks" "I" ∈ TB := inTB 102 (by decide +kernel) rfl
theorem tw_103 : Cond.fieldLink R_D 24 R_D "size" "I" ∈ TB := inTB 103 (by decide +kernel) rfl
theorem tw_104 : Cond.fieldLink R_D 27 R_D "words" "[J" ∈ TB := inTB 104 (by decide +kernel) rfl
theorem tw_119 : Cond.fieldLink R_L 15 R_L "disk" "LInodeVolumes$Disk;" ∈ TB := inTB 119 (by decide +kernel) rfl
theorem tw_120 : Cond.fieldLink R_L 9 R_L "mapBlock" "[I" ∈ TB := inTB 120 (by decide +kernel) rfl
theorem tw_121 : Cond.fieldLink R_L 39 R_L "groupBlocks" "I" ∈ TB := inTB 121 (by decide +kernel) rfl
theorem tw_122 : Cond.fieldLink R_L 43 R_L "groupInodes" "I" ∈ TB := inTB 122 (by decide +kernel) rfl
theorem tw_123 : Cond.fieldLink R_L 50 R_L "groups" "I" ∈ TB := inTB 123 (by decide +kernel) rfl
theorem tw_124 : Cond.fieldLink R_L 53 R_L "inodes" "I" ∈ TB := inTB 124 (by decide +kernel) rfl
theorem tw_145 : Cond.fieldLink R_E 9 R_E "disk" "LInodeVolumes$Disk;" ∈ TB := inTB 145 (by decide +kernel) rfl
theorem tw_146 : Cond.fieldLink R_E 15 R_E "layout" "LInodeVolumes$Layout;" ∈ TB := inTB 146 (by decide +kernel) rfl
theorem tw_147 : Cond.fieldLink R_E 19 R_E "directory" "I" ∈ TB := inTB 147 (by decide +kernel) rfl
theorem tw_148 : Cond.fieldLink R_E 29 R_E "size" "J" ∈ TB := inTB 148 (by decide +kernel) rfl
theorem tw_149 : Cond.fieldLink R_E 33 R_E "offset" "J" ∈ TB := inTB 149 (by decide +kernel) rfl
theorem tw_150 : Cond.fieldLink R_E 36 R_E "order" "I" ∈ TB := inTB 150 (by decide +kernel) rfl
theorem tw_151 : Cond.fieldLink R_E 45 R_E "place" "J" ∈ TB := inTB 151 (by decide +kernel) rfl
theorem tw_152 : Cond.fieldLink R_E 54 R_E "head" "J" ∈ TB := inTB 152 (by decide +kernel) rfl
theorem tw_176 : Cond.fieldLink R_S 9 R_S "disk" "LInodeVolumes$Disk;" ∈ TB := inTB 176 (by decide +kernel) rfl
theorem tw_177 : Cond.fieldLink R_S 15 R_S "layout" "LInodeVolumes$Layout;" ∈ TB := inTB 177 (by decide +kernel) rfl
theorem tw_178 : Cond.fieldLink R_S 19 R_S "entries" "LInodeVolumes$Entries;" ∈ TB := inTB 178 (by decide +kernel) rfl
theorem tw_179 : Cond.fieldLink R_S 23 R_S "taken" "[I" ∈ TB := inTB 179 (by decide +kernel) rfl
theorem tw_180 : Cond.fieldLink R_S 27 R_S "known" "[I" ∈ TB := inTB 180 (by decide +kernel) rfl
theorem tw_181 : Cond.fieldLink R_S 30 R_S "line" "[I" ∈ TB := inTB 181 (by decide +kernel) rfl
theorem tw_182 : Cond.fieldLink R_S 33 R_S "parents" "[I" ∈ TB := inTB 182 (by decide +kernel) rfl
theorem tw_183 : Cond.fieldLink R_S 36 R_S "inside" "[I" ∈ TB := inTB 183 (by decide +kernel) rfl
theorem tw_184 : Cond.fieldLink R_S 134 R_S "came" "I" ∈ TB := inTB 184 (by decide +kernel) rfl
theorem tw_185 : Cond.fieldLink R_S 39 R_S "found" "I" ∈ TB := inTB 185 (by decide +kernel) rfl
theorem tw_207 : Cond.fieldLink R_V 14 R_V "disk" "LInodeVolumes$Disk;" ∈ TB := inTB 207 (by decide +kernel) rfl
theorem tw_208 : Cond.fieldLink R_V 23 R_V "layout" "LInodeVolumes$Layout;" ∈ TB := inTB 208 (by decide +kernel) rfl
theorem tw_209 : Cond.fieldLink R_V 32 R_V "entries" "LInodeVolumes$Entries;" ∈ TB := inTB 209 (by decide +kernel) rfl
theorem tw_210 : Cond.fieldLink R_V 41 R_V "survey" "LInodeVolumes$Survey;" ∈ TB := inTB 210 (by decide +kernel) rfl
theorem tw_211 : Cond.fieldLink R_V 45 R_V "here" "I" ∈ TB := inTB 211 (by decide +kernel) rfl
theorem tw_227 : Cond.methodLink R_V 49 y_D_holds ∈ TB := inTB 227 (by decide +kernel) rfl
theorem tw_228 : Cond.instanceMethod y_D_holds ∈ TB := inTB 228 (by decide +kernel) rfl
theorem tw_229 : Cond.selects R_D y_D_holds y_D_holds ∈ TB := inTB 229 (by decide +kernel) rfl
set_option maxRecDepth 100000 in
theorem tw_230 : Cond.code y_D_holds prog_2_method_3_code 4 (some .boolean) ∈ TB := inTB 230 rfl rfl
theorem tw_231 : Cond.methodLink R_V 53 y_D_set ∈ TB := inTB 231 (by decide +kernel) rfl
theorem tw_232 : Cond.instanceMethod y_D_set ∈ TB := inTB 232 (by decide +kernel) rfl
theorem tw_233 : Cond.selects R_D y_D_set y_D_set ∈ TB := inTB 233 (by decide +kernel) rfl
set_option maxRecDepth 100000 in
theorem tw_234 : Cond.code y_D_set prog_2_method_5_code 12 none ∈ TB := inTB 234 rfl rfl
theorem tw_235 : Cond.constantLong R_D 31 (7 : Int64) ∈ TB := inTB 235 (by decide +kernel) rfl
theorem tw_236 : Cond.constantLong R_D 33 (-1 : Int64) ∈ TB := inTB 236 (by decide +kernel) rfl
theorem tw_237 : Cond.methodLink R_V 57 y_V_beginAgain ∈ TB := inTB 237 (by decide +kernel) rfl
theorem tw_239 : Cond.instanceMethod y_V_beginAgain ∈ TB := inTB 239 (by decide +kernel) rfl
set_option maxRecDepth 100000 in
theorem tw_240 : Cond.code y_V_beginAgain prog_1_method_13_code 1 none ∈ TB := inTB 240 rfl rfl
theorem tw_241 : Cond.methodLink R_V 136 y_S_forget ∈ TB := inTB 241 (by decide +kernel) rfl
theorem tw_242 : Cond.instanceMethod y_S_forget ∈ TB := inTB 242 (by decide +kernel) rfl
theorem tw_243 : Cond.selects R_S y_S_forget y_S_forget ∈ TB := inTB 243 (by decide +kernel) rfl
set_option maxRecDepth 100000 in
theorem tw_244 : Cond.code y_S_forget prog_5_method_2_code 1 none ∈ TB := inTB 244 rfl rfl
theorem tw_249 : Cond.methodLink R_V 60 y_D_spread ∈ TB := inTB 249 (by decide +kernel) rfl
theorem tw_250 : Cond.instanceMethod y_D_spread ∈ TB := inTB 250 (by decide +kernel) rfl
theorem tw_251 : Cond.selects R_D y_D_spread y_D_spread ∈ TB := inTB 251 (by decide +kernel) rfl
set_option maxRecDepth 100000 in
theorem tw_252 : Cond.code y_D_spread prog_2_method_6_code 7 none ∈ TB := inTB 252 rfl rfl
theorem tw_253 : Cond.constantLong R_D 35 (72340172838076673 : Int64) ∈ TB := inTB 253 (by decide +kernel) rfl
theorem tw_254 : Cond.methodLink R_D 37 y_D_set ∈ TB := inTB 254 (by decide +kernel) rfl
theorem tw_259 : Cond.methodLink R_V 64 y_D_move ∈ TB := inTB 259 (by decide +kernel) rfl
theorem tw_260 : Cond.instanceMethod y_D_move ∈ TB := inTB 260 (by decide +kernel) rfl
theorem tw_261 : Cond.selects R_D y_D_move y_D_move ∈ TB := inTB 261 (by decide +kernel) rfl
set_option maxRecDepth 100000 in
theorem tw_262 : Cond.code y_D_move prog_2_method_7_code 5 none ∈ TB := inTB 262 rfl rfl
theorem tw_263 : Cond.methodLink R_D 41 y_D_number ∈ TB := inTB 263 (by decide +kernel) rfl
theorem tw_264 : Cond.instanceMethod y_D_number ∈ TB := inTB 264 (by decide +kernel) rfl
theorem tw_265 : Cond.selects R_D y_D_number y_D_number ∈ TB := inTB 265 (by decide +kernel) rfl
set_option maxRecDepth 100000 in
theorem tw_266 : Cond.code y_D_number prog_2_method_4_code 8 (some .long) ∈ TB := inTB 266 rfl rfl
theorem tw_271 : Cond.methodLink R_V 67 y_D_number ∈ TB := inTB 271 (by decide +kernel) rfl
theorem tw_276 : Cond.methodLink R_V 71 y_S_firstFault ∈ TB := inTB 276 (by decide +kernel) rfl
theorem tw_277 : Cond.instanceMethod y_S_firstFault ∈ TB := inTB 277 (by decide +kernel) rfl
theorem tw_278 : Cond.selects R_S y_S_firstFault y_S_firstFault ∈ TB := inTB 278 (by decide +kernel) rfl
set_option maxRecDepth 100000 in
theorem tw_279 : Cond.code y_S_firstFault prog_5_method_3_code 1 (some .int) ∈ TB := inTB 279 rfl rfl
theorem tw_280 : Cond.methodLink R_S 43 y_S_superblockStands ∈ TB := inTB 280 (by decide +kernel) rfl
theorem tw_282 : Cond.instanceMethod y_S_superblockStands ∈ TB := inTB 282 (by decide +kernel) rfl
set_option maxRecDepth 100000 in
theorem tw_283 : Cond.code y_S_superblockStands prog_5_method_4_code 1 (some .boolean) ∈ TB := inTB 283 rfl rfl
theorem tw_284 : Cond.methodLink R_S 60 y_L_readGroups ∈ TB := inTB 284 (by decide +kernel) rfl
theorem tw_285 : Cond.instanceMethod y_L_readGroups ∈ TB := inTB 285 (by decide +kernel) rfl
theorem tw_286 : Cond.selects R_L y_L_readGroups y_L_readGroups ∈ TB := inTB 286 (by decide +kernel) rfl
set_option maxRecDepth 100000 in
theorem tw_287 : Cond.code y_L_readGroups prog_4_method_2_code 5 (some .boolean) ∈ TB := inTB 287 rfl rfl
theorem tw_288 : Cond.constantLong R_L 19 (1056 : Int64) ∈ TB := inTB 288 (by decide +kernel) rfl
theorem tw_289 : Cond.methodLink R_L 21 y_D_number ∈ TB := inTB 289 (by decide +kernel) rfl
theorem tw_290 : Cond.constantLong R_L 27 (1064 : Int64) ∈ TB := inTB 290 (by decide +kernel) rfl
theorem tw_291 : Cond.constantLong R_L 29 (64 : Int64) ∈ TB := inTB 291 (by decide +kernel) rfl
theorem tw_292 : Cond.constantLong R_L 31 (128 : Int64) ∈ TB := inTB 292 (by decide +kernel) rfl
theorem tw_293 : Cond.constantLong R_L 33 (256 : Int64) ∈ TB := inTB 293 (by decide +kernel) rfl
theorem tw_294 : Cond.constantLong R_L 35 (8 : Int64) ∈ TB := inTB 294 (by decide +kernel) rfl
theorem tw_295 : Cond.constantLong R_L 37 (8192 : Int64) ∈ TB := inTB 295 (by decide +kernel) rfl
theorem tw_296 : Cond.methodLink R_L 46 y_D_blocks ∈ TB := inTB 296 (by decide +kernel) rfl
theorem tw_297 : Cond.instanceMethod y_D_blocks ∈ TB := inTB 297 (by decide +kernel) rfl
theorem tw_298 : Cond.selects R_D y_D_blocks y_D_blocks ∈ TB := inTB 298 (by decide +kernel) rfl
set_option maxRecDepth 100000 in
theorem tw_299 : Cond.code y_D_blocks prog_2_method_2_code 1 (some .int) ∈ TB := inTB 299 rfl rfl
theorem tw_300 : Cond.methodLink R_S 65 y_L_inodes ∈ TB := inTB 300 (by decide +kernel) rfl
theorem tw_301 : Cond.instanceMethod y_L_inodes ∈ TB := inTB 301 (by decide +kernel) rfl
theorem tw_302 : Cond.selects R_L y_L_inodes y_L_inodes ∈ TB := inTB 302 (by decide +kernel) rfl
set_option maxRecDepth 100000 in
theorem tw_303 : Cond.code y_L_inodes prog_4_method_7_code 1 (some .int) ∈ TB := inTB 303 rfl rfl
theorem tw_304 : Cond.methodLink R_S 68 y_S_superblockHas ∈ TB := inTB 304 (by decide +kernel) rfl
theorem tw_306 : Cond.instanceMethod y_S_superblockHas ∈ TB := inTB 306 (by decide +kernel) rfl
set_option maxRecDepth 100000 in
theorem tw_307 : Cond.code y_S_superblockHas prog_5_method_5_code 5 (some .boolean) ∈ TB := inTB 307 rfl rfl
theorem tw_308 : Cond.methodLink R_S 88 y_D_number ∈ TB := inTB 308 (by decide +kernel) rfl
theorem tw_309 : Cond.methodLink R_S 72 y_D_blocks ∈ TB := inTB 309 (by decide +kernel) rfl
theorem tw_310 : Cond.methodLink R_S 77 y_L_groupBlocks ∈ TB := inTB 310 (by decide +kernel) rfl
theorem tw_311 : Cond.instanceMethod y_L_groupBlocks ∈ TB := inTB 311 (by decide +kernel) rfl
theorem tw_312 : Cond.selects R_L y_L_groupBlocks y_L_groupBlocks ∈ TB := inTB 312 (by decide +kernel) rfl
set_option maxRecDepth 100000 in
theorem tw_313 : Cond.code y_L_groupBlocks prog_4_method_5_code 1 (some .int) ∈ TB := inTB 313 rfl rfl
theorem tw_314 : Cond.constantLong R_S 80 (61267 : Int64) ∈ TB := inTB 314 (by decide +kernel) rfl
theorem tw_315 : Cond.constantLong R_S 82 (11 : Int64) ∈ TB := inTB 315 (by decide +kernel) rfl
theorem tw_316 : Cond.constantLong R_S 84 (128 : Int64) ∈ TB := inTB 316 (by decide +kernel) rfl
theorem tw_317 : Cond.constantLong R_S 86 (2 : Int64) ∈ TB := inTB 317 (by decide +kernel) rfl
theorem tw_318 : Cond.methodLink R_S 47 y_S_copiesStand ∈ TB := inTB 318 (by decide +kernel) rfl
theorem tw_320 : Cond.instanceMethod y_S_copiesStand ∈ TB := inTB 320 (by decide +kernel) rfl
set_option maxRecDepth 100000 in
theorem tw_321 : Cond.code y_S_copiesStand prog_5_method_6_code 2 (some .boolean) ∈ TB := inTB 321 rfl rfl
theorem tw_322 : Cond.methodLink R_S 92 y_L_groups ∈ TB := inTB 322 (by decide +kernel) rfl
theorem tw_323 : Cond.instanceMethod y_L_groups ∈ TB := inTB 323 (by decide +kernel) rfl
theorem tw_324 : Cond.selects R_L y_L_groups y_L_groups ∈ TB := inTB 324 (by decide +kernel) rfl
set_option maxRecDepth 100000 in
theorem tw_325 : Cond.code y_L_groups prog_4_method_4_code 1 (some .int) ∈ TB := inTB 325 rfl rfl
theorem tw_326 : Cond.methodLink R_S 95 y_L_blocksOf ∈ TB := inTB 326 (by decide +kernel) rfl
theorem tw_327 : Cond.instanceMethod y_L_blocksOf ∈ TB := inTB 327 (by decide +kernel) rfl
theorem tw_328 : Cond.selects R_L y_L_blocksOf y_L_blocksOf ∈ TB := inTB 328 (by decide +kernel) rfl
set_option maxRecDepth 100000 in
theorem tw_329 : Cond.code y_L_blocksOf prog_4_method_9_code 2 (some .int) ∈ TB := inTB 329 rfl rfl
theorem tw_330 : Cond.methodLink R_L 56 y_L_firstBlock ∈ TB := inTB 330 (by decide +kernel) rfl
theorem tw_331 : Cond.instanceMethod y_L_firstBlock ∈ TB := inTB 331 (by decide +kernel) rfl
theorem tw_332 : Cond.selects R_L y_L_firstBlock y_L_firstBlock ∈ TB := inTB 332 (by decide +kernel) rfl
set_option maxRecDepth 100000 in
theorem tw_333 : Cond.code y_L_firstBlock prog_4_method_8_code 2 (some .int) ∈ TB := inTB 333 rfl rfl
theorem tw_334 : Cond.methodLink R_L 60 ⟨"java/lang/Math", "min", "(II)I"⟩ ∈ TB := inTB 334 (by decide +kernel) rfl
theorem tw_335 : Cond.methodLink R_S 99 y_S_hasCopies ∈ TB := inTB 335 (by decide +kernel) rfl
theorem tw_337 : Cond.instanceMethod y_S_hasCopies ∈ TB := inTB 337 (by decide +kernel) rfl
set_option maxRecDepth 100000 in
theorem tw_338 : Cond.code y_S_hasCopies prog_5_method_7_code 7 (some .boolean) ∈ TB := inTB 338 rfl rfl
theorem tw_339 : Cond.constantLong R_S 103 (1024 : Int64) ∈ TB := inTB 339 (by decide +kernel) rfl
theorem tw_340 : Cond.methodLink R_S 105 y_L_firstBlock ∈ TB := inTB 340 (by decide +kernel) rfl
theorem tw_341 : Cond.methodLink R_S 50 y_S_groupsStand ∈ TB := inTB 341 (by decide +kernel) rfl
theorem tw_343 : Cond.instanceMethod y_S_groupsStand ∈ TB := inTB 343 (by decide +kernel) rfl
set_option maxRecDepth 100000 in
theorem tw_344 : Cond.code y_S_groupsStand prog_5_method_8_code 7 (some .boolean) ∈ TB := inTB 344 rfl rfl
theorem tw_345 : Cond.methodLink R_S 108 y_J_fill ∈ TB := inTB 345 (by decide +kernel) rfl
theorem tw_346 : Cond.static y_J_fill ∈ TB := inTB 346 (by decide +kernel) rfl
set_option maxRecDepth 100000 in
theorem tw_347 : Cond.code y_J_fill prog_16_method_103_code 4 none ∈ TB := inTB 347 rfl rfl
theorem tw_348 : Cond.methodLink R_S 114 y_L_groupInodes ∈ TB := inTB 348 (by decide +kernel) rfl
theorem tw_349 : Cond.instanceMethod y_L_groupInodes ∈ TB := inTB 349 (by decide +kernel) rfl
theorem tw_350 : Cond.selects R_L y_L_groupInodes y_L_groupInodes ∈ TB := inTB 350 (by decide +kernel) rfl
set_option maxRecDepth 100000 in
theorem tw_351 : Cond.code y_L_groupInodes prog_4_method_6_code 1 (some .int) ∈ TB := inTB 351 rfl rfl
theorem tw_352 : Cond.methodLink R_S 117 y_L_described ∈ TB := inTB 352 (by decide +kernel) rfl
theorem tw_353 : Cond.instanceMethod y_L_described ∈ TB := inTB 353 (by decide +kernel) rfl
theorem tw_354 : Cond.selects R_L y_L_described y_L_described ∈ TB := inTB 354 (by decide +kernel) rfl
set_option maxRecDepth 100000 in
theorem tw_355 : Cond.code y_L_described prog_4_method_10_code 4 (some .long) ∈ TB := inTB 355 rfl rfl
theorem tw_356 : Cond.methodLink R_S 121 y_L_setMap ∈ TB := inTB 356 (by decide +kernel) rfl
theorem tw_357 : Cond.instanceMethod y_L_setMap ∈ TB := inTB 357 (by decide +kernel) rfl
theorem tw_358 : Cond.selects R_L y_L_setMap y_L_setMap ∈ TB := inTB 358 (by decide +kernel) rfl
set_option maxRecDepth 100000 in
theorem tw_359 : Cond.code y_L_setMap prog_4_method_3_code 3 none ∈ TB := inTB 359 rfl rfl
theorem tw_360 : Cond.methodLink R_S 125 y_S_fix ∈ TB := inTB 360 (by decide +kernel) rfl
theorem tw_362 : Cond.instanceMethod y_S_fix ∈ TB := inTB 362 (by decide +kernel) rfl
set_option maxRecDepth 100000 in
theorem tw_363 : Cond.code y_S_fix prog_5_method_9_code 4 none ∈ TB := inTB 363 rfl rfl
theorem tw_364 : Cond.methodLink R_S 128 ⟨"java/lang/Math", "max", "(II)I"⟩ ∈ TB := inTB 364 (by decide +kernel) rfl
theorem tw_365 : Cond.methodLink R_S 53 y_S_treeFault ∈ TB := inTB 365 (by decide +kernel) rfl
theorem tw_367 : Cond.instanceMethod y_S_treeFault ∈ TB := inTB 367 (by decide +kernel) rfl
set_option maxRecDepth 100000 in
theorem tw_368 : Cond.code y_S_treeFault prog_5_method_10_code 2 (some .int) ∈ TB := inTB 368 rfl rfl
theorem tw_369 : Cond.methodLink R_S 137 y_L_isUsed ∈ TB := inTB 369 (by decide +kernel) rfl
theorem tw_370 : Cond.instanceMethod y_L_isUsed ∈ TB := inTB 370 (by decide +kernel) rfl
theorem tw_371 : Cond.selects R_L y_L_isUsed y_L_isUsed ∈ TB := inTB 371 (by decide +kernel) rfl
set_option maxRecDepth 100000 in
theorem tw_372 : Cond.code y_L_isUsed prog_4_method_15_code 4 (some .boolean) ∈ TB := inTB 372 rfl rfl
theorem tw_373 : Cond.methodLink R_L 74 y_L_groupOf ∈ TB := inTB 373 (by decide +kernel) rfl
theorem tw_374 : Cond.instanceMethod y_L_groupOf ∈ TB := inTB 374 (by decide +kernel) rfl
theorem tw_375 : Cond.selects R_L y_L_groupOf y_L_groupOf ∈ TB := inTB 375 (by decide +kernel) rfl
set_option maxRecDepth 100000 in
theorem tw_376 : Cond.code y_L_groupOf prog_4_method_13_code 2 (some .int) ∈ TB := inTB 376 rfl rfl
theorem tw_377 : Cond.constantLong R_L 66 (1024 : Int64) ∈ TB := inTB 377 (by decide +kernel) rfl
theorem tw_378 : Cond.methodLink R_S 140 y_L_typeOf ∈ TB := inTB 378 (by decide +kernel) rfl
theorem tw_379 : Cond.instanceMethod y_L_typeOf ∈ TB := inTB 379 (by decide +kernel) rfl
theorem tw_380 : Cond.selects R_L y_L_typeOf y_L_typeOf ∈ TB := inTB 380 (by decide +kernel) rfl
set_option maxRecDepth 100000 in
theorem tw_381 : Cond.code y_L_typeOf prog_4_method_18_code 2 (some .int) ∈ TB := inTB 381 rfl rfl
theorem tw_382 : Cond.methodLink R_L 77 y_L_inodePlace ∈ TB := inTB 382 (by decide +kernel) rfl
theorem tw_383 : Cond.instanceMethod y_L_inodePlace ∈ TB := inTB 383 (by decide +kernel) rfl
theorem tw_384 : Cond.selects R_L y_L_inodePlace y_L_inodePlace ∈ TB := inTB 384 (by decide +kernel) rfl
set_option maxRecDepth 100000 in
theorem tw_385 : Cond.code y_L_inodePlace prog_4_method_16_code 3 (some .long) ∈ TB := inTB 385 rfl rfl
theorem tw_386 : Cond.constantLong R_L 68 (-1024 : Int64) ∈ TB := inTB 386 (by decide +kernel) rfl
theorem tw_387 : Cond.constant R_L 80 (61440 : Int32) ∈ TB := inTB 387 (by decide +kernel) rfl
theorem tw_388 : Cond.methodLink R_S 143 y_S_takeWhole ∈ TB := inTB 388 (by decide +kernel) rfl
theorem tw_390 : Cond.instanceMethod y_S_takeWhole ∈ TB := inTB 390 (by decide +kernel) rfl
set_option maxRecDepth 100000 in
theorem tw_391 : Cond.code y_S_takeWhole prog_5_method_13_code 10 (some .boolean) ∈ TB := inTB 391 rfl rfl
theorem tw_392 : Cond.methodLink R_S 156 y_L_sizeOf ∈ TB := inTB 392 (by decide +kernel) rfl
theorem tw_393 : Cond.instanceMethod y_L_sizeOf ∈ TB := inTB 393 (by decide +kernel) rfl
theorem tw_394 : Cond.selects R_L y_L_sizeOf y_L_sizeOf ∈ TB := inTB 394 (by decide +kernel) rfl
set_option maxRecDepth 100000 in
theorem tw_395 : Cond.code y_L_sizeOf prog_4_method_19_code 2 (some .long) ∈ TB := inTB 395 rfl rfl
theorem tw_396 : Cond.constantLong R_L 81 (4 : Int64) ∈ TB := inTB 396 (by decide +kernel) rfl
theorem tw_397 : Cond.methodLink R_S 160 y_L_blocksFor ∈ TB := inTB 397 (by decide +kernel) rfl
theorem tw_398 : Cond.instanceMethod y_L_blocksFor ∈ TB := inTB 398 (by decide +kernel) rfl
theorem tw_399 : Cond.selects R_L y_L_blocksFor y_L_blocksFor ∈ TB := inTB 399 (by decide +kernel) rfl
set_option maxRecDepth 100000 in
theorem tw_400 : Cond.code y_L_blocksFor prog_4_method_20_code 3 (some .int) ∈ TB := inTB 400 rfl rfl
theorem tw_401 : Cond.methodLink R_S 164 y_L_field ∈ TB := inTB 401 (by decide +kernel) rfl
theorem tw_402 : Cond.instanceMethod y_L_field ∈ TB := inTB 402 (by decide +kernel) rfl
theorem tw_403 : Cond.selects R_L y_L_field y_L_field ∈ TB := inTB 403 (by decide +kernel) rfl
set_option maxRecDepth 100000 in
theorem tw_404 : Cond.code y_L_field prog_4_method_17_code 4 (some .long) ∈ TB := inTB 404 rfl rfl
theorem tw_405 : Cond.methodLink R_S 167 y_S_spareAreZero ∈ TB := inTB 405 (by decide +kernel) rfl
theorem tw_407 : Cond.instanceMethod y_S_spareAreZero ∈ TB := inTB 407 (by decide +kernel) rfl
set_option maxRecDepth 100000 in
theorem tw_408 : Cond.code y_S_spareAreZero prog_5_method_14_code 6 (some .boolean) ∈ TB := inTB 408 rfl rfl
theorem tw_409 : Cond.methodLink R_S 178 y_L_inodePlace ∈ TB := inTB 409 (by decide +kernel) rfl
theorem tw_410 : Cond.constantLong R_S 181 (40 : Int64) ∈ TB := inTB 410 (by decide +kernel) rfl
theorem tw_411 : Cond.constantLong R_S 183 (88 : Int64) ∈ TB := inTB 411 (by decide +kernel) rfl
theorem tw_412 : Cond.constantLong R_S 185 (92 : Int64) ∈ TB := inTB 412 (by decide +kernel) rfl
theorem tw_413 : Cond.constantLong R_S 187 (96 : Int64) ∈ TB := inTB 413 (by decide +kernel) rfl
theorem tw_414 : Cond.methodLink R_S 170 y_S_take ∈ TB := inTB 414 (by decide +kernel) rfl
theorem tw_416 : Cond.instanceMethod y_S_take ∈ TB := inTB 416 (by decide +kernel) rfl
set_option maxRecDepth 100000 in
theorem tw_417 : Cond.code y_S_take prog_5_method_15_code 4 (some .boolean) ∈ TB := inTB 417 rfl rfl
theorem tw_418 : Cond.methodLink R_S 174 y_L_blockOf ∈ TB := inTB 418 (by decide +kernel) rfl
theorem tw_419 : Cond.instanceMethod y_L_blockOf ∈ TB := inTB 419 (by decide +kernel) rfl
theorem tw_420 : Cond.selects R_L y_L_blockOf y_L_blockOf ∈ TB := inTB 420 (by decide +kernel) rfl
set_option maxRecDepth 100000 in
theorem tw_421 : Cond.code y_L_blockOf prog_4_method_21_code 10 (some .long) ∈ TB := inTB 421 rfl rfl
theorem tw_422 : Cond.constantLong R_L 83 (40 : Int64) ∈ TB := inTB 422 (by decide +kernel) rfl
theorem tw_423 : Cond.constantLong R_L 85 (88 : Int64) ∈ TB := inTB 423 (by decide +kernel) rfl
theorem tw_424 : Cond.constantLong R_L 87 (92 : Int64) ∈ TB := inTB 424 (by decide +kernel) rfl
theorem tw_425 : Cond.methodLink R_S 146 y_S_standInLine ∈ TB := inTB 425 (by decide +kernel) rfl
theorem tw_427 : Cond.instanceMethod y_S_standInLine ∈ TB := inTB 427 (by decide +kernel) rfl
set_option maxRecDepth 100000 in
theorem tw_428 : Cond.code y_S_standInLine prog_5_method_11_code 3 none ∈ TB := inTB 428 rfl rfl
theorem tw_429 : Cond.methodLink R_S 149 y_S_entriesStand ∈ TB := inTB 429 (by decide +kernel) rfl
theorem tw_431 : Cond.instanceMethod y_S_entriesStand ∈ TB := inTB 431 (by decide +kernel) rfl
set_option maxRecDepth 100000 in
theorem tw_432 : Cond.code y_S_entriesStand prog_5_method_16_code 6 (some .boolean) ∈ TB := inTB 432 rfl rfl
theorem tw_433 : Cond.methodLink R_S 189 y_E_start ∈ TB := inTB 433 (by decide +kernel) rfl
theorem tw_434 : Cond.instanceMethod y_E_start ∈ TB := inTB 434 (by decide +kernel) rfl
theorem tw_435 : Cond.selects R_E y_E_start y_E_start ∈ TB := inTB 435 (by decide +kernel) rfl
set_option maxRecDepth 100000 in
theorem tw_436 : Cond.code y_E_start prog_3_method_2_code 2 none ∈ TB := inTB 436 rfl rfl
theorem tw_437 : Cond.methodLink R_E 23 y_L_sizeOf ∈ TB := inTB 437 (by decide +kernel) rfl
theorem tw_438 : Cond.constantLong R_E 39 (1024 : Int64) ∈ TB := inTB 438 (by decide +kernel) rfl
theorem tw_439 : Cond.methodLink R_E 41 y_L_blockOf ∈ TB := inTB 439 (by decide +kernel) rfl
theorem tw_440 : Cond.methodLink R_E 48 y_D_number ∈ TB := inTB 440 (by decide +kernel) rfl
theorem tw_441 : Cond.constant R_S 195 (43691 : Int32) ∈ TB := inTB 441 (by decide +kernel) rfl
theorem tw_442 : Cond.methodLink R_S 196 y_E_isOn ∈ TB := inTB 442 (by decide +kernel) rfl
theorem tw_443 : Cond.instanceMethod y_E_isOn ∈ TB := inTB 443 (by decide +kernel) rfl
theorem tw_444 : Cond.selects R_E y_E_isOn y_E_isOn ∈ TB := inTB 444 (by decide +kernel) rfl
set_option maxRecDepth 100000 in
theorem tw_445 : Cond.code y_E_isOn prog_3_method_3_code 1 (some .boolean) ∈ TB := inTB 445 rfl rfl
theorem tw_446 : Cond.methodLink R_S 199 y_E_fits ∈ TB := inTB 446 (by decide +kernel) rfl
theorem tw_447 : Cond.instanceMethod y_E_fits ∈ TB := inTB 447 (by decide +kernel) rfl
theorem tw_448 : Cond.selects R_E y_E_fits y_E_fits ∈ TB := inTB 448 (by decide +kernel) rfl
set_option maxRecDepth 100000 in
theorem tw_449 : Cond.code y_E_fits prog_3_method_14_code 2 (some .boolean) ∈ TB := inTB 449 rfl rfl
theorem tw_450 : Cond.methodLink R_E 57 y_E_length ∈ TB := inTB 450 (by decide +kernel) rfl
theorem tw_451 : Cond.instanceMethod y_E_length ∈ TB := inTB 451 (by decide +kernel) rfl
theorem tw_452 : Cond.selects R_E y_E_length y_E_length ∈ TB := inTB 452 (by decide +kernel) rfl
set_option maxRecDepth 100000 in
theorem tw_453 : Cond.code y_E_length prog_3_method_8_code 1 (some .int) ∈ TB := inTB 453 rfl rfl
theorem tw_454 : Cond.constant R_E 73 (65535 : Int32) ∈ TB := inTB 454 (by decide +kernel) rfl
theorem tw_455 : Cond.methodLink R_S 202 y_E_isEmpty ∈ TB := inTB 455 (by decide +kernel) rfl
theorem tw_456 : Cond.instanceMethod y_E_isEmpty ∈ TB := inTB 456 (by decide +kernel) rfl
theorem tw_457 : Cond.selects R_E y_E_isEmpty y_E_isEmpty ∈ TB := inTB 457 (by decide +kernel) rfl
set_option maxRecDepth 100000 in
theorem tw_458 : Cond.code y_E_isEmpty prog_3_method_12_code 1 (some .boolean) ∈ TB := inTB 458 rfl rfl
theorem tw_459 : Cond.constantLong R_E 67 (4294967295 : Int64) ∈ TB := inTB 459 (by decide +kernel) rfl
theorem tw_460 : Cond.methodLink R_S 205 y_S_entryStands ∈ TB := inTB 460 (by decide +kernel) rfl
theorem tw_462 : Cond.instanceMethod y_S_entryStands ∈ TB := inTB 462 (by decide +kernel) rfl
set_option maxRecDepth 100000 in
theorem tw_463 : Cond.code y_S_entryStands prog_5_method_17_code 5 (some .boolean) ∈ TB := inTB 463 rfl rfl
theorem tw_464 : Cond.methodLink R_S 214 y_E_hasInode ∈ TB := inTB 464 (by decide +kernel) rfl
theorem tw_465 : Cond.instanceMethod y_E_hasInode ∈ TB := inTB 465 (by decide +kernel) rfl
theorem tw_466 : Cond.selects R_E y_E_hasInode y_E_hasInode ∈ TB := inTB 466 (by decide +kernel) rfl
set_option maxRecDepth 100000 in
theorem tw_467 : Cond.code y_E_hasInode prog_3_method_7_code 1 (some .boolean) ∈ TB := inTB 467 rfl rfl
theorem tw_468 : Cond.methodLink R_E 69 y_L_isInode ∈ TB := inTB 468 (by decide +kernel) rfl
theorem tw_469 : Cond.instanceMethod y_L_isInode ∈ TB := inTB 469 (by decide +kernel) rfl
theorem tw_470 : Cond.selects R_L y_L_isInode y_L_isInode ∈ TB := inTB 470 (by decide +kernel) rfl
set_option maxRecDepth 100000 in
theorem tw_471 : Cond.code y_L_isInode prog_4_method_14_code 3 (some .boolean) ∈ TB := inTB 471 rfl rfl
theorem tw_472 : Cond.methodLink R_S 217 y_E_hasName ∈ TB := inTB 472 (by decide +kernel) rfl
theorem tw_473 : Cond.instanceMethod y_E_hasName ∈ TB := inTB 473 (by decide +kernel) rfl
theorem tw_474 : Cond.selects R_E y_E_hasName y_E_hasName ∈ TB := inTB 474 (by decide +kernel) rfl
set_option maxRecDepth 100000 in
theorem tw_475 : Cond.code y_E_hasName prog_3_method_15_code 5 (some .boolean) ∈ TB := inTB 475 rfl rfl
theorem tw_476 : Cond.methodLink R_E 76 y_E_nameLength ∈ TB := inTB 476 (by decide +kernel) rfl
theorem tw_477 : Cond.instanceMethod y_E_nameLength ∈ TB := inTB 477 (by decide +kernel) rfl
theorem tw_478 : Cond.selects R_E y_E_nameLength y_E_nameLength ∈ TB := inTB 478 (by decide +kernel) rfl
set_option maxRecDepth 100000 in
theorem tw_479 : Cond.code y_E_nameLength prog_3_method_9_code 1 (some .int) ∈ TB := inTB 479 rfl rfl
theorem tw_480 : Cond.constantLong R_E 74 (8 : Int64) ∈ TB := inTB 480 (by decide +kernel) rfl
theorem tw_481 : Cond.constantLong R_E 79 (47 : Int64) ∈ TB := inTB 481 (by decide +kernel) rfl
theorem tw_482 : Cond.methodLink R_S 220 y_E_inode ∈ TB := inTB 482 (by decide +kernel) rfl
theorem tw_483 : Cond.instanceMethod y_E_inode ∈ TB := inTB 483 (by decide +kernel) rfl
theorem tw_484 : Cond.selects R_E y_E_inode y_E_inode ∈ TB := inTB 484 (by decide +kernel) rfl
set_option maxRecDepth 100000 in
theorem tw_485 : Cond.code y_E_inode prog_3_method_6_code 1 (some .int) ∈ TB := inTB 485 rfl rfl
theorem tw_486 : Cond.methodLink R_S 211 y_E_order ∈ TB := inTB 486 (by decide +kernel) rfl
theorem tw_487 : Cond.instanceMethod y_E_order ∈ TB := inTB 487 (by decide +kernel) rfl
theorem tw_488 : Cond.selects R_E y_E_order y_E_order ∈ TB := inTB 488 (by decide +kernel) rfl
set_option maxRecDepth 100000 in
theorem tw_489 : Cond.code y_E_order prog_3_method_5_code 1 (some .int) ∈ TB := inTB 489 rfl rfl
theorem tw_490 : Cond.methodLink R_S 223 y_E_isOneDot ∈ TB := inTB 490 (by decide +kernel) rfl
theorem tw_491 : Cond.instanceMethod y_E_isOneDot ∈ TB := inTB 491 (by decide +kernel) rfl
theorem tw_492 : Cond.selects R_E y_E_isOneDot y_E_isOneDot ∈ TB := inTB 492 (by decide +kernel) rfl
set_option maxRecDepth 100000 in
theorem tw_493 : Cond.code y_E_isOneDot prog_3_method_16_code 1 (some .boolean) ∈ TB := inTB 493 rfl rfl
theorem tw_494 : Cond.constantLong R_E 81 (46 : Int64) ∈ TB := inTB 494 (by decide +kernel) rfl
theorem tw_495 : Cond.methodLink R_S 226 y_E_mark ∈ TB := inTB 495 (by decide +kernel) rfl
theorem tw_496 : Cond.instanceMethod y_E_mark ∈ TB := inTB 496 (by decide +kernel) rfl
theorem tw_497 : Cond.selects R_E y_E_mark y_E_mark ∈ TB := inTB 497 (by decide +kernel) rfl
set_option maxRecDepth 100000 in
theorem tw_498 : Cond.code y_E_mark prog_3_method_10_code 1 (some .int) ∈ TB := inTB 498 rfl rfl
theorem tw_499 : Cond.methodLink R_S 229 y_E_isTwoDots ∈ TB := inTB 499 (by decide +kernel) rfl
theorem tw_500 : Cond.instanceMethod y_E_isTwoDots ∈ TB := inTB 500 (by decide +kernel) rfl
theorem tw_501 : Cond.selects R_E y_E_isTwoDots y_E_isTwoDots ∈ TB := inTB 501 (by decide +kernel) rfl
set_option maxRecDepth 100000 in
theorem tw_502 : Cond.code y_E_isTwoDots prog_3_method_17_code 1 (some .boolean) ∈ TB := inTB 502 rfl rfl
theorem tw_503 : Cond.constantLong R_E 83 (11822 : Int64) ∈ TB := inTB 503 (by decide +kernel) rfl
theorem tw_504 : Cond.constant R_S 232 (32768 : Int32) ∈ TB := inTB 504 (by decide +kernel) rfl
theorem tw_505 : Cond.methodLink R_S 208 y_E_advance ∈ TB := inTB 505 (by decide +kernel) rfl
theorem tw_506 : Cond.instanceMethod y_E_advance ∈ TB := inTB 506 (by decide +kernel) rfl
theorem tw_507 : Cond.selects R_E y_E_advance y_E_advance ∈ TB := inTB 507 (by decide +kernel) rfl
set_option maxRecDepth 100000 in
theorem tw_508 : Cond.code y_E_advance prog_3_method_4_code 1 none ∈ TB := inTB 508 rfl rfl
theorem tw_509 : Cond.methodLink R_E 61 ⟨"java/lang/Math", "max", "(II)I"⟩ ∈ TB := inTB 509 (by decide +kernel) rfl
theorem tw_510 : Cond.methodLink R_S 153 y_S_itemsComeUp ∈ TB := inTB 510 (by decide +kernel) rfl
theorem tw_512 : Cond.instanceMethod y_S_itemsComeUp ∈ TB := inTB 512 (by decide +kernel) rfl
set_option maxRecDepth 100000 in
theorem tw_513 : Cond.code y_S_itemsComeUp prog_5_method_18_code 5 (some .boolean) ∈ TB := inTB 513 rfl rfl
theorem tw_514 : Cond.methodLink R_S 233 y_E_isItem ∈ TB := inTB 514 (by decide +kernel) rfl
theorem tw_515 : Cond.instanceMethod y_E_isItem ∈ TB := inTB 515 (by decide +kernel) rfl
theorem tw_516 : Cond.selects R_E y_E_isItem y_E_isItem ∈ TB := inTB 516 (by decide +kernel) rfl
set_option maxRecDepth 100000 in
theorem tw_517 : Cond.code y_E_isItem prog_3_method_13_code 1 (some .boolean) ∈ TB := inTB 517 rfl rfl
theorem tw_518 : Cond.methodLink R_S 236 y_S_isKnown ∈ TB := inTB 518 (by decide +kernel) rfl
theorem tw_520 : Cond.instanceMethod y_S_isKnown ∈ TB := inTB 520 (by decide +kernel) rfl
set_option maxRecDepth 100000 in
theorem tw_521 : Cond.code y_S_isKnown prog_5_method_12_code 2 (some .boolean) ∈ TB := inTB 521 rfl rfl
theorem tw_522 : Cond.methodLink R_S 57 y_S_lateFault ∈ TB := inTB 522 (by decide +kernel) rfl
theorem tw_524 : Cond.instanceMethod y_S_lateFault ∈ TB := inTB 524 (by decide +kernel) rfl
set_option maxRecDepth 100000 in
theorem tw_525 : Cond.code y_S_lateFault prog_5_method_19_code 1 (some .int) ∈ TB := inTB 525 rfl rfl
theorem tw_526 : Cond.methodLink R_S 239 y_S_linksStand ∈ TB := inTB 526 (by decide +kernel) rfl
theorem tw_528 : Cond.instanceMethod y_S_linksStand ∈ TB := inTB 528 (by decide +kernel) rfl
set_option maxRecDepth 100000 in
theorem tw_529 : Cond.code y_S_linksStand prog_5_method_20_code 3 (some .boolean) ∈ TB := inTB 529 rfl rfl
theorem tw_530 : Cond.methodLink R_S 242 y_S_inodesStand ∈ TB := inTB 530 (by decide +kernel) rfl
theorem tw_532 : Cond.instanceMethod y_S_inodesStand ∈ TB := inTB 532 (by decide +kernel) rfl
set_option maxRecDepth 100000 in
theorem tw_533 : Cond.code y_S_inodesStand prog_5_method_21_code 3 (some .boolean) ∈ TB := inTB 533 rfl rfl
theorem tw_534 : Cond.methodLink R_S 248 y_S_isBlank ∈ TB := inTB 534 (by decide +kernel) rfl
theorem tw_536 : Cond.instanceMethod y_S_isBlank ∈ TB := inTB 536 (by decide +kernel) rfl
set_option maxRecDepth 100000 in
theorem tw_537 : Cond.code y_S_isBlank prog_5_method_22_code 5 (some .boolean) ∈ TB := inTB 537 rfl rfl
theorem tw_538 : Cond.methodLink R_S 245 y_S_mapsStand ∈ TB := inTB 538 (by decide +kernel) rfl
theorem tw_540 : Cond.instanceMethod y_S_mapsStand ∈ TB := inTB 540 (by decide +kernel) rfl
set_option maxRecDepth 100000 in
theorem tw_541 : Cond.code y_S_mapsStand prog_5_method_23_code 6 (some .boolean) ∈ TB := inTB 541 rfl rfl
theorem tw_542 : Cond.methodLink R_S 251 y_S_blockMapStands ∈ TB := inTB 542 (by decide +kernel) rfl
theorem tw_544 : Cond.instanceMethod y_S_blockMapStands ∈ TB := inTB 544 (by decide +kernel) rfl
set_option maxRecDepth 100000 in
theorem tw_545 : Cond.code y_S_blockMapStands prog_5_method_25_code 4 (some .boolean) ∈ TB := inTB 545 rfl rfl
theorem tw_546 : Cond.methodLink R_S 270 y_L_blockMap ∈ TB := inTB 546 (by decide +kernel) rfl
theorem tw_547 : Cond.instanceMethod y_L_blockMap ∈ TB := inTB 547 (by decide +kernel) rfl
theorem tw_548 : Cond.selects R_L y_L_blockMap y_L_blockMap ∈ TB := inTB 548 (by decide +kernel) rfl
set_option maxRecDepth 100000 in
theorem tw_549 : Cond.code y_L_blockMap prog_4_method_11_code 2 (some .long) ∈ TB := inTB 549 rfl rfl
theorem tw_550 : Cond.methodLink R_S 273 y_D_bit ∈ TB := inTB 550 (by decide +kernel) rfl
theorem tw_551 : Cond.instanceMethod y_D_bit ∈ TB := inTB 551 (by decide +kernel) rfl
theorem tw_552 : Cond.selects R_D y_D_bit y_D_bit ∈ TB := inTB 552 (by decide +kernel) rfl
set_option maxRecDepth 100000 in
theorem tw_553 : Cond.code y_D_bit prog_2_method_8_code 4 (some .boolean) ∈ TB := inTB 553 rfl rfl
theorem tw_554 : Cond.methodLink R_S 276 y_S_isTaken ∈ TB := inTB 554 (by decide +kernel) rfl
theorem tw_556 : Cond.instanceMethod y_S_isTaken ∈ TB := inTB 556 (by decide +kernel) rfl
set_option maxRecDepth 100000 in
theorem tw_557 : Cond.code y_S_isTaken prog_5_method_24_code 2 (some .boolean) ∈ TB := inTB 557 rfl rfl
theorem tw_558 : Cond.methodLink R_S 257 y_D_onesFrom ∈ TB := inTB 558 (by decide +kernel) rfl
theorem tw_559 : Cond.instanceMethod y_D_onesFrom ∈ TB := inTB 559 (by decide +kernel) rfl
theorem tw_560 : Cond.selects R_D y_D_onesFrom y_D_onesFrom ∈ TB := inTB 560 (by decide +kernel) rfl
set_option maxRecDepth 100000 in
theorem tw_561 : Cond.code y_D_onesFrom prog_2_method_9_code 5 (some .boolean) ∈ TB := inTB 561 rfl rfl
theorem tw_562 : Cond.methodLink R_S 254 y_L_inodeMap ∈ TB := inTB 562 (by decide +kernel) rfl
theorem tw_563 : Cond.instanceMethod y_L_inodeMap ∈ TB := inTB 563 (by decide +kernel) rfl
theorem tw_564 : Cond.selects R_L y_L_inodeMap y_L_inodeMap ∈ TB := inTB 564 (by decide +kernel) rfl
set_option maxRecDepth 100000 in
theorem tw_565 : Cond.code y_L_inodeMap prog_4_method_12_code 2 (some .long) ∈ TB := inTB 565 rfl rfl
theorem tw_566 : Cond.methodLink R_L 70 y_L_blockMap ∈ TB := inTB 566 (by decide +kernel) rfl
theorem tw_567 : Cond.methodLink R_S 261 y_S_freeBlocks ∈ TB := inTB 567 (by decide +kernel) rfl
theorem tw_569 : Cond.instanceMethod y_S_freeBlocks ∈ TB := inTB 569 (by decide +kernel) rfl
set_option maxRecDepth 100000 in
theorem tw_570 : Cond.code y_S_freeBlocks prog_5_method_26_code 5 (some .int) ∈ TB := inTB 570 rfl rfl
theorem tw_571 : Cond.methodLink R_S 264 y_S_freeInodes ∈ TB := inTB 571 (by decide +kernel) rfl
theorem tw_573 : Cond.instanceMethod y_S_freeInodes ∈ TB := inTB 573 (by decide +kernel) rfl
set_option maxRecDepth 100000 in
theorem tw_574 : Cond.code y_S_freeInodes prog_5_method_27_code 4 (some .int) ∈ TB := inTB 574 rfl rfl
theorem tw_575 : Cond.methodLink R_S 267 y_S_directories ∈ TB := inTB 575 (by decide +kernel) rfl
theorem tw_577 : Cond.instanceMethod y_S_directories ∈ TB := inTB 577 (by decide +kernel) rfl
set_option maxRecDepth 100000 in
theorem tw_578 : Cond.code y_S_directories prog_5_method_28_code 4 (some .int) ∈ TB := inTB 578 rfl rfl
theorem tw_579 : Cond.methodLink R_S 279 y_L_groupOf ∈ TB := inTB 579 (by decide +kernel) rfl
theorem tw_591 : Cond.classLink R_V 75 "java/lang/IllegalStateException" ∈ TB := inTB 591 (by decide +kernel) rfl
theorem tw_659 : Cond.methodLink R_V 82 y_V_countItems ∈ TB := inTB 659 (by decide +kernel) rfl
theorem tw_661 : Cond.instanceMethod y_V_countItems ∈ TB := inTB 661 (by decide +kernel) rfl
set_option maxRecDepth 100000 in
theorem tw_662 : Cond.code y_V_countItems prog_1_method_14_code 3 (some .int) ∈ TB := inTB 662 rfl rfl
theorem tw_663 : Cond.methodLink R_V 130 y_E_start ∈ TB := inTB 663 (by decide +kernel) rfl
theorem tw_664 : Cond.constant R_V 139 (43691 : Int32) ∈ TB := inTB 664 (by decide +kernel) rfl
theorem tw_665 : Cond.methodLink R_V 140 y_E_isOn ∈ TB := inTB 665 (by decide +kernel) rfl
theorem tw_666 : Cond.methodLink R_V 144 y_E_isItem ∈ TB := inTB 666 (by decide +kernel) rfl
theorem tw_667 : Cond.methodLink R_V 133 y_E_advance ∈ TB := inTB 667 (by decide +kernel) rfl
theorem tw_676 : Cond.methodLink R_V 85 y_V_seekItem ∈ TB := inTB 676 (by decide +kernel) rfl
theorem tw_678 : Cond.instanceMethod y_V_seekItem ∈ TB := inTB 678 (by decide +kernel) rfl
set_option maxRecDepth 100000 in
theorem tw_679 : Cond.code y_V_seekItem prog_1_method_15_code 4 none ∈ TB := inTB 679 rfl rfl
theorem tw_680 : Cond.classLink R_V 88 "java/lang/IndexOutOfBoundsException" ∈ TB := inTB 680 (by decide +kernel) rfl
theorem tw_697 : Cond.methodLink R_V 93 y_E_nameLength ∈ TB := inTB 697 (by decide +kernel) rfl
theorem tw_698 : Cond.methodLink R_V 96 y_E_nameByte ∈ TB := inTB 698 (by decide +kernel) rfl
theorem tw_699 : Cond.instanceMethod y_E_nameByte ∈ TB := inTB 699 (by decide +kernel) rfl
theorem tw_700 : Cond.selects R_E y_E_nameByte y_E_nameByte ∈ TB := inTB 700 (by decide +kernel) rfl
set_option maxRecDepth 100000 in
theorem tw_701 : Cond.code y_E_nameByte prog_3_method_11_code 2 (some .int) ∈ TB := inTB 701 rfl rfl
theorem tw_710 : Cond.methodLink R_V 100 y_E_inode ∈ TB := inTB 710 (by decide +kernel) rfl
theorem tw_711 : Cond.methodLink R_V 103 y_L_typeOf ∈ TB := inTB 711 (by decide +kernel) rfl
theorem tw_712 : Cond.methodLink R_V 106 y_L_sizeOf ∈ TB := inTB 712 (by decide +kernel) rfl
theorem tw_713 : Cond.methodLink R_V 110 y_L_field ∈ TB := inTB 713 (by decide +kernel) rfl
theorem tw_714 : Cond.methodLink R_V 114 y_V_lastBlock ∈ TB := inTB 714 (by decide +kernel) rfl
theorem tw_716 : Cond.instanceMethod y_V_lastBlock ∈ TB := inTB 716 (by decide +kernel) rfl
set_option maxRecDepth 100000 in
theorem tw_717 : Cond.code y_V_lastBlock prog_1_method_16_code 3 (some .long) ∈ TB := inTB 717 rfl rfl
theorem tw_718 : Cond.methodLink R_V 149 y_L_blocksFor ∈ TB := inTB 718 (by decide +kernel) rfl
theorem tw_719 : Cond.methodLink R_V 124 y_L_blockOf ∈ TB := inTB 719 (by decide +kernel) rfl
theorem tw_720 : Cond.classLink R_V 117 "java/lang/IllegalArgumentException" ∈ TB := inTB 720 (by decide +kernel) rfl
theorem tw_743 : Cond.constantLong R_V 122 (1024 : Int64) ∈ TB := inTB 743 (by decide +kernel) rfl
theorem tw_766 : Cond.fieldLink R_M 44 R_M "thrown" "I" ∈ TB := inTB 766 (by decide +kernel) rfl
theorem tw_767 : Cond.fieldLink R_M 41 R_M "blocks" "I" ∈ TB := inTB 767 (by decide +kernel) rfl
theorem tw_768 : Cond.fieldLink R_M 8 R_M "disk" "[B" ∈ TB := inTB 768 (by decide +kernel) rfl
theorem tw_769 : Cond.fieldLink R_M 58 R_M "looked" "Z" ∈ TB := inTB 769 (by decide +kernel) rfl
theorem tw_770 : Cond.fieldLink R_M 201 R_M "fault" "I" ∈ TB := inTB 770 (by decide +kernel) rfl
theorem tw_771 : Cond.fieldLink R_M 70 R_M "p" "I" ∈ TB := inTB 771 (by decide +kernel) rfl
theorem tw_772 : Cond.fieldLink R_M 93 R_M "g" "I" ∈ TB := inTB 772 (by decide +kernel) rfl
theorem tw_773 : Cond.fieldLink R_M 96 R_M "j" "I" ∈ TB := inTB 773 (by decide +kernel) rfl
theorem tw_774 : Cond.fieldLink R_M 73 R_M "q" "I" ∈ TB := inTB 774 (by decide +kernel) rfl
theorem tw_775 : Cond.fieldLink R_M 14 R_M "map" "[I" ∈ TB := inTB 775 (by decide +kernel) rfl
theorem tw_776 : Cond.fieldLink R_M 18 R_M "fixed" "[Z" ∈ TB := inTB 776 (by decide +kernel) rfl
theorem tw_777 : Cond.fieldLink R_M 22 R_M "taken" "[Z" ∈ TB := inTB 777 (by decide +kernel) rfl
theorem tw_778 : Cond.fieldLink R_M 160 R_M "many" "I" ∈ TB := inTB 778 (by decide +kernel) rfl
theorem tw_779 : Cond.fieldLink R_M 25 R_M "order" "[I" ∈ TB := inTB 779 (by decide +kernel) rfl
theorem tw_780 : Cond.fieldLink R_M 28 R_M "parent" "[I" ∈ TB := inTB 780 (by decide +kernel) rfl
theorem tw_781 : Cond.fieldLink R_M 31 R_M "folders" "[I" ∈ TB := inTB 781 (by decide +kernel) rfl
theorem tw_782 : Cond.fieldLink R_M 34 R_M "came" "[Z" ∈ TB := inTB 782 (by decide +kernel) rfl
theorem tw_783 : Cond.fieldLink R_M 37 R_M "here" "I" ∈ TB := inTB 783 (by decide +kernel) rfl
theorem tw_784 : Cond.fieldLink R_M 157 R_M "found" "I" ∈ TB := inTB 784 (by decide +kernel) rfl
theorem tw_833 : Cond.methodLink R_M 62 y_M_isThere ∈ TB := inTB 833 (by decide +kernel) rfl
theorem tw_835 : Cond.instanceMethod y_M_isThere ∈ TB := inTB 835 (by decide +kernel) rfl
set_option maxRecDepth 100000 in
theorem tw_836 : Cond.code y_M_isThere prog_7_method_7_code 5 (some .boolean) ∈ TB := inTB 836 rfl rfl
theorem tw_837 : Cond.constantLong R_M 56 (1024 : Int64) ∈ TB := inTB 837 (by decide +kernel) rfl
theorem tw_838 : Cond.methodLink R_M 66 y_M_changed ∈ TB := inTB 838 (by decide +kernel) rfl
theorem tw_840 : Cond.instanceMethod y_M_changed ∈ TB := inTB 840 (by decide +kernel) rfl
set_option maxRecDepth 100000 in
theorem tw_841 : Cond.code y_M_changed prog_7_method_8_code 1 (some .boolean) ∈ TB := inTB 841 rfl rfl
theorem tw_854 : Cond.methodLink R_M 47 y_M_one ∈ TB := inTB 854 (by decide +kernel) rfl
theorem tw_856 : Cond.instanceMethod y_M_one ∈ TB := inTB 856 (by decide +kernel) rfl
set_option maxRecDepth 100000 in
theorem tw_857 : Cond.code y_M_one prog_7_method_4_code 2 (some .int) ∈ TB := inTB 857 rfl rfl
theorem tw_862 : Cond.methodLink R_M 204 y_M_look ∈ TB := inTB 862 (by decide +kernel) rfl
theorem tw_864 : Cond.instanceMethod y_M_look ∈ TB := inTB 864 (by decide +kernel) rfl
set_option maxRecDepth 100000 in
theorem tw_865 : Cond.code y_M_look prog_7_method_41_code 1 none ∈ TB := inTB 865 rfl rfl
theorem tw_866 : Cond.methodLink R_M 198 y_M_firstFault ∈ TB := inTB 866 (by decide +kernel) rfl
theorem tw_868 : Cond.instanceMethod y_M_firstFault ∈ TB := inTB 868 (by decide +kernel) rfl
set_option maxRecDepth 100000 in
theorem tw_869 : Cond.code y_M_firstFault prog_7_method_40_code 2 (some .int) ∈ TB := inTB 869 rfl rfl
theorem tw_870 : Cond.methodLink R_M 176 y_M_badHead ∈ TB := inTB 870 (by decide +kernel) rfl
theorem tw_872 : Cond.instanceMethod y_M_badHead ∈ TB := inTB 872 (by decide +kernel) rfl
set_option maxRecDepth 100000 in
theorem tw_873 : Cond.code y_M_badHead prog_7_method_15_code 7 (some .boolean) ∈ TB := inTB 873 rfl rfl
theorem tw_874 : Cond.methodLink R_M 79 y_M_four ∈ TB := inTB 874 (by decide +kernel) rfl
theorem tw_876 : Cond.instanceMethod y_M_four ∈ TB := inTB 876 (by decide +kernel) rfl
set_option maxRecDepth 100000 in
theorem tw_877 : Cond.code y_M_four prog_7_method_6_code 2 (some .long) ∈ TB := inTB 877 rfl rfl
theorem tw_878 : Cond.methodLink R_M 51 y_M_two ∈ TB := inTB 878 (by decide +kernel) rfl
theorem tw_880 : Cond.instanceMethod y_M_two ∈ TB := inTB 880 (by decide +kernel) rfl
set_option maxRecDepth 100000 in
theorem tw_881 : Cond.code y_M_two prog_7_method_5_code 2 (some .int) ∈ TB := inTB 881 rfl rfl
theorem tw_882 : Cond.constantLong R_M 54 (65536 : Int64) ∈ TB := inTB 882 (by decide +kernel) rfl
theorem tw_883 : Cond.constantLong R_M 83 (64 : Int64) ∈ TB := inTB 883 (by decide +kernel) rfl
theorem tw_884 : Cond.constantLong R_M 85 (128 : Int64) ∈ TB := inTB 884 (by decide +kernel) rfl
theorem tw_885 : Cond.constantLong R_M 87 (256 : Int64) ∈ TB := inTB 885 (by decide +kernel) rfl
theorem tw_886 : Cond.constantLong R_M 89 (8 : Int64) ∈ TB := inTB 886 (by decide +kernel) rfl
theorem tw_887 : Cond.constantLong R_M 91 (8192 : Int64) ∈ TB := inTB 887 (by decide +kernel) rfl
theorem tw_888 : Cond.constant R_M 99 (61267 : Int32) ∈ TB := inTB 888 (by decide +kernel) rfl
theorem tw_889 : Cond.constantLong R_M 100 (11 : Int64) ∈ TB := inTB 889 (by decide +kernel) rfl
theorem tw_890 : Cond.constantLong R_M 102 (2 : Int64) ∈ TB := inTB 890 (by decide +kernel) rfl
theorem tw_891 : Cond.methodLink R_M 179 y_M_badCopies ∈ TB := inTB 891 (by decide +kernel) rfl
theorem tw_893 : Cond.instanceMethod y_M_badCopies ∈ TB := inTB 893 (by decide +kernel) rfl
set_option maxRecDepth 100000 in
theorem tw_894 : Cond.code y_M_badCopies prog_7_method_16_code 4 (some .boolean) ∈ TB := inTB 894 rfl rfl
theorem tw_895 : Cond.methodLink R_M 104 y_M_sizeOf ∈ TB := inTB 895 (by decide +kernel) rfl
theorem tw_897 : Cond.instanceMethod y_M_sizeOf ∈ TB := inTB 897 (by decide +kernel) rfl
set_option maxRecDepth 100000 in
theorem tw_898 : Cond.code y_M_sizeOf prog_7_method_14_code 2 (some .int) ∈ TB := inTB 898 rfl rfl
theorem tw_899 : Cond.methodLink R_M 76 y_M_begin ∈ TB := inTB 899 (by decide +kernel) rfl
theorem tw_901 : Cond.instanceMethod y_M_begin ∈ TB := inTB 901 (by decide +kernel) rfl
set_option maxRecDepth 100000 in
theorem tw_902 : Cond.code y_M_begin prog_7_method_13_code 2 (some .int) ∈ TB := inTB 902 rfl rfl
theorem tw_903 : Cond.methodLink R_M 182 y_M_badMaps ∈ TB := inTB 903 (by decide +kernel) rfl
theorem tw_905 : Cond.instanceMethod y_M_badMaps ∈ TB := inTB 905 (by decide +kernel) rfl
set_option maxRecDepth 100000 in
theorem tw_906 : Cond.code y_M_badMaps prog_7_method_18_code 7 (some .boolean) ∈ TB := inTB 906 rfl rfl
theorem tw_907 : Cond.methodLink R_M 107 y_M_fixes ∈ TB := inTB 907 (by decide +kernel) rfl
theorem tw_909 : Cond.instanceMethod y_M_fixes ∈ TB := inTB 909 (by decide +kernel) rfl
set_option maxRecDepth 100000 in
theorem tw_910 : Cond.code y_M_fixes prog_7_method_17_code 3 (some .boolean) ∈ TB := inTB 910 rfl rfl
theorem tw_911 : Cond.methodLink R_M 185 y_M_tree ∈ TB := inTB 911 (by decide +kernel) rfl
theorem tw_913 : Cond.instanceMethod y_M_tree ∈ TB := inTB 913 (by decide +kernel) rfl
set_option maxRecDepth 100000 in
theorem tw_914 : Cond.code y_M_tree prog_7_method_36_code 5 (some .int) ∈ TB := inTB 914 rfl rfl
theorem tw_915 : Cond.methodLink R_M 149 y_M_isUsed ∈ TB := inTB 915 (by decide +kernel) rfl
theorem tw_917 : Cond.instanceMethod y_M_isUsed ∈ TB := inTB 917 (by decide +kernel) rfl
set_option maxRecDepth 100000 in
theorem tw_918 : Cond.code y_M_isUsed prog_7_method_21_code 2 (some .boolean) ∈ TB := inTB 918 rfl rfl
theorem tw_919 : Cond.methodLink R_M 111 y_M_bit ∈ TB := inTB 919 (by decide +kernel) rfl
theorem tw_921 : Cond.instanceMethod y_M_bit ∈ TB := inTB 921 (by decide +kernel) rfl
set_option maxRecDepth 100000 in
theorem tw_922 : Cond.code y_M_bit prog_7_method_20_code 3 (some .boolean) ∈ TB := inTB 922 rfl rfl
theorem tw_923 : Cond.methodLink R_M 146 y_M_typeOf ∈ TB := inTB 923 (by decide +kernel) rfl
theorem tw_925 : Cond.instanceMethod y_M_typeOf ∈ TB := inTB 925 (by decide +kernel) rfl
set_option maxRecDepth 100000 in
theorem tw_926 : Cond.code y_M_typeOf prog_7_method_22_code 2 (some .int) ∈ TB := inTB 926 rfl rfl
theorem tw_927 : Cond.methodLink R_M 115 y_M_inodeAt ∈ TB := inTB 927 (by decide +kernel) rfl
theorem tw_929 : Cond.instanceMethod y_M_inodeAt ∈ TB := inTB 929 (by decide +kernel) rfl
set_option maxRecDepth 100000 in
theorem tw_930 : Cond.code y_M_inodeAt prog_7_method_19_code 2 (some .int) ∈ TB := inTB 930 rfl rfl
theorem tw_931 : Cond.constant R_M 118 (61440 : Int32) ∈ TB := inTB 931 (by decide +kernel) rfl
theorem tw_932 : Cond.methodLink R_M 163 y_M_isWhole ∈ TB := inTB 932 (by decide +kernel) rfl
theorem tw_934 : Cond.instanceMethod y_M_isWhole ∈ TB := inTB 934 (by decide +kernel) rfl
set_option maxRecDepth 100000 in
theorem tw_935 : Cond.code y_M_isWhole prog_7_method_28_code 7 (some .boolean) ∈ TB := inTB 935 rfl rfl
theorem tw_936 : Cond.methodLink R_M 123 y_M_sizeOfInode ∈ TB := inTB 936 (by decide +kernel) rfl
theorem tw_938 : Cond.instanceMethod y_M_sizeOfInode ∈ TB := inTB 938 (by decide +kernel) rfl
set_option maxRecDepth 100000 in
theorem tw_939 : Cond.code y_M_sizeOfInode prog_7_method_23_code 2 (some .long) ∈ TB := inTB 939 rfl rfl
theorem tw_940 : Cond.methodLink R_M 126 y_M_parts ∈ TB := inTB 940 (by decide +kernel) rfl
theorem tw_941 : Cond.static y_M_parts ∈ TB := inTB 941 (by decide +kernel) rfl
set_option maxRecDepth 100000 in
theorem tw_942 : Cond.code y_M_parts prog_7_method_25_code 2 (some .int) ∈ TB := inTB 942 rfl rfl
theorem tw_943 : Cond.methodLink R_M 119 y_M_pointer ∈ TB := inTB 943 (by decide +kernel) rfl
theorem tw_945 : Cond.instanceMethod y_M_pointer ∈ TB := inTB 945 (by decide +kernel) rfl
set_option maxRecDepth 100000 in
theorem tw_946 : Cond.code y_M_pointer prog_7_method_24_code 3 (some .long) ∈ TB := inTB 946 rfl rfl
theorem tw_947 : Cond.methodLink R_M 130 y_M_takes ∈ TB := inTB 947 (by decide +kernel) rfl
theorem tw_949 : Cond.instanceMethod y_M_takes ∈ TB := inTB 949 (by decide +kernel) rfl
set_option maxRecDepth 100000 in
theorem tw_950 : Cond.code y_M_takes prog_7_method_26_code 3 (some .boolean) ∈ TB := inTB 950 rfl rfl
theorem tw_951 : Cond.methodLink R_M 134 y_M_blockOf ∈ TB := inTB 951 (by decide +kernel) rfl
theorem tw_953 : Cond.instanceMethod y_M_blockOf ∈ TB := inTB 953 (by decide +kernel) rfl
set_option maxRecDepth 100000 in
theorem tw_954 : Cond.code y_M_blockOf prog_7_method_27_code 4 (some .long) ∈ TB := inTB 954 rfl rfl
theorem tw_955 : Cond.methodLink R_M 166 y_M_comes ∈ TB := inTB 955 (by decide +kernel) rfl
theorem tw_957 : Cond.instanceMethod y_M_comes ∈ TB := inTB 957 (by decide +kernel) rfl
set_option maxRecDepth 100000 in
theorem tw_958 : Cond.code y_M_comes prog_7_method_35_code 3 none ∈ TB := inTB 958 rfl rfl
theorem tw_959 : Cond.methodLink R_M 170 y_M_badEntries ∈ TB := inTB 959 (by decide +kernel) rfl
theorem tw_961 : Cond.instanceMethod y_M_badEntries ∈ TB := inTB 961 (by decide +kernel) rfl
set_option maxRecDepth 100000 in
theorem tw_962 : Cond.code y_M_badEntries prog_7_method_33_code 7 (some .boolean) ∈ TB := inTB 962 rfl rfl
theorem tw_963 : Cond.methodLink R_M 153 y_M_isEntry ∈ TB := inTB 963 (by decide +kernel) rfl
theorem tw_965 : Cond.instanceMethod y_M_isEntry ∈ TB := inTB 965 (by decide +kernel) rfl
set_option maxRecDepth 100000 in
theorem tw_966 : Cond.code y_M_isEntry prog_7_method_32_code 11 (some .boolean) ∈ TB := inTB 966 rfl rfl
theorem tw_967 : Cond.methodLink R_M 140 y_M_lengthAt ∈ TB := inTB 967 (by decide +kernel) rfl
theorem tw_969 : Cond.instanceMethod y_M_lengthAt ∈ TB := inTB 969 (by decide +kernel) rfl
set_option maxRecDepth 100000 in
theorem tw_970 : Cond.code y_M_lengthAt prog_7_method_29_code 2 (some .int) ∈ TB := inTB 970 rfl rfl
theorem tw_971 : Cond.methodLink R_M 137 y_M_nameSize ∈ TB := inTB 971 (by decide +kernel) rfl
theorem tw_973 : Cond.instanceMethod y_M_nameSize ∈ TB := inTB 973 (by decide +kernel) rfl
set_option maxRecDepth 100000 in
theorem tw_974 : Cond.code y_M_nameSize prog_7_method_30_code 2 (some .int) ∈ TB := inTB 974 rfl rfl
theorem tw_975 : Cond.methodLink R_M 143 y_M_isDots ∈ TB := inTB 975 (by decide +kernel) rfl
theorem tw_977 : Cond.instanceMethod y_M_isDots ∈ TB := inTB 977 (by decide +kernel) rfl
set_option maxRecDepth 100000 in
theorem tw_978 : Cond.code y_M_isDots prog_7_method_31_code 5 (some .boolean) ∈ TB := inTB 978 rfl rfl
theorem tw_979 : Cond.constant R_M 152 (32768 : Int32) ∈ TB := inTB 979 (by decide +kernel) rfl
theorem tw_980 : Cond.methodLink R_M 173 y_M_finds ∈ TB := inTB 980 (by decide +kernel) rfl
theorem tw_982 : Cond.instanceMethod y_M_finds ∈ TB := inTB 982 (by decide +kernel) rfl
set_option maxRecDepth 100000 in
theorem tw_983 : Cond.code y_M_finds prog_7_method_34_code 8 (some .boolean) ∈ TB := inTB 983 rfl rfl
theorem tw_984 : Cond.methodLink R_M 189 y_M_badLinks ∈ TB := inTB 984 (by decide +kernel) rfl
theorem tw_986 : Cond.instanceMethod y_M_badLinks ∈ TB := inTB 986 (by decide +kernel) rfl
set_option maxRecDepth 100000 in
theorem tw_987 : Cond.code y_M_badLinks prog_7_method_37_code 3 (some .boolean) ∈ TB := inTB 987 rfl rfl
theorem tw_988 : Cond.methodLink R_M 192 y_M_badInodes ∈ TB := inTB 988 (by decide +kernel) rfl
theorem tw_990 : Cond.instanceMethod y_M_badInodes ∈ TB := inTB 990 (by decide +kernel) rfl
set_option maxRecDepth 100000 in
theorem tw_991 : Cond.code y_M_badInodes prog_7_method_38_code 3 (some .boolean) ∈ TB := inTB 991 rfl rfl
theorem tw_992 : Cond.methodLink R_M 195 y_M_badCounts ∈ TB := inTB 992 (by decide +kernel) rfl
theorem tw_994 : Cond.instanceMethod y_M_badCounts ∈ TB := inTB 994 (by decide +kernel) rfl
set_option maxRecDepth 100000 in
theorem tw_995 : Cond.code y_M_badCounts prog_7_method_39_code 12 (some .boolean) ∈ TB := inTB 995 rfl rfl
theorem tw_1000 : Cond.methodLink R_M 211 y_M_none ∈ TB := inTB 1000 (by decide +kernel) rfl
theorem tw_1002 : Cond.instanceMethod y_M_none ∈ TB := inTB 1002 (by decide +kernel) rfl
set_option maxRecDepth 100000 in
theorem tw_1003 : Cond.code y_M_none prog_7_method_43_code 1 (some .boolean) ∈ TB := inTB 1003 rfl rfl
theorem tw_1004 : Cond.methodLink R_M 207 y_M_fails ∈ TB := inTB 1004 (by decide +kernel) rfl
theorem tw_1006 : Cond.instanceMethod y_M_fails ∈ TB := inTB 1006 (by decide +kernel) rfl
set_option maxRecDepth 100000 in
theorem tw_1007 : Cond.code y_M_fails prog_7_method_3_code 3 (some .boolean) ∈ TB := inTB 1007 rfl rfl
theorem tw_1008 : Cond.methodLink R_M 214 y_M_count ∈ TB := inTB 1008 (by decide +kernel) rfl
theorem tw_1010 : Cond.instanceMethod y_M_count ∈ TB := inTB 1010 (by decide +kernel) rfl
set_option maxRecDepth 100000 in
theorem tw_1011 : Cond.code y_M_count prog_7_method_44_code 2 (some .int) ∈ TB := inTB 1011 rfl rfl
theorem tw_1016 : Cond.methodLink R_M 217 y_M_no ∈ TB := inTB 1016 (by decide +kernel) rfl
theorem tw_1018 : Cond.instanceMethod y_M_no ∈ TB := inTB 1018 (by decide +kernel) rfl
set_option maxRecDepth 100000 in
theorem tw_1019 : Cond.code y_M_no prog_7_method_46_code 2 (some .boolean) ∈ TB := inTB 1019 rfl rfl
