theorem tw_67 : Cond.initialized R_A ∈ TB := inTB 67 (by decide +kernel) rfl
theorem tw_223 : Cond.methodLink R_A 52 y_V_put ∈ TB := inTB 223 (by decide +kernel) rfl
theorem tw_224 : Cond.instanceMethod y_V_put ∈ TB := inTB 224 (by decide +kernel) rfl
theorem tw_225 : Cond.selects R_V y_V_put y_V_put ∈ TB := inTB 225 (by decide +kernel) rfl
set_option maxRecDepth 100000 in
theorem tw_226 : Cond.code y_V_put prog_1_method_2_code 5 (some .boolean) ∈ TB := inTB 226 rfl rfl
theorem tw_245 : Cond.methodLink R_A 57 y_V_fill ∈ TB := inTB 245 (by decide +kernel) rfl
theorem tw_246 : Cond.instanceMethod y_V_fill ∈ TB := inTB 246 (by decide +kernel) rfl
theorem tw_247 : Cond.selects R_V y_V_fill y_V_fill ∈ TB := inTB 247 (by decide +kernel) rfl
set_option maxRecDepth 100000 in
theorem tw_248 : Cond.code y_V_fill prog_1_method_3_code 4 (some .boolean) ∈ TB := inTB 248 rfl rfl
theorem tw_255 : Cond.methodLink R_A 62 y_V_copy ∈ TB := inTB 255 (by decide +kernel) rfl
theorem tw_256 : Cond.instanceMethod y_V_copy ∈ TB := inTB 256 (by decide +kernel) rfl
theorem tw_257 : Cond.selects R_V y_V_copy y_V_copy ∈ TB := inTB 257 (by decide +kernel) rfl
set_option maxRecDepth 100000 in
theorem tw_258 : Cond.code y_V_copy prog_1_method_4_code 4 (some .boolean) ∈ TB := inTB 258 rfl rfl
theorem tw_267 : Cond.methodLink R_A 66 y_V_byteAt ∈ TB := inTB 267 (by decide +kernel) rfl
theorem tw_268 : Cond.instanceMethod y_V_byteAt ∈ TB := inTB 268 (by decide +kernel) rfl
theorem tw_269 : Cond.selects R_V y_V_byteAt y_V_byteAt ∈ TB := inTB 269 (by decide +kernel) rfl
set_option maxRecDepth 100000 in
theorem tw_270 : Cond.code y_V_byteAt prog_1_method_5_code 2 (some .int) ∈ TB := inTB 270 rfl rfl
theorem tw_272 : Cond.methodLink R_A 70 y_V_fault ∈ TB := inTB 272 (by decide +kernel) rfl
theorem tw_273 : Cond.instanceMethod y_V_fault ∈ TB := inTB 273 (by decide +kernel) rfl
theorem tw_274 : Cond.selects R_V y_V_fault y_V_fault ∈ TB := inTB 274 (by decide +kernel) rfl
set_option maxRecDepth 100000 in
theorem tw_275 : Cond.code y_V_fault prog_1_method_6_code 1 (some .int) ∈ TB := inTB 275 rfl rfl
theorem tw_583 : Cond.methodLink R_A 74 y_A_items ∈ TB := inTB 583 (by decide +kernel) rfl
theorem tw_584 : Cond.static y_A_items ∈ TB := inTB 584 (by decide +kernel) rfl
theorem tw_668 : Cond.methodLink R_A 78 y_A_letter ∈ TB := inTB 668 (by decide +kernel) rfl
theorem tw_669 : Cond.static y_A_letter ∈ TB := inTB 669 (by decide +kernel) rfl
theorem tw_702 : Cond.methodLink R_A 82 y_A_about ∈ TB := inTB 702 (by decide +kernel) rfl
theorem tw_703 : Cond.static y_A_about ∈ TB := inTB 703 (by decide +kernel) rfl
theorem tw_736 : Cond.methodLink R_A 85 y_A_content ∈ TB := inTB 736 (by decide +kernel) rfl
theorem tw_737 : Cond.static y_A_content ∈ TB := inTB 737 (by decide +kernel) rfl
theorem tw_744 : Cond.methodLink R_A 88 y_A_enter ∈ TB := inTB 744 (by decide +kernel) rfl
theorem tw_745 : Cond.static y_A_enter ∈ TB := inTB 745 (by decide +kernel) rfl
theorem tw_752 : Cond.methodLink R_A 92 y_A_up ∈ TB := inTB 752 (by decide +kernel) rfl
theorem tw_753 : Cond.static y_A_up ∈ TB := inTB 753 (by decide +kernel) rfl
theorem tw_825 : Cond.methodLink R_A 95 y_M_thrown ∈ TB := inTB 825 (by decide +kernel) rfl
theorem tw_826 : Cond.instanceMethod y_M_thrown ∈ TB := inTB 826 (by decide +kernel) rfl
theorem tw_827 : Cond.selects R_M y_M_thrown y_M_thrown ∈ TB := inTB 827 (by decide +kernel) rfl
set_option maxRecDepth 100000 in
theorem tw_828 : Cond.code y_M_thrown prog_7_method_2_code 1 (some .int) ∈ TB := inTB 828 rfl rfl
theorem tw_829 : Cond.methodLink R_A 56 y_M_put ∈ TB := inTB 829 (by decide +kernel) rfl
theorem tw_830 : Cond.instanceMethod y_M_put ∈ TB := inTB 830 (by decide +kernel) rfl
theorem tw_831 : Cond.selects R_M y_M_put y_M_put ∈ TB := inTB 831 (by decide +kernel) rfl
set_option maxRecDepth 100000 in
theorem tw_832 : Cond.code y_M_put prog_7_method_9_code 6 (some .boolean) ∈ TB := inTB 832 rfl rfl
theorem tw_842 : Cond.methodLink R_A 61 y_M_fill ∈ TB := inTB 842 (by decide +kernel) rfl
theorem tw_843 : Cond.instanceMethod y_M_fill ∈ TB := inTB 843 (by decide +kernel) rfl
theorem tw_844 : Cond.selects R_M y_M_fill y_M_fill ∈ TB := inTB 844 (by decide +kernel) rfl
set_option maxRecDepth 100000 in
theorem tw_845 : Cond.code y_M_fill prog_7_method_10_code 5 (some .boolean) ∈ TB := inTB 845 rfl rfl
theorem tw_846 : Cond.methodLink R_A 65 y_M_copy ∈ TB := inTB 846 (by decide +kernel) rfl
theorem tw_847 : Cond.instanceMethod y_M_copy ∈ TB := inTB 847 (by decide +kernel) rfl
theorem tw_848 : Cond.selects R_M y_M_copy y_M_copy ∈ TB := inTB 848 (by decide +kernel) rfl
set_option maxRecDepth 100000 in
theorem tw_849 : Cond.code y_M_copy prog_7_method_11_code 6 (some .boolean) ∈ TB := inTB 849 rfl rfl
theorem tw_850 : Cond.methodLink R_A 69 y_M_byteAt ∈ TB := inTB 850 (by decide +kernel) rfl
theorem tw_851 : Cond.instanceMethod y_M_byteAt ∈ TB := inTB 851 (by decide +kernel) rfl
theorem tw_852 : Cond.selects R_M y_M_byteAt y_M_byteAt ∈ TB := inTB 852 (by decide +kernel) rfl
set_option maxRecDepth 100000 in
theorem tw_853 : Cond.code y_M_byteAt prog_7_method_12_code 2 (some .int) ∈ TB := inTB 853 rfl rfl
theorem tw_858 : Cond.methodLink R_A 73 y_M_fault ∈ TB := inTB 858 (by decide +kernel) rfl
theorem tw_859 : Cond.instanceMethod y_M_fault ∈ TB := inTB 859 (by decide +kernel) rfl
theorem tw_860 : Cond.selects R_M y_M_fault y_M_fault ∈ TB := inTB 860 (by decide +kernel) rfl
set_option maxRecDepth 100000 in
theorem tw_861 : Cond.code y_M_fault prog_7_method_42_code 1 (some .int) ∈ TB := inTB 861 rfl rfl
theorem tw_996 : Cond.methodLink R_A 77 y_M_items ∈ TB := inTB 996 (by decide +kernel) rfl
theorem tw_997 : Cond.instanceMethod y_M_items ∈ TB := inTB 997 (by decide +kernel) rfl
theorem tw_998 : Cond.selects R_M y_M_items y_M_items ∈ TB := inTB 998 (by decide +kernel) rfl
set_option maxRecDepth 100000 in
theorem tw_999 : Cond.code y_M_items prog_7_method_45_code 1 (some .int) ∈ TB := inTB 999 rfl rfl
theorem tw_1012 : Cond.methodLink R_A 81 y_M_letter ∈ TB := inTB 1012 (by decide +kernel) rfl
theorem tw_1013 : Cond.instanceMethod y_M_letter ∈ TB := inTB 1013 (by decide +kernel) rfl
theorem tw_1014 : Cond.selects R_M y_M_letter y_M_letter ∈ TB := inTB 1014 (by decide +kernel) rfl
set_option maxRecDepth 100000 in
theorem tw_1015 : Cond.code y_M_letter prog_7_method_47_code 3 (some .int) ∈ TB := inTB 1015 rfl rfl
theorem tw_1020 : Cond.methodLink R_A 84 y_M_about ∈ TB := inTB 1020 (by decide +kernel) rfl
theorem tw_1021 : Cond.instanceMethod y_M_about ∈ TB := inTB 1021 (by decide +kernel) rfl
theorem tw_1022 : Cond.selects R_M y_M_about y_M_about ∈ TB := inTB 1022 (by decide +kernel) rfl
set_option maxRecDepth 100000 in
theorem tw_1023 : Cond.code y_M_about prog_7_method_48_code 4 (some .long) ∈ TB := inTB 1023 rfl rfl
theorem tw_1024 : Cond.methodLink R_A 87 y_M_content ∈ TB := inTB 1024 (by decide +kernel) rfl
theorem tw_1025 : Cond.instanceMethod y_M_content ∈ TB := inTB 1025 (by decide +kernel) rfl
theorem tw_1026 : Cond.selects R_M y_M_content y_M_content ∈ TB := inTB 1026 (by decide +kernel) rfl
set_option maxRecDepth 100000 in
theorem tw_1027 : Cond.code y_M_content prog_7_method_49_code 4 (some .int) ∈ TB := inTB 1027 rfl rfl
theorem tw_1028 : Cond.methodLink R_A 91 y_M_enter ∈ TB := inTB 1028 (by decide +kernel) rfl
theorem tw_1029 : Cond.instanceMethod y_M_enter ∈ TB := inTB 1029 (by decide +kernel) rfl
theorem tw_1030 : Cond.selects R_M y_M_enter y_M_enter ∈ TB := inTB 1030 (by decide +kernel) rfl
set_option maxRecDepth 100000 in
theorem tw_1031 : Cond.code y_M_enter prog_7_method_50_code 2 (some .int) ∈ TB := inTB 1031 rfl rfl
theorem tw_1032 : Cond.methodLink R_A 94 y_M_up ∈ TB := inTB 1032 (by decide +kernel) rfl
theorem tw_1033 : Cond.instanceMethod y_M_up ∈ TB := inTB 1033 (by decide +kernel) rfl
theorem tw_1034 : Cond.selects R_M y_M_up y_M_up ∈ TB := inTB 1034 (by decide +kernel) rfl
set_option maxRecDepth 100000 in
theorem tw_1035 : Cond.code y_M_up prog_7_method_51_code 1 (some .boolean) ∈ TB := inTB 1035 rfl rfl
theorem tw_1036 : Cond.constantLong R_A 50 (4294967295 : Int64) ∈ TB := inTB 1036 (by decide +kernel) rfl
abbrev b_A_law : ByteArray := code
theorem d_A_law_0 : decode b_A_law 0 = .ok (.new 8, 3) := by decide +kernel
theorem d_A_law_3 : decode b_A_law 3 = .ok (.dup, 1) := by decide +kernel
theorem d_A_law_4 : decode b_A_law 4 = .ok (.aload_n 0, 1) := by decide +kernel
theorem d_A_law_5 : decode b_A_law 5 = .ok (.iconst 0, 1) := by decide +kernel
theorem d_A_law_6 : decode b_A_law 6 = .ok (.invokestatic 38, 3) := by decide +kernel
theorem d_A_law_9 : decode b_A_law 9 = .ok (.invokespecial 44, 3) := by decide +kernel
theorem d_A_law_12 : decode b_A_law 12 = .ok (.astore_n 1, 1) := by decide +kernel
theorem d_A_law_13 : decode b_A_law 13 = .ok (.new 47, 3) := by decide +kernel
theorem d_A_law_16 : decode b_A_law 16 = .ok (.dup, 1) := by decide +kernel
theorem d_A_law_17 : decode b_A_law 17 = .ok (.aload_n 0, 1) := by decide +kernel
theorem d_A_law_18 : decode b_A_law 18 = .ok (.iconst 0, 1) := by decide +kernel
theorem d_A_law_19 : decode b_A_law 19 = .ok (.invokestatic 38, 3) := by decide +kernel
theorem d_A_law_22 : decode b_A_law 22 = .ok (.invokespecial 49, 3) := by decide +kernel
theorem d_A_law_25 : decode b_A_law 25 = .ok (.astore_n 2, 1) := by decide +kernel
theorem d_A_law_26 : decode b_A_law 26 = .ok (.iconst 1, 1) := by decide +kernel
theorem d_A_law_27 : decode b_A_law 27 = .ok (.newarray .long, 2) := by decide +kernel
theorem d_A_law_29 : decode b_A_law 29 = .ok (.astore_n 3, 1) := by decide +kernel
theorem d_A_law_30 : decode b_A_law 30 = .ok (.iconst 1, 1) := by decide +kernel
theorem d_A_law_31 : decode b_A_law 31 = .ok (.istore 4, 2) := by decide +kernel
theorem d_A_law_33 : decode b_A_law 33 = .ok (.iload 4, 2) := by decide +kernel
theorem d_A_law_35 : decode b_A_law 35 = .ok (.aload_n 0, 1) := by decide +kernel
theorem d_A_law_36 : decode b_A_law 36 = .ok (.arraylength, 1) := by decide +kernel
theorem d_A_law_37 : decode b_A_law 37 = .ok (.iconst 5, 1) := by decide +kernel
theorem d_A_law_38 : decode b_A_law 38 = .ok (.isub, 1) := by decide +kernel
theorem d_A_law_39 : decode b_A_law 39 = .ok (.if_icmp .gt 507, 3) := by decide +kernel
theorem d_A_law_42 : decode b_A_law 42 = .ok (.aload_n 0, 1) := by decide +kernel
theorem d_A_law_43 : decode b_A_law 43 = .ok (.iload 4, 2) := by decide +kernel
theorem d_A_law_45 : decode b_A_law 45 = .ok (.iaload, 1) := by decide +kernel
theorem d_A_law_46 : decode b_A_law 46 = .ok (.bipush 15, 2) := by decide +kernel
theorem d_A_law_48 : decode b_A_law 48 = .ok (.iand, 1) := by decide +kernel
theorem d_A_law_49 : decode b_A_law 49 = .ok (.tableswitch 491 0 10 #[59, 140, 189, 238, 263, 276, 292, 332, 372, 412, 440], 59) := by decide +kernel
theorem d_A_law_108 : decode b_A_law 108 = .ok (.aload_n 1, 1) := by decide +kernel
theorem d_A_law_109 : decode b_A_law 109 = .ok (.aload_n 0, 1) := by decide +kernel
theorem d_A_law_110 : decode b_A_law 110 = .ok (.iload 4, 2) := by decide +kernel
theorem d_A_law_112 : decode b_A_law 112 = .ok (.iconst 1, 1) := by decide +kernel
theorem d_A_law_113 : decode b_A_law 113 = .ok (.iadd, 1) := by decide +kernel
theorem d_A_law_114 : decode b_A_law 114 = .ok (.iaload, 1) := by decide +kernel
theorem d_A_law_115 : decode b_A_law 115 = .ok (.aload_n 0, 1) := by decide +kernel
theorem d_A_law_116 : decode b_A_law 116 = .ok (.iload 4, 2) := by decide +kernel
theorem d_A_law_118 : decode b_A_law 118 = .ok (.iconst 2, 1) := by decide +kernel
theorem d_A_law_119 : decode b_A_law 119 = .ok (.iadd, 1) := by decide +kernel
theorem d_A_law_120 : decode b_A_law 120 = .ok (.iaload, 1) := by decide +kernel
theorem d_A_law_121 : decode b_A_law 121 = .ok (.aload_n 0, 1) := by decide +kernel
theorem d_A_law_122 : decode b_A_law 122 = .ok (.iload 4, 2) := by decide +kernel
theorem d_A_law_124 : decode b_A_law 124 = .ok (.iconst 3, 1) := by decide +kernel
theorem d_A_law_125 : decode b_A_law 125 = .ok (.iadd, 1) := by decide +kernel
theorem d_A_law_126 : decode b_A_law 126 = .ok (.iaload, 1) := by decide +kernel
theorem d_A_law_127 : decode b_A_law 127 = .ok (.i2l, 1) := by decide +kernel
theorem d_A_law_128 : decode b_A_law 128 = .ok (.bipush 32, 2) := by decide +kernel
theorem d_A_law_130 : decode b_A_law 130 = .ok (.lshl, 1) := by decide +kernel
theorem d_A_law_131 : decode b_A_law 131 = .ok (.aload_n 0, 1) := by decide +kernel
theorem d_A_law_132 : decode b_A_law 132 = .ok (.iload 4, 2) := by decide +kernel
theorem d_A_law_134 : decode b_A_law 134 = .ok (.iconst 4, 1) := by decide +kernel
theorem d_A_law_135 : decode b_A_law 135 = .ok (.iadd, 1) := by decide +kernel
theorem d_A_law_136 : decode b_A_law 136 = .ok (.iaload, 1) := by decide +kernel
theorem d_A_law_137 : decode b_A_law 137 = .ok (.i2l, 1) := by decide +kernel
theorem d_A_law_138 : decode b_A_law 138 = .ok (.ldc2_w 50, 3) := by decide +kernel
theorem d_A_law_141 : decode b_A_law 141 = .ok (.land, 1) := by decide +kernel
theorem d_A_law_142 : decode b_A_law 142 = .ok (.lor, 1) := by decide +kernel
theorem d_A_law_143 : decode b_A_law 143 = .ok (.invokevirtual 52, 3) := by decide +kernel
theorem d_A_law_146 : decode b_A_law 146 = .ok (.pop, 1) := by decide +kernel
theorem d_A_law_147 : decode b_A_law 147 = .ok (.aload_n 2, 1) := by decide +kernel
theorem d_A_law_148 : decode b_A_law 148 = .ok (.aload_n 0, 1) := by decide +kernel
theorem d_A_law_149 : decode b_A_law 149 = .ok (.iload 4, 2) := by decide +kernel
theorem d_A_law_151 : decode b_A_law 151 = .ok (.iconst 1, 1) := by decide +kernel
theorem d_A_law_152 : decode b_A_law 152 = .ok (.iadd, 1) := by decide +kernel
theorem d_A_law_153 : decode b_A_law 153 = .ok (.iaload, 1) := by decide +kernel
theorem d_A_law_154 : decode b_A_law 154 = .ok (.aload_n 0, 1) := by decide +kernel
theorem d_A_law_155 : decode b_A_law 155 = .ok (.iload 4, 2) := by decide +kernel
theorem d_A_law_157 : decode b_A_law 157 = .ok (.iconst 2, 1) := by decide +kernel
theorem d_A_law_158 : decode b_A_law 158 = .ok (.iadd, 1) := by decide +kernel
theorem d_A_law_159 : decode b_A_law 159 = .ok (.iaload, 1) := by decide +kernel
theorem d_A_law_160 : decode b_A_law 160 = .ok (.aload_n 0, 1) := by decide +kernel
theorem d_A_law_161 : decode b_A_law 161 = .ok (.iload 4, 2) := by decide +kernel
theorem d_A_law_163 : decode b_A_law 163 = .ok (.iconst 3, 1) := by decide +kernel
theorem d_A_law_164 : decode b_A_law 164 = .ok (.iadd, 1) := by decide +kernel
theorem d_A_law_165 : decode b_A_law 165 = .ok (.iaload, 1) := by decide +kernel
theorem d_A_law_166 : decode b_A_law 166 = .ok (.i2l, 1) := by decide +kernel
theorem d_A_law_167 : decode b_A_law 167 = .ok (.bipush 32, 2) := by decide +kernel
theorem d_A_law_169 : decode b_A_law 169 = .ok (.lshl, 1) := by decide +kernel
theorem d_A_law_170 : decode b_A_law 170 = .ok (.aload_n 0, 1) := by decide +kernel
theorem d_A_law_171 : decode b_A_law 171 = .ok (.iload 4, 2) := by decide +kernel
theorem d_A_law_173 : decode b_A_law 173 = .ok (.iconst 4, 1) := by decide +kernel
theorem d_A_law_174 : decode b_A_law 174 = .ok (.iadd, 1) := by decide +kernel
theorem d_A_law_175 : decode b_A_law 175 = .ok (.iaload, 1) := by decide +kernel
theorem d_A_law_176 : decode b_A_law 176 = .ok (.i2l, 1) := by decide +kernel
theorem d_A_law_177 : decode b_A_law 177 = .ok (.ldc2_w 50, 3) := by decide +kernel
theorem d_A_law_180 : decode b_A_law 180 = .ok (.land, 1) := by decide +kernel
theorem d_A_law_181 : decode b_A_law 181 = .ok (.lor, 1) := by decide +kernel
theorem d_A_law_182 : decode b_A_law 182 = .ok (.invokevirtual 56, 3) := by decide +kernel
theorem d_A_law_185 : decode b_A_law 185 = .ok (.pop, 1) := by decide +kernel
theorem d_A_law_186 : decode b_A_law 186 = .ok (.goto 354, 3) := by decide +kernel
theorem d_A_law_189 : decode b_A_law 189 = .ok (.aload_n 1, 1) := by decide +kernel
theorem d_A_law_190 : decode b_A_law 190 = .ok (.aload_n 0, 1) := by decide +kernel
theorem d_A_law_191 : decode b_A_law 191 = .ok (.iload 4, 2) := by decide +kernel
theorem d_A_law_193 : decode b_A_law 193 = .ok (.iconst 1, 1) := by decide +kernel
theorem d_A_law_194 : decode b_A_law 194 = .ok (.iadd, 1) := by decide +kernel
theorem d_A_law_195 : decode b_A_law 195 = .ok (.iaload, 1) := by decide +kernel
theorem d_A_law_196 : decode b_A_law 196 = .ok (.aload_n 0, 1) := by decide +kernel
theorem d_A_law_197 : decode b_A_law 197 = .ok (.iload 4, 2) := by decide +kernel
theorem d_A_law_199 : decode b_A_law 199 = .ok (.iconst 2, 1) := by decide +kernel
theorem d_A_law_200 : decode b_A_law 200 = .ok (.iadd, 1) := by decide +kernel
theorem d_A_law_201 : decode b_A_law 201 = .ok (.iaload, 1) := by decide +kernel
theorem d_A_law_202 : decode b_A_law 202 = .ok (.aload_n 0, 1) := by decide +kernel
theorem d_A_law_203 : decode b_A_law 203 = .ok (.iload 4, 2) := by decide +kernel
theorem d_A_law_205 : decode b_A_law 205 = .ok (.iconst 3, 1) := by decide +kernel
theorem d_A_law_206 : decode b_A_law 206 = .ok (.iadd, 1) := by decide +kernel
theorem d_A_law_207 : decode b_A_law 207 = .ok (.iaload, 1) := by decide +kernel
theorem d_A_law_208 : decode b_A_law 208 = .ok (.invokevirtual 57, 3) := by decide +kernel
theorem d_A_law_211 : decode b_A_law 211 = .ok (.pop, 1) := by decide +kernel
theorem d_A_law_212 : decode b_A_law 212 = .ok (.aload_n 2, 1) := by decide +kernel
theorem d_A_law_213 : decode b_A_law 213 = .ok (.aload_n 0, 1) := by decide +kernel
theorem d_A_law_214 : decode b_A_law 214 = .ok (.iload 4, 2) := by decide +kernel
theorem d_A_law_216 : decode b_A_law 216 = .ok (.iconst 1, 1) := by decide +kernel
theorem d_A_law_217 : decode b_A_law 217 = .ok (.iadd, 1) := by decide +kernel
theorem d_A_law_218 : decode b_A_law 218 = .ok (.iaload, 1) := by decide +kernel
theorem d_A_law_219 : decode b_A_law 219 = .ok (.aload_n 0, 1) := by decide +kernel
theorem d_A_law_220 : decode b_A_law 220 = .ok (.iload 4, 2) := by decide +kernel
theorem d_A_law_222 : decode b_A_law 222 = .ok (.iconst 2, 1) := by decide +kernel
theorem d_A_law_223 : decode b_A_law 223 = .ok (.iadd, 1) := by decide +kernel
theorem d_A_law_224 : decode b_A_law 224 = .ok (.iaload, 1) := by decide +kernel
theorem d_A_law_225 : decode b_A_law 225 = .ok (.aload_n 0, 1) := by decide +kernel
theorem d_A_law_226 : decode b_A_law 226 = .ok (.iload 4, 2) := by decide +kernel
theorem d_A_law_228 : decode b_A_law 228 = .ok (.iconst 3, 1) := by decide +kernel
theorem d_A_law_229 : decode b_A_law 229 = .ok (.iadd, 1) := by decide +kernel
theorem d_A_law_230 : decode b_A_law 230 = .ok (.iaload, 1) := by decide +kernel
theorem d_A_law_231 : decode b_A_law 231 = .ok (.invokevirtual 61, 3) := by decide +kernel
theorem d_A_law_234 : decode b_A_law 234 = .ok (.pop, 1) := by decide +kernel
theorem d_A_law_235 : decode b_A_law 235 = .ok (.goto 305, 3) := by decide +kernel
theorem d_A_law_238 : decode b_A_law 238 = .ok (.aload_n 1, 1) := by decide +kernel
theorem d_A_law_239 : decode b_A_law 239 = .ok (.aload_n 0, 1) := by decide +kernel
theorem d_A_law_240 : decode b_A_law 240 = .ok (.iload 4, 2) := by decide +kernel
theorem d_A_law_242 : decode b_A_law 242 = .ok (.iconst 1, 1) := by decide +kernel
theorem d_A_law_243 : decode b_A_law 243 = .ok (.iadd, 1) := by decide +kernel
theorem d_A_law_244 : decode b_A_law 244 = .ok (.iaload, 1) := by decide +kernel
theorem d_A_law_245 : decode b_A_law 245 = .ok (.aload_n 0, 1) := by decide +kernel
theorem d_A_law_246 : decode b_A_law 246 = .ok (.iload 4, 2) := by decide +kernel
theorem d_A_law_248 : decode b_A_law 248 = .ok (.iconst 2, 1) := by decide +kernel
theorem d_A_law_249 : decode b_A_law 249 = .ok (.iadd, 1) := by decide +kernel
theorem d_A_law_250 : decode b_A_law 250 = .ok (.iaload, 1) := by decide +kernel
theorem d_A_law_251 : decode b_A_law 251 = .ok (.aload_n 0, 1) := by decide +kernel
theorem d_A_law_252 : decode b_A_law 252 = .ok (.iload 4, 2) := by decide +kernel
theorem d_A_law_254 : decode b_A_law 254 = .ok (.iconst 3, 1) := by decide +kernel
theorem d_A_law_255 : decode b_A_law 255 = .ok (.iadd, 1) := by decide +kernel
theorem d_A_law_256 : decode b_A_law 256 = .ok (.iaload, 1) := by decide +kernel
theorem d_A_law_257 : decode b_A_law 257 = .ok (.invokevirtual 62, 3) := by decide +kernel
theorem d_A_law_260 : decode b_A_law 260 = .ok (.pop, 1) := by decide +kernel
theorem d_A_law_261 : decode b_A_law 261 = .ok (.aload_n 2, 1) := by decide +kernel
theorem d_A_law_262 : decode b_A_law 262 = .ok (.aload_n 0, 1) := by decide +kernel
theorem d_A_law_263 : decode b_A_law 263 = .ok (.iload 4, 2) := by decide +kernel
theorem d_A_law_265 : decode b_A_law 265 = .ok (.iconst 1, 1) := by decide +kernel
theorem d_A_law_266 : decode b_A_law 266 = .ok (.iadd, 1) := by decide +kernel
theorem d_A_law_267 : decode b_A_law 267 = .ok (.iaload, 1) := by decide +kernel
theorem d_A_law_268 : decode b_A_law 268 = .ok (.aload_n 0, 1) := by decide +kernel
theorem d_A_law_269 : decode b_A_law 269 = .ok (.iload 4, 2) := by decide +kernel
theorem d_A_law_271 : decode b_A_law 271 = .ok (.iconst 2, 1) := by decide +kernel
theorem d_A_law_272 : decode b_A_law 272 = .ok (.iadd, 1) := by decide +kernel
theorem d_A_law_273 : decode b_A_law 273 = .ok (.iaload, 1) := by decide +kernel
theorem d_A_law_274 : decode b_A_law 274 = .ok (.aload_n 0, 1) := by decide +kernel
theorem d_A_law_275 : decode b_A_law 275 = .ok (.iload 4, 2) := by decide +kernel
theorem d_A_law_277 : decode b_A_law 277 = .ok (.iconst 3, 1) := by decide +kernel
theorem d_A_law_278 : decode b_A_law 278 = .ok (.iadd, 1) := by decide +kernel
theorem d_A_law_279 : decode b_A_law 279 = .ok (.iaload, 1) := by decide +kernel
theorem d_A_law_280 : decode b_A_law 280 = .ok (.invokevirtual 65, 3) := by decide +kernel
theorem d_A_law_283 : decode b_A_law 283 = .ok (.pop, 1) := by decide +kernel
theorem d_A_law_284 : decode b_A_law 284 = .ok (.goto 256, 3) := by decide +kernel
theorem d_A_law_287 : decode b_A_law 287 = .ok (.aload_n 1, 1) := by decide +kernel
theorem d_A_law_288 : decode b_A_law 288 = .ok (.aload_n 0, 1) := by decide +kernel
theorem d_A_law_289 : decode b_A_law 289 = .ok (.iload 4, 2) := by decide +kernel
theorem d_A_law_291 : decode b_A_law 291 = .ok (.iconst 1, 1) := by decide +kernel
theorem d_A_law_292 : decode b_A_law 292 = .ok (.iadd, 1) := by decide +kernel
theorem d_A_law_293 : decode b_A_law 293 = .ok (.iaload, 1) := by decide +kernel
theorem d_A_law_294 : decode b_A_law 294 = .ok (.invokevirtual 66, 3) := by decide +kernel
theorem d_A_law_297 : decode b_A_law 297 = .ok (.pop, 1) := by decide +kernel
theorem d_A_law_298 : decode b_A_law 298 = .ok (.aload_n 2, 1) := by decide +kernel
theorem d_A_law_299 : decode b_A_law 299 = .ok (.aload_n 0, 1) := by decide +kernel
theorem d_A_law_300 : decode b_A_law 300 = .ok (.iload 4, 2) := by decide +kernel
theorem d_A_law_302 : decode b_A_law 302 = .ok (.iconst 1, 1) := by decide +kernel
theorem d_A_law_303 : decode b_A_law 303 = .ok (.iadd, 1) := by decide +kernel
theorem d_A_law_304 : decode b_A_law 304 = .ok (.iaload, 1) := by decide +kernel
theorem d_A_law_305 : decode b_A_law 305 = .ok (.invokevirtual 69, 3) := by decide +kernel
theorem d_A_law_308 : decode b_A_law 308 = .ok (.pop, 1) := by decide +kernel
theorem d_A_law_309 : decode b_A_law 309 = .ok (.goto 231, 3) := by decide +kernel
theorem d_A_law_312 : decode b_A_law 312 = .ok (.aload_n 1, 1) := by decide +kernel
theorem d_A_law_313 : decode b_A_law 313 = .ok (.invokevirtual 70, 3) := by decide +kernel
theorem d_A_law_316 : decode b_A_law 316 = .ok (.pop, 1) := by decide +kernel
theorem d_A_law_317 : decode b_A_law 317 = .ok (.aload_n 2, 1) := by decide +kernel
theorem d_A_law_318 : decode b_A_law 318 = .ok (.invokevirtual 73, 3) := by decide +kernel
theorem d_A_law_321 : decode b_A_law 321 = .ok (.pop, 1) := by decide +kernel
theorem d_A_law_322 : decode b_A_law 322 = .ok (.goto 218, 3) := by decide +kernel
theorem d_A_law_325 : decode b_A_law 325 = .ok (.aload_n 1, 1) := by decide +kernel
theorem d_A_law_326 : decode b_A_law 326 = .ok (.aload_n 3, 1) := by decide +kernel
theorem d_A_law_327 : decode b_A_law 327 = .ok (.invokestatic 74, 3) := by decide +kernel
theorem d_A_law_330 : decode b_A_law 330 = .ok (.istore 5, 2) := by decide +kernel
theorem d_A_law_332 : decode b_A_law 332 = .ok (.aload_n 2, 1) := by decide +kernel
theorem d_A_law_333 : decode b_A_law 333 = .ok (.invokevirtual 77, 3) := by decide +kernel
theorem d_A_law_336 : decode b_A_law 336 = .ok (.istore 6, 2) := by decide +kernel
theorem d_A_law_338 : decode b_A_law 338 = .ok (.goto 202, 3) := by decide +kernel
theorem d_A_law_341 : decode b_A_law 341 = .ok (.aload_n 1, 1) := by decide +kernel
theorem d_A_law_342 : decode b_A_law 342 = .ok (.aload_n 0, 1) := by decide +kernel
theorem d_A_law_343 : decode b_A_law 343 = .ok (.iload 4, 2) := by decide +kernel
theorem d_A_law_345 : decode b_A_law 345 = .ok (.iconst 1, 1) := by decide +kernel
theorem d_A_law_346 : decode b_A_law 346 = .ok (.iadd, 1) := by decide +kernel
theorem d_A_law_347 : decode b_A_law 347 = .ok (.iaload, 1) := by decide +kernel
theorem d_A_law_348 : decode b_A_law 348 = .ok (.aload_n 0, 1) := by decide +kernel
theorem d_A_law_349 : decode b_A_law 349 = .ok (.iload 4, 2) := by decide +kernel
theorem d_A_law_351 : decode b_A_law 351 = .ok (.iconst 2, 1) := by decide +kernel
theorem d_A_law_352 : decode b_A_law 352 = .ok (.iadd, 1) := by decide +kernel
theorem d_A_law_353 : decode b_A_law 353 = .ok (.iaload, 1) := by decide +kernel
theorem d_A_law_354 : decode b_A_law 354 = .ok (.aload_n 3, 1) := by decide +kernel
theorem d_A_law_355 : decode b_A_law 355 = .ok (.invokestatic 78, 3) := by decide +kernel
theorem d_A_law_358 : decode b_A_law 358 = .ok (.istore 5, 2) := by decide +kernel
theorem d_A_law_360 : decode b_A_law 360 = .ok (.aload_n 2, 1) := by decide +kernel
theorem d_A_law_361 : decode b_A_law 361 = .ok (.aload_n 0, 1) := by decide +kernel
theorem d_A_law_362 : decode b_A_law 362 = .ok (.iload 4, 2) := by decide +kernel
theorem d_A_law_364 : decode b_A_law 364 = .ok (.iconst 1, 1) := by decide +kernel
theorem d_A_law_365 : decode b_A_law 365 = .ok (.iadd, 1) := by decide +kernel
theorem d_A_law_366 : decode b_A_law 366 = .ok (.iaload, 1) := by decide +kernel
theorem d_A_law_367 : decode b_A_law 367 = .ok (.aload_n 0, 1) := by decide +kernel
theorem d_A_law_368 : decode b_A_law 368 = .ok (.iload 4, 2) := by decide +kernel
theorem d_A_law_370 : decode b_A_law 370 = .ok (.iconst 2, 1) := by decide +kernel
theorem d_A_law_371 : decode b_A_law 371 = .ok (.iadd, 1) := by decide +kernel
theorem d_A_law_372 : decode b_A_law 372 = .ok (.iaload, 1) := by decide +kernel
theorem d_A_law_373 : decode b_A_law 373 = .ok (.invokevirtual 81, 3) := by decide +kernel
theorem d_A_law_376 : decode b_A_law 376 = .ok (.istore 6, 2) := by decide +kernel
theorem d_A_law_378 : decode b_A_law 378 = .ok (.goto 162, 3) := by decide +kernel
theorem d_A_law_381 : decode b_A_law 381 = .ok (.aload_n 1, 1) := by decide +kernel
theorem d_A_law_382 : decode b_A_law 382 = .ok (.aload_n 0, 1) := by decide +kernel
theorem d_A_law_383 : decode b_A_law 383 = .ok (.iload 4, 2) := by decide +kernel
theorem d_A_law_385 : decode b_A_law 385 = .ok (.iconst 1, 1) := by decide +kernel
theorem d_A_law_386 : decode b_A_law 386 = .ok (.iadd, 1) := by decide +kernel
theorem d_A_law_387 : decode b_A_law 387 = .ok (.iaload, 1) := by decide +kernel
theorem d_A_law_388 : decode b_A_law 388 = .ok (.aload_n 0, 1) := by decide +kernel
theorem d_A_law_389 : decode b_A_law 389 = .ok (.iload 4, 2) := by decide +kernel
theorem d_A_law_391 : decode b_A_law 391 = .ok (.iconst 2, 1) := by decide +kernel
theorem d_A_law_392 : decode b_A_law 392 = .ok (.iadd, 1) := by decide +kernel
theorem d_A_law_393 : decode b_A_law 393 = .ok (.iaload, 1) := by decide +kernel
theorem d_A_law_394 : decode b_A_law 394 = .ok (.aload_n 3, 1) := by decide +kernel
theorem d_A_law_395 : decode b_A_law 395 = .ok (.invokestatic 82, 3) := by decide +kernel
theorem d_A_law_398 : decode b_A_law 398 = .ok (.istore 5, 2) := by decide +kernel
theorem d_A_law_400 : decode b_A_law 400 = .ok (.aload_n 2, 1) := by decide +kernel
theorem d_A_law_401 : decode b_A_law 401 = .ok (.aload_n 0, 1) := by decide +kernel
theorem d_A_law_402 : decode b_A_law 402 = .ok (.iload 4, 2) := by decide +kernel
theorem d_A_law_404 : decode b_A_law 404 = .ok (.iconst 1, 1) := by decide +kernel
theorem d_A_law_405 : decode b_A_law 405 = .ok (.iadd, 1) := by decide +kernel
theorem d_A_law_406 : decode b_A_law 406 = .ok (.iaload, 1) := by decide +kernel
theorem d_A_law_407 : decode b_A_law 407 = .ok (.aload_n 0, 1) := by decide +kernel
theorem d_A_law_408 : decode b_A_law 408 = .ok (.iload 4, 2) := by decide +kernel
theorem d_A_law_410 : decode b_A_law 410 = .ok (.iconst 2, 1) := by decide +kernel
theorem d_A_law_411 : decode b_A_law 411 = .ok (.iadd, 1) := by decide +kernel
theorem d_A_law_412 : decode b_A_law 412 = .ok (.iaload, 1) := by decide +kernel
theorem d_A_law_413 : decode b_A_law 413 = .ok (.invokevirtual 84, 3) := by decide +kernel
theorem d_A_law_416 : decode b_A_law 416 = .ok (.lstore 6, 2) := by decide +kernel
theorem d_A_law_418 : decode b_A_law 418 = .ok (.goto 122, 3) := by decide +kernel
theorem d_A_law_421 : decode b_A_law 421 = .ok (.aload_n 1, 1) := by decide +kernel
theorem d_A_law_422 : decode b_A_law 422 = .ok (.aload_n 0, 1) := by decide +kernel
theorem d_A_law_423 : decode b_A_law 423 = .ok (.iload 4, 2) := by decide +kernel
theorem d_A_law_425 : decode b_A_law 425 = .ok (.iconst 1, 1) := by decide +kernel
theorem d_A_law_426 : decode b_A_law 426 = .ok (.iadd, 1) := by decide +kernel
theorem d_A_law_427 : decode b_A_law 427 = .ok (.iaload, 1) := by decide +kernel
theorem d_A_law_428 : decode b_A_law 428 = .ok (.aload_n 0, 1) := by decide +kernel
theorem d_A_law_429 : decode b_A_law 429 = .ok (.iload 4, 2) := by decide +kernel
theorem d_A_law_431 : decode b_A_law 431 = .ok (.iconst 2, 1) := by decide +kernel
theorem d_A_law_432 : decode b_A_law 432 = .ok (.iadd, 1) := by decide +kernel
theorem d_A_law_433 : decode b_A_law 433 = .ok (.iaload, 1) := by decide +kernel
theorem d_A_law_434 : decode b_A_law 434 = .ok (.aload_n 3, 1) := by decide +kernel
theorem d_A_law_435 : decode b_A_law 435 = .ok (.invokestatic 85, 3) := by decide +kernel
theorem d_A_law_438 : decode b_A_law 438 = .ok (.istore 5, 2) := by decide +kernel
theorem d_A_law_440 : decode b_A_law 440 = .ok (.aload_n 2, 1) := by decide +kernel
theorem d_A_law_441 : decode b_A_law 441 = .ok (.aload_n 0, 1) := by decide +kernel
theorem d_A_law_442 : decode b_A_law 442 = .ok (.iload 4, 2) := by decide +kernel
theorem d_A_law_444 : decode b_A_law 444 = .ok (.iconst 1, 1) := by decide +kernel
theorem d_A_law_445 : decode b_A_law 445 = .ok (.iadd, 1) := by decide +kernel
theorem d_A_law_446 : decode b_A_law 446 = .ok (.iaload, 1) := by decide +kernel
theorem d_A_law_447 : decode b_A_law 447 = .ok (.aload_n 0, 1) := by decide +kernel
theorem d_A_law_448 : decode b_A_law 448 = .ok (.iload 4, 2) := by decide +kernel
theorem d_A_law_450 : decode b_A_law 450 = .ok (.iconst 2, 1) := by decide +kernel
theorem d_A_law_451 : decode b_A_law 451 = .ok (.iadd, 1) := by decide +kernel
theorem d_A_law_452 : decode b_A_law 452 = .ok (.iaload, 1) := by decide +kernel
theorem d_A_law_453 : decode b_A_law 453 = .ok (.invokevirtual 87, 3) := by decide +kernel
theorem d_A_law_456 : decode b_A_law 456 = .ok (.istore 6, 2) := by decide +kernel
theorem d_A_law_458 : decode b_A_law 458 = .ok (.goto 82, 3) := by decide +kernel
theorem d_A_law_461 : decode b_A_law 461 = .ok (.aload_n 1, 1) := by decide +kernel
theorem d_A_law_462 : decode b_A_law 462 = .ok (.aload_n 0, 1) := by decide +kernel
theorem d_A_law_463 : decode b_A_law 463 = .ok (.iload 4, 2) := by decide +kernel
theorem d_A_law_465 : decode b_A_law 465 = .ok (.iconst 1, 1) := by decide +kernel
theorem d_A_law_466 : decode b_A_law 466 = .ok (.iadd, 1) := by decide +kernel
theorem d_A_law_467 : decode b_A_law 467 = .ok (.iaload, 1) := by decide +kernel
theorem d_A_law_468 : decode b_A_law 468 = .ok (.aload_n 3, 1) := by decide +kernel
theorem d_A_law_469 : decode b_A_law 469 = .ok (.invokestatic 88, 3) := by decide +kernel
theorem d_A_law_472 : decode b_A_law 472 = .ok (.istore 5, 2) := by decide +kernel
theorem d_A_law_474 : decode b_A_law 474 = .ok (.aload_n 2, 1) := by decide +kernel
theorem d_A_law_475 : decode b_A_law 475 = .ok (.aload_n 0, 1) := by decide +kernel
theorem d_A_law_476 : decode b_A_law 476 = .ok (.iload 4, 2) := by decide +kernel
theorem d_A_law_478 : decode b_A_law 478 = .ok (.iconst 1, 1) := by decide +kernel
theorem d_A_law_479 : decode b_A_law 479 = .ok (.iadd, 1) := by decide +kernel
theorem d_A_law_480 : decode b_A_law 480 = .ok (.iaload, 1) := by decide +kernel
theorem d_A_law_481 : decode b_A_law 481 = .ok (.invokevirtual 91, 3) := by decide +kernel
theorem d_A_law_484 : decode b_A_law 484 = .ok (.istore 6, 2) := by decide +kernel
theorem d_A_law_486 : decode b_A_law 486 = .ok (.goto 54, 3) := by decide +kernel
theorem d_A_law_489 : decode b_A_law 489 = .ok (.aload_n 1, 1) := by decide +kernel
theorem d_A_law_490 : decode b_A_law 490 = .ok (.aload_n 3, 1) := by decide +kernel
theorem d_A_law_491 : decode b_A_law 491 = .ok (.invokestatic 92, 3) := by decide +kernel
theorem d_A_law_494 : decode b_A_law 494 = .ok (.istore 5, 2) := by decide +kernel
theorem d_A_law_496 : decode b_A_law 496 = .ok (.aload_n 2, 1) := by decide +kernel
theorem d_A_law_497 : decode b_A_law 497 = .ok (.invokevirtual 94, 3) := by decide +kernel
theorem d_A_law_500 : decode b_A_law 500 = .ok (.istore 6, 2) := by decide +kernel
theorem d_A_law_502 : decode b_A_law 502 = .ok (.aload_n 2, 1) := by decide +kernel
theorem d_A_law_503 : decode b_A_law 503 = .ok (.invokevirtual 95, 3) := by decide +kernel
theorem d_A_law_506 : decode b_A_law 506 = .ok (.iload 5, 2) := by decide +kernel
theorem d_A_law_508 : decode b_A_law 508 = .ok (.if_icmp .eq 5, 3) := by decide +kernel
theorem d_A_law_511 : decode b_A_law 511 = .ok (.iconst 0, 1) := by decide +kernel
theorem d_A_law_512 : decode b_A_law 512 = .ok (.ireturn, 1) := by decide +kernel
theorem d_A_law_513 : decode b_A_law 513 = .ok (.iload 5, 2) := by decide +kernel
theorem d_A_law_515 : decode b_A_law 515 = .ok (.ifCond .ne 22, 3) := by decide +kernel
theorem d_A_law_518 : decode b_A_law 518 = .ok (.aload_n 3, 1) := by decide +kernel
theorem d_A_law_519 : decode b_A_law 519 = .ok (.iconst 0, 1) := by decide +kernel
theorem d_A_law_520 : decode b_A_law 520 = .ok (.laload, 1) := by decide +kernel
theorem d_A_law_521 : decode b_A_law 521 = .ok (.iload 6, 2) := by decide +kernel
theorem d_A_law_523 : decode b_A_law 523 = .ok (.ifCond .eq 7, 3) := by decide +kernel
theorem d_A_law_526 : decode b_A_law 526 = .ok (.lconst 1, 1) := by decide +kernel
theorem d_A_law_527 : decode b_A_law 527 = .ok (.goto 4, 3) := by decide +kernel
theorem d_A_law_530 : decode b_A_law 530 = .ok (.lconst 0, 1) := by decide +kernel
theorem d_A_law_531 : decode b_A_law 531 = .ok (.lcmp, 1) := by decide +kernel
theorem d_A_law_532 : decode b_A_law 532 = .ok (.ifCond .eq 5, 3) := by decide +kernel
theorem d_A_law_535 : decode b_A_law 535 = .ok (.iconst 0, 1) := by decide +kernel
theorem d_A_law_536 : decode b_A_law 536 = .ok (.ireturn, 1) := by decide +kernel
theorem d_A_law_537 : decode b_A_law 537 = .ok (.goto 3, 3) := by decide +kernel
theorem d_A_law_540 : decode b_A_law 540 = .ok (.iinc 4 5, 3) := by decide +kernel
theorem d_A_law_543 : decode b_A_law 543 = .ok (.goto (-510), 3) := by decide +kernel
theorem d_A_law_546 : decode b_A_law 546 = .ok (.iconst 1, 1) := by decide +kernel
theorem d_A_law_547 : decode b_A_law 547 = .ok (.ireturn, 1) := by decide +kernel
