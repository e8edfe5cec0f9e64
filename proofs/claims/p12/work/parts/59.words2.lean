theorem tw_87 : Cond.methodLink R_V 3 ⟨"java/lang/Object", "<init>", "()V"⟩ ∈ TB := inTB 87 (by decide +kernel) rfl
theorem tw_88 : Cond.instanceMethod ⟨"java/lang/Object", "<init>", "()V"⟩ ∈ TB := inTB 88 (by decide +kernel) rfl
set_option maxRecDepth 100000 in
theorem tw_89 : Cond.code ⟨"java/lang/Object", "<init>", "()V"⟩ object_method_1_code 1 none ∈ TB := inTB 89 rfl rfl
theorem tw_90 : Cond.classLink R_V 9 "InodeVolumes$Disk" ∈ TB := inTB 90 (by decide +kernel) rfl
theorem tw_91 : Cond.instantiable R_D 3 ∈ TB := inTB 91 (by decide +kernel) rfl
theorem tw_92 : Cond.methodLink R_V 11 y_D_init ∈ TB := inTB 92 (by decide +kernel) rfl
theorem tw_93 : Cond.instanceMethod y_D_init ∈ TB := inTB 93 (by decide +kernel) rfl
set_option maxRecDepth 100000 in
theorem tw_94 : Cond.code y_D_init prog_2_method_1_code 2 none ∈ TB := inTB 94 rfl rfl
theorem tw_95 : Cond.methodLink R_D 3 ⟨"java/lang/Object", "<init>", "()V"⟩ ∈ TB := inTB 95 (by decide +kernel) rfl
theorem tw_96 : Cond.methodLink R_D 9 ⟨"java/lang/Math", "min", "(II)I"⟩ ∈ TB := inTB 96 (by decide +kernel) rfl
theorem tw_99 : Cond.methodLink R_D 15 ⟨"java/lang/Math", "max", "(II)I"⟩ ∈ TB := inTB 99 (by decide +kernel) rfl
theorem tw_112 : Cond.arrayClass .long ∈ TB := inTB 112 (by decide +kernel) rfl
theorem tw_113 : Cond.classLink R_V 18 "InodeVolumes$Layout" ∈ TB := inTB 113 (by decide +kernel) rfl
theorem tw_114 : Cond.instantiable R_L 6 ∈ TB := inTB 114 (by decide +kernel) rfl
theorem tw_115 : Cond.methodLink R_V 20 y_L_init ∈ TB := inTB 115 (by decide +kernel) rfl
theorem tw_116 : Cond.instanceMethod y_L_init ∈ TB := inTB 116 (by decide +kernel) rfl
set_option maxRecDepth 100000 in
theorem tw_117 : Cond.code y_L_init prog_4_method_1_code 2 none ∈ TB := inTB 117 rfl rfl
theorem tw_118 : Cond.methodLink R_L 3 ⟨"java/lang/Object", "<init>", "()V"⟩ ∈ TB := inTB 118 (by decide +kernel) rfl
theorem tw_138 : Cond.arrayClass .int ∈ TB := inTB 138 (by decide +kernel) rfl
theorem tw_139 : Cond.classLink R_V 27 "InodeVolumes$Entries" ∈ TB := inTB 139 (by decide +kernel) rfl
theorem tw_140 : Cond.instantiable R_E 8 ∈ TB := inTB 140 (by decide +kernel) rfl
theorem tw_141 : Cond.methodLink R_V 29 y_E_init ∈ TB := inTB 141 (by decide +kernel) rfl
theorem tw_142 : Cond.instanceMethod y_E_init ∈ TB := inTB 142 (by decide +kernel) rfl
set_option maxRecDepth 100000 in
theorem tw_143 : Cond.code y_E_init prog_3_method_1_code 3 none ∈ TB := inTB 143 rfl rfl
theorem tw_144 : Cond.methodLink R_E 3 ⟨"java/lang/Object", "<init>", "()V"⟩ ∈ TB := inTB 144 (by decide +kernel) rfl
theorem tw_170 : Cond.classLink R_V 36 "InodeVolumes$Survey" ∈ TB := inTB 170 (by decide +kernel) rfl
theorem tw_171 : Cond.instantiable R_S 10 ∈ TB := inTB 171 (by decide +kernel) rfl
theorem tw_172 : Cond.methodLink R_V 38 y_S_init ∈ TB := inTB 172 (by decide +kernel) rfl
theorem tw_173 : Cond.instanceMethod y_S_init ∈ TB := inTB 173 (by decide +kernel) rfl
set_option maxRecDepth 100000 in
theorem tw_174 : Cond.code y_S_init prog_5_method_1_code 5 none ∈ TB := inTB 174 rfl rfl
theorem tw_175 : Cond.methodLink R_S 3 ⟨"java/lang/Object", "<init>", "()V"⟩ ∈ TB := inTB 175 (by decide +kernel) rfl
theorem tw_658 : Cond.arrayClass .byte ∈ TB := inTB 658 (by decide +kernel) rfl
theorem tw_764 : Cond.methodLink R_M 1 ⟨"java/lang/Object", "<init>", "()V"⟩ ∈ TB := inTB 764 (by decide +kernel) rfl
theorem tw_765 : Cond.constant R_M 7 (524288 : Int32) ∈ TB := inTB 765 (by decide +kernel) rfl
theorem tw_824 : Cond.arrayClass .boolean ∈ TB := inTB 824 (by decide +kernel) rfl
