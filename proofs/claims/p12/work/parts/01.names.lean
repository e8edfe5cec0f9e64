abbrev R_V : String := "InodeVolumes"
abbrev R_D : String := "InodeVolumes$Disk"
abbrev R_E : String := "InodeVolumes$Entries"
abbrev R_L : String := "InodeVolumes$Layout"
abbrev R_S : String := "InodeVolumes$Survey"
abbrev R_M : String := "InodeVolumesModel"
abbrev R_A : String := "InodeVolumesLaw"
abbrev R_J : String := "java/util/Arrays"
def T_D : u_T := fun k => match k with
  | 0 => (R_D, "blocks", "I", true)
  | 1 => (R_D, "size", "I", true)
  | _ => (R_D, "words", "[J", true)
def ty_D : Nat → FieldType := fun k => match k with
  | 0 => .int
  | 1 => .int
  | _ => .array .long
theorem nm_D : ∀ a, a < 3 → ∀ b, b < 3 → a ≠ b → (T_D a).2.1 ≠ (T_D b).2.1 := by decide +kernel
theorem tyok_D : ∀ k, k < 3 → parseFieldDescriptor (T_D k).2.2.1 = some (ty_D k) := by decide +kernel
def T_E : u_T := fun k => match k with
  | 0 => (R_E, "disk", "LInodeVolumes$Disk;", true)
  | 1 => (R_E, "layout", "LInodeVolumes$Layout;", true)
  | 2 => (R_E, "directory", "I", false)
  | 3 => (R_E, "size", "J", false)
  | 4 => (R_E, "offset", "J", false)
  | 5 => (R_E, "order", "I", false)
  | 6 => (R_E, "place", "J", false)
  | _ => (R_E, "head", "J", false)
def ty_E : Nat → FieldType := fun k => match k with
  | 0 => .object "InodeVolumes$Disk"
  | 1 => .object "InodeVolumes$Layout"
  | 2 => .int
  | 3 => .long
  | 4 => .long
  | 5 => .int
  | 6 => .long
  | _ => .long
theorem nm_E : ∀ a, a < 8 → ∀ b, b < 8 → a ≠ b → (T_E a).2.1 ≠ (T_E b).2.1 := by decide +kernel
theorem tyok_E : ∀ k, k < 8 → parseFieldDescriptor (T_E k).2.2.1 = some (ty_E k) := by decide +kernel
def T_L : u_T := fun k => match k with
  | 0 => (R_L, "disk", "LInodeVolumes$Disk;", true)
  | 1 => (R_L, "mapBlock", "[I", true)
  | 2 => (R_L, "groupBlocks", "I", false)
  | 3 => (R_L, "groupInodes", "I", false)
  | 4 => (R_L, "groups", "I", false)
  | _ => (R_L, "inodes", "I", false)
def ty_L : Nat → FieldType := fun k => match k with
  | 0 => .object "InodeVolumes$Disk"
  | 1 => .array .int
  | 2 => .int
  | 3 => .int
  | 4 => .int
  | _ => .int
theorem nm_L : ∀ a, a < 6 → ∀ b, b < 6 → a ≠ b → (T_L a).2.1 ≠ (T_L b).2.1 := by decide +kernel
theorem tyok_L : ∀ k, k < 6 → parseFieldDescriptor (T_L k).2.2.1 = some (ty_L k) := by decide +kernel
def T_S : u_T := fun k => match k with
  | 0 => (R_S, "disk", "LInodeVolumes$Disk;", true)
  | 1 => (R_S, "layout", "LInodeVolumes$Layout;", true)
  | 2 => (R_S, "entries", "LInodeVolumes$Entries;", true)
  | 3 => (R_S, "taken", "[I", true)
  | 4 => (R_S, "known", "[I", true)
  | 5 => (R_S, "line", "[I", true)
  | 6 => (R_S, "parents", "[I", true)
  | 7 => (R_S, "inside", "[I", true)
  | 8 => (R_S, "came", "I", false)
  | _ => (R_S, "found", "I", false)
def ty_S : Nat → FieldType := fun k => match k with
  | 0 => .object "InodeVolumes$Disk"
  | 1 => .object "InodeVolumes$Layout"
  | 2 => .object "InodeVolumes$Entries"
  | 3 => .array .int
  | 4 => .array .int
  | 5 => .array .int
  | 6 => .array .int
  | 7 => .array .int
  | 8 => .int
  | _ => .int
theorem nm_S : ∀ a, a < 10 → ∀ b, b < 10 → a ≠ b → (T_S a).2.1 ≠ (T_S b).2.1 := by decide +kernel
theorem tyok_S : ∀ k, k < 10 → parseFieldDescriptor (T_S k).2.2.1 = some (ty_S k) := by decide +kernel
def T_V : u_T := fun k => match k with
  | 0 => (R_V, "disk", "LInodeVolumes$Disk;", true)
  | 1 => (R_V, "layout", "LInodeVolumes$Layout;", true)
  | 2 => (R_V, "entries", "LInodeVolumes$Entries;", true)
  | 3 => (R_V, "survey", "LInodeVolumes$Survey;", true)
  | _ => (R_V, "here", "I", false)
def ty_V : Nat → FieldType := fun k => match k with
  | 0 => .object "InodeVolumes$Disk"
  | 1 => .object "InodeVolumes$Layout"
  | 2 => .object "InodeVolumes$Entries"
  | 3 => .object "InodeVolumes$Survey"
  | _ => .int
theorem nm_V : ∀ a, a < 5 → ∀ b, b < 5 → a ≠ b → (T_V a).2.1 ≠ (T_V b).2.1 := by decide +kernel
theorem tyok_V : ∀ k, k < 5 → parseFieldDescriptor (T_V k).2.2.1 = some (ty_V k) := by decide +kernel
def T_M : u_T := fun k => match k with
  | 0 => (R_M, "thrown", "I", false)
  | 1 => (R_M, "blocks", "I", true)
  | 2 => (R_M, "disk", "[B", true)
  | 3 => (R_M, "looked", "Z", false)
  | 4 => (R_M, "fault", "I", false)
  | 5 => (R_M, "p", "I", false)
  | 6 => (R_M, "g", "I", false)
  | 7 => (R_M, "j", "I", false)
  | 8 => (R_M, "q", "I", false)
  | 9 => (R_M, "map", "[I", true)
  | 10 => (R_M, "fixed", "[Z", true)
  | 11 => (R_M, "taken", "[Z", true)
  | 12 => (R_M, "many", "I", false)
  | 13 => (R_M, "order", "[I", true)
  | 14 => (R_M, "parent", "[I", true)
  | 15 => (R_M, "folders", "[I", true)
  | 16 => (R_M, "came", "[Z", true)
  | 17 => (R_M, "here", "I", false)
  | _ => (R_M, "found", "I", false)
def ty_M : Nat → FieldType := fun k => match k with
  | 0 => .int
  | 1 => .int
  | 2 => .array .byte
  | 3 => .boolean
  | 4 => .int
  | 5 => .int
  | 6 => .int
  | 7 => .int
  | 8 => .int
  | 9 => .array .int
  | 10 => .array .boolean
  | 11 => .array .boolean
  | 12 => .int
  | 13 => .array .int
  | 14 => .array .int
  | 15 => .array .int
  | 16 => .array .boolean
  | 17 => .int
  | _ => .int
theorem nm_M : ∀ a, a < 19 → ∀ b, b < 19 → a ≠ b → (T_M a).2.1 ≠ (T_M b).2.1 := by decide +kernel
theorem tyok_M : ∀ k, k < 19 → parseFieldDescriptor (T_M k).2.2.1 = some (ty_M k) := by decide +kernel
abbrev clAll : List vw_C := [(R_D, T_D, 3), (R_E, T_E, 8), (R_L, T_L, 6), (R_S, T_S, 10), (R_V, T_V, 5), (R_M, T_M, 19)]
/-- the tables' words that stay: every method's list of words is its own code and these -/
def TB : List Cond := lw_tbl.filter goodWord
theorem inTB {w : Cond} (i : Nat) (h : lw_tbl[i]? = some w) (g : goodWord w = true) : w ∈ TB := List.mem_filter.mpr ⟨List.mem_of_getElem? h, g⟩
theorem goodTB {w : Cond} (h : w ∈ TB) : (w.onTables && w.keeps) = true ∨ ∃ ty, w = .arrayClass ty := good_of_word (List.mem_filter.mp h).2
theorem gV {own C : String} {idx : Nat} {y : MethodName} {b : ByteArray} {n : Nat} {r : Option FieldType} (h1 : Cond.methodLink own idx y ∈ TB) (h2 : Cond.instanceMethod y ∈ TB) (h3 : Cond.selects C y y ∈ TB) (h4 : Cond.initialized C ∈ TB) (h5 : Cond.code y b n r ∈ TB) : GoodIn TB (wsV own idx C y (Cond.code y b n r :: TB)) := by
  have key : ∀ w ∈ wsV own idx C y (Cond.code y b n r :: TB), w ∈ TB := by
    intro w hw
    unfold wsV at hw
    rcases List.mem_append.mp hw with h | h
    · simp only [List.mem_cons, List.not_mem_nil, or_false] at h
      rcases h with h | h | h | h <;> subst h <;> assumption
    · rcases List.mem_cons.mp h with h | h
      · subst h; exact h5
      · exact h
  exact fun w hw => ⟨key w hw, goodTB (key w hw)⟩
theorem gS {own : String} {idx : Nat} {y : MethodName} {b : ByteArray} {n : Nat} {r : Option FieldType} (h1 : Cond.methodLink own idx y ∈ TB) (h2 : Cond.static y ∈ TB) (h4 : Cond.initialized y.cls ∈ TB) (h5 : Cond.code y b n r ∈ TB) : GoodIn TB (va_wsS own idx y (Cond.code y b n r :: TB)) := by
  have key : ∀ w ∈ va_wsS own idx y (Cond.code y b n r :: TB), w ∈ TB := by
    intro w hw
    unfold va_wsS at hw
    rcases List.mem_append.mp hw with h | h
    · simp only [List.mem_cons, List.not_mem_nil, or_false] at h
      rcases h with h | h | h <;> subst h <;> assumption
    · rcases List.mem_cons.mp h with h | h
      · subst h; exact h5
      · exact h
  exact fun w hw => ⟨key w hw, goodTB (key w hw)⟩
theorem in_D : ∀ w ∈ u_ws R_D T_D 3, w ∈ TB := by
  have h : (u_ws R_D T_D 3).all (fun w => decide (w ∈ lw_tbl) && goodWord w) = true := by decide +kernel
  intro w hw
  have h1 := List.all_eq_true.mp h w hw
  rw [Bool.and_eq_true, decide_eq_true_eq] at h1
  exact List.mem_filter.mpr h1
theorem in_E : ∀ w ∈ u_ws R_E T_E 8, w ∈ TB := by
  have h : (u_ws R_E T_E 8).all (fun w => decide (w ∈ lw_tbl) && goodWord w) = true := by decide +kernel
  intro w hw
  have h1 := List.all_eq_true.mp h w hw
  rw [Bool.and_eq_true, decide_eq_true_eq] at h1
  exact List.mem_filter.mpr h1
theorem in_L : ∀ w ∈ u_ws R_L T_L 6, w ∈ TB := by
  have h : (u_ws R_L T_L 6).all (fun w => decide (w ∈ lw_tbl) && goodWord w) = true := by decide +kernel
  intro w hw
  have h1 := List.all_eq_true.mp h w hw
  rw [Bool.and_eq_true, decide_eq_true_eq] at h1
  exact List.mem_filter.mpr h1
theorem in_S : ∀ w ∈ u_ws R_S T_S 10, w ∈ TB := by
  have h : (u_ws R_S T_S 10).all (fun w => decide (w ∈ lw_tbl) && goodWord w) = true := by decide +kernel
  intro w hw
  have h1 := List.all_eq_true.mp h w hw
  rw [Bool.and_eq_true, decide_eq_true_eq] at h1
  exact List.mem_filter.mpr h1
theorem in_V : ∀ w ∈ u_ws R_V T_V 5, w ∈ TB := by
  have h : (u_ws R_V T_V 5).all (fun w => decide (w ∈ lw_tbl) && goodWord w) = true := by decide +kernel
  intro w hw
  have h1 := List.all_eq_true.mp h w hw
  rw [Bool.and_eq_true, decide_eq_true_eq] at h1
  exact List.mem_filter.mpr h1
theorem in_M : ∀ w ∈ u_ws R_M T_M 19, w ∈ TB := by
  have h : (u_ws R_M T_M 19).all (fun w => decide (w ∈ lw_tbl) && goodWord w) = true := by decide +kernel
  intro w hw
  have h1 := List.all_eq_true.mp h w hw
  rw [Bool.and_eq_true, decide_eq_true_eq] at h1
  exact List.mem_filter.mpr h1
abbrev y_A_about : MethodName := ⟨R_A, "about", "(LInodeVolumes;II[J)I"⟩
abbrev b_A_about : ByteArray := method_5_code
abbrev y_A_cell : MethodName := ⟨R_A, "cell", "([II)I"⟩
abbrev b_A_cell : ByteArray := method_2_code
abbrev ws_A_cell : List Cond := Cond.code y_A_cell b_A_cell 2 (some .int) :: TB
abbrev y_A_content : MethodName := ⟨R_A, "content", "(LInodeVolumes;II[J)I"⟩
abbrev b_A_content : ByteArray := method_6_code
abbrev y_A_enter : MethodName := ⟨R_A, "enter", "(LInodeVolumes;I[J)I"⟩
abbrev b_A_enter : ByteArray := method_7_code
abbrev y_A_items : MethodName := ⟨R_A, "items", "(LInodeVolumes;[J)I"⟩
abbrev b_A_items : ByteArray := method_3_code
abbrev y_A_letter : MethodName := ⟨R_A, "letter", "(LInodeVolumes;II[J)I"⟩
abbrev b_A_letter : ByteArray := method_4_code
abbrev y_A_up : MethodName := ⟨R_A, "up", "(LInodeVolumes;[J)I"⟩
abbrev b_A_up : ByteArray := method_8_code
abbrev y_D_init : MethodName := ⟨R_D, "<init>", "(I)V"⟩
abbrev b_D_init : ByteArray := prog_2_method_1_code
abbrev ws_D_init : List Cond := Cond.code y_D_init b_D_init 2 none :: TB
abbrev y_D_bit : MethodName := ⟨R_D, "bit", "(JI)Z"⟩
abbrev b_D_bit : ByteArray := prog_2_method_8_code
abbrev ws_D_bit : List Cond := Cond.code y_D_bit b_D_bit 4 (some .boolean) :: TB
abbrev y_D_blocks : MethodName := ⟨R_D, "blocks", "()I"⟩
abbrev b_D_blocks : ByteArray := prog_2_method_2_code
abbrev ws_D_blocks : List Cond := Cond.code y_D_blocks b_D_blocks 1 (some .int) :: TB
abbrev y_D_holds : MethodName := ⟨R_D, "holds", "(JI)Z"⟩
abbrev b_D_holds : ByteArray := prog_2_method_3_code
abbrev ws_D_holds : List Cond := Cond.code y_D_holds b_D_holds 4 (some .boolean) :: TB
abbrev y_D_move : MethodName := ⟨R_D, "move", "(III)V"⟩
abbrev b_D_move : ByteArray := prog_2_method_7_code
abbrev ws_D_move : List Cond := Cond.code y_D_move b_D_move 5 none :: TB
abbrev y_D_number : MethodName := ⟨R_D, "number", "(JI)J"⟩
abbrev b_D_number : ByteArray := prog_2_method_4_code
abbrev ws_D_number : List Cond := Cond.code y_D_number b_D_number 8 (some .long) :: TB
abbrev y_D_onesFrom : MethodName := ⟨R_D, "onesFrom", "(JI)Z"⟩
abbrev b_D_onesFrom : ByteArray := prog_2_method_9_code
abbrev ws_D_onesFrom : List Cond := Cond.code y_D_onesFrom b_D_onesFrom 5 (some .boolean) :: TB
abbrev y_D_set : MethodName := ⟨R_D, "set", "(JIJ)V"⟩
abbrev b_D_set : ByteArray := prog_2_method_5_code
abbrev ws_D_set : List Cond := Cond.code y_D_set b_D_set 12 none :: TB
abbrev y_D_spread : MethodName := ⟨R_D, "spread", "(III)V"⟩
abbrev b_D_spread : ByteArray := prog_2_method_6_code
abbrev ws_D_spread : List Cond := Cond.code y_D_spread b_D_spread 7 none :: TB
abbrev y_E_init : MethodName := ⟨R_E, "<init>", "(LInodeVolumes$Disk;LInodeVolumes$Layout;)V"⟩
abbrev b_E_init : ByteArray := prog_3_method_1_code
abbrev ws_E_init : List Cond := Cond.code y_E_init b_E_init 3 none :: TB
abbrev y_E_advance : MethodName := ⟨R_E, "advance", "()V"⟩
abbrev b_E_advance : ByteArray := prog_3_method_4_code
abbrev ws_E_advance : List Cond := Cond.code y_E_advance b_E_advance 1 none :: TB
abbrev y_E_fits : MethodName := ⟨R_E, "fits", "()Z"⟩
abbrev b_E_fits : ByteArray := prog_3_method_14_code
abbrev ws_E_fits : List Cond := Cond.code y_E_fits b_E_fits 2 (some .boolean) :: TB
abbrev y_E_hasInode : MethodName := ⟨R_E, "hasInode", "()Z"⟩
abbrev b_E_hasInode : ByteArray := prog_3_method_7_code
abbrev ws_E_hasInode : List Cond := Cond.code y_E_hasInode b_E_hasInode 1 (some .boolean) :: TB
abbrev y_E_hasName : MethodName := ⟨R_E, "hasName", "()Z"⟩
abbrev b_E_hasName : ByteArray := prog_3_method_15_code
abbrev ws_E_hasName : List Cond := Cond.code y_E_hasName b_E_hasName 5 (some .boolean) :: TB
abbrev y_E_inode : MethodName := ⟨R_E, "inode", "()I"⟩
abbrev b_E_inode : ByteArray := prog_3_method_6_code
abbrev ws_E_inode : List Cond := Cond.code y_E_inode b_E_inode 1 (some .int) :: TB
abbrev y_E_isEmpty : MethodName := ⟨R_E, "isEmpty", "()Z"⟩
abbrev b_E_isEmpty : ByteArray := prog_3_method_12_code
abbrev ws_E_isEmpty : List Cond := Cond.code y_E_isEmpty b_E_isEmpty 1 (some .boolean) :: TB
abbrev y_E_isItem : MethodName := ⟨R_E, "isItem", "()Z"⟩
abbrev b_E_isItem : ByteArray := prog_3_method_13_code
abbrev ws_E_isItem : List Cond := Cond.code y_E_isItem b_E_isItem 1 (some .boolean) :: TB
abbrev y_E_isOn : MethodName := ⟨R_E, "isOn", "()Z"⟩
abbrev b_E_isOn : ByteArray := prog_3_method_3_code
abbrev ws_E_isOn : List Cond := Cond.code y_E_isOn b_E_isOn 1 (some .boolean) :: TB
abbrev y_E_isOneDot : MethodName := ⟨R_E, "isOneDot", "()Z"⟩
abbrev b_E_isOneDot : ByteArray := prog_3_method_16_code
abbrev ws_E_isOneDot : List Cond := Cond.code y_E_isOneDot b_E_isOneDot 1 (some .boolean) :: TB
abbrev y_E_isTwoDots : MethodName := ⟨R_E, "isTwoDots", "()Z"⟩
abbrev b_E_isTwoDots : ByteArray := prog_3_method_17_code
abbrev ws_E_isTwoDots : List Cond := Cond.code y_E_isTwoDots b_E_isTwoDots 1 (some .boolean) :: TB
abbrev y_E_length : MethodName := ⟨R_E, "length", "()I"⟩
abbrev b_E_length : ByteArray := prog_3_method_8_code
abbrev ws_E_length : List Cond := Cond.code y_E_length b_E_length 1 (some .int) :: TB
abbrev y_E_mark : MethodName := ⟨R_E, "mark", "()I"⟩
abbrev b_E_mark : ByteArray := prog_3_method_10_code
abbrev ws_E_mark : List Cond := Cond.code y_E_mark b_E_mark 1 (some .int) :: TB
abbrev y_E_nameByte : MethodName := ⟨R_E, "nameByte", "(I)I"⟩
abbrev b_E_nameByte : ByteArray := prog_3_method_11_code
abbrev ws_E_nameByte : List Cond := Cond.code y_E_nameByte b_E_nameByte 2 (some .int) :: TB
abbrev y_E_nameLength : MethodName := ⟨R_E, "nameLength", "()I"⟩
abbrev b_E_nameLength : ByteArray := prog_3_method_9_code
abbrev ws_E_nameLength : List Cond := Cond.code y_E_nameLength b_E_nameLength 1 (some .int) :: TB
abbrev y_E_order : MethodName := ⟨R_E, "order", "()I"⟩
abbrev b_E_order : ByteArray := prog_3_method_5_code
abbrev ws_E_order : List Cond := Cond.code y_E_order b_E_order 1 (some .int) :: TB
abbrev y_E_start : MethodName := ⟨R_E, "start", "(I)V"⟩
abbrev b_E_start : ByteArray := prog_3_method_2_code
abbrev ws_E_start : List Cond := Cond.code y_E_start b_E_start 2 none :: TB
abbrev y_J_fill : MethodName := ⟨R_J, "fill", "([II)V"⟩
abbrev b_J_fill : ByteArray := prog_16_method_103_code
abbrev ws_J_fill : List Cond := Cond.code y_J_fill b_J_fill 4 none :: TB
abbrev y_L_init : MethodName := ⟨R_L, "<init>", "(LInodeVolumes$Disk;)V"⟩
abbrev b_L_init : ByteArray := prog_4_method_1_code
abbrev ws_L_init : List Cond := Cond.code y_L_init b_L_init 2 none :: TB
abbrev y_L_blockMap : MethodName := ⟨R_L, "blockMap", "(I)J"⟩
abbrev b_L_blockMap : ByteArray := prog_4_method_11_code
abbrev ws_L_blockMap : List Cond := Cond.code y_L_blockMap b_L_blockMap 2 (some .long) :: TB
abbrev y_L_blockOf : MethodName := ⟨R_L, "blockOf", "(II)J"⟩
abbrev b_L_blockOf : ByteArray := prog_4_method_21_code
abbrev ws_L_blockOf : List Cond := Cond.code y_L_blockOf b_L_blockOf 10 (some .long) :: TB
abbrev y_L_blocksFor : MethodName := ⟨R_L, "blocksFor", "(J)I"⟩
abbrev b_L_blocksFor : ByteArray := prog_4_method_20_code
abbrev ws_L_blocksFor : List Cond := Cond.code y_L_blocksFor b_L_blocksFor 3 (some .int) :: TB
abbrev y_L_blocksOf : MethodName := ⟨R_L, "blocksOf", "(I)I"⟩
abbrev b_L_blocksOf : ByteArray := prog_4_method_9_code
abbrev ws_L_blocksOf : List Cond := Cond.code y_L_blocksOf b_L_blocksOf 2 (some .int) :: TB
abbrev y_L_described : MethodName := ⟨R_L, "described", "(III)J"⟩
abbrev b_L_described : ByteArray := prog_4_method_10_code
abbrev ws_L_described : List Cond := Cond.code y_L_described b_L_described 4 (some .long) :: TB
abbrev y_L_field : MethodName := ⟨R_L, "field", "(III)J"⟩
abbrev b_L_field : ByteArray := prog_4_method_17_code
abbrev ws_L_field : List Cond := Cond.code y_L_field b_L_field 4 (some .long) :: TB
abbrev y_L_firstBlock : MethodName := ⟨R_L, "firstBlock", "(I)I"⟩
abbrev b_L_firstBlock : ByteArray := prog_4_method_8_code
abbrev ws_L_firstBlock : List Cond := Cond.code y_L_firstBlock b_L_firstBlock 2 (some .int) :: TB
abbrev y_L_groupBlocks : MethodName := ⟨R_L, "groupBlocks", "()I"⟩
abbrev b_L_groupBlocks : ByteArray := prog_4_method_5_code
abbrev ws_L_groupBlocks : List Cond := Cond.code y_L_groupBlocks b_L_groupBlocks 1 (some .int) :: TB
abbrev y_L_groupInodes : MethodName := ⟨R_L, "groupInodes", "()I"⟩
abbrev b_L_groupInodes : ByteArray := prog_4_method_6_code
abbrev ws_L_groupInodes : List Cond := Cond.code y_L_groupInodes b_L_groupInodes 1 (some .int) :: TB
abbrev y_L_groupOf : MethodName := ⟨R_L, "groupOf", "(I)I"⟩
abbrev b_L_groupOf : ByteArray := prog_4_method_13_code
abbrev ws_L_groupOf : List Cond := Cond.code y_L_groupOf b_L_groupOf 2 (some .int) :: TB
abbrev y_L_groups : MethodName := ⟨R_L, "groups", "()I"⟩
abbrev b_L_groups : ByteArray := prog_4_method_4_code
abbrev ws_L_groups : List Cond := Cond.code y_L_groups b_L_groups 1 (some .int) :: TB
abbrev y_L_inodeMap : MethodName := ⟨R_L, "inodeMap", "(I)J"⟩
abbrev b_L_inodeMap : ByteArray := prog_4_method_12_code
abbrev ws_L_inodeMap : List Cond := Cond.code y_L_inodeMap b_L_inodeMap 2 (some .long) :: TB
abbrev y_L_inodePlace : MethodName := ⟨R_L, "inodePlace", "(I)J"⟩
abbrev b_L_inodePlace : ByteArray := prog_4_method_16_code
abbrev ws_L_inodePlace : List Cond := Cond.code y_L_inodePlace b_L_inodePlace 3 (some .long) :: TB
abbrev y_L_inodes : MethodName := ⟨R_L, "inodes", "()I"⟩
abbrev b_L_inodes : ByteArray := prog_4_method_7_code
abbrev ws_L_inodes : List Cond := Cond.code y_L_inodes b_L_inodes 1 (some .int) :: TB
abbrev y_L_isInode : MethodName := ⟨R_L, "isInode", "(J)Z"⟩
abbrev b_L_isInode : ByteArray := prog_4_method_14_code
abbrev ws_L_isInode : List Cond := Cond.code y_L_isInode b_L_isInode 3 (some .boolean) :: TB
abbrev y_L_isUsed : MethodName := ⟨R_L, "isUsed", "(I)Z"⟩
abbrev b_L_isUsed : ByteArray := prog_4_method_15_code
abbrev ws_L_isUsed : List Cond := Cond.code y_L_isUsed b_L_isUsed 4 (some .boolean) :: TB
abbrev y_L_readGroups : MethodName := ⟨R_L, "readGroups", "()Z"⟩
abbrev b_L_readGroups : ByteArray := prog_4_method_2_code
abbrev ws_L_readGroups : List Cond := Cond.code y_L_readGroups b_L_readGroups 5 (some .boolean) :: TB
abbrev y_L_setMap : MethodName := ⟨R_L, "setMap", "(II)V"⟩
abbrev b_L_setMap : ByteArray := prog_4_method_3_code
abbrev ws_L_setMap : List Cond := Cond.code y_L_setMap b_L_setMap 3 none :: TB
abbrev y_L_sizeOf : MethodName := ⟨R_L, "sizeOf", "(I)J"⟩
abbrev b_L_sizeOf : ByteArray := prog_4_method_19_code
abbrev ws_L_sizeOf : List Cond := Cond.code y_L_sizeOf b_L_sizeOf 2 (some .long) :: TB
abbrev y_L_typeOf : MethodName := ⟨R_L, "typeOf", "(I)I"⟩
abbrev b_L_typeOf : ByteArray := prog_4_method_18_code
abbrev ws_L_typeOf : List Cond := Cond.code y_L_typeOf b_L_typeOf 2 (some .int) :: TB
abbrev y_M_init : MethodName := ⟨R_M, "<init>", "(I)V"⟩
abbrev b_M_init : ByteArray := prog_7_method_1_code
abbrev ws_M_init : List Cond := Cond.code y_M_init b_M_init 2 none :: TB
abbrev y_M_about : MethodName := ⟨R_M, "about", "(II)J"⟩
abbrev b_M_about : ByteArray := prog_7_method_48_code
abbrev ws_M_about : List Cond := Cond.code y_M_about b_M_about 4 (some .long) :: TB
abbrev y_M_badCopies : MethodName := ⟨R_M, "badCopies", "()Z"⟩
abbrev b_M_badCopies : ByteArray := prog_7_method_16_code
abbrev ws_M_badCopies : List Cond := Cond.code y_M_badCopies b_M_badCopies 4 (some .boolean) :: TB
abbrev y_M_badCounts : MethodName := ⟨R_M, "badCounts", "()Z"⟩
abbrev b_M_badCounts : ByteArray := prog_7_method_39_code
abbrev ws_M_badCounts : List Cond := Cond.code y_M_badCounts b_M_badCounts 12 (some .boolean) :: TB
abbrev y_M_badEntries : MethodName := ⟨R_M, "badEntries", "(I)Z"⟩
abbrev b_M_badEntries : ByteArray := prog_7_method_33_code
abbrev ws_M_badEntries : List Cond := Cond.code y_M_badEntries b_M_badEntries 7 (some .boolean) :: TB
abbrev y_M_badHead : MethodName := ⟨R_M, "badHead", "()Z"⟩
abbrev b_M_badHead : ByteArray := prog_7_method_15_code
abbrev ws_M_badHead : List Cond := Cond.code y_M_badHead b_M_badHead 7 (some .boolean) :: TB
abbrev y_M_badInodes : MethodName := ⟨R_M, "badInodes", "()Z"⟩
abbrev b_M_badInodes : ByteArray := prog_7_method_38_code
abbrev ws_M_badInodes : List Cond := Cond.code y_M_badInodes b_M_badInodes 3 (some .boolean) :: TB
abbrev y_M_badLinks : MethodName := ⟨R_M, "badLinks", "()Z"⟩
abbrev b_M_badLinks : ByteArray := prog_7_method_37_code
abbrev ws_M_badLinks : List Cond := Cond.code y_M_badLinks b_M_badLinks 3 (some .boolean) :: TB
abbrev y_M_badMaps : MethodName := ⟨R_M, "badMaps", "()Z"⟩
abbrev b_M_badMaps : ByteArray := prog_7_method_18_code
abbrev ws_M_badMaps : List Cond := Cond.code y_M_badMaps b_M_badMaps 7 (some .boolean) :: TB
abbrev y_M_begin : MethodName := ⟨R_M, "begin", "(I)I"⟩
abbrev b_M_begin : ByteArray := prog_7_method_13_code
abbrev ws_M_begin : List Cond := Cond.code y_M_begin b_M_begin 2 (some .int) :: TB
abbrev y_M_bit : MethodName := ⟨R_M, "bit", "(II)Z"⟩
abbrev b_M_bit : ByteArray := prog_7_method_20_code
abbrev ws_M_bit : List Cond := Cond.code y_M_bit b_M_bit 3 (some .boolean) :: TB
abbrev y_M_blockOf : MethodName := ⟨R_M, "blockOf", "(II)J"⟩
abbrev b_M_blockOf : ByteArray := prog_7_method_27_code
abbrev ws_M_blockOf : List Cond := Cond.code y_M_blockOf b_M_blockOf 4 (some .long) :: TB
abbrev y_M_byteAt : MethodName := ⟨R_M, "byteAt", "(I)I"⟩
abbrev b_M_byteAt : ByteArray := prog_7_method_12_code
abbrev ws_M_byteAt : List Cond := Cond.code y_M_byteAt b_M_byteAt 2 (some .int) :: TB
abbrev y_M_changed : MethodName := ⟨R_M, "changed", "()Z"⟩
abbrev b_M_changed : ByteArray := prog_7_method_8_code
abbrev ws_M_changed : List Cond := Cond.code y_M_changed b_M_changed 1 (some .boolean) :: TB
abbrev y_M_comes : MethodName := ⟨R_M, "comes", "(II)V"⟩
abbrev b_M_comes : ByteArray := prog_7_method_35_code
abbrev ws_M_comes : List Cond := Cond.code y_M_comes b_M_comes 3 none :: TB
abbrev y_M_content : MethodName := ⟨R_M, "content", "(II)I"⟩
abbrev b_M_content : ByteArray := prog_7_method_49_code
abbrev ws_M_content : List Cond := Cond.code y_M_content b_M_content 4 (some .int) :: TB
abbrev y_M_copy : MethodName := ⟨R_M, "copy", "(III)Z"⟩
abbrev b_M_copy : ByteArray := prog_7_method_11_code
abbrev ws_M_copy : List Cond := Cond.code y_M_copy b_M_copy 6 (some .boolean) :: TB
abbrev y_M_count : MethodName := ⟨R_M, "count", "()I"⟩
abbrev b_M_count : ByteArray := prog_7_method_44_code
abbrev ws_M_count : List Cond := Cond.code y_M_count b_M_count 2 (some .int) :: TB
abbrev y_M_enter : MethodName := ⟨R_M, "enter", "(I)I"⟩
abbrev b_M_enter : ByteArray := prog_7_method_50_code
abbrev ws_M_enter : List Cond := Cond.code y_M_enter b_M_enter 2 (some .int) :: TB
abbrev y_M_fails : MethodName := ⟨R_M, "fails", "(ZI)Z"⟩
abbrev b_M_fails : ByteArray := prog_7_method_3_code
abbrev ws_M_fails : List Cond := Cond.code y_M_fails b_M_fails 3 (some .boolean) :: TB
abbrev y_M_fault : MethodName := ⟨R_M, "fault", "()I"⟩
abbrev b_M_fault : ByteArray := prog_7_method_42_code
abbrev ws_M_fault : List Cond := Cond.code y_M_fault b_M_fault 1 (some .int) :: TB
abbrev y_M_fill : MethodName := ⟨R_M, "fill", "(III)Z"⟩
abbrev b_M_fill : ByteArray := prog_7_method_10_code
abbrev ws_M_fill : List Cond := Cond.code y_M_fill b_M_fill 5 (some .boolean) :: TB
abbrev y_M_finds : MethodName := ⟨R_M, "finds", "(II)Z"⟩
abbrev b_M_finds : ByteArray := prog_7_method_34_code
abbrev ws_M_finds : List Cond := Cond.code y_M_finds b_M_finds 8 (some .boolean) :: TB
abbrev y_M_firstFault : MethodName := ⟨R_M, "firstFault", "()I"⟩
abbrev b_M_firstFault : ByteArray := prog_7_method_40_code
abbrev ws_M_firstFault : List Cond := Cond.code y_M_firstFault b_M_firstFault 2 (some .int) :: TB
abbrev y_M_fixes : MethodName := ⟨R_M, "fixes", "(I)Z"⟩
abbrev b_M_fixes : ByteArray := prog_7_method_17_code
abbrev ws_M_fixes : List Cond := Cond.code y_M_fixes b_M_fixes 3 (some .boolean) :: TB
abbrev y_M_four : MethodName := ⟨R_M, "four", "(I)J"⟩
abbrev b_M_four : ByteArray := prog_7_method_6_code
abbrev ws_M_four : List Cond := Cond.code y_M_four b_M_four 2 (some .long) :: TB
abbrev y_M_inodeAt : MethodName := ⟨R_M, "inodeAt", "(I)I"⟩
abbrev b_M_inodeAt : ByteArray := prog_7_method_19_code
abbrev ws_M_inodeAt : List Cond := Cond.code y_M_inodeAt b_M_inodeAt 2 (some .int) :: TB
abbrev y_M_isDots : MethodName := ⟨R_M, "isDots", "(II)Z"⟩
abbrev b_M_isDots : ByteArray := prog_7_method_31_code
abbrev ws_M_isDots : List Cond := Cond.code y_M_isDots b_M_isDots 5 (some .boolean) :: TB
abbrev y_M_isEntry : MethodName := ⟨R_M, "isEntry", "(IIII)Z"⟩
abbrev b_M_isEntry : ByteArray := prog_7_method_32_code
abbrev ws_M_isEntry : List Cond := Cond.code y_M_isEntry b_M_isEntry 11 (some .boolean) :: TB
abbrev y_M_isThere : MethodName := ⟨R_M, "isThere", "(JJ)Z"⟩
abbrev b_M_isThere : ByteArray := prog_7_method_7_code
abbrev ws_M_isThere : List Cond := Cond.code y_M_isThere b_M_isThere 5 (some .boolean) :: TB
abbrev y_M_isUsed : MethodName := ⟨R_M, "isUsed", "(I)Z"⟩
abbrev b_M_isUsed : ByteArray := prog_7_method_21_code
abbrev ws_M_isUsed : List Cond := Cond.code y_M_isUsed b_M_isUsed 2 (some .boolean) :: TB
abbrev y_M_isWhole : MethodName := ⟨R_M, "isWhole", "(I)Z"⟩
abbrev b_M_isWhole : ByteArray := prog_7_method_28_code
abbrev ws_M_isWhole : List Cond := Cond.code y_M_isWhole b_M_isWhole 7 (some .boolean) :: TB
abbrev y_M_items : MethodName := ⟨R_M, "items", "()I"⟩
abbrev b_M_items : ByteArray := prog_7_method_45_code
abbrev ws_M_items : List Cond := Cond.code y_M_items b_M_items 1 (some .int) :: TB
abbrev y_M_lengthAt : MethodName := ⟨R_M, "lengthAt", "(I)I"⟩
abbrev b_M_lengthAt : ByteArray := prog_7_method_29_code
abbrev ws_M_lengthAt : List Cond := Cond.code y_M_lengthAt b_M_lengthAt 2 (some .int) :: TB
abbrev y_M_letter : MethodName := ⟨R_M, "letter", "(II)I"⟩
abbrev b_M_letter : ByteArray := prog_7_method_47_code
abbrev ws_M_letter : List Cond := Cond.code y_M_letter b_M_letter 3 (some .int) :: TB
abbrev y_M_look : MethodName := ⟨R_M, "look", "()V"⟩
abbrev b_M_look : ByteArray := prog_7_method_41_code
abbrev ws_M_look : List Cond := Cond.code y_M_look b_M_look 1 none :: TB
abbrev y_M_nameSize : MethodName := ⟨R_M, "nameSize", "(I)I"⟩
abbrev b_M_nameSize : ByteArray := prog_7_method_30_code
abbrev ws_M_nameSize : List Cond := Cond.code y_M_nameSize b_M_nameSize 2 (some .int) :: TB
abbrev y_M_no : MethodName := ⟨R_M, "no", "(I)Z"⟩
abbrev b_M_no : ByteArray := prog_7_method_46_code
abbrev ws_M_no : List Cond := Cond.code y_M_no b_M_no 2 (some .boolean) :: TB
abbrev y_M_none : MethodName := ⟨R_M, "none", "()Z"⟩
abbrev b_M_none : ByteArray := prog_7_method_43_code
abbrev ws_M_none : List Cond := Cond.code y_M_none b_M_none 1 (some .boolean) :: TB
abbrev y_M_one : MethodName := ⟨R_M, "one", "(I)I"⟩
abbrev b_M_one : ByteArray := prog_7_method_4_code
abbrev ws_M_one : List Cond := Cond.code y_M_one b_M_one 2 (some .int) :: TB
abbrev y_M_parts : MethodName := ⟨R_M, "parts", "(II)I"⟩
abbrev b_M_parts : ByteArray := prog_7_method_25_code
abbrev ws_M_parts : List Cond := Cond.code y_M_parts b_M_parts 2 (some .int) :: TB
abbrev y_M_pointer : MethodName := ⟨R_M, "pointer", "(II)J"⟩
abbrev b_M_pointer : ByteArray := prog_7_method_24_code
abbrev ws_M_pointer : List Cond := Cond.code y_M_pointer b_M_pointer 3 (some .long) :: TB
abbrev y_M_put : MethodName := ⟨R_M, "put", "(IIJ)Z"⟩
abbrev b_M_put : ByteArray := prog_7_method_9_code
abbrev ws_M_put : List Cond := Cond.code y_M_put b_M_put 6 (some .boolean) :: TB
abbrev y_M_sizeOf : MethodName := ⟨R_M, "sizeOf", "(I)I"⟩
abbrev b_M_sizeOf : ByteArray := prog_7_method_14_code
abbrev ws_M_sizeOf : List Cond := Cond.code y_M_sizeOf b_M_sizeOf 2 (some .int) :: TB
abbrev y_M_sizeOfInode : MethodName := ⟨R_M, "sizeOfInode", "(I)J"⟩
abbrev b_M_sizeOfInode : ByteArray := prog_7_method_23_code
abbrev ws_M_sizeOfInode : List Cond := Cond.code y_M_sizeOfInode b_M_sizeOfInode 2 (some .long) :: TB
abbrev y_M_takes : MethodName := ⟨R_M, "takes", "(J)Z"⟩
abbrev b_M_takes : ByteArray := prog_7_method_26_code
abbrev ws_M_takes : List Cond := Cond.code y_M_takes b_M_takes 3 (some .boolean) :: TB
abbrev y_M_thrown : MethodName := ⟨R_M, "thrown", "()I"⟩
abbrev b_M_thrown : ByteArray := prog_7_method_2_code
abbrev ws_M_thrown : List Cond := Cond.code y_M_thrown b_M_thrown 1 (some .int) :: TB
abbrev y_M_tree : MethodName := ⟨R_M, "tree", "()I"⟩
abbrev b_M_tree : ByteArray := prog_7_method_36_code
abbrev ws_M_tree : List Cond := Cond.code y_M_tree b_M_tree 5 (some .int) :: TB
abbrev y_M_two : MethodName := ⟨R_M, "two", "(I)I"⟩
abbrev b_M_two : ByteArray := prog_7_method_5_code
abbrev ws_M_two : List Cond := Cond.code y_M_two b_M_two 2 (some .int) :: TB
abbrev y_M_typeOf : MethodName := ⟨R_M, "typeOf", "(I)I"⟩
abbrev b_M_typeOf : ByteArray := prog_7_method_22_code
abbrev ws_M_typeOf : List Cond := Cond.code y_M_typeOf b_M_typeOf 2 (some .int) :: TB
abbrev y_M_up : MethodName := ⟨R_M, "up", "()Z"⟩
abbrev b_M_up : ByteArray := prog_7_method_51_code
abbrev ws_M_up : List Cond := Cond.code y_M_up b_M_up 1 (some .boolean) :: TB
abbrev y_S_init : MethodName := ⟨R_S, "<init>", "(LInodeVolumes$Disk;LInodeVolumes$Layout;LInodeVolumes$Entries;)V"⟩
abbrev b_S_init : ByteArray := prog_5_method_1_code
abbrev ws_S_init : List Cond := Cond.code y_S_init b_S_init 5 none :: TB
abbrev y_S_blockMapStands : MethodName := ⟨R_S, "blockMapStands", "(I)Z"⟩
abbrev b_S_blockMapStands : ByteArray := prog_5_method_25_code
abbrev ws_S_blockMapStands : List Cond := Cond.code y_S_blockMapStands b_S_blockMapStands 4 (some .boolean) :: TB
abbrev y_S_copiesStand : MethodName := ⟨R_S, "copiesStand", "()Z"⟩
abbrev b_S_copiesStand : ByteArray := prog_5_method_6_code
abbrev ws_S_copiesStand : List Cond := Cond.code y_S_copiesStand b_S_copiesStand 2 (some .boolean) :: TB
abbrev y_S_directories : MethodName := ⟨R_S, "directories", "(I)I"⟩
abbrev b_S_directories : ByteArray := prog_5_method_28_code
abbrev ws_S_directories : List Cond := Cond.code y_S_directories b_S_directories 4 (some .int) :: TB
abbrev y_S_entriesStand : MethodName := ⟨R_S, "entriesStand", "(II)Z"⟩
abbrev b_S_entriesStand : ByteArray := prog_5_method_16_code
abbrev ws_S_entriesStand : List Cond := Cond.code y_S_entriesStand b_S_entriesStand 6 (some .boolean) :: TB
abbrev y_S_entryStands : MethodName := ⟨R_S, "entryStands", "(II)Z"⟩
abbrev b_S_entryStands : ByteArray := prog_5_method_17_code
abbrev ws_S_entryStands : List Cond := Cond.code y_S_entryStands b_S_entryStands 5 (some .boolean) :: TB
abbrev y_S_firstFault : MethodName := ⟨R_S, "firstFault", "()I"⟩
abbrev b_S_firstFault : ByteArray := prog_5_method_3_code
abbrev ws_S_firstFault : List Cond := Cond.code y_S_firstFault b_S_firstFault 1 (some .int) :: TB
abbrev y_S_fix : MethodName := ⟨R_S, "fix", "(II)V"⟩
abbrev b_S_fix : ByteArray := prog_5_method_9_code
abbrev ws_S_fix : List Cond := Cond.code y_S_fix b_S_fix 4 none :: TB
abbrev y_S_forget : MethodName := ⟨R_S, "forget", "()V"⟩
abbrev b_S_forget : ByteArray := prog_5_method_2_code
abbrev ws_S_forget : List Cond := Cond.code y_S_forget b_S_forget 1 none :: TB
abbrev y_S_freeBlocks : MethodName := ⟨R_S, "freeBlocks", "(I)I"⟩
abbrev b_S_freeBlocks : ByteArray := prog_5_method_26_code
abbrev ws_S_freeBlocks : List Cond := Cond.code y_S_freeBlocks b_S_freeBlocks 5 (some .int) :: TB
abbrev y_S_freeInodes : MethodName := ⟨R_S, "freeInodes", "(I)I"⟩
abbrev b_S_freeInodes : ByteArray := prog_5_method_27_code
abbrev ws_S_freeInodes : List Cond := Cond.code y_S_freeInodes b_S_freeInodes 4 (some .int) :: TB
abbrev y_S_groupsStand : MethodName := ⟨R_S, "groupsStand", "()Z"⟩
abbrev b_S_groupsStand : ByteArray := prog_5_method_8_code
abbrev ws_S_groupsStand : List Cond := Cond.code y_S_groupsStand b_S_groupsStand 7 (some .boolean) :: TB
abbrev y_S_hasCopies : MethodName := ⟨R_S, "hasCopies", "(I)Z"⟩
abbrev b_S_hasCopies : ByteArray := prog_5_method_7_code
abbrev ws_S_hasCopies : List Cond := Cond.code y_S_hasCopies b_S_hasCopies 7 (some .boolean) :: TB
abbrev y_S_inodesStand : MethodName := ⟨R_S, "inodesStand", "()Z"⟩
abbrev b_S_inodesStand : ByteArray := prog_5_method_21_code
abbrev ws_S_inodesStand : List Cond := Cond.code y_S_inodesStand b_S_inodesStand 3 (some .boolean) :: TB
abbrev y_S_isBlank : MethodName := ⟨R_S, "isBlank", "(I)Z"⟩
abbrev b_S_isBlank : ByteArray := prog_5_method_22_code
abbrev ws_S_isBlank : List Cond := Cond.code y_S_isBlank b_S_isBlank 5 (some .boolean) :: TB
abbrev y_S_isKnown : MethodName := ⟨R_S, "isKnown", "(I)Z"⟩
abbrev b_S_isKnown : ByteArray := prog_5_method_12_code
abbrev ws_S_isKnown : List Cond := Cond.code y_S_isKnown b_S_isKnown 2 (some .boolean) :: TB
abbrev y_S_isTaken : MethodName := ⟨R_S, "isTaken", "(I)Z"⟩
abbrev b_S_isTaken : ByteArray := prog_5_method_24_code
abbrev ws_S_isTaken : List Cond := Cond.code y_S_isTaken b_S_isTaken 2 (some .boolean) :: TB
abbrev y_S_itemsComeUp : MethodName := ⟨R_S, "itemsComeUp", "(I)Z"⟩
abbrev b_S_itemsComeUp : ByteArray := prog_5_method_18_code
abbrev ws_S_itemsComeUp : List Cond := Cond.code y_S_itemsComeUp b_S_itemsComeUp 5 (some .boolean) :: TB
abbrev y_S_lateFault : MethodName := ⟨R_S, "lateFault", "()I"⟩
abbrev b_S_lateFault : ByteArray := prog_5_method_19_code
abbrev ws_S_lateFault : List Cond := Cond.code y_S_lateFault b_S_lateFault 1 (some .int) :: TB
abbrev y_S_linksStand : MethodName := ⟨R_S, "linksStand", "()Z"⟩
abbrev b_S_linksStand : ByteArray := prog_5_method_20_code
abbrev ws_S_linksStand : List Cond := Cond.code y_S_linksStand b_S_linksStand 3 (some .boolean) :: TB
abbrev y_S_mapsStand : MethodName := ⟨R_S, "mapsStand", "()Z"⟩
abbrev b_S_mapsStand : ByteArray := prog_5_method_23_code
abbrev ws_S_mapsStand : List Cond := Cond.code y_S_mapsStand b_S_mapsStand 6 (some .boolean) :: TB
abbrev y_S_spareAreZero : MethodName := ⟨R_S, "spareAreZero", "(II)Z"⟩
abbrev b_S_spareAreZero : ByteArray := prog_5_method_14_code
abbrev ws_S_spareAreZero : List Cond := Cond.code y_S_spareAreZero b_S_spareAreZero 6 (some .boolean) :: TB
abbrev y_S_standInLine : MethodName := ⟨R_S, "standInLine", "(II)V"⟩
abbrev b_S_standInLine : ByteArray := prog_5_method_11_code
abbrev ws_S_standInLine : List Cond := Cond.code y_S_standInLine b_S_standInLine 3 none :: TB
abbrev y_S_superblockHas : MethodName := ⟨R_S, "superblockHas", "(IIJ)Z"⟩
abbrev b_S_superblockHas : ByteArray := prog_5_method_5_code
abbrev ws_S_superblockHas : List Cond := Cond.code y_S_superblockHas b_S_superblockHas 5 (some .boolean) :: TB
abbrev y_S_superblockStands : MethodName := ⟨R_S, "superblockStands", "()Z"⟩
abbrev b_S_superblockStands : ByteArray := prog_5_method_4_code
abbrev ws_S_superblockStands : List Cond := Cond.code y_S_superblockStands b_S_superblockStands 1 (some .boolean) :: TB
abbrev y_S_take : MethodName := ⟨R_S, "take", "(J)Z"⟩
abbrev b_S_take : ByteArray := prog_5_method_15_code
abbrev ws_S_take : List Cond := Cond.code y_S_take b_S_take 4 (some .boolean) :: TB
abbrev y_S_takeWhole : MethodName := ⟨R_S, "takeWhole", "(I)Z"⟩
abbrev b_S_takeWhole : ByteArray := prog_5_method_13_code
abbrev ws_S_takeWhole : List Cond := Cond.code y_S_takeWhole b_S_takeWhole 10 (some .boolean) :: TB
abbrev y_S_treeFault : MethodName := ⟨R_S, "treeFault", "()I"⟩
abbrev b_S_treeFault : ByteArray := prog_5_method_10_code
abbrev ws_S_treeFault : List Cond := Cond.code y_S_treeFault b_S_treeFault 2 (some .int) :: TB
abbrev y_V_init : MethodName := ⟨R_V, "<init>", "(I)V"⟩
abbrev b_V_init : ByteArray := prog_1_method_1_code
abbrev ws_V_init : List Cond := Cond.code y_V_init b_V_init 2 none :: TB
abbrev y_V_about : MethodName := ⟨R_V, "about", "(II)J"⟩
abbrev b_V_about : ByteArray := prog_1_method_9_code
abbrev ws_V_about : List Cond := Cond.code y_V_about b_V_about 4 (some .long) :: TB
abbrev y_V_beginAgain : MethodName := ⟨R_V, "beginAgain", "()V"⟩
abbrev b_V_beginAgain : ByteArray := prog_1_method_13_code
abbrev ws_V_beginAgain : List Cond := Cond.code y_V_beginAgain b_V_beginAgain 1 none :: TB
abbrev y_V_byteAt : MethodName := ⟨R_V, "byteAt", "(I)I"⟩
abbrev b_V_byteAt : ByteArray := prog_1_method_5_code
abbrev ws_V_byteAt : List Cond := Cond.code y_V_byteAt b_V_byteAt 2 (some .int) :: TB
abbrev y_V_content : MethodName := ⟨R_V, "content", "(II)I"⟩
abbrev b_V_content : ByteArray := prog_1_method_10_code
abbrev ws_V_content : List Cond := Cond.code y_V_content b_V_content 4 (some .int) :: TB
abbrev y_V_copy : MethodName := ⟨R_V, "copy", "(III)Z"⟩
abbrev b_V_copy : ByteArray := prog_1_method_4_code
abbrev ws_V_copy : List Cond := Cond.code y_V_copy b_V_copy 4 (some .boolean) :: TB
abbrev y_V_countItems : MethodName := ⟨R_V, "countItems", "()I"⟩
abbrev b_V_countItems : ByteArray := prog_1_method_14_code
abbrev ws_V_countItems : List Cond := Cond.code y_V_countItems b_V_countItems 3 (some .int) :: TB
abbrev y_V_enter : MethodName := ⟨R_V, "enter", "(I)I"⟩
abbrev b_V_enter : ByteArray := prog_1_method_11_code
abbrev ws_V_enter : List Cond := Cond.code y_V_enter b_V_enter 3 (some .int) :: TB
abbrev y_V_fault : MethodName := ⟨R_V, "fault", "()I"⟩
abbrev b_V_fault : ByteArray := prog_1_method_6_code
abbrev ws_V_fault : List Cond := Cond.code y_V_fault b_V_fault 1 (some .int) :: TB
abbrev y_V_fill : MethodName := ⟨R_V, "fill", "(III)Z"⟩
abbrev b_V_fill : ByteArray := prog_1_method_3_code
abbrev ws_V_fill : List Cond := Cond.code y_V_fill b_V_fill 4 (some .boolean) :: TB
abbrev y_V_items : MethodName := ⟨R_V, "items", "()I"⟩
abbrev b_V_items : ByteArray := prog_1_method_7_code
abbrev ws_V_items : List Cond := Cond.code y_V_items b_V_items 1 (some .int) :: TB
abbrev y_V_lastBlock : MethodName := ⟨R_V, "lastBlock", "(I)J"⟩
abbrev b_V_lastBlock : ByteArray := prog_1_method_16_code
abbrev ws_V_lastBlock : List Cond := Cond.code y_V_lastBlock b_V_lastBlock 3 (some .long) :: TB
abbrev y_V_letter : MethodName := ⟨R_V, "letter", "(II)I"⟩
abbrev b_V_letter : ByteArray := prog_1_method_8_code
abbrev ws_V_letter : List Cond := Cond.code y_V_letter b_V_letter 3 (some .int) :: TB
abbrev y_V_put : MethodName := ⟨R_V, "put", "(IIJ)Z"⟩
abbrev b_V_put : ByteArray := prog_1_method_2_code
abbrev ws_V_put : List Cond := Cond.code y_V_put b_V_put 5 (some .boolean) :: TB
abbrev y_V_seekItem : MethodName := ⟨R_V, "seekItem", "(I)V"⟩
abbrev b_V_seekItem : ByteArray := prog_1_method_15_code
abbrev ws_V_seekItem : List Cond := Cond.code y_V_seekItem b_V_seekItem 4 none :: TB
abbrev y_V_up : MethodName := ⟨R_V, "up", "()Z"⟩
abbrev b_V_up : ByteArray := prog_1_method_12_code
abbrev ws_V_up : List Cond := Cond.code y_V_up b_V_up 1 (some .boolean) :: TB
def wC (h : Nat → Nat) (cI : ClassId) (cL : ClassId) (NW : Nat) (bk : Int32) (sz : Int32) (wd : Nat → Int64) (mb : Nat → Int32) (gB : Int32) (gI : Int32) (gN : Int32) (iN : Int32) (dr : Int32) (es : Int64) (of : Int64) (od : Int32) (pl : Int64) (hd : Int64) (tk : Nat → Int32) (kn : Nat → Int32) (li : Nat → Int32) (pa : Nat → Int32) (ins : Nat → Int32) (cm : Int32) (fd : Int32) (hr : Int32) : va_W := [
  (h 0, .inr (4, [.ref (h 1), .ref (h 3), .ref (h 5), .ref (h 6), .int hr])),
  (h 1, .inr (0, [.int bk, .int sz, .ref (h 2)])),
  (h 2, .inl (cL, NW, .inr (.inl wd))),
  (h 3, .inr (2, [.ref (h 1), .ref (h 4), .int gB, .int gI, .int gN, .int iN])),
  (h 4, .inl (cI, 8, .inl mb)),
  (h 5, .inr (1, [.ref (h 1), .ref (h 3), .int dr, .long es, .long of, .int od, .long pl, .long hd])),
  (h 6, .inr (3, [.ref (h 1), .ref (h 3), .ref (h 5), .ref (h 7), .ref (h 8), .ref (h 9), .ref (h 10), .ref (h 11), .int cm, .int fd])),
  (h 7, .inl (cI, 512, .inl tk)),
  (h 8, .inl (cI, 4097, .inl kn)),
  (h 9, .inl (cI, 4096, .inl li)),
  (h 10, .inl (cI, 4096, .inl pa)),
  (h 11, .inl (cI, 4096, .inl ins))]
def wM (h : Nat → Nat) (cI : ClassId) (cB : ClassId) (cZ : ClassId) (th : Int32) (nb : Int32) (dk : Nat → Int32) (lk : Int32) (fa : Int32) (pp : Int32) (gg : Int32) (jj : Int32) (qq : Int32) (mp : Nat → Int32) (fx : Nat → Int32) (tn : Nat → Int32) (mn : Int32) (oq : Nat → Int32) (pq : Nat → Int32) (fo : Nat → Int32) (ca : Nat → Int32) (hr : Int32) (fd : Int32) : va_W := [
  (h 0, .inr (5, [.int th, .int nb, .ref (h 1), .int lk, .int fa, .int pp, .int gg, .int jj, .int qq, .ref (h 2), .ref (h 3), .ref (h 4), .int mn, .ref (h 5), .ref (h 6), .ref (h 7), .ref (h 8), .int hr, .int fd])),
  (h 1, .inl (cB, 524288, .inl dk)),
  (h 2, .inl (cI, 8, .inl mp)),
  (h 3, .inl (cZ, 512, .inl fx)),
  (h 4, .inl (cZ, 512, .inl tn)),
  (h 5, .inl (cI, 4200, .inl oq)),
  (h 6, .inl (cI, 4200, .inl pq)),
  (h 7, .inl (cI, 4200, .inl fo)),
  (h 8, .inl (cZ, 4200, .inl ca))]
