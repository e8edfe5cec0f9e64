
abbrev xn_IllegalArgumentException : List String := ["java/lang/RuntimeException", "java/lang/Exception"]
abbrev xn_IllegalStateException : List String := ["java/lang/RuntimeException", "java/lang/Exception"]
abbrev xn_IndexOutOfBoundsException : List String := ["java/lang/RuntimeException", "java/lang/Exception"]
abbrev strsV : List (Nat × String) := [(77, "the volume is not sound"), (147, "there is no such item here"), (90, "a name has no byte before its first"), (119, "what is not 0 to 5"), (128, "the item is a file")]
theorem xat_IllegalArgumentException_121 {args : Array Value} {s : State} (htb : ∀ w ∈ TB, w.before args s = true) (h : StrU R_V strsV s) : ∀ w ∈ Bundle.ownAtoms R_V 121 "java/lang/IllegalArgumentException" xn_IllegalArgumentException, four4 w = true ∨ (w.onTables = true ∧ w.before args s = true) := by
  have g : (Bundle.ownAtoms R_V 121 "java/lang/IllegalArgumentException" xn_IllegalArgumentException).all (fun w => four4 w || (w.onTables && ((goodWord w && decide (w ∈ lw_tbl)) || decide (w ∈ nwL)))) = true := by decide +kernel
  intro w hw
  have h1 := List.all_eq_true.mp g w hw
  simp only [Bool.or_eq_true, Bool.and_eq_true, decide_eq_true_eq] at h1
  rcases h1 with h1 | ⟨h1, h2 | h2⟩
  · exact Or.inl h1
  · exact Or.inr ⟨h1, htb w (List.mem_filter.mpr ⟨h2.2, h2.1⟩)⟩
  · exact Or.inr ⟨h1, va_Nw.use h1 (h.2 w h2)⟩
theorem xat_IllegalStateException_79 {args : Array Value} {s : State} (htb : ∀ w ∈ TB, w.before args s = true) (h : StrU R_V strsV s) : ∀ w ∈ Bundle.ownAtoms R_V 79 "java/lang/IllegalStateException" xn_IllegalStateException, four4 w = true ∨ (w.onTables = true ∧ w.before args s = true) := by
  have g : (Bundle.ownAtoms R_V 79 "java/lang/IllegalStateException" xn_IllegalStateException).all (fun w => four4 w || (w.onTables && ((goodWord w && decide (w ∈ lw_tbl)) || decide (w ∈ nwL)))) = true := by decide +kernel
  intro w hw
  have h1 := List.all_eq_true.mp g w hw
  simp only [Bool.or_eq_true, Bool.and_eq_true, decide_eq_true_eq] at h1
  rcases h1 with h1 | ⟨h1, h2 | h2⟩
  · exact Or.inl h1
  · exact Or.inr ⟨h1, htb w (List.mem_filter.mpr ⟨h2.2, h2.1⟩)⟩
  · exact Or.inr ⟨h1, va_Nw.use h1 (h.2 w h2)⟩
theorem xat_IndexOutOfBoundsException_92 {args : Array Value} {s : State} (htb : ∀ w ∈ TB, w.before args s = true) (h : StrU R_V strsV s) : ∀ w ∈ Bundle.ownAtoms R_V 92 "java/lang/IndexOutOfBoundsException" xn_IndexOutOfBoundsException, four4 w = true ∨ (w.onTables = true ∧ w.before args s = true) := by
  have g : (Bundle.ownAtoms R_V 92 "java/lang/IndexOutOfBoundsException" xn_IndexOutOfBoundsException).all (fun w => four4 w || (w.onTables && ((goodWord w && decide (w ∈ lw_tbl)) || decide (w ∈ nwL)))) = true := by decide +kernel
  intro w hw
  have h1 := List.all_eq_true.mp g w hw
  simp only [Bool.or_eq_true, Bool.and_eq_true, decide_eq_true_eq] at h1
  rcases h1 with h1 | ⟨h1, h2 | h2⟩
  · exact Or.inl h1
  · exact Or.inr ⟨h1, htb w (List.mem_filter.mpr ⟨h2.2, h2.1⟩)⟩
  · exact Or.inr ⟨h1, va_Nw.use h1 (h.2 w h2)⟩
