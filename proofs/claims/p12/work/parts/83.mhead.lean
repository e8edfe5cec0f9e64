/-! the reference's numbers and its superblock -/
theorem lenum_same {B C : Nat → Nat} : ∀ (n a : Nat), (∀ i, a ≤ i → i < a + n → B i = C i) → lenum B a n = lenum C a n := by
  intro n
  induction n with
  | zero => intro a _; rfl
  | succ n ih =>
    intro a h
    simp only [lenum]
    rw [h a (by omega) (by omega), ih (a + 1) (fun i h1 h2 => h i (by omega) (by omega))]
theorem mnu_eq {dk : Nat → Int32} {wd : Nat → Int64} {Bk : Nat} (hS : Same dk wd Bk) {a n : Nat} (h : a + n ≤ 1024 * Bk) : lenum (mby dk) a n = nu wd Bk ((a : Nat) : Int) n := by
  unfold nu cnum
  rw [if_pos (by omega)]
  exact lenum_same n a (fun i _ h2 => hS i (by omega))
theorem mone_eq {dk : Nat → Int32} {a1 : Int32} {a : Nat} (ha : a1.toInt = (a : Int)) (h : a < 524288) : f_M_one dk a1 = some (Int32.ofNat (mby dk a)) := by
  obtain ⟨r, e, hr⟩ := one_eq (dk := dk) ha h
  rw [e]
  refine congrArg some ?_
  rw [eq32, hr, lit32 _ (by have := mby_lt dk a; omega)]
theorem mtwo_eq {dk : Nat → Int32} {a1 : Int32} {a : Nat} (ha : a1.toInt = (a : Int)) (h : a + 2 ≤ 524288) : f_M_two dk a1 = some (Int32.ofNat (lenum (mby dk) a 2)) := by
  unfold f_M_two
  have h1 := mby_lt dk a
  have h2 := mby_lt dk (a + 1)
  rw [mone_eq ha (by omega), mone_eq (a1 := a1 + 1) (a := a + 1) (by rw [add32 ha (y := 1) (by decide) (by omega) (by omega)]; omega) (by omega)]
  simp only [bd1]
  refine congrArg some ?_
  have e0 : ((Int32.ofNat (mby dk (a + 1)))).toInt = (mby dk (a + 1) : Int) := lit32 _ (by omega)
  have e1 : ((256 : Int32) * (Int32.ofNat (mby dk (a + 1)))).toInt = 256 * (mby dk (a + 1) : Int) := mul32 (by decide) e0 (by omega) (by omega)
  have e2 : lenum (mby dk) a 2 = mby dk a + 256 * mby dk (a + 1) := by simp [lenum]
  rw [eq32, add32 (lit32 _ (by omega)) e1 (by omega) (by omega), e2, lit32 _ (by omega)]
  omega
theorem mfour_eq {dk : Nat → Int32} {a1 : Int32} {a : Nat} (ha : a1.toInt = (a : Int)) (h : a + 4 ≤ 524288) : f_M_four dk a1 = some (Int64.ofNat (lenum (mby dk) a 4)) := by
  unfold f_M_four
  have h1 := lenum_lt (mby_lt dk) 2 a
  have h2 := lenum_lt (mby_lt dk) 2 (a + 2)
  rw [mtwo_eq ha (by omega), mtwo_eq (a1 := a1 + 2) (a := a + 2) (by rw [add32 ha (y := 2) (by decide) (by omega) (by omega)]; omega) (by omega)]
  simp only [bd1]
  refine congrArg some ?_
  have e2 : lenum (mby dk) a 4 = lenum (mby dk) a 2 + 65536 * lenum (mby dk) (a + 2) 2 := by simp only [lenum, show a + 1 + 1 = a + 2 from rfl]; omega
  generalize lenum (mby dk) a 2 = u at *
  generalize lenum (mby dk) (a + 2) 2 = v at *
  have e0 : (Int32.toInt64 (Int32.ofNat v)).toInt = (v : Int) := ext3264 (lit32 _ (by omega))
  have e1 : ((65536 : Int64) * (Int32.toInt64 (Int32.ofNat v))).toInt = 65536 * (v : Int) := mul64 (by decide) e0 (by omega) (by omega)
  rw [eq64, add64 (ext3264 (lit32 _ (by omega))) e1 (by omega) (by omega), e2, num64 (by omega)]
  omega
section MH
variable {NW Bk : Nat} {sz bk : Int32} {wd : Nat → Int64} {dk : Nat → Int32}
theorem four_n4 (hC : CtxD NW sz bk Bk) (hS : Same dk wd Bk) {a1 : Int32} {a : Nat} (ha : a1.toInt = (a : Int)) (h : a + 4 ≤ 1024 * Bk) : f_M_four dk a1 = some (Int64.ofNat (n4 wd Bk a)) := by
  have := hC.2.2.2.2
  rw [mfour_eq ha (by omega), mnu_eq hS h]
theorem two_n2 (hC : CtxD NW sz bk Bk) (hS : Same dk wd Bk) {a1 : Int32} {a : Nat} (ha : a1.toInt = (a : Int)) (h : a + 2 ≤ 1024 * Bk) : f_M_two dk a1 = some (Int32.ofNat (n2 wd Bk a)) := by
  have := hC.2.2.2.2
  rw [mtwo_eq ha (by omega), mnu_eq hS h]
theorem one_b1 (hC : CtxD NW sz bk Bk) (hS : Same dk wd Bk) {a1 : Int32} {a : Nat} (ha : a1.toInt = (a : Int)) (h : a + 1 ≤ 1024 * Bk) : f_M_one dk a1 = some (Int32.ofNat (b1 wd Bk a)) := by
  have := hC.2.2.2.2
  rw [mone_eq ha (by omega), b1, ← mnu_eq hS h, lenum_one]
theorem is64 {v : Nat} {x : Int64} {w : Nat} (hv : v < 4294967296) (hx : x.toInt = (w : Int)) : Int64.ofNat v = x ↔ v = w := by
  rw [eq64, num64 (by omega), hx]; omega
theorem is32 {v : Nat} {x : Int32} {w : Nat} (hv : v < 65536) (hx : x.toInt = (w : Int)) : Int32.ofNat v = x ↔ v = w := by
  rw [eq32, lit32 _ (by omega), hx]; omega
theorem badHead_229 (hC : CtxD NW sz bk Bk) (hS : Same dk wd Bk) {nb pp gg jj qq : Int32} :
    ∃ r, f_M_badHead_229 nb dk pp gg jj qq 1024 1 = some (r, pp, gg, jj, qq) ∧ B01 r (¬ (n4 wd Bk 1100 = 1 ∧ n4 wd Bk 1108 = 11 ∧ n2 wd Bk 1112 = 128 ∧ n2 wd Bk 1114 = 0 ∧ n4 wd Bk 1120 = 2)) := by
  have hB := hC.2.2.2.1
  unfold f_M_badHead_229
  rw [if_neg (by decide), four_n4 hC hS (a := 1100) (by decide) (by omega), four_n4 hC hS (a := 1108) (by decide) (by omega), four_n4 hC hS (a := 1120) (by decide) (by omega), two_n2 hC hS (a := 1112) (by decide) (by omega), two_n2 hC hS (a := 1114) (by decide) (by omega)]
  simp only [bd1]
  have q1 := is64 (v := n4 wd Bk 1100) (x := 1) (w := 1) (n4_lt _ _ _) (by decide)
  have q2 := is64 (v := n4 wd Bk 1108) (x := 11) (w := 11) (n4_lt _ _ _) (by decide)
  have q3 := is32 (v := n2 wd Bk 1112) (x := 128) (w := 128) (n2_lt _ _ _) (by decide)
  have q4 := is32 (v := n2 wd Bk 1114) (x := 0) (w := 0) (n2_lt _ _ _) (by decide)
  have q5 := is64 (v := n4 wd Bk 1120) (x := 2) (w := 2) (n4_lt _ _ _) (by decide)
  simp only [q1, q2, q3, q4, q5]
  generalize n4 wd Bk 1100 = v1
  generalize n4 wd Bk 1108 = v2
  generalize n2 wd Bk 1112 = v3
  generalize n2 wd Bk 1114 = v4
  generalize n4 wd Bk 1120 = v5
  by_cases c1 : v1 = 1
  · rw [if_pos c1]
    by_cases c2 : v2 = 11
    · rw [if_pos c2]
      by_cases c3 : v3 = 128
      · rw [if_pos c3]
        by_cases c4 : v4 = 0
        · rw [if_pos c4]
          by_cases c5 : v5 = 2
          · rw [if_pos c5]; exact ⟨0, rfl, Or.inr ⟨rfl, fun h => h ⟨c1, c2, c3, c4, c5⟩⟩⟩
          · rw [if_neg c5]; exact ⟨1, rfl, Or.inl ⟨rfl, fun h => c5 h.2.2.2.2⟩⟩
        · rw [if_neg c4]; exact ⟨1, rfl, Or.inl ⟨rfl, fun h => c4 h.2.2.2.1⟩⟩
      · rw [if_neg c3]; exact ⟨1, rfl, Or.inl ⟨rfl, fun h => c3 h.2.2.1⟩⟩
    · rw [if_neg c2]; exact ⟨1, rfl, Or.inl ⟨rfl, fun h => c2 h.2.1⟩⟩
  · rw [if_neg c1]; exact ⟨1, rfl, Or.inl ⟨rfl, fun h => c1 h.1⟩⟩
theorem badHead_47 (hC : CtxD NW sz bk Bk) (hS : Same dk wd Bk) {nb pp gg jj qq : Int32} (hnb : nb = bk) (hP : gP wd Bk = 64 ∨ gP wd Bk = 128 ∨ gP wd Bk = 256) :
    ∃ r pp' gg' jj' qq', f_M_badHead_47 nb dk pp gg jj qq 1024 (Int64.ofNat (gP wd Bk)) (Int64.ofNat (gG wd Bk)) = some (r, pp', gg', jj', qq') ∧ B01 r (¬ SuperOK wd Bk) ∧ (SuperOK wd Bk → pp'.toInt = (gP wd Bk : Int) ∧ gg'.toInt = (gG wd Bk : Int) ∧ jj'.toInt = ((gG wd Bk / 8 : Nat) : Int) ∧ qq'.toInt = (gQ wd Bk : Int)) := by
  subst hnb
  have hB := hC.2.2.2.1
  have hB2 := hC.2.2.2.2
  have hbk : nb.toInt = (Bk : Int) := hC.2.2.1
  have hG4 : gG wd Bk < 4294967296 := n4_lt _ _ _
  have eG : (Int64.ofNat (gG wd Bk)).toInt = (gG wd Bk : Int) := num64 (by omega)
  have eP : (Int64.ofNat (gP wd Bk)).toInt = (gP wd Bk : Int) := num64 (by omega)
  have z8 : (8 : Int64).toInt = 8 := by decide
  have z81 : (8192 : Int64).toInt = 8192 := by decide
  have z0 : (0 : Int64).toInt = 0 := by decide
  unfold f_M_badHead_47
  by_cases c1 : Int64.ofNat (gG wd Bk) < 8
  · rw [if_pos c1]; rw [lt64, eG, z8] at c1
    have hno : ¬ SuperOK wd Bk := fun h => by have := h.1.2.1; omega
    exact ⟨1, _, _, _, _, rfl, Or.inl ⟨rfl, hno⟩, fun h => absurd h hno⟩
  rw [if_neg c1]; rw [lt64, eG, z8] at c1
  by_cases c2 : (8192 : Int64) < Int64.ofNat (gG wd Bk)
  · rw [if_pos c2]; rw [lt64, eG, z81] at c2
    have hno : ¬ SuperOK wd Bk := fun h => by have := h.1.2.2.1; omega
    exact ⟨1, _, _, _, _, rfl, Or.inl ⟨rfl, hno⟩, fun h => absurd h hno⟩
  rw [if_neg c2]; rw [lt64, eG, z81] at c2
  have em : (Int64.ofNat (gG wd Bk) - Int64.ofNat (gG wd Bk) / 8 * 8).toInt = (gG wd Bk : Int) % 8 := rem64 eG z8 (by omega) (by omega)
  by_cases c3 : Int64.ofNat (gG wd Bk) - Int64.ofNat (gG wd Bk) / 8 * 8 = 0
  rotate_left
  · rw [if_neg c3]; rw [eq64, em, z0] at c3
    have hno : ¬ SuperOK wd Bk := fun h => by have := h.1.2.2.2; omega
    exact ⟨1, _, _, _, _, rfl, Or.inl ⟨rfl, hno⟩, fun h => absurd h hno⟩
  rw [if_pos c3]; rw [eq64, em, z0] at c3
  have hGr : GroupsOK wd Bk := ⟨hP, by omega, by omega, by omega⟩
  have eP3 : (Int64.toInt32 (Int64.ofNat (gP wd Bk))).toInt = (gP wd Bk : Int) := cut6432 eP (by omega) (by omega)
  have eG3 : (Int64.toInt32 (Int64.ofNat (gG wd Bk))).toInt = (gG wd Bk : Int) := cut6432 eG (by omega) (by omega)
  generalize Int64.toInt32 (Int64.ofNat (gG wd Bk)) = g3 at *
  have eJ : (g3 / 8).toInt = ((gG wd Bk / 8 : Nat) : Int) := by rw [div32 eG3 (y := 8) (by decide) (by omega) (by omega)]; omega
  rw [if_neg (by rw [eq32, eP3]; show ¬ _ = (0 : Int); omega)]
  have eQ1 : (nb - 1).toInt = (Bk : Int) - 1 := sub32 hbk (by decide) (by omega) (by omega)
  have eQ2 : (nb - 1 + Int64.toInt32 (Int64.ofNat (gP wd Bk))).toInt = (Bk : Int) - 1 + gP wd Bk := add32 eQ1 eP3 (by omega) (by omega)
  have eQ3 : (nb - 1 + Int64.toInt32 (Int64.ofNat (gP wd Bk)) - 1).toInt = (Bk : Int) - 1 + gP wd Bk - 1 := sub32 eQ2 (by decide) (by omega) (by omega)
  have eQ : ((nb - 1 + Int64.toInt32 (Int64.ofNat (gP wd Bk)) - 1) / Int64.toInt32 (Int64.ofNat (gP wd Bk))).toInt = (gQ wd Bk : Int) := by
    rw [div32 eQ3 eP3 (by omega) (by omega)]
    unfold gQ
    rw [show (Bk : Int) - 1 + gP wd Bk - 1 = ((Bk - 1 + gP wd Bk - 1 : Nat) : Int) by omega]
    rfl
  have hQ : gQ wd Bk ≤ 600 := by
    unfold gQ
    refine Nat.le_trans (Nat.div_le_div_right (show Bk - 1 + gP wd Bk - 1 ≤ 9 * gP wd Bk by omega)) ?_
    rw [Nat.mul_div_cancel _ (by omega)]; omega
  generalize (nb - 1 + Int64.toInt32 (Int64.ofNat (gP wd Bk)) - 1) / Int64.toInt32 (Int64.ofNat (gP wd Bk)) = q3 at *
  generalize Int64.toInt32 (Int64.ofNat (gP wd Bk)) = p3 at *
  have eM : (Int32.toInt64 q3 * Int32.toInt64 g3).toInt = ((gQ wd Bk * gG wd Bk : Nat) : Int) := by
    have hle : gQ wd Bk * gG wd Bk ≤ 600 * 8192 := Nat.mul_le_mul hQ (by omega)
    have : ((gQ wd Bk * gG wd Bk : Nat) : Int) = (gQ wd Bk : Int) * (gG wd Bk : Int) := by push_cast; rfl
    rw [mul64 (ext3264 eQ) (ext3264 eG3) (by omega) (by omega)]; omega
  have fb : ∀ pp gg jj qq x, f_M_badHead_228 nb dk pp gg jj qq x = some (1, pp, gg, jj, qq) := fun _ _ _ _ _ => rfl
  rw [four_n4 hC hS (a := 1024) (by decide) (by omega), four_n4 hC hS (a := 1028) (by decide) (by omega), four_n4 hC hS (a := 1044) (by decide) (by omega), four_n4 hC hS (a := 1048) (by decide) (by omega), four_n4 hC hS (a := 1060) (by decide) (by omega), two_n2 hC hS (a := 1080) (by decide) (by omega), two_n2 hC hS (a := 1082) (by decide) (by omega)]
  simp only [bd1, fb]
  have q1 := is64 (v := n4 wd Bk 1024) (n4_lt _ _ _) eM
  have q2 := is64 (v := n4 wd Bk 1028) (x := Int32.toInt64 nb) (n4_lt _ _ _) (ext3264 hbk)
  have q3' := is64 (v := n4 wd Bk 1044) (x := 1) (w := 1) (n4_lt _ _ _) (by decide)
  have q4 := is64 (v := n4 wd Bk 1048) (x := 0) (w := 0) (n4_lt _ _ _) (by decide)
  have q5 := is64 (v := n4 wd Bk 1060) (n4_lt _ _ _) eP
  have q6 := is32 (v := n2 wd Bk 1080) (x := 61267) (w := 61267) (n2_lt _ _ _) (by decide)
  have q7 := is32 (v := n2 wd Bk 1082) (x := 1) (w := 1) (n2_lt _ _ _) (by decide)
  simp only [q1, q2, q3', q4, q5, q6, q7]
  by_cases c1 : n4 wd Bk 1024 = gQ wd Bk * gG wd Bk
  rotate_left
  · rw [if_neg c1]
    have hno : ¬ SuperOK wd Bk := fun h => c1 h.2.1
    exact ⟨1, _, _, _, _, rfl, Or.inl ⟨rfl, hno⟩, fun h => absurd h hno⟩
  rw [if_pos c1]
  by_cases c2 : n4 wd Bk 1028 = Bk
  rotate_left
  · rw [if_neg c2]
    have hno : ¬ SuperOK wd Bk := fun h => c2 h.2.2.1
    exact ⟨1, _, _, _, _, rfl, Or.inl ⟨rfl, hno⟩, fun h => absurd h hno⟩
  rw [if_pos c2]
  by_cases c3 : n4 wd Bk 1044 = 1
  rotate_left
  · rw [if_neg c3]
    have hno : ¬ SuperOK wd Bk := fun h => c3 h.2.2.2.1
    exact ⟨1, _, _, _, _, rfl, Or.inl ⟨rfl, hno⟩, fun h => absurd h hno⟩
  rw [if_pos c3]
  by_cases c4 : n4 wd Bk 1048 = 0
  rotate_left
  · rw [if_neg c4]
    have hno : ¬ SuperOK wd Bk := fun h => c4 h.2.2.2.2.1
    exact ⟨1, _, _, _, _, rfl, Or.inl ⟨rfl, hno⟩, fun h => absurd h hno⟩
  rw [if_pos c4]
  by_cases c5 : n4 wd Bk 1060 = gP wd Bk
  rotate_left
  · rw [if_neg c5]
    have hno : ¬ SuperOK wd Bk := fun h => c5 h.2.2.2.2.2.1
    exact ⟨1, _, _, _, _, rfl, Or.inl ⟨rfl, hno⟩, fun h => absurd h hno⟩
  rw [if_pos c5]
  by_cases c6 : n2 wd Bk 1080 = 61267
  rotate_left
  · rw [if_neg c6]
    have hno : ¬ SuperOK wd Bk := fun h => c6 h.2.2.2.2.2.2.1
    exact ⟨1, _, _, _, _, rfl, Or.inl ⟨rfl, hno⟩, fun h => absurd h hno⟩
  rw [if_pos c6]
  by_cases c7 : n2 wd Bk 1082 = 1
  rotate_left
  · rw [if_neg c7]
    have hno : ¬ SuperOK wd Bk := fun h => c7 h.2.2.2.2.2.2.2.1
    exact ⟨1, _, _, _, _, rfl, Or.inl ⟨rfl, hno⟩, fun h => absurd h hno⟩
  rw [if_pos c7]
  obtain ⟨r, e, hr⟩ := badHead_229 (wd := wd) hC hS (nb := nb) (pp := p3) (gg := g3) (jj := g3 / 8) (qq := q3)
  refine ⟨r, p3, g3, g3 / 8, q3, e, ?_, fun _ => ⟨eP3, eG3, eJ, eQ⟩⟩
  have hiff : SuperOK wd Bk ↔ (n4 wd Bk 1100 = 1 ∧ n4 wd Bk 1108 = 11 ∧ n2 wd Bk 1112 = 128 ∧ n2 wd Bk 1114 = 0 ∧ n4 wd Bk 1120 = 2) :=
    ⟨fun h => h.2.2.2.2.2.2.2.2, fun h => ⟨hGr, c1, c2, c3, c4, c5, c6, c7, h⟩⟩
  rw [hiff]; exact hr
theorem badHead_eq (hC : CtxD NW sz bk Bk) (hS : Same dk wd Bk) {nb pp gg jj qq : Int32} (hnb : nb = bk) :
    ∃ r pp' gg' jj' qq', f_M_badHead nb dk pp gg jj qq = some (r, pp', gg', jj', qq') ∧ B01 r (¬ SuperOK wd Bk) ∧ (SuperOK wd Bk → pp'.toInt = (gP wd Bk : Int) ∧ gg'.toInt = (gG wd Bk : Int) ∧ jj'.toInt = ((gG wd Bk / 8 : Nat) : Int) ∧ qq'.toInt = (gQ wd Bk : Int)) := by
  have hB := hC.2.2.2.1
  unfold f_M_badHead
  rw [four_n4 hC hS (a := 1056) (by decide) (by omega), four_n4 hC hS (a := 1064) (by decide) (by omega)]
  simp only [bd1]
  have q1 := is64 (v := n4 wd Bk 1056) (x := 64) (w := 64) (n4_lt _ _ _) (by decide)
  have q2 := is64 (v := n4 wd Bk 1056) (x := 128) (w := 128) (n4_lt _ _ _) (by decide)
  have q3 := is64 (v := n4 wd Bk 1056) (x := 256) (w := 256) (n4_lt _ _ _) (by decide)
  simp only [q1, q2, q3]
  by_cases c1 : n4 wd Bk 1056 = 64
  · rw [if_pos c1]; exact badHead_47 hC hS hnb (Or.inl c1)
  rw [if_neg c1]
  by_cases c2 : n4 wd Bk 1056 = 128
  · rw [if_pos c2]; exact badHead_47 hC hS hnb (Or.inr (Or.inl c2))
  rw [if_neg c2]
  by_cases c3 : n4 wd Bk 1056 = 256
  · rw [if_pos c3]; exact badHead_47 hC hS hnb (Or.inr (Or.inr c3))
  rw [if_neg c3]
  have hno : ¬ SuperOK wd Bk := fun h => by
    rcases h.1.1 with h | h | h
    · exact c1 h
    · exact c2 h
    · exact c3 h
  exact ⟨1, _, _, _, _, rfl, Or.inl ⟨rfl, hno⟩, fun h => absurd h hno⟩
end MH
