/-! the copies of superblock and descriptors, on both sides -/
section CP
variable {N NW Bk : Nat} {sz bk : Int32} {wd : Nat → Int64} {dk : Nat → Int32}
theorem gq_in {wd : Nat → Int64} {Bk : Nat} (h : SuperOK wd Bk) (hB : 128 ≤ Bk) {g : Nat} (hg : g < gQ wd Bk) : g * gP wd Bk + 2 ≤ Bk ∧ (g + 1 < gQ wd Bk → g * gP wd Bk + gP wd Bk + 2 ≤ Bk) ∧ (¬ g + 1 < gQ wd Bk → Bk ≤ g * gP wd Bk + gP wd Bk + 1) := by
  have hP := h.1.1
  unfold gQ at hg ⊢
  generalize gP wd Bk = P at hP hg ⊢
  rcases hP with e | e | e <;> subst e <;> omega
def gLen (wd : Nat → Int64) (Bk g : Nat) : Nat := min (gP wd Bk) (Bk - (1 + g * gP wd Bk))
def CopiesFrom (wd : Nat → Int64) (Bk s : Nat) : Prop := ∀ g, s ≤ g → g < gQ wd Bk → 2 ≤ gLen wd Bk g ∧ CopyFrom wd Bk (1024 * (1 + g * gP wd Bk)) g 0
theorem copies_next {s : Nat} (hs : s < gQ wd Bk) : CopiesFrom wd Bk s ↔ (2 ≤ gLen wd Bk s ∧ CopyFrom wd Bk (1024 * (1 + s * gP wd Bk)) s 0) ∧ CopiesFrom wd Bk (s + 1) := by
  constructor
  · intro h; exact ⟨h s (Nat.le_refl _) hs, fun g h1 h2 => h g (by omega) h2⟩
  · intro h g h1 h2
    by_cases e : g = s
    · subst e; exact h.1
    · exact h.2 g (by omega) h2
theorem gP_lt (h : SuperOK wd Bk) : gP wd Bk ≤ 256 := by rcases h.1.1 with e | e | e <;> omega
theorem gQ_le (h : SuperOK wd Bk) (hB : 128 ≤ Bk) (hB2 : Bk ≤ 512) : gQ wd Bk ≤ 8 := by
  have hP := h.1.1
  unfold gQ
  rcases hP with e | e | e <;> rw [e] <;> omega
theorem hasCopies_eq (hC : CtxD NW sz bk Bk) (hO : SuperOK wd Bk) {gB x1 : Int32} {g : Nat} (hP : gB.toInt = (gP wd Bk : Int)) (hg : x1.toInt = (g : Int)) (hg2 : g < gQ wd Bk) (hl : 2 ≤ gLen wd Bk g) (hN : 300 ≤ N) :
    ∃ r, f_S_hasCopies N NW sz wd gB x1 = some r ∧ B01 r (CopyFrom wd Bk (1024 * (1 + g * gP wd Bk)) g 0) := by
  have hB := hC.2.2.2.1
  have hB2 := hC.2.2.2.2
  have hp := gP_lt hO
  have hq := gQ_le hO hB hB2
  have hin := (gq_in hO hB hg2).1
  obtain ⟨r1, e1, h1⟩ := firstBlock_eq (NW := NW) hP (by omega) hg (by omega)
  unfold f_S_hasCopies
  rw [e1]
  simp only [bd1, lt1]
  unfold gLen at hl
  exact copies_loop hC hg (by omega) (p := 1024 * (1 + g * gP wd Bk)) (by rw [mul64 (x := 1024) (by decide) (ext3264 h1) (by omega) (by omega)]; omega) (by omega) hO.2.2.2.2.2.2.2.2.2.2.2.1 N 0 0 (by decide) (by omega) (by omega) (by omega)
theorem copiesStand_loop (hC : CtxD NW sz bk Bk) (hO : SuperOK wd Bk) {gB gN : Int32} (hP : gB.toInt = (gP wd Bk : Int)) (hQ : gN.toInt = (gQ wd Bk : Int)) (hN : 300 ≤ N) :
    ∀ (k : Nat) (x1 : Int32) (g : Nat), x1.toInt = (g : Int) → g ≤ gQ wd Bk → gQ wd Bk - g < k → ∃ r, f_S_copiesStand_2 N NW bk sz wd gB gN k x1 = some r ∧ B01 r (CopiesFrom wd Bk g) := by
  have hB := hC.2.2.2.1
  have hB2 := hC.2.2.2.2
  have hp := gP_lt hO
  have hq := gQ_le hO hB hB2
  intro k
  induction k with
  | zero => intro x1 g _ _ h; omega
  | succ k ih =>
    intro x1 g hg hgq hk
    rw [f_S_copiesStand_2]
    simp only [f_L_groups, bd1]
    by_cases c : gN ≤ x1
    · rw [if_pos c]; rw [le32, hQ, hg] at c
      exact ⟨1, rfl, Or.inl ⟨rfl, fun g' h1 h2 => by omega⟩⟩
    · rw [if_neg c]; rw [le32, hQ, hg] at c
      have hin := (gq_in hO hB (g := g) (by omega)).1
      obtain ⟨r1, e1, h1⟩ := blocksOf_eq (NW := NW) hC hP (by omega) hg (by omega) (by omega)
      rw [e1]
      simp only []
      have z2 : (2 : Int32).toInt = 2 := by decide
      have hn := copies_next (wd := wd) (Bk := Bk) (s := g) (by omega)
      by_cases c2 : r1 < 2
      · rw [if_pos c2]; rw [lt32, h1, z2] at c2
        refine ⟨0, rfl, Or.inr ⟨rfl, fun h => ?_⟩⟩
        have := (hn.mp h).1.1
        unfold gLen at this
        omega
      · rw [if_neg c2]; rw [lt32, h1, z2] at c2
        have hl : 2 ≤ gLen wd Bk g := by unfold gLen; omega
        obtain ⟨r2, e2, h2⟩ := hasCopies_eq (N := N) hC hO hP hg (by omega) hl hN
        rw [e2]
        simp only []
        by_cases c3 : r2 = 0
        · rw [if_pos c3]
          exact ⟨0, rfl, Or.inr ⟨rfl, fun h => h2.ne.mp c3 (hn.mp h).1.2⟩⟩
        · rw [if_neg c3]
          have hcf : CopyFrom wd Bk (1024 * (1 + g * gP wd Bk)) g 0 := by
            rcases h2 with ⟨_, h⟩ | ⟨e, _⟩
            · exact h
            · exact absurd e c3
          obtain ⟨r, e, h⟩ := ih (x1 + 1) (g + 1) (by rw [add32 (y := 1) hg (by decide) (by omega) (by omega)]; omega) (by omega) (by omega)
          refine ⟨r, e, ?_⟩
          rcases h with ⟨e, h⟩ | ⟨e, h⟩
          · exact Or.inl ⟨e, hn.mpr ⟨⟨hl, hcf⟩, h⟩⟩
          · exact Or.inr ⟨e, fun hh => h (hn.mp hh).2⟩
theorem copiesStand_eq (hC : CtxD NW sz bk Bk) (hO : SuperOK wd Bk) {gB gN : Int32} (hP : gB.toInt = (gP wd Bk : Int)) (hQ : gN.toInt = (gQ wd Bk : Int)) (hQ1 : 1 ≤ gQ wd Bk) (hN : 300 ≤ N) :
    ∃ r, f_S_copiesStand N NW bk sz wd gB gN = some r ∧ B01 r (CopiesFrom wd Bk 1) := by
  have hq := gQ_le hO hC.2.2.2.1 hC.2.2.2.2
  exact copiesStand_loop hC hO hP hQ hN N 1 1 (by decide) hQ1 (by omega)
theorem mbegin_eq {pp x1 : Int32} {P g : Nat} (hP : pp.toInt = (P : Int)) (hP2 : P < 1000) (hg : x1.toInt = (g : Int)) (hg2 : g < 1000) : ∃ r, f_M_begin pp x1 = some r ∧ r.toInt = ((1 + g * P : Nat) : Int) := by
  have hle : g * P ≤ 1000 * 1000 := Nat.mul_le_mul (by omega) (by omega)
  have hm : ((g * P : Nat) : Int) = (g : Int) * (P : Int) := by push_cast; rfl
  refine ⟨_, rfl, ?_⟩
  rw [add32 (x := 1) (by decide) (mul32 hg hP (by omega) (by omega)) (by omega) (by omega)]
  omega
theorem msizeOf_eq (hC : CtxD NW sz bk Bk) (hO : SuperOK wd Bk) {nb pp qq x1 : Int32} {g : Nat} (hnb : nb = bk) (hP : pp.toInt = (gP wd Bk : Int)) (hQ : qq.toInt = (gQ wd Bk : Int)) (hg : x1.toInt = (g : Int)) (hg2 : g < gQ wd Bk) : ∃ r, f_M_sizeOf nb pp qq x1 = some r ∧ r.toInt = ((gLen wd Bk g : Nat) : Int) := by
  have hB := hC.2.2.2.1
  have hB2 := hC.2.2.2.2
  have hbk : bk.toInt = (Bk : Int) := hC.2.2.1
  have hp := gP_lt hO
  have hq := gQ_le hO hB hB2
  obtain ⟨g1, g2, g3⟩ := gq_in hO hB hg2
  obtain ⟨r1, e1, h1⟩ := mbegin_eq hP (by omega) hg (by omega)
  unfold f_M_sizeOf gLen
  have eq1 : (qq - 1).toInt = (gQ wd Bk : Int) - 1 := sub32 hQ (by decide) (by omega) (by omega)
  by_cases c : qq - 1 ≤ x1
  · rw [if_pos c, e1]; rw [le32, eq1, hg] at c
    have := g3 (by omega)
    refine ⟨_, rfl, ?_⟩
    subst hnb
    rw [sub32 hbk h1 (by omega) (by omega)]
    omega
  · rw [if_neg c]; rw [le32, eq1, hg] at c
    have := g2 (by omega)
    exact ⟨_, rfl, by rw [hP]; omega⟩
theorem badCopies_in (hC : CtxD NW sz bk Bk) (hS : Same dk wd Bk) (hO : SuperOK wd Bk) {nb pp qq x1 : Int32} {g : Nat} (hP : pp.toInt = (gP wd Bk : Int)) (hg : x1.toInt = (g : Int)) (hg2 : g < gQ wd Bk) (hl : 2 ≤ gLen wd Bk g) {K2 : Int32 → Option Int32} :
    ∀ (k : Nat) (x2 : Int32) (s : Nat), x2.toInt = (s : Int) → s ≤ 2048 → 2048 - s < k →
    (CopyFrom wd Bk (1024 * (1 + g * gP wd Bk)) g s ∧ f_M_badCopies_23 N nb dk pp qq K2 k x1 x2 = K2 (x1 + 1)) ∨ (¬ CopyFrom wd Bk (1024 * (1 + g * gP wd Bk)) g s ∧ f_M_badCopies_23 N nb dk pp qq K2 k x1 x2 = some 1) := by
  have hB := hC.2.2.2.1
  have hB2 := hC.2.2.2.2
  have hp := gP_lt hO
  have hq := gQ_le hO hB hB2
  have hin := (gq_in hO hB hg2).1
  have hl2 : 1024 * (1 + g * gP wd Bk) + 2048 ≤ 1024 * Bk := by unfold gLen at hl; omega
  have hz91 : b1 wd Bk 1115 = 0 := by
    have hz := hO.2.2.2.2.2.2.2.2.2.2.2.1
    have : b1 wd Bk 1114 + 256 * b1 wd Bk 1115 = 0 := by
      rw [← hz]
      unfold n2
      rw [b1_in (show 1114 + 1 ≤ _ by omega), b1_in (show 1115 + 1 ≤ _ by omega)]
      unfold nu cnum
      rw [if_pos (by omega), Int.toNat_natCast]
      simp [lenum]
    omega
  obtain ⟨r1, e1, h1⟩ := mbegin_eq hP (by omega) hg (by omega)
  generalize hpl : 1024 * (1 + g * gP wd Bk) = p at *
  have em : ((1024 : Int32) * r1).toInt = (p : Int) := by rw [mul32 (x := 1024) (by decide) h1 (by omega) (by omega)]; omega
  intro k
  induction k with
  | zero => intro x2 s _ _ h; omega
  | succ k ih =>
    intro x2 s h2 hs hk
    have z20 : (2048 : Int32).toInt = 2048 := by decide
    rw [f_M_badCopies_23]
    by_cases c : (2048 : Int32) ≤ x2
    · rw [if_pos c]; rw [le32, h2, z20] at c
      exact Or.inl ⟨fun i h1 h2 => by omega, rfl⟩
    · rw [if_neg c]; rw [le32, h2, z20] at c
      have e2' : (x2 + 1).toInt = ((s + 1 : Nat) : Int) := by rw [add32 (y := 1) h2 (by decide) (by omega) (by omega)]; omega
      have hcn : CopyFrom wd Bk p g s ↔ (b1 wd Bk (p + s) = if s = 90 then g else b1 wd Bk (1024 + s)) ∧ CopyFrom wd Bk p g (s + 1) := by
        constructor
        · intro h; exact ⟨h s (Nat.le_refl _) (by omega), fun i q1 q2 => h i (by omega) q2⟩
        · intro h i q1 q2
          by_cases e : i = s
          · subst e; exact h.1
          · exact h.2 i (by omega) q2
      have goOn : ∀ (s0 : Int32) (due : Nat), s0.toInt = (due : Int) → due = (if s = 90 then g else b1 wd Bk (1024 + s)) →
          (CopyFrom wd Bk p g s ∧ f_M_badCopies_59 N nb dk pp qq K2 (f_M_badCopies_23 N nb dk pp qq K2 k) x1 x2 s0 = K2 (x1 + 1)) ∨ (¬ CopyFrom wd Bk p g s ∧ f_M_badCopies_59 N nb dk pp qq K2 (f_M_badCopies_23 N nb dk pp qq K2 k) x1 x2 s0 = some 1) := by
        intro s0 due hs0 hdue
        unfold f_M_badCopies_59
        rw [e1]
        simp only [bd1]
        rw [one_b1 hC hS (a := p + s) (by rw [add32 em h2 (by omega) (by omega)]; omega) (by omega)]
        simp only [lt1]
        have hb := b1_lt wd Bk (p + s)
        have hiff : Int32.ofNat (b1 wd Bk (p + s)) = s0 ↔ b1 wd Bk (p + s) = due := is32 (by omega) hs0
        by_cases ce : b1 wd Bk (p + s) = due
        · rw [if_pos (hiff.mpr ce)]
          rcases ih (x2 + 1) (s + 1) e2' (by omega) (by omega) with ⟨h, e⟩ | ⟨h, e⟩
          · exact Or.inl ⟨hcn.mpr ⟨by rw [ce, hdue], h⟩, e⟩
          · exact Or.inr ⟨fun hh => h (hcn.mp hh).2, e⟩
        · rw [if_neg (fun h => ce (hiff.mp h))]
          exact Or.inr ⟨fun hh => ce (by rw [(hcn.mp hh).1, hdue]), rfl⟩
      have z90 : (90 : Int32).toInt = 90 := by decide
      have z91 : (91 : Int32).toInt = 91 := by decide
      by_cases c90 : x2 = 90
      · rw [if_pos c90]; rw [eq32, h2, z90] at c90
        exact goOn x1 g hg (by rw [if_pos (by omega)])
      · rw [if_neg c90]; rw [eq32, h2, z90] at c90
        by_cases c91 : x2 = 91
        · rw [if_pos c91]; rw [eq32, h2, z91] at c91
          exact goOn 0 0 (by decide) (by rw [if_neg (by omega), show 1024 + s = 1115 by omega, hz91])
        · rw [if_neg c91, one_b1 hC hS (a := 1024 + s) (by rw [add32 (x := 1024) (by decide) h2 (by omega) (by omega)]; omega) (by omega)]
          simp only [bd1]
          have hb := b1_lt wd Bk (1024 + s)
          exact goOn _ _ (lit32 _ (by omega)) (by rw [if_neg (by omega)])
theorem badCopies_loop (hC : CtxD NW sz bk Bk) (hS : Same dk wd Bk) (hO : SuperOK wd Bk) {nb pp qq : Int32} (hnb : nb = bk) (hP : pp.toInt = (gP wd Bk : Int)) (hQ : qq.toInt = (gQ wd Bk : Int)) (hN : 2050 ≤ N) :
    ∀ (k : Nat) (x1 : Int32) (g : Nat), x1.toInt = (g : Int) → g ≤ gQ wd Bk → gQ wd Bk - g < k → ∃ r, f_M_badCopies_2 N nb dk pp qq k x1 = some r ∧ B01 r (¬ CopiesFrom wd Bk g) := by
  have hB := hC.2.2.2.1
  have hB2 := hC.2.2.2.2
  have hq := gQ_le hO hB hB2
  have z2 : (2 : Int32).toInt = 2 := by decide
  intro k
  induction k with
  | zero => intro x1 g _ _ h; omega
  | succ k ih =>
    intro x1 g hg hgq hk
    rw [f_M_badCopies_2]
    by_cases c : qq ≤ x1
    · rw [if_pos c]; rw [le32, hQ, hg] at c
      exact ⟨0, rfl, Or.inr ⟨rfl, fun h => h (fun g' h1 h2 => by omega)⟩⟩
    · rw [if_neg c]; rw [le32, hQ, hg] at c
      obtain ⟨r1, e1, h1⟩ := msizeOf_eq hC hO (x1 := x1) (g := g) hnb hP hQ hg (by omega)
      rw [e1]
      simp only [bd1]
      have hn := copies_next (wd := wd) (Bk := Bk) (s := g) (by omega)
      by_cases c2 : 2 ≤ r1
      · rw [if_pos c2]; rw [le32, h1, z2] at c2
        have hl : 2 ≤ gLen wd Bk g := by omega
        rcases badCopies_in (N := N) (nb := nb) (qq := qq) hC hS hO hP hg (by omega) hl (K2 := f_M_badCopies_2 N nb dk pp qq k) N 0 0 (by decide) (by omega) (by omega) with ⟨h, e⟩ | ⟨h, e⟩
        · rw [e]
          obtain ⟨r, e, h'⟩ := ih (x1 + 1) (g + 1) (by rw [add32 (y := 1) hg (by decide) (by omega) (by omega)]; omega) (by omega) (by omega)
          refine ⟨r, e, ?_⟩
          rcases h' with ⟨e, h'⟩ | ⟨e, h'⟩
          · exact Or.inl ⟨e, fun hh => h' (hn.mp hh).2⟩
          · exact Or.inr ⟨e, fun hh => h' (fun h2 => hh (hn.mpr ⟨⟨hl, h⟩, h2⟩))⟩
        · rw [e]
          exact ⟨1, rfl, Or.inl ⟨rfl, fun hh => h (hn.mp hh).1.2⟩⟩
      · rw [if_neg c2]; rw [le32, h1, z2] at c2
        exact ⟨1, rfl, Or.inl ⟨rfl, fun hh => by have := (hn.mp hh).1.1; omega⟩⟩
theorem badCopies_eq (hC : CtxD NW sz bk Bk) (hS : Same dk wd Bk) (hO : SuperOK wd Bk) {nb pp qq : Int32} (hnb : nb = bk) (hP : pp.toInt = (gP wd Bk : Int)) (hQ : qq.toInt = (gQ wd Bk : Int)) (hQ1 : 1 ≤ gQ wd Bk) (hN : 2050 ≤ N) :
    ∃ r, f_M_badCopies N nb dk pp qq = some r ∧ B01 r (¬ CopiesFrom wd Bk 1) := by
  have hq := gQ_le hO hC.2.2.2.1 hC.2.2.2.2
  exact badCopies_loop hC hS hO hnb hP hQ hN N 1 1 (by decide) hQ1 (by omega)
end CP
