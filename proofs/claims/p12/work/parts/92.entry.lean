/-! one entry of a directory, on both sides -/
section EY
variable {N NW Bk : Nat} {sz bk nb : Int32} {wd : Nat → Int64} {dk : Nat → Int32} {mb mp : Nat → Int32} {gI gg : Int32} {G : Nat} {M : Nat → Nat} {Q : Nat}
theorem n4_split {a : Nat} (h : a + 4 ≤ 1024 * Bk) : n4 wd Bk a = b1 wd Bk a + 256 * (b1 wd Bk (a + 1) + 256 * (b1 wd Bk (a + 2) + 256 * b1 wd Bk (a + 3))) := by
  rw [b1_in (show a + 1 ≤ _ by omega), b1_in (show a + 1 + 1 ≤ _ by omega), b1_in (show a + 2 + 1 ≤ _ by omega), b1_in (show a + 3 + 1 ≤ _ by omega)]
  unfold n4 nu cnum
  rw [if_pos (by omega), Int.toNat_natCast]
  simp only [lenum, Nat.add_assoc, Nat.reduceAdd, Nat.mul_zero, Nat.add_zero]
theorem n2_split {a : Nat} (h : a + 2 ≤ 1024 * Bk) : n2 wd Bk a = b1 wd Bk a + 256 * b1 wd Bk (a + 1) := by
  rw [b1_in (show a + 1 ≤ _ by omega), b1_in (show a + 1 + 1 ≤ _ by omega)]
  unfold n2 nu cnum
  rw [if_pos (by omega), Int.toNat_natCast]
  simp only [lenum, Nat.add_assoc, Nat.reduceAdd, Nat.mul_zero, Nat.add_zero]
theorem head_split {e : Nat} (h : e + 8 ≤ 1024 * Bk) : n4 wd Bk e = hIno (nu wd Bk ((e : Nat) : Int) 8) ∧ n2 wd Bk (e + 4) = hLen (nu wd Bk ((e : Nat) : Int) 8) ∧ b1 wd Bk (e + 6) = hNam (nu wd Bk ((e : Nat) : Int) 8) ∧ b1 wd Bk (e + 7) = hMar (nu wd Bk ((e : Nat) : Int) 8) := by
  rw [nu8_split h, n4_split (show e + 4 ≤ _ by omega), n2_split (show e + 4 + 2 ≤ _ by omega)]
  rw [show e + 4 + 1 = e + 5 by omega]
  have h0 := b1_lt wd Bk e
  have h1 := b1_lt wd Bk (e + 1)
  have h2 := b1_lt wd Bk (e + 2)
  have h3 := b1_lt wd Bk (e + 3)
  have h4 := b1_lt wd Bk (e + 4)
  have h5 := b1_lt wd Bk (e + 5)
  have h6 := b1_lt wd Bk (e + 6)
  have h7 := b1_lt wd Bk (e + 7)
  generalize b1 wd Bk e = x0 at *
  generalize b1 wd Bk (e + 1) = x1 at *
  generalize b1 wd Bk (e + 2) = x2 at *
  generalize b1 wd Bk (e + 3) = x3 at *
  generalize b1 wd Bk (e + 4) = x4 at *
  generalize b1 wd Bk (e + 5) = x5 at *
  generalize b1 wd Bk (e + 6) = x6 at *
  generalize b1 wd Bk (e + 7) = x7 at *
  unfold hIno hLen hNam hMar
  refine ⟨?_, ?_, ?_, ?_⟩ <;> omega
theorem nu8_lt (a : Int) : nu wd Bk a 8 < 18446744073709551616 := nu_lt wd Bk a 8
def Dot1 (wd : Nat → Int64) (Bk e v : Nat) : Prop := hNam v = 1 ∧ b1 wd Bk (e + 8) = 46
def Dot2 (wd : Nat → Int64) (Bk e v : Nat) : Prop := hNam v = 2 ∧ nu wd Bk ((e + 8 : Nat) : Int) 2 = 11822
def EntOK (wd : Nat → Int64) (Bk G : Nat) (M : Nat → Nat) (Q d par e v k : Nat) : Prop := (1 ≤ hIno v ∧ hIno v ≤ Q * G) ∧ NameOK wd Bk e v ∧ (k = 0 → Dot1 wd Bk e v ∧ hIno v = d ∧ hMar v = 2) ∧ (k = 1 → Dot2 wd Bk e v ∧ hIno v = par ∧ hMar v = 2) ∧ (2 ≤ k → (¬ Dot1 wd Bk e v ∧ ¬ Dot2 wd Bk e v ∧ usedB wd Bk G M (hIno v) = true) ∧ ((tyN wd Bk G M (hIno v) = 16384 ∧ hMar v = 2) ∨ (tyN wd Bk G M (hIno v) = 32768 ∧ hMar v = 1)))
theorem entryStands_eq (hC : CtxD NW sz bk Bk) (hL : CtxL mb gI G M Q) (hQG : Q * G < 4096) (hN : 256 ≤ N) {iN od a1 a2 : Int32} {pl : Int64} {e v k d par : Nat} (hI : iN.toInt = ((Q * G : Nat) : Int)) (ho : od.toInt = (k : Int)) (hp : pl.toInt = (e : Int)) (he : e < 1000000000000000) (hv : v < 18446744073709551616) (h1 : a1.toInt = (d : Int)) (h2 : a2.toInt = (par : Int)) :
    ∃ r, f_S_entryStands N NW sz wd mb gI iN od pl (Int64.ofNat v) a1 a2 = some r ∧ B01 r (EntOK wd Bk G M Q d par e v k) := by
  unfold f_S_entryStands
  rw [hasInode_eq hI hv]
  simp only [bd1]
  by_cases c1 : 1 ≤ hIno v ∧ hIno v ≤ Q * G
  · rw [if_pos c1, if_neg (by decide)]
    obtain ⟨rn, en, hn1, hn2⟩ := hasName_eq (wd := wd) (N := N) hC hp he hv hN
    rw [en]
    simp only []
    by_cases c2 : NameOK wd Bk e v
    · rw [if_neg (by rw [hn2.mpr c2]; decide)]
      obtain ⟨ri, ei, hi⟩ := inode_eq (NW := NW) hv (by omega)
      obtain ⟨rm, em, hm⟩ := mark_eq (NW := NW) hv
      have hml : hMar v < 256 := by unfold hMar; omega
      rw [ei, isOneDot_eq hC hp he hv, isTwoDots_eq hC hp he hv, em]
      simp only [f_E_order]
      have z0 : (0 : Int32).toInt = 0 := by decide
      have z1 : (1 : Int32).toInt = 1 := by decide
      have z2 : (2 : Int32).toInt = 2 := by decide
      have m2 : rm = 2 ↔ hMar v = 2 := by rw [eq32, hm, z2]; omega
      have m1 : rm = 1 ↔ hMar v = 1 := by rw [eq32, hm, z1]; omega
      by_cases k0 : k = 0
      · rw [if_pos (by rw [eq32, ho, z0]; omega)]
        by_cases d1 : hNam v = 1 ∧ b1 wd Bk (e + 8) = 46
        · rw [if_pos d1, if_neg (by decide)]
          have q : ri = a1 ↔ hIno v = d := by rw [eq32, hi, h1]; omega
          simp only [q, m2]
          by_cases d2 : hIno v = d
          · rw [if_pos d2]
            by_cases d3 : hMar v = 2
            · rw [if_pos d3]
              exact ⟨1, rfl, Or.inl ⟨rfl, c1, c2, fun _ => ⟨d1, d2, d3⟩, fun h => by omega, fun h => by omega⟩⟩
            · rw [if_neg d3]
              exact ⟨0, rfl, Or.inr ⟨rfl, fun h => d3 (h.2.2.1 k0).2.2⟩⟩
          · rw [if_neg d2]
            exact ⟨0, rfl, Or.inr ⟨rfl, fun h => d2 (h.2.2.1 k0).2.1⟩⟩
        · rw [if_neg d1, if_pos rfl]
          exact ⟨0, rfl, Or.inr ⟨rfl, fun h => d1 (h.2.2.1 k0).1⟩⟩
      · rw [if_neg (by rw [eq32, ho, z0]; omega)]
        by_cases k1 : k = 1
        · rw [if_pos (by rw [eq32, ho, z1]; omega)]
          by_cases d1 : hNam v = 2 ∧ nu wd Bk ((e + 8 : Nat) : Int) 2 = 11822
          · rw [if_pos d1, if_neg (by decide)]
            have q : ri = a2 ↔ hIno v = par := by rw [eq32, hi, h2]; omega
            simp only [q, m2]
            by_cases d2 : hIno v = par
            · rw [if_pos d2]
              by_cases d3 : hMar v = 2
              · rw [if_pos d3]
                exact ⟨1, rfl, Or.inl ⟨rfl, c1, c2, fun h => by omega, fun _ => ⟨d1, d2, d3⟩, fun h => by omega⟩⟩
              · rw [if_neg d3]
                exact ⟨0, rfl, Or.inr ⟨rfl, fun h => d3 (h.2.2.2.1 k1).2.2⟩⟩
            · rw [if_neg d2]
              exact ⟨0, rfl, Or.inr ⟨rfl, fun h => d2 (h.2.2.2.1 k1).2.1⟩⟩
          · rw [if_neg d1, if_pos rfl]
            exact ⟨0, rfl, Or.inr ⟨rfl, fun h => d1 (h.2.2.2.1 k1).1⟩⟩
        · rw [if_neg (by rw [eq32, ho, z1]; omega)]
          by_cases d1 : hNam v = 1 ∧ b1 wd Bk (e + 8) = 46
          · rw [if_pos d1, if_neg (by decide)]
            exact ⟨0, rfl, Or.inr ⟨rfl, fun h => (h.2.2.2.2 (by omega)).1.1 d1⟩⟩
          · rw [if_neg d1, if_pos rfl]
            by_cases d2 : hNam v = 2 ∧ nu wd Bk ((e + 8 : Nat) : Int) 2 = 11822
            · rw [if_pos d2, if_neg (by decide)]
              exact ⟨0, rfl, Or.inr ⟨rfl, fun h => (h.2.2.2.2 (by omega)).1.2.1 d2⟩⟩
            · rw [if_neg d2, if_pos rfl]
              have h8 : (hIno v - 1) / G < Q := inR_div c1
              rw [isUsed_eq hC hL hi c1.1 h8]
              simp only []
              by_cases d3 : usedB wd Bk G M (hIno v) = true
              · rw [if_pos d3, if_neg (by decide), ctypeOf_eq hC hL hi c1.1 h8]
                simp only [f_S_entryStands_177]
                have ht := tyN_lt (wd := wd) (Bk := Bk) (G := G) (M := M) (hIno v)
                have t1 : Int32.ofNat (tyN wd Bk G M (hIno v)) = 16384 ↔ tyN wd Bk G M (hIno v) = 16384 := is32 ht (by decide)
                have t2 : Int32.ofNat (tyN wd Bk G M (hIno v)) = 32768 ↔ tyN wd Bk G M (hIno v) = 32768 := is32 ht (by decide)
                rw [em]
                simp only [bd1, t1, t2, m1, m2]
                by_cases e1 : tyN wd Bk G M (hIno v) = 16384
                · rw [if_pos e1]
                  by_cases e2 : hMar v = 2
                  · rw [if_pos e2]
                    exact ⟨1, rfl, Or.inl ⟨rfl, c1, c2, fun h => by omega, fun h => by omega, fun _ => ⟨⟨d1, d2, d3⟩, Or.inl ⟨e1, e2⟩⟩⟩⟩
                  · rw [if_neg e2, if_neg (by omega)]
                    refine ⟨0, rfl, Or.inr ⟨rfl, fun h => ?_⟩⟩
                    rcases (h.2.2.2.2 (by omega)).2 with q | q <;> omega
                · rw [if_neg e1]
                  by_cases e2 : tyN wd Bk G M (hIno v) = 32768
                  · rw [if_pos e2]
                    by_cases e3 : hMar v = 1
                    · rw [if_pos e3]
                      exact ⟨1, rfl, Or.inl ⟨rfl, c1, c2, fun h => by omega, fun h => by omega, fun _ => ⟨⟨d1, d2, d3⟩, Or.inr ⟨e2, e3⟩⟩⟩⟩
                    · rw [if_neg e3]
                      refine ⟨0, rfl, Or.inr ⟨rfl, fun h => ?_⟩⟩
                      rcases (h.2.2.2.2 (by omega)).2 with q | q <;> omega
                  · rw [if_neg e2]
                    refine ⟨0, rfl, Or.inr ⟨rfl, fun h => ?_⟩⟩
                    rcases (h.2.2.2.2 (by omega)).2 with q | q <;> omega
              · rw [if_neg d3, if_pos rfl]
                exact ⟨0, rfl, Or.inr ⟨rfl, fun h => d3 (h.2.2.2.2 (by omega)).1.2.2⟩⟩
    · have : rn = 0 := by
        rcases hn1 with h | h
        · exact absurd (hn2.mp h) c2
        · exact h
      rw [if_pos this]
      exact ⟨0, rfl, Or.inr ⟨rfl, fun h => c2 h.2.1⟩⟩
  · rw [if_neg c1, if_pos rfl]
    exact ⟨0, rfl, Or.inr ⟨rfl, fun h => c1 h.1⟩⟩
theorem dots_loop (hC : CtxD NW sz bk Bk) (hS : Same dk wd Bk) {x1 x2 : Int32} {e p : Nat} (h1 : x1.toInt = (e : Int)) (h2 : x2.toInt = (p : Int)) (hin : e + 8 + p ≤ 1024 * Bk) :
    ∀ (k : Nat) (x4 : Int32) (j : Nat), x4.toInt = (j : Int) → j ≤ p → p - j < k → ∃ r, f_M_isDots_18 N dk k x1 x2 1 x4 = some r ∧ B01 r (∀ t, j ≤ t → t < p → b1 wd Bk (e + 8 + t) = 46) := by
  have hB2 := hC.2.2.2.2
  intro k
  induction k with
  | zero => intro x4 j _ _ h; omega
  | succ k ih =>
    intro x4 j h4 hj hk
    rw [f_M_isDots_18]
    by_cases c : x2 ≤ x4
    · rw [if_pos c, if_pos is01_1]; rw [le32, h2, h4] at c
      exact ⟨1, rfl, Or.inl ⟨rfl, fun t q1 q2 => by omega⟩⟩
    · rw [if_neg c, if_neg (by decide)]; rw [le32, h2, h4] at c
      rw [one_b1 hC hS (a := e + 8 + j) (by rw [add32 (add32 (y := 8) h1 (by decide) (by omega) (by omega)) h4 (by omega) (by omega)]; omega) (by omega)]
      simp only [bd1]
      have hb := b1_lt wd Bk (e + 8 + j)
      have q : Int32.ofNat (b1 wd Bk (e + 8 + j)) = 46 ↔ b1 wd Bk (e + 8 + j) = 46 := is32 (by omega) (by decide)
      have e4 : (x4 + 1).toInt = ((j + 1 : Nat) : Int) := by rw [add32 (y := 1) h4 (by decide) (by omega) (by omega)]; omega
      simp only [q, lt1]
      by_cases c2 : b1 wd Bk (e + 8 + j) = 46
      · rw [if_pos c2]
        obtain ⟨r, er, hr⟩ := ih (x4 + 1) (j + 1) e4 (by omega) (by omega)
        refine ⟨r, er, ?_⟩
        rcases hr with ⟨a, b⟩ | ⟨a, b⟩
        · refine Or.inl ⟨a, fun t q1 q2 => ?_⟩
          by_cases et : t = j
          · subst et; exact c2
          · exact b t (by omega) q2
        · exact Or.inr ⟨a, fun h => b (fun t q1 q2 => h t (by omega) q2)⟩
      · rw [if_neg c2]
        cases k with
        | zero => omega
        | succ k =>
          refine ⟨0, ?_, Or.inr ⟨rfl, fun h => c2 (h j (Nat.le_refl _) (by omega))⟩⟩
          rw [f_M_isDots_18]
          by_cases c3 : x2 ≤ x4 + 1
          · rw [if_pos c3, if_pos is01_0]
          · rw [if_neg c3, if_pos rfl, if_pos is01_0]
theorem isDots_eq (hC : CtxD NW sz bk Bk) (hS : Same dk wd Bk) (hN : 10 ≤ N) {x1 x2 : Int32} {e p : Nat} (h1 : x1.toInt = (e : Int)) (h2 : x2.toInt = (p : Int)) (hp : p ≤ 5) (hin0 : e + 8 ≤ 1024 * Bk) (hin : b1 wd Bk (e + 6) = p → e + 8 + p ≤ 1024 * Bk) :
    ∃ r, f_M_isDots N dk x1 x2 = some r ∧ B01 r (b1 wd Bk (e + 6) = p ∧ ∀ t, t < p → b1 wd Bk (e + 8 + t) = 46) := by
  have hB2 := hC.2.2.2.2
  unfold f_M_isDots f_M_nameSize
  rw [one_b1 hC hS (a := e + 6) (by rw [add32 (y := 6) h1 (by decide) (by omega) (by omega)]; omega) (by omega)]
  simp only [bd1]
  have hb := b1_lt wd Bk (e + 6)
  have q : Int32.ofNat (b1 wd Bk (e + 6)) = x2 ↔ b1 wd Bk (e + 6) = p := is32 (by omega) h2
  simp only [q]
  by_cases c : b1 wd Bk (e + 6) = p
  · rw [if_pos c]
    obtain ⟨r, er, hr⟩ := dots_loop (N := N) hC hS h1 h2 (hin c) N 0 0 (by decide) (by omega) (by omega)
    refine ⟨r, er, ?_⟩
    rcases hr with ⟨a, b⟩ | ⟨a, b⟩
    · exact Or.inl ⟨a, c, fun t ht => b t (by omega) ht⟩
    · exact Or.inr ⟨a, fun h => b (fun t _ q2 => h.2 t q2)⟩
  · rw [if_neg c]
    obtain ⟨m, em⟩ : ∃ m, N = m + 1 := ⟨N - 1, by omega⟩
    refine ⟨0, ?_, Or.inr ⟨rfl, fun h => c h.1⟩⟩
    conv => lhs; arg 3; rw [em]
    rw [f_M_isDots_18]
    by_cases c3 : x2 ≤ 0
    · rw [if_pos c3, if_pos is01_0]
    · rw [if_neg c3, if_pos rfl, if_pos is01_0]
theorem dot1_iff {e : Nat} (h : e + 8 ≤ 1024 * Bk) : (b1 wd Bk (e + 6) = 1 ∧ ∀ t, t < 1 → b1 wd Bk (e + 8 + t) = 46) ↔ Dot1 wd Bk e (nu wd Bk ((e : Nat) : Int) 8) := by
  have hs := (head_split (wd := wd) h).2.2.1
  unfold Dot1
  rw [← hs]
  constructor
  · intro q; exact ⟨q.1, q.2 0 (by omega)⟩
  · intro q; exact ⟨q.1, fun t ht => by rw [show t = 0 by omega]; exact q.2⟩
theorem dot2_iff {e : Nat} (h : e + 8 ≤ 1024 * Bk) (h10 : b1 wd Bk (e + 6) = 2 → e + 10 ≤ 1024 * Bk) : (b1 wd Bk (e + 6) = 2 ∧ ∀ t, t < 2 → b1 wd Bk (e + 8 + t) = 46) ↔ Dot2 wd Bk e (nu wd Bk ((e : Nat) : Int) 8) := by
  have hs := (head_split (wd := wd) h).2.2.1
  unfold Dot2
  rw [← hs]
  have key : b1 wd Bk (e + 6) = 2 → (nu wd Bk ((e + 8 : Nat) : Int) 2 = 11822 ↔ b1 wd Bk (e + 8) = 46 ∧ b1 wd Bk (e + 8 + 1) = 46) := by
    intro q
    have := n2_split (wd := wd) (Bk := Bk) (a := e + 8) (by have := h10 q; omega)
    have a1 := b1_lt wd Bk (e + 8)
    have a2 := b1_lt wd Bk (e + 8 + 1)
    change n2 wd Bk (e + 8) = 11822 ↔ _
    omega
  constructor
  · intro q; exact ⟨q.1, (key q.1).mpr ⟨q.2 0 (by omega), q.2 1 (by omega)⟩⟩
  · intro q
    refine ⟨q.1, fun t ht => ?_⟩
    obtain ⟨a, b⟩ := (key q.1).mp q.2
    by_cases e0 : t = 0
    · subst e0; exact a
    · rw [show t = 1 by omega]; exact b
end EY
