/-! fault 8: the reference's loop over a group, and all groups -/
section MC
variable {N NW Bk : Nat} {sz bk nb : Int32} {wd : Nat → Int64} {dk : Nat → Int32} {mb mp : Nat → Int32} {gI gg : Int32} {G : Nat} {M : Nat → Nat} {Q : Nat} {fx : Nat → Int32}
/-- what the reference asks of bit k of a group's maps -/
def BitOK (wd : Nat → Int64) (Bk m G len b0 : Nat) (tk : Nat → Int32) (k : Nat) : Prop := mbit wd Bk (1024 * m) k = (!(decide (k < len) && decide (tk (b0 + k) = 0))) ∧ (G ≤ k → mbit wd Bk (1024 * m + 1024) k = true)
theorem mbits_loop (hC : CtxD NW sz bk Bk) (hS : Same dk wd Bk) (hM : CtxM mp gg G M Q Bk) (hO : SuperOK wd Bk) (hQe : Q = gQ wd Bk) (hnb : nb = bk) {tk tn oq : Nat → Int32} (hT : TK tk fx tn) {pp qq cm x5 : Int32} {g : Nat} (hP : pp.toInt = (gP wd Bk : Int)) (hq : qq.toInt = (Q : Int)) (hg : x5.toInt = (g : Int)) (hg2 : g < Q) {K7 : Int64 → Int64 → Int32 → Option Int32} {x1 x3 : Int64} {x8 : Int32} :
    ∀ (k : Nat) (x6 x7 x9 : Int32) (s : Nat), x9.toInt = (s : Int) → s ≤ 8192 → 8192 - s < k → x6.toInt = ((cntB (fun k => decide (k < gLen wd Bk g) && decide (tk (1 + g * gP wd Bk + k) = 0)) s : Nat) : Int) → x7.toInt = ((cntB (fun k => decide (k < G) && !mbit wd Bk (1024 * M g + 1024) k) s : Nat) : Int) →
    ((∀ k, s ≤ k → k < 8192 → BitOK wd Bk (M g) G (gLen wd Bk g) (1 + g * gP wd Bk) tk k) ∧ ∃ y6 y7 : Int32, y6.toInt = ((cntB (fun k => decide (k < gLen wd Bk g) && decide (tk (1 + g * gP wd Bk + k) = 0)) 8192 : Nat) : Int) ∧ y7.toInt = ((cntB (fun k => decide (k < G) && !mbit wd Bk (1024 * M g + 1024) k) 8192 : Nat) : Int) ∧ f_M_badCounts_28 N nb dk pp gg qq mp fx tn cm oq K7 k x1 x3 x5 x6 x7 x8 x9 = f_M_badCounts_208 N nb dk pp gg qq mp fx tn cm oq K7 N x1 x3 x5 y6 y7 x8 0) ∨ ((¬ ∀ k, s ≤ k → k < 8192 → BitOK wd Bk (M g) G (gLen wd Bk g) (1 + g * gP wd Bk) tk k) ∧ f_M_badCounts_28 N nb dk pp gg qq mp fx tn cm oq K7 k x1 x3 x5 x6 x7 x8 x9 = some 1) := by
  have hB := hC.2.2.2.1
  have hB2 := hC.2.2.2.2
  have hp := gP_lt hO
  have hq8 : Q ≤ 8 := hM.2.2.2.2.1
  have hgg := hM.1
  have hG2 := hM.2.2.1
  obtain ⟨hm1, hm2, hm3⟩ := hM.2.2.2.2.2.2 g hg2
  have hin := (gq_in hO hB (g := g) (by omega)).1
  have hlen : gLen wd Bk g = min (gP wd Bk) (Bk - (1 + g * gP wd Bk)) := rfl
  have z8192 : (8192 : Int32).toInt = 8192 := by decide
  obtain ⟨rs, es, hs⟩ := msizeOf_eq (wd := wd) hC hO (nb := nb) (pp := pp) (qq := qq) (x1 := x5) (g := g) hnb hP (by rw [hq, hQe]) hg (by omega)
  obtain ⟨rb, eb, hb⟩ := mbegin_eq hP (by omega) hg (by omega)
  have ho8 : ¬ oob x5 8 := by rw [oob_iff, hg]; omega
  generalize gLen wd Bk g = len at *
  generalize hb0 : 1 + g * gP wd Bk = b0 at *
  intro k
  induction k with
  | zero => intro x6 x7 x9 s _ _ h; omega
  | succ k ih =>
    intro x6 x7 x9 s h9 hs2 hk h6 h7
    have hc6 := cntB_le (fun k => decide (k < len) && decide (tk (b0 + k) = 0)) s
    have hc7 := cntB_le (fun k => decide (k < G) && !mbit wd Bk (1024 * M g + 1024) k) s
    rw [f_M_badCounts_28]
    by_cases c : (8192 : Int32) ≤ x9
    · rw [if_pos c]; rw [le32, h9, z8192] at c
      left
      refine ⟨fun k h1 h2 => by omega, x6, x7, ?_, ?_, rfl⟩
      · rw [show 8192 = s by omega]; exact h6
      · rw [show 8192 = s by omega]; exact h7
    · rw [if_neg c, es]; rw [le32, h9, z8192] at c
      simp only [bd1]
      have e9 : (x9 + 1).toInt = ((s + 1 : Nat) : Int) := by rw [add32 (y := 1) h9 (by decide) (by omega) (by omega)]; omega
      -- the bit that is due
      have eDue : (if rs ≤ x9 then (f_M_badCounts_52 N nb dk pp gg qq mp fx tn cm oq K7 (f_M_badCounts_28 N nb dk pp gg qq mp fx tn cm oq K7 k) x1 x3 x5 x6 x7 x8 x9 ((0 : Int32))) else (f_M_badCounts_52 N nb dk pp gg qq mp fx tn cm oq K7 (f_M_badCounts_28 N nb dk pp gg qq mp fx tn cm oq K7 k) x1 x3 x5 x6 x7 x8 x9 ((1 : Int32)))) = f_M_badCounts_98 N nb dk pp gg qq mp fx tn cm oq K7 (f_M_badCounts_28 N nb dk pp gg qq mp fx tn cm oq K7 k) x1 x3 x5 x6 x7 x8 x9 (if s < len ∧ tk (b0 + s) = 0 then 0 else 1) := by
        by_cases cl : s < len
        · rw [if_neg (show ¬ rs ≤ x9 by rw [le32, hs, h9]; omega)]
          unfold f_M_badCounts_52 f_M_badCounts_93
          rw [if_neg (show ¬ (1 : Int32) = 0 by decide), eb]
          simp only [bd1]
          have e1 : (rb + x9).toInt = ((b0 + s : Nat) : Int) := by rw [add32 hb h9 (by omega) (by omega)]; omega
          have ho : ¬ oob (rb + x9) 512 := by rw [oob_iff, e1]; omega
          simp only [if_neg ho]
          rw [nn32 e1]
          have ht := hT (b0 + s) (by omega)
          by_cases c1 : fx (b0 + s) = 0
          · rw [if_pos c1]
            by_cases c2 : tn (b0 + s) = 0
            · rw [if_pos c2, if_pos ⟨cl, ht.mpr ⟨c1, c2⟩⟩]
            · rw [if_neg c2, if_neg (fun h => c2 (ht.mp h.2).2)]
          · rw [if_neg c1, if_neg (fun h => c1 (ht.mp h.2).1)]
        · rw [if_pos (show rs ≤ x9 by rw [le32, hs, h9]; omega), if_neg (fun h => cl h.1)]
          unfold f_M_badCounts_52 f_M_badCounts_93
          rw [if_pos rfl]
      rw [eDue]
      unfold f_M_badCounts_98
      have eb1 := mbit_eq (wd := wd) hC hS (a1 := mp g) (a2 := x9) (b := M g) (k := s) hm1 (by omega) h9 (by omega)
      have eb2 := mbit_eq (wd := wd) hC hS (a1 := mp g + 1) (a2 := x9) (b := M g + 1) (k := s) (by rw [add32 (y := 1) hm1 (by decide) (by omega) (by omega)]; omega) (by omega) h9 (by omega)
      rw [show 1024 * (M g + 1) = 1024 * M g + 1024 by omega] at eb2
      simp only [if_neg ho8]
      rw [nn32 hg, eb1, eb2]
      simp only [bd1]
      have hdue : ((if mbit wd Bk (1024 * M g) s = true then (1 : Int32) else 0) = (if s < len ∧ tk (b0 + s) = 0 then 0 else 1)) ↔ mbit wd Bk (1024 * M g) s = (!(decide (s < len) && decide (tk (b0 + s) = 0))) := by
        by_cases c1 : mbit wd Bk (1024 * M g) s = true
        · by_cases c2 : s < len ∧ tk (b0 + s) = 0
          · simp [c1, c2]
          · rw [if_pos c1, if_neg c2, c1]
            simp only [true_iff]
            by_cases c3 : s < len
            · have : ¬ tk (b0 + s) = 0 := fun h => c2 ⟨c3, h⟩
              simp [c3, this]
            · simp [c3]
        · rw [Bool.not_eq_true] at c1
          by_cases c2 : s < len ∧ tk (b0 + s) = 0
          · simp [c1, c2]
          · rw [if_neg c2, c1]
            constructor
            · intro h; exact absurd h (by decide)
            · intro h
              by_cases c3 : s < len
              · have : ¬ tk (b0 + s) = 0 := fun h => c2 ⟨c3, h⟩
                simp [c3, this] at h
              · simp [c3] at h
      simp only [hdue]
      have fail : ¬ BitOK wd Bk (M g) G len b0 tk s → ((¬ ∀ k, s ≤ k → k < 8192 → BitOK wd Bk (M g) G len b0 tk k) ∧ some (1 : Int32) = some 1) := fun h => ⟨fun hh => h (hh s (Nat.le_refl _) (by omega)), rfl⟩
      by_cases d1 : mbit wd Bk (1024 * M g) s = (!(decide (s < len) && decide (tk (b0 + s) = 0)))
      · rw [if_pos d1]
        -- one bit further on
        have next : (G ≤ s → mbit wd Bk (1024 * M g + 1024) s = true) → ((∀ k, s ≤ k → k < 8192 → BitOK wd Bk (M g) G len b0 tk k) ∧ ∃ y6 y7 : Int32, y6.toInt = ((cntB (fun k => decide (k < len) && decide (tk (b0 + k) = 0)) 8192 : Nat) : Int) ∧ y7.toInt = ((cntB (fun k => decide (k < G) && !mbit wd Bk (1024 * M g + 1024) k) 8192 : Nat) : Int) ∧ f_M_badCounts_147 N nb dk pp gg qq mp fx tn cm oq K7 (f_M_badCounts_28 N nb dk pp gg qq mp fx tn cm oq K7 k) x1 x3 x5 x6 x7 x8 x9 (if s < len ∧ tk (b0 + s) = 0 then 0 else 1) = f_M_badCounts_208 N nb dk pp gg qq mp fx tn cm oq K7 N x1 x3 x5 y6 y7 x8 0) ∨ ((¬ ∀ k, s ≤ k → k < 8192 → BitOK wd Bk (M g) G len b0 tk k) ∧ f_M_badCounts_147 N nb dk pp gg qq mp fx tn cm oq K7 (f_M_badCounts_28 N nb dk pp gg qq mp fx tn cm oq K7 k) x1 x3 x5 x6 x7 x8 x9 (if s < len ∧ tk (b0 + s) = 0 then 0 else 1) = some 1) := by
          intro d2
          have hok : BitOK wd Bk (M g) G len b0 tk s := ⟨d1, d2⟩
          have go : ∀ (v6 v7 : Int32), v6.toInt = ((cntB (fun k => decide (k < len) && decide (tk (b0 + k) = 0)) (s + 1) : Nat) : Int) → v7.toInt = ((cntB (fun k => decide (k < G) && !mbit wd Bk (1024 * M g + 1024) k) (s + 1) : Nat) : Int) → ((∀ k, s ≤ k → k < 8192 → BitOK wd Bk (M g) G len b0 tk k) ∧ ∃ y6 y7 : Int32, y6.toInt = ((cntB (fun k => decide (k < len) && decide (tk (b0 + k) = 0)) 8192 : Nat) : Int) ∧ y7.toInt = ((cntB (fun k => decide (k < G) && !mbit wd Bk (1024 * M g + 1024) k) 8192 : Nat) : Int) ∧ f_M_badCounts_28 N nb dk pp gg qq mp fx tn cm oq K7 k x1 x3 x5 v6 v7 x8 (x9 + 1) = f_M_badCounts_208 N nb dk pp gg qq mp fx tn cm oq K7 N x1 x3 x5 y6 y7 x8 0) ∨ ((¬ ∀ k, s ≤ k → k < 8192 → BitOK wd Bk (M g) G len b0 tk k) ∧ f_M_badCounts_28 N nb dk pp gg qq mp fx tn cm oq K7 k x1 x3 x5 v6 v7 x8 (x9 + 1) = some 1) := by
            intro v6 v7 q6 q7
            rcases ih v6 v7 (x9 + 1) (s + 1) e9 (by omega) (by omega) q6 q7 with ⟨a, b⟩ | ⟨a, b⟩
            · refine Or.inl ⟨fun k k1 k2 => ?_, b⟩
              by_cases ek : k = s
              · subst ek; exact hok
              · exact a k (by omega) k2
            · exact Or.inr ⟨fun hh => a (fun k k1 k2 => hh k (by omega) k2), b⟩
          -- free inodes
          have e159 : ∀ s1 : Int32, f_M_badCounts_159 N nb dk pp gg qq mp fx tn cm oq K7 (f_M_badCounts_28 N nb dk pp gg qq mp fx tn cm oq K7 k) x1 x3 x5 x7 x8 x9 x6 s1 = f_M_badCounts_28 N nb dk pp gg qq mp fx tn cm oq K7 k x1 x3 x5 (x6 + s1) (if s < G ∧ mbit wd Bk (1024 * M g + 1024) s = false then x7 + 1 else x7) x8 (x9 + 1) := by
            intro s1
            unfold f_M_badCounts_159
            simp only [lt1, if_neg ho8, add0]
            by_cases cg : s < G
            · rw [if_neg (show ¬ gg ≤ x9 by rw [le32, hgg, h9]; omega), nn32 hg, eb2]
              simp only [bd1]
              by_cases ci : mbit wd Bk (1024 * M g + 1024) s = true
              · rw [if_pos ci, if_neg (show ¬ (1 : Int32) = 0 by decide), if_neg (fun h => by rw [ci] at h; exact absurd h.2 (by decide))]
              · rw [if_neg ci]
                rw [Bool.not_eq_true] at ci
                rw [if_pos (⟨cg, ci⟩ : s < G ∧ mbit wd Bk (1024 * M g + 1024) s = false)]
                first | rw [if_pos rfl] | rw [if_pos trivial]
            · rw [if_pos (show gg ≤ x9 by rw [le32, hgg, h9]; omega), if_neg (fun h => cg h.1)]
          have e7 : (if s < G ∧ mbit wd Bk (1024 * M g + 1024) s = false then x7 + 1 else x7).toInt = ((cntB (fun k => decide (k < G) && !mbit wd Bk (1024 * M g + 1024) k) (s + 1) : Nat) : Int) := by
            rw [cntB]
            by_cases cg : s < G ∧ mbit wd Bk (1024 * M g + 1024) s = false
            · rw [if_pos cg, if_pos (by simp [cg.1, cg.2]), add32 (y := 1) h7 (by decide) (by omega) (by omega)]; omega
            · rw [if_neg cg, if_neg (by
                intro h
                rw [Bool.and_eq_true, decide_eq_true_iff, Bool.not_eq_true'] at h
                exact cg h), h7]; omega
          unfold f_M_badCounts_147
          by_cases cf : s < len ∧ tk (b0 + s) = 0
          · rw [if_pos cf, if_pos rfl, e159]
            exact go _ _ (by rw [cntB, if_pos (by simp [cf.1, cf.2]), add32 (y := 1) h6 (by decide) (by omega) (by omega)]; omega) e7
          · rw [if_neg cf, if_neg (show ¬ (1 : Int32) = 0 by decide), e159, add0]
            exact go _ _ (by
              rw [cntB, if_neg (by
                intro h
                rw [Bool.and_eq_true, decide_eq_true_iff, decide_eq_true_iff] at h
                exact cf h), h6]; omega) e7
        by_cases cg : s < G
        · rw [if_pos (show x9 < gg by rw [lt32, hgg, h9]; omega)]
          exact next (fun h => by omega)
        · rw [if_neg (show ¬ x9 < gg by rw [lt32, hgg, h9]; omega)]
          by_cases ci : mbit wd Bk (1024 * M g + 1024) s = true
          · rw [if_pos ci, if_neg (show ¬ (1 : Int32) = 0 by decide)]
            exact next (fun _ => ci)
          · rw [if_neg ci]
            first | rw [if_pos rfl] | rw [if_pos trivial]
            exact Or.inr (fail (fun h => ci (h.2 (by omega))))
      · rw [if_neg d1]
        exact Or.inr (fail (fun h => d1 h.1))
theorem bits_iff {m len b0 : Nat} {tk : Nat → Int32} (hlen : len ≤ 8192) : (∀ k, 0 ≤ k → k < 8192 → BitOK wd Bk m G len b0 tk k) ↔ MapOK wd Bk m len b0 tk 0 ∧ ∀ k, G ≤ k → k < 8192 → mbit wd Bk (1024 * m + 1024) k = true := by
  constructor
  · intro h
    refine ⟨⟨fun k _ hk => ?_, fun k k1 k2 => ?_⟩, fun k k1 k2 => (h k (by omega) k2).2 k1⟩
    · have := (h k (by omega) (by omega)).1
      rw [this]; simp [hk]
    · have := (h k (by omega) k2).1
      rw [this, decide_eq_false (show ¬ k < len by omega)]; rfl
  · intro h k _ hk
    refine ⟨?_, fun hg => h.2 k hg hk⟩
    by_cases c : k < len
    · rw [h.1.1 k (by omega) c]; simp [c]
    · rw [h.1.2 k (by omega) hk]; simp [c]
end MC
