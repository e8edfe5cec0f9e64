/-! fault 8, on both sides -/
section MA
variable {N NW Bk : Nat} {sz bk nb : Int32} {wd : Nat → Int64} {dk : Nat → Int32} {mb mp : Nat → Int32} {gI gg : Int32} {G : Nat} {M : Nat → Nat} {Q : Nat} {fx : Nat → Int32}
def cntB (p : Nat → Bool) : Nat → Nat
  | 0 => 0
  | n+1 => cntB p n + (if p n then 1 else 0)
theorem cntB_le (p : Nat → Bool) : ∀ n, cntB p n ≤ n := by
  intro n
  induction n with
  | zero => exact Nat.le_refl _
  | succ n ih =>
    rw [cntB]
    by_cases c : p n = true
    · rw [if_pos c]; omega
    · rw [if_neg c]; omega
theorem cntB_ext {p : Nat → Bool} {a : Nat} : ∀ n, a ≤ n → (∀ k, a ≤ k → k < n → p k = false) → cntB p n = cntB p a := by
  intro n
  induction n with
  | zero => intro h _; rw [show a = 0 by omega]
  | succ n ih =>
    intro h hp
    by_cases e : a = n + 1
    · rw [e]
    · rw [cntB, ih (by omega) (fun k h1 h2 => hp k h1 (by omega)), hp n (by omega) (by omega)]
      rfl
theorem cntB_congr {p q : Nat → Bool} : ∀ n, (∀ k, k < n → p k = q k) → cntB p n = cntB q n := by
  intro n
  induction n with
  | zero => intro _; rfl
  | succ n ih =>
    intro h
    rw [cntB, cntB, ih (fun k hk => h k (by omega)), h n (by omega)]
theorem isTaken_eq {tk : Nat → Int32} {a1 : Int32} {b : Nat} (h1 : a1.toInt = (b : Int)) (hb : b < 512) : f_S_isTaken NW tk a1 = some (if tk b = 0 then 0 else 1) := by
  have z0 : (0 : Int32).toInt = 0 := by decide
  have z5 : (512 : Int32).toInt = 512 := by decide
  unfold f_S_isTaken
  rw [if_neg (show ¬ a1 < 0 by rw [lt32, h1, z0]; omega), if_neg (show ¬ (512 : Int32) ≤ a1 by rw [le32, h1, z5]; omega), if_neg (show ¬ oob a1 512 by rw [oob_iff, h1]; omega), nn32 h1]
  by_cases c : tk b = 0
  · rw [if_pos c, if_pos c]
  · rw [if_neg c, if_neg c]
def MapOK (wd : Nat → Int64) (Bk m len b0 : Nat) (tk : Nat → Int32) (s : Nat) : Prop := (∀ k, s ≤ k → k < len → mbit wd Bk (1024 * m) k = !decide (tk (b0 + k) = 0)) ∧ ∀ k, len ≤ k → k < 8192 → mbit wd Bk (1024 * m) k = true
theorem blockMap_loop (hC : CtxD NW sz bk Bk) (hL : CtxL mb gI G M Q) {gB x1 x2 : Int32} {tk : Nat → Int32} {P g len : Nat} (hP : gB.toInt = (P : Int)) (hP2 : P < 1000) (hg : x1.toInt = (g : Int)) (hg2 : g < Q) (hmB : M g < Bk) (h2 : x2.toInt = (len : Int)) (hlen : len ≤ 8192) (hin : 1 + g * P + len ≤ 512) (hN : 8192 < N) :
    ∀ (k : Nat) (x3 : Int32) (s : Nat), x3.toInt = (s : Int) → s ≤ len → len - s < k → ∃ r, f_S_blockMapStands_11 N NW bk sz wd mb gB tk k x1 x2 x3 = some r ∧ B01 r (MapOK wd Bk (M g) len (1 + g * P) tk s) := by
  have hB2 := hC.2.2.2.2
  have hq8 := hL.2.2.2.1
  have em : (Int64.ofNat (1024 * M g)).toInt = ((1024 * M g : Nat) : Int) := num64 (by omega)
  obtain ⟨r1, e1, h1⟩ := firstBlock_eq (NW := NW) hP hP2 hg (by omega)
  intro k
  induction k with
  | zero => intro x3 s _ _ h; omega
  | succ k ih =>
    intro x3 s h3 hs hk
    rw [f_S_blockMapStands_11, blockMap_eq hL hg hg2, e1]
    simp only [bd1]
    by_cases c : x2 ≤ x3
    · rw [if_pos c]; rw [le32, h2, h3] at c
      obtain ⟨r, e, h⟩ := onesFrom_eq (N := N) (wd := wd) hC em (by omega) hN h2 hlen
      rw [e]
      simp only []
      have : is01 r := h.elim (fun q => Or.inr q.1) (fun q => Or.inl q.1)
      rw [if_pos this]
      refine ⟨r, rfl, ?_⟩
      rcases h with ⟨a, b⟩ | ⟨a, b⟩
      · exact Or.inl ⟨a, fun k h1 h2 => by omega, b⟩
      · exact Or.inr ⟨a, fun hh => b hh.2⟩
    · rw [if_neg c]; rw [le32, h2, h3] at c
      have Bi : f_D_bit NW sz wd (Int64.ofNat (1024 * M g)) x3 = some (if mbit wd Bk (1024 * M g) s then 1 else 0) := bit_eq hC em (by omega) h3
      rw [Bi, isTaken_eq (b := 1 + g * P + s) (by rw [add32 h1 h3 (by omega) (by omega)]; omega) (by omega)]
      simp only [lt1]
      have q : ((if mbit wd Bk (1024 * M g) s = true then (1 : Int32) else 0) = if tk (1 + g * P + s) = 0 then 0 else 1) ↔ mbit wd Bk (1024 * M g) s = !decide (tk (1 + g * P + s) = 0) := by
        by_cases c1 : mbit wd Bk (1024 * M g) s = true
        · by_cases c2 : tk (1 + g * P + s) = 0
          · simp [c1, c2]
          · simp [c1, c2]
        · rw [Bool.not_eq_true] at c1
          by_cases c2 : tk (1 + g * P + s) = 0
          · simp [c1, c2]
          · simp [c1, c2]
      simp only [q]
      by_cases c2 : mbit wd Bk (1024 * M g) s = !decide (tk (1 + g * P + s) = 0)
      · rw [if_pos c2]
        obtain ⟨r, e, h⟩ := ih (x3 + 1) (s + 1) (by rw [add32 (y := 1) h3 (by decide) (by omega) (by omega)]; omega) (by omega) (by omega)
        refine ⟨r, e, ?_⟩
        rcases h with ⟨a, b, b'⟩ | ⟨a, b⟩
        · refine Or.inl ⟨a, fun k k1 k2 => ?_, b'⟩
          by_cases ek : k = s
          · subst ek; exact c2
          · exact b k (by omega) k2
        · exact Or.inr ⟨a, fun hh => b ⟨fun k k1 k2 => hh.1 k (by omega) k2, hh.2⟩⟩
      · rw [if_neg c2]
        exact ⟨0, rfl, Or.inr ⟨rfl, fun hh => c2 (hh.1 s (Nat.le_refl _) (by omega))⟩⟩
theorem freeBlocks_loop {gB x1 x2 : Int32} {tk : Nat → Int32} {P g len : Nat} (hP : gB.toInt = (P : Int)) (hP2 : P < 1000) (hg : x1.toInt = (g : Int)) (hg2 : g < 1000) (h2 : x2.toInt = (len : Int)) (hin : 1 + g * P + len ≤ 512) :
    ∀ (k : Nat) (x3 x4 : Int32) (s : Nat), x4.toInt = (s : Int) → x3.toInt = ((cntB (fun k => decide (tk (1 + g * P + k) = 0)) s : Nat) : Int) → s ≤ len → len - s < k → ∃ r, f_S_freeBlocks_14 N NW bk gB tk k x1 x2 x3 x4 = some r ∧ r.toInt = ((cntB (fun k => decide (tk (1 + g * P + k) = 0)) len : Nat) : Int) := by
  obtain ⟨r1, e1, h1⟩ := firstBlock_eq (NW := NW) hP hP2 hg hg2
  intro k
  induction k with
  | zero => intro x3 x4 s _ _ _ h; omega
  | succ k ih =>
    intro x3 x4 s h4 h3 hs hk
    have hcl := cntB_le (fun k => decide (tk (1 + g * P + k) = 0)) s
    rw [f_S_freeBlocks_14, e1]
    simp only [bd1]
    by_cases c : x2 ≤ x4
    · rw [if_pos c]; rw [le32, h2, h4] at c
      exact ⟨x3, rfl, by rw [show len = s by omega]; exact h3⟩
    · rw [if_neg c]; rw [le32, h2, h4] at c
      rw [isTaken_eq (b := 1 + g * P + s) (by rw [add32 h1 h4 (by omega) (by omega)]; omega) (by omega)]
      simp only [lt1]
      have e4 : (x4 + 1).toInt = ((s + 1 : Nat) : Int) := by rw [add32 (y := 1) h4 (by decide) (by omega) (by omega)]; omega
      by_cases c2 : tk (1 + g * P + s) = 0
      · rw [if_pos c2]
        first | rw [if_pos rfl] | rw [if_pos trivial]
        exact ih (x3 + 1) (x4 + 1) (s + 1) e4 (by rw [cntB, if_pos (by simp [c2]), add32 (y := 1) h3 (by decide) (by omega) (by omega)]; omega) (by omega) (by omega)
      · rw [if_neg c2, if_neg (show ¬ (1 : Int32) = 0 by decide)]
        exact ih x3 (x4 + 1) (s + 1) e4 (by rw [cntB, if_neg (by simp [c2]), h3]; omega) (by omega) (by omega)
theorem freeInodes_loop (hC : CtxD NW sz bk Bk) (hL : CtxL mb gI G M Q) {x1 : Int32} {g : Nat} (hg : x1.toInt = (g : Int)) (hg2 : g < Q) :
    ∀ (k : Nat) (x2 x3 : Int32) (s : Nat), x3.toInt = (s : Int) → x2.toInt = ((cntB (fun k => !mbit wd Bk (1024 * M g + 1024) k) s : Nat) : Int) → s ≤ G → G - s < k → ∃ r, f_S_freeInodes_4 N NW sz wd mb gI k x1 x2 x3 = some r ∧ r.toInt = ((cntB (fun k => !mbit wd Bk (1024 * M g + 1024) k) G : Nat) : Int) := by
  have hgi := hL.1
  have hG2 := hL.2.2.1
  have hm := (hL.2.2.2.2 g hg2).2
  have em : (Int64.ofNat (1024 * M g + 1024)).toInt = ((1024 * M g + 1024 : Nat) : Int) := num64 (by omega)
  intro k
  induction k with
  | zero => intro x2 x3 s _ _ _ h; omega
  | succ k ih =>
    intro x2 x3 s h3 h2 hs hk
    have hcl := cntB_le (fun k => !mbit wd Bk (1024 * M g + 1024) k) s
    rw [f_S_freeInodes_4, inodeMap_eq hL hg hg2]
    simp only [f_L_groupInodes, bd1]
    by_cases c : gI ≤ x3
    · rw [if_pos c]; rw [le32, hgi, h3] at c
      exact ⟨x2, rfl, by rw [show G = s by omega]; exact h2⟩
    · rw [if_neg c]; rw [le32, hgi, h3] at c
      have Bi : f_D_bit NW sz wd (Int64.ofNat (1024 * M g + 1024)) x3 = some (if mbit wd Bk (1024 * M g + 1024) s then 1 else 0) := bit_eq hC em (by omega) h3
      rw [Bi]
      simp only [lt1]
      have e3 : (x3 + 1).toInt = ((s + 1 : Nat) : Int) := by rw [add32 (y := 1) h3 (by decide) (by omega) (by omega)]; omega
      by_cases c2 : mbit wd Bk (1024 * M g + 1024) s = true
      · rw [if_pos c2, if_neg (show ¬ (1 : Int32) = 0 by decide)]
        exact ih x2 (x3 + 1) (s + 1) e3 (by rw [cntB, if_neg (by simp [c2]), h2]; omega) (by omega) (by omega)
      · rw [if_neg c2]
        first | rw [if_pos rfl] | rw [if_pos trivial]
        exact ih (x2 + 1) (x3 + 1) (s + 1) e3 (by rw [cntB, if_pos (by simp [c2]), add32 (y := 1) h2 (by decide) (by omega) (by omega)]; omega) (by omega) (by omega)
theorem add0 (x : Int32) : x + 0 = x := Int32.add_zero x
/-- the directories of a group, counted on both sides -/
theorem dirs_loop (hC : CtxD NW sz bk Bk) (hS : Same dk wd Bk) (hL : CtxL mb gI G M Q) (hM : CtxM mp gg G M Q Bk) {tk kn li pa ins tn oq pq fo ca : Nat → Int32} {cm : Int32} {c : Nat} (hR : TreeR wd Bk G M Q fx tk kn li pa ins tn oq pq fo ca c) (hcm : cm.toInt = (c : Int)) {pp qq x5 : Int32} {g : Nat} (hg : x5.toInt = (g : Int)) {K7 : Int64 → Int64 → Int32 → Option Int32} {x1 x3 : Int64} {x6 x7 : Int32} :
    ∀ (k km p : Nat) (x8 x9 : Int32), x9.toInt = (p : Int) → p ≤ c → c - p < k → c - p < km → ∃ r, f_S_directories_4 N NW sz wd mb gI li cm k x5 x8 x9 = some r ∧ f_M_badCounts_208 N nb dk pp gg qq mp fx tn cm oq K7 km x1 x3 x5 x6 x7 x8 x9 = f_M_badCounts_208 N nb dk pp gg qq mp fx tn cm oq K7 1 x1 x3 x5 x6 x7 r cm := by
  have hQG : Q * G < 4096 := hM.2.2.2.2.2.1
  have hcl := cntK_le kn (Q * G)
  rw [hR.2.2.2.2.1] at hcl
  have z4 : (4096 : Int32).toInt = 4096 := by decide
  have z0 : (0 : Int32).toInt = 0 := by decide
  have hgg : ¬ gg = 0 := by rw [eq32, hM.1, z0]; have := hM.2.1; omega
  intro k
  induction k with
  | zero => intro km p x8 x9 _ _ h; omega
  | succ k ih =>
    intro km p x8 x9 h9 hp hk hkm
    cases km with
    | zero => omega
    | succ km =>
    by_cases c0 : cm ≤ x9
    · refine ⟨x8, by rw [f_S_directories_4, if_pos c0], ?_⟩
      rw [f_M_badCounts_208, f_M_badCounts_208, if_pos c0, if_pos (show cm ≤ cm by rw [le32]; omega)]
    · rw [f_S_directories_4, if_neg c0]
      have eM : f_M_badCounts_208 N nb dk pp gg qq mp fx tn cm oq K7 (km + 1) x1 x3 x5 x6 x7 x8 x9 = if oob x9 4200 then none else bd1 (f_M_typeOf dk gg mp (oq (Int32.toNatClampNeg x9))) (fun (r_16 : Int32) => (if r_16 = ((16384 : Int32)) then if oob x9 4200 then none else if gg = 0 then none else (if (((oq (Int32.toNatClampNeg x9)) - ((1 : Int32))) / gg) = x5 then lt1 (x8 + ((1 : Int32))) (fun (v8_26 : Int32) => lt1 (x9 + (1 : Int32)) (fun (v9_27 : Int32) => (f_M_badCounts_208 N nb dk pp gg qq mp fx tn cm oq K7 km x1 x3 x5 x6 x7 v8_26 v9_27))) else lt1 (x8 + ((0 : Int32))) (fun (v8_24 : Int32) => lt1 (x9 + (1 : Int32)) (fun (v9_25 : Int32) => (f_M_badCounts_208 N nb dk pp gg qq mp fx tn cm oq K7 km x1 x3 x5 x6 x7 v8_24 v9_25)))) else lt1 (x8 + ((0 : Int32))) (fun (v8_19 : Int32) => lt1 (x9 + (1 : Int32)) (fun (v9_20 : Int32) => (f_M_badCounts_208 N nb dk pp gg qq mp fx tn cm oq K7 km x1 x3 x5 x6 x7 v8_19 v9_20))))) := by
        rw [f_M_badCounts_208, if_neg c0]
      rw [eM]
      rw [le32, hcm, h9] at c0
      obtain ⟨i, e1, e2, e3, -⟩ := hR.2.1 p (by omega)
      have e2a := e2.1
      have e2b := e2.2
      have h8 := inR_div e2
      have ho1 : ¬ oob x9 4096 := by rw [oob_iff, h9]; omega
      have ho2 : ¬ oob x9 4200 := by rw [oob_iff, h9]; omega
      rw [if_neg (show ¬ (4096 : Int32) ≤ x9 by rw [le32, h9, z4]; omega)]
      simp only [if_neg ho1, if_neg ho2]
      rw [nn32 h9, e3]
      obtain ⟨rg, eg, hrg⟩ := groupOf_eq (NW := NW) hL e1 e2a
      rw [eg, ctypeOf_eq hC hL e1 e2a h8, mtypeOf_eq hC hS hM e1 e2a h8]
      simp only [bd1, lt1, if_neg hgg, add0]
      have q1 : Int32.ofNat (tyN wd Bk G M i) = 16384 ↔ tyN wd Bk G M i = 16384 := is32 (tyN_lt i) (by decide)
      have q2 : rg = x5 ↔ (i - 1) / G = g := by rw [eq32, hrg, hg]; omega
      have hs : ((li p) - 1).toInt = ((i - 1 : Nat) : Int) := by rw [sub32 (y := 1) e1 (by decide) (by omega) (by omega)]; omega
      have q3 : (li p - 1) / gg = x5 ↔ (i - 1) / G = g := by
        rw [eq32, div32 hs hM.1 (by omega) (by have := hM.2.1; omega), hg]
        constructor
        · intro h; have : (((i - 1) / G : Nat) : Int) = (g : Int) := h; omega
        · intro h; rw [← h]; rfl
      simp only [q1, q2, q3]
      have e9 : (x9 + 1).toInt = ((p + 1 : Nat) : Int) := by rw [add32 (y := 1) h9 (by decide) (by omega) (by omega)]; omega
      by_cases ct : tyN wd Bk G M i = 16384
      · by_cases cg : (i - 1) / G = g
        · simp only [if_pos ct, if_pos cg]
          exact ih km (p + 1) (x8 + 1) (x9 + 1) e9 (by omega) (by omega) (by omega)
        · simp only [if_pos ct, if_neg cg]
          exact ih km (p + 1) x8 (x9 + 1) e9 (by omega) (by omega) (by omega)
      · by_cases cg : (i - 1) / G = g
        · simp only [if_neg ct, if_pos cg]
          exact ih km (p + 1) x8 (x9 + 1) e9 (by omega) (by omega) (by omega)
        · simp only [if_neg ct, if_neg cg]
          exact ih km (p + 1) x8 (x9 + 1) e9 (by omega) (by omega) (by omega)
end MA
