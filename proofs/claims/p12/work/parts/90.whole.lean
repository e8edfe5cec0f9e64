/-! an inode that is whole, on both sides -/
section WH
variable {N NW Bk : Nat} {sz bk nb : Int32} {wd : Nat → Int64} {dk : Nat → Int32} {mb mp : Nat → Int32} {gI gg : Int32} {G : Nat} {M : Nat → Nat} {Q : Nat} {fx : Nat → Int32}
def TK (tk fx tn : Nat → Int32) : Prop := ∀ b, b < 512 → (tk b = 0 ↔ fx b = 0 ∧ tn b = 0)
def InB (Bk v : Nat) : Prop := 1 ≤ v ∧ v < Bk
def WholeF (wd : Nat → Int64) (Bk G : Nat) (M : Nat → Nat) (i : Nat) : Prop := szN wd Bk G M i ≤ 1024 * Bk ∧ PtrOK wd Bk (ipl G M i) ((szN wd Bk G M i + 1023) / 1024) ∧ ∀ b, b < (szN wd Bk G M i + 1023) / 1024 → InB Bk (blN wd Bk G M i b)
theorem take_sim (hC : CtxD NW sz bk Bk) (hnb : nb = bk) {tk tn : Nat → Int32} (hT : TK tk fx tn) {v : Nat} (hv : v < 4294967296) :
    (f_S_take NW bk tk (Int64.ofNat v) = some (0, tk) ∧ f_M_takes nb fx tn (Int64.ofNat v) = some (0, tn)) ∨ (InB Bk v ∧ ∃ tk' tn', f_S_take NW bk tk (Int64.ofNat v) = some (1, tk') ∧ f_M_takes nb fx tn (Int64.ofNat v) = some (1, tn') ∧ TK tk' fx tn') := by
  subst hnb
  obtain ⟨-, -, hbk, hB, hB2⟩ := hC
  have e : (Int64.ofNat v).toInt = (v : Int) := num64 (by omega)
  have z1 : (1 : Int64).toInt = 1 := by decide
  have e1 : (Int32.toInt64 nb).toInt = (Bk : Int) := ext3264 hbk
  have z512 : (Int32.toInt64 512).toInt = 512 := by decide
  unfold f_S_take f_M_takes f_D_blocks
  simp only [bd1]
  by_cases c1 : v < 1
  · left
    have c : Int64.ofNat v < 1 := by rw [lt64, e, z1]; omega
    rw [if_pos c, if_pos c]; exact ⟨rfl, rfl⟩
  have c : ¬ Int64.ofNat v < 1 := by rw [lt64, e, z1]; omega
  rw [if_neg c, if_neg c]
  by_cases c2 : Bk ≤ v
  · left
    have c : Int32.toInt64 nb ≤ Int64.ofNat v := by rw [le64, e, e1]; omega
    rw [if_pos c, if_pos c]; exact ⟨rfl, rfl⟩
  have c : ¬ Int32.toInt64 nb ≤ Int64.ofNat v := by rw [le64, e, e1]; omega
  rw [if_neg c, if_neg c, if_pos (by rw [lt64, e, z512]; omega)]
  have ec : (Int64.ofNat v).toInt32.toInt = (v : Int) := cut6432 e (by omega) (by omega)
  have ho : ¬ oob (Int64.ofNat v).toInt32 512 := by rw [oob_iff, ec]; omega
  simp only [lt1]
  simp only [if_neg ho]
  rw [nn32 ec, nar_bool1]
  have hv := hT v (by omega)
  by_cases c3 : tk v = 0
  · right
    obtain ⟨f1, f2⟩ := hv.mp c3
    rw [if_pos c3, if_pos f1, if_pos f2]
    refine ⟨⟨by omega, by omega⟩, _, _, rfl, rfl, ?_⟩
    intro b hb
    by_cases eb : b = v
    · subst eb
      rw [upd_at, upd_at]
      constructor
      · intro h; exact absurd h (by decide)
      · intro h; exact absurd h.2 (by decide)
    · rw [upd_ne _ _ _ eb, upd_ne _ _ _ eb]; exact hT b hb
  · left
    rw [if_neg c3]
    refine ⟨rfl, ?_⟩
    by_cases f1 : fx v = 0
    · rw [if_pos f1, if_neg (fun f2 => c3 (hv.mpr ⟨f1, f2⟩))]
    · rw [if_neg f1]
theorem mbad_313 {tn : Nat → Int32} {x1 x2 x6 : Int32} : ∀ k, f_M_isWhole_313 N nb dk gg mp fx (k + 1) tn x1 x2 0 x6 = some (0, tn) := by
  intro k
  rw [f_M_isWhole_313]
  by_cases c : x2 ≤ x6
  · rw [if_pos c, if_pos is01_0]
  · rw [if_neg c, if_pos rfl, if_pos is01_0]
theorem mbad_266 (hN : 1 ≤ N) {tn : Nat → Int32} {x1 x2 x3 x6 : Int32} : ∀ k, f_M_isWhole_266 N nb dk gg mp fx (k + 1) tn x1 x2 x3 0 x6 = some (0, tn) := by
  intro k
  obtain ⟨m, e⟩ : ∃ m, N = m + 1 := ⟨N - 1, by omega⟩
  have h : f_M_isWhole_313 N nb dk gg mp fx N tn x1 x2 0 0 = some (0, tn) := by
    conv => lhs; arg 7; rw [e]
    exact mbad_313 m
  rw [f_M_isWhole_266]
  by_cases c : x3 ≤ x6
  · rw [if_pos c, h]
  · rw [if_neg c, if_pos rfl, h]
theorem mbad_213 (hN : 1 ≤ N) {tn : Nat → Int32} {x1 x2 x3 : Int32} : f_M_isWhole_213 N nb dk gg mp fx tn x1 x2 x3 0 = some (0, tn) := by
  obtain ⟨m, e⟩ : ∃ m, N = m + 1 := ⟨N - 1, by omega⟩
  unfold f_M_isWhole_213
  first | rw [if_pos rfl] | rw [if_pos trivial]
  conv => lhs; arg 7; rw [e]
  exact mbad_266 hN m
theorem mbad_131 (hN : 1 ≤ N) {tn : Nat → Int32} {x1 x2 x3 : Int32} : ∀ (k : Nat) (x6 : Int32) (i : Nat), x6.toInt = (i : Int) → 12 - i < k → i < 100000 → f_M_isWhole_131 N nb dk gg mp fx k tn x1 x2 x3 0 x6 = some (0, tn) := by
  have z : (12 : Int32).toInt = 12 := by decide
  intro k
  induction k with
  | zero => intro x6 i _ h; omega
  | succ k ih =>
    intro x6 i h6 hk hi
    rw [f_M_isWhole_131]
    by_cases c : (12 : Int32) ≤ x6
    · rw [if_pos c, if_pos rfl]; exact mbad_213 hN
    · rw [if_neg c, if_pos rfl]; rw [le32, h6, z] at c
      simp only [lt1]
      exact ih (x6 + 1) (i + 1) (by rw [add32 (y := 1) h6 (by decide) (by omega) (by omega)]; omega) (by omega) (by omega)
def SpareD (wd : Nat → Int64) (Bk p n : Nat) : Prop := ∀ k, n ≤ k → k < 12 → n4 wd Bk (p + 40 + 4 * k) = 0
def SpareOK (wd : Nat → Int64) (Bk p n : Nat) : Prop := SpareD wd Bk p n ∧ (12 < n ∨ n4 wd Bk (p + 88) = 0) ∧ (268 < n ∨ n4 wd Bk (p + 92) = 0) ∧ n4 wd Bk (p + 96) = 0
theorem spareD_next {p n : Nat} (h : n < 12) : SpareD wd Bk p n ↔ n4 wd Bk (p + 40 + 4 * n) = 0 ∧ SpareD wd Bk p (n + 1) := by
  constructor
  · intro s; exact ⟨s n (Nat.le_refl _) h, fun k h1 h2 => s k (by omega) h2⟩
  · intro s k h1 h2
    by_cases e : k = n
    · subst e; exact s.1
    · exact s.2 k (by omega) h2
theorem m131 (hC : CtxD NW sz bk Bk) (hS : Same dk wd Bk) (hM : CtxM mp gg G M Q Bk) (hN : 20 ≤ N) {x1 : Int32} {i : Nat} (hi : x1.toInt = (i : Int)) (h1 : 1 ≤ i) (h8 : (i - 1) / G < Q) {tn : Nat → Int32} {x2 x3 : Int32} :
    ∀ (k : Nat) (x6 : Int32) (j : Nat), x6.toInt = (j : Int) → 12 - j < k → j < 100000 → (SpareD wd Bk (ipl G M i) j ∧ f_M_isWhole_131 N nb dk gg mp fx k tn x1 x2 x3 1 x6 = f_M_isWhole_131 N nb dk gg mp fx 1 tn x1 x2 x3 1 12) ∨ (¬ SpareD wd Bk (ipl G M i) j ∧ f_M_isWhole_131 N nb dk gg mp fx k tn x1 x2 x3 1 x6 = some (0, tn)) := by
  have z : (12 : Int32).toInt = 12 := by decide
  intro k
  induction k with
  | zero => intro x6 j _ h; omega
  | succ k ih =>
    intro x6 j h6 hk hj
    by_cases c : (12 : Int32) ≤ x6
    · left
      refine ⟨?_, ?_⟩
      · rw [le32, h6, z] at c
        intro k h1 h2; omega
      · rw [f_M_isWhole_131, f_M_isWhole_131, if_pos c, if_pos (show (12 : Int32) ≤ 12 by decide)]
    · rw [f_M_isWhole_131, if_neg c, if_neg (by decide)]; rw [le32, h6, z] at c
      rw [mpointer_eq hC hS hM hi h1 h8 h6 (by omega)]
      simp only [bd1]
      have hv := n4_lt wd Bk (ipl G M i + 40 + 4 * j)
      have e6 : (x6 + 1).toInt = ((j + 1 : Nat) : Int) := by rw [add32 (y := 1) h6 (by decide) (by omega) (by omega)]; omega
      by_cases c0 : n4 wd Bk (ipl G M i + 40 + 4 * j) = 0
      · rw [if_pos (by rw [c0]; rfl)]
        simp only [lt1]
        rcases ih (x6 + 1) (j + 1) e6 (by omega) (by omega) with ⟨s, e⟩ | ⟨s, e⟩
        · exact Or.inl ⟨(spareD_next (by omega)).mpr ⟨c0, s⟩, e⟩
        · exact Or.inr ⟨fun h => s ((spareD_next (by omega)).mp h).2, e⟩
      · rw [if_neg (fun h => c0 ((zero64_iff (by omega)).mp h))]
        simp only [lt1]
        exact Or.inr ⟨fun h => c0 ((spareD_next (by omega)).mp h).1, mbad_131 (by omega) k (x6 + 1) (j + 1) e6 (by omega) (by omega)⟩
theorem spare_loop (hC : CtxD NW sz bk Bk) {x2 : Int32} {x3 : Int64} {n p : Nat} (h2 : x2.toInt = (n : Int)) (h3 : x3.toInt = (p : Int)) (hp : p < 1000000000) :
    ∀ (k : Nat) (x5 : Int32) (j : Nat), x5.toInt = (j : Int) → 12 - j < k → j < 100000 → ∃ r, f_S_spareAreZero_12 N NW sz wd mb gI k x2 x3 x5 = some r ∧ B01 r (SpareD wd Bk p j ∧ (12 < n ∨ n4 wd Bk (p + 88) = 0) ∧ (268 < n ∨ n4 wd Bk (p + 92) = 0) ∧ n4 wd Bk (p + 96) = 0) := by
  have z : (12 : Int32).toInt = 12 := by decide
  have z2 : (268 : Int32).toInt = 268 := by decide
  have n88 := number_n4 (wd := wd) hC (a1 := x3 + 88) (a := p + 88) (by rw [add64 (y := 88) h3 (by decide) (by omega) (by omega)]; omega)
  have n92 := number_n4 (wd := wd) hC (a1 := x3 + 92) (a := p + 92) (by rw [add64 (y := 92) h3 (by decide) (by omega) (by omega)]; omega)
  have n96 := number_n4 (wd := wd) hC (a1 := x3 + 96) (a := p + 96) (by rw [add64 (y := 96) h3 (by decide) (by omega) (by omega)]; omega)
  have hz : ∀ a, (Int64.ofNat (n4 wd Bk a) = 0 ↔ n4 wd Bk a = 0) := fun a => zero64_iff (by have := n4_lt wd Bk a; omega)
  intro k
  induction k with
  | zero => intro x5 j _ h; omega
  | succ k ih =>
    intro x5 j h5 hk hj
    rw [f_S_spareAreZero_12]
    by_cases c : (12 : Int32) ≤ x5
    · rw [if_pos c]; rw [le32, h5, z] at c
      have hs : SpareD wd Bk p j := fun k h1 h2 => by omega
      have e100 : ∃ r, f_S_spareAreZero_100 N NW sz wd mb gI x3 = some r ∧ B01 r (n4 wd Bk (p + 96) = 0) := by
        unfold f_S_spareAreZero_100
        rw [n96]
        simp only [bd1, hz]
        by_cases q : n4 wd Bk (p + 96) = 0
        · rw [if_pos q]; exact ⟨1, rfl, Or.inl ⟨rfl, q⟩⟩
        · rw [if_neg q]; exact ⟨0, rfl, Or.inr ⟨rfl, q⟩⟩
      have e75 : ∃ r, f_S_spareAreZero_75 N NW sz wd mb gI x2 x3 = some r ∧ B01 r ((268 < n ∨ n4 wd Bk (p + 92) = 0) ∧ n4 wd Bk (p + 96) = 0) := by
        obtain ⟨r, e, h⟩ := e100
        unfold f_S_spareAreZero_75
        have q2 : (268 : Int32) < x2 ↔ 268 < n := by rw [lt32, h2, z2]; omega
        rw [n92]
        simp only [bd1, hz, q2]
        by_cases q : 268 < n
        · rw [if_pos q]
          refine ⟨r, e, ?_⟩
          rcases h with ⟨a, b⟩ | ⟨a, b⟩
          · exact Or.inl ⟨a, Or.inl q, b⟩
          · exact Or.inr ⟨a, fun hh => b hh.2⟩
        · rw [if_neg q]
          by_cases q3 : n4 wd Bk (p + 92) = 0
          · rw [if_pos q3]
            refine ⟨r, e, ?_⟩
            rcases h with ⟨a, b⟩ | ⟨a, b⟩
            · exact Or.inl ⟨a, Or.inr q3, b⟩
            · exact Or.inr ⟨a, fun hh => b hh.2⟩
          · rw [if_neg q3]
            exact ⟨0, rfl, Or.inr ⟨rfl, fun hh => hh.1.elim q q3⟩⟩
      obtain ⟨r, e, h⟩ := e75
      have q2 : (12 : Int32) < x2 ↔ 12 < n := by rw [lt32, h2, z]; omega
      rw [n88]
      simp only [bd1, hz, q2]
      by_cases q : 12 < n
      · rw [if_pos q]
        refine ⟨r, e, ?_⟩
        rcases h with ⟨a, b⟩ | ⟨a, b⟩
        · exact Or.inl ⟨a, hs, Or.inl q, b⟩
        · exact Or.inr ⟨a, fun hh => b hh.2.2⟩
      · rw [if_neg q]
        by_cases q3 : n4 wd Bk (p + 88) = 0
        · rw [if_pos q3]
          refine ⟨r, e, ?_⟩
          rcases h with ⟨a, b⟩ | ⟨a, b⟩
          · exact Or.inl ⟨a, hs, Or.inr q3, b⟩
          · exact Or.inr ⟨a, fun hh => b hh.2.2⟩
        · rw [if_neg q3]
          exact ⟨0, rfl, Or.inr ⟨rfl, fun hh => hh.2.1.elim q q3⟩⟩
    · rw [if_neg c]; rw [le32, h5, z] at c
      rw [number_n4 hC (a := p + 40 + 4 * j) (by rw [add64 (add64 (y := 40) h3 (by decide) (by omega) (by omega)) (ext3264 (mul32 (x := 4) (by decide) h5 (by omega) (by omega))) (by omega) (by omega)]; omega)]
      simp only [bd1, hz]
      by_cases c0 : n4 wd Bk (p + 40 + 4 * j) = 0
      · rw [if_pos c0]
        simp only [lt1]
        obtain ⟨r, e, h⟩ := ih (x5 + 1) (j + 1) (by rw [add32 (y := 1) h5 (by decide) (by omega) (by omega)]; omega) (by omega) (by omega)
        refine ⟨r, e, ?_⟩
        rcases h with ⟨a, b⟩ | ⟨a, b⟩
        · exact Or.inl ⟨a, (spareD_next (by omega)).mpr ⟨c0, b.1⟩, b.2⟩
        · exact Or.inr ⟨a, fun hh => b ⟨((spareD_next (by omega)).mp hh.1).2, hh.2⟩⟩
      · rw [if_neg c0]
        exact ⟨0, rfl, Or.inr ⟨rfl, fun hh => c0 ((spareD_next (by omega)).mp hh.1).1⟩⟩
theorem blocks_sim (hC : CtxD NW sz bk Bk) (hnb : nb = bk) (hS : Same dk wd Bk) (hL : CtxL mb gI G M Q) (hM : CtxM mp gg G M Q Bk) {x1 x4 : Int32} {i n : Nat} (hi : x1.toInt = (i : Int)) (h1 : 1 ≤ i) (h8 : (i - 1) / G < Q) (h4 : x4.toInt = (n : Int)) (hn : n < 60000) (hp : PtrOK wd Bk (ipl G M i) n) :
    ∀ (k km : Nat) (tk tn : Nat → Int32) (x9 : Int32) (b : Nat), x9.toInt = (b : Int) → b ≤ n → n - b < k → n - b < km → TK tk fx tn → ∃ r tk' tn', f_S_takeWhole_241 N NW bk sz wd mb gI k tk x1 x4 x9 = some (r, tk') ∧ f_M_isWhole_313 N nb dk gg mp fx km tn x1 x4 1 x9 = some (r, tn') ∧ (r = 0 ∨ (r = 1 ∧ TK tk' fx tn' ∧ ∀ c, b ≤ c → c < n → InB Bk (blN wd Bk G M i c))) := by
  intro k
  induction k with
  | zero => intro km tk tn x9 b _ _ h; omega
  | succ k ih =>
    intro km tk tn x9 b h9 hb hk hkm hT
    cases km with
    | zero => omega
    | succ km =>
    rw [f_S_takeWhole_241, f_M_isWhole_313]
    by_cases c : x4 ≤ x9
    · rw [if_pos c, if_pos c, if_pos is01_1]; rw [le32, h4, h9] at c
      exact ⟨1, tk, tn, rfl, rfl, Or.inr ⟨rfl, hT, fun d h1 h2 => by omega⟩⟩
    · rw [if_neg c, if_neg c, if_neg (by decide)]; rw [le32, h4, h9] at c
      rw [blockOf_eq hC hL hi h1 h8 h9 (by omega), mblockOf_eq hC hS hM hi h1 h8 h9 (n := n) (by omega) hn hp]
      simp only [bd1]
      have hv : blN wd Bk G M i b < 4294967296 := by
        unfold blN blkN
        by_cases q1 : b < 12
        · rw [if_pos q1]; exact n4_lt _ _ _
        · rw [if_neg q1]
          by_cases q2 : b < 268
          · rw [if_pos q2]; exact n4_lt _ _ _
          · rw [if_neg q2]; exact n4_lt _ _ _
      have e9 : (x9 + 1).toInt = ((b + 1 : Nat) : Int) := by rw [add32 (y := 1) h9 (by decide) (by omega) (by omega)]; omega
      change ∃ r tk' tn', bd2 (f_S_take NW bk tk (Int64.ofNat (blN wd Bk G M i b))) _ = _ ∧ _
      rcases take_sim (fx := fx) hC hnb hT hv with ⟨e1, e2⟩ | ⟨hin, tk1, tn1, e1, e2, hT1⟩
      · rw [e1, e2]
        simp only [bd2]
        first | rw [if_pos rfl] | rw [if_pos trivial]
        refine ⟨0, tk, tn, rfl, ?_, Or.inl rfl⟩
        simp only [lt1]
        cases km with
        | zero => omega
        | succ km => exact mbad_313 km
      · rw [e1, e2]
        simp only [bd2, lt1]
        rw [if_neg (by decide)]
        obtain ⟨r, tk', tn', f1, f2, f3⟩ := ih km tk1 tn1 (x9 + 1) (b + 1) e9 (by omega) (by omega) (by omega) hT1
        refine ⟨r, tk', tn', f1, f2, ?_⟩
        rcases f3 with f3 | ⟨g1, g2, g3⟩
        · exact Or.inl f3
        · refine Or.inr ⟨g1, g2, fun d d1 d2 => ?_⟩
          by_cases ed : d = b
          · subst ed; exact hin
          · exact g3 d (by omega) d2
theorem far_sim (hC : CtxD NW sz bk Bk) (hnb : nb = bk) (hS : Same dk wd Bk) (hL : CtxL mb gI G M Q) (hM : CtxM mp gg G M Q Bk) {x1 x4 x5 : Int32} {i n F : Nat} (hi : x1.toInt = (i : Int)) (h1 : 1 ≤ i) (h8 : (i - 1) / G < Q) (h4 : x4.toInt = (n : Int)) (hn : n < 60000) (h5 : x5.toInt = (F : Int)) (hF : F = if 268 < n then (n - 268 + 255) / 256 else 0) (hp1 : 12 < n → InB Bk (n4 wd Bk (ipl G M i + 88))) (hp2 : 268 < n → InB Bk (n4 wd Bk (ipl G M i + 92))) (hN : 60001 ≤ N) :
    ∀ (k km : Nat) (tk tn : Nat → Int32) (x9 : Int32) (j : Nat), x9.toInt = (j : Int) → j ≤ F → F - j < k → F - j < km → TK tk fx tn → (∀ t, t < j → InB Bk (n4 wd Bk (1024 * n4 wd Bk (ipl G M i + 92) + 4 * t))) → ∃ r tk' tn', f_S_takeWhole_196 N NW bk sz wd mb gI k tk x1 x4 x5 (Int64.ofNat (n4 wd Bk (ipl G M i + 92))) x9 = some (r, tk') ∧ f_M_isWhole_266 N nb dk gg mp fx km tn x1 x4 x5 1 x9 = some (r, tn') ∧ (r = 0 ∨ (r = 1 ∧ TK tk' fx tn' ∧ PtrOK wd Bk (ipl G M i) n ∧ ∀ c, c < n → InB Bk (blN wd Bk G M i c))) := by
  have hB2 := hC.2.2.2.2
  have hq := n4_lt wd Bk (ipl G M i + 92)
  have hFn : F < 60000 := by
    by_cases c : 268 < n
    · rw [if_pos c] at hF; omega
    · rw [if_neg c] at hF; omega
  intro k
  induction k with
  | zero => intro km tk tn x9 b _ _ h; omega
  | succ k ih =>
    intro km tk tn x9 j h9 hj hk hkm hT hdone
    cases km with
    | zero => omega
    | succ km =>
    rw [f_S_takeWhole_196, f_M_isWhole_266]
    by_cases c : x5 ≤ x9
    · rw [if_pos c, if_pos c]; rw [le32, h5, h9] at c
      have hp : PtrOK wd Bk (ipl G M i) n := by
        refine ⟨hp1, fun h => ⟨hp2 h, fun t ht => ?_⟩⟩
        rw [if_pos h] at hF
        exact hdone t (by omega)
      obtain ⟨r, tk', tn', f1, f2, f3⟩ := blocks_sim (N := N) (fx := fx) hC hnb hS hL hM hi h1 h8 h4 hn hp N N tk tn 0 0 (by decide) (by omega) (by omega) (by omega) hT
      refine ⟨r, tk', tn', f1, f2, ?_⟩
      rcases f3 with f3 | ⟨g1, g2, g3⟩
      · exact Or.inl f3
      · exact Or.inr ⟨g1, g2, hp, fun c hc => g3 c (by omega) hc⟩
    · rw [if_neg c, if_neg c, if_neg (by decide)]; rw [le32, h5, h9] at c
      have h268 : 268 < n := by
        by_cases q : 268 < n
        · exact q
        · rw [if_neg q] at hF; omega
      have hjF : j < (n - 268 + 255) / 256 := by rw [if_pos h268] at hF; omega
      obtain ⟨b1, b2⟩ := hp2 h268
      rw [mpointer_eq hC hS hM (k := 13) hi h1 h8 (by decide) (by omega)]
      simp only [bd1]
      rw [show ipl G M i + 40 + 4 * 13 = ipl G M i + 92 by omega]
      have hv := n4_lt wd Bk (1024 * n4 wd Bk (ipl G M i + 92) + 4 * j)
      rw [number_n4 hC (a := 1024 * n4 wd Bk (ipl G M i + 92) + 4 * j) (by
        rw [add64 (mul64 (x := 1024) (by decide) (num64 (by omega)) (by omega) (by omega)) (ext3264 (mul32 (x := 4) (by decide) h9 (by omega) (by omega))) (by omega) (by omega)]; omega)]
      rw [four_n4 hC hS (a := 1024 * n4 wd Bk (ipl G M i + 92) + 4 * j) (by
        rw [add32 (mul32 (x := 1024) (by decide) (cut6432 (num64 (by omega)) (by omega) (by omega)) (by omega) (by omega)) (mul32 (x := 4) (by decide) h9 (by omega) (by omega)) (by omega) (by omega)]; omega) (by omega)]
      simp only []
      have e9 : (x9 + 1).toInt = ((j + 1 : Nat) : Int) := by rw [add32 (y := 1) h9 (by decide) (by omega) (by omega)]; omega
      rcases take_sim (fx := fx) hC hnb hT hv with ⟨e1, e2⟩ | ⟨hin, tk1, tn1, e1, e2, hT1⟩
      · rw [e1, e2]
        simp only [bd2]
        first | rw [if_pos rfl] | rw [if_pos trivial]
        refine ⟨0, tk, tn, rfl, ?_, Or.inl rfl⟩
        simp only [lt1]
        cases km with
        | zero => omega
        | succ km => exact mbad_266 (by omega) km
      · rw [e1, e2]
        simp only [bd2, lt1]
        rw [if_neg (by decide)]
        exact ih km tk1 tn1 (x9 + 1) (j + 1) e9 (by omega) (by omega) (by omega) hT1 (fun t ht => by
          by_cases et : t = j
          · subst et; exact hin
          · exact hdone t (by omega))
/-- behind the 13th pointer -/
theorem outer_sim (hC : CtxD NW sz bk Bk) (hnb : nb = bk) (hS : Same dk wd Bk) (hL : CtxL mb gI G M Q) (hM : CtxM mp gg G M Q Bk) {x1 x4 x5 : Int32} {i n F : Nat} (hi : x1.toInt = (i : Int)) (h1 : 1 ≤ i) (h8 : (i - 1) / G < Q) (h4 : x4.toInt = (n : Int)) (hn : n < 60000) (h5 : x5.toInt = (F : Int)) (hF : F = if 268 < n then (n - 268 + 255) / 256 else 0) (hp1 : 12 < n → InB Bk (n4 wd Bk (ipl G M i + 88))) (hz : 268 < n ∨ n4 wd Bk (ipl G M i + 92) = 0) (hN : 60001 ≤ N) {tk tn : Nat → Int32} (hT : TK tk fx tn) :
    ∃ r tk' tn', f_S_takeWhole_161 N NW bk sz wd mb gI tk x1 x4 x5 = some (r, tk') ∧ f_M_isWhole_213 N nb dk gg mp fx tn x1 x4 x5 1 = some (r, tn') ∧ (r = 0 ∨ (r = 1 ∧ TK tk' fx tn' ∧ PtrOK wd Bk (ipl G M i) n ∧ ∀ c, c < n → InB Bk (blN wd Bk G M i c))) := by
  have z2 : (268 : Int32).toInt = 268 := by decide
  have hFn : F < 60000 := by
    by_cases c : 268 < n
    · rw [if_pos c] at hF; omega
    · rw [if_neg c] at hF; omega
  have hv := n4_lt wd Bk (ipl G M i + 92)
  unfold f_S_takeWhole_161 f_M_isWhole_213
  rw [if_neg (by decide), field_eq hC hL hi h1 h8 (at' := 92) (n := 4) (by decide) (by omega) (by decide) (by omega) (by omega), mpointer_eq hC hS hM (k := 13) hi h1 h8 (by decide) (by omega)]
  simp only [bd1]
  rw [show ipl G M i + 40 + 4 * 13 = ipl G M i + 92 by omega]
  change ∃ r tk' tn', (if x4 ≤ 268 then f_S_takeWhole_196 N NW bk sz wd mb gI N tk x1 x4 x5 (Int64.ofNat (n4 wd Bk (ipl G M i + 92))) 0 else bd2 (f_S_take NW bk tk (Int64.ofNat (n4 wd Bk (ipl G M i + 92)))) _) = _ ∧ _
  by_cases c : x4 ≤ 268
  · rw [if_pos c, if_pos c]; rw [le32, h4, z2] at c
    rw [if_pos (by rw [hz.resolve_left (by omega)]; rfl)]
    exact far_sim hC hnb hS hL hM hi h1 h8 h4 hn h5 hF hp1 (fun h => by omega) hN N N tk tn 0 0 (by decide) (by omega) (by omega) (by omega) hT (fun t ht => by omega)
  · rw [if_neg c, if_neg c]; rw [le32, h4, z2] at c
    rcases take_sim (fx := fx) hC hnb hT hv with ⟨e1, e2⟩ | ⟨hin, tk1, tn1, e1, e2, hT1⟩
    · rw [e1, e2]
      simp only [bd2]
      first | rw [if_pos rfl, if_pos rfl] | rw [if_pos trivial, if_pos trivial]
      refine ⟨0, tk, tn, rfl, ?_, Or.inl rfl⟩
      obtain ⟨m, e⟩ : ∃ m, N = m + 1 := ⟨N - 1, by omega⟩
      conv => lhs; arg 7; rw [e]
      exact mbad_266 (by omega) m
    · rw [e1, e2]
      simp only [bd2]
      rw [if_neg (by decide), if_neg (by decide)]
      exact far_sim hC hnb hS hL hM hi h1 h8 h4 hn h5 hF hp1 (fun _ => hin) hN N N tk1 tn1 0 0 (by decide) (by omega) (by omega) (by omega) hT1 (fun t ht => by omega)
end WH
