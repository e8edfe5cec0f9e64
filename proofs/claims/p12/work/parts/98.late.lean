/-! faults 6 and 7, on both sides -/
section LA
variable {N NW Bk : Nat} {sz bk nb : Int32} {wd : Nat → Int64} {dk : Nat → Int32} {mb mp : Nat → Int32} {gI gg : Int32} {G : Nat} {M : Nat → Nat} {Q : Nat} {fx : Nat → Int32}
theorem due_iff {v : Nat} (hv : v < 65536) (s : Int32) : (Int64.ofNat v = Int32.toInt64 s ↔ Int32.ofNat v = s) := by
  rw [eq64, eq32, num64 (by omega), ext3264 rfl, lit32 _ (by omega)]
theorem links_loop (hC : CtxD NW sz bk Bk) (hS : Same dk wd Bk) (hL : CtxL mb gI G M Q) (hM : CtxM mp gg G M Q Bk) {tk kn li pa ins tn oq pq fo ca : Nat → Int32} {cm : Int32} {c : Nat} (hR : TreeR wd Bk G M Q fx tk kn li pa ins tn oq pq fo ca c) (hcm : cm.toInt = (c : Int)) :
    ∀ (k km p : Nat) (x1 : Int32), x1.toInt = (p : Int) → p ≤ c → c - p < k → c - p < km → ∃ r, f_S_linksStand_2 N NW sz wd mb gI li ins cm k x1 = some r ∧ f_M_badLinks_2 N dk gg mp cm oq fo km x1 = some (1 - r) ∧ (r = 0 ∨ r = 1) := by
  have hB2 := hC.2.2.2.2
  have hQG : Q * G < 4096 := hM.2.2.2.2.2.1
  have z4 : (4096 : Int32).toInt = 4096 := by decide
  intro k
  induction k with
  | zero => intro km p x1 _ _ h; omega
  | succ k ih =>
    intro km p x1 h1 hpc hk hkm
    cases km with
    | zero => omega
    | succ km =>
    rw [f_S_linksStand_2, f_M_badLinks_2]
    by_cases c0 : cm ≤ x1
    · rw [if_pos c0, if_pos c0]
      exact ⟨1, rfl, rfl, Or.inr rfl⟩
    · rw [if_neg c0, if_neg c0]; rw [le32, hcm, h1] at c0
      have hcl := cntK_le kn (Q * G)
      rw [hR.2.2.2.2.1] at hcl
      obtain ⟨i, e1, e2, e3, e4, e5, e6, -⟩ := hR.2.1 p (by omega)
      have e2a := e2.1
      have e2b := e2.2
      have ho1 : ¬ oob x1 4096 := by rw [oob_iff, h1]; omega
      have ho2 : ¬ oob x1 4200 := by rw [oob_iff, h1]; omega
      have ho3 : ¬ oob (li p) 4200 := by rw [oob_iff, e1]; omega
      have h8 := inR_div e2
      have hin := ipl_in hM h8
      rw [if_neg (show ¬ (4096 : Int32) ≤ x1 by rw [le32, h1, z4]; omega)]
      simp only [if_neg ho1, if_neg ho2, lt1]
      rw [nn32 h1, e3]
      simp only [if_neg ho3]
      obtain ⟨rp, ep, hp⟩ := minodeAt_eq hB2 hM e1 e2a h8
      rw [ctypeOf_eq hC hL e1 e2a h8, mtypeOf_eq hC hS hM e1 e2a h8, ep]
      simp only [bd1]
      rw [two_n2 hC hS (a := ipl G M i + 26) (by rw [add32 (y := 26) hp (by decide) (by omega) (by omega)]; omega) (by omega)]
      simp only []
      have q1 : Int32.ofNat (tyN wd Bk G M i) = 16384 ↔ tyN wd Bk G M i = 16384 := is32 (tyN_lt i) (by decide)
      simp only [q1]
      have ex1 : (x1 + 1).toInt = ((p + 1 : Nat) : Int) := by rw [add32 (y := 1) h1 (by decide) (by omega) (by omega)]; omega
      have F26 : f_L_field NW sz wd mb gI (li p) 26 2 = some (Int64.ofNat (n2 wd Bk (ipl G M i + 26))) := field_eq hC hL e1 e2a h8 (at' := 26) (n := 2) (by decide) (by omega) (by decide) (by omega) (by omega)
      have step : ∀ s : Int32, ∃ r, f_S_linksStand_50 N NW sz wd mb gI li ins cm (f_S_linksStand_2 N NW sz wd mb gI li ins cm k) x1 s = some r ∧ f_M_badLinks_52 N dk gg mp cm oq fo (f_M_badLinks_2 N dk gg mp cm oq fo km) x1 (Int32.ofNat (n2 wd Bk (ipl G M i + 26))) s = some (1 - r) ∧ (r = 0 ∨ r = 1) := by
        intro s
        unfold f_S_linksStand_50 f_M_badLinks_52
        rw [if_neg ho1, nn32 h1, F26]
        simp only [bd1, lt1]
        have qs := due_iff (n2_lt wd Bk (ipl G M i + 26)) s
        simp only [qs]
        by_cases cs : Int32.ofNat (n2 wd Bk (ipl G M i + 26)) = s
        · rw [if_pos cs, if_pos cs]
          exact ih km (p + 1) (x1 + 1) ex1 (by omega) (by omega) (by omega)
        · rw [if_neg cs, if_neg cs]
          exact ⟨0, rfl, rfl, Or.inl rfl⟩
      by_cases ct : tyN wd Bk G M i = 16384
      · rw [if_pos ct, if_pos ct, nn32 e1, e6]
        exact step _
      · rw [if_neg ct, if_neg ct]
        exact step _
theorem links_sim (hC : CtxD NW sz bk Bk) (hS : Same dk wd Bk) (hL : CtxL mb gI G M Q) (hM : CtxM mp gg G M Q Bk) (hN : 5000 ≤ N) {tk kn li pa ins tn oq pq fo ca : Nat → Int32} {cm : Int32} {c : Nat} (hR : TreeR wd Bk G M Q fx tk kn li pa ins tn oq pq fo ca c) (hcm : cm.toInt = (c : Int)) :
    ∃ r, f_S_linksStand N NW sz wd mb gI li ins cm = some r ∧ f_M_badLinks N dk gg mp cm oq fo = some (1 - r) ∧ (r = 0 ∨ r = 1) := by
  have hQG : Q * G < 4096 := hM.2.2.2.2.2.1
  have hcl := cntK_le kn (Q * G)
  rw [hR.2.2.2.2.1] at hcl
  exact links_loop hC hS hL hM hR hcm N N 0 0 (by decide) (by omega) (by omega) (by omega)
def BlankFrom (wd : Nat → Int64) (Bk p s : Nat) : Prop := ∀ x, s ≤ x → x < 128 → b1 wd Bk (p + x) = 0
theorem word0_iff {a : Nat} (h : a + 8 ≤ 1024 * Bk) : nu wd Bk ((a : Nat) : Int) 8 = 0 ↔ ∀ t, t < 8 → b1 wd Bk (a + t) = 0 := by
  rw [nu8_split h, all8]
  rw [show a + 0 = a from rfl]
  omega
theorem blank_loop (hC : CtxD NW sz bk Bk) {x2 : Int64} {p : Nat} (h2 : x2.toInt = (p : Int)) (hin : p + 128 ≤ 1024 * Bk) :
    ∀ (k : Nat) (x4 : Int32) (s : Nat), x4.toInt = (s : Int) → s ≤ 128 → s % 8 = 0 → 128 - s < k → ∃ r, f_S_isBlank_12 N NW sz wd mb gI k x2 x4 = some r ∧ B01 r (BlankFrom wd Bk p s) := by
  have hB2 := hC.2.2.2.2
  have z : (128 : Int32).toInt = 128 := by decide
  intro k
  induction k with
  | zero => intro x4 s _ _ _ h; omega
  | succ k ih =>
    intro x4 s h4 hs h8 hk
    rw [f_S_isBlank_12]
    by_cases c : (128 : Int32) ≤ x4
    · rw [if_pos c]; rw [le32, h4, z] at c
      exact ⟨1, rfl, Or.inl ⟨rfl, fun x q1 q2 => by omega⟩⟩
    · rw [if_neg c]; rw [le32, h4, z] at c
      rw [number_nu hC (a := ((p + s : Nat) : Int)) (n := 8) (by rw [add64 h2 (ext3264 h4) (by omega) (by omega)]; omega) (by decide) (by omega) (by omega)]
      simp only [bd1]
      have hw := word0_iff (wd := wd) (Bk := Bk) (a := p + s) (by omega)
      have hv := nu8_lt (wd := wd) (Bk := Bk) ((p + s : Nat) : Int)
      have q0 : Int64.ofNat (nu wd Bk ((p + s : Nat) : Int) 8) = 0 ↔ nu wd Bk ((p + s : Nat) : Int) 8 = 0 := ofNat64_inj (v := 0) hv (by decide)
      simp only [q0]
      by_cases c0 : nu wd Bk ((p + s : Nat) : Int) 8 = 0
      · rw [if_pos c0]
        simp only [lt1]
        obtain ⟨r, e, h⟩ := ih (x4 + 8) (s + 8) (by rw [add32 (y := 8) h4 (by decide) (by omega) (by omega)]; omega) (by omega) (by omega) (by omega)
        refine ⟨r, e, ?_⟩
        have h0 := hw.mp c0
        rcases h with ⟨a, b⟩ | ⟨a, b⟩
        · refine Or.inl ⟨a, fun x q1 q2 => ?_⟩
          by_cases cx : x < s + 8
          · have := h0 (x - s) (by omega)
            rw [show p + s + (x - s) = p + x by omega] at this
            exact this
          · exact b x (by omega) q2
        · exact Or.inr ⟨a, fun hh => b (fun x q1 q2 => hh x (by omega) q2)⟩
      · rw [if_neg c0]
        refine ⟨0, rfl, Or.inr ⟨rfl, fun hh => c0 (hw.mpr (fun t ht => ?_))⟩⟩
        have := hh (s + t) (by omega) (by omega)
        rw [show p + (s + t) = p + s + t by omega] at this
        exact this
theorem mblank_loop (hC : CtxD NW sz bk Bk) (hS : Same dk wd Bk) (hM : CtxM mp gg G M Q Bk) {qq x1 : Int32} {ca : Nat → Int32} {i : Nat} (hi : x1.toInt = (i : Int)) (h1 : InR G Q i) (hca : ca i = 0) {K2 : Int32 → Option Int32} :
    ∀ (k : Nat) (x2 : Int32) (s : Nat), x2.toInt = (s : Int) → s ≤ 128 → 128 - s < k → (BlankFrom wd Bk (ipl G M i) s ∧ f_M_badInodes_47 N dk gg qq mp ca K2 k x1 x2 = K2 (x1 + 1)) ∨ (¬ BlankFrom wd Bk (ipl G M i) s ∧ f_M_badInodes_47 N dk gg qq mp ca K2 k x1 x2 = some 1) := by
  have hB2 := hC.2.2.2.2
  have hQG : Q * G < 4096 := hM.2.2.2.2.2.1
  have h8 := inR_div h1
  have hin := ipl_in hM h8
  have h1b := h1.2
  have z : (128 : Int32).toInt = 128 := by decide
  obtain ⟨rp, ep, hp⟩ := minodeAt_eq hB2 hM hi h1.1 h8
  have ho : ¬ oob x1 4200 := by rw [oob_iff, hi]; omega
  intro k
  induction k with
  | zero => intro x2 s _ _ h; omega
  | succ k ih =>
    intro x2 s h2 hs hk
    rw [f_M_badInodes_47]
    by_cases c : (128 : Int32) ≤ x2
    · rw [if_pos c]; rw [le32, h2, z] at c
      exact Or.inl ⟨fun x q1 q2 => by omega, rfl⟩
    · rw [if_neg c]; rw [le32, h2, z] at c
      rw [if_neg ho, nn32 hi, if_pos hca, ep]
      simp only [bd1]
      rw [one_b1 hC hS (a := ipl G M i + s) (by rw [add32 hp h2 (by omega) (by omega)]; omega) (by omega)]
      simp only [lt1]
      have hb := b1_lt wd Bk (ipl G M i + s)
      have q0 : Int32.ofNat (b1 wd Bk (ipl G M i + s)) = 0 ↔ b1 wd Bk (ipl G M i + s) = 0 := is32 (by omega) (by decide)
      simp only [q0]
      by_cases c0 : b1 wd Bk (ipl G M i + s) = 0
      · rw [if_pos c0]
        rcases ih (x2 + 1) (s + 1) (by rw [add32 (y := 1) h2 (by decide) (by omega) (by omega)]; omega) (by omega) (by omega) with ⟨a, b⟩ | ⟨a, b⟩
        · refine Or.inl ⟨fun x q1 q2 => ?_, b⟩
          by_cases cx : x = s
          · subst cx; exact c0
          · exact a x (by omega) q2
        · exact Or.inr ⟨fun hh => a (fun x q1 q2 => hh x (by omega) q2), b⟩
      · rw [if_neg c0]
        exact Or.inr ⟨fun hh => c0 (hh s (Nat.le_refl _) (by omega)), rfl⟩
theorem inodes_loop (hC : CtxD NW sz bk Bk) (hS : Same dk wd Bk) (hL : CtxL mb gI G M Q) (hM : CtxM mp gg G M Q Bk) (hN : 5000 ≤ N) {iN qq : Int32} (hI : iN.toInt = ((Q * G : Nat) : Int)) (hq : qq.toInt = (Q : Int)) {kn ca : Nat → Int32} (hca : ∀ i, i < 4097 → (ca i = 0 ↔ kn i ≠ 1)) :
    ∀ (k km i : Nat) (x1 : Int32), x1.toInt = (i : Int) → 1 ≤ i → i ≤ Q * G + 1 → Q * G + 1 - i < k → Q * G + 1 - i < km → ∃ r, f_S_inodesStand_2 N NW sz wd mb gI iN kn k x1 = some r ∧ f_M_badInodes_2 N dk gg qq mp ca km x1 = some (1 - r) ∧ (r = 0 ∨ r = 1) := by
  have hB2 := hC.2.2.2.2
  have hQG : Q * G < 4096 := hM.2.2.2.2.2.1
  have hm : ((Q : Int) * (G : Int)) = ((Q * G : Nat) : Int) := by rw [Int.natCast_mul]
  have eqg : (qq * gg).toInt = ((Q * G : Nat) : Int) := by
    rw [mul32 hq hM.1 (by rw [hm]; omega) (by rw [hm]; omega), hm]
  have z11 : (11 : Int32).toInt = 11 := by decide
  have z12 : (12 : Int32).toInt = 12 := by decide
  intro k
  induction k with
  | zero => intro km i x1 _ _ _ h; omega
  | succ k ih =>
    intro km i x1 h1 hi1 hiq hk hkm
    cases km with
    | zero => omega
    | succ km =>
    rw [f_S_inodesStand_2, f_M_badInodes_2]
    simp only [f_L_inodes, bd1]
    by_cases c0 : Q * G < i
    · rw [if_pos (show iN < x1 by rw [lt32, hI, h1]; omega), if_pos (show qq * gg < x1 by rw [lt32, eqg, h1]; omega)]
      exact ⟨1, rfl, rfl, Or.inr rfl⟩
    · rw [if_neg (show ¬ iN < x1 by rw [lt32, hI, h1]; omega), if_neg (show ¬ qq * gg < x1 by rw [lt32, eqg, h1]; omega)]
      have hir : InR G Q i := ⟨hi1, by omega⟩
      have h8 := inR_div hir
      have hin := ipl_in hM h8
      rw [known_eq h1 hi1 (by omega), isUsed_eq hC hL h1 hi1 h8, misUsed_eq hC hS hM h1 hi1 h8]
      simp only []
      have ex1 : (x1 + 1).toInt = ((i + 1 : Nat) : Int) := by rw [add32 (y := 1) h1 (by decide) (by omega) (by omega)]; omega
      have go := ih km (i + 1) (x1 + 1) ex1 (by omega) (by omega) (by omega) (by omega)
      have ho : ¬ oob x1 4200 := by rw [oob_iff, h1]; omega
      generalize (if usedB wd Bk G M i = true then (1 : Int32) else 0) = u
      have hcai := hca i (by omega)
      by_cases ck : kn i = 1
      · have hcan : ¬ ca i = 0 := fun h => (hcai.mp h) ck
        rw [if_pos ck, if_neg (show ¬ (1 : Int32) = 0 by decide)]
        have eM : ∀ s, f_M_badInodes_40 N dk gg qq mp ca (f_M_badInodes_2 N dk gg qq mp ca km) x1 u s = if u = s then f_M_badInodes_2 N dk gg qq mp ca km (x1 + 1) else some 1 := by
          intro s
          unfold f_M_badInodes_40
          obtain ⟨m, em⟩ : ∃ m, N = m + 1 := ⟨N - 1, by omega⟩
          have : f_M_badInodes_47 N dk gg qq mp ca (f_M_badInodes_2 N dk gg qq mp ca km) N x1 0 = f_M_badInodes_2 N dk gg qq mp ca km (x1 + 1) := by
            conv => lhs; arg 8; rw [em]
            rw [f_M_badInodes_47, if_neg (show ¬ (128 : Int32) ≤ 0 by decide), if_neg ho, nn32 h1, if_neg hcan]
            rfl
          rw [this]
        have eM1 : (if x1 < 12 then f_M_badInodes_35 N dk gg qq mp ca (f_M_badInodes_2 N dk gg qq mp ca km) x1 u else if oob x1 4200 then none else if ca (Int32.toNatClampNeg x1) = 0 then f_M_badInodes_40 N dk gg qq mp ca (f_M_badInodes_2 N dk gg qq mp ca km) x1 u 0 else f_M_badInodes_35 N dk gg qq mp ca (f_M_badInodes_2 N dk gg qq mp ca km) x1 u) = if u = 1 then f_M_badInodes_2 N dk gg qq mp ca km (x1 + 1) else some 1 := by
          unfold f_M_badInodes_35
          rw [if_neg ho, nn32 h1, if_neg hcan, eM 1]
          by_cases c12 : x1 < 12
          · rw [if_pos c12]
          · rw [if_neg c12]
        rw [eM1]
        unfold f_S_inodesStand_37 f_S_inodesStand_42
        rw [if_neg (show ¬ (1 : Int32) = 0 by decide)]
        simp only [lt1]
        by_cases cu : u = 1
        · rw [if_pos cu, if_pos cu]; exact go
        · rw [if_neg cu, if_neg cu]; exact ⟨0, rfl, rfl, Or.inl rfl⟩
      · have hca0 : ca i = 0 := hcai.mpr ck
        rw [if_neg ck]
        have eBl : ∃ r, f_S_isBlank N NW sz wd mb gI x1 = some r ∧ B01 r (BlankFrom wd Bk (ipl G M i) 0) := by
          unfold f_S_isBlank
          rw [place_eq hL h1 hi1 h8]
          exact blank_loop hC (num64 (v := ipl G M i) (by omega)) hin N 0 0 (by decide) (by omega) (by omega) (by omega)
        obtain ⟨rb, eb, hb⟩ := eBl
        have both : ∀ s, ∃ r, f_S_inodesStand_42 N NW sz wd mb gI iN kn (f_S_inodesStand_2 N NW sz wd mb gI iN kn k) x1 0 u s = some r ∧ f_M_badInodes_40 N dk gg qq mp ca (f_M_badInodes_2 N dk gg qq mp ca km) x1 u s = some (1 - r) ∧ (r = 0 ∨ r = 1) := by
          intro s
          unfold f_S_inodesStand_42 f_M_badInodes_40
          by_cases cu : u = s
          · rw [if_pos cu, if_pos cu, if_pos rfl, eb]
            simp only [bd1, lt1]
            rcases mblank_loop (N := N) (qq := qq) (K2 := f_M_badInodes_2 N dk gg qq mp ca km) hC hS hM h1 hir hca0 N 0 0 (by decide) (by omega) (by omega) with ⟨a, b⟩ | ⟨a, b⟩
            · rw [b, if_neg (by rw [hb.t a]; decide)]
              exact go
            · rw [b, if_pos (hb.f a)]
              exact ⟨0, rfl, rfl, Or.inl rfl⟩
          · rw [if_neg cu, if_neg cu]
            exact ⟨0, rfl, rfl, Or.inl rfl⟩
        rw [if_pos rfl]
        by_cases c11 : 11 < i
        · rw [if_pos (show (11 : Int32) < x1 by rw [lt32, h1, z11]; omega), if_neg (show ¬ x1 < 12 by rw [lt32, h1, z12]; omega), if_neg ho, nn32 h1, if_pos hca0]
          exact both 0
        · rw [if_neg (show ¬ (11 : Int32) < x1 by rw [lt32, h1, z11]; omega), if_pos (show x1 < 12 by rw [lt32, h1, z12]; omega)]
          exact both 1
theorem inodes_sim (hC : CtxD NW sz bk Bk) (hS : Same dk wd Bk) (hL : CtxL mb gI G M Q) (hM : CtxM mp gg G M Q Bk) (hN : 5000 ≤ N) {iN qq : Int32} (hI : iN.toInt = ((Q * G : Nat) : Int)) (hq : qq.toInt = (Q : Int)) {kn ca : Nat → Int32} (hca : ∀ i, i < 4097 → (ca i = 0 ↔ kn i ≠ 1)) :
    ∃ r, f_S_inodesStand N NW sz wd mb gI iN kn = some r ∧ f_M_badInodes N dk gg qq mp ca = some (1 - r) ∧ (r = 0 ∨ r = 1) := by
  have hQG : Q * G < 4096 := hM.2.2.2.2.2.1
  exact inodes_loop hC hS hL hM hN hI hq hca N N 1 1 (by decide) (by omega) (by omega) (by omega) (by omega)
end LA
