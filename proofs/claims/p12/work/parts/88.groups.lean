/-! fault 3: maps and inodes of the groups, on both sides -/
section GR
variable {N NW Bk : Nat} {sz bk : Int32} {wd : Nat → Int64} {dk : Nat → Int32}
def gM (wd : Nat → Int64) (Bk g : Nat) : Nat := n4 wd Bk (2048 + 32 * g)
def GroupFits (wd : Nat → Int64) (Bk g : Nat) : Prop := 1 + g * gP wd Bk + 2 ≤ gM wd Bk g ∧ gM wd Bk g + 2 + gG wd Bk / 8 ≤ 1 + g * gP wd Bk + gLen wd Bk g ∧ n4 wd Bk (2048 + 32 * g + 4) = gM wd Bk g + 1 ∧ n4 wd Bk (2048 + 32 * g + 8) = gM wd Bk g + 2
theorem upd_at (f : Nat → Int32) (k : Nat) (x : Int32) : upd f k x k = x := by simp [upd]
theorem upd_ne (f : Nat → Int32) (k : Nat) (x : Int32) {j : Nat} (h : j ≠ k) : upd f k x j = f j := by simp [upd, h]
theorem fill7_loop : ∀ (k : Nat) (tk : Nat → Int32) (x2 : Int32) (i : Nat), x2.toInt = (i : Int) → i ≤ 512 → 512 - i < k → (∀ b, b < i → tk b = 0) → ∃ tk', f_J_fill7_5 N NW k tk 0 x2 512 = some tk' ∧ ∀ b, b < 512 → tk' b = 0 := by
  have z : (512 : Int32).toInt = 512 := by decide
  intro k
  induction k with
  | zero => intro tk x2 i _ _ h _; omega
  | succ k ih =>
    intro tk x2 i h1 hi hk hz
    rw [f_J_fill7_5]
    by_cases c : (512 : Int32) ≤ x2
    · rw [if_pos c]; rw [le32, h1, z] at c
      exact ⟨tk, rfl, fun b hb => hz b (by omega)⟩
    · rw [if_neg c]; rw [le32, h1, z] at c
      rw [if_neg (by rw [oob_iff, h1]; omega), nn32 h1]
      simp only [lt1]
      exact ih (upd tk i 0) (x2 + 1) (i + 1) (by rw [add32 (y := 1) h1 (by decide) (by omega) (by omega)]; omega) (by omega) (by omega) (by
        intro b hb
        by_cases e : b = i
        · subst e; exact upd_at _ _ _
        · rw [upd_ne _ _ _ e]; exact hz b (by omega))
theorem fix_loop {x1 x2 : Int32} {s n : Nat} (h1 : x1.toInt = (s : Int)) (h2 : x2.toInt = (n : Int)) (hin : s + n ≤ 512) :
    ∀ (k : Nat) (tk : Nat → Int32) (x3 : Int32) (i : Nat), x3.toInt = (i : Int) → s ≤ i → i ≤ s + n → s + n - i < k → ∃ tk', f_S_fix_6 N NW k tk x1 x2 x3 = some tk' ∧ ∀ b, tk' b = if i ≤ b ∧ b < s + n then 1 else tk b := by
  have e12 : (x1 + x2).toInt = ((s + n : Nat) : Int) := by rw [add32 h1 h2 (by omega) (by omega)]; omega
  have z : (512 : Int32).toInt = 512 := by decide
  intro k
  induction k with
  | zero => intro tk x3 i _ _ _ h; omega
  | succ k ih =>
    intro tk x3 i h3 hs hi hk
    rw [f_S_fix_6]
    by_cases c : x1 + x2 ≤ x3
    · rw [if_pos c]; rw [le32, e12, h3] at c
      exact ⟨tk, rfl, fun b => by rw [if_neg (by omega)]⟩
    · rw [if_neg c]; rw [le32, e12, h3] at c
      rw [if_neg (by rw [le32, h3, z]; omega), if_neg (by rw [oob_iff, h3]; omega), nn32 h3]
      simp only [lt1]
      obtain ⟨tk', e, h⟩ := ih (upd tk i 1) (x3 + 1) (i + 1) (by rw [add32 (y := 1) h3 (by decide) (by omega) (by omega)]; omega) (by omega) (by omega) (by omega)
      refine ⟨tk', e, fun b => ?_⟩
      rw [h b]
      by_cases eb : b = i
      · subst eb; rw [if_neg (by omega), upd_at, if_pos (by omega)]
      · rw [upd_ne _ _ _ eb]
        by_cases cc : i + 1 ≤ b ∧ b < s + n
        · rw [if_pos cc, if_pos (by omega)]
        · rw [if_neg cc, if_neg (by omega)]
theorem fix_eq {x1 x2 : Int32} {s n : Nat} (h1 : x1.toInt = (s : Int)) (h2 : x2.toInt = (n : Int)) (hin : s + n ≤ 512) (hN : 600 ≤ N) {tk : Nat → Int32} :
    ∃ tk', f_S_fix N NW tk x1 x2 = some tk' ∧ ∀ b, tk' b = if s ≤ b ∧ b < s + n then 1 else tk b := by
  unfold f_S_fix
  have z : (0 : Int32).toInt = 0 := by decide
  rw [if_neg (by rw [lt32, h1, z]; omega)]
  simp only [lt1]
  exact fix_loop h1 h2 hin N tk x1 s h1 (by omega) (by omega) (by omega)
theorem nar_bool1 : vp_nar .boolean 1 = 1 := rfl
theorem fixes_eq {fx : Nat → Int32} {a1 : Int32} {b : Nat} (h1 : a1.toInt = (b : Int)) (hb : b < 512) : f_M_fixes fx a1 = some (if fx b = 0 then 1 else 0, upd fx b 1) := by
  unfold f_M_fixes
  have ho : ¬ oob a1 512 := by rw [oob_iff, h1]; omega
  simp only [lt1, if_neg ho]
  rw [nn32 h1, nar_bool1]
  by_cases c : fx b = 0
  · rw [if_pos c, if_pos c]
  · rw [if_neg c, if_neg c]
/-- the reference's loop over a group's maps, once it is bad -/
theorem maps_bad {nb pp jj qq x1 : Int32} {J : Nat} (hJ : jj.toInt = (J : Int)) (hJ2 : J ≤ 2000) {K2 : (Nat → Int32) → (Nat → Int32) → Int32 → Option (Int32 × (Nat → Int32) × (Nat → Int32))} :
    ∀ (k : Nat) (mp fx : Nat → Int32) (x6 : Int32) (i : Nat), x6.toInt = (i : Int) → i ≤ 2 + J → 2 + J - i < k → f_M_badMaps_140 N nb dk pp jj qq K2 k mp fx x1 0 x6 = some (1, mp, fx) := by
  have e2 : (2 + jj).toInt = ((2 + J : Nat) : Int) := by rw [add32 (x := 2) (by decide) hJ (by omega) (by omega)]; omega
  intro k
  induction k with
  | zero => intro mp fx x6 i _ _ h; omega
  | succ k ih =>
    intro mp fx x6 i h6 hi hk
    rw [f_M_badMaps_140]
    by_cases c : 2 + jj ≤ x6
    · rw [if_pos c, if_pos rfl]
    · rw [if_neg c, if_pos rfl]; rw [le32, e2, h6] at c
      simp only [lt1]
      exact ih mp fx (x6 + 1) (i + 1) (by rw [add32 (y := 1) h6 (by decide) (by omega) (by omega)]; omega) (by omega) (by omega)
/-- and while it is good -/
theorem maps_good {nb pp jj qq x1 : Int32} {J g m : Nat} (hJ : jj.toInt = (J : Int)) (hg : x1.toInt = (g : Int)) (hg2 : g < 8) (hm2 : m + 2 + J ≤ 512) {K2 : (Nat → Int32) → (Nat → Int32) → Int32 → Option (Int32 × (Nat → Int32) × (Nat → Int32))} {mp : Nat → Int32} (hm : (mp g).toInt = (m : Int)) :
    ∀ (k : Nat) (fx : Nat → Int32) (x6 : Int32) (i : Nat), x6.toInt = (i : Int) → i ≤ 2 + J → 2 + J - i < k → (∀ b, m + i ≤ b → b < m + 2 + J → fx b = 0) →
    ∃ fx', f_M_badMaps_140 N nb dk pp jj qq K2 k mp fx x1 1 x6 = K2 mp fx' (x1 + 1) ∧ ∀ b, fx' b = if m + i ≤ b ∧ b < m + 2 + J then 1 else fx b := by
  have e2 : (2 + jj).toInt = ((2 + J : Nat) : Int) := by rw [add32 (x := 2) (by decide) hJ (by omega) (by omega)]; omega
  intro k
  induction k with
  | zero => intro fx x6 i _ _ h; omega
  | succ k ih =>
    intro fx x6 i h6 hi hk hz
    rw [f_M_badMaps_140]
    by_cases c : 2 + jj ≤ x6
    · rw [if_pos c, if_neg (by decide)]; rw [le32, e2, h6] at c
      exact ⟨fx, rfl, fun b => by rw [if_neg (by omega)]⟩
    · rw [if_neg c, if_neg (by decide)]; rw [le32, e2, h6] at c
      rw [if_neg (by rw [oob_iff, hg]; omega), nn32 hg]
      rw [fixes_eq (b := m + i) (by rw [add32 hm h6 (by omega) (by omega)]; omega) (by omega)]
      simp only [bd2]
      rw [hz (m + i) (by omega) (by omega), if_pos rfl, if_neg (by decide)]
      simp only [lt1]
      obtain ⟨fx', e, h⟩ := ih (upd fx (m + i) 1) (x6 + 1) (i + 1) (by rw [add32 (y := 1) h6 (by decide) (by omega) (by omega)]; omega) (by omega) (by omega) (by
        intro b hb1 hb2
        rw [upd_ne _ _ _ (by omega)]; exact hz b (by omega) hb2)
      refine ⟨fx', e, fun b => ?_⟩
      rw [h b]
      by_cases eb : b = m + i
      · subst eb; rw [if_neg (by omega), upd_at, if_pos (by omega)]
      · rw [upd_ne _ _ _ eb]
        by_cases cc : m + (i + 1) ≤ b ∧ b < m + 2 + J
        · rw [if_pos cc, if_pos (by omega)]
        · rw [if_neg cc, if_neg (by omega)]
/-- both loops over the groups, side by side -/
theorem groups_loop (hC : CtxD NW sz bk Bk) (hS : Same dk wd Bk) (hO : SuperOK wd Bk) {gB gI gN nb pp jj qq : Int32} (hnb : nb = bk) (hP : gB.toInt = (gP wd Bk : Int)) (hG : gI.toInt = (gG wd Bk : Int)) (hQ : gN.toInt = (gQ wd Bk : Int)) (hP' : pp.toInt = (gP wd Bk : Int)) (hJ' : jj.toInt = ((gG wd Bk / 8 : Nat) : Int)) (hQ' : qq.toInt = (gQ wd Bk : Int)) (hN : 2050 ≤ N) :
    ∀ (k km : Nat) (mb tk mp fx : Nat → Int32) (x1 : Int32) (g : Nat), x1.toInt = (g : Int) → g ≤ gQ wd Bk → gQ wd Bk - g < k → gQ wd Bk - g < km → (∀ b, b < 512 → (tk b = 0 ↔ fx b = 0)) → (∀ b, 1 + g * gP wd Bk ≤ b → b < 512 → tk b = 0) → (∀ h, h < g → (mb h).toInt = (gM wd Bk h : Int) ∧ (mp h).toInt = (gM wd Bk h : Int) ∧ GroupFits wd Bk h) →
    ∃ (r : Int32) (mb' tk' mp' fx' : Nat → Int32), f_S_groupsStand_10 N NW bk sz wd gB gI gN k mb tk x1 = some (r, mb', tk') ∧ f_M_badMaps_2 N nb dk pp jj qq km mp fx x1 = some (1 - r, mp', fx') ∧ ((r = 0) ∨ (r = 1 ∧ (∀ b, b < 512 → (tk' b = 0 ↔ fx' b = 0)) ∧ ∀ h, h < gQ wd Bk → (mb' h).toInt = (gM wd Bk h : Int) ∧ (mp' h).toInt = (gM wd Bk h : Int) ∧ GroupFits wd Bk h)) := by
  have hB := hC.2.2.2.1
  have hB2 := hC.2.2.2.2
  have hp := gP_lt hO
  have hq := gQ_le hO hB hB2
  have hGb : gG wd Bk ≤ 8192 := hO.1.2.2.1
  intro k
  induction k with
  | zero => intro km mb tk mp fx x1 g _ _ h; omega
  | succ k ih =>
    intro km mb tk mp fx x1 g hg hgq hk hkm hrel hfree hdone
    cases km with
    | zero => omega
    | succ km =>
    rw [f_S_groupsStand_10, f_M_badMaps_2]
    simp only [f_L_groups, bd1]
    by_cases c : gN ≤ x1
    · have c' : qq ≤ x1 := by rw [le32, hQ', ← hQ, ← le32]; exact c
      rw [if_pos c, if_pos c']; rw [le32, hQ, hg] at c
      refine ⟨1, mb, tk, mp, fx, rfl, rfl, Or.inr ⟨rfl, hrel, fun h hh => hdone h (by omega)⟩⟩
    · have c' : ¬ qq ≤ x1 := by rw [le32, hQ', ← hQ, ← le32]; exact c
      rw [if_neg c, if_neg c']; rw [le32, hQ, hg] at c
      obtain ⟨i1, i2, i3⟩ := gq_in hO hB (g := g) (by omega)
      obtain ⟨r4, e4, h4⟩ := firstBlock_eq (NW := NW) hP (by omega) hg (by omega)
      obtain ⟨r6, e6, h6⟩ := blocksOf_eq (NW := NW) hC hP (by omega) hg (by omega) (by omega)
      obtain ⟨rb, eb, hb⟩ := mbegin_eq hP' (by omega) hg (by omega)
      obtain ⟨rs, es, hs⟩ := msizeOf_eq hC hO (x1 := x1) (g := g) hnb hP' hQ' hg (by omega)
      rw [e4, e6, eb]
      simp only [f_L_groupInodes, lt1]
      have hd : ((2048 : Int32) + 32 * x1).toInt = ((2048 + 32 * g : Nat) : Int) := by
        rw [add32 (x := 2048) (by decide) (mul32 (x := 32) (by decide) hg (by omega) (by omega)) (by omega) (by omega)]; omega
      have hm := n4_lt wd Bk (2048 + 32 * g)
      have hm1 := n4_lt wd Bk (2048 + 32 * g + 4)
      have hm2 := n4_lt wd Bk (2048 + 32 * g + 8)
      have D0 : f_L_described NW sz wd x1 0 4 = some (Int64.ofNat (n4 wd Bk (2048 + 32 * g))) := described_eq hC (a1 := x1) (a2 := 0) (a3 := 4) (g := g) (at' := 0) (n := 4) hg (by omega) (by decide) (by omega) (by decide) (by omega) (by omega)
      have D4 : f_L_described NW sz wd x1 4 4 = some (Int64.ofNat (n4 wd Bk (2048 + 32 * g + 4))) := described_eq hC (a1 := x1) (a2 := 4) (a3 := 4) (g := g) (at' := 4) (n := 4) hg (by omega) (by decide) (by omega) (by decide) (by omega) (by omega)
      have D8 : f_L_described NW sz wd x1 8 4 = some (Int64.ofNat (n4 wd Bk (2048 + 32 * g + 8))) := described_eq hC (a1 := x1) (a2 := 8) (a3 := 4) (g := g) (at' := 8) (n := 4) hg (by omega) (by decide) (by omega) (by decide) (by omega) (by omega)
      rw [D0, D4, D8]
      clear D0 D4 D8
      rw [four_n4 hC hS (a := 2048 + 32 * g) hd (by omega)]
      rw [four_n4 hC hS (a := 2048 + 32 * g + 4) (by rw [add32 (y := 4) hd (by decide) (by omega) (by omega)]; omega) (by omega)]
      rw [four_n4 hC hS (a := 2048 + 32 * g + 8) (by rw [add32 (y := 8) hd (by decide) (by omega) (by omega)]; omega) (by omega)]
      rw [es]
      simp only [bd1]
      have hj8 : (gI / 8).toInt = ((gG wd Bk / 8 : Nat) : Int) := by rw [div32 (y := 8) hG (by decide) (by omega) (by omega)]; omega
      have hlen : gLen wd Bk g = min (gP wd Bk) (Bk - (1 + g * gP wd Bk)) := rfl
      have hfit : GroupFits wd Bk g ↔ 1 + g * gP wd Bk + 2 ≤ n4 wd Bk (2048 + 32 * g) ∧ n4 wd Bk (2048 + 32 * g) + 2 + gG wd Bk / 8 ≤ 1 + g * gP wd Bk + gLen wd Bk g ∧ n4 wd Bk (2048 + 32 * g + 4) = n4 wd Bk (2048 + 32 * g) + 1 ∧ n4 wd Bk (2048 + 32 * g + 8) = n4 wd Bk (2048 + 32 * g) + 2 := Iff.rfl
      have hgm : gM wd Bk g = n4 wd Bk (2048 + 32 * g) := rfl
      generalize n4 wd Bk (2048 + 32 * g) = m at *
      generalize n4 wd Bk (2048 + 32 * g + 4) = m1 at *
      generalize n4 wd Bk (2048 + 32 * g + 8) = m2 at *
      have em : (Int64.ofNat m).toInt = (m : Int) := num64 (by omega)
      have em1 : (Int64.ofNat m1).toInt = (m1 : Int) := num64 (by omega)
      have em2 : (Int64.ofNat m2).toInt = (m2 : Int) := num64 (by omega)
      have ep1 : (Int64.ofNat m + 1).toInt = (m : Int) + 1 := add64 em (by decide) (by omega) (by omega)
      have ep2 : (Int64.ofNat m + 2).toInt = (m : Int) + 2 := add64 em (by decide) (by omega) (by omega)
      have q1 : (Int64.ofNat m < Int32.toInt64 (r4 + 2)) ↔ m < 1 + g * gP wd Bk + 2 := by
        rw [lt64, em, ext3264 (add32 (y := 2) h4 (by decide) (by omega) (by omega))]; omega
      have q2 : (Int64.ofNat m + 2 + Int32.toInt64 (gI / 8) ≤ Int32.toInt64 (r4 + r6)) ↔ m + 2 + gG wd Bk / 8 ≤ 1 + g * gP wd Bk + gLen wd Bk g := by
        rw [le64, add64 ep2 (ext3264 hj8) (by omega) (by omega), ext3264 (add32 h4 h6 (by omega) (by omega)), hlen]; omega
      have q3 : (Int64.ofNat m1 = Int64.ofNat m + 1) ↔ m1 = m + 1 := by rw [eq64, em1, ep1]; omega
      have q4 : (Int64.ofNat m2 = Int64.ofNat m + 2) ↔ m2 = m + 2 := by rw [eq64, em2, ep2]; omega
      have p1 : (Int64.ofNat m ≤ Int32.toInt64 rb) ↔ m ≤ 1 + g * gP wd Bk := by rw [le64, em, ext3264 hb]; omega
      have p2 : (Int32.toInt64 (rb + rs) < Int64.ofNat m + 2 + Int32.toInt64 jj) ↔ ¬ m + 2 + gG wd Bk / 8 ≤ 1 + g * gP wd Bk + gLen wd Bk g := by
        rw [lt64, add64 ep2 (ext3264 hJ') (by omega) (by omega), ext3264 (add32 hb hs (by omega) (by omega))]; omega
      simp only [q1, q2, q3, q4, p1, p2]
      have bad : ∀ (y : Option (Int32 × (Nat → Int32) × (Nat → Int32))) (mp0 fx0 : Nat → Int32), y = some (1, mp0, fx0) → ∃ (r : Int32) (mb' tk' mp' fx' : Nat → Int32), some ((0 : Int32), mb, tk) = some (r, mb', tk') ∧ y = some (1 - r, mp', fx') ∧ ((r = 0) ∨ (r = 1 ∧ (∀ b, b < 512 → (tk' b = 0 ↔ fx' b = 0)) ∧ ∀ h, h < gQ wd Bk → (mb' h).toInt = (gM wd Bk h : Int) ∧ (mp' h).toInt = (gM wd Bk h : Int) ∧ GroupFits wd Bk h)) := by
        intro y mp0 fx0 e
        exact ⟨0, mb, tk, mp0, fx0, rfl, e, Or.inl rfl⟩
      by_cases d1 : m ≤ 1 + g * gP wd Bk
      · rw [if_pos (by omega), if_pos d1]
        exact bad _ _ _ rfl
      rw [if_neg d1]
      by_cases d2 : m + 2 + gG wd Bk / 8 ≤ 1 + g * gP wd Bk + gLen wd Bk g
      · rw [if_pos d2, if_neg (not_not_intro d2)]
        by_cases d3 : m1 = m + 1
        · rw [if_pos d3, if_pos d3]
          by_cases d4 : m2 = m + 2
          · rw [if_pos d4, if_pos d4]
            have ec : (Int64.ofNat m).toInt32.toInt = (m : Int) := cut6432 em (by omega) (by omega)
            by_cases d5 : m = 1 + g * gP wd Bk + 1
            · rw [if_pos (show m < 1 + g * gP wd Bk + 2 by omega)]
              have ho8 : ¬ oob x1 8 := by rw [oob_iff, hg]; omega
              rw [if_neg ho8, nn32 hg]
              rw [fixes_eq (b := 1 + g * gP wd Bk) hb (by omega)]
              simp only [bd2]
              have f1 : fx (1 + g * gP wd Bk) = 0 := (hrel _ (by omega)).mp (hfree _ (by omega) (by omega))
              have f2 : fx (1 + g * gP wd Bk + 1) = 0 := (hrel _ (by omega)).mp (hfree _ (by omega) (by omega))
              rw [f1, if_pos rfl, if_neg (by decide)]
              rw [fixes_eq (b := 1 + g * gP wd Bk + 1) (by rw [add32 (y := 1) hb (by decide) (by omega) (by omega)]; omega) (by omega)]
              simp only []
              rw [upd_ne _ _ _ (by omega), f2, if_pos rfl, if_neg (by decide)]
              have hmp : (upd mp g (Int64.ofNat m).toInt32 g).toInt = (m : Int) := by rw [upd_at]; exact ec
              have hN1 : N = (N - 1) + 1 := by omega
              have ex : f_M_badMaps_140 N nb dk pp jj qq (f_M_badMaps_2 N nb dk pp jj qq km) N (upd mp g (Int64.ofNat m).toInt32) (upd (upd fx (1 + g * gP wd Bk) 1) (1 + g * gP wd Bk + 1) 1) x1 1 0 = some (1, upd mp g (Int64.ofNat m).toInt32, upd (upd (upd fx (1 + g * gP wd Bk) 1) (1 + g * gP wd Bk + 1) 1) m 1) := by
                conv => lhs; arg 8; rw [hN1]
                rw [f_M_badMaps_140]
                have e2 : (2 + jj).toInt = ((2 + gG wd Bk / 8 : Nat) : Int) := by rw [add32 (x := 2) (by decide) hJ' (by omega) (by omega)]; omega
                have z0 : (0 : Int32).toInt = 0 := by decide
                rw [if_neg (by rw [le32, e2, z0]; omega), if_neg (by decide), if_neg (by rw [oob_iff, hg]; omega), nn32 hg]
                rw [fixes_eq (b := m) (by rw [add32 (y := 0) hmp (by decide) (by omega) (by omega)]; omega) (by omega)]
                simp only [bd2]
                have hf1 : upd (upd fx (1 + g * gP wd Bk) 1) (1 + g * gP wd Bk + 1) 1 m = 1 := by rw [d5, upd_at]
                rw [hf1, if_neg (show ¬ (1 : Int32) = 0 by decide), if_pos rfl]
                simp only [lt1]
                exact maps_bad hJ' (by omega) (N - 1) _ _ _ 1 (by decide) (by omega) (by omega)
              exact bad _ _ _ ex
            · rw [if_neg (show ¬ m < 1 + g * gP wd Bk + 2 by omega)]
              have ho8 : ¬ oob x1 8 := by rw [oob_iff, hg]; omega
              rw [if_neg ho8, nn32 hg]
              rw [fixes_eq (b := 1 + g * gP wd Bk) hb (by omega)]
              simp only [bd2]
              have f1 : fx (1 + g * gP wd Bk) = 0 := (hrel _ (by omega)).mp (hfree _ (by omega) (by omega))
              have f2 : fx (1 + g * gP wd Bk + 1) = 0 := (hrel _ (by omega)).mp (hfree _ (by omega) (by omega))
              rw [f1, if_pos rfl, if_neg (by decide)]
              rw [fixes_eq (b := 1 + g * gP wd Bk + 1) (by rw [add32 (y := 1) hb (by decide) (by omega) (by omega)]; omega) (by omega)]
              simp only []
              rw [upd_ne _ _ _ (by omega), f2, if_pos rfl, if_neg (by decide)]
              have hmp : (upd mp g (Int64.ofNat m).toInt32 g).toInt = (m : Int) := by rw [upd_at]; exact ec
              obtain ⟨fx', ef, hf⟩ := maps_good (N := N) (dk := dk) (nb := nb) (pp := pp) (qq := qq) (x1 := x1) (g := g) (m := m) hJ' hg (by omega) (by omega) (K2 := f_M_badMaps_2 N nb dk pp jj qq km) hmp N (upd (upd fx (1 + g * gP wd Bk) 1) (1 + g * gP wd Bk + 1) 1) 0 0 (by decide) (by omega) (by omega) (by
                intro b hb1 hb2
                rw [upd_ne _ _ _ (by omega), upd_ne _ _ _ (by omega)]
                exact (hrel _ (by omega)).mp (hfree _ (by omega) (by omega)))
              rw [ef]
              have esm : f_L_setMap NW mb x1 (Int64.ofNat m).toInt32 = some (upd mb g (Int64.ofNat m).toInt32) := by
                unfold f_L_setMap
                have z0 : (0 : Int32).toInt = 0 := by decide
                have z8 : (8 : Int32).toInt = 8 := by decide
                rw [if_neg (by rw [lt32, hg, z0]; omega), if_neg (by rw [le32, hg, z8]; omega), if_neg (by rw [oob_iff, hg]; omega), nn32 hg]
                rfl
              rw [esm]
              simp only []
              obtain ⟨tk1, et1, ht1⟩ := fix_eq (N := N) (NW := NW) (x1 := r4) (x2 := 2) (s := 1 + g * gP wd Bk) (n := 2) h4 (by decide) (by omega) (by omega) (tk := tk)
              rw [et1]
              simp only []
              obtain ⟨tk2, et2, ht2⟩ := fix_eq (N := N) (NW := NW) (x1 := (Int64.ofNat m).toInt32) (x2 := 2 + gI / 8) (s := m) (n := 2 + gG wd Bk / 8) ec (by rw [add32 (x := 2) (by decide) hj8 (by omega) (by omega)]; omega) (by omega) (by omega) (tk := tk1)
              rw [et2]
              simp only []
              have hmul : (g + 1) * gP wd Bk = g * gP wd Bk + gP wd Bk := by rw [Nat.add_mul, Nat.one_mul]
              refine ih km (upd mb g (Int64.ofNat m).toInt32) tk2 (upd mp g (Int64.ofNat m).toInt32) fx' (x1 + 1) (g + 1) (by rw [add32 (y := 1) hg (by decide) (by omega) (by omega)]; omega) (by omega) (by omega) (by omega) ?_ ?_ ?_
              · intro b hb5
                rw [ht2 b, ht1 b, hf b]
                by_cases k1 : m ≤ b ∧ b < m + (2 + gG wd Bk / 8)
                · rw [if_pos k1, if_pos (show m + 0 ≤ b ∧ b < m + 2 + gG wd Bk / 8 by omega)]
                · rw [if_neg k1, if_neg (show ¬ (m + 0 ≤ b ∧ b < m + 2 + gG wd Bk / 8) by omega)]
                  by_cases k2 : 1 + g * gP wd Bk ≤ b ∧ b < 1 + g * gP wd Bk + 2
                  · rw [if_pos k2]
                    by_cases k3 : b = 1 + g * gP wd Bk + 1
                    · rw [k3, upd_at]
                    · rw [upd_ne _ _ _ k3, show b = 1 + g * gP wd Bk by omega, upd_at]
                  · rw [if_neg k2, upd_ne _ _ _ (by omega), upd_ne _ _ _ (by omega)]
                    exact hrel b hb5
              · intro b hb1 hb2
                rw [hmul] at hb1
                rw [ht2 b, if_neg (by omega), ht1 b, if_neg (by omega)]
                exact hfree b (by omega) hb2
              · intro h hh
                by_cases eh : h = g
                · subst eh
                  rw [upd_at, upd_at]
                  exact ⟨by rw [ec, hgm], by rw [ec, hgm], hfit.mpr ⟨by omega, d2, d3, d4⟩⟩
                · rw [upd_ne _ _ _ eh, upd_ne _ _ _ eh]
                  exact hdone h (by omega)
          · rw [if_neg d4, if_neg d4]
            by_cases d5 : m < 1 + g * gP wd Bk + 2
            · rw [if_pos d5]; exact bad _ _ _ rfl
            · rw [if_neg d5]; exact bad _ _ _ rfl
        · rw [if_neg d3, if_neg d3]
          by_cases d5 : m < 1 + g * gP wd Bk + 2
          · rw [if_pos d5]; exact bad _ _ _ rfl
          · rw [if_neg d5]; exact bad _ _ _ rfl
      · rw [if_neg d2, if_pos d2]
        by_cases d5 : m < 1 + g * gP wd Bk + 2
        · rw [if_pos d5]; exact bad _ _ _ rfl
        · rw [if_neg d5]; exact bad _ _ _ rfl
theorem groups_eq (hC : CtxD NW sz bk Bk) (hS : Same dk wd Bk) (hO : SuperOK wd Bk) {gB gI gN nb pp jj qq : Int32} (hnb : nb = bk) (hP : gB.toInt = (gP wd Bk : Int)) (hG : gI.toInt = (gG wd Bk : Int)) (hQ : gN.toInt = (gQ wd Bk : Int)) (hP' : pp.toInt = (gP wd Bk : Int)) (hJ' : jj.toInt = ((gG wd Bk / 8 : Nat) : Int)) (hQ' : qq.toInt = (gQ wd Bk : Int)) (hN : 2050 ≤ N) (mb tk mp fx : Nat → Int32) (hfx : ∀ b, b < 512 → fx b = 0) :
    ∃ (r : Int32) (mb' tk' mp' fx' : Nat → Int32), f_S_groupsStand N NW bk sz wd mb gB gI gN tk = some (r, mb', tk') ∧ f_M_badMaps N nb dk pp jj qq mp fx = some (1 - r, mp', fx') ∧ ((r = 0) ∨ (r = 1 ∧ (∀ b, b < 512 → (tk' b = 0 ↔ fx' b = 0)) ∧ ∀ h, h < gQ wd Bk → (mb' h).toInt = (gM wd Bk h : Int) ∧ (mp' h).toInt = (gM wd Bk h : Int) ∧ GroupFits wd Bk h)) := by
  obtain ⟨tk1, e1, h1⟩ := fill7_loop (N := N) (NW := NW) N tk 0 0 (by decide) (by omega) (by omega) (by intro b hb; omega)
  have hq := gQ_le hO hC.2.2.2.1 hC.2.2.2.2
  unfold f_S_groupsStand f_J_fill7 f_M_badMaps
  rw [e1]
  simp only [bd1]
  exact groups_loop hC hS hO hnb hP hG hQ hP' hJ' hQ' hN N N mb tk1 mp fx 0 0 (by decide) (by omega) (by omega) (by omega) (fun b hb => by rw [h1 b hb, hfx b hb]) (fun b _ hb => h1 b hb) (fun h hh => by omega)
end GR
