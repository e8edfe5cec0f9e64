/-! fault 8: all groups -/
section MD
theorem cntB_0 (p : Nat → Bool) : (0 : Int32).toInt = ((cntB p 0 : Nat) : Int) := by
  show (0 : Int32).toInt = ((0 : Nat) : Int)
  decide
variable {N NW Bk : Nat} {sz bk nb : Int32} {wd : Nat → Int64} {dk : Nat → Int32} {mb mp : Nat → Int32} {gI gg : Int32} {G : Nat} {M : Nat → Nat} {Q : Nat} {fx : Nat → Int32}
theorem maps_loop (hC : CtxD NW sz bk Bk) (hS : Same dk wd Bk) (hL : CtxL mb gI G M Q) (hM : CtxM mp gg G M Q Bk) (hO : SuperOK wd Bk) (hQe : Q = gQ wd Bk) (hnb : nb = bk) (hN : 10000 ≤ N) {tk kn li pa ins tn oq pq fo ca : Nat → Int32} {cm : Int32} {c : Nat} (hR : TreeR wd Bk G M Q fx tk kn li pa ins tn oq pq fo ca c) (hcm : cm.toInt = (c : Int)) {gB gN pp qq : Int32} (hP : gB.toInt = (gP wd Bk : Int)) (hgN : gN.toInt = (Q : Int)) (hP' : pp.toInt = (gP wd Bk : Int)) (hq : qq.toInt = (Q : Int)) :
    ∀ (k km g A B : Nat) (x1 x2 x3 : Int32) (y1 y2 : Int64), x3.toInt = (g : Int) → g ≤ Q → Q - g < k → Q - g < km → x1.toInt = (A : Int) → y1.toInt = (A : Int) → x2.toInt = (B : Int) → y2.toInt = (B : Int) → A ≤ 8192 * g → B ≤ 8192 * g → ∃ r, f_S_mapsStand_6 N NW bk sz wd mb gB gI gN tk li cm k x1 x2 x3 = some r ∧ f_M_badCounts_7 N nb dk pp gg qq mp fx tn cm oq km y1 y2 x3 = some (1 - r) ∧ (r = 0 ∨ r = 1) := by
  have hB := hC.2.2.2.1
  have hB2 := hC.2.2.2.2
  have hp := gP_lt hO
  have hq8 : Q ≤ 8 := hM.2.2.2.2.1
  have hG2 := hM.2.2.1
  have hgg := hM.1
  have hgi := hL.1
  have hQG : Q * G < 4096 := hM.2.2.2.2.2.1
  have hcl := cntK_le kn (Q * G)
  rw [hR.2.2.2.2.1] at hcl
  intro k
  induction k with
  | zero => intro km g A B x1 x2 x3 y1 y2 _ _ h; omega
  | succ k ih =>
    intro km g A B x1 x2 x3 y1 y2 h3 hgQ hk hkm h1 hy1 h2 hy2 hA hB'
    cases km with
    | zero => omega
    | succ km =>
    rw [f_S_mapsStand_6, f_M_badCounts_7]
    simp only [f_L_groups, bd1]
    by_cases c0 : g = Q
    · rw [if_pos (show gN ≤ x3 by rw [le32, hgN, h3]; omega), if_pos (show qq ≤ x3 by rw [le32, hq, h3]; omega)]
      obtain ⟨r1, e1, b1'⟩ := superHas_eq (wd := wd) hC (a1 := 12) (a2 := 4) (a3 := Int32.toInt64 x1) (at' := 12) (n := 4) (w := A) (by decide) (by omega) (by decide) (by omega) (by omega) (ext3264 h1)
      obtain ⟨r2, e2, b2'⟩ := superHas_eq (wd := wd) hC (a1 := 16) (a2 := 4) (a3 := Int32.toInt64 x2) (at' := 16) (n := 4) (w := B) (by decide) (by omega) (by decide) (by omega) (by omega) (ext3264 h2)
      rw [e1, e2, four_n4 hC hS (a := 1036) (by decide) (by omega), four_n4 hC hS (a := 1040) (by decide) (by omega)]
      simp only []
      have q1 := is64 (v := n4 wd Bk 1036) (x := y1) (w := A) (n4_lt _ _ _) hy1
      have q2 := is64 (v := n4 wd Bk 1040) (x := y2) (w := B) (n4_lt _ _ _) hy2
      simp only [q1, q2]
      by_cases d1 : n4 wd Bk 1036 = A
      · rw [if_pos d1, if_neg (by rw [b1'.t d1]; decide)]
        by_cases d2 : n4 wd Bk 1040 = B
        · rw [if_pos d2, if_neg (by rw [b2'.t d2]; decide)]
          exact ⟨1, rfl, rfl, Or.inr rfl⟩
        · rw [if_neg d2, if_pos (b2'.f d2)]
          exact ⟨0, rfl, rfl, Or.inl rfl⟩
      · rw [if_neg d1, if_pos (b1'.f d1)]
        exact ⟨0, rfl, rfl, Or.inl rfl⟩
    · have hg2 : g < Q := by omega
      rw [if_neg (show ¬ gN ≤ x3 by rw [le32, hgN, h3]; omega), if_neg (show ¬ qq ≤ x3 by rw [le32, hq, h3]; omega)]
      obtain ⟨i1, i2, i3⟩ := gq_in hO hB (g := g) (by omega)
      obtain ⟨hm1, hm2, hm3⟩ := hM.2.2.2.2.2.2 g hg2
      have hlen : gLen wd Bk g = min (gP wd Bk) (Bk - (1 + g * gP wd Bk)) := rfl
      obtain ⟨rl, el, hl⟩ := blocksOf_eq (NW := NW) hC hP (by omega) h3 (by omega) (by omega)
      rw [← hlen] at hl
      -- the class's maps
      have eBM : ∃ r, f_S_blockMapStands N NW bk sz wd mb gB tk x3 = some r ∧ B01 r (MapOK wd Bk (M g) (gLen wd Bk g) (1 + g * gP wd Bk) tk 0) := by
        unfold f_S_blockMapStands
        rw [el]
        simp only [bd1]
        exact blockMap_loop (N := N) (tk := tk) hC hL hP (by omega) h3 hg2 (by omega) hl (by omega) (by omega) (by omega) N 0 0 (by decide) (by omega) (by omega)
      obtain ⟨r10, e10, h10⟩ := eBM
      obtain ⟨r17, e17, h17⟩ := onesFrom_eq (N := N) (NW := NW) (wd := wd) (x1 := Int64.ofNat (1024 * M g + 1024)) (p := 1024 * M g + 1024) hC (num64 (by omega)) (by omega) (by omega) hgi (by omega)
      have eFB : ∃ r, f_S_freeBlocks N NW bk gB tk x3 = some r ∧ r.toInt = ((cntB (fun k => decide (tk (1 + g * gP wd Bk + k) = 0)) (gLen wd Bk g) : Nat) : Int) := by
        unfold f_S_freeBlocks
        rw [el]
        simp only [bd1]
        exact freeBlocks_loop (N := N) (bk := bk) (tk := tk) hP (by omega) h3 (by omega) hl (by omega) N 0 0 0 (by decide) (cntB_0 _) (by omega) (by omega)
      obtain ⟨r20, e20, h20⟩ := eFB
      have eFI : ∃ r, f_S_freeInodes N NW sz wd mb gI x3 = some r ∧ r.toInt = ((cntB (fun k => !mbit wd Bk (1024 * M g + 1024) k) G : Nat) : Int) := by
        unfold f_S_freeInodes
        exact freeInodes_loop (N := N) (wd := wd) hC hL h3 hg2 N 0 0 0 (by decide) (cntB_0 _) (by omega) (by omega)
      obtain ⟨r22, e22, h22⟩ := eFI
      have c20 := cntB_le (fun k => decide (tk (1 + g * gP wd Bk + k) = 0)) (gLen wd Bk g)
      have c22 := cntB_le (fun k => !mbit wd Bk (1024 * M g + 1024) k) G
      rw [e10, inodeMap_eq hL h3 hg2]
      simp only [f_L_groupInodes]
      rw [e17, e20, e22]
      simp only []
      rcases mbits_loop (N := N) (nb := nb) (dk := dk) (fx := fx) (K7 := f_M_badCounts_7 N nb dk pp gg qq mp fx tn cm oq km) (x1 := y1) (x3 := y2) (x8 := 0) (oq := oq) (cm := cm) hC hS hM hO hQe hnb hR.1 hP' hq h3 hg2 N 0 0 0 0 (by decide) (by omega) (by omega) (cntB_0 _) (cntB_0 _) with ⟨hok, y6, y7, hy6, hy7, em⟩ | ⟨hno, em⟩
      · rw [em]
        obtain ⟨hmap, hones⟩ := (bits_iff (by omega)).mp hok
        rw [if_neg (by rw [h10.t hmap]; decide), if_neg (by rw [h17.t hones]; decide)]
        -- the same numbers
        have n6 : cntB (fun k => decide (k < gLen wd Bk g) && decide (tk (1 + g * gP wd Bk + k) = 0)) 8192 = cntB (fun k => decide (tk (1 + g * gP wd Bk + k) = 0)) (gLen wd Bk g) := by
          rw [cntB_ext (a := gLen wd Bk g) 8192 (by omega) (fun k k1 k2 => by simp only [decide_eq_false (show ¬ k < gLen wd Bk g by omega), Bool.false_and])]
          exact cntB_congr _ (fun k hk => by simp [hk])
        have n7 : cntB (fun k => decide (k < G) && !mbit wd Bk (1024 * M g + 1024) k) 8192 = cntB (fun k => !mbit wd Bk (1024 * M g + 1024) k) G := by
          rw [cntB_ext (a := G) 8192 (by omega) (fun k k1 k2 => by simp only [decide_eq_false (show ¬ k < G by omega), Bool.false_and])]
          exact cntB_congr _ (fun k hk => by simp [hk])
        rw [n6] at hy6
        rw [n7] at hy7
        have s6 : y6 = r20 := by rw [eq32, hy6, h20]
        have s7 : y7 = r22 := by rw [eq32, hy7, h22]
        subst s6
        subst s7
        obtain ⟨r32, e32, m32⟩ := dirs_loop (N := N) (nb := nb) (dk := dk) (pp := pp) (qq := qq) (K7 := f_M_badCounts_7 N nb dk pp gg qq mp fx tn cm oq km) (x1 := y1) (x3 := y2) (x6 := y6) (x7 := y7) hC hS hL hM hR hcm h3 N N 0 0 0 (by decide) (by omega) (by omega) (by omega)
        rw [m32]
        have e32' : f_S_directories N NW sz wd mb gI li cm x3 = some r32 := e32
        have D12 : f_L_described NW sz wd x3 12 2 = some (Int64.ofNat (n2 wd Bk (2048 + 32 * g + 12))) := described_eq hC (a1 := x3) (a2 := 12) (a3 := 2) (g := g) (at' := 12) (n := 2) h3 (by omega) (by decide) (by omega) (by decide) (by omega) (by omega)
        have D14 : f_L_described NW sz wd x3 14 2 = some (Int64.ofNat (n2 wd Bk (2048 + 32 * g + 14))) := described_eq hC (a1 := x3) (a2 := 14) (a3 := 2) (g := g) (at' := 14) (n := 2) h3 (by omega) (by decide) (by omega) (by decide) (by omega) (by omega)
        have D16 : f_L_described NW sz wd x3 16 2 = some (Int64.ofNat (n2 wd Bk (2048 + 32 * g + 16))) := described_eq hC (a1 := x3) (a2 := 16) (a3 := 2) (g := g) (at' := 16) (n := 2) h3 (by omega) (by decide) (by omega) (by decide) (by omega) (by omega)
        have hd : ((2048 : Int32) + 32 * x3).toInt = ((2048 + 32 * g : Nat) : Int) := by
          rw [add32 (x := 2048) (by decide) (mul32 (x := 32) (by decide) h3 (by omega) (by omega)) (by omega) (by omega)]; omega
        have T12 := two_n2 hC hS (a1 := 2048 + 32 * x3 + 12) (a := 2048 + 32 * g + 12) (by rw [add32 (y := 12) hd (by decide) (by omega) (by omega)]; omega) (by omega)
        have T14 := two_n2 hC hS (a1 := 2048 + 32 * x3 + 14) (a := 2048 + 32 * g + 14) (by rw [add32 (y := 14) hd (by decide) (by omega) (by omega)]; omega) (by omega)
        have T16 := two_n2 hC hS (a1 := 2048 + 32 * x3 + 16) (a := 2048 + 32 * g + 16) (by rw [add32 (y := 16) hd (by decide) (by omega) (by omega)]; omega) (by omega)
        rw [f_M_badCounts_208, if_pos (show cm ≤ cm by rw [le32]; omega), D12, D14, D16, e32']
        simp only [lt1, bd1]
        rw [T12, T14, T16]
        simp only []
        have q1 := due_iff (n2_lt wd Bk (2048 + 32 * g + 12)) y6
        have q2 := due_iff (n2_lt wd Bk (2048 + 32 * g + 14)) y7
        have q3 := due_iff (n2_lt wd Bk (2048 + 32 * g + 16)) r32
        simp only [q1, q2, q3]
        by_cases d1 : Int32.ofNat (n2 wd Bk (2048 + 32 * g + 12)) = y6
        · rw [if_pos d1, if_pos d1]
          by_cases d2 : Int32.ofNat (n2 wd Bk (2048 + 32 * g + 14)) = y7
          · rw [if_pos d2, if_pos d2]
            by_cases d3 : Int32.ofNat (n2 wd Bk (2048 + 32 * g + 16)) = r32
            · rw [if_pos d3, if_pos d3]
              exact ih km (g + 1) (A + cntB (fun k => decide (tk (1 + g * gP wd Bk + k) = 0)) (gLen wd Bk g)) (B + cntB (fun k => !mbit wd Bk (1024 * M g + 1024) k) G) _ _ _ _ _ (by rw [add32 (y := 1) h3 (by decide) (by omega) (by omega)]; omega) (by omega) (by omega) (by omega) (by rw [add32 h1 h20 (by omega) (by omega)]; omega) (by rw [add64 hy1 (ext3264 h20) (by omega) (by omega)]; omega) (by rw [add32 h2 h22 (by omega) (by omega)]; omega) (by rw [add64 hy2 (ext3264 h22) (by omega) (by omega)]; omega) (by omega) (by omega)
            · rw [if_neg d3, if_neg d3]
              exact ⟨0, rfl, rfl, Or.inl rfl⟩
          · rw [if_neg d2, if_neg d2]
            exact ⟨0, rfl, rfl, Or.inl rfl⟩
        · rw [if_neg d1, if_neg d1]
          exact ⟨0, rfl, rfl, Or.inl rfl⟩
      · rw [em]
        by_cases dm : MapOK wd Bk (M g) (gLen wd Bk g) (1 + g * gP wd Bk) tk 0
        · rw [if_neg (by rw [h10.t dm]; decide), if_pos (h17.f (fun h => hno ((bits_iff (by omega)).mpr ⟨dm, h⟩)))]
          exact ⟨0, rfl, rfl, Or.inl rfl⟩
        · rw [if_pos (h10.f dm)]
          exact ⟨0, rfl, rfl, Or.inl rfl⟩
theorem maps_sim (hC : CtxD NW sz bk Bk) (hS : Same dk wd Bk) (hL : CtxL mb gI G M Q) (hM : CtxM mp gg G M Q Bk) (hO : SuperOK wd Bk) (hQe : Q = gQ wd Bk) (hnb : nb = bk) (hN : 10000 ≤ N) {tk kn li pa ins tn oq pq fo ca : Nat → Int32} {cm : Int32} {c : Nat} (hR : TreeR wd Bk G M Q fx tk kn li pa ins tn oq pq fo ca c) (hcm : cm.toInt = (c : Int)) {gB gN pp qq : Int32} (hP : gB.toInt = (gP wd Bk : Int)) (hgN : gN.toInt = (Q : Int)) (hP' : pp.toInt = (gP wd Bk : Int)) (hq : qq.toInt = (Q : Int)) :
    ∃ r, f_S_mapsStand N NW bk sz wd mb gB gI gN tk li cm = some r ∧ f_M_badCounts N nb dk pp gg qq mp fx tn cm oq = some (1 - r) ∧ (r = 0 ∨ r = 1) := by
  have hq8 : Q ≤ 8 := hM.2.2.2.2.1
  exact maps_loop hC hS hL hM hO hQe hnb hN hR hcm hP hgN hP' hq N N 0 0 0 0 0 0 0 0 (by decide) (by omega) (by omega) (by omega) (by decide) (by decide) (by decide) (by decide) (by omega) (by omega)
end MD
