/-! takeWhole and isWhole -/
section WI
variable {N NW Bk : Nat} {sz bk nb : Int32} {wd : Nat → Int64} {dk : Nat → Int32} {mb mp : Nat → Int32} {gI gg : Int32} {G : Nat} {M : Nat → Nat} {Q : Nat} {fx : Nat → Int32}
/-- the reference behind the direct pointers, where a spare pointer behind them is not 0 -/
theorem mbad_12 (hC : CtxD NW sz bk Bk) (hnb : nb = bk) (hS : Same dk wd Bk) (hM : CtxM mp gg G M Q Bk) (hN : 20 ≤ N) {x1 x2 x3 : Int32} {i n : Nat} (hi : x1.toInt = (i : Int)) (h1 : 1 ≤ i) (h8 : (i - 1) / G < Q) (h2 : x2.toInt = (n : Int)) (hno : ¬ ((12 < n ∨ n4 wd Bk (ipl G M i + 88) = 0) ∧ (268 < n ∨ n4 wd Bk (ipl G M i + 92) = 0))) {tk tn : Nat → Int32} (hT : TK tk fx tn) :
    ∃ tn', f_M_isWhole_131 N nb dk gg mp fx 1 tn x1 x2 x3 1 12 = some (0, tn') := by
  have z : (12 : Int32).toInt = 12 := by decide
  have z2 : (268 : Int32).toInt = 268 := by decide
  have hz : ∀ a, (Int64.ofNat (n4 wd Bk a) = 0 ↔ n4 wd Bk a = 0) := fun a => zero64_iff (by have := n4_lt wd Bk a; omega)
  have hgo : ∀ tn', n ≤ 268 → n4 wd Bk (ipl G M i + 92) ≠ 0 → f_M_isWhole_213 N nb dk gg mp fx tn' x1 x2 x3 1 = some (0, tn') := by
    intro tn' hn hp
    unfold f_M_isWhole_213
    rw [if_neg (by decide), if_pos (by rw [le32, h2, z2]; omega), mpointer_eq hC hS hM (k := 13) hi h1 h8 (by decide) (by omega)]
    simp only [bd1]
    rw [show ipl G M i + 40 + 4 * 13 = ipl G M i + 92 by omega]
    rw [if_neg (fun h => hp ((hz _).mp h))]
    obtain ⟨m, e⟩ : ∃ m, N = m + 1 := ⟨N - 1, by omega⟩
    conv => lhs; arg 7; rw [e]
    exact mbad_266 (by omega) m
  rw [f_M_isWhole_131, if_pos (by decide), if_neg (by decide), mpointer_eq hC hS hM (k := 12) hi h1 h8 (by decide) (by omega)]
  simp only [bd1]
  rw [show ipl G M i + 40 + 4 * 12 = ipl G M i + 88 by omega]
  have hv := n4_lt wd Bk (ipl G M i + 88)
  by_cases c : x2 ≤ 12
  · rw [if_pos c]; rw [le32, h2, z] at c
    by_cases c0 : n4 wd Bk (ipl G M i + 88) = 0
    · rw [if_pos ((hz _).mpr c0)]
      exact ⟨tn, hgo tn (by omega) (fun hp => hno ⟨Or.inr c0, Or.inr hp⟩)⟩
    · rw [if_neg (fun h => c0 ((hz _).mp h))]
      exact ⟨tn, mbad_213 (by omega)⟩
  · rw [if_neg c]; rw [le32, h2, z] at c
    have hlate : n ≤ 268 ∧ n4 wd Bk (ipl G M i + 92) ≠ 0 := by
      constructor
      · by_cases q : 268 < n
        · exact absurd ⟨Or.inl (by omega), Or.inl q⟩ hno
        · omega
      · intro hp; exact hno ⟨Or.inl (by omega), Or.inr hp⟩
    rcases take_sim (fx := fx) hC hnb hT hv with ⟨e1, e2⟩ | ⟨hin, tk1, tn1, e1, e2, hT1⟩
    · rw [e2]
      simp only [bd2]
      first | rw [if_pos rfl] | rw [if_pos trivial]
      exact ⟨tn, mbad_213 (by omega)⟩
    · rw [e2]
      simp only [bd2]
      rw [if_neg (by decide)]
      exact ⟨tn1, hgo tn1 hlate.1 hlate.2⟩
/-- from the number at 28 on -/
theorem whole_93 (hC : CtxD NW sz bk Bk) (hnb : nb = bk) (hS : Same dk wd Bk) (hL : CtxL mb gI G M Q) (hM : CtxM mp gg G M Q Bk) {x1 x4 x5 s0 s1 : Int32} {i n F a b : Nat} (hi : x1.toInt = (i : Int)) (h1 : 1 ≤ i) (h8 : (i - 1) / G < Q) (h4 : x4.toInt = (n : Int)) (hn : n < 60000) (h5 : x5.toInt = (F : Int)) (hF : F = if 268 < n then (n - 268 + 255) / 256 else 0) (hs0 : s0.toInt = (a : Int)) (ha : a ≤ 1) (hs1 : s1.toInt = (b : Int)) (hb : b ≤ 1) (hN : 60001 ≤ N) {tk tn : Nat → Int32} (hT : TK tk fx tn) :
    ∃ r tk' tn', f_S_takeWhole_93 N NW bk sz wd mb gI tk x1 x4 x5 s0 s1 = some (r, tk') ∧ f_M_isWhole_79 N nb dk gg mp fx tn x1 x4 x5 s0 s1 = some (r, tn') ∧ (r = 0 ∨ (r = 1 ∧ TK tk' fx tn' ∧ PtrOK wd Bk (ipl G M i) n ∧ ∀ c, c < n → InB Bk (blN wd Bk G M i c))) := by
  have hB2 := hC.2.2.2.2
  have z : (12 : Int32).toInt = 12 := by decide
  have hz : ∀ a, (Int64.ofNat (n4 wd Bk a) = 0 ↔ n4 wd Bk a = 0) := fun a => zero64_iff (by have := n4_lt wd Bk a; omega)
  have hin := ipl_in hM h8
  have hFn : F < 60000 := by
    by_cases c : 268 < n
    · rw [if_pos c] at hF; omega
    · rw [if_neg c] at hF; omega
  unfold f_S_takeWhole_93 f_M_isWhole_79
  simp only [lt1]
  obtain ⟨rp, ep, hp⟩ := minodeAt_eq hB2 hM hi h1 h8
  rw [field_eq hC hL hi h1 h8 (at' := 28) (n := 4) (by decide) (by omega) (by decide) (by omega) (by omega), ep]
  simp only [bd1]
  rw [four_n4 hC hS (a := ipl G M i + 28) (by rw [add32 (y := 28) hp (by decide) (by omega) (by omega)]; omega) (by omega)]
  have hv := n4_lt wd Bk (ipl G M i + 28)
  have es : (s0 + s1 + x5).toInt = ((a + b + F : Nat) : Int) := by
    rw [add32 (add32 hs0 hs1 (by omega) (by omega)) h5 (by omega) (by omega)]; omega
  have en : (x4 + (s0 + s1 + x5)).toInt = ((n + (a + b + F) : Nat) : Int) := by rw [add32 h4 es (by omega) (by omega)]; omega
  have q1 : (Int64.ofNat (n4 wd Bk (ipl G M i + 28)) = Int32.toInt64 (2 * (x4 + (s0 + s1 + x5)))) ↔ n4 wd Bk (ipl G M i + 28) = 2 * (n + (a + b + F)) := by
    rw [eq64, num64 (by omega), ext3264 (mul32 (x := 2) (by decide) en (by omega) (by omega))]; omega
  have q2 : (Int64.ofNat (n4 wd Bk (ipl G M i + 28)) = 2 * Int32.toInt64 (x4 + (s0 + s1 + x5))) ↔ n4 wd Bk (ipl G M i + 28) = 2 * (n + (a + b + F)) := by
    rw [eq64, num64 (by omega), mul64 (x := 2) (by decide) (ext3264 en) (by omega) (by omega)]; omega
  simp only [q1, q2]
  have bad0 : ∀ y, y = some ((0 : Int32), tn) → ∃ r tk' tn', some ((0 : Int32), tk) = some (r, tk') ∧ y = some (r, tn') ∧ (r = 0 ∨ (r = 1 ∧ TK tk' fx tn' ∧ PtrOK wd Bk (ipl G M i) n ∧ ∀ c, c < n → InB Bk (blN wd Bk G M i c))) := by
    intro y e; exact ⟨0, tk, tn, rfl, e, Or.inl rfl⟩
  by_cases c : n4 wd Bk (ipl G M i + 28) = 2 * (n + (a + b + F))
  · rw [if_pos c, if_pos c]
    have hpl := ipl_lt hL h8
    have espare : ∃ r, f_S_spareAreZero N NW sz wd mb gI x1 x4 = some r ∧ B01 r (SpareOK wd Bk (ipl G M i) n) := by
      unfold f_S_spareAreZero
      rw [place_eq hL hi h1 h8]
      exact spare_loop hC h4 (num64 (v := ipl G M i) (by omega)) (by omega) N x4 n h4 (by omega) (by omega)
    obtain ⟨rs, es', hs'⟩ := espare
    rw [es', mpointer_eq hC hS hM (k := 14) hi h1 h8 (by decide) (by omega)]
    simp only []
    rw [show ipl G M i + 40 + 4 * 14 = ipl G M i + 96 by omega]
    by_cases c96 : n4 wd Bk (ipl G M i + 96) = 0
    · rw [if_pos ((hz _).mpr c96)]
      rcases m131 (N := N) (nb := nb) (fx := fx) (tn := tn) (x2 := x4) (x3 := x5) hC hS hM (by omega) hi h1 h8 N x4 n h4 (by omega) (by omega) with ⟨hd, e⟩ | ⟨hd, e⟩
      · rw [e]
        by_cases cA : (12 < n ∨ n4 wd Bk (ipl G M i + 88) = 0) ∧ (268 < n ∨ n4 wd Bk (ipl G M i + 92) = 0)
        · have hok : SpareOK wd Bk (ipl G M i) n := ⟨hd, cA.1, cA.2, c96⟩
          rw [if_neg (by rw [hs'.t hok]; decide)]
          have E12 : f_M_isWhole_131 N nb dk gg mp fx 1 tn x1 x4 x5 1 12 = (if x4 ≤ 12 then (if Int64.ofNat (n4 wd Bk (ipl G M i + 88)) = 0 then f_M_isWhole_213 N nb dk gg mp fx tn x1 x4 x5 1 else f_M_isWhole_213 N nb dk gg mp fx tn x1 x4 x5 0) else bd2 (f_M_takes nb fx tn (Int64.ofNat (n4 wd Bk (ipl G M i + 88)))) (fun (r_9 : Int32) (tn_10 : Nat → Int32) => (if r_9 = 0 then (f_M_isWhole_213 N nb dk gg mp fx tn_10 x1 x4 x5 0) else (f_M_isWhole_213 N nb dk gg mp fx tn_10 x1 x4 x5 1)))) := by
            rw [f_M_isWhole_131, if_pos (by decide), if_neg (by decide), mpointer_eq hC hS hM (k := 12) hi h1 h8 (by decide) (by omega)]
            rfl
          rw [E12]
          by_cases c12 : x4 ≤ 12
          · rw [if_pos c12, if_pos c12]; rw [le32, h4, z] at c12
            rw [if_pos ((hz _).mpr (cA.1.resolve_left (by omega)))]
            exact outer_sim hC hnb hS hL hM hi h1 h8 h4 hn h5 hF (fun h => by omega) cA.2 hN hT
          · rw [if_neg c12, if_neg c12]; rw [le32, h4, z] at c12
            rw [field_eq hC hL hi h1 h8 (at' := 88) (n := 4) (by decide) (by omega) (by decide) (by omega) (by omega)]
            simp only []
            have hv2 := n4_lt wd Bk (ipl G M i + 88)
            change ∃ r tk' tn', bd2 (f_S_take NW bk tk (Int64.ofNat (n4 wd Bk (ipl G M i + 88)))) _ = _ ∧ _
            rcases take_sim (fx := fx) hC hnb hT hv2 with ⟨e1, e2⟩ | ⟨hib, tk1, tn1, e1, e2, hT1⟩
            · rw [e1, e2]
              simp only [bd2]
              first | rw [if_pos rfl, if_pos rfl] | rw [if_pos trivial, if_pos trivial]
              exact bad0 _ (mbad_213 (by omega))
            · rw [e1, e2]
              simp only [bd2]
              rw [if_neg (by decide), if_neg (by decide)]
              exact outer_sim hC hnb hS hL hM hi h1 h8 h4 hn h5 hF (fun _ => hib) cA.2 hN hT1
        · rw [if_pos (hs'.f (fun h => cA ⟨h.2.1, h.2.2.1⟩))]
          obtain ⟨tn', e'⟩ := mbad_12 (N := N) (fx := fx) (x3 := x5) hC hnb hS hM (by omega) hi h1 h8 h4 cA hT
          exact ⟨0, tk, tn', rfl, e', Or.inl rfl⟩
      · rw [e, if_pos (hs'.f (fun h => hd h.1))]
        exact bad0 _ rfl
    · rw [if_neg (fun h => c96 ((hz _).mp h)), if_pos (hs'.f (fun h => c96 h.2.2.2))]
      exact bad0 _ (mbad_131 (by omega) N x4 n h4 (by omega) (by omega))
  · rw [if_neg c, if_neg c]
    exact bad0 _ (mbad_131 (by omega) N x4 n h4 (by omega) (by omega))
theorem whole_sim (hC : CtxD NW sz bk Bk) (hnb : nb = bk) (hS : Same dk wd Bk) (hL : CtxL mb gI G M Q) (hM : CtxM mp gg G M Q Bk) {x1 : Int32} {i : Nat} (hi : x1.toInt = (i : Int)) (h1 : 1 ≤ i) (h8 : (i - 1) / G < Q) (hN : 60001 ≤ N) {tk tn : Nat → Int32} (hT : TK tk fx tn) :
    ∃ r tk' tn', f_S_takeWhole N NW bk sz wd mb gI tk x1 = some (r, tk') ∧ f_M_isWhole N nb dk gg mp fx tn x1 = some (r, tn') ∧ (r = 0 ∨ (r = 1 ∧ TK tk' fx tn' ∧ WholeF wd Bk G M i)) := by
  have hB2 := hC.2.2.2.2
  have hbk := hC.2.2.1
  have z2 : (268 : Int32).toInt = 268 := by decide
  have z12 : (12 : Int32).toInt = 12 := by decide
  unfold f_S_takeWhole f_M_isWhole f_D_blocks
  have hsv : szN wd Bk G M i < 4294967296 := n4_lt _ _ _
  have S0 : f_L_sizeOf NW sz wd mb gI x1 = some (Int64.ofNat (szN wd Bk G M i)) := sizeOf_eq hC hL hi h1 h8
  rw [S0, msize_eq hC hS hM hi h1 h8]
  clear S0
  simp only [bd1]
  unfold WholeF
  generalize szN wd Bk G M i = s at *
  have es : (Int64.ofNat s).toInt = (s : Int) := num64 (by omega)
  have q1 : (Int64.ofNat s ≤ 1024 * Int32.toInt64 bk) ↔ s ≤ 1024 * Bk := by
    rw [le64, es, mul64 (x := 1024) (by decide) (ext3264 hbk) (by omega) (by omega)]; omega
  subst hnb
  simp only [q1]
  by_cases c : s ≤ 1024 * Bk
  · rw [if_pos c, if_pos c]
    obtain ⟨r6, e6, h6⟩ := blocksFor_eq (NW := NW) es hsv
    have em : f_M_parts (Int64.ofNat s).toInt32 1024 = some r6 := by
      unfold f_M_parts
      rw [if_neg (by decide)]
      refine congrArg some ?_
      rw [eq32, h6, div32 (y := 1024) (sub32 (y := 1) (add32 (y := 1024) (cut6432 es (by omega) (by omega)) (by decide) (by omega) (by omega)) (by decide) (by omega) (by omega)) (by decide) (by omega) (by omega)]
      omega
    rw [e6, em]
    simp only [bd1]
    generalize hn : (s + 1023) / 1024 = n at *
    have fin : ∀ {x5 : Int32} {F : Nat}, x5.toInt = (F : Int) → F = (if 268 < n then (n - 268 + 255) / 256 else 0) → ∃ r tk' tn', f_S_takeWhole_66 N NW nb sz wd mb gI tk x1 r6 x5 = some (r, tk') ∧ f_M_isWhole_55 N nb dk gg mp fx tn x1 r6 x5 = some (r, tn') ∧ (r = 0 ∨ (r = 1 ∧ TK tk' fx tn' ∧ s ≤ 1024 * Bk ∧ PtrOK wd Bk (ipl G M i) n ∧ ∀ b, b < n → InB Bk (blN wd Bk G M i b))) := by
      intro x5 F h5 hF
      have go : ∀ {s0 s1 : Int32} {a b : Nat}, s0.toInt = (a : Int) → a ≤ 1 → s1.toInt = (b : Int) → b ≤ 1 → ∃ r tk' tn', f_S_takeWhole_93 N NW nb sz wd mb gI tk x1 r6 x5 s0 s1 = some (r, tk') ∧ f_M_isWhole_79 N nb dk gg mp fx tn x1 r6 x5 s0 s1 = some (r, tn') ∧ (r = 0 ∨ (r = 1 ∧ TK tk' fx tn' ∧ s ≤ 1024 * Bk ∧ PtrOK wd Bk (ipl G M i) n ∧ ∀ b, b < n → InB Bk (blN wd Bk G M i b))) := by
        intro s0 s1 a b q1 q2 q3 q4
        obtain ⟨r, tk', tn', f1, f2, f3⟩ := whole_93 (N := N) (fx := fx) hC rfl hS hL hM hi h1 h8 h6 (by omega) h5 hF q1 q2 q3 q4 hN hT
        refine ⟨r, tk', tn', f1, f2, ?_⟩
        rcases f3 with f3 | ⟨g1, g2, g3, g4⟩
        · exact Or.inl f3
        · exact Or.inr ⟨g1, g2, c, g3, g4⟩
      unfold f_S_takeWhole_66 f_M_isWhole_55 f_S_takeWhole_80 f_M_isWhole_67
      by_cases d1 : r6 ≤ 12
      · rw [if_pos d1, if_pos d1]
        by_cases d2 : r6 ≤ 268
        · rw [if_pos d2, if_pos d2]; exact go (a := 0) (b := 0) (by decide) (by omega) (by decide) (by omega)
        · rw [if_neg d2, if_neg d2]; exact go (a := 0) (b := 1) (by decide) (by omega) (by decide) (by omega)
      · rw [if_neg d1, if_neg d1]
        by_cases d2 : r6 ≤ 268
        · rw [if_pos d2, if_pos d2]; exact go (a := 1) (b := 0) (by decide) (by omega) (by decide) (by omega)
        · rw [if_neg d2, if_neg d2]; exact go (a := 1) (b := 1) (by decide) (by omega) (by decide) (by omega)
    by_cases d : r6 ≤ 268
    · rw [if_pos d, if_pos d]; rw [le32, h6, z2] at d
      exact fin (F := 0) (by decide) (by rw [if_neg (by omega)])
    · rw [if_neg d, if_neg d]; rw [le32, h6, z2] at d
      have ep : f_M_parts (r6 - 268) 256 = some (((r6 - 268) + 256 - 1) / 256) := by
        unfold f_M_parts; rw [if_neg (by decide)]
      rw [ep]
      simp only []
      exact fin (F := (n - 268 + 255) / 256) (by
        rw [div32 (y := 256) (sub32 (y := 1) (add32 (y := 256) (sub32 h6 z2 (by omega) (by omega)) (by decide) (by omega) (by omega)) (by decide) (by omega) (by omega)) (by decide) (by omega) (by omega)]
        omega) (by rw [if_pos (by omega)])
  · rw [if_neg c, if_neg c]
    exact ⟨0, tk, tn, rfl, rfl, Or.inl rfl⟩
end WI
