/-! the reference's inodes, maps and pointers -/
section ML
variable {N NW Bk : Nat} {sz bk : Int32} {wd : Nat → Int64} {dk : Nat → Int32} {mp : Nat → Int32} {gg : Int32} {G : Nat} {M : Nat → Nat} {Q : Nat}
/-- the groups' frame of the reference -/
def CtxM (mp : Nat → Int32) (gg : Int32) (G : Nat) (M : Nat → Nat) (Q Bk : Nat) : Prop := gg.toInt = (G : Int) ∧ 8 ≤ G ∧ G ≤ 8192 ∧ G % 8 = 0 ∧ Q ≤ 8 ∧ Q * G < 4096 ∧ ∀ g, g < Q → (mp g).toInt = (M g : Int) ∧ 3 ≤ M g ∧ M g + 2 + G / 8 ≤ Bk
def InR (G Q i : Nat) : Prop := 1 ≤ i ∧ i ≤ Q * G
theorem inR_div {G Q i : Nat} (h : InR G Q i) : (i - 1) / G < Q := by
  obtain ⟨h1, h2⟩ := h
  by_cases hG : G = 0
  · subst hG; omega
  · exact (Nat.div_lt_iff_lt_mul (by omega)).mpr (by omega)
theorem ipl_in (hM : CtxM mp gg G M Q Bk) {i : Nat} (h8 : (i - 1) / G < Q) : ipl G M i + 128 ≤ 1024 * Bk := by
  obtain ⟨g1, g2, g3, g3', gq, g4, g5⟩ := hM
  have := (g5 _ h8).2.2
  have := Nat.mod_lt (i - 1) (show G > 0 by omega)
  unfold ipl; omega
theorem minodeAt_eq (hB : Bk ≤ 512) (hM : CtxM mp gg G M Q Bk) {a1 : Int32} {i : Nat} (hi : a1.toInt = (i : Int)) (h1 : 1 ≤ i) (h8 : (i - 1) / G < Q) : ∃ r, f_M_inodeAt gg mp a1 = some r ∧ r.toInt = ((ipl G M i : Nat) : Int) := by
  have hin := ipl_in hM h8
  obtain ⟨g1, g2, g3, g3', gq, g4, g5⟩ := hM
  have hhi := i32_hi a1
  have hs : (a1 - 1).toInt = ((i - 1 : Nat) : Int) := by rw [sub32 (y := 1) hi (by decide) (by omega) (by omega)]; omega
  have hd : ((a1 - 1) / gg).toInt = (((i - 1) / G : Nat) : Int) := by rw [div32 hs g1 (by omega) (by omega)]; rfl
  have hr : ((a1 - 1) - (a1 - 1) / gg * gg).toInt = (((i - 1) % G : Nat) : Int) := by rw [rem32 hs g1 (by omega) (by omega)]; rfl
  have hml := Nat.mod_lt (i - 1) (show G > 0 by omega)
  have h4 := (g5 _ h8).1
  have h5 := (g5 _ h8).2.2
  unfold f_M_inodeAt
  unfold ipl at hin ⊢
  generalize (i - 1) / G = q at *
  generalize (i - 1) % G = t at *
  have z0 : (0 : Int32).toInt = 0 := by decide
  rw [if_neg (by rw [eq32, g1, z0]; omega), if_neg (by rw [oob_iff, hd]; omega), if_neg (by rw [eq32, g1, z0]; omega), nn32 hd]
  refine ⟨_, rfl, ?_⟩
  rw [add32 (mul32 (x := 1024) (by decide) (add32 (y := 2) h4 (by decide) (by omega) (by omega)) (by omega) (by omega)) (mul32 (x := 128) (by decide) hr (by omega) (by omega)) (by omega) (by omega)]
  omega
theorem bitcond32 : ∀ (v : Fin 256) (s : Fin 8), ((((Int32.ofNat v.1) >>> ((Int32.ofNat s.1) &&& 31)) &&& (1 : Int32)) = 1) ↔ v.1.testBit s.1 = true := by decide +kernel
theorem mbit_eq (hC : CtxD NW sz bk Bk) (hS : Same dk wd Bk) {a1 a2 : Int32} {b k : Nat} (hb : a1.toInt = (b : Int)) (hb2 : b < Bk) (hk : a2.toInt = (k : Int)) (hk2 : k < 8192) : f_M_bit dk a1 a2 = some (if mbit wd Bk (1024 * b) k then 1 else 0) := by
  have hB2 := hC.2.2.2.2
  have hd : (a2 / 8).toInt = ((k / 8 : Nat) : Int) := by rw [div32 (y := 8) hk (by decide) (by omega) (by omega)]; omega
  have hm : (a2 - a2 / 8 * 8).toInt = ((k % 8 : Nat) : Int) := by rw [rem32 (y := 8) hk (by decide) (by omega) (by omega)]; omega
  unfold f_M_bit mbit
  rw [one_b1 hC hS (a := 1024 * b + k / 8) (by rw [add32 (mul32 (x := 1024) (by decide) hb (by omega) (by omega)) hd (by omega) (by omega)]; omega) (by omega)]
  have hv := b1_lt wd Bk (1024 * b + k / 8)
  generalize b1 wd Bk (1024 * b + k / 8) = v at *
  have hx : a2 - a2 / 8 * 8 = Int32.ofNat (k % 8) := by rw [eq32, hm, lit32 _ (by omega)]
  simp only [bd1]
  rw [hx]
  have hb := bitcond32 ⟨v, hv⟩ ⟨k % 8, by omega⟩
  by_cases c : v.testBit (k % 8) = true
  · rw [if_pos (hb.mpr c), c]; rfl
  · rw [if_neg (fun h => c (hb.mp h))]
    rw [Bool.not_eq_true] at c
    rw [c]; rfl
theorem usedB_mbit (i : Nat) : usedB wd Bk G M i = mbit wd Bk (1024 * (M ((i - 1) / G) + 1)) ((i - 1) % G) := rfl
theorem is01_1 : is01 1 := Or.inr rfl
theorem is01_0 : is01 0 := Or.inl rfl
theorem misUsed_eq (hC : CtxD NW sz bk Bk) (hS : Same dk wd Bk) (hM : CtxM mp gg G M Q Bk) {a1 : Int32} {i : Nat} (hi : a1.toInt = (i : Int)) (h1 : 1 ≤ i) (h8 : (i - 1) / G < Q) : f_M_isUsed dk gg mp a1 = some (if usedB wd Bk G M i then 1 else 0) := by
  have hB2 := hC.2.2.2.2
  obtain ⟨g1, g2, g3, g3', gq, g4, g5⟩ := hM
  have hhi := i32_hi a1
  have hs : (a1 - 1).toInt = ((i - 1 : Nat) : Int) := by rw [sub32 (y := 1) hi (by decide) (by omega) (by omega)]; omega
  have hd : ((a1 - 1) / gg).toInt = (((i - 1) / G : Nat) : Int) := by rw [div32 hs g1 (by omega) (by omega)]; rfl
  have hr : ((a1 - 1) - (a1 - 1) / gg * gg).toInt = (((i - 1) % G : Nat) : Int) := by rw [rem32 hs g1 (by omega) (by omega)]; rfl
  have hml := Nat.mod_lt (i - 1) (show G > 0 by omega)
  have h4 := (g5 _ h8).1
  have h5 := (g5 _ h8).2.2
  rw [usedB_mbit]
  unfold f_M_isUsed
  generalize (i - 1) / G = q at *
  generalize (i - 1) % G = t at *
  have z0 : (0 : Int32).toInt = 0 := by decide
  rw [if_neg (by rw [eq32, g1, z0]; omega), if_neg (by rw [oob_iff, hd]; omega), if_neg (by rw [eq32, g1, z0]; omega), nn32 hd]
  rw [mbit_eq hC hS (b := M q + 1) (k := t) (by rw [add32 (y := 1) h4 (by decide) (by omega) (by omega)]; omega) (by omega) hr (by omega)]
  simp only [bd1]
  by_cases c : mbit wd Bk (1024 * (M q + 1)) t = true
  · rw [if_pos c, if_pos is01_1]
  · rw [if_neg c, if_pos is01_0]
def tyN (wd : Nat → Int64) (Bk G : Nat) (M : Nat → Nat) (i : Nat) : Nat := nu wd Bk ((ipl G M i : Nat) : Int) 2 / 4096 * 4096
def szN (wd : Nat → Int64) (Bk G : Nat) (M : Nat → Nat) (i : Nat) : Nat := n4 wd Bk (ipl G M i + 4)
def blN (wd : Nat → Int64) (Bk G : Nat) (M : Nat → Nat) (i b : Nat) : Nat := blkN (n4 wd Bk) (ipl G M i) b
theorem and_type : ∀ v : Fin 16, ∀ w : Int32, w.toBitVec.toNat / 4096 % 16 = v.1 → w.toBitVec.toNat < 65536 → (w &&& (61440 : Int32)).toBitVec.toNat = v.1 * 4096 := by
  intro v w h1 h2
  have h3 : (w &&& (61440 : Int32)).toBitVec.toNat = w.toBitVec.toNat &&& 61440 := by
    rw [Int32.toBitVec_and, BitVec.toNat_and]; rfl
  rw [h3]
  generalize w.toBitVec.toNat = x at *
  have e : x &&& 61440 = x / 4096 * 4096 := by
    apply Nat.eq_of_testBit_eq
    intro j
    rw [Nat.testBit_and, show x / 4096 * 4096 = (x >>> 12) <<< 12 by rw [Nat.shiftLeft_eq, Nat.shiftRight_eq_div_pow], Nat.testBit_shiftLeft, Nat.testBit_shiftRight]
    by_cases c : j < 16
    · have : ∀ j : Fin 16, Nat.testBit 61440 j.1 = decide (12 ≤ j.1) := by decide
      rw [this ⟨j, c⟩]
      by_cases c2 : 12 ≤ j
      · simp [c2]
      · simp [c2]
    · have hx : x.testBit j = false := Nat.testBit_lt_two_pow (Nat.lt_of_lt_of_le h2 (by rw [show (65536 : Nat) = 2 ^ 16 from rfl]; exact Nat.pow_le_pow_right (by decide) (by omega)))
      rw [hx]
      by_cases c2 : 12 ≤ j
      · simp [c2, show 12 + (j - 12) = j by omega, hx]
      · omega
  rw [e]
  omega
theorem mtypeOf_eq (hC : CtxD NW sz bk Bk) (hS : Same dk wd Bk) (hM : CtxM mp gg G M Q Bk) {a1 : Int32} {i : Nat} (hi : a1.toInt = (i : Int)) (h1 : 1 ≤ i) (h8 : (i - 1) / G < Q) : f_M_typeOf dk gg mp a1 = some (Int32.ofNat (tyN wd Bk G M i)) := by
  have hB2 := hC.2.2.2.2
  have hin := ipl_in hM h8
  obtain ⟨r, e, hr⟩ := minodeAt_eq hB2 hM hi h1 h8
  unfold f_M_typeOf tyN
  rw [e]
  simp only [bd1]
  rw [two_n2 hC hS hr (by omega)]
  refine congrArg some ?_
  have hv := n2_lt wd Bk (ipl G M i)
  show Int32.ofNat (n2 wd Bk (ipl G M i)) &&& 61440 = Int32.ofNat (n2 wd Bk (ipl G M i) / 4096 * 4096)
  generalize n2 wd Bk (ipl G M i) = v at *
  have hn : (Int32.ofNat v).toBitVec.toNat = v := by
    rw [Int32.toBitVec_ofNat', BitVec.toNat_ofNat]; omega
  have hq := and_type ⟨v / 4096 % 16, by omega⟩ (Int32.ofNat v) (by rw [hn]) (by omega)
  rw [eq32, toInt_of_nat32 hq (by show v / 4096 % 16 * 4096 < _; omega), lit32 _ (by omega)]
  show ((v / 4096 % 16 * 4096 : Nat) : Int) = _
  omega
theorem ctypeOf_eq {mb : Nat → Int32} {gI : Int32} (hC : CtxD NW sz bk Bk) (hL : CtxL mb gI G M Q) {a1 : Int32} {i : Nat} (hi : a1.toInt = (i : Int)) (h1 : 1 ≤ i) (h8 : (i - 1) / G < Q) : f_L_typeOf NW sz wd mb gI a1 = some (Int32.ofNat (tyN wd Bk G M i)) := by
  obtain ⟨r, e, h⟩ := typeOf_eq (wd := wd) hC hL hi h1 h8
  rw [e]
  refine congrArg some ?_
  have hv := nu2 wd Bk ((ipl G M i : Nat) : Int)
  rw [eq32, h, lit32 _ (by unfold tyN; omega)]
  rfl
theorem tyN_lt (i : Nat) : tyN wd Bk G M i < 65536 := by
  have hv := nu2 wd Bk ((ipl G M i : Nat) : Int)
  unfold tyN; omega
theorem msize_eq (hC : CtxD NW sz bk Bk) (hS : Same dk wd Bk) (hM : CtxM mp gg G M Q Bk) {a1 : Int32} {i : Nat} (hi : a1.toInt = (i : Int)) (h1 : 1 ≤ i) (h8 : (i - 1) / G < Q) : f_M_sizeOfInode dk gg mp a1 = some (Int64.ofNat (szN wd Bk G M i)) := by
  have hB2 := hC.2.2.2.2
  have hin := ipl_in hM h8
  obtain ⟨r, e, hr⟩ := minodeAt_eq hB2 hM hi h1 h8
  unfold f_M_sizeOfInode szN
  rw [e]
  simp only [bd1]
  rw [four_n4 hC hS (a := ipl G M i + 4) (by rw [add32 (y := 4) hr (by decide) (by omega) (by omega)]; omega) (by omega)]
theorem mpointer_eq (hC : CtxD NW sz bk Bk) (hS : Same dk wd Bk) (hM : CtxM mp gg G M Q Bk) {a1 a2 : Int32} {i k : Nat} (hi : a1.toInt = (i : Int)) (h1 : 1 ≤ i) (h8 : (i - 1) / G < Q) (hk : a2.toInt = (k : Int)) (hk2 : k < 15) : f_M_pointer dk gg mp a1 a2 = some (Int64.ofNat (n4 wd Bk (ipl G M i + 40 + 4 * k))) := by
  have hB2 := hC.2.2.2.2
  have hin := ipl_in hM h8
  obtain ⟨r, e, hr⟩ := minodeAt_eq hB2 hM hi h1 h8
  unfold f_M_pointer
  rw [e]
  simp only [bd1]
  rw [four_n4 hC hS (a := ipl G M i + 40 + 4 * k) (by rw [add32 (add32 (y := 40) hr (by decide) (by omega) (by omega)) (mul32 (x := 4) (by decide) hk (by omega) (by omega)) (by omega) (by omega)]; omega) (by omega)]
/-- the pointers on the way to the blocks are blocks of the disk -/
def PtrOK (wd : Nat → Int64) (Bk p n : Nat) : Prop := (12 < n → 1 ≤ n4 wd Bk (p + 88) ∧ n4 wd Bk (p + 88) < Bk) ∧ (268 < n → (1 ≤ n4 wd Bk (p + 92) ∧ n4 wd Bk (p + 92) < Bk) ∧ ∀ j, j < (n - 268 + 255) / 256 → 1 ≤ n4 wd Bk (1024 * n4 wd Bk (p + 92) + 4 * j) ∧ n4 wd Bk (1024 * n4 wd Bk (p + 92) + 4 * j) < Bk)
theorem mblockOf_eq (hC : CtxD NW sz bk Bk) (hS : Same dk wd Bk) (hM : CtxM mp gg G M Q Bk) {a1 a2 : Int32} {i b n : Nat} (hi : a1.toInt = (i : Int)) (h1 : 1 ≤ i) (h8 : (i - 1) / G < Q) (hb : a2.toInt = (b : Int)) (hbn : b < n) (hn : n < 60000) (hp : PtrOK wd Bk (ipl G M i) n) : f_M_blockOf dk gg mp a1 a2 = some (Int64.ofNat (blN wd Bk G M i b)) := by
  have hB2 := hC.2.2.2.2
  have o12 : (12 : Int32).toInt = 12 := by decide
  have o268 : (268 : Int32).toInt = 268 := by decide
  unfold f_M_blockOf blN blkN
  by_cases c1 : b < 12
  · rw [if_neg (by rw [le32, hb, o12]; omega), if_pos c1, mpointer_eq hC hS hM hi h1 h8 hb (by omega)]
    rfl
  · rw [if_pos (by rw [le32, hb, o12]; omega), if_neg c1]
    by_cases c2 : b < 268
    · rw [if_neg (by rw [le32, hb, o268]; omega), if_pos c2, mpointer_eq hC hS hM (k := 12) hi h1 h8 (by decide) (by omega)]
      obtain ⟨p1, p2⟩ := hp.1 (by omega)
      simp only [bd1]
      rw [show ipl G M i + 40 + 4 * 12 = ipl G M i + 88 by omega]
      generalize n4 wd Bk (ipl G M i + 88) = q at *
      rw [four_n4 hC hS (a := 1024 * q + 4 * (b - 12)) (by
        rw [add32 (mul32 (x := 1024) (by decide) (cut6432 (num64 (v := q) (by omega)) (by omega) (by omega)) (by omega) (by omega)) (mul32 (x := 4) (by decide) (sub32 hb o12 (by omega) (by omega)) (by omega) (by omega)) (by omega) (by omega)]; omega) (by omega)]
    · rw [if_pos (by rw [le32, hb, o268]; omega), if_neg c2, mpointer_eq hC hS hM (k := 13) hi h1 h8 (by decide) (by omega)]
      obtain ⟨⟨p1, p2⟩, p3⟩ := hp.2 (by omega)
      simp only [bd1, lt1]
      rw [show ipl G M i + 40 + 4 * 13 = ipl G M i + 92 by omega]
      have hj : (a2 - 268).toInt = ((b - 268 : Nat) : Int) := by rw [sub32 hb o268 (by omega) (by omega)]; omega
      generalize a2 - 268 = x5 at *
      have hjd : (x5 / 256).toInt = (((b - 268) / 256 : Nat) : Int) := by rw [div32 (y := 256) hj (by decide) (by omega) (by omega)]; omega
      have hjm : (x5 - x5 / 256 * 256).toInt = (((b - 268) % 256 : Nat) : Int) := by rw [rem32 (y := 256) hj (by decide) (by omega) (by omega)]; omega
      obtain ⟨p4, p5⟩ := p3 ((b - 268) / 256) (by omega)
      generalize n4 wd Bk (ipl G M i + 92) = q at *
      rw [four_n4 hC hS (a := 1024 * q + 4 * ((b - 268) / 256)) (by
        rw [add32 (mul32 (x := 1024) (by decide) (cut6432 (num64 (v := q) (by omega)) (by omega) (by omega)) (by omega) (by omega)) (mul32 (x := 4) (by decide) hjd (by omega) (by omega)) (by omega) (by omega)]; omega) (by omega)]
      generalize n4 wd Bk (1024 * q + 4 * ((b - 268) / 256)) = q2 at *
      simp only []
      rw [four_n4 hC hS (a := 1024 * q2 + 4 * ((b - 268) % 256)) (by
        rw [add32 (mul32 (x := 1024) (by decide) (cut6432 (num64 (v := q2) (by omega)) (by omega) (by omega)) (by omega) (by omega)) (mul32 (x := 4) (by decide) hjm (by omega) (by omega)) (by omega) (by omega)]; omega) (by omega)]
end ML
