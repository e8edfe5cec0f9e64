/-! the reference's disk: its bytes; put, fill, copy, byteAt on both sides -/
def mby (dk : Nat → Int32) (i : Nat) : Nat := (dk i).toBitVec.toNat % 256
theorem mby_lt (dk : Nat → Int32) (i : Nat) : mby dk i < 256 := Nat.mod_lt _ (by decide)
theorem byte_nat (x : Int32) : (x.toInt8.toInt32).toBitVec.toNat % 256 = x.toBitVec.toNat % 256 := by
  have e : (x.toInt8.toInt32).toBitVec = (x.toBitVec.signExtend 8).signExtend 32 := by
    rw [Int8.toBitVec_toInt32, Int32.toBitVec_toInt8]
  rw [e]
  apply Nat.eq_of_testBit_eq
  intro j
  rw [show 256 = 2 ^ 8 from rfl, Nat.testBit_mod_two_pow, Nat.testBit_mod_two_pow]
  by_cases hj : j < 8
  · have h1 : ((x.toBitVec.signExtend 8).signExtend 32).toNat.testBit j = ((x.toBitVec.signExtend 8).signExtend 32).getLsbD j := rfl
    have h2 : x.toBitVec.toNat.testBit j = x.toBitVec.getLsbD j := rfl
    rw [h1, h2, BitVec.getLsbD_signExtend, BitVec.getLsbD_signExtend]
    simp [hj, show j < 32 by omega]
  · simp [hj]
theorem mby_at (dk : Nat → Int32) (k : Nat) (x : Int32) : mby (upd dk k (vp_nar .byte x)) k = x.toBitVec.toNat % 256 := by
  unfold mby
  rw [vp_nar_byte]
  simp only [upd, if_true]
  exact byte_nat x
theorem mby_ne (dk : Nat → Int32) (k : Nat) (x : Int32) {j : Nat} (h : j ≠ k) : mby (upd dk k x) j = mby dk j := by
  unfold mby
  simp only [upd, if_neg h]
theorem one_eq {dk : Nat → Int32} {a1 : Int32} {a : Nat} (ha : a1.toInt = (a : Int)) (h : a < 524288) : ∃ r, f_M_one dk a1 = some r ∧ r.toInt = ((mby dk a : Nat) : Int) := by
  refine ⟨(dk a) &&& 255, ?_, ?_⟩
  · unfold f_M_one
    rw [if_neg (by rw [oob_iff]; omega), nn32 ha]
  · refine toInt_of_nat32 ?_ (by have := mby_lt dk a; omega)
    exact and_nat' _ _ 8 (by decide)
theorem isThere_eq {nb : Int32} {Bk : Nat} (hb : nb.toInt = (Bk : Int)) (hB : Bk ≤ 512) (a1 a3 : Int32) :
    f_M_isThere nb (Int32.toInt64 a1) (Int32.toInt64 a3) = some (if a3.toInt = 0 ∨ (0 < a3.toInt ∧ 0 ≤ a1.toInt ∧ a1.toInt + a3.toInt ≤ (1024 * Bk : Nat)) then 1 else 0) := by
  have z64 : (0 : Int64).toInt = 0 := by decide
  have e1 : (Int32.toInt64 a1).toInt = a1.toInt := ext3264 rfl
  have e3 : (Int32.toInt64 a3).toInt = a3.toInt := ext3264 rfl
  have l1 := i32_lo a1
  have l3 := i32_lo a3
  have u1 := i32_hi a1
  have u3 := i32_hi a3
  have em : ((1024 : Int64) * Int32.toInt64 nb).toInt = 1024 * (Bk : Int) := mul64 (by decide) (ext3264 hb) (by omega) (by omega)
  have es : (Int32.toInt64 a1 + Int32.toInt64 a3).toInt = a1.toInt + a3.toInt := add64 e1 e3 (by omega) (by omega)
  unfold f_M_isThere
  by_cases c1 : Int32.toInt64 a3 < 0
  · rw [if_pos c1]; rw [lt64, e3, z64] at c1; rw [if_neg (by omega)]
  · rw [if_neg c1]; rw [lt64, e3, z64] at c1
    by_cases c2 : Int32.toInt64 a3 = 0
    · rw [if_pos c2]; rw [eq64, e3, z64] at c2; rw [if_pos (by omega)]
    · rw [if_neg c2]; rw [eq64, e3, z64] at c2
      by_cases c3 : Int32.toInt64 a1 < 0
      · rw [if_pos c3]; rw [lt64, e1, z64] at c3; rw [if_neg (by omega)]
      · rw [if_neg c3]; rw [lt64, e1, z64] at c3
        by_cases c4 : (1024 : Int64) * Int32.toInt64 nb < Int32.toInt64 a1 + Int32.toInt64 a3
        · rw [if_pos c4]; rw [lt64, em, es] at c4; rw [if_neg (by omega)]
        · rw [if_neg c4]; rw [lt64, em, es] at c4; rw [if_pos (by omega)]
theorem fill_loopM {N : Nat} {nb : Int32} {lk hr x1 x2 x3 : Int32} {a n : Nat} (h1 : x1.toInt = (a : Int)) (h2 : x2.toInt = (n : Int)) (hin : a + n ≤ 524288) :
    ∀ (k : Nat) (dk : Nat → Int32) (x4 : Int32) (i : Nat), x4.toInt = (i : Int) → i ≤ n → n - i < k →
    ∃ dk', f_M_fill_21 N nb k 0 dk lk hr x1 x2 x3 x4 = some (1, 0, dk', 0, 2) ∧ ∀ j, mby dk' j = if a + i ≤ j ∧ j < a + n then x3.toBitVec.toNat % 256 else mby dk j := by
  intro k
  induction k with
  | zero => intro dk x4 i _ _ h; omega
  | succ k ih =>
    intro dk x4 i h4 hi hk
    by_cases hc : n ≤ i
    · refine ⟨dk, ?_, ?_⟩
      · rw [f_M_fill_21, if_pos (by rw [le32, h2, h4]; omega)]
        rfl
      · intro j; rw [if_neg (by omega)]
    · have e5 : (x1 + x4).toInt = ((a + i : Nat) : Int) := by rw [add32 h1 h4 (by omega) (by omega)]; omega
      obtain ⟨dk', e, h⟩ := ih (upd dk (a + i) (vp_nar .byte (Int8.toInt32 (Int32.toInt8 x3)))) (x4 + 1) (i + 1) (by rw [add32 h4 (y := 1) (by decide) (by omega) (by omega)]; omega) (by omega) (by omega)
      refine ⟨dk', ?_, ?_⟩
      · rw [f_M_fill_21, if_neg (by rw [le32, h2, h4]; omega), if_neg (by rw [oob_iff, e5]; omega), nn32 e5]
        exact e
      · intro j
        rw [h]
        by_cases c1 : a + (i + 1) ≤ j ∧ j < a + n
        · rw [if_pos c1, if_pos (by omega)]
        · rw [if_neg c1]
          by_cases c2 : j = a + i
          · subst c2
            rw [if_pos (by omega), mby_at]
            exact byte_nat x3
          · rw [if_neg (by omega), mby_ne _ _ _ c2]
theorem shr_byte {x : Int64} {v : Int32} {s : Nat} (hv : v.toInt = (s : Int)) (hs : s ≤ 56) :
    (Int64.toInt32 (x >>> ((Int32.toInt64 v) &&& 63))).toBitVec.toNat % 256 = (x.toBitVec.toNat >>> s) % 256 := by
  have ha := amt hv (by omega)
  have hm : (((Int32.toInt64 v) &&& 63).toBitVec.smod 64).toNat = s := by
    have e : ((Int32.toInt64 v) &&& 63).toBitVec = BitVec.ofNat 64 s := by
      apply BitVec.eq_of_toNat_eq
      show ((Int32.toInt64 v).toBitVec &&& 63#64).toNat = _
      rw [BitVec.toNat_and, ha]
      show (s &&& (2^6 - 1)) = _
      rw [Nat.and_two_pow_sub_one_eq_mod]; simp; omega
    rw [e]
    have : ∀ s : Fin 64, ((BitVec.ofNat 64 s.1).smod 64).toNat = s.1 := by decide
    exact this ⟨s, by omega⟩
  apply Nat.eq_of_testBit_eq
  intro j
  rw [show 256 = 2 ^ 8 from rfl, Nat.testBit_mod_two_pow, Nat.testBit_mod_two_pow]
  by_cases hj : j < 8
  · rw [cut_nat, show 4294967296 = 2 ^ 32 from rfl, Nat.testBit_mod_two_pow, Nat.testBit_shiftRight]
    have h1 : (x >>> ((Int32.toInt64 v) &&& 63)).toBitVec.toNat.testBit j = (x >>> ((Int32.toInt64 v) &&& 63)).toBitVec.getLsbD j := rfl
    have h3 : x.toBitVec.toNat.testBit (s + j) = x.toBitVec.getLsbD (s + j) := rfl
    rw [h1, h3, Int64.toBitVec_shiftRight, BitVec.sshiftRight_eq', BitVec.getLsbD_sshiftRight, hm]
    simp [hj, show s + j < 64 by omega, show j < 32 by omega, show j < 64 by omega]
  · simp [hj]
theorem put_loopM {N : Nat} {nb : Int32} {lk hr x1 x2 : Int32} {x3 : Int64} {a n : Nat} (h1 : x1.toInt = (a : Int)) (h2 : x2.toInt = (n : Int)) (hn : n ≤ 8) (hin : a + n ≤ 524288) :
    ∀ (k : Nat) (dk : Nat → Int32) (x5 : Int32) (i : Nat), x5.toInt = (i : Int) → i ≤ n → n - i < k →
    ∃ dk', f_M_put_32 N nb k 0 dk lk hr x1 x2 x3 x5 = some (1, 0, dk', 0, 2) ∧ ∀ j, mby dk' j = if a + i ≤ j ∧ j < a + n then (x3.toBitVec.toNat >>> (8 * (j - a))) % 256 else mby dk j := by
  intro k
  induction k with
  | zero => intro dk x4 i _ _ h; omega
  | succ k ih =>
    intro dk x4 i h4 hi hk
    by_cases hc : n ≤ i
    · refine ⟨dk, ?_, ?_⟩
      · rw [f_M_put_32, if_pos (by rw [le32, h2, h4]; omega)]
        rfl
      · intro j; rw [if_neg (by omega)]
    · have e5 : (x1 + x4).toInt = ((a + i : Nat) : Int) := by rw [add32 h1 h4 (by omega) (by omega)]; omega
      have e6 : ((8 : Int32) * x4).toInt = ((8 * i : Nat) : Int) := by rw [mul32 (x := 8) (by decide) h4 (by omega) (by omega)]; omega
      obtain ⟨dk', e, h⟩ := ih (upd dk (a + i) (vp_nar .byte (Int8.toInt32 (Int32.toInt8 (Int64.toInt32 (x3 >>> ((Int32.toInt64 (((8 : Int32)) * x4)) &&& 63))))))) (x4 + 1) (i + 1) (by rw [add32 h4 (y := 1) (by decide) (by omega) (by omega)]; omega) (by omega) (by omega)
      refine ⟨dk', ?_, ?_⟩
      · rw [f_M_put_32, if_neg (by rw [le32, h2, h4]; omega), if_neg (by rw [oob_iff, e5]; omega), nn32 e5]
        exact e
      · intro j
        rw [h]
        by_cases c1 : a + (i + 1) ≤ j ∧ j < a + n
        · rw [if_pos c1, if_pos (by omega)]
        · rw [if_neg c1]
          by_cases c2 : j = a + i
          · subst c2
            rw [if_pos (by omega), mby_at, byte_nat, shr_byte e6 (by omega), show a + i - a = i by omega]
          · rw [if_neg (by omega), mby_ne _ _ _ c2]
theorem copy_loopM {N : Nat} {nb : Int32} {lk hr x1 x2 x3 : Int32} {a t n : Nat} (h1 : x1.toInt = (a : Int)) (h2 : x2.toInt = (t : Int)) (h3 : x3.toInt = (n : Int)) (hin : a + n ≤ 524288) (hin2 : t + n ≤ 524288) {dk0 : Nat → Int32} :
    ∀ (k : Nat) (dk : Nat → Int32) (x4 : Int32) (i : Nat), x4.toInt = (i : Int) → i ≤ n → n - i < k →
    (∀ j, mby dk j = if (t ≤ a ∧ t ≤ j ∧ j < t + i) ∨ (a < t ∧ t + (n - i) ≤ j ∧ j < t + n) then mby dk0 (j - t + a) else mby dk0 j) →
    ∃ dk', f_M_copy_32 N nb k 0 dk lk hr x1 x2 x3 x4 = some (1, 0, dk', 0, 2) ∧ ∀ j, mby dk' j = if t ≤ j ∧ j < t + n then mby dk0 (j - t + a) else mby dk0 j := by
  intro k
  induction k with
  | zero => intro dk x4 i _ _ h; omega
  | succ k ih =>
    intro dk x4 i h4 hi hk hd
    by_cases hc : n ≤ i
    · refine ⟨dk, ?_, ?_⟩
      · rw [f_M_copy_32, if_pos (by rw [le32, h3, h4]; omega)]
        rfl
      · intro j
        rw [hd]
        by_cases c3 : t ≤ j ∧ j < t + n
        · rw [if_pos c3, if_pos (by omega)]
        · rw [if_neg c3, if_neg (by omega)]
    · have e4 : (x4 + 1).toInt = ((i + 1 : Nat) : Int) := by rw [add32 h4 (y := 1) (by decide) (by omega) (by omega)]; omega
      have step : ∀ (s0 : Int32) (s : Nat), s0.toInt = (s : Int) → s < n → (s = if t ≤ a then i else n - 1 - i) →
          ∃ dk', f_M_copy_54 N nb (f_M_copy_32 N nb k) 0 dk lk hr x1 x2 x3 x4 s0 = some (1, 0, dk', 0, 2) ∧ ∀ j, mby dk' j = if t ≤ j ∧ j < t + n then mby dk0 (j - t + a) else mby dk0 j := by
        intro s0 s hs hsn hsd
        have e5 : (x1 + s0).toInt = ((a + s : Nat) : Int) := by rw [add32 h1 hs (by omega) (by omega)]; omega
        have e6 : (x2 + s0).toInt = ((t + s : Nat) : Int) := by rw [add32 h2 hs (by omega) (by omega)]; omega
        obtain ⟨dk', e, h⟩ := ih (upd dk (t + s) (vp_nar .byte (dk (a + s)))) (x4 + 1) (i + 1) e4 (by omega) (by omega) (by
          intro j
          by_cases c2 : j = t + s
          · subst c2
            rw [mby_at]
            show mby dk (a + s) = _
            rw [hd]
            have hs2 : (t ≤ a ∧ s = i) ∨ (a < t ∧ s = n - 1 - i) := by
              by_cases c0 : t ≤ a
              · rw [if_pos c0] at hsd; omega
              · rw [if_neg c0] at hsd; omega
            rw [if_neg (by omega), if_pos (by omega), show t + s - t + a = a + s by omega]
          · have hs2 : (t ≤ a ∧ s = i) ∨ (a < t ∧ s = n - 1 - i) := by
              by_cases c0 : t ≤ a
              · rw [if_pos c0] at hsd; omega
              · rw [if_neg c0] at hsd; omega
            rw [mby_ne _ _ _ c2, hd]
            by_cases c3 : (t ≤ a ∧ t ≤ j ∧ j < t + i) ∨ (a < t ∧ t + (n - i) ≤ j ∧ j < t + n)
            · rw [if_pos c3, if_pos (by omega)]
            · rw [if_neg c3, if_neg (by omega)])
        refine ⟨dk', ?_, h⟩
        unfold f_M_copy_54
        rw [if_neg (by rw [oob_iff, e5]; omega), if_neg (by rw [oob_iff, e6]; omega), nn32 e5, nn32 e6]
        exact e
      rw [f_M_copy_32, if_neg (by rw [le32, h3, h4]; omega)]
      by_cases c0 : t ≤ a
      · rw [if_pos (by rw [le32, h1, h2]; omega)]
        exact step x4 i h4 (by omega) (by rw [if_pos c0])
      · rw [if_neg (by rw [le32, h1, h2]; omega)]
        have e7 : (x3 - 1).toInt = ((n - 1 : Nat) : Int) := by rw [sub32 h3 (y := 1) (by decide) (by omega) (by omega)]; omega
        exact step (x3 - 1 - x4) (n - 1 - i) (by rw [sub32 e7 h4 (by omega) (by omega)]; omega) (by omega) (by rw [if_neg c0])
def Same (dk : Nat → Int32) (wd : Nat → Int64) (Bk : Nat) : Prop := ∀ i, i < 1024 * Bk → mby dk i = cby wd i
