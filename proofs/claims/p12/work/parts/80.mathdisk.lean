/-! ints as whole numbers -/
theorem i32_lo (a : Int32) : -2147483648 ≤ a.toInt := by have h := Int32.le_toInt a; simpa using h
theorem i32_hi (a : Int32) : a.toInt < 2147483648 := by have h := Int32.toInt_lt a; simpa using h
theorem i64_lo (a : Int64) : -9223372036854775808 ≤ a.toInt := by have h := Int64.le_toInt a; simpa using h
theorem i64_hi (a : Int64) : a.toInt < 9223372036854775808 := by have h := Int64.toInt_lt a; simpa using h
theorem bm32 {x : Int} (h1 : -2147483648 ≤ x) (h2 : x < 2147483648) : x.bmod (2^32) = x := by
  refine Int.bmod_eq_of_le ?_ ?_ <;> omega
theorem bm64 {x : Int} (h1 : -9223372036854775808 ≤ x) (h2 : x < 9223372036854775808) : x.bmod (2^64) = x := by
  refine Int.bmod_eq_of_le ?_ ?_ <;> omega
theorem add32 {a b : Int32} {x y : Int} (ha : a.toInt = x) (hb : b.toInt = y) (h1 : -2147483648 ≤ x + y) (h2 : x + y < 2147483648) : (a + b).toInt = x + y := by
  rw [Int32.toInt_add, ha, hb, bm32 h1 h2]
theorem sub32 {a b : Int32} {x y : Int} (ha : a.toInt = x) (hb : b.toInt = y) (h1 : -2147483648 ≤ x - y) (h2 : x - y < 2147483648) : (a - b).toInt = x - y := by
  rw [Int32.toInt_sub, ha, hb, bm32 h1 h2]
theorem mul32 {a b : Int32} {x y : Int} (ha : a.toInt = x) (hb : b.toInt = y) (h1 : -2147483648 ≤ x * y) (h2 : x * y < 2147483648) : (a * b).toInt = x * y := by
  rw [Int32.toInt_mul, ha, hb, bm32 h1 h2]
theorem add64 {a b : Int64} {x y : Int} (ha : a.toInt = x) (hb : b.toInt = y) (h1 : -9223372036854775808 ≤ x + y) (h2 : x + y < 9223372036854775808) : (a + b).toInt = x + y := by
  rw [Int64.toInt_add, ha, hb, bm64 h1 h2]
theorem sub64 {a b : Int64} {x y : Int} (ha : a.toInt = x) (hb : b.toInt = y) (h1 : -9223372036854775808 ≤ x - y) (h2 : x - y < 9223372036854775808) : (a - b).toInt = x - y := by
  rw [Int64.toInt_sub, ha, hb, bm64 h1 h2]
theorem mul64 {a b : Int64} {x y : Int} (ha : a.toInt = x) (hb : b.toInt = y) (h1 : -9223372036854775808 ≤ x * y) (h2 : x * y < 9223372036854775808) : (a * b).toInt = x * y := by
  rw [Int64.toInt_mul, ha, hb, bm64 h1 h2]
theorem div32 {a b : Int32} {x y : Int} (ha : a.toInt = x) (hb : b.toInt = y) (h0 : 0 ≤ x) (h1 : 0 < y) : (a / b).toInt = x / y := by
  have hx : a.toInt < 2147483648 := i32_hi a
  have h2 : x / y ≤ x := Int.ediv_le_self _ h0
  have h3 : 0 ≤ x / y := Int.ediv_nonneg h0 (Int.le_of_lt h1)
  rw [Int32.toInt_div, ha, hb, Int.tdiv_eq_ediv_of_nonneg h0, bm32 (by omega) (by omega)]
theorem div64 {a b : Int64} {x y : Int} (ha : a.toInt = x) (hb : b.toInt = y) (h0 : 0 ≤ x) (h1 : 0 < y) : (a / b).toInt = x / y := by
  have hx : a.toInt < 9223372036854775808 := i64_hi a
  have h2 : x / y ≤ x := Int.ediv_le_self _ h0
  have h3 : 0 ≤ x / y := Int.ediv_nonneg h0 (Int.le_of_lt h1)
  rw [Int64.toInt_div, ha, hb, Int.tdiv_eq_ediv_of_nonneg h0, bm64 (by omega) (by omega)]
theorem rem32 {a b : Int32} {x y : Int} (ha : a.toInt = x) (hb : b.toInt = y) (h0 : 0 ≤ x) (h1 : 0 < y) : (a - a / b * b).toInt = x % y := by
  have hx : a.toInt < 2147483648 := i32_hi a
  have h4 := Int.mul_ediv_add_emod x y
  have h5 := Int.emod_nonneg x (Int.ne_of_gt h1)
  have h6 : 0 ≤ x / y := Int.ediv_nonneg h0 (Int.le_of_lt h1)
  have h8 : 0 ≤ y * (x / y) := Int.mul_nonneg (Int.le_of_lt h1) h6
  have h7 : (a / b * b).toInt = x / y * y := mul32 (div32 ha hb h0 h1) hb (by rw [Int.mul_comm]; omega) (by rw [Int.mul_comm]; omega)
  rw [sub32 ha h7 (by rw [Int.mul_comm]; omega) (by rw [Int.mul_comm]; omega), Int.mul_comm]; omega
theorem rem64 {a b : Int64} {x y : Int} (ha : a.toInt = x) (hb : b.toInt = y) (h0 : 0 ≤ x) (h1 : 0 < y) : (a - a / b * b).toInt = x % y := by
  have hx : a.toInt < 9223372036854775808 := i64_hi a
  have h4 := Int.mul_ediv_add_emod x y
  have h5 := Int.emod_nonneg x (Int.ne_of_gt h1)
  have h6 : 0 ≤ x / y := Int.ediv_nonneg h0 (Int.le_of_lt h1)
  have h8 : 0 ≤ y * (x / y) := Int.mul_nonneg (Int.le_of_lt h1) h6
  have h7 : (a / b * b).toInt = x / y * y := mul64 (div64 ha hb h0 h1) hb (by rw [Int.mul_comm]; omega) (by rw [Int.mul_comm]; omega)
  rw [sub64 ha h7 (by rw [Int.mul_comm]; omega) (by rw [Int.mul_comm]; omega), Int.mul_comm]; omega
theorem ext3264 {a : Int32} {x : Int} (ha : a.toInt = x) : (Int32.toInt64 a).toInt = x := by rw [Int32.toInt_toInt64, ha]
theorem cut6432 {a : Int64} {x : Int} (ha : a.toInt = x) (h1 : -2147483648 ≤ x) (h2 : x < 2147483648) : (Int64.toInt32 a).toInt = x := by
  rw [Int64.toInt_toInt32, ha, bm32 h1 h2]
theorem lt32 {a b : Int32} : a < b ↔ a.toInt < b.toInt := Int32.lt_iff_toInt_lt
theorem le32 {a b : Int32} : a ≤ b ↔ a.toInt ≤ b.toInt := Int32.le_iff_toInt_le
theorem lt64 {a b : Int64} : a < b ↔ a.toInt < b.toInt := Int64.lt_iff_toInt_lt
theorem le64 {a b : Int64} : a ≤ b ↔ a.toInt ≤ b.toInt := Int64.le_iff_toInt_le
theorem eq32 {a b : Int32} : a = b ↔ a.toInt = b.toInt := ⟨fun h => h ▸ rfl, Int32.toInt_inj.mp⟩
theorem eq64 {a b : Int64} : a = b ↔ a.toInt = b.toInt := ⟨fun h => h ▸ rfl, Int64.toInt_inj.mp⟩
theorem nn32 {a : Int32} {n : Nat} (h : a.toInt = (n : Int)) : a.toNatClampNeg = n := by
  show a.toInt.toNat = n
  rw [h]; rfl
theorem oob_iff {i : Int32} {n : Nat} : oob i n ↔ i.toInt < 0 ∨ (n : Int) ≤ i.toInt := by
  show i < 0 ∨ n ≤ i.toInt.toNat ↔ _
  rw [lt32]
  show i.toInt < (0 : Int32).toInt ∨ _ ↔ _
  have : (0 : Int32).toInt = 0 := by decide
  rw [this]
  omega
/-- the number that n bytes from a on are, the lowest first -/
def lenum (B : Nat → Nat) (a : Nat) : Nat → Nat
  | 0 => 0
  | n+1 => B a + 256 * lenum B (a + 1) n
theorem lenum_lt {B : Nat → Nat} (hB : ∀ i, B i < 256) : ∀ n a, lenum B a n < 256 ^ n := by
  intro n
  induction n with
  | zero => intro a; simp [lenum]
  | succ n ih => intro a; rw [lenum, Nat.pow_succ]; have := hB a; have := ih (a+1); omega
theorem lenum_bit {B : Nat → Nat} (hB : ∀ i, B i < 256) : ∀ n a j, (lenum B a n).testBit j = (decide (j < 8 * n) && (B (a + j / 8)).testBit (j % 8)) := by
  intro n
  induction n with
  | zero => intro a j; simp [lenum]
  | succ n ih =>
    intro a j
    rw [lenum]
    have h := Nat.testBit_two_pow_mul_add (lenum B (a+1) n) (b := B a) (i := 8) (hB a) j
    rw [show B a + 256 * lenum B (a + 1) n = 2 ^ 8 * lenum B (a + 1) n + B a by omega, h]
    by_cases hj : j < 8
    · simp only [hj, if_true]
      rw [show a + j / 8 = a by omega, show j % 8 = j by omega]
      simp [show j < 8 * (n + 1) by omega]
    · simp only [hj, if_false]
      rw [ih, show a + 1 + (j - 8) / 8 = a + j / 8 by omega, show (j - 8) % 8 = j % 8 by omega]
      congr 1
      apply decide_eq_decide.mpr; omega
def dbit (wd : Nat → Int64) (k : Nat) : Bool := (wd (k/64)).toBitVec.getLsbD (k%64)
theorem amt {v : Int32} {s : Nat} (hv : v.toInt = (s : Int)) (hs : s < 64) : ((Int32.toInt64 v).toBitVec).toNat = s := by
  have h : (Int32.toInt64 v).toInt = (s : Int) := ext3264 hv
  have h2 : (Int32.toInt64 v).toBitVec.toInt = (s : Int) := h
  have h3 : (Int32.toInt64 v).toBitVec = BitVec.ofInt 64 (s : Int) := by rw [← h2, BitVec.ofInt_toInt]
  rw [h3]; simp; omega
theorem ushr_bit {x : Int64} {v : Int32} {s : Nat} (hv : v.toInt = (s : Int)) (hs : s < 64) (j : Nat) :
    (UInt64.toInt64 ((Int64.toUInt64 x) >>> ((Int64.toUInt64 (Int32.toInt64 v)) &&& Int64.toUInt64 63))).toBitVec.getLsbD j = x.toBitVec.getLsbD (s + j) := by
  have ha := amt hv hs
  have hm : (((Int64.toUInt64 (Int32.toInt64 v)) &&& Int64.toUInt64 63).toBitVec % 64).toNat = s := by
    rw [BitVec.toNat_umod]
    show ((Int32.toInt64 v).toBitVec &&& 63#64).toNat % 64 = s
    rw [BitVec.toNat_and, ha]
    show (s &&& (2^6 - 1)) % 64 = s
    rw [Nat.and_two_pow_sub_one_eq_mod]; omega
  show (((Int64.toUInt64 x) >>> ((Int64.toUInt64 (Int32.toInt64 v)) &&& Int64.toUInt64 63)).toBitVec).getLsbD j = _
  rw [UInt64.toBitVec_shiftRight, BitVec.ushiftRight_eq', BitVec.getLsbD_ushiftRight, hm]
  rfl
theorem shl_bit {x : Int64} {v : Int32} {s : Nat} (hv : v.toInt = (s : Int)) (hs : s < 64) (j : Nat) :
    (x <<< ((Int32.toInt64 v) &&& 63)).toBitVec.getLsbD j = (decide (j < 64) && !decide (j < s) && x.toBitVec.getLsbD (j - s)) := by
  have ha := amt hv hs
  have hm : (((Int32.toInt64 v) &&& 63).toBitVec.smod 64).toNat = s := by
    have e : ((Int32.toInt64 v) &&& 63).toBitVec = BitVec.ofNat 64 s := by
      apply BitVec.eq_of_toNat_eq
      show ((Int32.toInt64 v).toBitVec &&& 63#64).toNat = _
      rw [BitVec.toNat_and, ha]
      show (s &&& (2^6 - 1)) = _
      rw [Nat.and_two_pow_sub_one_eq_mod]; simp; omega
    rw [e]
    have : ∀ s : Fin 64, ((BitVec.ofNat 64 s.1).smod 64).toNat = s.1 := by decide
    exact this ⟨s, hs⟩
  rw [Int64.toBitVec_shiftLeft, BitVec.shiftLeft_eq', BitVec.getLsbD_shiftLeft, hm]
theorem sshr3 {x : Int64} {v : Int} (hx : x.toInt = v) (h0 : 0 ≤ v) : (x >>> ((Int32.toInt64 ((3 : Int32))) &&& 63)).toInt = v / 8 := by
  have e : (((Int32.toInt64 ((3 : Int32))) &&& 63).toBitVec.smod 64) = 3#64 := by decide
  show (x >>> ((Int32.toInt64 ((3 : Int32))) &&& 63)).toBitVec.toInt = _
  rw [Int64.toBitVec_shiftRight, e]
  show (BitVec.sshiftRight x.toBitVec 3).toInt = _
  rw [BitVec.toInt_sshiftRight, Int.shiftRight_eq_div_pow]
  show x.toInt / 8 = _
  rw [hx]
theorem and7 {x : Int64} {n : Nat} (hx : x.toInt = (n : Int)) : (x &&& 7).toInt = ((n % 8 : Nat) : Int) := by
  have hb := i64_hi x
  have h2 : x.toBitVec.toInt = (n : Int) := hx
  have h3 : x.toBitVec = BitVec.ofInt 64 (n : Int) := by rw [← h2, BitVec.ofInt_toInt]
  have h4 : x.toBitVec.toNat = n := by rw [h3]; simp; omega
  have h5 : (x &&& 7).toBitVec.toNat = n % 8 := by
    show (x.toBitVec &&& 7#64).toNat = _
    rw [BitVec.toNat_and, h4]
    show (n &&& (2^3-1)) = _
    rw [Nat.and_two_pow_sub_one_eq_mod]
  show (x &&& 7).toBitVec.toInt = _
  rw [BitVec.toInt_eq_toNat_of_lt (by rw [h5]; omega), h5]
theorem shl3_32 {x : Int32} {n : Nat} (hx : x.toInt = (n : Int)) (hn : n < 1000) : (x <<< ((3 : Int32) &&& 31)).toInt = ((8 * n : Nat) : Int) := by
  have h2 : x.toBitVec.toInt = (n : Int) := hx
  have h3 : x.toBitVec = BitVec.ofInt 32 (n : Int) := by rw [← h2, BitVec.ofInt_toInt]
  have h4 : x.toBitVec.toNat = n := by rw [h3]; simp; omega
  have e : (((3 : Int32) &&& 31).toBitVec.smod 32) = 3#32 := by decide
  have h5 : (x <<< ((3 : Int32) &&& 31)).toBitVec.toNat = 8 * n := by
    rw [Int32.toBitVec_shiftLeft, e]
    show (x.toBitVec <<< 3).toNat = _
    rw [BitVec.toNat_shiftLeft, h4, Nat.shiftLeft_eq]; omega
  show (x <<< ((3 : Int32) &&& 31)).toBitVec.toInt = _
  rw [BitVec.toInt_eq_toNat_of_lt (by rw [h5]; omega), h5]
theorem lit32 (n : Nat) (h : n < 2147483648) : (Int32.ofNat n).toInt = (n : Int) := Int32.toInt_ofNat_of_lt (by omega)
/-- the bits j < 8n from bit 8a on -/
def IsNum (b : Nat → Bool) (a n : Nat) (r : Int64) : Prop := ∀ j, r.toBitVec.getLsbD j = (decide (j < 8 * n) && b (8 * a + j))
theorem isNum_inj {b : Nat → Bool} {a n : Nat} {r r' : Int64} (h : IsNum b a n r) (h' : IsNum b a n r') : r = r' := by
  apply Int64.toBitVec_inj.mp
  apply BitVec.eq_of_getLsbD_eq
  intro j hj
  rw [h j, h' j]
theorem mask_bit {v : Int32} {n : Nat} (hv : v.toInt = (n : Int)) (h1 : 1 ≤ n) (h8 : n ≤ 8) (j : Nat) :
    (UInt64.toInt64 ((Int64.toUInt64 ((-1 : Int64))) >>> ((Int64.toUInt64 (Int32.toInt64 (((64 : Int32)) - (((8 : Int32)) * v)))) &&& Int64.toUInt64 63))).toBitVec.getLsbD j = decide (j < 8 * n) := by
  have hm : ((8 : Int32) * v).toInt = 8 * (n : Int) := mul32 (by decide) hv (by omega) (by omega)
  have hs : ((64 : Int32) - ((8 : Int32) * v)).toInt = ((64 - 8 * n : Nat) : Int) := by
    rw [sub32 (x := 64) (by decide) hm (by omega) (by omega)]; omega
  rw [ushr_bit hs (by omega)]
  show (BitVec.allOnes 64).getLsbD _ = _
  rw [BitVec.getLsbD_allOnes]
  apply decide_eq_decide.mpr; omega
theorem number_in {NW : Nat} {sz : Int32} {wd : Nat → Int64} {a1 : Int64} {a3 : Int32} {a n : Nat} (hsz : sz.toInt = ((8 * NW : Nat) : Int)) (hN : NW < 16777216) (ha : a1.toInt = (a : Int)) (hn : a3.toInt = (n : Int)) (h1 : 1 ≤ n) (h8 : n ≤ 8) (hin : a + n ≤ 8 * NW) :
    ∃ r, f_D_number NW sz wd a1 a3 = some r ∧ IsNum (dbit wd) a n r := by
  have hsn : (sz - a3).toInt = ((8 * NW - n : Nat) : Int) := by
    rw [sub32 hsz hn (by omega) (by omega)]; omega
  have hw : (Int64.toInt32 (a1 >>> ((Int32.toInt64 ((3 : Int32))) &&& 63))).toInt = ((a / 8 : Nat) : Int) := by
    rw [cut6432 (sshr3 ha (by omega)) (by omega) (by omega)]; omega
  have hsh : ((Int64.toInt32 (a1 &&& ((7 : Int64)))) <<< (((3 : Int32)) &&& 31)).toInt = ((8 * (a % 8) : Nat) : Int) := by
    have h := and7 ha
    exact shl3_32 (cut6432 h (by omega) (by omega)) (by omega)
  have hm : ((8 : Int32) * a3).toInt = 8 * (n : Int) := mul32 (by decide) hn (by omega) (by omega)
  have hmask := mask_bit hn h1 h8
  unfold f_D_number
  rw [if_neg (by rw [lt32, hn]; show ¬ (n : Int) < 1; omega), if_neg (by rw [lt32, hn]; show ¬ (8 : Int) < n; omega), if_neg (by rw [lt64, ha]; show ¬ (a : Int) < 0; omega), if_pos (by rw [le64, ha, ext3264 hsn]; omega)]
  generalize hv4 : Int64.toInt32 (a1 >>> ((Int32.toInt64 ((3 : Int32))) &&& 63)) = v4 at hw
  generalize hv5 : (Int64.toInt32 (a1 &&& ((7 : Int64)))) <<< (((3 : Int32)) &&& 31) = v5 at hsh
  simp only [lt1]
  rw [if_neg (by rw [oob_iff, hw]; omega)]
  have hadd : (v5 + (8 : Int32) * a3).toInt = 8 * ((a % 8 : Nat) : Int) + 8 * n := by
    rw [add32 hsh hm (by omega) (by omega)]; omega
  have nw4 := nn32 hw
  by_cases hc : 8 * (a % 8) + 8 * n ≤ 64
  · rw [if_pos (by rw [le32, hadd]; show _ ≤ (64 : Int); omega)]
    refine ⟨_, rfl, ?_⟩
    intro j
    rw [Int64.toBitVec_and, BitVec.getLsbD_and, hmask, ushr_bit hsh (by omega), nw4, Bool.and_comm]
    by_cases hj : j < 8 * n
    · simp only [hj, decide_true, Bool.true_and, dbit]
      rw [show (8 * a + j) / 64 = a / 8 by omega, show (8 * a + j) % 64 = 8 * (a % 8) + j by omega]
    · simp [hj]
  · rw [if_neg (by rw [le32, hadd]; show ¬ _ ≤ (64 : Int); omega)]
    have hw1 : (v4 + 1).toInt = ((a / 8 + 1 : Nat) : Int) := by
      rw [add32 (y := 1) hw (by decide) (by omega) (by omega)]; omega
    rw [if_neg (by rw [oob_iff, hw1]; omega)]
    have hs2 : ((64 : Int32) - v5).toInt = ((64 - 8 * (a % 8) : Nat) : Int) := by
      rw [sub32 (x := 64) (by decide) hsh (by omega) (by omega)]; omega
    refine ⟨_, rfl, ?_⟩
    intro j
    rw [Int64.toBitVec_and, BitVec.getLsbD_and, hmask, Int64.toBitVec_or, BitVec.getLsbD_or, ushr_bit hsh (by omega), shl_bit hs2 (by omega), nw4, nn32 hw1, Bool.and_comm]
    by_cases hj : j < 8 * n
    · simp only [hj, decide_true, Bool.true_and, dbit]
      by_cases hj2 : j < 64 - 8 * (a % 8)
      · rw [show (8 * a + j) / 64 = a / 8 by omega, show (8 * a + j) % 64 = 8 * (a % 8) + j by omega]
        simp [hj2]
      · rw [show (8 * a + j) / 64 = a / 8 + 1 by omega, show (8 * a + j) % 64 = j - (64 - 8 * (a % 8)) by omega]
        rw [BitVec.getLsbD_of_ge _ (8 * (a % 8) + j) (by omega)]
        simp [hj2, show j < 64 by omega]
    · simp [hj]
theorem number_out {NW : Nat} {sz : Int32} {wd : Nat → Int64} {a1 : Int64} {a3 : Int32} (hsz : sz.toInt = ((8 * NW : Nat) : Int)) (hN : NW < 16777216)
    (ho : a3.toInt < 1 ∨ 8 < a3.toInt ∨ a1.toInt < 0 ∨ ((8 * NW : Nat) : Int) < a1.toInt + a3.toInt) : f_D_number NW sz wd a1 a3 = some 0 := by
  unfold f_D_number
  have o1 : (1 : Int32).toInt = 1 := by decide
  have o8 : (8 : Int32).toInt = 8 := by decide
  have o0 : (0 : Int64).toInt = 0 := by decide
  by_cases h1 : a3 < 1
  · rw [if_pos h1]
  · rw [if_neg h1]
    by_cases h2 : 8 < a3
    · rw [if_pos h2]
    · rw [if_neg h2]
      by_cases h3 : a1 < 0
      · rw [if_pos h3]
      · rw [if_neg h3, if_neg]
        rw [lt32] at h1 h2
        rw [lt64] at h3
        have hsn : (sz - a3).toInt = ((8 * NW : Nat) : Int) - a3.toInt := by
          rw [sub32 hsz rfl (by omega) (by omega)]
        rw [le64, ext3264 hsn]
        omega
theorem xorm1_bit (x : Int64) (j : Nat) (hj : j < 64) : (x ^^^ (-1 : Int64)).toBitVec.getLsbD j = !x.toBitVec.getLsbD j := by
  rw [Int64.toBitVec_xor, BitVec.getLsbD_xor]
  show (_ ^^ (BitVec.allOnes 64).getLsbD j) = _
  rw [BitVec.getLsbD_allOnes]; simp [hj]
theorem updL_at (f : Nat → Int64) (k : Nat) (x : Int64) : vp_updL f k x k = x := by simp [vp_updL]
theorem updL_ne (f : Nat → Int64) (k : Nat) (x : Int64) {j : Nat} (h : j ≠ k) : vp_updL f k x j = f j := by simp [vp_updL, h]
/-- the bits from 8a to 8(a+n) are those of v, the others are as before -/
def Put (b b' : Nat → Bool) (a n : Nat) (v : Int64) : Prop := ∀ k, b' k = if 8 * a ≤ k ∧ k < 8 * (a + n) then v.toBitVec.getLsbD (k - 8 * a) else b k
theorem set_in {NW : Nat} {sz : Int32} {wd : Nat → Int64} {a1 : Int64} {a3 : Int32} {a4 : Int64} {a n : Nat} (hsz : sz.toInt = ((8 * NW : Nat) : Int)) (hN : NW < 16777216) (ha : a1.toInt = (a : Int)) (hn : a3.toInt = (n : Int)) (h1 : 1 ≤ n) (h8 : n ≤ 8) (hin : a + n ≤ 8 * NW) :
    ∃ wd', f_D_set NW sz wd a1 a3 a4 = some wd' ∧ Put (dbit wd) (dbit wd') a n a4 := by
  have hsn : (sz - a3).toInt = ((8 * NW - n : Nat) : Int) := by
    rw [sub32 hsz hn (by omega) (by omega)]; omega
  have hw : (Int64.toInt32 (a1 >>> ((Int32.toInt64 ((3 : Int32))) &&& 63))).toInt = ((a / 8 : Nat) : Int) := by
    rw [cut6432 (sshr3 ha (by omega)) (by omega) (by omega)]; omega
  have hsh : ((Int64.toInt32 (a1 &&& ((7 : Int64)))) <<< (((3 : Int32)) &&& 31)).toInt = ((8 * (a % 8) : Nat) : Int) := by
    have h := and7 ha
    exact shl3_32 (cut6432 h (by omega) (by omega)) (by omega)
  have hm : ((8 : Int32) * a3).toInt = 8 * (n : Int) := mul32 (by decide) hn (by omega) (by omega)
  have hmask := mask_bit hn h1 h8
  unfold f_D_set
  rw [if_neg (by rw [lt32, hn]; show ¬ (n : Int) < 1; omega), if_neg (by rw [lt32, hn]; show ¬ (8 : Int) < n; omega), if_neg (by rw [lt64, ha]; show ¬ (a : Int) < 0; omega), if_pos (by rw [le64, ha, ext3264 hsn]; omega)]
  generalize hv4 : Int64.toInt32 (a1 >>> ((Int32.toInt64 ((3 : Int32))) &&& 63)) = v4 at hw
  generalize hv5 : (Int64.toInt32 (a1 &&& ((7 : Int64)))) <<< (((3 : Int32)) &&& 31) = v5 at hsh
  generalize hv8 : (UInt64.toInt64 ((Int64.toUInt64 ((-1 : Int64))) >>> ((Int64.toUInt64 (Int32.toInt64 (((64 : Int32)) - (((8 : Int32)) * a3)))) &&& Int64.toUInt64 63))) = mask at hmask
  simp only [lt1]
  rw [if_neg (by rw [oob_iff, hw]; omega), if_neg (by rw [oob_iff, hw]; omega)]
  have hadd : (v5 + (8 : Int32) * a3).toInt = 8 * ((a % 8 : Nat) : Int) + 8 * n := by
    rw [add32 hsh hm (by omega) (by omega)]; omega
  have nw4 := nn32 hw
  have hlow : ∀ j, (a4 &&& mask).toBitVec.getLsbD j = (a4.toBitVec.getLsbD j && decide (j < 8 * n)) := by
    intro j; rw [Int64.toBitVec_and, BitVec.getLsbD_and, hmask]
  -- the first word
  have hfirst : ∀ j, j < 64 → (((wd (a / 8)) &&& ((mask <<< ((Int32.toInt64 v5) &&& 63)) ^^^ ((-1 : Int64)))) ||| ((a4 &&& mask) <<< ((Int32.toInt64 v5) &&& 63))).toBitVec.getLsbD j = if 8 * (a % 8) ≤ j ∧ j < 8 * (a % 8) + 8 * n then a4.toBitVec.getLsbD (j - 8 * (a % 8)) else (wd (a / 8)).toBitVec.getLsbD j := by
    intro j hj
    rw [Int64.toBitVec_or, BitVec.getLsbD_or, Int64.toBitVec_and, BitVec.getLsbD_and, xorm1_bit _ _ hj, shl_bit hsh (by omega), shl_bit hsh (by omega), hmask, hlow]
    by_cases c1 : j < 8 * (a % 8)
    · simp [c1, show ¬ 8 * (a % 8) ≤ j by omega]
    · by_cases c2 : j < 8 * (a % 8) + 8 * n
      · simp [c1, c2, hj, show 8 * (a % 8) ≤ j by omega, show j - 8 * (a % 8) < 8 * n by omega]
      · simp [c1, c2, hj, show ¬ j - 8 * (a % 8) < 8 * n by omega]
  by_cases hc : 8 * (a % 8) + 8 * n ≤ 64
  · rw [if_pos (by rw [le32, hadd]; show _ ≤ (64 : Int); omega)]
    refine ⟨_, rfl, ?_⟩
    intro k
    unfold dbit
    rw [nw4]
    by_cases hk : k / 64 = a / 8
    · rw [hk, updL_at, hfirst _ (by omega)]
      by_cases c : 8 * a ≤ k ∧ k < 8 * (a + n)
      · rw [if_pos (by omega), if_pos c]; congr 1; omega
      · rw [if_neg (by omega), if_neg c]
    · rw [updL_ne _ _ _ hk, if_neg (by omega)]
  · rw [if_neg (by rw [le32, hadd]; show ¬ _ ≤ (64 : Int); omega)]
    have hw1 : (v4 + 1).toInt = ((a / 8 + 1 : Nat) : Int) := by
      rw [add32 (y := 1) hw (by decide) (by omega) (by omega)]; omega
    rw [if_neg (by rw [oob_iff, hw1]; omega), if_neg (by rw [oob_iff, hw1]; omega)]
    have hs2 : ((64 : Int32) - v5).toInt = ((64 - 8 * (a % 8) : Nat) : Int) := by
      rw [sub32 (x := 64) (by decide) hsh (by omega) (by omega)]; omega
    refine ⟨_, rfl, ?_⟩
    intro k
    unfold dbit
    rw [nw4, nn32 hw1]
    by_cases hk1 : k / 64 = a / 8 + 1
    · rw [hk1, updL_at, updL_ne _ _ _ (show a / 8 + 1 ≠ a / 8 by omega)]
      rw [Int64.toBitVec_or, BitVec.getLsbD_or, Int64.toBitVec_and, BitVec.getLsbD_and, xorm1_bit _ _ (by omega), ushr_bit hs2 (by omega), ushr_bit hs2 (by omega), hmask, hlow]
      by_cases c2 : 64 - 8 * (a % 8) + k % 64 < 8 * n
      · rw [if_pos (by omega)]
        simp only [c2, decide_true, Bool.not_true, Bool.and_false, Bool.false_or, Bool.and_true]
        congr 1; omega
      · rw [if_neg (by omega)]
        simp [c2]
    · rw [updL_ne _ _ _ hk1]
      by_cases hk : k / 64 = a / 8
      · rw [hk, updL_at, hfirst _ (by omega)]
        by_cases c : 8 * a ≤ k ∧ k < 8 * (a + n)
        · rw [if_pos (by omega), if_pos c]; congr 1; omega
        · rw [if_neg (by omega), if_neg c]
      · rw [updL_ne _ _ _ hk, if_neg (by omega)]
theorem set_none {NW : Nat} {sz : Int32} {wd : Nat → Int64} {a1 : Int64} {a3 : Int32} {a4 : Int64} (h : a3.toInt = 0) : f_D_set NW sz wd a1 a3 a4 = some wd := by
  unfold f_D_set
  rw [if_pos (by rw [lt32, h]; decide)]
def Fill (b b' : Nat → Bool) (a n : Nat) (c : Nat → Bool) : Prop := ∀ k, b' k = if 8 * a ≤ k ∧ k < 8 * (a + n) then c (k % 8) else b k
theorem eight_bits {v : Int32} : ∀ j, j < 64 → ((Int32.toInt64 (v &&& ((255 : Int32)))) * ((72340172838076673 : Int64))).toBitVec.getLsbD j = v.toBitVec.getLsbD (j % 8) := by
  intro j hj
  have h1 : (v &&& (255 : Int32)).toBitVec.toNat = v.toBitVec.toNat % 256 := by
    show (v.toBitVec &&& 255#32).toNat = _
    rw [BitVec.toNat_and]
    show _ &&& (2^8 - 1) = _
    rw [Nat.and_two_pow_sub_one_eq_mod]
  have h2 : (Int32.toInt64 (v &&& ((255 : Int32)))).toBitVec = BitVec.ofNat 64 (v.toBitVec.toNat % 256) := by
    apply BitVec.eq_of_toInt_eq
    show (Int32.toInt64 (v &&& ((255 : Int32)))).toInt = _
    rw [Int32.toInt_toInt64]
    show (v &&& ((255 : Int32))).toBitVec.toInt = _
    rw [BitVec.toInt_eq_toNat_of_lt (by rw [h1]; omega), BitVec.toInt_eq_toNat_of_lt (by simp; omega), h1]
    simp; omega
  rw [Int64.toBitVec_mul, h2]
  generalize hx : v.toBitVec.toNat % 256 = x
  have hx' : x < 256 := by omega
  have h3 : (BitVec.ofNat 64 x * (72340172838076673 : Int64).toBitVec).toNat = lenum (fun _ => x) 0 8 := by
    rw [BitVec.toNat_mul, BitVec.toNat_ofNat]
    show x % 2^64 * 72340172838076673 % 2^64 = _
    simp only [lenum]
    omega
  show (BitVec.ofNat 64 x * (72340172838076673 : Int64).toBitVec).toNat.testBit j = _
  rw [h3, lenum_bit (fun _ => hx'), ← hx]
  show (_ && (v.toBitVec.toNat % 2^8).testBit (j % 8)) = _
  rw [Nat.testBit_mod_two_pow]
  have : j % 8 < 8 := by omega
  simp [this, hj, BitVec.getLsbD]
theorem spread_loop {N NW : Nat} {sz : Int32} {x1 x2 : Int32} {x4 : Int64} {at' n : Nat} {c : Nat → Bool} (hsz : sz.toInt = ((8 * NW : Nat) : Int)) (hN : NW < 16777216) (h1 : x1.toInt = (at' : Int)) (h2 : x2.toInt = (n : Int)) (hin : at' + n ≤ 8 * NW) (h4 : ∀ j, j < 64 → x4.toBitVec.getLsbD j = c (j % 8)) :
    ∀ (k : Nat) (wd : Nat → Int64) (x6 : Int32) (d : Nat), x6.toInt = (d : Int) → d ≤ n → n - d < 8 * k → ∃ wd', f_D_spread_15 N NW sz k wd x1 x2 x4 x6 = some wd' ∧ Fill (dbit wd) (dbit wd') (at' + d) (n - d) c := by
  intro k
  induction k with
  | zero => intro wd x6 d _ _ h; omega
  | succ k ih =>
    intro wd x6 d h6 hd hk
    rw [f_D_spread_15]
    have hs : (x2 - (8 : Int32)).toInt = (n : Int) - 8 := sub32 h2 (by decide) (by omega) (by omega)
    have ha : (Int32.toInt64 (x1 + x6)).toInt = ((at' + d : Nat) : Int) := by
      rw [ext3264 (add32 h1 h6 (by omega) (by omega))]; omega
    by_cases hc : (x2 - (8 : Int32)) < x6
    · rw [if_pos hc]
      rw [lt32, hs, h6] at hc
      have hm : (x2 - x6).toInt = ((n - d : Nat) : Int) := by rw [sub32 h2 h6 (by omega) (by omega)]; omega
      by_cases h0 : n - d = 0
      · rw [set_none (by rw [hm, h0]; rfl)]
        refine ⟨wd, rfl, ?_⟩
        intro q; rw [if_neg (by omega)]
      · obtain ⟨wd', e, hp⟩ := set_in (wd := wd) (a4 := x4) hsz hN ha hm (by omega) (by omega) (by omega)
        rw [e]
        refine ⟨wd', rfl, ?_⟩
        intro q; rw [hp q]
        by_cases hq : 8 * (at' + d) ≤ q ∧ q < 8 * (at' + d + (n - d))
        · rw [if_pos hq, if_pos hq, h4 _ (by omega)]; congr 1; omega
        · rw [if_neg hq, if_neg hq]
    · rw [if_neg hc]
      rw [lt32, hs, h6] at hc
      obtain ⟨wd', e, hp⟩ := set_in (wd := wd) (a3 := 8) (n := 8) (a4 := x4) hsz hN ha (by decide) (by omega) (by omega) (by omega)
      rw [e]
      show ∃ wd'', f_D_spread_15 N NW sz k wd' x1 x2 x4 (x6 + 8) = some wd'' ∧ _
      have h6' : (x6 + 8).toInt = ((d + 8 : Nat) : Int) := by rw [add32 (y := 8) h6 (by decide) (by omega) (by omega)]; omega
      obtain ⟨wd'', e2, hf⟩ := ih wd' (x6 + 8) (d + 8) h6' (by omega) (by omega)
      refine ⟨wd'', e2, ?_⟩
      intro q; rw [hf q, hp q]
      by_cases hq : 8 * (at' + (d + 8)) ≤ q ∧ q < 8 * (at' + (d + 8) + (n - (d + 8)))
      · rw [if_pos hq, if_pos (by omega)]
      · rw [if_neg hq]
        by_cases hq2 : 8 * (at' + d) ≤ q ∧ q < 8 * (at' + d + 8)
        · rw [if_pos hq2, if_pos (by omega), h4 _ (by omega)]; congr 1; omega
        · rw [if_neg hq2, if_neg (by omega)]
theorem spread_in {N NW : Nat} {sz : Int32} {wd : Nat → Int64} {a1 a2 a3 : Int32} {at' n : Nat} (hsz : sz.toInt = ((8 * NW : Nat) : Int)) (hN : NW < 16777216) (h1 : a1.toInt = (at' : Int)) (h2 : a2.toInt = (n : Int)) (hin : at' + n ≤ 8 * NW) (hk : n < 8 * N) :
    ∃ wd', f_D_spread N NW sz wd a1 a2 a3 = some wd' ∧ Fill (dbit wd) (dbit wd') at' n (fun j => a3.toBitVec.getLsbD j) := by
  obtain ⟨wd', e, h⟩ := spread_loop (N := N) (x4 := (Int32.toInt64 (a3 &&& ((255 : Int32)))) * ((72340172838076673 : Int64))) hsz hN h1 h2 hin (c := fun j => a3.toBitVec.getLsbD j) (fun j hj => eight_bits j hj) N wd 0 0 (by decide) (by omega) (by omega)
  exact ⟨wd', e, h⟩
theorem spread_zero {N NW : Nat} {sz : Int32} {wd : Nat → Int64} {a1 a2 a3 : Int32} (h2 : a2.toInt = 0) (hk : 0 < N) : f_D_spread N NW sz wd a1 a2 a3 = some wd := by
  obtain ⟨k, rfl⟩ : ∃ k, N = k + 1 := ⟨N - 1, by omega⟩
  simp only [f_D_spread, lt1]
  rw [f_D_spread_15, if_pos (by rw [lt32, sub32 (y := 8) h2 (by decide) (by omega) (by omega)]; decide), set_none (by rw [sub32 (y := 0) h2 (by decide) (by omega) (by omega)]; rfl)]
  rfl
/-- n bytes from a go to t -/
def Moved (b b' : Nat → Bool) (a t n : Nat) : Prop := ∀ k, b' k = if 8 * t ≤ k ∧ k < 8 * (t + n) then b (k - 8 * t + 8 * a) else b k
theorem movedOne {NW : Nat} {sz : Int32} {wd : Nat → Int64} {a1 t1 : Int64} {a3 : Int32} {a t n : Nat} (hsz : sz.toInt = ((8 * NW : Nat) : Int)) (hN : NW < 16777216) (ha : a1.toInt = (a : Int)) (ht : t1.toInt = (t : Int)) (hn : a3.toInt = (n : Int)) (h8 : n ≤ 8) (hin : a + n ≤ 8 * NW) (hin2 : t + n ≤ 8 * NW) :
    ∃ r wd', f_D_number NW sz wd a1 a3 = some r ∧ f_D_set NW sz wd t1 a3 r = some wd' ∧ Moved (dbit wd) (dbit wd') a t n := by
  by_cases h0 : n = 0
  · refine ⟨0, wd, number_out hsz hN (Or.inl (by rw [hn, h0]; decide)), set_none (by rw [hn, h0]; rfl), ?_⟩
    intro k; rw [if_neg (by omega)]
  · obtain ⟨r, e, hr⟩ := number_in (wd := wd) hsz hN ha hn (by omega) h8 hin
    obtain ⟨wd', e2, hp⟩ := set_in (wd := wd) (a4 := r) hsz hN ht hn (by omega) h8 hin2
    refine ⟨r, wd', e, e2, ?_⟩
    intro k; rw [hp k]
    by_cases hk : 8 * t ≤ k ∧ k < 8 * (t + n)
    · rw [if_pos hk, if_pos hk, hr]
      simp only [show k - 8 * t < 8 * n by omega, decide_true, Bool.true_and]
      congr 1; omega
    · rw [if_neg hk, if_neg hk]
/-- upwards: what is below a + d may be written over, t ≤ a -/
theorem move_up {N NW : Nat} {sz : Int32} {x1 x2 x3 : Int32} {a t n : Nat} (hsz : sz.toInt = ((8 * NW : Nat) : Int)) (hN : NW < 16777216) (h1 : x1.toInt = (a : Int)) (h2 : x2.toInt = (t : Int)) (h3 : x3.toInt = (n : Int)) (hin : a + n ≤ 8 * NW) (hin2 : t + n ≤ 8 * NW) (hta : t ≤ a) :
    ∀ (k : Nat) (wd : Nat → Int64) (x4 : Int32) (d : Nat), x4.toInt = (d : Int) → d ≤ n → n - d < 8 * k → ∃ wd', f_D_move_8 N NW sz k wd x1 x2 x3 x4 = some wd' ∧ Moved (dbit wd) (dbit wd') (a + d) (t + d) (n - d) := by
  intro k
  induction k with
  | zero => intro wd x4 d _ _ h; omega
  | succ k ih =>
    intro wd x4 d h4 hd hk
    rw [f_D_move_8]
    have hs : (x3 - (8 : Int32)).toInt = (n : Int) - 8 := sub32 h3 (by decide) (by omega) (by omega)
    have ha : (Int32.toInt64 (x1 + x4)).toInt = ((a + d : Nat) : Int) := by
      rw [ext3264 (add32 h1 h4 (by omega) (by omega))]; omega
    have ht : (Int32.toInt64 (x2 + x4)).toInt = ((t + d : Nat) : Int) := by
      rw [ext3264 (add32 h2 h4 (by omega) (by omega))]; omega
    by_cases hc : (x3 - (8 : Int32)) < x4
    · rw [if_pos hc]
      rw [lt32, hs, h4] at hc
      have hm : (x3 - x4).toInt = ((n - d : Nat) : Int) := by rw [sub32 h3 h4 (by omega) (by omega)]; omega
      obtain ⟨r, wd', e1, e2, hp⟩ := movedOne (wd := wd) hsz hN ha ht hm (by omega) (by omega) (by omega)
      rw [e1]; show ∃ w, bd1 (f_D_set NW sz wd _ _ r) _ = some w ∧ _
      rw [e2]
      exact ⟨wd', rfl, hp⟩
    · rw [if_neg hc]
      rw [lt32, hs, h4] at hc
      obtain ⟨r, wd', e1, e2, hp⟩ := movedOne (wd := wd) (a3 := 8) (n := 8) hsz hN ha ht (by decide) (by omega) (by omega) (by omega)
      rw [e1]; show ∃ w, bd1 (f_D_set NW sz wd _ _ r) _ = some w ∧ _
      rw [e2]
      show ∃ wd'', f_D_move_8 N NW sz k wd' x1 x2 x3 (x4 + 8) = some wd'' ∧ _
      have h4' : (x4 + 8).toInt = ((d + 8 : Nat) : Int) := by rw [add32 (y := 8) h4 (by decide) (by omega) (by omega)]; omega
      obtain ⟨wd'', e3, hf⟩ := ih wd' (x4 + 8) (d + 8) h4' (by omega) (by omega)
      refine ⟨wd'', e3, ?_⟩
      intro q; rw [hf q]
      by_cases hq : 8 * (t + (d + 8)) ≤ q ∧ q < 8 * (t + (d + 8) + (n - (d + 8)))
      · rw [if_pos hq, if_pos (by omega), hp, if_neg (by omega)]; congr 1; omega
      · rw [if_neg hq, hp]
        by_cases hq2 : 8 * (t + d) ≤ q ∧ q < 8 * (t + d + 8)
        · rw [if_pos hq2, if_pos (by omega)]
        · rw [if_neg hq2, if_neg (by omega)]
/-- downwards: a < t -/
theorem move_down {N NW : Nat} {sz : Int32} {x1 x2 : Int32} {a t : Nat} (hsz : sz.toInt = ((8 * NW : Nat) : Int)) (hN : NW < 16777216) (h1 : x1.toInt = (a : Int)) (h2 : x2.toInt = (t : Int)) (hta : a < t) :
    ∀ (k : Nat) (wd : Nat → Int64) (x4 : Int32) (d : Nat), x4.toInt = (d : Int) → a + d ≤ 8 * NW → t + d ≤ 8 * NW → d < 8 * k → ∃ wd', f_D_move_77 N NW sz k wd x1 x2 x4 = some wd' ∧ Moved (dbit wd) (dbit wd') a t d := by
  intro k
  induction k with
  | zero => intro wd x4 d _ _ _ h; omega
  | succ k ih =>
    intro wd x4 d h4 hin hin2 hk
    rw [f_D_move_77]
    by_cases hc : x4 < (8 : Int32)
    · rw [if_pos hc]
      rw [lt32, h4] at hc
      have hc : (d : Int) < 8 := hc
      obtain ⟨r, wd', e1, e2, hp⟩ := movedOne (wd := wd) hsz hN (ext3264 h1) (ext3264 h2) h4 (by omega) (by omega) (by omega)
      rw [e1]; show ∃ w, bd1 (f_D_set NW sz wd _ _ r) _ = some w ∧ _
      rw [e2]
      exact ⟨wd', rfl, hp⟩
    · rw [if_neg hc]
      rw [lt32, h4] at hc
      have hc : ¬ (d : Int) < 8 := hc
      have ha : (Int32.toInt64 (x1 + x4 - 8)).toInt = ((a + (d - 8) : Nat) : Int) := by
        rw [ext3264 (sub32 (y := 8) (add32 h1 h4 (by omega) (by omega)) (by decide) (by omega) (by omega))]; omega
      have ht : (Int32.toInt64 (x2 + x4 - 8)).toInt = ((t + (d - 8) : Nat) : Int) := by
        rw [ext3264 (sub32 (y := 8) (add32 h2 h4 (by omega) (by omega)) (by decide) (by omega) (by omega))]; omega
      obtain ⟨r, wd', e1, e2, hp⟩ := movedOne (wd := wd) (a3 := 8) (n := 8) hsz hN ha ht (by decide) (by omega) (by omega) (by omega)
      rw [e1]; show ∃ w, bd1 (f_D_set NW sz wd _ _ r) _ = some w ∧ _
      rw [e2]
      show ∃ wd'', f_D_move_77 N NW sz k wd' x1 x2 (x4 + (-8)) = some wd'' ∧ _
      have h4' : (x4 + (-8 : Int32)).toInt = ((d - 8 : Nat) : Int) := by rw [add32 (y := -8) h4 (by decide) (by omega) (by omega)]; omega
      generalize x4 + (-8 : Int32) = x5 at h4'
      obtain ⟨wd'', e3, hf⟩ := ih wd' x5 (d - 8) h4' (by omega) (by omega) (by omega)
      refine ⟨wd'', e3, ?_⟩
      intro q; rw [hf q]
      by_cases hq : 8 * t ≤ q ∧ q < 8 * (t + (d - 8))
      · rw [if_pos hq, if_pos (by omega), hp, if_neg (by omega)]
      · rw [if_neg hq, hp]
        by_cases hq2 : 8 * (t + (d - 8)) ≤ q ∧ q < 8 * (t + (d - 8) + 8)
        · rw [if_pos hq2, if_pos (by omega)]; congr 1; omega
        · rw [if_neg hq2, if_neg (by omega)]
theorem move_in {N NW : Nat} {sz : Int32} {wd : Nat → Int64} {a1 a2 a3 : Int32} {a t n : Nat} (hsz : sz.toInt = ((8 * NW : Nat) : Int)) (hN : NW < 16777216) (h1 : a1.toInt = (a : Int)) (h2 : a2.toInt = (t : Int)) (h3 : a3.toInt = (n : Int)) (hin : a + n ≤ 8 * NW) (hin2 : t + n ≤ 8 * NW) (hk : n < 8 * N) :
    ∃ wd', f_D_move N NW sz wd a1 a2 a3 = some wd' ∧ Moved (dbit wd) (dbit wd') a t n := by
  unfold f_D_move
  by_cases hc : a1 < a2
  · rw [if_pos hc]; rw [lt32, h1, h2] at hc
    exact move_down hsz hN h1 h2 (by omega) N wd a3 n h3 hin hin2 hk
  · rw [if_neg hc]; rw [lt32, h1, h2] at hc
    have := move_up (N := N) hsz hN h1 h2 h3 hin hin2 (by omega) N wd 0 0 (by decide) (by omega) (by omega)
    simpa using this
theorem move_zero {N NW : Nat} {sz : Int32} {wd : Nat → Int64} {a1 a2 a3 : Int32} (h3 : a3.toInt = 0) (hk : 0 < N) : f_D_move N NW sz wd a1 a2 a3 = some wd := by
  obtain ⟨k, rfl⟩ : ∃ k, N = k + 1 := ⟨N - 1, by omega⟩
  have hn : ∀ a, f_D_number NW sz wd a a3 = some 0 := by
    intro a; unfold f_D_number; rw [if_pos (by rw [lt32, h3]; decide)]
  unfold f_D_move
  have h3' : (a3 - 0).toInt = 0 := by rw [sub32 (y := 0) h3 (by decide) (by omega) (by omega)]; rfl
  have h3'' : a3 - 0 = a3 := eq32.mpr (by rw [h3', h3])
  by_cases hc : a1 < a2
  · rw [if_pos hc, f_D_move_77, if_pos (by rw [lt32, h3]; decide), hn]
    show bd1 (f_D_set NW sz wd _ _ 0) _ = _
    rw [set_none h3]; rfl
  · rw [if_neg hc, f_D_move_8, if_pos (by rw [lt32, sub32 (y := 8) h3 (by decide) (by omega) (by omega)]; decide), h3'', hn]
    show bd1 (f_D_set NW sz wd _ _ 0) _ = _
    rw [set_none h3]; rfl
/-- byte i of the words -/
def cby (wd : Nat → Int64) (i : Nat) : Nat := ((wd (i / 8)).toBitVec.toNat >>> (8 * (i % 8))) % 256
theorem cby_lt (wd : Nat → Int64) (i : Nat) : cby wd i < 256 := Nat.mod_lt _ (by decide)
theorem cby_bit (wd : Nat → Int64) (i t : Nat) : (cby wd i).testBit t = (decide (t < 8) && dbit wd (8 * i + t)) := by
  unfold cby dbit
  rw [show 256 = 2 ^ 8 from rfl, Nat.testBit_mod_two_pow, Nat.testBit_shiftRight]
  by_cases ht : t < 8
  · simp only [ht, decide_true, Bool.true_and]
    rw [show (8 * i + t) / 64 = i / 8 by omega, show (8 * i + t) % 64 = 8 * (i % 8) + t by omega]
    rfl
  · simp [ht]
theorem isNum_nat {wd : Nat → Int64} {a n : Nat} {r : Int64} (h : IsNum (dbit wd) a n r) : r.toBitVec.toNat = lenum (cby wd) a n := by
  apply Nat.eq_of_testBit_eq
  intro j
  rw [lenum_bit (cby_lt wd), cby_bit]
  have := h j
  unfold BitVec.getLsbD at this
  rw [this]
  have e : 8 * (a + j / 8) + j % 8 = 8 * a + j := by omega
  rw [e]
  have h8 : j % 8 < 8 := by omega
  simp [h8]
theorem ofNat64_of_toNat {r : Int64} {v : Nat} (h : r.toBitVec.toNat = v) : r = Int64.ofNat v := by
  apply Int64.toBitVec_inj.mp
  apply BitVec.eq_of_toNat_eq
  rw [h]
  show v = (BitVec.ofNat 64 v).toNat
  rw [BitVec.toNat_ofNat]
  have := r.toBitVec.isLt
  omega
theorem number_num {NW : Nat} {sz : Int32} {wd : Nat → Int64} {a1 : Int64} {a3 : Int32} {a n : Nat} (hsz : sz.toInt = ((8 * NW : Nat) : Int)) (hN : NW < 16777216) (ha : a1.toInt = (a : Int)) (hn : a3.toInt = (n : Int)) (h1 : 1 ≤ n) (h8 : n ≤ 8) (hin : a + n ≤ 8 * NW) :
    f_D_number NW sz wd a1 a3 = some (Int64.ofNat (lenum (cby wd) a n)) := by
  obtain ⟨r, e, h⟩ := number_in (wd := wd) hsz hN ha hn h1 h8 hin
  rw [e, ofNat64_of_toNat (isNum_nat h)]
theorem num64 {v : Nat} (h : v < 9223372036854775808) : (Int64.ofNat v).toInt = (v : Int) := Int64.toInt_ofNat_of_lt (by omega)
/-- what is stored: bytes of a number -/
theorem put_bytes {wd wd' : Nat → Int64} {a n : Nat} {v : Int64} (h : Put (dbit wd) (dbit wd') a n v) (h8 : n ≤ 8) (i : Nat) :
    cby wd' i = if a ≤ i ∧ i < a + n then (v.toBitVec.toNat >>> (8 * (i - a))) % 256 else cby wd i := by
  apply Nat.eq_of_testBit_eq
  intro t
  rw [cby_bit, h]
  by_cases hi : a ≤ i ∧ i < a + n
  · rw [if_pos hi, show 256 = 2 ^ 8 from rfl, Nat.testBit_mod_two_pow, Nat.testBit_shiftRight]
    by_cases ht : t < 8
    · rw [if_pos (by omega)]
      unfold BitVec.getLsbD
      rw [show 8 * i + t - 8 * a = 8 * (i - a) + t by omega]
    · simp [ht]
  · rw [if_neg hi, cby_bit]
    by_cases ht : t < 8
    · rw [if_neg (by omega)]
    · simp [ht]
theorem fill_bytes {wd wd' : Nat → Int64} {a n : Nat} {v : Int32} (h : Fill (dbit wd) (dbit wd') a n (fun j => v.toBitVec.getLsbD j)) (i : Nat) :
    cby wd' i = if a ≤ i ∧ i < a + n then v.toBitVec.toNat % 256 else cby wd i := by
  apply Nat.eq_of_testBit_eq
  intro t
  rw [cby_bit, h]
  by_cases hi : a ≤ i ∧ i < a + n
  · rw [if_pos hi, show 256 = 2 ^ 8 from rfl, Nat.testBit_mod_two_pow]
    by_cases ht : t < 8
    · rw [if_pos (by omega), show (8 * i + t) % 8 = t by omega]
      rfl
    · simp [ht]
  · rw [if_neg hi, cby_bit]
    by_cases ht : t < 8
    · rw [if_neg (by omega)]
    · simp [ht]
theorem moved_bytes {wd wd' : Nat → Int64} {a b n : Nat} (h : Moved (dbit wd) (dbit wd') a b n) (i : Nat) :
    cby wd' i = if b ≤ i ∧ i < b + n then cby wd (i - b + a) else cby wd i := by
  apply Nat.eq_of_testBit_eq
  intro t
  rw [cby_bit, h]
  by_cases hi : b ≤ i ∧ i < b + n
  · rw [if_pos hi, cby_bit]
    by_cases ht : t < 8
    · rw [if_pos (by omega), show 8 * i + t - 8 * b + 8 * a = 8 * (i - b + a) + t by omega]
    · simp [ht]
  · rw [if_neg hi, cby_bit]
    by_cases ht : t < 8
    · rw [if_neg (by omega)]
    · simp [ht]
/-- the number in n bytes from place a on, on a disk of S bytes; 0 where they are not all on it -/
def cnum (B : Nat → Nat) (S : Nat) (a : Int) (n : Nat) : Nat := if 0 ≤ a ∧ a + n ≤ S then lenum B a.toNat n else 0
theorem cnum_lt {B : Nat → Nat} (hB : ∀ i, B i < 256) {S : Nat} {a : Int} {n : Nat} : cnum B S a n < 256 ^ n := by
  unfold cnum
  by_cases h : 0 ≤ a ∧ a + n ≤ S
  · rw [if_pos h]; exact lenum_lt hB _ _
  · rw [if_neg h]; exact Nat.pow_pos (by decide)
theorem number_eq {NW : Nat} {sz : Int32} {wd : Nat → Int64} {a1 : Int64} {a3 : Int32} {n : Nat} (hsz : sz.toInt = ((8 * NW : Nat) : Int)) (hN : NW < 16777216) (hn : a3.toInt = (n : Int)) (h1 : 1 ≤ n) (h8 : n ≤ 8) :
    f_D_number NW sz wd a1 a3 = some (Int64.ofNat (cnum (cby wd) (8 * NW) a1.toInt n)) := by
  unfold cnum
  by_cases h : 0 ≤ a1.toInt ∧ a1.toInt + n ≤ (8 * NW : Nat)
  · rw [if_pos h]
    exact number_num hsz hN (a := a1.toInt.toNat) (by omega) hn h1 h8 (by omega)
  · rw [if_neg h]
    exact number_out hsz hN (by rw [hn]; omega)
theorem holds_eq {NW : Nat} {sz : Int32} {a1 : Int64} {a3 : Int32} (hsz : sz.toInt = ((8 * NW : Nat) : Int)) (hN : NW < 16777216) :
    f_D_holds NW sz a1 a3 = some (if a3.toInt = 0 ∨ (0 < a3.toInt ∧ 0 ≤ a1.toInt ∧ a1.toInt + a3.toInt ≤ (8 * NW : Nat)) then 1 else 0) := by
  have z32 : (0 : Int32).toInt = 0 := by decide
  have z64 : (0 : Int64).toInt = 0 := by decide
  unfold f_D_holds
  by_cases c1 : a3 = 0
  · rw [if_pos c1, if_pos (Or.inl (by rw [c1]; rfl))]
  · rw [if_neg c1]
    rw [eq32, z32] at c1
    by_cases c2 : a3 ≤ 0
    · rw [if_pos c2]; rw [le32, z32] at c2
      rw [if_neg (by omega)]
    · rw [if_neg c2]; rw [le32, z32] at c2
      by_cases c3 : a1 < 0
      · rw [if_pos c3]; rw [lt64, z64] at c3
        rw [if_neg (by omega)]
      · rw [if_neg c3]; rw [lt64, z64] at c3
        have hi := i32_hi a3
        have hsn : (sz - a3).toInt = ((8 * NW : Nat) : Int) - a3.toInt := sub32 hsz rfl (by omega) (by omega)
        by_cases c4 : (Int32.toInt64 (sz - a3)) < a1
        · rw [if_pos c4]; rw [lt64, ext3264 hsn] at c4
          rw [if_neg (by omega)]
        · rw [if_neg c4]; rw [lt64, ext3264 hsn] at c4
          rw [if_pos (by omega)]
/-- where inode i lies: G inodes a group, group g's maps begin at block M g -/
def ipl (G : Nat) (M : Nat → Nat) (i : Nat) : Nat := 1024 * (M ((i - 1) / G) + 2) + 128 * ((i - 1) % G)
theorem inodePlace_eq {NW : Nat} {mb : Nat → Int32} {gI a1 : Int32} {G i : Nat} {M : Nat → Nat} (hG : gI.toInt = (G : Int)) (hG1 : 1 ≤ G) (hG2 : G < 100000) (hM : (mb ((i - 1) / G)).toInt = (M ((i - 1) / G) : Int)) (hM2 : M ((i - 1) / G) < 100000) (hi : a1.toInt = (i : Int)) (h1 : 1 ≤ i) (h8 : (i - 1) / G < 8) :
    f_L_inodePlace NW mb gI a1 = some (Int64.ofNat (ipl G M i)) := by
  have o1 : (1 : Int32).toInt = 1 := by decide
  have hhi := i32_hi a1
  have hs : (a1 - 1).toInt = ((i - 1 : Nat) : Int) := by rw [sub32 hi o1 (by omega) (by omega)]; omega
  have hd : ((a1 - 1) / gI).toInt = (((i - 1) / G : Nat) : Int) := by rw [div32 hs hG (by omega) (by omega)]; rfl
  have hdm := Nat.div_add_mod (i - 1) G
  have hml := Nat.mod_lt (i - 1) (show G > 0 by omega)
  have h4 := hM
  have h5 := hM2
  unfold ipl
  generalize (i - 1) / G = q at *
  generalize (i - 1) % G = r at *
  unfold f_L_inodePlace
  rw [if_neg (by rw [lt32, hi, o1]; omega), if_pos (by rw [le32, hG, o1]; omega), if_neg (by rw [eq32, hG]; show ¬ (G : Int) = 0; omega)]
  generalize (a1 - 1) / gI = v at hd
  simp only [lt1]
  rw [if_pos (by rw [lt32, hd]; show _ < (8 : Int); omega), if_neg (by rw [oob_iff, hd]; omega), nn32 hd]
  have e1 : (Int32.toInt64 (mb q + 2)).toInt = ((M q + 2 : Nat) : Int) := by
    rw [ext3264 (add32 (y := 2) h4 (by decide) (by omega) (by omega))]; omega
  have e2 : ((1024 : Int64) * Int32.toInt64 (mb q + 2)).toInt = ((1024 * (M q + 2) : Nat) : Int) := by
    rw [mul64 (x := 1024) (by decide) e1 (by omega) (by omega)]; omega
  have hcast : (q : Int) * (G : Int) = ((G * q : Nat) : Int) := by rw [Int.natCast_mul, Int.mul_comm]
  have hvG : (v * gI).toInt = ((G * q : Nat) : Int) := by
    rw [mul32 hd hG (by rw [hcast]; omega) (by rw [hcast]; omega), hcast]
  have e3 : ((a1 - 1) - v * gI).toInt = (r : Int) := by
    rw [sub32 hs hvG (by omega) (by omega)]; omega
  have e4 : (Int32.toInt64 ((128 : Int32) * ((a1 - 1) - v * gI))).toInt = ((128 * r : Nat) : Int) := by
    rw [ext3264 (mul32 (x := 128) (by decide) e3 (by omega) (by omega))]; omega
  congr 1
  rw [eq64, add64 e2 e4 (by omega) (by omega), num64 (by omega)]
  omega
/-- the disk's frame: NW words, Bk blocks -/
def CtxD (NW : Nat) (sz bk : Int32) (Bk : Nat) : Prop := sz.toInt = ((8 * NW : Nat) : Int) ∧ 8 * NW = 1024 * Bk ∧ bk.toInt = (Bk : Int) ∧ 128 ≤ Bk ∧ Bk ≤ 512
/-- the groups' frame -/
def CtxL (mb : Nat → Int32) (gI : Int32) (G : Nat) (M : Nat → Nat) (Q : Nat) : Prop := gI.toInt = (G : Int) ∧ 8 ≤ G ∧ G ≤ 8192 ∧ Q ≤ 8 ∧ ∀ g, g < Q → (mb g).toInt = (M g : Int) ∧ M g < 512
/-- numbers of a disk with Bk blocks -/
abbrev nu (wd : Nat → Int64) (Bk : Nat) (a : Int) (n : Nat) : Nat := cnum (cby wd) (1024 * Bk) a n
theorem nu_lt (wd : Nat → Int64) (Bk : Nat) (a : Int) (n : Nat) : nu wd Bk a n < 256 ^ n := cnum_lt (cby_lt wd)
theorem nu4 (wd : Nat → Int64) (Bk : Nat) (a : Int) : nu wd Bk a 4 < 4294967296 := nu_lt wd Bk a 4
theorem nu2 (wd : Nat → Int64) (Bk : Nat) (a : Int) : nu wd Bk a 2 < 65536 := nu_lt wd Bk a 2
theorem nu1 (wd : Nat → Int64) (Bk : Nat) (a : Int) : nu wd Bk a 1 < 256 := nu_lt wd Bk a 1
section CL
variable {NW Bk : Nat} {sz bk : Int32} {wd : Nat → Int64} {mb : Nat → Int32} {gI : Int32} {G : Nat} {M : Nat → Nat} {Q : Nat}
theorem number_nu (hC : CtxD NW sz bk Bk) {a1 : Int64} {a3 : Int32} {a : Int} {n : Nat} (ha : a1.toInt = a) (hn : a3.toInt = (n : Int)) (h1 : 1 ≤ n) (h8 : n ≤ 8) :
    f_D_number NW sz wd a1 a3 = some (Int64.ofNat (nu wd Bk a n)) := by
  obtain ⟨h, h2, h3, h4, h5⟩ := hC
  rw [number_eq h (by omega) hn h1 h8, h2, ha]
theorem field_eq (hC : CtxD NW sz bk Bk) (hL : CtxL mb gI G M Q) {a1 a2 a3 : Int32} {i at' n : Nat} (hi : a1.toInt = (i : Int)) (h1 : 1 ≤ i) (h8 : (i - 1) / G < Q) (ha : a2.toInt = (at' : Int)) (ha2 : at' < 1000) (hn : a3.toInt = (n : Int)) (hn1 : 1 ≤ n) (hn8 : n ≤ 8) :
    f_L_field NW sz wd mb gI a1 a2 a3 = some (Int64.ofNat (nu wd Bk ((ipl G M i + at' : Nat) : Int) n)) := by
  obtain ⟨g1, g2, g3, gq, g4⟩ := hL
  unfold f_L_field
  rw [inodePlace_eq g1 (by omega) (by omega) (g4 _ h8).1 (by have := (g4 _ h8).2; omega) hi h1 (by omega)]
  have hb : ipl G M i < 100000000 := by
    have := (g4 _ h8).2
    have := Nat.mod_lt (i - 1) (show G > 0 by omega)
    unfold ipl; omega
  show bd1 (f_D_number NW sz wd _ _) _ = _
  rw [number_nu hC (a := ((ipl G M i + at' : Nat) : Int)) (by rw [add64 (num64 (by omega)) (ext3264 ha) (by omega) (by omega)]; omega) hn hn1 hn8]
  rfl
theorem ipl_lt (hL : CtxL mb gI G M Q) {i : Nat} (h8 : (i - 1) / G < Q) : ipl G M i < 100000000 := by
  obtain ⟨g1, g2, g3, gq, g4⟩ := hL
  have := (g4 _ h8).2
  have := Nat.mod_lt (i - 1) (show G > 0 by omega)
  unfold ipl; omega
theorem place_eq (hL : CtxL mb gI G M Q) {a1 : Int32} {i : Nat} (hi : a1.toInt = (i : Int)) (h1 : 1 ≤ i) (h8 : (i - 1) / G < Q) : f_L_inodePlace NW mb gI a1 = some (Int64.ofNat (ipl G M i)) := by
  obtain ⟨g1, g2, g3, gq, g4⟩ := hL
  exact inodePlace_eq g1 (by omega) (by omega) (g4 _ h8).1 (by have := (g4 _ h8).2; omega) hi h1 (by omega)
theorem sizeOf_eq (hC : CtxD NW sz bk Bk) (hL : CtxL mb gI G M Q) {a1 : Int32} {i : Nat} (hi : a1.toInt = (i : Int)) (h1 : 1 ≤ i) (h8 : (i - 1) / G < Q) :
    f_L_sizeOf NW sz wd mb gI a1 = some (Int64.ofNat (nu wd Bk ((ipl G M i + 4 : Nat) : Int) 4)) := by
  have hb := ipl_lt hL h8
  unfold f_L_sizeOf
  rw [place_eq hL hi h1 h8]
  show bd1 (f_D_number NW sz wd _ _) _ = _
  rw [number_nu hC (a := ((ipl G M i + 4 : Nat) : Int)) (n := 4) (by rw [add64 (y := 4) (num64 (by omega)) (by decide) (by omega) (by omega)]; omega) (by decide) (by omega) (by omega)]
  rfl
theorem and_nat32 {x : Int32} {v : Nat} (hx : x.toInt = (v : Int)) (k : Nat) (hk : k ≤ 31) (m : Int32) (hm : m.toBitVec.toNat = 2 ^ k - 1) : (x &&& m).toInt = ((v % 2 ^ k : Nat) : Int) := by
  have hb := i32_hi x
  have h2 : x.toBitVec.toInt = (v : Int) := hx
  have h3 : x.toBitVec = BitVec.ofInt 32 (v : Int) := by rw [← h2, BitVec.ofInt_toInt]
  have h4 : x.toBitVec.toNat = v := by rw [h3]; simp; omega
  have h5 : (x &&& m).toBitVec.toNat = v % 2 ^ k := by
    rw [Int32.toBitVec_and, BitVec.toNat_and, h4, hm, Nat.and_two_pow_sub_one_eq_mod]
  have h6 : v % 2 ^ k ≤ v := Nat.mod_le _ _
  show (x &&& m).toBitVec.toInt = _
  rw [BitVec.toInt_eq_toNat_of_lt (by rw [h5]; omega), h5]
theorem typeOf_eq (hC : CtxD NW sz bk Bk) (hL : CtxL mb gI G M Q) {a1 : Int32} {i : Nat} (hi : a1.toInt = (i : Int)) (h1 : 1 ≤ i) (h8 : (i - 1) / G < Q) :
    ∃ r, f_L_typeOf NW sz wd mb gI a1 = some r ∧ r.toInt = ((nu wd Bk ((ipl G M i : Nat) : Int) 2 / 4096 * 4096 : Nat) : Int) := by
  have hb := ipl_lt hL h8
  unfold f_L_typeOf
  rw [place_eq hL hi h1 h8]
  show ∃ r, bd1 (f_D_number NW sz wd _ _) _ = some r ∧ _
  rw [number_nu hC (a := ((ipl G M i : Nat) : Int)) (n := 2) (num64 (by omega)) (by decide) (by omega) (by omega)]
  refine ⟨_, rfl, ?_⟩
  have hv := nu2 wd Bk ((ipl G M i : Nat) : Int)
  generalize nu wd Bk ((ipl G M i : Nat) : Int) 2 = v at hv
  have hc : (Int64.toInt32 (Int64.ofNat v)).toInt = (v : Int) := cut6432 (num64 (by omega)) (by omega) (by omega)
  generalize Int64.toInt32 (Int64.ofNat v) = x at hc
  have h2 : x.toBitVec.toInt = (v : Int) := hc
  have h3 : x.toBitVec = BitVec.ofInt 32 (v : Int) := by rw [← h2, BitVec.ofInt_toInt]
  have h4 : x.toBitVec.toNat = v := by rw [h3]; simp; omega
  have h5 : (x &&& (61440 : Int32)).toBitVec.toNat = v / 4096 * 4096 := by
    rw [Int32.toBitVec_and, BitVec.toNat_and, h4]
    show v &&& 61440 = _
    apply Nat.eq_of_testBit_eq
    intro j
    rw [Nat.testBit_and, show v / 4096 * 4096 = 2 ^ 12 * (v / 2 ^ 12) from Nat.mul_comm _ _, Nat.testBit_two_pow_mul, Nat.testBit_div_two_pow]
    have e : (61440 : Nat) = 2 ^ 12 * (2 ^ 4 - 1) := rfl
    rw [e, Nat.testBit_two_pow_mul, Nat.testBit_two_pow_sub_one]
    by_cases hj : 12 ≤ j
    · by_cases hj2 : j < 16
      · simp [hj, show j - 12 < 4 by omega]
      · have : v.testBit j = false := Nat.testBit_lt_two_pow (Nat.lt_of_lt_of_le hv (show 2 ^ 16 ≤ 2 ^ j from Nat.pow_le_pow_right (by decide) (by omega)))
        simp [hj, this, show ¬ j - 12 < 4 by omega]
    · simp [hj]
  show (x &&& (61440 : Int32)).toBitVec.toInt = _
  rw [BitVec.toInt_eq_toNat_of_lt (by rw [h5]; omega), h5]
/-- the block with the bytes from 1024 * i on, of the inode at pl -/
def blkN (n4 : Nat → Nat) (pl i : Nat) : Nat :=
  if i < 12 then n4 (pl + 40 + 4 * i)
  else if i < 268 then n4 (1024 * n4 (pl + 88) + 4 * (i - 12))
  else n4 (1024 * n4 (1024 * n4 (pl + 92) + 4 * ((i - 268) / 256)) + 4 * ((i - 268) % 256))
abbrev n4 (wd : Nat → Int64) (Bk : Nat) (a : Nat) : Nat := nu wd Bk ((a : Nat) : Int) 4
theorem n4_lt (wd : Nat → Int64) (Bk a : Nat) : n4 wd Bk a < 4294967296 := nu4 wd Bk _
theorem number_n4 (hC : CtxD NW sz bk Bk) {a1 : Int64} {a : Nat} (ha : a1.toInt = (a : Int)) : f_D_number NW sz wd a1 4 = some (Int64.ofNat (n4 wd Bk a)) := number_nu hC ha (by decide) (by omega) (by omega)
theorem blockOf_eq (hC : CtxD NW sz bk Bk) (hL : CtxL mb gI G M Q) {a1 a2 : Int32} {i b : Nat} (hi : a1.toInt = (i : Int)) (h1 : 1 ≤ i) (h8 : (i - 1) / G < Q) (hb : a2.toInt = (b : Int)) (hb2 : b < 10000000) :
    f_L_blockOf NW sz wd mb gI a1 a2 = some (Int64.ofNat (blkN (n4 wd Bk) (ipl G M i) b)) := by
  have hp := ipl_lt hL h8
  unfold f_L_blockOf
  rw [place_eq hL hi h1 h8]
  simp only [bd1]
  have hpl : (Int64.ofNat (ipl G M i)).toInt = ((ipl G M i : Nat) : Int) := num64 (by omega)
  generalize ipl G M i = pl at *
  generalize Int64.ofNat pl = x1 at *
  have o12 : (12 : Int32).toInt = 12 := by decide
  have o268 : (268 : Int32).toInt = 268 := by decide
  unfold blkN
  by_cases c1 : b < 12
  · rw [if_neg (by rw [le32, hb, o12]; omega), if_pos c1]
    rw [number_n4 hC (a := pl + 40 + 4 * b) (by
      rw [add64 (add64 (y := 40) hpl (by decide) (by omega) (by omega)) (ext3264 (mul32 (x := 4) (by decide) hb (by omega) (by omega))) (by omega) (by omega)]; omega)]
  · rw [if_pos (by rw [le32, hb, o12]; omega), if_neg c1]
    by_cases c2 : b < 268
    · rw [if_neg (by rw [le32, hb, o268]; omega), if_pos c2]
      rw [number_n4 hC (a := pl + 88) (by rw [add64 (y := 88) hpl (by decide) (by omega) (by omega)]; omega)]
      have hq := n4_lt wd Bk (pl + 88)
      generalize n4 wd Bk (pl + 88) = q at *
      simp only []
      rw [number_n4 hC (a := 1024 * q + 4 * (b - 12)) (by
        rw [add64 (mul64 (x := 1024) (by decide) (num64 (v := q) (by omega)) (by omega) (by omega)) (ext3264 (mul32 (x := 4) (by decide) (sub32 hb o12 (by omega) (by omega)) (by omega) (by omega))) (by omega) (by omega)]; omega)]
    · rw [if_pos (by rw [le32, hb, o268]; omega), if_neg c2]
      simp only [lt1]
      have hj : (a2 - 268).toInt = ((b - 268 : Nat) : Int) := by rw [sub32 hb o268 (by omega) (by omega)]; omega
      generalize a2 - 268 = x5 at *
      rw [number_n4 hC (a := pl + 92) (by rw [add64 (y := 92) hpl (by decide) (by omega) (by omega)]; omega)]
      have hq := n4_lt wd Bk (pl + 92)
      generalize n4 wd Bk (pl + 92) = q at *
      simp only []
      have hjd : (x5 / 256).toInt = (((b - 268) / 256 : Nat) : Int) := by rw [div32 (y := 256) hj (by decide) (by omega) (by omega)]; omega
      have hjm : (x5 - x5 / 256 * 256).toInt = (((b - 268) % 256 : Nat) : Int) := by rw [rem32 (y := 256) hj (by decide) (by omega) (by omega)]; omega
      rw [number_n4 hC (a := 1024 * q + 4 * ((b - 268) / 256)) (by
        rw [add64 (mul64 (x := 1024) (by decide) (num64 (v := q) (by omega)) (by omega) (by omega)) (ext3264 (mul32 (x := 4) (by decide) hjd (by omega) (by omega))) (by omega) (by omega)]; omega)]
      have hq2 := n4_lt wd Bk (1024 * q + 4 * ((b - 268) / 256))
      generalize n4 wd Bk (1024 * q + 4 * ((b - 268) / 256)) = q2 at *
      simp only []
      rw [number_n4 hC (a := 1024 * q2 + 4 * ((b - 268) % 256)) (by
        rw [add64 (mul64 (x := 1024) (by decide) (num64 (v := q2) (by omega)) (by omega) (by omega)) (ext3264 (mul32 (x := 4) (by decide) hjm (by omega) (by omega))) (by omega) (by omega)]; omega)]
end CL
theorem bit0_iff (x : Int64) : (x &&& (1 : Int64)) = 0 ↔ x.toBitVec.getLsbD 0 = false := by
  rw [← Int64.toBitVec_inj, Int64.toBitVec_and]
  constructor
  · intro h
    have h2 := congrArg (fun b => b.getLsbD 0) h
    simp only [BitVec.getLsbD_and] at h2
    have e1 : (1 : Int64).toBitVec.getLsbD 0 = true := by decide
    have e0 : (0 : Int64).toBitVec.getLsbD 0 = false := by decide
    rw [e1, e0] at h2
    simpa using h2
  · intro h
    apply BitVec.eq_of_getLsbD_eq
    intro j hj
    rw [BitVec.getLsbD_and]
    have e0 : (0 : Int64).toBitVec.getLsbD j = false := by
      show (0#64).getLsbD j = false
      simp
    rw [e0]
    by_cases h0 : j = 0
    · subst h0; rw [h]; rfl
    · have : (1 : Int64).toBitVec.getLsbD j = false := by
        show (1#64).getLsbD j = false
        rw [BitVec.getLsbD_one]; simp [h0]
      rw [this]; simp
theorem sshr_bit0 {x : Int64} {v : Int32} {s : Nat} (hv : v.toInt = (s : Int)) (hs : s < 64) :
    (x >>> ((Int32.toInt64 v) &&& 63)).toBitVec.getLsbD 0 = x.toBitVec.getLsbD s := by
  have ha := amt hv hs
  have hm : (((Int32.toInt64 v) &&& 63).toBitVec.smod 64).toNat = s := by
    have e : ((Int32.toInt64 v) &&& 63).toBitVec = BitVec.ofNat 64 s := by
      apply BitVec.eq_of_toNat_eq
      show ((Int32.toInt64 v).toBitVec &&& 63#64).toNat = _
      rw [BitVec.toNat_and, ha]
      show (s &&& (2^6 - 1)) = _
      rw [Nat.and_two_pow_sub_one_eq_mod]; simp; omega
    rw [e]
    have : ∀ s : Fin 64, ((BitVec.ofNat 64 s.1).smod 64).toNat = s.1 := by decide
    exact this ⟨s, hs⟩
  rw [Int64.toBitVec_shiftRight, BitVec.sshiftRight_eq', BitVec.getLsbD_sshiftRight, hm]
  simp [hs]
theorem ofNat_bit {v : Nat} (hv : v < 18446744073709551616) (j : Nat) : (Int64.ofNat v).toBitVec.getLsbD j = v.testBit j := by
  show (BitVec.ofNat 64 v).getLsbD j = _
  unfold BitVec.getLsbD
  rw [BitVec.toNat_ofNat, Nat.mod_eq_of_lt (by omega)]
theorem bitcond {v : Nat} (hv : v < 18446744073709551616) {x : Int32} {s : Nat} (hx : x.toInt = (s : Int)) (hs : s < 64) :
    (((Int64.ofNat v) >>> ((Int32.toInt64 x) &&& 63)) &&& (1 : Int64)) = 0 ↔ v.testBit s = false := by
  rw [bit0_iff, sshr_bit0 hx hs, ofNat_bit hv]
section EN
variable {NW Bk : Nat} {sz bk : Int32} {wd : Nat → Int64} {mb : Nat → Int32} {gI : Int32} {G : Nat} {M : Nat → Nat} {Q : Nat}
theorem bit_eq (hC : CtxD NW sz bk Bk) {a1 : Int64} {a3 : Int32} {p k : Nat} (hp : a1.toInt = (p : Int)) (hp2 : p < 1000000000) (hk : a3.toInt = (k : Int)) :
    f_D_bit NW sz wd a1 a3 = some (if (nu wd Bk ((p + k / 8 : Nat) : Int) 1).testBit (k % 8) then 1 else 0) := by
  have hi := i32_hi a3
  have hd : (a3 / 8).toInt = ((k / 8 : Nat) : Int) := by rw [div32 (y := 8) hk (by decide) (by omega) (by omega)]; omega
  have hm : (a3 - a3 / 8 * 8).toInt = ((k % 8 : Nat) : Int) := by rw [rem32 (y := 8) hk (by decide) (by omega) (by omega)]; omega
  unfold f_D_bit
  rw [number_nu hC (a := ((p + k / 8 : Nat) : Int)) (n := 1) (by rw [add64 hp (ext3264 hd) (by omega) (by omega)]; omega) (by decide) (by omega) (by omega)]
  have hv := nu1 wd Bk ((p + k / 8 : Nat) : Int)
  generalize nu wd Bk ((p + k / 8 : Nat) : Int) 1 = v at *
  show (if _ then _ else _) = _
  have hb := bitcond (v := v) (by omega) hm (by omega)
  by_cases c : v.testBit (k % 8) = false
  · rw [if_pos (hb.mpr c), c]; rfl
  · rw [if_neg (fun h => c (hb.mp h))]
    rw [Bool.not_eq_false] at c
    rw [c]; rfl
theorem groupOf_eq (hL : CtxL mb gI G M Q) {a1 : Int32} {i : Nat} (hi : a1.toInt = (i : Int)) (h1 : 1 ≤ i) : ∃ r, f_L_groupOf NW gI a1 = some r ∧ r.toInt = (((i - 1) / G : Nat) : Int) := by
  obtain ⟨g1, g2, g3, gq, g4⟩ := hL
  have hhi := i32_hi a1
  unfold f_L_groupOf
  rw [if_neg (by rw [lt32, hi]; show ¬ (i : Int) < 1; omega), if_neg (by rw [le32, g1]; show ¬ (G : Int) ≤ 0; omega), if_neg (by rw [eq32, g1]; show ¬ (G : Int) = 0; omega)]
  refine ⟨_, rfl, ?_⟩
  have hs : (a1 - 1).toInt = ((i - 1 : Nat) : Int) := by rw [sub32 (y := 1) hi (by decide) (by omega) (by omega)]; omega
  rw [div32 hs g1 (by omega) (by omega)]; rfl
/-- the bit of inode i in its group's inode map -/
def usedB (wd : Nat → Int64) (Bk G : Nat) (M : Nat → Nat) (i : Nat) : Bool := (nu wd Bk ((1024 * (M ((i - 1) / G) + 1) + (i - 1) % G / 8 : Nat) : Int) 1).testBit ((i - 1) % G % 8)
theorem isUsed_eq (hC : CtxD NW sz bk Bk) (hL : CtxL mb gI G M Q) {a1 : Int32} {i : Nat} (hi : a1.toInt = (i : Int)) (h1 : 1 ≤ i) (h8 : (i - 1) / G < Q) :
    f_L_isUsed NW sz wd mb gI a1 = some (if usedB wd Bk G M i then 1 else 0) := by
  obtain ⟨r, er, hr⟩ := groupOf_eq (NW := NW) hL hi h1
  obtain ⟨g1, g2, g3, gq, g4⟩ := hL
  have hhi := i32_hi a1
  unfold f_L_isUsed
  rw [er]
  simp only [bd1]
  unfold usedB
  have hdm := Nat.div_add_mod (i - 1) G
  have hml := Nat.mod_lt (i - 1) (show G > 0 by omega)
  have h4 := (g4 _ h8).1
  have h5 := (g4 _ h8).2
  generalize (i - 1) / G = q at *
  generalize (i - 1) % G = t at *
  rw [if_neg (by rw [lt32, hr]; show ¬ (q : Int) < 0; omega), if_pos (by rw [lt32, hr]; show (q : Int) < 8; omega)]
  simp only [lt1]
  have hs : (a1 - 1).toInt = ((i - 1 : Nat) : Int) := by rw [sub32 (y := 1) hi (by decide) (by omega) (by omega)]; omega
  have hcast : (q : Int) * (G : Int) = ((G * q : Nat) : Int) := by rw [Int.natCast_mul, Int.mul_comm]
  have hvG : (r * gI).toInt = ((G * q : Nat) : Int) := by
    rw [mul32 hr g1 (by rw [hcast]; omega) (by rw [hcast]; omega), hcast]
  have e3 : ((a1 - 1) - r * gI).toInt = (t : Int) := by
    rw [sub32 hs hvG (by omega) (by omega)]; omega
  generalize (a1 - 1) - r * gI = x3 at *
  rw [if_neg (by rw [oob_iff, hr]; omega), nn32 hr]
  have hd : (x3 / 8).toInt = ((t / 8 : Nat) : Int) := by rw [div32 (y := 8) e3 (by decide) (by omega) (by omega)]; omega
  have hm : (x3 - x3 / 8 * 8).toInt = ((t % 8 : Nat) : Int) := by rw [rem32 (y := 8) e3 (by decide) (by omega) (by omega)]; omega
  have e1 : ((1024 : Int64) * Int32.toInt64 (mb q + 1)).toInt = ((1024 * (M q + 1) : Nat) : Int) := by
    rw [mul64 (x := 1024) (by decide) (ext3264 (add32 (y := 1) h4 (by decide) (by omega) (by omega))) (by omega) (by omega)]; omega
  rw [number_nu hC (a := ((1024 * (M q + 1) + t / 8 : Nat) : Int)) (n := 1) (by rw [add64 e1 (ext3264 hd) (by omega) (by omega)]; omega) (by decide) (by omega) (by omega)]
  have hv := nu1 wd Bk ((1024 * (M q + 1) + t / 8 : Nat) : Int)
  generalize nu wd Bk ((1024 * (M q + 1) + t / 8 : Nat) : Int) 1 = v at *
  have hb := bitcond (v := v) (by omega) hm (by omega)
  show (if _ then _ else _) = _
  by_cases c : v.testBit (t % 8) = false
  · rw [if_pos (hb.mpr c), c]; rfl
  · rw [if_neg (fun h => c (hb.mp h))]
    rw [Bool.not_eq_false] at c
    rw [c]; rfl
theorem described_eq (hC : CtxD NW sz bk Bk) {a1 a2 a3 : Int32} {g at' n : Nat} (hg : a1.toInt = (g : Int)) (hg2 : g < 1000) (ha : a2.toInt = (at' : Int)) (ha2 : at' < 1000) (hn : a3.toInt = (n : Int)) (hn1 : 1 ≤ n) (hn8 : n ≤ 8) :
    f_L_described NW sz wd a1 a2 a3 = some (Int64.ofNat (nu wd Bk ((2048 + 32 * g + at' : Nat) : Int) n)) := by
  unfold f_L_described
  rw [number_nu hC (a := ((2048 + 32 * g + at' : Nat) : Int)) (ext3264 (by rw [add32 (add32 (x := 2048) (by decide) (mul32 (x := 32) (by decide) hg (by omega) (by omega)) (by omega) (by omega)) ha (by omega) (by omega)]; omega)) hn hn1 hn8]
  rfl
theorem firstBlock_eq {gB a1 : Int32} {P g : Nat} (hP : gB.toInt = (P : Int)) (hP2 : P < 1000) (hg : a1.toInt = (g : Int)) (hg2 : g < 1000) : ∃ r, f_L_firstBlock NW gB a1 = some r ∧ r.toInt = ((1 + g * P : Nat) : Int) := by
  refine ⟨_, rfl, ?_⟩
  have hcast : (g : Int) * (P : Int) = ((g * P : Nat) : Int) := by rw [Int.natCast_mul]
  have hle : g * P ≤ 1000 * 1000 := Nat.mul_le_mul (by omega) (by omega)
  have e : (a1 * gB).toInt = ((g * P : Nat) : Int) := by
    rw [mul32 hg hP (by rw [hcast]; omega) (by rw [hcast]; omega), hcast]
  rw [add32 (x := 1) (by decide) e (by omega) (by omega)]; omega
theorem blocksOf_eq (hC : CtxD NW sz bk Bk) {gB a1 : Int32} {P g : Nat} (hP : gB.toInt = (P : Int)) (hP2 : P < 1000) (hg : a1.toInt = (g : Int)) (hg2 : g < 1000) (hin : 1 + g * P ≤ Bk) : ∃ r, f_L_blocksOf NW bk gB a1 = some r ∧ r.toInt = ((min P (Bk - (1 + g * P)) : Nat) : Int) := by
  obtain ⟨r, er, hr⟩ := firstBlock_eq (NW := NW) hP hP2 hg hg2
  obtain ⟨c1, c2, c3, c4, c5⟩ := hC
  unfold f_L_blocksOf f_D_blocks
  rw [er]
  refine ⟨_, rfl, ?_⟩
  have e : (bk - r).toInt = ((Bk - (1 + g * P) : Nat) : Int) := by rw [sub32 c3 hr (by omega) (by omega)]; omega
  by_cases c : (bk - r) < gB
  · rw [if_pos c, e]; rw [lt32, e, hP] at c; omega
  · rw [if_neg c, hP]; rw [lt32, e, hP] at c; omega
theorem blockMap_eq (hL : CtxL mb gI G M Q) {a1 : Int32} {g : Nat} (hg : a1.toInt = (g : Int)) (hg2 : g < Q) : f_L_blockMap NW mb a1 = some (Int64.ofNat (1024 * M g)) := by
  obtain ⟨g1, g2, g3, gq, g4⟩ := hL
  unfold f_L_blockMap
  rw [if_neg (by rw [lt32, hg]; show ¬ (g : Int) < 0; omega), if_neg (by rw [le32, hg]; show ¬ (8 : Int) ≤ g; omega), if_neg (by rw [oob_iff, hg]; omega), nn32 hg]
  have h5 := (g4 _ hg2).2
  congr 1
  rw [eq64, mul64 (x := 1024) (by decide) (ext3264 (g4 _ hg2).1) (by omega) (by omega), num64 (by omega)]; omega
theorem inodeMap_eq (hL : CtxL mb gI G M Q) {a1 : Int32} {g : Nat} (hg : a1.toInt = (g : Int)) (hg2 : g < Q) : f_L_inodeMap NW mb a1 = some (Int64.ofNat (1024 * M g + 1024)) := by
  have h5 := (hL.2.2.2.2 _ hg2).2
  unfold f_L_inodeMap
  rw [blockMap_eq hL hg hg2]
  refine congrArg some ?_
  rw [eq64, add64 (y := 1024) (num64 (v := 1024 * M g) (by omega)) (by decide) (by omega) (by omega), num64 (by omega)]; omega
theorem blocksFor_eq {a1 : Int64} {s : Nat} (hs : a1.toInt = (s : Int)) (h : s < 4294967296) : ∃ r, f_L_blocksFor NW a1 = some r ∧ r.toInt = (((s + 1023) / 1024 : Nat) : Int) := by
  unfold f_L_blocksFor
  have e := div64 (b := 1024) (y := 1024) (sub64 (b := 1) (y := 1) (add64 (b := 1024) (y := 1024) hs (by decide) (by omega) (by omega)) (by decide) (by omega) (by omega)) (by decide) (by omega) (by omega)
  generalize (a1 + 1024 - 1) / 1024 = x at *
  exact ⟨_, rfl, (cut6432 e (by omega) (by omega)).trans (by omega)⟩
end EN
theorem ofNat_toNat64 {v : Nat} (hv : v < 18446744073709551616) : (Int64.ofNat v).toBitVec.toNat = v := by
  show (BitVec.ofNat 64 v).toNat = v
  rw [BitVec.toNat_ofNat]; omega
theorem ushr_nat {x : Int64} {w : Int32} {s : Nat} (hw : w.toInt = (s : Int)) (hs : s < 64) :
    (UInt64.toInt64 ((Int64.toUInt64 x) >>> ((Int64.toUInt64 (Int32.toInt64 w)) &&& Int64.toUInt64 63))).toBitVec.toNat = x.toBitVec.toNat / 2 ^ s := by
  apply Nat.eq_of_testBit_eq
  intro j
  rw [Nat.testBit_div_two_pow]
  have h := ushr_bit (x := x) hw hs j
  unfold BitVec.getLsbD at h
  rw [h, Nat.add_comm]
theorem cut_nat (y : Int64) : (Int64.toInt32 y).toBitVec.toNat = y.toBitVec.toNat % 4294967296 := by
  show (BitVec.signExtend 32 y.toBitVec).toNat = _
  rw [BitVec.signExtend_eq_setWidth_of_le _ (by decide), BitVec.toNat_setWidth]
theorem and_nat' (x m : Int32) (k : Nat) (hm : m.toBitVec.toNat = 2 ^ k - 1) : (x &&& m).toBitVec.toNat = x.toBitVec.toNat % 2 ^ k := by
  rw [Int32.toBitVec_and, BitVec.toNat_and, hm, Nat.and_two_pow_sub_one_eq_mod]
theorem toInt_of_nat32 {x : Int32} {v : Nat} (h : x.toBitVec.toNat = v) (hv : v < 2147483648) : x.toInt = (v : Int) := by
  show x.toBitVec.toInt = _
  rw [BitVec.toInt_eq_toNat_of_lt (by rw [h]; omega), h]
theorem low32 {v : Nat} (hv : v < 18446744073709551616) : ((Int64.ofNat v) &&& (4294967295 : Int64)) = Int64.ofNat (v % 4294967296) := by
  apply ofNat64_of_toNat
  rw [Int64.toBitVec_and, BitVec.toNat_and, ofNat_toNat64 hv]
  show v &&& (2 ^ 32 - 1) = _
  rw [Nat.and_two_pow_sub_one_eq_mod]
/-- an entry's head: its inode, its length, its name's length, its mark -/
abbrev hIno (v : Nat) : Nat := v % 4294967296
abbrev hLen (v : Nat) : Nat := v / 4294967296 % 65536
abbrev hNam (v : Nat) : Nat := v / 281474976710656 % 256
abbrev hMar (v : Nat) : Nat := v / 72057594037927936
section EH
variable {NW Bk : Nat} {sz bk : Int32} {wd : Nat → Int64} {v : Nat}
theorem length_eq (hv : v < 18446744073709551616) : ∃ r, f_E_length NW (Int64.ofNat v) = some r ∧ r.toInt = ((hLen v : Nat) : Int) := by
  refine ⟨_, rfl, ?_⟩
  apply toInt_of_nat32
  · rw [and_nat' _ _ 16 (by decide), cut_nat, ushr_nat (s := 32) (by decide) (by omega), ofNat_toNat64 hv]
    show v / 4294967296 % 4294967296 % 65536 = v / 4294967296 % 65536
    omega
  · show v / 4294967296 % 65536 < _
    omega
theorem nameLength_eq (hv : v < 18446744073709551616) : ∃ r, f_E_nameLength NW (Int64.ofNat v) = some r ∧ r.toInt = ((hNam v : Nat) : Int) := by
  refine ⟨_, rfl, ?_⟩
  apply toInt_of_nat32
  · rw [and_nat' _ _ 8 (by decide), cut_nat, ushr_nat (s := 48) (by decide) (by omega), ofNat_toNat64 hv]
    show v / 281474976710656 % 4294967296 % 256 = v / 281474976710656 % 256
    omega
  · show v / 281474976710656 % 256 < _
    omega
theorem mark_eq (hv : v < 18446744073709551616) : ∃ r, f_E_mark NW (Int64.ofNat v) = some r ∧ r.toInt = ((hMar v : Nat) : Int) := by
  refine ⟨_, rfl, ?_⟩
  apply toInt_of_nat32
  · rw [cut_nat, ushr_nat (s := 56) (by decide) (by omega), ofNat_toNat64 hv]
    show v / 72057594037927936 % 4294967296 = v / 72057594037927936
    omega
  · show v / 72057594037927936 < _
    omega
theorem inode_eq (hv : v < 18446744073709551616) (h : hIno v < 2147483648) : ∃ r, f_E_inode NW (Int64.ofNat v) = some r ∧ r.toInt = ((hIno v : Nat) : Int) := by
  refine ⟨_, rfl, toInt_of_nat32 ?_ h⟩
  rw [cut_nat, ofNat_toNat64 hv]
theorem zero64_iff {u : Nat} (hu : u < 9223372036854775808) : Int64.ofNat u = 0 ↔ u = 0 := by
  rw [eq64, num64 hu]
  show (u : Int) = 0 ↔ _
  omega
theorem isItem_eq {od : Int32} {o : Nat} (ho : od.toInt = (o : Int)) (hv : v < 18446744073709551616) : f_E_isItem NW od (Int64.ofNat v) = some (if 2 ≤ o ∧ hIno v ≠ 0 then 1 else 0) := by
  show _ = some (if 2 ≤ o ∧ v % 4294967296 ≠ 0 then 1 else 0)
  unfold f_E_isItem
  have hz := zero64_iff (u := v % 4294967296) (by omega)
  by_cases c : od < 2
  · rw [if_pos c]; rw [lt32, ho] at c
    have c : (o : Int) < 2 := c
    rw [if_neg (by omega)]
  · rw [if_neg c]; rw [lt32, ho] at c
    have c : ¬ (o : Int) < 2 := c
    rw [low32 hv]
    by_cases c2 : v % 4294967296 = 0
    · rw [if_pos (hz.mpr c2), if_neg (by omega)]
    · rw [if_neg (fun h => c2 (hz.mp h)), if_pos (by omega)]
theorem isEmpty_eq {od : Int32} {o : Nat} (ho : od.toInt = (o : Int)) (hv : v < 18446744073709551616) : f_E_isEmpty NW od (Int64.ofNat v) = some (if 2 ≤ o ∧ hIno v = 0 then 1 else 0) := by
  show _ = some (if 2 ≤ o ∧ v % 4294967296 = 0 then 1 else 0)
  unfold f_E_isEmpty
  have hz := zero64_iff (u := v % 4294967296) (by omega)
  by_cases c : od < 2
  · rw [if_pos c]; rw [lt32, ho] at c
    have c : (o : Int) < 2 := c
    rw [if_neg (by omega)]
  · rw [if_neg c]; rw [lt32, ho] at c
    have c : ¬ (o : Int) < 2 := c
    rw [low32 hv]
    by_cases c2 : v % 4294967296 = 0
    · rw [if_pos (hz.mpr c2), if_pos (by omega)]
    · rw [if_neg (fun h => c2 (hz.mp h)), if_neg (by omega)]
theorem hasInode_eq {iN : Int32} {I : Nat} (hI : iN.toInt = (I : Int)) (hv : v < 18446744073709551616) : f_E_hasInode NW iN (Int64.ofNat v) = some (if 1 ≤ hIno v ∧ hIno v ≤ I then 1 else 0) := by
  show _ = some (if 1 ≤ v % 4294967296 ∧ v % 4294967296 ≤ I then 1 else 0)
  unfold f_E_hasInode f_L_isInode
  rw [low32 hv]
  have hn := num64 (v := v % 4294967296) (by omega)
  by_cases c : Int64.ofNat (v % 4294967296) < 1
  · rw [if_pos c]; rw [lt64, hn] at c
    have c : ((v % 4294967296 : Nat) : Int) < 1 := c
    rw [if_neg (by omega)]; rfl
  · rw [if_neg c]; rw [lt64, hn] at c
    have c : ¬ ((v % 4294967296 : Nat) : Int) < 1 := c
    by_cases c2 : Int32.toInt64 iN < Int64.ofNat (v % 4294967296)
    · rw [if_pos c2]; rw [lt64, hn, ext3264 hI] at c2
      rw [if_neg (by omega)]; rfl
    · rw [if_neg c2]; rw [lt64, hn, ext3264 hI] at c2
      rw [if_pos (by omega)]; rfl
theorem fits_eq {of : Int64} {o : Nat} (ho : of.toInt = (o : Int)) (ho2 : o < 1000000000000) (hv : v < 18446744073709551616) : f_E_fits NW of (Int64.ofNat v) = some (if 12 ≤ hLen v ∧ hLen v % 4 = 0 ∧ o % 1024 + hLen v ≤ 1024 then 1 else 0) := by
  obtain ⟨r, er, hr⟩ := length_eq (NW := NW) hv
  unfold f_E_fits
  rw [er]
  simp only [bd1]
  have hl : hLen v < 65536 := Nat.mod_lt _ (by decide)
  generalize hLen v = n at *
  by_cases c : r < 12
  · rw [if_pos c]; rw [lt32, hr] at c
    have c : (n : Int) < 12 := c
    rw [if_neg (by omega)]
  · rw [if_neg c]; rw [lt32, hr] at c
    have c : ¬ (n : Int) < 12 := c
    have hm : (r - r / 4 * 4).toInt = ((n % 4 : Nat) : Int) := by rw [rem32 (y := 4) hr (by decide) (by omega) (by omega)]; omega
    have hom : (of - of / 1024 * 1024).toInt = ((o % 1024 : Nat) : Int) := by rw [rem64 (y := 1024) ho (by decide) (by omega) (by omega)]; omega
    generalize r - r / 4 * 4 = r4 at *
    generalize of - of / 1024 * 1024 = om at *
    have z : (0 : Int32).toInt = 0 := by decide
    have hsum : (om + Int32.toInt64 r).toInt = ((o % 1024 + n : Nat) : Int) := by rw [add64 hom (ext3264 hr) (by omega) (by omega)]; omega
    generalize om + Int32.toInt64 r = sm at *
    by_cases c2 : r4 = 0
    · rw [if_pos c2]; rw [eq32, hm, z] at c2
      by_cases c3 : 1024 < sm
      · rw [if_pos c3]; rw [lt64, hsum] at c3
        have c3 : (1024 : Int) < ((o % 1024 + n : Nat) : Int) := c3
        rw [if_neg (by omega)]
      · rw [if_neg c3]; rw [lt64, hsum] at c3
        have c3 : ¬ (1024 : Int) < ((o % 1024 + n : Nat) : Int) := c3
        rw [if_pos (by omega)]
    · rw [if_neg c2]; rw [eq32, hm, z] at c2
      rw [if_neg (by omega)]
end EH
section NM
variable {N NW Bk : Nat} {sz bk : Int32} {wd : Nat → Int64} {v : Nat} {pl : Int64} {p : Nat}
abbrev b1 (wd : Nat → Int64) (Bk a : Nat) : Nat := nu wd Bk ((a : Nat) : Int) 1
theorem number_b1 (hC : CtxD NW sz bk Bk) {a1 : Int64} {a : Nat} (ha : a1.toInt = (a : Int)) : f_D_number NW sz wd a1 1 = some (Int64.ofNat (b1 wd Bk a)) := number_nu hC ha (by decide) (by omega) (by omega)
theorem hasName_loop (hC : CtxD NW sz bk Bk) (hp : pl.toInt = (p : Int)) (hp2 : p < 1000000000000000) {hd : Int64} {x1 : Int32} {n : Nat} (h1 : x1.toInt = (n : Int)) (hn : n < 256) :
    ∀ (k : Nat) (x2 : Int32) (j : Nat), x2.toInt = (j : Int) → j ≤ n → n - j < k → f_E_hasName_24 N NW sz wd pl hd k x1 x2 = some (if ∀ i, i < n → j ≤ i → b1 wd Bk (p + 8 + i) ≠ 0 ∧ b1 wd Bk (p + 8 + i) ≠ 47 then 1 else 0) := by
  intro k
  induction k with
  | zero => intro x2 j _ _ h; omega
  | succ k ih =>
    intro x2 j h2 hj hk
    rw [f_E_hasName_24]
    by_cases c : x1 ≤ x2
    · rw [if_pos c]; rw [le32, h1, h2] at c
      rw [if_pos (fun i hi hji => by omega)]
    · rw [if_neg c]; rw [le32, h1, h2] at c
      rw [number_b1 hC (a := p + 8 + j) (by rw [add64 (add64 (y := 8) hp (by decide) (by omega) (by omega)) (ext3264 h2) (by omega) (by omega)]; omega)]
      have hb : b1 wd Bk (p + 8 + j) < 256 := nu1 wd Bk _
      simp only [bd1]
      have z0 := zero64_iff (u := b1 wd Bk (p + 8 + j)) (by omega)
      have z47 : Int64.ofNat (b1 wd Bk (p + 8 + j)) = 47 ↔ b1 wd Bk (p + 8 + j) = 47 := by
        rw [eq64, num64 (by omega)]
        show (_ : Int) = 47 ↔ _
        omega
      by_cases c0 : b1 wd Bk (p + 8 + j) = 0
      · rw [if_pos (z0.mpr c0), if_neg (fun h => (h j (by omega) (Nat.le_refl _)).1 c0)]
      · rw [if_neg (fun h => c0 (z0.mp h))]
        by_cases c47 : b1 wd Bk (p + 8 + j) = 47
        · rw [if_pos (z47.mpr c47), if_neg (fun h => (h j (by omega) (Nat.le_refl _)).2 c47)]
        · rw [if_neg (fun h => c47 (z47.mp h))]
          simp only [lt1]
          rw [ih (x2 + 1) (j + 1) (by rw [add32 (y := 1) h2 (by decide) (by omega) (by omega)]; omega) (by omega) (by omega)]
          congr 1
          by_cases ca : ∀ i, i < n → j + 1 ≤ i → b1 wd Bk (p + 8 + i) ≠ 0 ∧ b1 wd Bk (p + 8 + i) ≠ 47
          · rw [if_pos ca, if_pos]
            intro i hi hji
            by_cases e : i = j
            · subst e; exact ⟨c0, c47⟩
            · exact ca i hi (by omega)
          · rw [if_neg ca, if_neg]
            intro h
            exact ca (fun i hi hji => h i hi (by omega))
/-- the name of an entry at p whose head is v: not empty, within its length, no 0 and no 47 -/
def NameOK (wd : Nat → Int64) (Bk p v : Nat) : Prop := hNam v ≠ 0 ∧ 8 + hNam v ≤ hLen v ∧ ∀ i, i < hNam v → b1 wd Bk (p + 8 + i) ≠ 0 ∧ b1 wd Bk (p + 8 + i) ≠ 47
theorem hasName_eq (hC : CtxD NW sz bk Bk) (hp : pl.toInt = (p : Int)) (hp2 : p < 1000000000000000) (hv : v < 18446744073709551616) (hN : 256 ≤ N) :
    ∃ r, f_E_hasName N NW sz wd pl (Int64.ofNat v) = some r ∧ (r = 1 ∨ r = 0) ∧ (r = 1 ↔ NameOK wd Bk p v) := by
  obtain ⟨rn, en, hn⟩ := nameLength_eq (NW := NW) hv
  obtain ⟨rl, el, hl⟩ := length_eq (NW := NW) hv
  unfold f_E_hasName NameOK
  rw [en, el]
  simp only [bd1]
  have hn2 : hNam v < 256 := Nat.mod_lt _ (by decide)
  have hl2 : hLen v < 65536 := Nat.mod_lt _ (by decide)
  generalize hNam v = n at *
  generalize hLen v = L at *
  have z : (0 : Int32).toInt = 0 := by decide
  by_cases c : rn = 0
  · rw [if_pos c]; rw [eq32, hn, z] at c
    exact ⟨0, rfl, Or.inr rfl, fun h => absurd h (by decide), fun h => absurd (by omega) h.1⟩
  · rw [if_neg c]; rw [eq32, hn, z] at c
    have hs : ((8 : Int32) + rn).toInt = ((8 + n : Nat) : Int) := by rw [add32 (x := 8) (by decide) hn (by omega) (by omega)]; omega
    by_cases c2 : (8 : Int32) + rn ≤ rl
    · rw [if_pos c2]; rw [le32, hs, hl] at c2
      rw [hasName_loop hC hp hp2 hn hn2 N 0 0 (by decide) (by omega) (by omega)]
      by_cases ca : ∀ i, i < n → 0 ≤ i → b1 wd Bk (p + 8 + i) ≠ 0 ∧ b1 wd Bk (p + 8 + i) ≠ 47
      · rw [if_pos ca]
        exact ⟨1, rfl, Or.inl rfl, fun _ => ⟨by omega, by omega, fun i hi => ca i hi (Nat.zero_le _)⟩, fun _ => rfl⟩
      · rw [if_neg ca]
        exact ⟨0, rfl, Or.inr rfl, fun h => absurd h (by decide), fun h => absurd (fun i hi _ => h.2.2 i hi) ca⟩
    · rw [if_neg c2]; rw [le32, hs, hl] at c2
      exact ⟨0, rfl, Or.inr rfl, fun h => absurd h (by decide), fun h => absurd h.2.1 (by omega)⟩
theorem isOneDot_eq (hC : CtxD NW sz bk Bk) (hp : pl.toInt = (p : Int)) (hp2 : p < 1000000000000000) (hv : v < 18446744073709551616) :
    f_E_isOneDot NW sz wd pl (Int64.ofNat v) = some (if hNam v = 1 ∧ b1 wd Bk (p + 8) = 46 then 1 else 0) := by
  obtain ⟨rn, en, hn⟩ := nameLength_eq (NW := NW) hv
  unfold f_E_isOneDot
  rw [en]
  simp only [bd1]
  have hn2 : hNam v < 256 := Nat.mod_lt _ (by decide)
  generalize hNam v = n at *
  have o : (1 : Int32).toInt = 1 := by decide
  by_cases c : rn = 1
  · rw [if_pos c]; rw [eq32, hn, o] at c
    rw [number_b1 hC (a := p + 8) (by rw [add64 (y := 8) hp (by decide) (by omega) (by omega)]; omega)]
    have hb : b1 wd Bk (p + 8) < 256 := nu1 wd Bk _
    have z : Int64.ofNat (b1 wd Bk (p + 8)) = 46 ↔ b1 wd Bk (p + 8) = 46 := by
      rw [eq64, num64 (by omega)]
      show (_ : Int) = 46 ↔ _
      omega
    by_cases c2 : b1 wd Bk (p + 8) = 46
    · rw [if_pos ⟨by omega, c2⟩]; exact if_pos (z.mpr c2)
    · rw [if_neg (fun h => c2 h.2)]; exact if_neg (fun h => c2 (z.mp h))
  · rw [if_neg c]; rw [eq32, hn, o] at c
    rw [if_neg (fun h => c (by omega))]
theorem isTwoDots_eq (hC : CtxD NW sz bk Bk) (hp : pl.toInt = (p : Int)) (hp2 : p < 1000000000000000) (hv : v < 18446744073709551616) :
    f_E_isTwoDots NW sz wd pl (Int64.ofNat v) = some (if hNam v = 2 ∧ nu wd Bk ((p + 8 : Nat) : Int) 2 = 11822 then 1 else 0) := by
  obtain ⟨rn, en, hn⟩ := nameLength_eq (NW := NW) hv
  unfold f_E_isTwoDots
  rw [en]
  simp only [bd1]
  have hn2 : hNam v < 256 := Nat.mod_lt _ (by decide)
  generalize hNam v = n at *
  have o : (2 : Int32).toInt = 2 := by decide
  by_cases c : rn = 2
  · rw [if_pos c]; rw [eq32, hn, o] at c
    rw [number_nu hC (a := ((p + 8 : Nat) : Int)) (n := 2) (by rw [add64 (y := 8) hp (by decide) (by omega) (by omega)]; omega) (by decide) (by omega) (by omega)]
    have hb := nu2 wd Bk ((p + 8 : Nat) : Int)
    generalize nu wd Bk ((p + 8 : Nat) : Int) 2 = q at *
    have z : Int64.ofNat q = 11822 ↔ q = 11822 := by
      rw [eq64, num64 (by omega)]
      show (_ : Int) = 11822 ↔ _
      omega
    by_cases c2 : q = 11822
    · rw [if_pos ⟨by omega, c2⟩]; exact if_pos (z.mpr c2)
    · rw [if_neg (fun h => c2 h.2)]; exact if_neg (fun h => c2 (z.mp h))
  · rw [if_neg c]; rw [eq32, hn, o] at c
    rw [if_neg (fun h => c (by omega))]
theorem nameByte_eq (hC : CtxD NW sz bk Bk) (hp : pl.toInt = (p : Int)) (hp2 : p < 1000000000000000) {a1 : Int32} {i : Nat} (hi : a1.toInt = (i : Int)) :
    ∃ r, f_E_nameByte NW sz wd pl a1 = some r ∧ r.toInt = ((b1 wd Bk (p + 8 + i) : Nat) : Int) := by
  have hh := i32_hi a1
  unfold f_E_nameByte
  rw [number_b1 hC (a := p + 8 + i) (by rw [add64 (add64 (y := 8) hp (by decide) (by omega) (by omega)) (ext3264 hi) (by omega) (by omega)]; omega)]
  have hb : b1 wd Bk (p + 8 + i) < 256 := nu1 wd Bk _
  exact ⟨_, rfl, cut6432 (num64 (by omega)) (by omega) (by omega)⟩
end NM
def B01 (r : Int32) (P : Prop) : Prop := (r = 1 ∧ P) ∨ (r = 0 ∧ ¬ P)
/-- bit k of a map at p -/
def mbit (wd : Nat → Int64) (Bk p k : Nat) : Bool := (b1 wd Bk (p + k / 8)).testBit (k % 8)
theorem b1_in {wd : Nat → Int64} {Bk a : Nat} (h : a + 1 ≤ 1024 * Bk) : b1 wd Bk a = cby wd a := by
  unfold b1 nu cnum
  rw [if_pos (by omega)]
  simp [lenum]
theorem nu_bits {wd : Nat → Int64} {Bk a n : Nat} (h : a + n ≤ 1024 * Bk) (j : Nat) : (nu wd Bk ((a : Nat) : Int) n).testBit j = (decide (j < 8 * n) && (b1 wd Bk (a + j / 8)).testBit (j % 8)) := by
  unfold nu cnum
  rw [if_pos (by omega), Int.toNat_natCast, lenum_bit (cby_lt wd)]
  by_cases hj : j < 8 * n
  · rw [b1_in (by omega)]
  · simp [hj]
theorem nu_le {wd : Nat → Int64} {Bk : Nat} {a : Int} {n : Nat} : nu wd Bk a n < 256 ^ n := nu_lt wd Bk a n
theorem ones_iff {x : Nat} (h : x < 18446744073709551616) : Int64.ofNat x = -1 ↔ ∀ j, j < 64 → x.testBit j = true := by
  rw [← Int64.toBitVec_inj]
  constructor
  · intro e j hj
    have := ofNat_bit h j
    rw [e] at this
    rw [← this]
    show (BitVec.allOnes 64).getLsbD j = true
    rw [BitVec.getLsbD_allOnes]; simp [hj]
  · intro hb
    apply BitVec.eq_of_getLsbD_eq
    intro j hj
    rw [ofNat_bit h, hb j hj]
    show true = (BitVec.allOnes 64).getLsbD j
    rw [BitVec.getLsbD_allOnes]; simp [hj]
section ON
variable {N NW Bk : Nat} {sz bk : Int32} {wd : Nat → Int64} {x1 : Int64} {p : Nat}
theorem ones_words (hC : CtxD NW sz bk Bk) (hp : x1.toInt = (p : Int)) (hin : p + 1024 ≤ 1024 * Bk) :
    ∀ (k : Nat) (x4 : Int32) (t : Nat), x4.toInt = (t : Int) → t % 64 = 0 → t ≤ 8192 → 8192 - t < 64 * k → ∃ r, f_D_onesFrom_53 N NW sz wd k x1 x4 = some r ∧ B01 r (∀ q, t ≤ q → q < 8192 → mbit wd Bk p q = true) := by
  have hB : Bk ≤ 512 := hC.2.2.2.2
  intro k
  induction k with
  | zero => intro x4 t _ _ _ h; omega
  | succ k ih =>
    intro x4 t h4 hm ht hk
    rw [f_D_onesFrom_53]
    by_cases c : (8192 : Int32) ≤ x4
    · rw [if_pos c]; rw [le32, h4] at c
      have c : (8192 : Int) ≤ (t : Int) := c
      exact ⟨1, rfl, Or.inl ⟨rfl, fun q h1 h2 => by omega⟩⟩
    · rw [if_neg c]; rw [le32, h4] at c
      have c : ¬ (8192 : Int) ≤ (t : Int) := c
      have hd : (x4 / 8).toInt = ((t / 8 : Nat) : Int) := by rw [div32 (y := 8) h4 (by decide) (by omega) (by omega)]; omega
      rw [number_nu hC (a := ((p + t / 8 : Nat) : Int)) (n := 8) (by rw [add64 hp (ext3264 hd) (by omega) (by omega)]; omega) (by decide) (by omega) (by omega)]
      have hv : nu wd Bk ((p + t / 8 : Nat) : Int) 8 < 18446744073709551616 := nu_lt wd Bk _ 8
      simp only [bd1]
      have hones := ones_iff hv
      have hbits : ∀ j, j < 64 → (nu wd Bk ((p + t / 8 : Nat) : Int) 8).testBit j = mbit wd Bk p (t + j) := by
        intro j hj
        rw [nu_bits (by omega)]
        unfold mbit
        rw [show p + t / 8 + j / 8 = p + (t + j) / 8 by omega, show j % 8 = (t + j) % 8 by omega]
        simp [show j < 8 * 8 by omega]
      by_cases c2 : Int64.ofNat (nu wd Bk ((p + t / 8 : Nat) : Int) 8) = -1
      · rw [if_pos c2]
        simp only [lt1]
        have h4' : (x4 + 64).toInt = ((t + 64 : Nat) : Int) := by rw [add32 (y := 64) h4 (by decide) (by omega) (by omega)]; omega
        obtain ⟨r, er, hr⟩ := ih (x4 + 64) (t + 64) h4' (by omega) (by omega) (by omega)
        refine ⟨r, er, ?_⟩
        have hall := hones.mp c2
        rcases hr with ⟨e, h⟩ | ⟨e, h⟩
        · refine Or.inl ⟨e, fun q h1 h2 => ?_⟩
          by_cases hq : q < t + 64
          · have := hall (q - t) (by omega)
            rw [hbits _ (by omega), show t + (q - t) = q by omega] at this
            exact this
          · exact h q (by omega) h2
        · exact Or.inr ⟨e, fun hh => h (fun q h1 h2 => hh q (by omega) h2)⟩
      · rw [if_neg c2]
        refine ⟨0, rfl, Or.inr ⟨rfl, fun hh => c2 (hones.mpr (fun j hj => ?_))⟩⟩
        rw [hbits j hj]
        exact hh _ (by omega) (by omega)
theorem ones_bits (hC : CtxD NW sz bk Bk) (hp : x1.toInt = (p : Int)) (hin : p + 1024 ≤ 1024 * Bk) (hN : 8192 < N) :
    ∀ (k : Nat) (x4 : Int32) (t : Nat), x4.toInt = (t : Int) → t ≤ 8192 → 8192 - t < k → ∃ r, f_D_onesFrom_3 N NW sz wd k x1 x4 = some r ∧ B01 r (∀ q, t ≤ q → q < 8192 → mbit wd Bk p q = true) := by
  have hB : Bk ≤ 512 := hC.2.2.2.2
  intro k
  induction k with
  | zero => intro x4 t _ _ h; omega
  | succ k ih =>
    intro x4 t h4 ht hk
    rw [f_D_onesFrom_3]
    by_cases c : (8192 : Int32) ≤ x4
    · rw [if_pos c]; rw [le32, h4] at c
      have c : (8192 : Int) ≤ (t : Int) := c
      exact ones_words hC hp hin N x4 t h4 (by omega) (by omega) (by omega)
    · rw [if_neg c]; rw [le32, h4] at c
      have c : ¬ (8192 : Int) ≤ (t : Int) := c
      have hm : (x4 - x4 / 64 * 64).toInt = ((t % 64 : Nat) : Int) := by rw [rem32 (y := 64) h4 (by decide) (by omega) (by omega)]; omega
      have z : (0 : Int32).toInt = 0 := by decide
      by_cases c2 : x4 - x4 / 64 * 64 = 0
      · rw [if_pos c2]; rw [eq32, hm, z] at c2
        exact ones_words hC hp hin N x4 t h4 (by omega) (by omega) (by omega)
      · rw [if_neg c2]
        have hd : (x4 / 8).toInt = ((t / 8 : Nat) : Int) := by rw [div32 (y := 8) h4 (by decide) (by omega) (by omega)]; omega
        have hm8 : (x4 - x4 / 8 * 8).toInt = ((t % 8 : Nat) : Int) := by rw [rem32 (y := 8) h4 (by decide) (by omega) (by omega)]; omega
        rw [number_b1 hC (a := p + t / 8) (by rw [add64 hp (ext3264 hd) (by omega) (by omega)]; omega)]
        simp only [bd1]
        have hv : b1 wd Bk (p + t / 8) < 256 := nu1 wd Bk _
        have hb := bitcond (v := b1 wd Bk (p + t / 8)) (by omega) hm8 (by omega)
        by_cases c3 : (b1 wd Bk (p + t / 8)).testBit (t % 8) = false
        · rw [if_pos (hb.mpr c3)]
          refine ⟨0, rfl, Or.inr ⟨rfl, fun hh => ?_⟩⟩
          have := hh t (Nat.le_refl _) (by omega)
          unfold mbit at this
          rw [c3] at this
          cases this
        · rw [if_neg (fun h => c3 (hb.mp h))]
          simp only [lt1]
          have h4' : (x4 + 1).toInt = ((t + 1 : Nat) : Int) := by rw [add32 (y := 1) h4 (by decide) (by omega) (by omega)]; omega
          obtain ⟨r, er, hr⟩ := ih (x4 + 1) (t + 1) h4' (by omega) (by omega)
          refine ⟨r, er, ?_⟩
          rcases hr with ⟨e, h⟩ | ⟨e, h⟩
          · refine Or.inl ⟨e, fun q h1 h2 => ?_⟩
            by_cases hq : q = t
            · subst hq; unfold mbit; rw [Bool.not_eq_false] at c3; exact c3
            · exact h q (by omega) h2
          · exact Or.inr ⟨e, fun hh => h (fun q h1 h2 => hh q (by omega) h2)⟩
theorem onesFrom_eq (hC : CtxD NW sz bk Bk) (hp : x1.toInt = (p : Int)) (hin : p + 1024 ≤ 1024 * Bk) (hN : 8192 < N) {a3 : Int32} {t : Nat} (h3 : a3.toInt = (t : Int)) (ht : t ≤ 8192) :
    ∃ r, f_D_onesFrom N NW sz wd x1 a3 = some r ∧ B01 r (∀ q, t ≤ q → q < 8192 → mbit wd Bk p q = true) := ones_bits hC hp hin hN N a3 t h3 ht (by omega)
end ON
abbrev n2 (wd : Nat → Int64) (Bk : Nat) (a : Nat) : Nat := nu wd Bk ((a : Nat) : Int) 2
theorem n2_lt (wd : Nat → Int64) (Bk a : Nat) : n2 wd Bk a < 65536 := nu2 wd Bk _
/-- blocks and inodes of a group, groups, by the superblock -/
def gP (wd : Nat → Int64) (Bk : Nat) : Nat := n4 wd Bk 1056
def gG (wd : Nat → Int64) (Bk : Nat) : Nat := n4 wd Bk 1064
def gQ (wd : Nat → Int64) (Bk : Nat) : Nat := (Bk - 1 + gP wd Bk - 1) / gP wd Bk
def GroupsOK (wd : Nat → Int64) (Bk : Nat) : Prop := (gP wd Bk = 64 ∨ gP wd Bk = 128 ∨ gP wd Bk = 256) ∧ 8 ≤ gG wd Bk ∧ gG wd Bk ≤ 8192 ∧ gG wd Bk % 8 = 0
/-- fault 1 is not there -/
def SuperOK (wd : Nat → Int64) (Bk : Nat) : Prop := GroupsOK wd Bk ∧ n4 wd Bk 1024 = gQ wd Bk * gG wd Bk ∧ n4 wd Bk 1028 = Bk ∧ n4 wd Bk 1044 = 1 ∧ n4 wd Bk 1048 = 0 ∧ n4 wd Bk 1060 = gP wd Bk ∧ n2 wd Bk 1080 = 61267 ∧ n2 wd Bk 1082 = 1 ∧ n4 wd Bk 1100 = 1 ∧ n4 wd Bk 1108 = 11 ∧ n2 wd Bk 1112 = 128 ∧ n2 wd Bk 1114 = 0 ∧ n4 wd Bk 1120 = 2
theorem B01.ne {r : Int32} {P : Prop} (h : B01 r P) : (r = 0 ↔ ¬ P) := by
  rcases h with ⟨e, p⟩ | ⟨e, p⟩
  · subst e; exact ⟨fun h => absurd h (by decide), fun h => absurd p h⟩
  · exact ⟨fun _ => p, fun _ => e⟩
theorem B01.t {r : Int32} {P : Prop} (h : B01 r P) (p : P) : r = 1 := by
  rcases h with ⟨e, _⟩ | ⟨_, q⟩
  · exact e
  · exact absurd p q
theorem B01.f {r : Int32} {P : Prop} (h : B01 r P) (p : ¬ P) : r = 0 := (h.ne).mpr p
section SU
variable {N NW Bk : Nat} {sz bk : Int32} {wd : Nat → Int64} {gB gI gN iN : Int32}
theorem readGroups_eq (hC : CtxD NW sz bk Bk) :
    (GroupsOK wd Bk ∧ ∃ gB' gI' gN' iN' : Int32, f_L_readGroups NW bk sz wd gB gI gN iN = some (1, gB', gI', gN', iN') ∧ gB'.toInt = (gP wd Bk : Int) ∧ gI'.toInt = (gG wd Bk : Int) ∧ gN'.toInt = (gQ wd Bk : Int) ∧ iN'.toInt = ((gQ wd Bk * gG wd Bk : Nat) : Int) ∧ gQ wd Bk ≤ 8 ∧ 1 ≤ gQ wd Bk) ∨
    (¬ GroupsOK wd Bk ∧ f_L_readGroups NW bk sz wd gB gI gN iN = some (0, gB, gI, gN, iN)) := by
  unfold f_L_readGroups
  rw [number_n4 hC (a := 1056) (by decide), number_n4 hC (a := 1064) (by decide)]
  simp only [bd1]
  have hP2 := n4_lt wd Bk 1056
  have hG2 := n4_lt wd Bk 1064
  unfold GroupsOK gQ gP gG
  generalize n4 wd Bk 1056 = P at *
  generalize n4 wd Bk 1064 = G at *
  have e64 : Int64.ofNat P = 64 ↔ P = 64 := by
    rw [eq64, num64 (by omega)]
    show (P : Int) = 64 ↔ _
    omega
  have e128 : Int64.ofNat P = 128 ↔ P = 128 := by
    rw [eq64, num64 (by omega)]
    show (P : Int) = 128 ↔ _
    omega
  have e256 : Int64.ofNat P = 256 ↔ P = 256 := by
    rw [eq64, num64 (by omega)]
    show (P : Int) = 256 ↔ _
    omega
  have main : (P = 64 ∨ P = 128 ∨ P = 256) →
      ((8 ≤ G ∧ G ≤ 8192 ∧ G % 8 = 0) ∧ ∃ gB' gI' gN' iN' : Int32, f_L_readGroups_50 NW bk sz wd gB gI gN iN (Int64.ofNat P) (Int64.ofNat G) = some (1, gB', gI', gN', iN') ∧ gB'.toInt = (P : Int) ∧ gI'.toInt = (G : Int) ∧ gN'.toInt = (((Bk - 1 + P - 1) / P : Nat) : Int) ∧ iN'.toInt = (((Bk - 1 + P - 1) / P * G : Nat) : Int) ∧ (Bk - 1 + P - 1) / P ≤ 8 ∧ 1 ≤ (Bk - 1 + P - 1) / P) ∨
      (¬ (8 ≤ G ∧ G ≤ 8192 ∧ G % 8 = 0) ∧ f_L_readGroups_50 NW bk sz wd gB gI gN iN (Int64.ofNat P) (Int64.ofNat G) = some (0, gB, gI, gN, iN)) := by
    intro hP
    obtain ⟨c1, c2, c3, c4, c5⟩ := hC
    unfold f_L_readGroups_50 f_D_blocks
    have hGn := num64 (v := G) (by omega)
    have hPn := num64 (v := P) (by omega)
    by_cases d1 : Int64.ofNat G < 8
    · rw [if_pos d1]; rw [lt64, hGn] at d1
      have d1 : (G : Int) < 8 := d1
      exact Or.inr ⟨by omega, rfl⟩
    · rw [if_neg d1]; rw [lt64, hGn] at d1
      have d1 : ¬ (G : Int) < 8 := d1
      by_cases d2 : 8192 < Int64.ofNat G
      · rw [if_pos d2]; rw [lt64, hGn] at d2
        have d2 : 8192 < (G : Int) := d2
        exact Or.inr ⟨by omega, rfl⟩
      · rw [if_neg d2]; rw [lt64, hGn] at d2
        have d2 : ¬ 8192 < (G : Int) := d2
        have hm : (Int64.ofNat G - Int64.ofNat G / 8 * 8).toInt = ((G % 8 : Nat) : Int) := by rw [rem64 (y := 8) hGn (by decide) (by omega) (by omega)]; omega
        have z : (0 : Int64).toInt = 0 := by decide
        by_cases d3 : Int64.ofNat G - Int64.ofNat G / 8 * 8 = 0
        · rw [if_pos d3]; rw [eq64, hm, z] at d3
          simp only [bd1]
          have hPi : (Int64.toInt32 (Int64.ofNat P)).toInt = (P : Int) := cut6432 hPn (by omega) (by omega)
          have hGi : (Int64.toInt32 (Int64.ofNat G)).toInt = (G : Int) := cut6432 hGn (by omega) (by omega)
          generalize Int64.toInt32 (Int64.ofNat P) = pi at *
          generalize Int64.toInt32 (Int64.ofNat G) = gi at *
          have z32 : (0 : Int32).toInt = 0 := by decide
          rw [if_neg (by rw [eq32, hPi, z32]; omega)]
          have hs : (bk - 1 + pi - 1).toInt = ((Bk - 1 + P - 1 : Nat) : Int) := by
            rw [sub32 (y := 1) (add32 (sub32 (y := 1) c3 (by decide) (by omega) (by omega)) hPi (by omega) (by omega)) (by decide) (by omega) (by omega)]; omega
          have hq : ((bk - 1 + pi - 1) / pi).toInt = (((Bk - 1 + P - 1) / P : Nat) : Int) := by
            rw [div32 hs hPi (by omega) (by omega)]; rfl
          have hQ8 : (Bk - 1 + P - 1) / P ≤ 8 ∧ 1 ≤ (Bk - 1 + P - 1) / P := by
            rcases hP with e | e | e <;> subst e <;> omega
          generalize (Bk - 1 + P - 1) / P = Q at *
          have hcast : (Q : Int) * (G : Int) = ((Q * G : Nat) : Int) := by rw [Int.natCast_mul]
          have hle : Q * G ≤ 8 * 8192 := Nat.mul_le_mul hQ8.1 (by omega)
          refine Or.inl ⟨⟨by omega, by omega, by omega⟩, _, _, _, _, rfl, hPi, hGi, hq, ?_, hQ8⟩
          rw [mul32 hq hGi (by rw [hcast]; omega) (by rw [hcast]; omega), hcast]
        · rw [if_neg d3]; rw [eq64, hm, z] at d3
          exact Or.inr ⟨by omega, rfl⟩
  have key : (P = 64 ∨ P = 128 ∨ P = 256) → ((if Int64.ofNat P = (64 : Int64) then f_L_readGroups_50 NW bk sz wd gB gI gN iN (Int64.ofNat P) (Int64.ofNat G) else if Int64.ofNat P = (128 : Int64) then f_L_readGroups_50 NW bk sz wd gB gI gN iN (Int64.ofNat P) (Int64.ofNat G) else if Int64.ofNat P = (256 : Int64) then f_L_readGroups_50 NW bk sz wd gB gI gN iN (Int64.ofNat P) (Int64.ofNat G) else some (0, gB, gI, gN, iN)) = f_L_readGroups_50 NW bk sz wd gB gI gN iN (Int64.ofNat P) (Int64.ofNat G)) := by
    intro h
    rcases h with h | h | h <;> subst h <;> rfl
  by_cases hP : P = 64 ∨ P = 128 ∨ P = 256
  · rw [key hP]
    rcases main hP with ⟨h1, gB', gI', gN', iN', h2⟩ | ⟨h1, h2⟩
    · exact Or.inl ⟨⟨hP, h1⟩, gB', gI', gN', iN', h2⟩
    · exact Or.inr ⟨fun h => h1 h.2, h2⟩
  · refine Or.inr ⟨fun h => hP h.1, ?_⟩
    rw [if_neg (fun h => hP (Or.inl (e64.mp h))), if_neg (fun h => hP (Or.inr (Or.inl (e128.mp h)))), if_neg (fun h => hP (Or.inr (Or.inr (e256.mp h))))]
theorem superHas_eq (hC : CtxD NW sz bk Bk) {a1 a2 : Int32} {a3 : Int64} {at' n w : Nat} (ha : a1.toInt = (at' : Int)) (ha2 : at' < 1000) (hn : a2.toInt = (n : Int)) (hn1 : 1 ≤ n) (hn4 : n ≤ 4) (hw : a3.toInt = (w : Int)) :
    ∃ r, f_S_superblockHas NW sz wd a1 a2 a3 = some r ∧ B01 r (nu wd Bk ((1024 + at' : Nat) : Int) n = w) := by
  unfold f_S_superblockHas
  rw [number_nu hC (a := ((1024 + at' : Nat) : Int)) (ext3264 (by rw [add32 (x := 1024) (by decide) ha (by omega) (by omega)]; omega)) hn hn1 (by omega)]
  simp only [bd1]
  have hv : nu wd Bk ((1024 + at' : Nat) : Int) n < 4294967296 := Nat.lt_of_lt_of_le (nu_lt wd Bk _ n) (show 256 ^ n ≤ 256 ^ 4 from Nat.pow_le_pow_right (by decide) hn4)
  generalize nu wd Bk ((1024 + at' : Nat) : Int) n = v at *
  have hq : Int64.ofNat v = a3 ↔ v = w := by rw [eq64, num64 (by omega), hw]; omega
  by_cases c : v = w
  · rw [if_pos (hq.mpr c)]; exact ⟨1, rfl, Or.inl ⟨rfl, c⟩⟩
  · rw [if_neg (fun h => c (hq.mp h))]; exact ⟨0, rfl, Or.inr ⟨rfl, c⟩⟩
theorem step01 {α : Type} {r : Int32} {P : Prop} (h : B01 r P) {a b c : α} (hf : ¬ P → a = c) (ht : P → b = c) : (if r = 0 then a else b) = c := by
  by_cases p : P
  · rw [if_neg (fun e => (h.ne.mp e) p)]; exact ht p
  · rw [if_pos (h.f p)]; exact hf p
theorem superblock_eq (hC : CtxD NW sz bk Bk) :
    ∃ r gB' gI' gN' iN' : Int32, f_S_superblockStands NW bk sz wd gB gI gN iN = some (r, gB', gI', gN', iN') ∧ B01 r (SuperOK wd Bk) ∧ (SuperOK wd Bk → gB'.toInt = (gP wd Bk : Int) ∧ gI'.toInt = (gG wd Bk : Int) ∧ gN'.toInt = (gQ wd Bk : Int) ∧ iN'.toInt = ((gQ wd Bk * gG wd Bk : Nat) : Int) ∧ gQ wd Bk ≤ 8 ∧ 1 ≤ gQ wd Bk) := by
  have hbk : bk.toInt = (Bk : Int) := hC.2.2.1
  rcases readGroups_eq (gB := gB) (gI := gI) (gN := gN) (iN := iN) (wd := wd) hC with ⟨hG, gB', gI', gN', iN', e, h1, h2, h3, h4, h5⟩ | ⟨hG, e⟩
  · obtain ⟨r1, x1, y1⟩ := superHas_eq (wd := wd) hC (a1 := 0) (a2 := 4) (at' := 0) (n := 4) (by decide) (by omega) (by decide) (by omega) (by omega) (ext3264 h4)
    obtain ⟨r2, x2, y2⟩ := superHas_eq (wd := wd) hC (a1 := 4) (a2 := 4) (at' := 4) (n := 4) (by decide) (by omega) (by decide) (by omega) (by omega) (ext3264 hbk)
    obtain ⟨r3, x3, y3⟩ := superHas_eq (wd := wd) hC (a1 := 20) (a2 := 4) (a3 := 1) (at' := 20) (n := 4) (w := 1) (by decide) (by omega) (by decide) (by omega) (by omega) (by decide)
    obtain ⟨r4, x4, y4⟩ := superHas_eq (wd := wd) hC (a1 := 24) (a2 := 4) (a3 := 0) (at' := 24) (n := 4) (w := 0) (by decide) (by omega) (by decide) (by omega) (by omega) (by decide)
    obtain ⟨r5, x5, y5⟩ := superHas_eq (wd := wd) hC (a1 := 36) (a2 := 4) (at' := 36) (n := 4) (by decide) (by omega) (by decide) (by omega) (by omega) (ext3264 h1)
    obtain ⟨r6, x6, y6⟩ := superHas_eq (wd := wd) hC (a1 := 56) (a2 := 2) (a3 := 61267) (at' := 56) (n := 2) (w := 61267) (by decide) (by omega) (by decide) (by omega) (by omega) (by decide)
    obtain ⟨r7, x7, y7⟩ := superHas_eq (wd := wd) hC (a1 := 58) (a2 := 2) (a3 := 1) (at' := 58) (n := 2) (w := 1) (by decide) (by omega) (by decide) (by omega) (by omega) (by decide)
    obtain ⟨r8, x8, y8⟩ := superHas_eq (wd := wd) hC (a1 := 76) (a2 := 4) (a3 := 1) (at' := 76) (n := 4) (w := 1) (by decide) (by omega) (by decide) (by omega) (by omega) (by decide)
    obtain ⟨r9, x9, y9⟩ := superHas_eq (wd := wd) hC (a1 := 84) (a2 := 4) (a3 := 11) (at' := 84) (n := 4) (w := 11) (by decide) (by omega) (by decide) (by omega) (by omega) (by decide)
    obtain ⟨r10, x10, y10⟩ := superHas_eq (wd := wd) hC (a1 := 88) (a2 := 2) (a3 := 128) (at' := 88) (n := 2) (w := 128) (by decide) (by omega) (by decide) (by omega) (by omega) (by decide)
    obtain ⟨r11, x11, y11⟩ := superHas_eq (wd := wd) hC (a1 := 90) (a2 := 2) (a3 := 0) (at' := 90) (n := 2) (w := 0) (by decide) (by omega) (by decide) (by omega) (by omega) (by decide)
    obtain ⟨r12, x12, y12⟩ := superHas_eq (wd := wd) hC (a1 := 96) (a2 := 4) (a3 := 2) (at' := 96) (n := 4) (w := 2) (by decide) (by omega) (by decide) (by omega) (by omega) (by decide)
    unfold f_S_superblockStands
    rw [e]
    simp only [bd5, bd1, f_L_inodes, f_D_blocks, f_L_groupBlocks, x1, x2, x3, x4, x5, x6, x7, x8, x9, x10, x11, x12]
    have tail : ∀ (r : Int32), B01 r (SuperOK wd Bk) → ∃ r0 gB'' gI'' gN'' iN'' : Int32, some (r, gB', gI', gN', iN') = some (r0, gB'', gI'', gN'', iN'') ∧ B01 r0 (SuperOK wd Bk) ∧ (SuperOK wd Bk → gB''.toInt = (gP wd Bk : Int) ∧ gI''.toInt = (gG wd Bk : Int) ∧ gN''.toInt = (gQ wd Bk : Int) ∧ iN''.toInt = ((gQ wd Bk * gG wd Bk : Nat) : Int) ∧ gQ wd Bk ≤ 8 ∧ 1 ≤ gQ wd Bk) :=
      fun r hr => ⟨r, gB', gI', gN', iN', rfl, hr, fun _ => ⟨h1, h2, h3, h4, h5⟩⟩
    have fail : ¬ SuperOK wd Bk → ∃ r0 gB'' gI'' gN'' iN'' : Int32, some ((0 : Int32), gB', gI', gN', iN') = some (r0, gB'', gI'', gN'', iN'') ∧ B01 r0 (SuperOK wd Bk) ∧ (SuperOK wd Bk → gB''.toInt = (gP wd Bk : Int) ∧ gI''.toInt = (gG wd Bk : Int) ∧ gN''.toInt = (gQ wd Bk : Int) ∧ iN''.toInt = ((gQ wd Bk * gG wd Bk : Nat) : Int) ∧ gQ wd Bk ≤ 8 ∧ 1 ≤ gQ wd Bk) := fun h => tail 0 (Or.inr ⟨rfl, h⟩)
    rw [if_neg (by decide)]
    by_cases q1 : n4 wd Bk 1024 = gQ wd Bk * gG wd Bk
    case neg => rw [if_pos (y1.f q1)]; exact fail (fun h => q1 h.2.1)
    rw [if_neg (fun z => y1.ne.mp z q1)]
    by_cases q2 : n4 wd Bk 1028 = Bk
    case neg => rw [if_pos (y2.f q2)]; exact fail (fun h => q2 h.2.2.1)
    rw [if_neg (fun z => y2.ne.mp z q2)]
    by_cases q3 : n4 wd Bk 1044 = 1
    case neg => rw [if_pos (y3.f q3)]; exact fail (fun h => q3 h.2.2.2.1)
    rw [if_neg (fun z => y3.ne.mp z q3)]
    by_cases q4 : n4 wd Bk 1048 = 0
    case neg => rw [if_pos (y4.f q4)]; exact fail (fun h => q4 h.2.2.2.2.1)
    rw [if_neg (fun z => y4.ne.mp z q4)]
    by_cases q5 : n4 wd Bk 1060 = gP wd Bk
    case neg => rw [if_pos (y5.f q5)]; exact fail (fun h => q5 h.2.2.2.2.2.1)
    rw [if_neg (fun z => y5.ne.mp z q5)]
    by_cases q6 : n2 wd Bk 1080 = 61267
    case neg => rw [if_pos (y6.f q6)]; exact fail (fun h => q6 h.2.2.2.2.2.2.1)
    rw [if_neg (fun z => y6.ne.mp z q6)]
    by_cases q7 : n2 wd Bk 1082 = 1
    case neg => rw [if_pos (y7.f q7)]; exact fail (fun h => q7 h.2.2.2.2.2.2.2.1)
    rw [if_neg (fun z => y7.ne.mp z q7)]
    by_cases q8 : n4 wd Bk 1100 = 1
    case neg => rw [if_pos (y8.f q8)]; exact fail (fun h => q8 h.2.2.2.2.2.2.2.2.1)
    rw [if_neg (fun z => y8.ne.mp z q8)]
    by_cases q9 : n4 wd Bk 1108 = 11
    case neg => rw [if_pos (y9.f q9)]; exact fail (fun h => q9 h.2.2.2.2.2.2.2.2.2.1)
    rw [if_neg (fun z => y9.ne.mp z q9)]
    by_cases q10 : n2 wd Bk 1112 = 128
    case neg => rw [if_pos (y10.f q10)]; exact fail (fun h => q10 h.2.2.2.2.2.2.2.2.2.2.1)
    rw [if_neg (fun z => y10.ne.mp z q10)]
    by_cases q11 : n2 wd Bk 1114 = 0
    case neg => rw [if_pos (y11.f q11)]; exact fail (fun h => q11 h.2.2.2.2.2.2.2.2.2.2.2.1)
    rw [if_neg (fun z => y11.ne.mp z q11)]
    by_cases q12 : n4 wd Bk 1120 = 2
    case neg => rw [if_pos (y12.f q12)]; exact fail (fun h => q12 h.2.2.2.2.2.2.2.2.2.2.2.2)
    rw [if_neg (fun z => y12.ne.mp z q12)]
    exact tail 1 (Or.inl ⟨rfl, hG, q1, q2, q3, q4, q5, q6, q7, q8, q9, q10, q11, q12⟩)
  · unfold f_S_superblockStands
    rw [e]
    simp only [bd5]
    rw [if_pos trivial]
    exact ⟨0, gB, gI, gN, iN, rfl, Or.inr ⟨rfl, fun h => hG h.1⟩, fun h => absurd h.1 hG⟩
end SU
theorem nu8_split {wd : Nat → Int64} {Bk a : Nat} (h : a + 8 ≤ 1024 * Bk) : nu wd Bk ((a : Nat) : Int) 8 = b1 wd Bk a + 256 * (b1 wd Bk (a + 1) + 256 * (b1 wd Bk (a + 2) + 256 * (b1 wd Bk (a + 3) + 256 * (b1 wd Bk (a + 4) + 256 * (b1 wd Bk (a + 5) + 256 * (b1 wd Bk (a + 6) + 256 * b1 wd Bk (a + 7))))))) := by
  rw [b1_in (show a + 1 ≤ _ by omega), b1_in (show a + 1 + 1 ≤ _ by omega), b1_in (show a + 2 + 1 ≤ _ by omega), b1_in (show a + 3 + 1 ≤ _ by omega), b1_in (show a + 4 + 1 ≤ _ by omega), b1_in (show a + 5 + 1 ≤ _ by omega), b1_in (show a + 6 + 1 ≤ _ by omega), b1_in (show a + 7 + 1 ≤ _ by omega)]
  unfold nu cnum
  rw [if_pos (by omega), Int.toNat_natCast]
  simp only [lenum, Nat.add_assoc, Nat.reduceAdd, Nat.mul_zero, Nat.add_zero]
theorem b1_lt (wd : Nat → Int64) (Bk a : Nat) : b1 wd Bk a < 256 := nu1 wd Bk _
theorem ofNat64_inj {u v : Nat} (hu : u < 18446744073709551616) (hv : v < 18446744073709551616) : Int64.ofNat u = Int64.ofNat v ↔ u = v := by
  constructor
  · intro h
    rw [← ofNat_toNat64 hu, ← ofNat_toNat64 hv, h]
  · intro h; rw [h]
theorem or_mark {v g : Nat} (hg : g < 65536) (h0 : v / 65536 % 65536 = 0) : v ||| (g <<< 16) = v + 65536 * g := by
  have e1 : v = 2 ^ 32 * (v / 4294967296) + v % 65536 := by omega
  have e2 : g <<< 16 = 2 ^ 16 * g := by rw [Nat.shiftLeft_eq]; omega
  have h1 : 2 ^ 32 * (v / 4294967296) + v % 65536 = 2 ^ 32 * (v / 4294967296) ||| v % 65536 := Nat.two_pow_add_eq_or_of_lt (by omega) _
  have h2 : 2 ^ 16 * g + v % 65536 = 2 ^ 16 * g ||| v % 65536 := Nat.two_pow_add_eq_or_of_lt (by omega) _
  have h3 : 2 ^ 32 * (v / 4294967296) + (2 ^ 16 * g + v % 65536) = 2 ^ 32 * (v / 4294967296) ||| (2 ^ 16 * g + v % 65536) := Nat.two_pow_add_eq_or_of_lt (by omega) _
  have : v ||| 2 ^ 16 * g = 2 ^ 32 * (v / 4294967296) + (2 ^ 16 * g + v % 65536) := by
    rw [h3, h2, Nat.or_comm (2 ^ 16 * g) (v % 65536), ← Nat.or_assoc, ← h1, ← e1]
  rw [e2, this]; omega
theorem or_shl {v : Nat} (hv : v < 18446744073709551616) {x : Int32} {g : Nat} (hx : x.toInt = (g : Int)) (hg : g < 65536) (h0 : v / 65536 % 65536 = 0) :
    (Int64.ofNat v) ||| ((Int32.toInt64 x) <<< ((Int32.toInt64 (16 : Int32)) &&& 63)) = Int64.ofNat (v + 65536 * g) := by
  apply ofNat64_of_toNat
  have hg64 : (Int32.toInt64 x).toBitVec.toNat = g := by
    have h : (Int32.toInt64 x).toInt = (g : Int) := ext3264 hx
    have h2 : (Int32.toInt64 x).toBitVec.toInt = (g : Int) := h
    have h3 : (Int32.toInt64 x).toBitVec = BitVec.ofInt 64 (g : Int) := by rw [← h2, BitVec.ofInt_toInt]
    rw [h3]; simp; omega
  have e : (((Int32.toInt64 (16 : Int32)) &&& 63).toBitVec.smod 64) = 16#64 := by decide
  rw [Int64.toBitVec_or, BitVec.toNat_or, ofNat_toNat64 hv, Int64.toBitVec_shiftLeft, e]
  show v ||| ((Int32.toInt64 x).toBitVec <<< 16).toNat = _
  rw [BitVec.toNat_shiftLeft, hg64]
  have : g <<< 16 % 2 ^ 64 = g <<< 16 := Nat.mod_eq_of_lt (by rw [Nat.shiftLeft_eq]; omega)
  rw [this, or_mark hg h0]
theorem dig1 {a b A B : Nat} (ha : a < 256) (hb : b < 256) : a + 256 * A = b + 256 * B ↔ a = b ∧ A = B := by omega
theorem dig8 {a0 a1 a2 a3 a4 a5 a6 a7 b0 b1 b2 b3 b4 b5 b6 b7 : Nat} (h0 : a0 < 256) (h1 : a1 < 256) (h2 : a2 < 256) (h3 : a3 < 256) (h4 : a4 < 256) (h5 : a5 < 256) (h6 : a6 < 256) (k0 : b0 < 256) (k1 : b1 < 256) (k2 : b2 < 256) (k3 : b3 < 256) (k4 : b4 < 256) (k5 : b5 < 256) (k6 : b6 < 256) :
    a0 + 256 * (a1 + 256 * (a2 + 256 * (a3 + 256 * (a4 + 256 * (a5 + 256 * (a6 + 256 * a7)))))) = b0 + 256 * (b1 + 256 * (b2 + 256 * (b3 + 256 * (b4 + 256 * (b5 + 256 * (b6 + 256 * b7)))))) ↔ a0 = b0 ∧ a1 = b1 ∧ a2 = b2 ∧ a3 = b3 ∧ a4 = b4 ∧ a5 = b5 ∧ a6 = b6 ∧ a7 = b7 := by
  rw [dig1 h0 k0, dig1 h1 k1, dig1 h2 k2, dig1 h3 k3, dig1 h4 k4, dig1 h5 k5, dig1 h6 k6]
theorem all8 {P : Nat → Prop} : (∀ t, t < 8 → P t) ↔ P 0 ∧ P 1 ∧ P 2 ∧ P 3 ∧ P 4 ∧ P 5 ∧ P 6 ∧ P 7 := by
  constructor
  · intro h; exact ⟨h 0 (by omega), h 1 (by omega), h 2 (by omega), h 3 (by omega), h 4 (by omega), h 5 (by omega), h 6 (by omega), h 7 (by omega)⟩
  · rintro ⟨h0, h1, h2, h3, h4, h5, h6, h7⟩ t ht
    have : t = 0 ∨ t = 1 ∨ t = 2 ∨ t = 3 ∨ t = 4 ∨ t = 5 ∨ t = 6 ∨ t = 7 := by omega
    rcases this with e | e | e | e | e | e | e | e <;> subst e <;> assumption
section CO
variable {N NW Bk : Nat} {sz bk : Int32} {wd : Nat → Int64} {gB gN : Int32}
/-- bytes s to 2048 of the copy at p are those of the first group, but that 90 has the group's number -/
def CopyFrom (wd : Nat → Int64) (Bk p g s : Nat) : Prop := ∀ i, s ≤ i → i < 2048 → b1 wd Bk (p + i) = if i = 90 then g else b1 wd Bk (1024 + i)
theorem word_iff {a b : Nat} (ha : a + 8 ≤ 1024 * Bk) (hb : b + 8 ≤ 1024 * Bk) : nu wd Bk ((a : Nat) : Int) 8 = nu wd Bk ((b : Nat) : Int) 8 ↔ ∀ t, t < 8 → b1 wd Bk (a + t) = b1 wd Bk (b + t) := by
  rw [nu8_split ha, nu8_split hb, all8]
  have L := b1_lt wd Bk
  rw [dig8 (L _) (L _) (L _) (L _) (L _) (L _) (L _) (L _) (L _) (L _) (L _) (L _) (L _) (L _)]
  rfl
theorem mark_word {a p g : Nat} (ha : a + 8 ≤ 1024 * Bk) (hp : p + 8 ≤ 1024 * Bk) (hg : g < 256) (e2 : b1 wd Bk (a + 2) = 0) : (nu wd Bk ((p : Nat) : Int) 8 = nu wd Bk ((a : Nat) : Int) 8 + 65536 * g) ↔ ∀ t, t < 8 → b1 wd Bk (p + t) = if t = 2 then g else b1 wd Bk (a + t) := by
  have L := b1_lt wd Bk
  rw [nu8_split ha, nu8_split hp, e2, all8]
  have e : ∀ x0 x1 x3 : Nat, x0 + 256 * (x1 + 256 * (0 + 256 * x3)) + 65536 * g = x0 + 256 * (x1 + 256 * (g + 256 * x3)) := by intro x0 x1 x3; omega
  rw [e, dig8 (L _) (L _) (L _) (L _) (L _) (L _) (L _) (L _) (L _) hg (L _) (L _) (L _) (L _)]
  rfl
theorem mark_dig {a : Nat} (ha : a + 8 ≤ 1024 * Bk) (e2 : b1 wd Bk (a + 2) = 0) (e3 : b1 wd Bk (a + 3) = 0) : nu wd Bk ((a : Nat) : Int) 8 / 65536 % 65536 = 0 := by
  have L := b1_lt wd Bk
  have l0 := L a
  have l1 := L (a + 1)
  rw [nu8_split ha, e2, e3]
  generalize b1 wd Bk a = x0 at *
  generalize b1 wd Bk (a + 1) = x1 at *
  generalize b1 wd Bk (a + 4) + _ = x4 at *
  omega
theorem mark_lt {a g : Nat} (ha : a + 8 ≤ 1024 * Bk) (hg : g < 256) (e2 : b1 wd Bk (a + 2) = 0) (e3 : b1 wd Bk (a + 3) = 0) : nu wd Bk ((a : Nat) : Int) 8 + 65536 * g < 18446744073709551616 := by
  have L := b1_lt wd Bk
  have l0 := L a
  have l1 := L (a + 1)
  have l4 := L (a + 4)
  have l5 := L (a + 5)
  have l6 := L (a + 6)
  have l7 := L (a + 7)
  rw [nu8_split ha, e2, e3]
  omega
theorem copies_loop (hC : CtxD NW sz bk Bk) {x1 : Int32} {x2 : Int64} {g p : Nat} (hg : x1.toInt = (g : Int)) (hg2 : g < 256) (hp : x2.toInt = (p : Int)) (hin : p + 2048 ≤ 1024 * Bk) (hz : n2 wd Bk 1114 = 0) :
    ∀ (k : Nat) (x4 : Int32) (s : Nat), x4.toInt = (s : Int) → s % 8 = 0 → s ≤ 2048 → 2048 - s < 8 * k → ∃ r, f_S_hasCopies_17 N NW sz wd gB k x1 x2 x4 = some r ∧ B01 r (CopyFrom wd Bk p g s) := by
  have hB : 128 ≤ Bk := hC.2.2.2.1
  have hB2 : Bk ≤ 512 := hC.2.2.2.2
  intro k
  induction k with
  | zero => intro x4 s _ _ _ h; omega
  | succ k ih =>
    intro x4 s h4 hm hs hk
    rw [f_S_hasCopies_17]
    by_cases c : (2048 : Int32) ≤ x4
    · rw [if_pos c]; rw [le32, h4] at c
      have c : (2048 : Int) ≤ (s : Int) := c
      exact ⟨1, rfl, Or.inl ⟨rfl, fun i h1 h2 => by omega⟩⟩
    · rw [if_neg c]; rw [le32, h4] at c
      have c : ¬ (2048 : Int) ≤ (s : Int) := c
      rw [number_nu hC (a := ((1024 + s : Nat) : Int)) (n := 8) (ext3264 (by rw [add32 (x := 1024) (by decide) h4 (by omega) (by omega)]; omega)) (by decide) (by omega) (by omega)]
      simp only [bd1]
      have hv : nu wd Bk ((1024 + s : Nat) : Int) 8 < 18446744073709551616 := nu_lt wd Bk _ 8
      have hw : nu wd Bk ((p + s : Nat) : Int) 8 < 18446744073709551616 := nu_lt wd Bk _ 8
      have hrd : f_D_number NW sz wd (x2 + Int32.toInt64 x4) 8 = some (Int64.ofNat (nu wd Bk ((p + s : Nat) : Int) 8)) := number_nu hC (by rw [add64 hp (ext3264 h4) (by omega) (by omega)]; omega) (by decide) (by omega) (by omega)
      -- what follows once the word due is known
      have goOn : ∀ due : Nat, due < 18446744073709551616 → (nu wd Bk ((p + s : Nat) : Int) 8 = due ↔ ∀ t, t < 8 → b1 wd Bk (p + s + t) = if s + t = 90 then g else b1 wd Bk (1024 + (s + t))) →
          ∃ r, f_S_hasCopies_60 N NW sz wd gB (f_S_hasCopies_17 N NW sz wd gB k) x1 x2 x4 (Int64.ofNat due) = some r ∧ B01 r (CopyFrom wd Bk p g s) := by
        intro due hdue hiff
        unfold f_S_hasCopies_60
        rw [hrd]
        simp only [bd1]
        have hinj := ofNat64_inj hw hdue
        by_cases ce : nu wd Bk ((p + s : Nat) : Int) 8 = due
        · rw [if_pos (hinj.mpr ce)]
          simp only [lt1]
          have h4' : (x4 + 8).toInt = ((s + 8 : Nat) : Int) := by rw [add32 (y := 8) h4 (by decide) (by omega) (by omega)]; omega
          obtain ⟨r, er, hr⟩ := ih (x4 + 8) (s + 8) h4' (by omega) (by omega) (by omega)
          refine ⟨r, er, ?_⟩
          have hby := hiff.mp ce
          rcases hr with ⟨e, h⟩ | ⟨e, h⟩
          · refine Or.inl ⟨e, fun i h1 h2 => ?_⟩
            by_cases hi : i < s + 8
            · have := hby (i - s) (by omega)
              rw [show p + s + (i - s) = p + i by omega, show s + (i - s) = i by omega] at this
              exact this
            · exact h i (by omega) h2
          · exact Or.inr ⟨e, fun hh => h (fun i h1 h2 => hh i (by omega) h2)⟩
        · rw [if_neg (fun h => ce (hinj.mp h))]
          refine ⟨0, rfl, Or.inr ⟨rfl, fun hh => ce (hiff.mpr (fun t ht => ?_))⟩⟩
          have := hh (s + t) (by omega) (by omega)
          rw [show p + (s + t) = p + s + t by omega] at this
          exact this
      by_cases c88 : x4 = 88
      · rw [if_pos c88]
        rw [eq32, h4] at c88
        have c88 : (s : Int) = 88 := c88
        have hs88 : s = 88 := by omega
        subst hs88
        simp only [lt1]
        have hz90 : b1 wd Bk 1114 + 256 * b1 wd Bk 1115 = 0 := by
          rw [← hz]
          unfold n2
          rw [b1_in (show 1114 + 1 ≤ _ by omega), b1_in (show 1115 + 1 ≤ _ by omega)]
          unfold nu cnum
          rw [if_pos (by omega), Int.toNat_natCast]
          simp [lenum]
        have e2 : b1 wd Bk (1024 + 88 + 2) = 0 := by
          have : b1 wd Bk 1114 = 0 := by omega
          exact this
        have e3 : b1 wd Bk (1024 + 88 + 3) = 0 := by
          have : b1 wd Bk 1115 = 0 := by omega
          exact this
        rw [or_shl hv hg (by omega) (mark_dig (by omega) e2 e3)]
        refine goOn _ (mark_lt (by omega) hg2 e2 e3) ?_
        rw [mark_word (by omega) (by omega) hg2 e2]
        constructor
        · intro h t ht
          rw [h t ht]
          by_cases q : t = 2
          · rw [if_pos q, if_pos (by omega)]
          · rw [if_neg q, if_neg (by omega), Nat.add_assoc]
        · intro h t ht
          rw [h t ht]
          by_cases q : t = 2
          · rw [if_pos (by omega), if_pos q]
          · rw [if_neg (by omega), if_neg q, Nat.add_assoc]
      · rw [if_neg c88]
        rw [eq32, h4] at c88
        have c88 : ¬ (s : Int) = 88 := c88
        refine goOn _ hv ?_
        rw [word_iff (by omega) (by omega)]
        constructor
        · intro h t ht
          rw [if_neg (by omega), h t ht, Nat.add_assoc]
        · intro h t ht
          have := h t ht
          rw [if_neg (by omega)] at this
          rw [this, Nat.add_assoc]
end CO
