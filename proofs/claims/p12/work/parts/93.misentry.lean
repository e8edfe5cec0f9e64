/-! the reference's view of an entry -/
section MY
variable {N NW Bk : Nat} {sz bk nb : Int32} {wd : Nat → Int64} {dk : Nat → Int32} {mb mp : Nat → Int32} {gI gg : Int32} {G : Nat} {M : Nat → Nat} {Q : Nat}
/-- what is said of an entry behind its name -/
def EntTail (wd : Nat → Int64) (Bk G : Nat) (M : Nat → Nat) (d par e v k : Nat) : Prop := (k = 0 → Dot1 wd Bk e v ∧ hIno v = d ∧ hMar v = 2) ∧ (k = 1 → Dot2 wd Bk e v ∧ hIno v = par ∧ hMar v = 2) ∧ (2 ≤ k → (¬ Dot1 wd Bk e v ∧ ¬ Dot2 wd Bk e v ∧ usedB wd Bk G M (hIno v) = true) ∧ ((tyN wd Bk G M (hIno v) = 16384 ∧ hMar v = 2) ∨ (tyN wd Bk G M (hIno v) = 32768 ∧ hMar v = 1)))
theorem name_loop (hC : CtxD NW sz bk Bk) (hS : Same dk wd Bk) (hM : CtxM mp gg G M Q Bk) (hN : 300 ≤ N) {qq x1 x2 x3 x8 : Int32} {pq : Nat → Int32} {d par e v k : Nat} (h1 : x1.toInt = (d : Int)) (hd : d < 4200) (hpar : k = 1 → (pq d).toInt = (par : Int)) (h2 : x2.toInt = (e : Int)) (h3 : x3.toInt = (k : Int)) (hk : k < 100000) (hv : v = nu wd Bk ((e : Nat) : Int) 8) (h8 : x8.toInt = ((hNam v : Nat) : Int)) (hin : e + 8 + hNam v ≤ 1024 * Bk) (hino : 1 ≤ hIno v ∧ hIno v ≤ Q * G) :
    ∀ (kk : Nat) (x9 : Int32) (j : Nat), x9.toInt = (j : Int) → j ≤ hNam v → hNam v - j < kk → ∃ r, f_M_isEntry_108 N dk gg qq mp pq kk x1 x2 x3 (Int64.ofNat (hIno v)) x8 x9 = some r ∧ B01 r ((∀ i, j ≤ i → i < hNam v → b1 wd Bk (e + 8 + i) ≠ 0 ∧ b1 wd Bk (e + 8 + i) ≠ 47) ∧ EntTail wd Bk G M d par e v k) := by
  have hB2 := hC.2.2.2.2
  have hQG : Q * G < 4096 := hM.2.2.2.2.2.1
  have hnl : hNam v < 256 := by unfold hNam; omega
  have hml : hMar v < 256 := by
    have := nu8_lt (wd := wd) (Bk := Bk) ((e : Nat) : Int)
    rw [← hv] at this
    unfold hMar; omega
  have hsp := head_split (wd := wd) (Bk := Bk) (e := e) (by omega)
  rw [← hv] at hsp
  obtain ⟨s1, s2, s3, s4⟩ := hsp
  have z2 : (2 : Int32).toInt = 2 := by decide
  have z0 : (0 : Int32).toInt = 0 := by decide
  have h8' : (hIno v - 1) / G < Q := inR_div hino
  have tail : ∃ r, (if (2 : Int32) ≤ x3 then bd1 (f_M_typeOf dk gg mp (Int64.ofNat (hIno v)).toInt32) (fun (r_4 : Int32) => bd1 (f_M_isDots N dk x2 ((1 : Int32))) (fun (r_6 : Int32) => (if r_6 = 0 then bd1 (f_M_isDots N dk x2 ((2 : Int32))) (fun (r_9 : Int32) => (if r_9 = 0 then bd1 (f_M_isUsed dk gg mp (Int64.ofNat (hIno v)).toInt32) (fun (r_12 : Int32) => (if r_12 = 0 then some ((0 : Int32)) else (if r_4 = ((16384 : Int32)) then (f_M_isEntry_261 N dk gg qq mp pq x2 r_4) else (if r_4 = ((32768 : Int32)) then (f_M_isEntry_261 N dk gg qq mp pq x2 r_4) else some ((0 : Int32)))))) else some ((0 : Int32)))) else some ((0 : Int32))))) else bd1 (f_M_isDots N dk x2 (x3 + ((1 : Int32)))) (fun (r_17 : Int32) => (if r_17 = 0 then some ((0 : Int32)) else (if x3 = 0 then (f_M_isEntry_190 N dk gg qq mp pq x2 (Int64.ofNat (hIno v)).toInt32 x1) else if oob x1 4200 then none else (f_M_isEntry_190 N dk gg qq mp pq x2 (Int64.ofNat (hIno v)).toInt32 (pq (Int32.toNatClampNeg x1))))))) = some r ∧ B01 r (EntTail wd Bk G M d par e v k) := by
    have ei : (Int64.ofNat (hIno v)).toInt32.toInt = ((hIno v : Nat) : Int) := cut6432 (num64 (by omega)) (by omega) (by omega)
    obtain ⟨rd1, ed1, hd1⟩ := isDots_eq (N := N) hC hS (by omega) (x1 := x2) (x2 := 1) (e := e) (p := 1) h2 (by decide) (by omega) (by omega) (fun h => by omega)
    obtain ⟨rd2, ed2, hd2⟩ := isDots_eq (N := N) hC hS (by omega) (x1 := x2) (x2 := 2) (e := e) (p := 2) h2 (by decide) (by omega) (by omega) (fun h => by omega)
    rw [dot1_iff (show e + 8 ≤ _ by omega), ← hv] at hd1
    rw [dot2_iff (show e + 8 ≤ _ by omega) (fun h => by omega), ← hv] at hd2
    have o7 := one_b1 hC hS (a1 := x2 + 7) (a := e + 7) (by rw [add32 (y := 7) h2 (by decide) (by omega) (by omega)]; omega) (by omega)
    rw [s4] at o7
    by_cases k2 : 2 ≤ k
    · rw [if_pos (by rw [le32, h3, z2]; omega), mtypeOf_eq hC hS hM ei hino.1 h8', ed1, ed2, misUsed_eq hC hS hM ei hino.1 h8']
      simp only [bd1]
      by_cases d1 : Dot1 wd Bk e v
      · rw [if_neg (by rw [hd1.t d1]; decide)]
        exact ⟨0, rfl, Or.inr ⟨rfl, fun h => (h.2.2 k2).1.1 d1⟩⟩
      · rw [if_pos (hd1.f d1)]
        by_cases d2 : Dot2 wd Bk e v
        · rw [if_neg (by rw [hd2.t d2]; decide)]
          exact ⟨0, rfl, Or.inr ⟨rfl, fun h => (h.2.2 k2).1.2.1 d2⟩⟩
        · rw [if_pos (hd2.f d2)]
          by_cases d3 : usedB wd Bk G M (hIno v) = true
          · rw [if_pos d3, if_neg (by decide)]
            have ht := tyN_lt (wd := wd) (Bk := Bk) (G := G) (M := M) (hIno v)
            have t1 : Int32.ofNat (tyN wd Bk G M (hIno v)) = 16384 ↔ tyN wd Bk G M (hIno v) = 16384 := is32 ht (by decide)
            have t2 : Int32.ofNat (tyN wd Bk G M (hIno v)) = 32768 ↔ tyN wd Bk G M (hIno v) = 32768 := is32 ht (by decide)
            have m2 : Int32.ofNat (hMar v) = 2 ↔ hMar v = 2 := is32 (by omega) (by decide)
            have m1 : Int32.ofNat (hMar v) = 1 ↔ hMar v = 1 := is32 (by omega) (by decide)
            simp only [f_M_isEntry_261, f_M_isEntry_282]
            rw [o7]
            simp only [bd1, t1, t2, m1, m2]
            by_cases e1 : tyN wd Bk G M (hIno v) = 16384
            · rw [if_pos e1, if_pos e1]
              by_cases e2 : hMar v = 2
              · rw [if_pos e2]
                exact ⟨1, rfl, Or.inl ⟨rfl, fun h => by omega, fun h => by omega, fun _ => ⟨⟨d1, d2, d3⟩, Or.inl ⟨e1, e2⟩⟩⟩⟩
              · rw [if_neg e2]
                refine ⟨0, rfl, Or.inr ⟨rfl, fun h => ?_⟩⟩
                rcases (h.2.2 k2).2 with q | q <;> omega
            · rw [if_neg e1]
              by_cases e2 : tyN wd Bk G M (hIno v) = 32768
              · rw [if_pos e2, if_neg e1]
                by_cases e3 : hMar v = 1
                · rw [if_pos e3]
                  exact ⟨1, rfl, Or.inl ⟨rfl, fun h => by omega, fun h => by omega, fun _ => ⟨⟨d1, d2, d3⟩, Or.inr ⟨e2, e3⟩⟩⟩⟩
                · rw [if_neg e3]
                  refine ⟨0, rfl, Or.inr ⟨rfl, fun h => ?_⟩⟩
                  rcases (h.2.2 k2).2 with q | q <;> omega
              · rw [if_neg e2]
                refine ⟨0, rfl, Or.inr ⟨rfl, fun h => ?_⟩⟩
                rcases (h.2.2 k2).2 with q | q <;> omega
          · rw [if_neg d3, if_pos rfl]
            exact ⟨0, rfl, Or.inr ⟨rfl, fun h => d3 (h.2.2 k2).1.2.2⟩⟩
    · rw [if_neg (by rw [le32, h3, z2]; omega)]
      have m2 : Int32.ofNat (hMar v) = 2 ↔ hMar v = 2 := is32 (by omega) (by decide)
      by_cases k0 : k = 0
      · have e31 : x3 + 1 = 1 := by rw [eq32, add32 (y := 1) h3 (by decide) (by omega) (by omega)]; show _ = (1 : Int); omega
        rw [e31, ed1]
        simp only [bd1]
        by_cases d1 : Dot1 wd Bk e v
        · rw [if_neg (by rw [hd1.t d1]; decide), if_pos (by rw [eq32, h3, z0]; omega)]
          simp only [f_M_isEntry_190]
          rw [o7]
          have q : (Int64.ofNat (hIno v)).toInt32 = x1 ↔ hIno v = d := by rw [eq32, ei, h1]; omega
          simp only [bd1, q, m2]
          by_cases d2 : hIno v = d
          · rw [if_pos d2]
            by_cases d3 : hMar v = 2
            · rw [if_pos d3]
              exact ⟨1, rfl, Or.inl ⟨rfl, fun _ => ⟨d1, d2, d3⟩, fun h => by omega, fun h => by omega⟩⟩
            · rw [if_neg d3]
              exact ⟨0, rfl, Or.inr ⟨rfl, fun h => d3 (h.1 k0).2.2⟩⟩
          · rw [if_neg d2]
            exact ⟨0, rfl, Or.inr ⟨rfl, fun h => d2 (h.1 k0).2.1⟩⟩
        · rw [if_pos (hd1.f d1)]
          exact ⟨0, rfl, Or.inr ⟨rfl, fun h => d1 (h.1 k0).1⟩⟩
      · have k1 : k = 1 := by omega
        have e31 : x3 + 1 = 2 := by rw [eq32, add32 (y := 1) h3 (by decide) (by omega) (by omega)]; show _ = (2 : Int); omega
        rw [e31, ed2]
        simp only [bd1]
        by_cases d1 : Dot2 wd Bk e v
        · rw [if_neg (by rw [hd2.t d1]; decide), if_neg (by rw [eq32, h3, z0]; omega), if_neg (by rw [oob_iff, h1]; omega), nn32 h1]
          simp only [f_M_isEntry_190]
          rw [o7]
          have q : (Int64.ofNat (hIno v)).toInt32 = pq d ↔ hIno v = par := by rw [eq32, ei, hpar k1]; omega
          simp only [bd1, q, m2]
          by_cases d2 : hIno v = par
          · rw [if_pos d2]
            by_cases d3 : hMar v = 2
            · rw [if_pos d3]
              exact ⟨1, rfl, Or.inl ⟨rfl, fun h => by omega, fun _ => ⟨d1, d2, d3⟩, fun h => by omega⟩⟩
            · rw [if_neg d3]
              exact ⟨0, rfl, Or.inr ⟨rfl, fun h => d3 (h.2.1 k1).2.2⟩⟩
          · rw [if_neg d2]
            exact ⟨0, rfl, Or.inr ⟨rfl, fun h => d2 (h.2.1 k1).2.1⟩⟩
        · rw [if_pos (hd2.f d1)]
          exact ⟨0, rfl, Or.inr ⟨rfl, fun h => d1 (h.2.1 k1).1⟩⟩
  intro kk
  induction kk with
  | zero => intro x9 j _ _ h; omega
  | succ kk ih =>
    intro x9 j h9 hj hkk
    rw [f_M_isEntry_108]
    by_cases c : x8 ≤ x9
    · rw [if_pos c]; rw [le32, h8, h9] at c
      simp only [lt1]
      obtain ⟨r, er, hr⟩ := tail
      refine ⟨r, er, ?_⟩
      rcases hr with ⟨a, b⟩ | ⟨a, b⟩
      · exact Or.inl ⟨a, fun i q1 q2 => by omega, b⟩
      · exact Or.inr ⟨a, fun h => b h.2⟩
    · rw [if_neg c]; rw [le32, h8, h9] at c
      rw [one_b1 hC hS (a := e + 8 + j) (by rw [add32 (add32 (y := 8) h2 (by decide) (by omega) (by omega)) h9 (by omega) (by omega)]; omega) (by omega)]
      simp only [bd1]
      have hb := b1_lt wd Bk (e + 8 + j)
      have q0 : Int32.ofNat (b1 wd Bk (e + 8 + j)) = 0 ↔ b1 wd Bk (e + 8 + j) = 0 := is32 (by omega) (by decide)
      have q47 : Int32.ofNat (b1 wd Bk (e + 8 + j)) = 47 ↔ b1 wd Bk (e + 8 + j) = 47 := is32 (by omega) (by decide)
      simp only [q0, q47, lt1]
      by_cases d0 : b1 wd Bk (e + 8 + j) = 0
      · rw [if_pos d0]
        exact ⟨0, rfl, Or.inr ⟨rfl, fun h => (h.1 j (Nat.le_refl _) (by omega)).1 d0⟩⟩
      · rw [if_neg d0]
        by_cases d47 : b1 wd Bk (e + 8 + j) = 47
        · rw [if_pos d47]
          exact ⟨0, rfl, Or.inr ⟨rfl, fun h => (h.1 j (Nat.le_refl _) (by omega)).2 d47⟩⟩
        · rw [if_neg d47]
          obtain ⟨r, er, hr⟩ := ih (x9 + 1) (j + 1) (by rw [add32 (y := 1) h9 (by decide) (by omega) (by omega)]; omega) (by omega) (by omega)
          refine ⟨r, er, ?_⟩
          rcases hr with ⟨a, b1', b2'⟩ | ⟨a, b⟩
          · refine Or.inl ⟨a, fun i i1 i2 => ?_, b2'⟩
            by_cases ei : i = j
            · subst ei; exact ⟨d0, d47⟩
            · exact b1' i (by omega) i2
          · exact Or.inr ⟨a, fun h => b ⟨fun i i1 i2 => h.1 i (by omega) i2, h.2⟩⟩
theorem isEntry_eq (hC : CtxD NW sz bk Bk) (hS : Same dk wd Bk) (hM : CtxM mp gg G M Q Bk) (hN : 300 ≤ N) {qq x1 x2 x3 x4 : Int32} {pq : Nat → Int32} {d par e v k room : Nat} (hq : qq.toInt = (Q : Int)) (h1 : x1.toInt = (d : Int)) (hd : d < 4200) (hpar : k = 1 → (pq d).toInt = (par : Int)) (h2 : x2.toInt = (e : Int)) (h3 : x3.toInt = (k : Int)) (hk : k < 100000) (hv : v = nu wd Bk ((e : Nat) : Int) 8) (h4 : x4.toInt = (room : Int)) (hr1 : 12 ≤ room) (hr2 : room ≤ 1024) (hin : e + room ≤ 1024 * Bk) :
    ∃ r, f_M_isEntry N dk gg qq mp pq x1 x2 x3 x4 = some r ∧ B01 r ((12 ≤ hLen v ∧ hLen v % 4 = 0 ∧ hLen v ≤ room) ∧ ((2 ≤ k ∧ hIno v = 0) ∨ EntOK wd Bk G M Q d par e v k)) := by
  have hB2 := hC.2.2.2.2
  have hQG : Q * G < 4096 := hM.2.2.2.2.2.1
  have hg := hM.1
  have hq8 := hM.2.2.2.2.1
  have hG2 := hM.2.2.1
  have hsp := head_split (wd := wd) (Bk := Bk) (e := e) (by omega)
  rw [← hv] at hsp
  obtain ⟨s1, s2, s3, s4⟩ := hsp
  have hnl : hNam v < 256 := by unfold hNam; omega
  have hll : hLen v < 65536 := by unfold hLen; omega
  have hil : hIno v < 4294967296 := by unfold hIno; omega
  unfold f_M_isEntry f_M_lengthAt f_M_nameSize
  rw [two_n2 hC hS (a := e + 4) (by rw [add32 (y := 4) h2 (by decide) (by omega) (by omega)]; omega) (by omega)]
  rw [four_n4 hC hS (a := e) h2 (by omega)]
  rw [one_b1 hC hS (a := e + 6) (by rw [add32 (y := 6) h2 (by decide) (by omega) (by omega)]; omega) (by omega)]
  rw [s1, s2, s3]
  simp only [bd1]
  have el : (Int32.ofNat (hLen v)).toInt = ((hLen v : Nat) : Int) := lit32 _ (by omega)
  have en : (Int32.ofNat (hNam v)).toInt = ((hNam v : Nat) : Int) := lit32 _ (by omega)
  have ei : (Int64.ofNat (hIno v)).toInt = ((hIno v : Nat) : Int) := num64 (by omega)
  have z12 : (12 : Int32).toInt = 12 := by decide
  have z1 : (1 : Int32).toInt = 1 := by decide
  have z0 : (0 : Int32).toInt = 0 := by decide
  by_cases c1 : hLen v < 12
  · rw [if_pos (by rw [lt32, el, z12]; omega)]
    exact ⟨0, rfl, Or.inr ⟨rfl, fun h => by omega⟩⟩
  rw [if_neg (by rw [lt32, el, z12]; omega)]
  have q4 : (Int32.ofNat (hLen v) - Int32.ofNat (hLen v) / 4 * 4 = 0) ↔ hLen v % 4 = 0 := by
    rw [eq32, rem32 (y := 4) el (by decide) (by omega) (by omega), z0]; omega
  simp only [q4]
  by_cases c2 : hLen v % 4 = 0
  · rw [if_pos c2]
    by_cases c3 : hLen v ≤ room
    · rw [if_pos (by rw [le32, el, h4]; omega)]
      have body : ∃ r, f_M_isEntry_58 N dk gg qq mp pq x1 x2 x3 (Int32.ofNat (hLen v)) (Int64.ofNat (hIno v)) (Int32.ofNat (hNam v)) = some r ∧ B01 r (EntOK wd Bk G M Q d par e v k) := by
        unfold f_M_isEntry_58 f_M_parts
        rw [if_neg (by decide)]
        simp only [bd1]
        have ep : ((Int32.ofNat (hNam v) + 4 - 1) / 4).toInt = (((hNam v + 3) / 4 : Nat) : Int) := by
          rw [div32 (y := 4) (sub32 (y := 1) (add32 (y := 4) en (by decide) (by omega) (by omega)) (by decide) (by omega) (by omega)) (by decide) (by omega) (by omega)]; omega
        have e8 : (8 + (Int32.ofNat (hNam v) + 4 - 1) / 4 * 4).toInt = ((8 + (hNam v + 3) / 4 * 4 : Nat) : Int) := by
          rw [add32 (x := 8) (by decide) (mul32 (y := 4) ep (by decide) (by omega) (by omega)) (by omega) (by omega)]; omega
        by_cases d1 : 8 + hNam v ≤ hLen v
        · rw [if_neg (by rw [lt32, el, e8]; omega)]
          have z64 : (1 : Int64).toInt = 1 := by decide
          by_cases d2 : hIno v < 1
          · rw [if_pos (by rw [lt64, ei, z64]; omega)]
            exact ⟨0, rfl, Or.inr ⟨rfl, fun h => by have := h.1.1; omega⟩⟩
          rw [if_neg (by rw [lt64, ei, z64]; omega)]
          have hm : ((Q : Int) * (G : Int)) = ((Q * G : Nat) : Int) := by rw [Int.natCast_mul]
          have eqg : (Int32.toInt64 qq * Int32.toInt64 gg).toInt = ((Q * G : Nat) : Int) := by
            rw [mul64 (ext3264 hq) (ext3264 hg) (by rw [hm]; omega) (by rw [hm]; omega), hm]
          by_cases d3 : Q * G < hIno v
          · rw [if_pos (by rw [lt64, ei, eqg]; omega)]
            exact ⟨0, rfl, Or.inr ⟨rfl, fun h => by have := h.1.2; omega⟩⟩
          rw [if_neg (by rw [lt64, ei, eqg]; omega)]
          by_cases d4 : hNam v = 0
          · rw [if_pos (by rw [eq32, en, z0]; omega)]
            exact ⟨0, rfl, Or.inr ⟨rfl, fun h => h.2.1.1 d4⟩⟩
          rw [if_neg (by rw [eq32, en, z0]; omega)]
          obtain ⟨r, er, hr⟩ := name_loop (N := N) (qq := qq) hC hS hM hN h1 hd hpar h2 h3 hk hv en (by omega) ⟨by omega, by omega⟩ N 0 0 (by decide) (by omega) (by omega)
          refine ⟨r, er, ?_⟩
          rcases hr with ⟨a, b1', b2'⟩ | ⟨a, b⟩
          · exact Or.inl ⟨a, ⟨by omega, by omega⟩, ⟨d4, d1, fun i hi => b1' i (by omega) hi⟩, b2'⟩
          · exact Or.inr ⟨a, fun h => b ⟨fun i _ hi => h.2.1.2.2 i hi, h.2.2⟩⟩
        · rw [if_pos (by rw [lt32, el, e8]; omega)]
          exact ⟨0, rfl, Or.inr ⟨rfl, fun h => d1 h.2.1.2.1⟩⟩
      obtain ⟨r, er, hr⟩ := body
      have q0 : (Int64.ofNat (hIno v) = 0) ↔ hIno v = 0 := zero64_iff (by omega)
      simp only [q0]
      by_cases k1 : k ≤ 1
      · rw [if_pos (by rw [le32, h3, z1]; omega)]
        refine ⟨r, er, ?_⟩
        rcases hr with ⟨a, b⟩ | ⟨a, b⟩
        · exact Or.inl ⟨a, ⟨by omega, c2, c3⟩, Or.inr b⟩
        · exact Or.inr ⟨a, fun h => h.2.elim (fun q => by omega) b⟩
      · rw [if_neg (by rw [le32, h3, z1]; omega)]
        by_cases i0 : hIno v = 0
        · rw [if_pos i0]
          exact ⟨1, rfl, Or.inl ⟨rfl, ⟨by omega, c2, c3⟩, Or.inl ⟨by omega, i0⟩⟩⟩
        · rw [if_neg i0]
          refine ⟨r, er, ?_⟩
          rcases hr with ⟨a, b⟩ | ⟨a, b⟩
          · exact Or.inl ⟨a, ⟨by omega, c2, c3⟩, Or.inr b⟩
          · exact Or.inr ⟨a, fun h => h.2.elim (fun q => i0 q.2) b⟩
    · rw [if_neg (by rw [le32, el, h4]; omega)]
      exact ⟨0, rfl, Or.inr ⟨rfl, fun h => by omega⟩⟩
  · rw [if_neg c2]
    exact ⟨0, rfl, Or.inr ⟨rfl, fun h => c2 h.1.2.1⟩⟩
end MY
