/-! the reference's search for an item -/
section FI
variable {N NW Bk : Nat} {sz bk nb : Int32} {wd : Nat → Int64} {dk : Nat → Int32} {mb mp : Nat → Int32} {gI gg : Int32} {G : Nat} {M : Nat → Nat} {Q : Nat}
theorem chain_item {d par s : Nat} : ∀ (n off k : Nat), Chain wd Bk G M Q d par s n off k → ∀ o, o ∈ itemsN wd Bk G M d n off k → o < s ∧ (12 ≤ hLen (hvN wd Bk G M d o) ∧ o % 1024 + hLen (hvN wd Bk G M d o) ≤ 1024) ∧ ∃ k', 2 ≤ k' ∧ hIno (hvN wd Bk G M d o) ≠ 0 ∧ EntOK wd Bk G M Q d par (plc wd Bk G M d o) (hvN wd Bk G M d o) k' := by
  intro n
  induction n with
  | zero => intro off k _ o ho; exact absurd ho (by simp [itemsN])
  | succ n ih =>
    intro off k h o ho
    obtain ⟨h1, h2, h3, h4⟩ := h
    rw [itemsN] at ho
    by_cases c : 2 ≤ k ∧ hIno (hvN wd Bk G M d off) ≠ 0
    · rw [if_pos c] at ho
      rcases List.mem_cons.mp ho with e | e
      · subst e
        refine ⟨h1, h2, k, c.1, c.2, ?_⟩
        rcases h3 with h3 | h3
        · exact absurd h3.2 c.2
        · exact h3
      · exact ih _ _ h4 o e
    · rw [if_neg c] at ho
      exact ih _ _ h4 o ho
theorem chain_len {d par s : Nat} : ∀ (n off k : Nat), Chain wd Bk G M Q d par s n off k → 12 * n + off ≤ s := by
  intro n
  induction n with
  | zero => intro off k h; simp only [Chain] at h; omega
  | succ n ih =>
    intro off k h
    obtain ⟨h1, h2, h3, h4⟩ := h
    have := ih _ _ h4
    omega
theorem chain_end {d par s n k : Nat} (h : Chain wd Bk G M Q d par s n s k) : n = 0 := by
  cases n with
  | zero => rfl
  | succ n => exact absurd h.1 (by omega)
/-- one entry further on -/
theorem finds_next (hC : CtxD NW sz bk Bk) (hS : Same dk wd Bk) (hM : CtxM mp gg G M Q Bk) (hN : 2050 ≤ N) {x1 x2 x3 : Int32} {d : Nat} (hd : x1.toInt = (d : Int)) (h1 : InR G Q d) (hW : WholeF wd Bk G M d) (h1024 : szN wd Bk G M d % 1024 = 0) (h3 : x3.toInt = ((szN wd Bk G M d : Nat) : Int)) {off len ko ki : Nat} {x4 x5 x6 x7 fd : Int32} (h5 : x5.toInt = ((off / 1024 : Nat) : Int)) (h6 : x6.toInt = ((1024 * blN wd Bk G M d (off / 1024) : Nat) : Int)) (h7 : x7.toInt = ((off % 1024 + len : Nat) : Int)) (hlt : off < szN wd Bk G M d) (hl1 : 12 ≤ len) (hl2 : off % 1024 + len ≤ 1024) (hko : szN wd Bk G M d / 1024 - off / 1024 ≤ ko) (hki : 1024 - off % 1024 ≤ ki) :
    (off + len = szN wd Bk G M d ∧ f_M_finds_41 N dk gg mp (f_M_finds_14 N dk gg mp ko) ki fd x1 x2 x3 x4 x5 x6 x7 = some (0, fd)) ∨ (off + len < szN wd Bk G M d ∧ ∃ (ko' ki' : Nat) (y5 y6 y7 : Int32), y5.toInt = (((off + len) / 1024 : Nat) : Int) ∧ y6.toInt = ((1024 * blN wd Bk G M d ((off + len) / 1024) : Nat) : Int) ∧ y7.toInt = (((off + len) % 1024 : Nat) : Int) ∧ szN wd Bk G M d / 1024 - (off + len) / 1024 ≤ ko' ∧ 1024 - (off + len) % 1024 < ki' ∧ f_M_finds_41 N dk gg mp (f_M_finds_14 N dk gg mp ko) ki fd x1 x2 x3 x4 x5 x6 x7 = f_M_finds_41 N dk gg mp (f_M_finds_14 N dk gg mp ko') ki' fd x1 x2 x3 x4 y5 y6 y7) := by
  have hB2 := hC.2.2.2.2
  have h8 := inR_div h1
  have hsz : szN wd Bk G M d ≤ 1024 * Bk := hW.1
  have z1024 : (1024 : Int32).toInt = 1024 := by decide
  by_cases cn : off % 1024 + len < 1024
  · right
    have d1 : (off + len) / 1024 = off / 1024 := by omega
    have d2 : (off + len) % 1024 = off % 1024 + len := by omega
    exact ⟨by omega, ko, ki, x5, x6, x7, by rw [d1]; exact h5, by rw [d1]; exact h6, by rw [d2]; exact h7, by omega, by omega, rfl⟩
  · have d1 : (off + len) / 1024 = off / 1024 + 1 := by omega
    have d2 : (off + len) % 1024 = 0 := by omega
    cases ki with
    | zero => omega
    | succ ki =>
    cases ko with
    | zero => omega
    | succ ko =>
    rw [f_M_finds_41, if_pos (by rw [le32, h7, z1024]; omega)]
    simp only [lt1]
    have e5 : (x5 + 1).toInt = ((off / 1024 + 1 : Nat) : Int) := by rw [add32 (y := 1) h5 (by decide) (by omega) (by omega)]; omega
    have edv : (x3 / 1024).toInt = ((szN wd Bk G M d / 1024 : Nat) : Int) := by rw [div32 (y := 1024) h3 (by decide) (by omega) (by omega)]; omega
    rw [f_M_finds_14]
    by_cases ce : szN wd Bk G M d / 1024 ≤ off / 1024 + 1
    · left
      rw [if_pos (by rw [le32, edv, e5]; omega)]
      exact ⟨by omega, rfl⟩
    · right
      rw [if_neg (by rw [le32, edv, e5]; omega)]
      have hbn : off / 1024 + 1 < (szN wd Bk G M d + 1023) / 1024 := by omega
      rw [mblockOf_eq hC hS hM hd h1.1 h8 e5 hbn (by omega) hW.2.1]
      simp only [bd1, lt1]
      have hb := (hW.2.2 (off / 1024 + 1) hbn).2
      exact ⟨by omega, ko, N, x5 + 1, _, 0, by rw [d1]; exact e5, by
        rw [d1, mul32 (x := 1024) (by decide) (cut6432 (num64 (by omega)) (by omega) (by omega)) (by omega) (by omega)]; omega, by rw [d2]; decide, by omega, by omega, rfl⟩
def FindR (wd : Nat → Int64) (Bk G : Nat) (M : Nat → Nat) (d : Nat) (L : List Nat) (j : Nat) (fd : Int32) (res : Option (Int32 × Int32)) : Prop := (∀ o, L[j]? = some o → ∃ r : Int32, res = some (1, r) ∧ r.toInt = ((plc wd Bk G M d o : Nat) : Int)) ∧ (L[j]? = none → res = some (0, fd))
theorem finds_loop (hC : CtxD NW sz bk Bk) (hS : Same dk wd Bk) (hM : CtxM mp gg G M Q Bk) (hN : 2050 ≤ N) {x1 x2 x3 : Int32} {d par t : Nat} (hd : x1.toInt = (d : Int)) (h1 : InR G Q d) (hW : WholeF wd Bk G M d) (h1024 : szN wd Bk G M d % 1024 = 0) (h3 : x3.toInt = ((szN wd Bk G M d : Nat) : Int)) (h2 : x2.toInt = (t : Int)) {fd : Int32} :
    ∀ (n off k c ko ki : Nat) (x4 x5 x6 x7 : Int32), Chain wd Bk G M Q d par (szN wd Bk G M d) n off k → x4.toInt = (if k < 2 then (k : Int) - 2 else (c : Int)) → (k < 2 → c = 0) → c ≤ t → c ≤ k → 12 * k ≤ off → x5.toInt = ((off / 1024 : Nat) : Int) → x6.toInt = ((1024 * blN wd Bk G M d (off / 1024) : Nat) : Int) → x7.toInt = ((off % 1024 : Nat) : Int) → off < szN wd Bk G M d → szN wd Bk G M d / 1024 - off / 1024 ≤ ko → 1024 - off % 1024 < ki →
    FindR wd Bk G M d (itemsN wd Bk G M d n off k) (t - c) fd (f_M_finds_41 N dk gg mp (f_M_finds_14 N dk gg mp ko) ki fd x1 x2 x3 x4 x5 x6 x7) := by
  have hB2 := hC.2.2.2.2
  have hsz : szN wd Bk G M d ≤ 1024 * Bk := hW.1
  have z1024 : (1024 : Int32).toInt = 1024 := by decide
  have z0 : (0 : Int32).toInt = 0 := by decide
  intro n
  induction n with
  | zero => intro off k c ko ki x4 x5 x6 x7 h _ _ _ _ _ _ _ _ hlt; simp only [Chain] at h; omega
  | succ n ih =>
    intro off k c ko ki x4 x5 x6 x7 h h4 hc0 hct hck h12 h5 h6 h7 hlt hko hki
    cases ki with
    | zero => omega
    | succ ki =>
    obtain ⟨-, ⟨l1, l2⟩, hent, hch⟩ := h
    have hin := plc_in hW hlt
    have hpe : plc wd Bk G M d off = 1024 * blN wd Bk G M d (off / 1024) + off % 1024 := rfl
    have e67 : (x6 + x7).toInt = ((plc wd Bk G M d off : Nat) : Int) := by rw [add32 h6 h7 (by omega) (by omega), hpe]; omega
    have hsp := head_split (wd := wd) (Bk := Bk) (e := plc wd Bk G M d off) (by omega)
    have elen : f_M_lengthAt dk (x6 + x7) = some (Int32.ofNat (hLen (hvN wd Bk G M d off))) := by
      unfold f_M_lengthAt
      rw [two_n2 hC hS (a := plc wd Bk G M d off + 4) (by rw [add32 (y := 4) e67 (by decide) (by omega) (by omega)]; omega) (by omega), hsp.2.1]
      rfl
    have efour : f_M_four dk (x6 + x7) = some (Int64.ofNat (hIno (hvN wd Bk G M d off))) := by
      rw [four_n4 hC hS (a := plc wd Bk G M d off) e67 (by omega), hsp.1]; rfl
    have hil : hIno (hvN wd Bk G M d off) < 4294967296 := by unfold hIno; omega
    have hll : hLen (hvN wd Bk G M d off) < 65536 := by unfold hLen; omega
    have ell : (Int32.ofNat (hLen (hvN wd Bk G M d off))).toInt = ((hLen (hvN wd Bk G M d off) : Nat) : Int) := lit32 _ (by omega)
    have e7 : (x7 + Int32.ofNat (hLen (hvN wd Bk G M d off))).toInt = ((off % 1024 + hLen (hvN wd Bk G M d off) : Nat) : Int) := by rw [add32 h7 ell (by omega) (by omega)]; omega
    have hlen := chain_len _ _ _ hch
    -- going on behind this entry
    have next : ∀ (c' : Nat) (y4 : Int32), y4.toInt = (if k + 1 < 2 then ((k + 1 : Nat) : Int) - 2 else (c' : Int)) → (k + 1 < 2 → c' = 0) → c' ≤ t → c' ≤ k + 1 → FindR wd Bk G M d (itemsN wd Bk G M d n (off + hLen (hvN wd Bk G M d off)) (k + 1)) (t - c') fd (f_M_finds_91 N dk gg mp (f_M_finds_14 N dk gg mp ko) (f_M_finds_41 N dk gg mp (f_M_finds_14 N dk gg mp ko) ki) fd x1 x2 x3 y4 x5 x6 x7) := by
      intro c' y4 q1 q2 q3 q4
      unfold f_M_finds_91
      rw [elen]
      simp only [bd1, lt1]
      rcases finds_next (N := N) (dk := dk) (gg := gg) (mp := mp) (x2 := x2) (x4 := y4) (fd := fd) hC hS hM hN hd h1 hW h1024 h3 h5 h6 e7 hlt l1 l2 hko (ki := ki) (by omega) with ⟨a1, a2⟩ | ⟨a1, ko', ki', y5, y6, y7, b1, b2, b3, b4, b5, b6⟩
      · rw [a2]
        rw [a1] at hch
        have := chain_end hch
        subst this
        refine ⟨fun o ho => ?_, fun _ => rfl⟩
        simp [itemsN] at ho
      · rw [b6]
        exact ih _ _ c' ko' ki' y4 y5 y6 y7 hch q1 q2 q3 q4 (by omega) b1 b2 b3 a1 b4 b5
    rw [f_M_finds_41, if_neg (by rw [le32, h7, z1024]; omega)]
    rw [itemsN]
    by_cases k2 : k < 2
    · rw [if_pos k2] at h4
      rw [if_neg (show ¬ (2 ≤ k ∧ hIno (hvN wd Bk G M d off) ≠ 0) by omega), if_pos (show x4 < 0 by rw [lt32, h4, z0]; omega)]
      unfold f_M_finds_71
      rw [if_neg (show ¬ x4 = x2 by rw [eq32, h4, h2]; omega)]
      simp only [lt1]
      have hc00 := hc0 k2
      subst hc00
      have := next 0 (x4 + 1) (by
        rw [add32 (y := 1) h4 (by decide) (by omega) (by omega)]
        by_cases q : k + 1 < 2
        · rw [if_pos q]; omega
        · rw [if_neg q]; omega) (fun _ => rfl) (by omega) (by omega)
      exact this
    · rw [if_neg k2] at h4
      rw [if_neg (show ¬ x4 < 0 by rw [lt32, h4, z0]; omega), efour]
      simp only [bd1]
      have q0 : Int64.ofNat (hIno (hvN wd Bk G M d off)) = 0 ↔ hIno (hvN wd Bk G M d off) = 0 := zero64_iff (by omega)
      simp only [q0]
      by_cases i0 : hIno (hvN wd Bk G M d off) = 0
      · rw [if_neg (show ¬ (2 ≤ k ∧ hIno (hvN wd Bk G M d off) ≠ 0) from fun h => h.2 i0), if_pos i0]
        exact next c x4 (by rw [if_neg (by omega)]; exact h4) (fun h => by omega) hct (by omega)
      · rw [if_pos (show 2 ≤ k ∧ hIno (hvN wd Bk G M d off) ≠ 0 from ⟨by omega, i0⟩), if_neg i0]
        unfold f_M_finds_71
        by_cases ct : c = t
        · rw [if_pos (show x4 = x2 by rw [eq32, h4, h2]; omega)]
          subst ct
          rw [Nat.sub_self]
          refine ⟨fun o ho => ?_, fun ho => ?_⟩
          · simp at ho
            subst ho
            exact ⟨_, rfl, e67⟩
          · simp at ho
        · rw [if_neg (show ¬ x4 = x2 by rw [eq32, h4, h2]; omega)]
          simp only [lt1]
          have hn := next (c + 1) (x4 + 1) (by rw [if_neg (by omega), add32 (y := 1) h4 (by decide) (by omega) (by omega)]; omega) (fun h => by omega) (by omega) (by omega)
          rw [show t - c = (t - (c + 1)) + 1 by omega]
          unfold FindR at hn ⊢
          rw [List.getElem?_cons_succ]
          exact hn
theorem finds_eq (hC : CtxD NW sz bk Bk) (hS : Same dk wd Bk) (hM : CtxM mp gg G M Q Bk) (hN : 2050 ≤ N) {x1 x2 : Int32} {d par t n : Nat} (hd : x1.toInt = (d : Int)) (h1 : InR G Q d) (hW : WholeF wd Bk G M d) (h1024 : szN wd Bk G M d % 1024 = 0) (h2 : x2.toInt = (t : Int)) (hch : Chain wd Bk G M Q d par (szN wd Bk G M d) n 0 0) (hn : 2 ≤ n) (fd : Int32) :
    FindR wd Bk G M d (itemsN wd Bk G M d n 0 0) t fd (f_M_finds N dk gg mp fd x1 x2) := by
  have hB2 := hC.2.2.2.2
  have h8 := inR_div h1
  have hsz : szN wd Bk G M d ≤ 1024 * Bk := hW.1
  have hl := chain_len _ _ _ hch
  have z0 : (0 : Int32).toInt = 0 := by decide
  have ec : (Int64.ofNat (szN wd Bk G M d)).toInt32.toInt = ((szN wd Bk G M d : Nat) : Int) := cut6432 (num64 (by omega)) (by omega) (by omega)
  unfold f_M_finds
  rw [msize_eq hC hS hM hd h1.1 h8]
  simp only [bd1, lt1]
  obtain ⟨m, em⟩ : ∃ m, N = m + 1 := ⟨N - 1, by omega⟩
  have hb := (hW.2.2 0 (by omega)).2
  have eR : f_M_finds_14 N dk gg mp N fd x1 x2 (Int64.ofNat (szN wd Bk G M d)).toInt32 (-2) 0 = f_M_finds_41 N dk gg mp (f_M_finds_14 N dk gg mp m) N fd x1 x2 (Int64.ofNat (szN wd Bk G M d)).toInt32 (-2) 0 (1024 * (Int64.ofNat (blN wd Bk G M d 0)).toInt32) 0 := by
    conv => lhs; arg 5; rw [em]
    rw [f_M_finds_14]
    have edv : ((Int64.ofNat (szN wd Bk G M d)).toInt32 / 1024).toInt = ((szN wd Bk G M d / 1024 : Nat) : Int) := by rw [div32 (y := 1024) ec (by decide) (by omega) (by omega)]; omega
    rw [if_neg (by rw [le32, edv, z0]; omega)]
    rw [mblockOf_eq hC hS hM hd h1.1 h8 (b := 0) (n := (szN wd Bk G M d + 1023) / 1024) (by decide) (by omega) (by omega) hW.2.1]
    rfl
  rw [eR]
  have := finds_loop (N := N) hC hS hM hN hd h1 hW h1024 ec h2 (fd := fd) n 0 0 0 m N (-2) 0 (1024 * (Int64.ofNat (blN wd Bk G M d 0)).toInt32) 0 hch (by decide) (fun _ => rfl) (by omega) (by omega) (by omega) (by decide) (by
      rw [mul32 (x := 1024) (by decide) (cut6432 (num64 (by omega)) (by omega) (by omega)) (by omega) (by omega)]
      show _ = ((1024 * blN wd Bk G M d (0 / 1024) : Nat) : Int)
      rw [show 0 / 1024 = 0 from rfl]; omega) (by decide) (by omega) (by omega) (by omega)
  exact this
end FI
