/-! the relation of the two sides, and the calls that put bytes -/
abbrev ZT : Type := (Nat → Int64) → Nat → Prop
abbrev Z1 : ZT := fun _ _ => True
def RelW (Z : ZT) (X : RelT) : RelT := fun (NW : Nat) (bk : Int32) (sz : Int32) (wd : Nat → Int64) (mb : Nat → Int32) (gB : Int32) (gI : Int32) (gN : Int32) (iN : Int32) (dr : Int32) (es : Int64) (of : Int64) (od : Int32) (pl : Int64) (hd : Int64) (tk : Nat → Int32) (kn : Nat → Int32) (li : Nat → Int32) (pa : Nat → Int32) (ins : Nat → Int32) (cm : Int32) (fd : Int32) (hr : Int32) (m_th : Int32) (m_nb : Int32) (m_dk : Nat → Int32) (m_lk : Int32) (m_fa : Int32) (m_pp : Int32) (m_gg : Int32) (m_jj : Int32) (m_qq : Int32) (m_mp : Nat → Int32) (m_fx : Nat → Int32) (m_tn : Nat → Int32) (m_mn : Int32) (m_oq : Nat → Int32) (m_pq : Nat → Int32) (m_fo : Nat → Int32) (m_ca : Nat → Int32) (m_hr : Int32) (m_fd : Int32) => ∃ Bk : Nat, CtxD NW sz bk Bk ∧ m_nb = bk ∧ Same m_dk wd Bk ∧ hr = m_hr ∧ Z wd Bk ∧ ((m_lk = 0 ∧ fd = -1 ∧ hr = 2) ∨ (m_lk = 1 ∧ X NW bk sz wd mb gB gI gN iN dr es of od pl hd tk kn li pa ins cm fd hr 0 m_nb m_dk m_lk m_fa m_pp m_gg m_jj m_qq m_mp m_fx m_tn m_mn m_oq m_pq m_fo m_ca m_hr m_fd))
theorem same_put {dk dk' : Nat → Int32} {wd wd' : Nat → Int64} {Bk a n : Nat} {F : Nat → Nat} (h : Same dk wd Bk) (h1 : ∀ j, mby dk' j = if a ≤ j ∧ j < a + n then F j else mby dk j) (h2 : ∀ j, cby wd' j = if a ≤ j ∧ j < a + n then F j else cby wd j) : Same dk' wd' Bk := by
  intro i hi
  rw [h1, h2]
  by_cases c : a ≤ i ∧ i < a + n
  · rw [if_pos c, if_pos c]
  · rw [if_neg c, if_neg c]; exact h i hi
theorem sim_put {N : Nat} (hN : 9 ≤ N) (Z : ZT) (X : RelT) : Sim_put N (RelW Z X) (RelW Z1 X) := by
  intro NW bk sz wd mb gB gI gN iN dr es of od pl hd tk kn li pa ins cm fd hr m_th m_nb m_dk m_lk m_fa m_pp m_gg m_jj m_qq m_mp m_fx m_tn m_mn m_oq m_pq m_fo m_ca m_hr m_fd a1 a2 a3 ⟨Bk, hC, hb, hs, hh, hz, hx⟩
  obtain ⟨hsz, hBk, hbk, hlo, hhi⟩ := hC
  have refuse : RelW Z1 X NW bk sz wd mb gB gI gN iN dr es of od pl hd tk kn li pa ins cm fd hr 0 m_nb m_dk m_lk m_fa m_pp m_gg m_jj m_qq m_mp m_fx m_tn m_mn m_oq m_pq m_fo m_ca m_hr m_fd := ⟨Bk, ⟨hsz, hBk, hbk, hlo, hhi⟩, hb, hs, hh, trivial, hx⟩
  by_cases c1 : a2 < 1
  · exact ⟨0, wd, fd, hr, 0, m_dk, m_lk, m_hr, by rw [f_V_put, if_pos c1], by rw [f_M_put, if_pos c1], refuse⟩
  by_cases c2 : (8 : Int32) < a2
  · exact ⟨0, wd, fd, hr, 0, m_dk, m_lk, m_hr, by rw [f_V_put, if_neg c1, if_pos c2], by rw [f_M_put, if_neg c1, if_pos c2], refuse⟩
  rw [f_V_put, if_neg c1, if_neg c2, f_M_put, if_neg c1, if_neg c2, holds_eq hsz (by omega), isThere_eq (Bk := Bk) (by rw [hb]; exact hbk) hhi]
  rw [lt32] at c1 c2
  have z1 : (1 : Int32).toInt = 1 := by decide
  have z8 : (8 : Int32).toInt = 8 := by decide
  rw [z1] at c1; rw [z8] at c2
  have e1 : (Int32.toInt64 a1).toInt = a1.toInt := ext3264 rfl
  rw [e1]
  by_cases c3 : 0 ≤ a1.toInt ∧ a1.toInt + a2.toInt ≤ (1024 * Bk : Nat)
  · rw [if_pos (by omega), if_pos (by omega)]
    obtain ⟨wd', e, hp⟩ := set_in (wd := wd) (a4 := a3) (a1 := Int32.toInt64 a1) (a3 := a2) (a := a1.toInt.toNat) (n := a2.toInt.toNat) hsz (by omega) (by omega) (by omega) (by omega) (by omega) (by omega)
    obtain ⟨dk', e2, hm⟩ := put_loopM (N := N) (nb := m_nb) (lk := m_lk) (hr := m_hr) (x3 := a3) (a := a1.toInt.toNat) (n := a2.toInt.toNat) (x1 := a1) (x2 := a2) (by omega) (by omega) (by omega) (by omega) N m_dk 0 0 (by decide) (by omega) (by omega)
    refine ⟨1, wd', -1, 2, 0, dk', 0, 2, ?_, e2, ⟨Bk, ⟨hsz, hBk, hbk, hlo, hhi⟩, hb, ?_, rfl, trivial, Or.inl ⟨rfl, rfl, rfl⟩⟩⟩
    · show bd1 (f_D_set NW sz wd (Int32.toInt64 a1) a2 a3) _ = _
      rw [e]; rfl
    · exact same_put hs (by simpa using hm) (put_bytes hp (by omega))
  · rw [if_neg (by omega), if_neg (by omega)]
    exact ⟨0, wd, fd, hr, 0, m_dk, m_lk, m_hr, rfl, rfl, refuse⟩
theorem sim_fill {N : Nat} (hN : 524289 ≤ N) (Z : ZT) (X : RelT) : Sim_fill N (RelW Z X) (RelW Z1 X) := by
  intro NW bk sz wd mb gB gI gN iN dr es of od pl hd tk kn li pa ins cm fd hr m_th m_nb m_dk m_lk m_fa m_pp m_gg m_jj m_qq m_mp m_fx m_tn m_mn m_oq m_pq m_fo m_ca m_hr m_fd a1 a2 a3 ⟨Bk, hC, hb, hs, hh, hz, hx⟩
  obtain ⟨hsz, hBk, hbk, hlo, hhi⟩ := hC
  have refuse : RelW Z1 X NW bk sz wd mb gB gI gN iN dr es of od pl hd tk kn li pa ins cm fd hr 0 m_nb m_dk m_lk m_fa m_pp m_gg m_jj m_qq m_mp m_fx m_tn m_mn m_oq m_pq m_fo m_ca m_hr m_fd := ⟨Bk, ⟨hsz, hBk, hbk, hlo, hhi⟩, hb, hs, hh, trivial, hx⟩
  rw [f_V_fill, f_M_fill, holds_eq hsz (by omega), isThere_eq (Bk := Bk) (by rw [hb]; exact hbk) hhi]
  have e1 : (Int32.toInt64 a1).toInt = a1.toInt := ext3264 rfl
  rw [e1]
  by_cases c0 : a2.toInt = 0
  · rw [if_pos (by omega), if_pos (by omega)]
    refine ⟨1, wd, -1, 2, 0, m_dk, 0, 2, ?_, ?_, ⟨Bk, ⟨hsz, hBk, hbk, hlo, hhi⟩, hb, hs, rfl, trivial, Or.inl ⟨rfl, rfl, rfl⟩⟩⟩
    · show bd1 (f_D_spread N NW sz wd a1 a2 a3) _ = _
      rw [spread_zero c0 (by omega)]; rfl
    · obtain ⟨k, rfl⟩ : ∃ k, N = k + 1 := ⟨N - 1, by omega⟩
      show f_M_fill_21 (k + 1) m_nb (k + 1) 0 m_dk m_lk m_hr a1 a2 a3 0 = _
      rw [f_M_fill_21, if_pos (by rw [le32, c0]; decide)]
      rfl
  by_cases c3 : 0 < a2.toInt ∧ 0 ≤ a1.toInt ∧ a1.toInt + a2.toInt ≤ (1024 * Bk : Nat)
  · rw [if_pos (by omega), if_pos (by omega)]
    obtain ⟨wd', e, hp⟩ := spread_in (N := N) (wd := wd) (a1 := a1) (a2 := a2) (a3 := a3) (at' := a1.toInt.toNat) (n := a2.toInt.toNat) hsz (by omega) (by omega) (by omega) (by omega) (by omega)
    obtain ⟨dk', e2, hm⟩ := fill_loopM (N := N) (nb := m_nb) (lk := m_lk) (hr := m_hr) (x3 := a3) (a := a1.toInt.toNat) (n := a2.toInt.toNat) (x1 := a1) (x2 := a2) (by omega) (by omega) (by omega) N m_dk 0 0 (by decide) (by omega) (by omega)
    refine ⟨1, wd', -1, 2, 0, dk', 0, 2, ?_, e2, ⟨Bk, ⟨hsz, hBk, hbk, hlo, hhi⟩, hb, ?_, rfl, trivial, Or.inl ⟨rfl, rfl, rfl⟩⟩⟩
    · show bd1 (f_D_spread N NW sz wd a1 a2 a3) _ = _
      rw [e]; rfl
    · exact same_put (F := fun _ => a3.toBitVec.toNat % 256) hs (by simpa using hm) (fill_bytes hp)
  · rw [if_neg (by omega), if_neg (by omega)]
    exact ⟨0, wd, fd, hr, 0, m_dk, m_lk, m_hr, rfl, rfl, refuse⟩
theorem sim_copy {N : Nat} (hN : 524289 ≤ N) (Z : ZT) (X : RelT) : Sim_copy N (RelW Z X) (RelW Z1 X) := by
  intro NW bk sz wd mb gB gI gN iN dr es of od pl hd tk kn li pa ins cm fd hr m_th m_nb m_dk m_lk m_fa m_pp m_gg m_jj m_qq m_mp m_fx m_tn m_mn m_oq m_pq m_fo m_ca m_hr m_fd a1 a2 a3 ⟨Bk, hC, hb, hs, hh, hz, hx⟩
  obtain ⟨hsz, hBk, hbk, hlo, hhi⟩ := hC
  have refuse : RelW Z1 X NW bk sz wd mb gB gI gN iN dr es of od pl hd tk kn li pa ins cm fd hr 0 m_nb m_dk m_lk m_fa m_pp m_gg m_jj m_qq m_mp m_fx m_tn m_mn m_oq m_pq m_fo m_ca m_hr m_fd := ⟨Bk, ⟨hsz, hBk, hbk, hlo, hhi⟩, hb, hs, hh, trivial, hx⟩
  rw [f_V_copy, f_M_copy, holds_eq hsz (by omega), holds_eq hsz (by omega), isThere_eq (Bk := Bk) (by rw [hb]; exact hbk) hhi, isThere_eq (Bk := Bk) (by rw [hb]; exact hbk) hhi]
  have e1 : (Int32.toInt64 a1).toInt = a1.toInt := ext3264 rfl
  have e2 : (Int32.toInt64 a2).toInt = a2.toInt := ext3264 rfl
  rw [e1, e2, hBk]
  by_cases p1 : a3.toInt = 0 ∨ (0 < a3.toInt ∧ 0 ≤ a1.toInt ∧ a1.toInt + a3.toInt ≤ ((1024 * Bk : Nat) : Int))
  · rw [if_pos p1]
    by_cases p2 : a3.toInt = 0 ∨ (0 < a3.toInt ∧ 0 ≤ a2.toInt ∧ a2.toInt + a3.toInt ≤ ((1024 * Bk : Nat) : Int))
    · rw [if_pos p2]
      by_cases c0 : a3.toInt = 0
      · refine ⟨1, wd, -1, 2, 0, m_dk, 0, 2, ?_, ?_, ⟨Bk, ⟨hsz, hBk, hbk, hlo, hhi⟩, hb, hs, rfl, trivial, Or.inl ⟨rfl, rfl, rfl⟩⟩⟩
        · show bd1 (f_D_move N NW sz wd a1 a2 a3) _ = _
          rw [move_zero c0 (by omega)]; rfl
        · obtain ⟨k, rfl⟩ : ∃ k, N = k + 1 := ⟨N - 1, by omega⟩
          show f_M_copy_32 (k + 1) m_nb (k + 1) 0 m_dk m_lk m_hr a1 a2 a3 0 = _
          rw [f_M_copy_32, if_pos (by rw [le32, c0]; decide)]
          rfl
      · obtain ⟨wd', e, hp⟩ := move_in (N := N) (wd := wd) (a1 := a1) (a2 := a2) (a3 := a3) (a := a1.toInt.toNat) (t := a2.toInt.toNat) (n := a3.toInt.toNat) hsz (by omega) (by omega) (by omega) (by omega) (by omega) (by omega) (by omega)
        obtain ⟨dk', e2, hm⟩ := copy_loopM (N := N) (nb := m_nb) (lk := m_lk) (hr := m_hr) (dk0 := m_dk) (a := a1.toInt.toNat) (t := a2.toInt.toNat) (n := a3.toInt.toNat) (x1 := a1) (x2 := a2) (x3 := a3) (by omega) (by omega) (by omega) (by omega) (by omega) N m_dk 0 0 (by decide) (by omega) (by omega) (by intro j; rw [if_neg (by omega)])
        refine ⟨1, wd', -1, 2, 0, dk', 0, 2, ?_, e2, ⟨Bk, ⟨hsz, hBk, hbk, hlo, hhi⟩, hb, ?_, rfl, trivial, Or.inl ⟨rfl, rfl, rfl⟩⟩⟩
        · show bd1 (f_D_move N NW sz wd a1 a2 a3) _ = _
          rw [e]; rfl
        · intro i hi
          rw [hm, moved_bytes hp]
          by_cases c5 : a2.toInt.toNat ≤ i ∧ i < a2.toInt.toNat + a3.toInt.toNat
          · rw [if_pos c5, if_pos c5]; exact hs _ (by omega)
          · rw [if_neg c5, if_neg c5]; exact hs i hi
    · rw [if_neg p2]
      exact ⟨0, wd, fd, hr, 0, m_dk, m_lk, m_hr, rfl, rfl, refuse⟩
  · rw [if_neg p1]
    exact ⟨0, wd, fd, hr, 0, m_dk, m_lk, m_hr, rfl, rfl, refuse⟩
theorem lenum_one (B : Nat → Nat) (a : Nat) : lenum B a 1 = B a := by simp [lenum]
theorem sim_byteAt {N : Nat} (Z : ZT) (X : RelT) : Sim_byteAt N (RelW Z X) (RelW Z X) := by
  intro NW bk sz wd mb gB gI gN iN dr es of od pl hd tk kn li pa ins cm fd hr m_th m_nb m_dk m_lk m_fa m_pp m_gg m_jj m_qq m_mp m_fx m_tn m_mn m_oq m_pq m_fo m_ca m_hr m_fd a1 ⟨Bk, hC, hb, hs, hh, hz, hx⟩
  have refuse : RelW Z X NW bk sz wd mb gB gI gN iN dr es of od pl hd tk kn li pa ins cm fd hr 0 m_nb m_dk m_lk m_fa m_pp m_gg m_jj m_qq m_mp m_fx m_tn m_mn m_oq m_pq m_fo m_ca m_hr m_fd := ⟨Bk, hC, hb, hs, hh, hz, hx⟩
  obtain ⟨hsz, hBk, hbk, hlo, hhi⟩ := hC
  have e1 : (Int32.toInt64 a1).toInt = a1.toInt := ext3264 rfl
  have z0 : (0 : Int32).toInt = 0 := by decide
  have z1 : (1 : Int32).toInt = 1 := by decide
  have em : ((1024 : Int32) * m_nb).toInt = 1024 * (Bk : Int) := mul32 (by decide) (by rw [hb]; exact hbk) (by omega) (by omega)
  rw [f_V_byteAt, f_M_byteAt, holds_eq hsz (by omega), e1, z1]
  by_cases c1 : a1 < 0
  · rw [if_pos c1]; rw [lt32, z0] at c1
    rw [if_neg (by omega)]
    exact ⟨-1, 0, rfl, rfl, refuse⟩
  · rw [if_neg c1]; rw [lt32, z0] at c1
    by_cases c2 : a1 < 1024 * m_nb
    · rw [if_pos c2]; rw [lt32, em] at c2
      rw [if_pos (by omega)]
      obtain ⟨r, er, hr'⟩ := one_eq (dk := m_dk) (a1 := a1) (a := a1.toInt.toNat) (by omega) (by omega)
      refine ⟨r, 0, ?_, by rw [er]; rfl, refuse⟩
      show bd1 (f_D_number NW sz wd (Int32.toInt64 a1) 1) _ = _
      rw [number_num (a := a1.toInt.toNat) (n := 1) hsz (by omega) (by omega) (by decide) (by omega) (by omega) (by omega), lenum_one]
      refine congrArg some ?_
      rw [eq32, hr', hs _ (by omega)]
      have := cby_lt wd a1.toInt.toNat
      exact cut6432 (num64 (by omega)) (by omega) (by omega)
    · rw [if_neg c2]; rw [lt32, em] at c2
      rw [if_neg (by omega)]
      exact ⟨-1, 0, rfl, rfl, refuse⟩
