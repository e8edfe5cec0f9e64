/-! fault 1; fresh objects -/
theorem nar_bool0 : vp_nar .boolean 0 = 0 := rfl
theorem clear_loop {N : Nat} {m_nb : Int32} {m_dk : Nat → Int32} {m_pp : Int32} {m_gg : Int32} {m_jj : Int32} {m_qq : Int32} {m_mp : Nat → Int32} {m_mn : Int32} {m_oq : Nat → Int32} {m_pq : Nat → Int32} {m_fo : Nat → Int32} {m_ca : Nat → Int32} {m_fd : Int32} :
    ∀ (k : Nat) (m_fx m_tn : Nat → Int32) (x1 : Int32) (i : Nat), x1.toInt = (i : Int) → i ≤ 512 → 512 - i < k → (∀ b, b < i → m_fx b = 0 ∧ m_tn b = 0) →
    ∃ fx' tn' : Nat → Int32, (∀ b, b < 512 → fx' b = 0 ∧ tn' b = 0) ∧ f_M_firstFault_2 N m_nb m_dk k m_pp m_gg m_jj m_qq m_mp m_fx m_tn m_mn m_oq m_pq m_fo m_ca m_fd x1 = f_M_firstFault_2 N m_nb m_dk 1 m_pp m_gg m_jj m_qq m_mp fx' tn' m_mn m_oq m_pq m_fo m_ca m_fd 512 := by
  intro k
  induction k with
  | zero => intro fx tn x1 i _ _ h _; omega
  | succ k ih =>
    intro fx tn x1 i h1 hi hk hz
    have z512 : (512 : Int32).toInt = 512 := by decide
    by_cases c : 512 ≤ i
    · refine ⟨fx, tn, fun b hb => hz b (by omega), ?_⟩
      rw [f_M_firstFault_2, f_M_firstFault_2, if_pos (by rw [le32, h1, z512]; omega), if_pos (by decide)]
    · obtain ⟨fx', tn', h, e⟩ := ih (upd fx i 0) (upd tn i 0) (x1 + 1) (i + 1) (by rw [add32 h1 (y := 1) (by decide) (by omega) (by omega)]; omega) (by omega) (by omega) (by
        intro b hb
        by_cases hbi : b = i
        · subst hbi; simp [upd]
        · simp only [upd, if_neg hbi]; exact hz b (by omega))
      refine ⟨fx', tn', h, ?_⟩
      rw [← e, f_M_firstFault_2, if_neg (by rw [le32, h1, z512]; omega), if_neg (by rw [oob_iff, h1]; omega)]
      simp only [lt1]
      rw [if_neg (by rw [oob_iff, h1]; omega), nn32 h1, nar_bool0]
theorem first1 {N : Nat} (hN : 513 ≤ N) {NW : Nat} {bk : Int32} {sz : Int32} {wd : Nat → Int64} {mb : Nat → Int32} {gB : Int32} {gI : Int32} {gN : Int32} {iN : Int32} {dr : Int32} {es : Int64} {of : Int64} {od : Int32} {pl : Int64} {hd : Int64} {tk : Nat → Int32} {kn : Nat → Int32} {li : Nat → Int32} {pa : Nat → Int32} {ins : Nat → Int32} {cm : Int32} {m_nb : Int32} {m_dk : Nat → Int32} {m_pp : Int32} {m_gg : Int32} {m_jj : Int32} {m_qq : Int32} {m_mp : Nat → Int32} {m_fx : Nat → Int32} {m_tn : Nat → Int32} {m_mn : Int32} {m_oq : Nat → Int32} {m_pq : Nat → Int32} {m_fo : Nat → Int32} {m_ca : Nat → Int32} {m_fd : Int32} {Bk : Nat} (hC : CtxD NW sz bk Bk) (hb : m_nb = bk) (hs : Same m_dk wd Bk) (hno : ¬ SuperOK wd Bk) :
    ∃ (mb' : Nat → Int32) (gB' : Int32) (gI' : Int32) (gN' : Int32) (iN' : Int32) (dr' : Int32) (es' : Int64) (of' : Int64) (od' : Int32) (pl' : Int64) (hd' : Int64) (tk' : Nat → Int32) (kn' : Nat → Int32) (li' : Nat → Int32) (pa' : Nat → Int32) (ins' : Nat → Int32) (cm' : Int32) (m_pp' : Int32) (m_gg' : Int32) (m_jj' : Int32) (m_qq' : Int32) (m_mp' : Nat → Int32) (m_fx' : Nat → Int32) (m_tn' : Nat → Int32) (m_mn' : Int32) (m_oq' : Nat → Int32) (m_pq' : Nat → Int32) (m_fo' : Nat → Int32) (m_ca' : Nat → Int32) (m_fd' : Int32), f_S_firstFault N NW bk sz wd mb gB gI gN iN dr es of od pl hd tk kn li pa ins cm (-1) = some (1, mb', gB', gI', gN', iN', dr', es', of', od', pl', hd', tk', kn', li', pa', ins', cm', 1) ∧ f_M_firstFault N m_nb m_dk m_pp m_gg m_jj m_qq m_mp m_fx m_tn m_mn m_oq m_pq m_fo m_ca m_fd = some (1, m_pp', m_gg', m_jj', m_qq', m_mp', m_fx', m_tn', m_mn', m_oq', m_pq', m_fo', m_ca', m_fd') := by
  obtain ⟨r, gB', gI', gN', iN', e, hr, -⟩ := superblock_eq (wd := wd) (gB := gB) (gI := gI) (gN := gN) (iN := iN) hC
  obtain ⟨fx', tn', -, e2⟩ := clear_loop (N := N) (m_nb := m_nb) (m_dk := m_dk) (m_pp := m_pp) (m_gg := m_gg) (m_jj := m_jj) (m_qq := m_qq) (m_mp := m_mp) (m_mn := m_mn) (m_oq := m_oq) (m_pq := m_pq) (m_fo := m_fo) (m_ca := m_ca) (m_fd := m_fd) N m_fx m_tn 0 0 (by decide) (by omega) (by omega) (by intro b hb; omega)
  obtain ⟨rm, pp', gg', jj', qq', e3, hrm, -⟩ := badHead_eq hC hs (pp := m_pp) (gg := m_gg) (jj := m_jj) (qq := m_qq) hb
  refine ⟨mb, gB', gI', gN', iN', dr, es, of, od, pl, hd, tk, kn, li, pa, ins, cm, pp', gg', jj', qq', m_mp, fx', tn', m_mn, m_oq, m_pq, m_fo, m_ca, m_fd, ?_, ?_⟩
  · rw [f_S_firstFault, if_pos rfl, e]
    simp only [bd5]
    rw [if_pos (hr.f hno), f_S_firstFault_66, if_neg (by decide)]
  · rw [f_M_firstFault, e2, f_M_firstFault_2, if_pos (by decide), e3]
    simp only [bd5]
    rw [if_neg (by rw [hrm.t hno]; decide)]
theorem cby_zero (i : Nat) : cby (fun _ => 0) i = 0 := by
  unfold cby
  show (((0 : Int64).toBitVec.toNat >>> _) % 256) = 0
  rw [show (0 : Int64).toBitVec.toNat = 0 from rfl, Nat.zero_shiftRight]
theorem lenum_zero {B : Nat → Nat} (h : ∀ i, B i = 0) : ∀ n a, lenum B a n = 0 := by
  intro n
  induction n with
  | zero => intro a; rfl
  | succ n ih => intro a; rw [lenum, h, ih]
abbrev Z0 : ZT := fun wd _ => wd = fun _ => 0
theorem zero_bad (Bk : Nat) : ¬ SuperOK (fun _ => 0) Bk := by
  intro h
  have := h.2.2.2.2.2.2.1
  unfold n2 nu cnum at this
  rw [lenum_zero (fun i => cby_zero i)] at this
  simp at this
theorem core_zero {N : Nat} (hN : 513 ≤ N) : Core N Z0 (fun _ _ _ _ _ _ _ _ _ _ _ _ _ _ _ _ _ _ _ _ _ _ _ _ _ _ _ _ _ _ _ _ _ _ _ _ _ _ _ _ _ _ => False) := by
  intro NW bk sz wd mb gB gI gN iN dr es of od pl hd tk kn li pa ins cm fd hr m_th m_nb m_dk m_lk m_fa m_pp m_gg m_jj m_qq m_mp m_fx m_tn m_mn m_oq m_pq m_fo m_ca m_hr m_fd Bk hC hb hs hh hz hhr
  have hno : ¬ SuperOK wd Bk := by rw [hz]; exact zero_bad Bk
  obtain ⟨mb', gB', gI', gN', iN', dr', es', of', od', pl', hd', tk', kn', li', pa', ins', cm', m_pp', m_gg', m_jj', m_qq', m_mp', m_fx', m_tn', m_mn', m_oq', m_pq', m_fo', m_ca', m_fd', e1, e2⟩ := first1 hN (mb := mb) (gB := gB) (gI := gI) (gN := gN) (iN := iN) (dr := dr) (es := es) (of := of) (od := od) (pl := pl) (hd := hd) (tk := tk) (kn := kn) (li := li) (pa := pa) (ins := ins) (cm := cm) (m_pp := m_pp) (m_gg := m_gg) (m_jj := m_jj) (m_qq := m_qq) (m_mp := m_mp) (m_fx := m_fx) (m_tn := m_tn) (m_mn := m_mn) (m_oq := m_oq) (m_pq := m_pq) (m_fo := m_fo) (m_ca := m_ca) (m_fd := m_fd) hC hb hs hno
  exact ⟨1, mb', gB', gI', gN', iN', dr', es', of', od', pl', hd', tk', kn', li', pa', ins', cm', m_pp', m_gg', m_jj', m_qq', m_mp', m_fx', m_tn', m_mn', m_oq', m_pq', m_fo', m_ca', m_fd', e1, e2, by decide, fun h => absurd h (by decide)⟩
theorem fresh_rel (Z : ZT) (X : RelT) (hZ : ∀ Bk, Z (fun _ => 0) Bk) : ∀ a1 : Int32, ∃ (bk : Int32) (NW : Nat) (nb : Int32), (if 128 < (if a1 < 512 then a1 else 512) then (if a1 < 512 then a1 else 512) else 128) = bk ∧ (bk * 1024 / 8).toNatClampNeg = NW ∧ ¬ bk * 1024 / 8 < 0 ∧ NW ≤ 65536 ∧ (if 128 ≤ a1 then (if a1 ≤ 512 then a1 else 512) else 128) = nb ∧ RelW Z X NW bk (bk * 1024) (fun _ => 0) (fun _ => 0) 0 0 0 0 0 0 0 0 0 0 (fun _ => 0) (fun _ => 0) (fun _ => 0) (fun _ => 0) (fun _ => 0) 0 (-1) 2 0 nb (fun _ => 0) 0 0 0 0 0 0 (fun _ => 0) (fun _ => 0) (fun _ => 0) 0 (fun _ => 0) (fun _ => 0) (fun _ => 0) (fun _ => 0) 2 0 := by
  intro a1
  have z128 : (128 : Int32).toInt = 128 := by decide
  have z512 : (512 : Int32).toInt = 512 := by decide
  have z0 : (0 : Int32).toInt = 0 := by decide
  have key : ∃ bk : Int32, (if 128 < (if a1 < 512 then a1 else 512) then (if a1 < 512 then a1 else 512) else 128) = bk ∧ (if 128 ≤ a1 then (if a1 ≤ 512 then a1 else 512) else 128) = bk ∧ 128 ≤ bk.toInt ∧ bk.toInt ≤ 512 := by
    by_cases c1 : a1.toInt < 128
    · have d1 : a1 < 512 := by rw [lt32, z512]; omega
      have d2 : ¬ 128 < a1 := by rw [lt32, z128]; omega
      have d3 : ¬ 128 ≤ a1 := by rw [le32, z128]; omega
      exact ⟨128, by rw [if_pos d1, if_neg d2], by rw [if_neg d3], by decide, by decide⟩
    · have d3 : 128 ≤ a1 := by rw [le32, z128]; omega
      by_cases c2 : a1.toInt < 512
      · have d1 : a1 < 512 := by rw [lt32, z512]; omega
        have d4 : a1 ≤ 512 := by rw [le32, z512]; omega
        refine ⟨a1, ?_, by rw [if_pos d3, if_pos d4], by omega, by omega⟩
        rw [if_pos d1]
        by_cases c3 : a1.toInt = 128
        · have d2 : ¬ 128 < a1 := by rw [lt32, z128]; omega
          rw [if_neg d2]; exact eq32.mpr (by rw [c3]; decide)
        · have d2 : 128 < a1 := by rw [lt32, z128]; omega
          rw [if_pos d2]
      · have d1 : ¬ a1 < 512 := by rw [lt32, z512]; omega
        refine ⟨512, by rw [if_neg d1, if_pos (by decide)], ?_, by decide, by decide⟩
        rw [if_pos d3]
        by_cases c3 : a1.toInt = 512
        · have d4 : a1 ≤ 512 := by rw [le32, z512]; omega
          rw [if_pos d4]; exact eq32.mpr (by rw [c3]; decide)
        · have d4 : ¬ a1 ≤ 512 := by rw [le32, z512]; omega
          rw [if_neg d4]
  obtain ⟨bk, h1, h2, h3, h4⟩ := key
  have e1 : (bk * 1024).toInt = bk.toInt * 1024 := mul32 rfl (by decide) (by omega) (by omega)
  have e2 : (bk * 1024 / 8).toInt = bk.toInt * 1024 / 8 := div32 e1 (by decide) (by omega) (by omega)
  refine ⟨bk, 128 * bk.toInt.toNat, bk, h1, nn32 (by rw [e2]; omega), by rw [lt32, e2, z0]; omega, by omega, h2, bk.toInt.toNat, ⟨by rw [e1]; omega, by omega, by omega, by omega, by omega⟩, rfl, ?_, rfl, hZ _, Or.inl ⟨rfl, rfl, rfl⟩⟩
  intro i _
  rw [cby_zero]; rfl
/-- what is left of the whole claim -/
def Rest (N : Nat) (Snd : RelT) : Prop := Core N Z1 Snd ∧ Sim_items N Snd (RelW Z1 (XF Snd)) ∧ Sim_letter N Snd (RelW Z1 (XF Snd)) ∧ Sim_about N Snd (RelW Z1 (XF Snd)) ∧ Sim_content N Snd (RelW Z1 (XF Snd)) ∧ Sim_enter N Snd (RelW Z1 (XF Snd)) ∧ Sim_up N Snd (RelW Z1 (XF Snd))
theorem whole_good {N : Nat} (hN : 524289 ≤ N) {Snd : RelT} (h : Rest N Snd) : SimGood N (fun _ => RelW Z1 (XF Snd)) := by
  obtain ⟨hK, h1, h2, h3, h4, h5, h6⟩ := h
  refine ⟨fun _ => ⟨sim_put (by omega) _ _, sim_fill hN _ _, sim_copy hN _ _, sim_byteAt _ _, sim_fault hK, sim_items hK h1, sim_letter hK h2, sim_about hK h3, sim_content hK h4, sim_enter hK h5, sim_up hK h6⟩, ?_, fresh_rel _ _ (fun _ => trivial)⟩
  intros; assumption
