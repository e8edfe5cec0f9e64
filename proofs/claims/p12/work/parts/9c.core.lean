/-! a sound volume; the two searches for the first fault -/
section CR
def Snd : RelT := fun (NW : Nat) (bk : Int32) (sz : Int32) (wd : Nat → Int64) (mb : Nat → Int32) (gB : Int32) (gI : Int32) (gN : Int32) (iN : Int32) (dr : Int32) (es : Int64) (of : Int64) (od : Int32) (pl : Int64) (hd : Int64) (tk : Nat → Int32) (kn : Nat → Int32) (li : Nat → Int32) (pa : Nat → Int32) (ins : Nat → Int32) (cm : Int32) (fd : Int32) (hr : Int32) (m_th : Int32) (m_nb : Int32) (m_dk : Nat → Int32) (m_lk : Int32) (m_fa : Int32) (m_pp : Int32) (m_gg : Int32) (m_jj : Int32) (m_qq : Int32) (m_mp : Nat → Int32) (m_fx : Nat → Int32) (m_tn : Nat → Int32) (m_mn : Int32) (m_oq : Nat → Int32) (m_pq : Nat → Int32) (m_fo : Nat → Int32) (m_ca : Nat → Int32) (m_hr : Int32) (m_fd : Int32) => fd = 0 ∧ m_lk = 1 ∧ m_fa = 0 ∧ hr = m_hr ∧ ∃ (Bk G Q c h j : Nat) (M : Nat → Nat), CtxD NW sz bk Bk ∧ m_nb = bk ∧ Same m_dk wd Bk ∧ CtxL mb gI G M Q ∧ CtxM m_mp m_gg G M Q Bk ∧ TreeR wd Bk G M Q m_fx tk kn li pa ins m_tn m_oq m_pq m_fo m_ca c ∧ DoneR wd Bk G M Q kn li pa c ∧ hr.toInt = (h : Int) ∧ j < c ∧ li j = hr ∧ tyN wd Bk G M h = 16384
theorem gLen_le (wd : Nat → Int64) (Bk g : Nat) : gLen wd Bk g ≤ gP wd Bk ∧ gLen wd Bk g ≤ Bk - (1 + g * gP wd Bk) := by unfold gLen; omega
theorem qg_lt {wd : Nat → Int64} {Bk : Nat} (hO : SuperOK wd Bk) (hB : 128 ≤ Bk) (hB2 : Bk ≤ 512) (hq1 : 1 ≤ gQ wd Bk) (hf : ∀ h, h < gQ wd Bk → GroupFits wd Bk h) : gQ wd Bk * gG wd Bk < 4096 := by
  have hq := gQ_le hO hB hB2
  have h0 := hf 0 (by omega)
  have hl := hf (gQ wd Bk - 1) (by omega)
  have l0 := (gLen_le wd Bk 0).1
  have ll := (gLen_le wd Bk (gQ wd Bk - 1)).2
  have i0 := (gq_in hO hB (g := gQ wd Bk - 1) (by omega)).1
  have a0 := h0.1
  have b0 := h0.2.1
  have al := hl.1
  have bl := hl.2.1
  have hG8 : gG wd Bk % 8 = 0 := hO.1.2.2.2
  clear h0 hl hf
  generalize gLen wd Bk 0 = n0 at *
  generalize gLen wd Bk (gQ wd Bk - 1) = nl at *
  generalize gM wd Bk 0 = m0 at *
  generalize gM wd Bk (gQ wd Bk - 1) = ml at *
  generalize gQ wd Bk = Q at *
  generalize gP wd Bk = P at *
  generalize gG wd Bk = G at *
  have hQ : Q = 1 ∨ Q = 2 ∨ Q = 3 ∨ Q = 4 ∨ Q = 5 ∨ Q = 6 ∨ Q = 7 ∨ Q = 8 := by omega
  rcases hQ with e | e | e | e | e | e | e | e <;> subst e <;> simp only [Nat.reduceSub] at * <;> omega
theorem core {N : Nat} (hN : 524289 ≤ N) : Core N Z1 Snd := by
  intro NW bk sz wd mb gB gI gN iN dr es of od pl hd tk kn li pa ins cm fd hr m_th m_nb m_dk m_lk m_fa m_pp m_gg m_jj m_qq m_mp m_fx m_tn m_mn m_oq m_pq m_fo m_ca m_hr m_fd Bk hC hb hs hh hz hhr
  by_cases hO : SuperOK wd Bk
  · by_cases hCp : CopiesFrom wd Bk 1
    · have hB := hC.2.2.2.1
      have hB2 := hC.2.2.2.2
      obtain ⟨r, gB', gI', gN', iN', e, hr', hv⟩ := superblock_eq (wd := wd) (gB := gB) (gI := gI) (gN := gN) (iN := iN) hC
      obtain ⟨fx1, tn1, hz1, e2⟩ := clear_loop (N := N) (m_nb := m_nb) (m_dk := m_dk) (m_pp := m_pp) (m_gg := m_gg) (m_jj := m_jj) (m_qq := m_qq) (m_mp := m_mp) (m_mn := m_mn) (m_oq := m_oq) (m_pq := m_pq) (m_fo := m_fo) (m_ca := m_ca) (m_fd := m_fd) N m_fx m_tn 0 0 (by decide) (by omega) (by omega) (by intro b hb; omega)
      obtain ⟨rm, pp', gg', jj', qq', e3, hrm, hw⟩ := badHead_eq hC hs (pp := m_pp) (gg := m_gg) (jj := m_jj) (qq := m_qq) hb
      obtain ⟨v1, v2, v3, v4, v5, v6⟩ := hv hO
      obtain ⟨w1, w2, w3, w4⟩ := hw hO
      obtain ⟨rc, ec, hc⟩ := copiesStand_eq (N := N) hC hO v1 v3 v6 (by omega)
      obtain ⟨rcm, ecm, hcm⟩ := badCopies_eq (N := N) hC hs hO hb w1 w4 v6 (by omega)
      obtain ⟨r3, mb', tk', mp', fx2, g1, g2, g3⟩ := groups_eq (N := N) hC hs hO hb v1 v2 v3 w1 w3 w4 (by omega) mb tk m_mp fx1 (fun b hb => (hz1 b hb).1)
      have eS : f_S_firstFault N NW bk sz wd mb gB gI gN iN dr es of od pl hd tk kn li pa ins cm (-1) = (if r3 = 0 then f_S_firstFault_66 N NW bk sz wd mb' gB' gI' gN' iN' dr es of od pl hd tk' kn li pa ins cm 3 else bd13 (f_S_treeFault N NW bk sz wd mb' gI' iN' dr es of od pl hd tk' kn li pa ins cm) (fun r_17 dr_18 es_19 of_20 od_21 pl_22 hd_23 tk_24 kn_25 li_26 pa_27 ins_28 cm_29 => f_S_firstFault_66 N NW bk sz wd mb' gB' gI' gN' iN' dr_18 es_19 of_20 od_21 pl_22 hd_23 tk_24 kn_25 li_26 pa_27 ins_28 cm_29 r_17)) := by
        rw [f_S_firstFault, if_pos rfl, e]
        simp only [bd5]
        rw [if_neg (by rw [hr'.t hO]; decide), ec]
        simp only [bd1]
        rw [if_neg (by rw [hc.t hCp]; decide), g1]
        simp only [bd3]
      have eM : f_M_firstFault N m_nb m_dk m_pp m_gg m_jj m_qq m_mp m_fx m_tn m_mn m_oq m_pq m_fo m_ca m_fd = (if 1 - r3 = 0 then bd8 (f_M_tree N m_nb m_dk gg' qq' mp' fx2 tn1 m_mn m_oq m_pq m_fo m_ca m_fd) (fun (r_17 : Int32) (tn_18 : Nat → Int32) (mn_19 : Int32) (oq_20 : Nat → Int32) (pq_21 : Nat → Int32) (fo_22 : Nat → Int32) (ca_23 : Nat → Int32) (fd_24 : Int32) => (if r_17 ≤ 0 then bd1 (f_M_badLinks N m_dk gg' mp' mn_19 oq_20 fo_22) (fun (r_27 : Int32) => (if r_27 = 0 then bd1 (f_M_badInodes N m_dk gg' qq' mp' ca_23) (fun (r_30 : Int32) => (if r_30 = 0 then bd1 (f_M_badCounts N m_nb m_dk pp' gg' qq' mp' fx2 tn_18 mn_19 oq_20) (fun (r_33 : Int32) => (if r_33 = 0 then some ((0 : Int32), pp', gg', jj', qq', mp', fx2, tn_18, mn_19, oq_20, pq_21, fo_22, ca_23, fd_24) else some ((8 : Int32), pp', gg', jj', qq', mp', fx2, tn_18, mn_19, oq_20, pq_21, fo_22, ca_23, fd_24))) else some ((7 : Int32), pp', gg', jj', qq', mp', fx2, tn_18, mn_19, oq_20, pq_21, fo_22, ca_23, fd_24))) else some ((6 : Int32), pp', gg', jj', qq', mp', fx2, tn_18, mn_19, oq_20, pq_21, fo_22, ca_23, fd_24))) else some (r_17, pp', gg', jj', qq', mp', fx2, tn_18, mn_19, oq_20, pq_21, fo_22, ca_23, fd_24))) else some ((3 : Int32), pp', gg', jj', qq', mp', fx2, tn1, m_mn, m_oq, m_pq, m_fo, m_ca, m_fd)) := by
        rw [f_M_firstFault, e2, f_M_firstFault_2, if_pos (by decide), e3]
        simp only [bd5]
        rw [if_pos (hrm.f (fun h => h hO)), ecm]
        simp only [bd1]
        rw [if_pos (hcm.f (fun h => h hCp)), g2]
        simp only [bd3]
      rw [eS, eM]
      clear eS eM e e2 e3 ec ecm g1 g2
      rcases g3 with h3 | ⟨h3, hrel, hall⟩
      · subst h3
        rw [if_pos rfl, if_neg (show ¬ (1 : Int32) - 0 = 0 by decide), f_S_firstFault_66, if_neg (show ¬ (3 : Int32) = 0 by decide)]
        exact ⟨3, _, _, _, _, _, _, _, _, _, _, _, _, _, _, _, _, _, _, _, _, _, _, _, _, _, _, _, _, _, _, rfl, rfl, by decide, fun h => absurd h (by decide)⟩
      · subst h3
        rw [if_neg (show ¬ (1 : Int32) = 0 by decide), if_pos (show (1 : Int32) - 1 = 0 by decide)]
        have hq8 := gQ_le hO hB hB2
        have hQG := qg_lt hO hB hB2 v6 (fun h hh => (hall h hh).2.2)
        have hfit : ∀ h, h < gQ wd Bk → 3 ≤ gM wd Bk h ∧ gM wd Bk h + 2 + gG wd Bk / 8 ≤ Bk := by
          intro h hh
          obtain ⟨-, -, a, b, -, -⟩ := hall h hh
          have l := (gLen_le wd Bk h).2
          have i := (gq_in hO hB hh).1
          omega
        have hG1 : 8 ≤ gG wd Bk := hO.1.2.1
        have hG2 : gG wd Bk ≤ 8192 := hO.1.2.2.1
        have hL : CtxL mb' gI' (gG wd Bk) (gM wd Bk) (gQ wd Bk) := ⟨v2, hG1, hG2, hq8, fun g hg => ⟨(hall g hg).1, by have := (hfit g hg).2; omega⟩⟩
        have hM : CtxM mp' gg' (gG wd Bk) (gM wd Bk) (gQ wd Bk) Bk := ⟨w2, hG1, hG2, hO.1.2.2.2, hq8, hQG, fun g hg => ⟨(hall g hg).2.1, hfit g hg⟩⟩
        have hT : TK tk' fx2 tn1 := fun b hb => ⟨fun h => ⟨(hrel b hb).mp h, (hz1 b hb).2⟩, fun h => (hrel b hb).mpr h.1⟩
        rcases tree_sim (N := N) (nb := m_nb) hC hb hs hL hM v6 hN v4 w4 dr es of od pl hd tk' kn li pa ins cm tn1 m_mn m_oq m_pq m_fo m_ca m_fd hT with ⟨rt, dr', es', of', od', pl', hd', tk'', kn', li', pa', ins', cm', tn', mn', oq', pq', fo', ca', fd', hrt, t1, t2⟩ | ⟨dr', es', of', od', pl', hd', tk'', kn', li', pa', ins', cm', tn', oq', pq', fo', ca', fd', c', t1, t2, hR, hcm', hD, hty2⟩
        · rw [t1, t2]
          simp only [bd13, bd8]
          have hn0 : ¬ rt = 0 := by rcases hrt with h | h <;> rw [h] <;> decide
          have hn1 : ¬ rt ≤ 0 := by rcases hrt with h | h <;> rw [h] <;> decide
          have hn2 : 0 ≤ rt := by rcases hrt with h | h <;> rw [h] <;> decide
          rw [f_S_firstFault_66, if_neg hn0, if_neg hn1]
          exact ⟨rt, _, _, _, _, _, _, _, _, _, _, _, _, _, _, _, _, _, _, _, _, _, _, _, _, _, _, _, _, _, _, rfl, rfl, hn2, fun h => absurd h hn0⟩
        · rw [t1, t2]
          simp only [bd13, bd8]
          rw [f_S_firstFault_66, if_pos rfl, if_pos (show (0 : Int32) ≤ 0 by decide)]
          obtain ⟨r6, s6, m6, z6⟩ := links_sim (N := N) hC hs hL hM (by omega) hR hcm'
          obtain ⟨r7, s7, m7, z7⟩ := inodes_sim (N := N) hC hs hL hM (by omega) v4 w4 hR.2.2.1
          obtain ⟨r8, s8, m8, z8⟩ := maps_sim (N := N) (nb := m_nb) (gB := gB') (gN := gN') (pp := pp') hC hs hL hM hO rfl hb (by omega) hR hcm' v1 v3 w1 w4
          unfold f_S_lateFault
          rw [s6, s7, s8, m6, m7, m8]
          simp only [bd1]
          rcases z6 with z6 | z6
          · subst z6
            rw [if_pos rfl, if_neg (show ¬ (1 : Int32) - 0 = 0 by decide)]
            exact ⟨6, _, _, _, _, _, _, _, _, _, _, _, _, _, _, _, _, _, _, _, _, _, _, _, _, _, _, _, _, _, _, rfl, rfl, by decide, fun h => absurd h (by decide)⟩
          · subst z6
            rw [if_neg (show ¬ (1 : Int32) = 0 by decide), if_pos (show (1 : Int32) - 1 = 0 by decide)]
            rcases z7 with z7 | z7
            · subst z7
              rw [if_pos rfl, if_neg (show ¬ (1 : Int32) - 0 = 0 by decide)]
              exact ⟨7, _, _, _, _, _, _, _, _, _, _, _, _, _, _, _, _, _, _, _, _, _, _, _, _, _, _, _, _, _, _, rfl, rfl, by decide, fun h => absurd h (by decide)⟩
            · subst z7
              rw [if_neg (show ¬ (1 : Int32) = 0 by decide), if_pos (show (1 : Int32) - 1 = 0 by decide)]
              rcases z8 with z8 | z8
              · subst z8
                rw [if_pos rfl, if_neg (show ¬ (1 : Int32) - 0 = 0 by decide)]
                exact ⟨8, _, _, _, _, _, _, _, _, _, _, _, _, _, _, _, _, _, _, _, _, _, _, _, _, _, _, _, _, _, _, rfl, rfl, by decide, fun h => absurd h (by decide)⟩
              · subst z8
                rw [if_neg (show ¬ (1 : Int32) = 0 by decide), if_pos (show (1 : Int32) - 1 = 0 by decide)]
                refine ⟨0, _, _, _, _, _, _, _, _, _, _, _, _, _, _, _, _, _, _, _, _, _, _, _, _, _, _, _, _, _, _, rfl, rfl, by decide, fun _ => ⟨rfl, rfl, rfl, hh, Bk, gG wd Bk, gQ wd Bk, c', 2, 0, gM wd Bk, hC, hb, hs, hL, hM, hR, hD, by rw [hhr]; decide, ?_, ?_, hty2⟩⟩
                · exact hR.2.2.2.2.2.2.1
                · rw [hhr]; exact hR.2.2.2.2.2.2.2
    · obtain ⟨mb', gB', gI', gN', iN', dr', es', of', od', pl', hd', tk', kn', li', pa', ins', cm', m_pp', m_gg', m_jj', m_qq', m_mp', m_fx', m_tn', m_mn', m_oq', m_pq', m_fo', m_ca', m_fd', e1, e2⟩ := first2 (N := N) (by omega) (mb := mb) (gB := gB) (gI := gI) (gN := gN) (iN := iN) (dr := dr) (es := es) (of := of) (od := od) (pl := pl) (hd := hd) (tk := tk) (kn := kn) (li := li) (pa := pa) (ins := ins) (cm := cm) (m_pp := m_pp) (m_gg := m_gg) (m_jj := m_jj) (m_qq := m_qq) (m_mp := m_mp) (m_fx := m_fx) (m_tn := m_tn) (m_mn := m_mn) (m_oq := m_oq) (m_pq := m_pq) (m_fo := m_fo) (m_ca := m_ca) (m_fd := m_fd) hC hb hs hO hCp
      exact ⟨2, mb', gB', gI', gN', iN', dr', es', of', od', pl', hd', tk', kn', li', pa', ins', cm', m_pp', m_gg', m_jj', m_qq', m_mp', m_fx', m_tn', m_mn', m_oq', m_pq', m_fo', m_ca', m_fd', e1, e2, by decide, fun h => absurd h (by decide)⟩
  · obtain ⟨mb', gB', gI', gN', iN', dr', es', of', od', pl', hd', tk', kn', li', pa', ins', cm', m_pp', m_gg', m_jj', m_qq', m_mp', m_fx', m_tn', m_mn', m_oq', m_pq', m_fo', m_ca', m_fd', e1, e2⟩ := first1 (N := N) (by omega) (mb := mb) (gB := gB) (gI := gI) (gN := gN) (iN := iN) (dr := dr) (es := es) (of := of) (od := od) (pl := pl) (hd := hd) (tk := tk) (kn := kn) (li := li) (pa := pa) (ins := ins) (cm := cm) (m_pp := m_pp) (m_gg := m_gg) (m_jj := m_jj) (m_qq := m_qq) (m_mp := m_mp) (m_fx := m_fx) (m_tn := m_tn) (m_mn := m_mn) (m_oq := m_oq) (m_pq := m_pq) (m_fo := m_fo) (m_ca := m_ca) (m_fd := m_fd) hC hb hs hO
    exact ⟨1, mb', gB', gI', gN', iN', dr', es', of', od', pl', hd', tk', kn', li', pa', ins', cm', m_pp', m_gg', m_jj', m_qq', m_mp', m_fx', m_tn', m_mn', m_oq', m_pq', m_fo', m_ca', m_fd', e1, e2, by decide, fun h => absurd h (by decide)⟩
end CR