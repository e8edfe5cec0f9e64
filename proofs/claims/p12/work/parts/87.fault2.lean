/-! fault 2 -/
theorem first2 {N : Nat} (hN : 2050 ≤ N) {NW : Nat} {bk : Int32} {sz : Int32} {wd : Nat → Int64} {mb : Nat → Int32} {gB : Int32} {gI : Int32} {gN : Int32} {iN : Int32} {dr : Int32} {es : Int64} {of : Int64} {od : Int32} {pl : Int64} {hd : Int64} {tk : Nat → Int32} {kn : Nat → Int32} {li : Nat → Int32} {pa : Nat → Int32} {ins : Nat → Int32} {cm : Int32} {m_nb : Int32} {m_dk : Nat → Int32} {m_pp : Int32} {m_gg : Int32} {m_jj : Int32} {m_qq : Int32} {m_mp : Nat → Int32} {m_fx : Nat → Int32} {m_tn : Nat → Int32} {m_mn : Int32} {m_oq : Nat → Int32} {m_pq : Nat → Int32} {m_fo : Nat → Int32} {m_ca : Nat → Int32} {m_fd : Int32} {Bk : Nat} (hC : CtxD NW sz bk Bk) (hb : m_nb = bk) (hs : Same m_dk wd Bk) (hO : SuperOK wd Bk) (hno : ¬ CopiesFrom wd Bk 1) :
    ∃ (mb' : Nat → Int32) (gB' : Int32) (gI' : Int32) (gN' : Int32) (iN' : Int32) (dr' : Int32) (es' : Int64) (of' : Int64) (od' : Int32) (pl' : Int64) (hd' : Int64) (tk' : Nat → Int32) (kn' : Nat → Int32) (li' : Nat → Int32) (pa' : Nat → Int32) (ins' : Nat → Int32) (cm' : Int32) (m_pp' : Int32) (m_gg' : Int32) (m_jj' : Int32) (m_qq' : Int32) (m_mp' : Nat → Int32) (m_fx' : Nat → Int32) (m_tn' : Nat → Int32) (m_mn' : Int32) (m_oq' : Nat → Int32) (m_pq' : Nat → Int32) (m_fo' : Nat → Int32) (m_ca' : Nat → Int32) (m_fd' : Int32), f_S_firstFault N NW bk sz wd mb gB gI gN iN dr es of od pl hd tk kn li pa ins cm (-1) = some (2, mb', gB', gI', gN', iN', dr', es', of', od', pl', hd', tk', kn', li', pa', ins', cm', 2) ∧ f_M_firstFault N m_nb m_dk m_pp m_gg m_jj m_qq m_mp m_fx m_tn m_mn m_oq m_pq m_fo m_ca m_fd = some (2, m_pp', m_gg', m_jj', m_qq', m_mp', m_fx', m_tn', m_mn', m_oq', m_pq', m_fo', m_ca', m_fd') := by
  obtain ⟨r, gB', gI', gN', iN', e, hr, hv⟩ := superblock_eq (wd := wd) (gB := gB) (gI := gI) (gN := gN) (iN := iN) hC
  obtain ⟨fx', tn', -, e2⟩ := clear_loop (N := N) (m_nb := m_nb) (m_dk := m_dk) (m_pp := m_pp) (m_gg := m_gg) (m_jj := m_jj) (m_qq := m_qq) (m_mp := m_mp) (m_mn := m_mn) (m_oq := m_oq) (m_pq := m_pq) (m_fo := m_fo) (m_ca := m_ca) (m_fd := m_fd) N m_fx m_tn 0 0 (by decide) (by omega) (by omega) (by intro b hb; omega)
  obtain ⟨rm, pp', gg', jj', qq', e3, hrm, hw⟩ := badHead_eq hC hs (pp := m_pp) (gg := m_gg) (jj := m_jj) (qq := m_qq) hb
  refine ⟨mb, gB', gI', gN', iN', dr, es, of, od, pl, hd, tk, kn, li, pa, ins, cm, pp', gg', jj', qq', m_mp, fx', tn', m_mn, m_oq, m_pq, m_fo, m_ca, m_fd, ?_, ?_⟩
  · obtain ⟨v1, v2, v3, v4, v5, v6⟩ := hv hO
    obtain ⟨rc, ec, hc⟩ := copiesStand_eq (N := N) hC hO v1 v3 v6 (by omega)
    rw [f_S_firstFault, if_pos rfl, e]
    simp only [bd5]
    rw [if_neg (by rw [hr.t hO]; decide), ec]
    simp only [bd1]
    rw [if_pos (hc.f hno), f_S_firstFault_66, if_neg (by decide)]
  · obtain ⟨v1, v2, v3, v4, v5, v6⟩ := hv hO
    obtain ⟨w1, w2, w3, w4⟩ := hw hO
    obtain ⟨rc, ec, hc⟩ := badCopies_eq (N := N) hC hs hO hb w1 w4 v6 hN
    rw [f_M_firstFault, e2, f_M_firstFault_2, if_pos (by decide), e3]
    simp only [bd5]
    rw [if_pos (hrm.f (fun h => h hO)), ec]
    simp only [bd1]
    rw [if_neg (by rw [hc.t hno]; decide)]
