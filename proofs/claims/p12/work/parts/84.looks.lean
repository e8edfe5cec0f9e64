/-! calls that look through -/
def XF (Snd : RelT) : RelT := fun (NW : Nat) (bk : Int32) (sz : Int32) (wd : Nat → Int64) (mb : Nat → Int32) (gB : Int32) (gI : Int32) (gN : Int32) (iN : Int32) (dr : Int32) (es : Int64) (of : Int64) (od : Int32) (pl : Int64) (hd : Int64) (tk : Nat → Int32) (kn : Nat → Int32) (li : Nat → Int32) (pa : Nat → Int32) (ins : Nat → Int32) (cm : Int32) (fd : Int32) (hr : Int32) (m_th : Int32) (m_nb : Int32) (m_dk : Nat → Int32) (m_lk : Int32) (m_fa : Int32) (m_pp : Int32) (m_gg : Int32) (m_jj : Int32) (m_qq : Int32) (m_mp : Nat → Int32) (m_fx : Nat → Int32) (m_tn : Nat → Int32) (m_mn : Int32) (m_oq : Nat → Int32) (m_pq : Nat → Int32) (m_fo : Nat → Int32) (m_ca : Nat → Int32) (m_hr : Int32) (m_fd : Int32) => fd = m_fa ∧ 0 ≤ fd ∧ (fd = 0 → Snd NW bk sz wd mb gB gI gN iN dr es of od pl hd tk kn li pa ins cm fd hr m_th m_nb m_dk m_lk m_fa m_pp m_gg m_jj m_qq m_mp m_fx m_tn m_mn m_oq m_pq m_fo m_ca m_hr m_fd)
/-- from a disk that is not looked through, both sides find the same first fault; if there is none, Snd holds -/
def Core (N : Nat) (Z : ZT) (Snd : RelT) : Prop := ∀ (NW : Nat) (bk : Int32) (sz : Int32) (wd : Nat → Int64) (mb : Nat → Int32) (gB : Int32) (gI : Int32) (gN : Int32) (iN : Int32) (dr : Int32) (es : Int64) (of : Int64) (od : Int32) (pl : Int64) (hd : Int64) (tk : Nat → Int32) (kn : Nat → Int32) (li : Nat → Int32) (pa : Nat → Int32) (ins : Nat → Int32) (cm : Int32) (fd : Int32) (hr : Int32) (m_th : Int32) (m_nb : Int32) (m_dk : Nat → Int32) (m_lk : Int32) (m_fa : Int32) (m_pp : Int32) (m_gg : Int32) (m_jj : Int32) (m_qq : Int32) (m_mp : Nat → Int32) (m_fx : Nat → Int32) (m_tn : Nat → Int32) (m_mn : Int32) (m_oq : Nat → Int32) (m_pq : Nat → Int32) (m_fo : Nat → Int32) (m_ca : Nat → Int32) (m_hr : Int32) (m_fd : Int32) (Bk : Nat), CtxD NW sz bk Bk → m_nb = bk → Same m_dk wd Bk → hr = m_hr → Z wd Bk → hr = 2 → ∃ (r : Int32) (mb' : Nat → Int32) (gB' : Int32) (gI' : Int32) (gN' : Int32) (iN' : Int32) (dr' : Int32) (es' : Int64) (of' : Int64) (od' : Int32) (pl' : Int64) (hd' : Int64) (tk' : Nat → Int32) (kn' : Nat → Int32) (li' : Nat → Int32) (pa' : Nat → Int32) (ins' : Nat → Int32) (cm' : Int32) (m_pp' : Int32) (m_gg' : Int32) (m_jj' : Int32) (m_qq' : Int32) (m_mp' : Nat → Int32) (m_fx' : Nat → Int32) (m_tn' : Nat → Int32) (m_mn' : Int32) (m_oq' : Nat → Int32) (m_pq' : Nat → Int32) (m_fo' : Nat → Int32) (m_ca' : Nat → Int32) (m_fd' : Int32), f_S_firstFault N NW bk sz wd mb gB gI gN iN dr es of od pl hd tk kn li pa ins cm (-1) = some (r, mb', gB', gI', gN', iN', dr', es', of', od', pl', hd', tk', kn', li', pa', ins', cm', r) ∧ f_M_firstFault N m_nb m_dk m_pp m_gg m_jj m_qq m_mp m_fx m_tn m_mn m_oq m_pq m_fo m_ca m_fd = some (r, m_pp', m_gg', m_jj', m_qq', m_mp', m_fx', m_tn', m_mn', m_oq', m_pq', m_fo', m_ca', m_fd') ∧ 0 ≤ r ∧ (r = 0 → Snd NW bk sz wd mb' gB' gI' gN' iN' dr' es' of' od' pl' hd' tk' kn' li' pa' ins' cm' r hr 0 m_nb m_dk 1 r m_pp' m_gg' m_jj' m_qq' m_mp' m_fx' m_tn' m_mn' m_oq' m_pq' m_fo' m_ca' m_hr m_fd')
theorem nn_ne {r : Int32} (h : 0 ≤ r) : ¬ r = -1 := by
  intro e; rw [e] at h; exact absurd h (by decide)
theorem look_ok {N : Nat} {Z : ZT} {Snd : RelT} (hK : Core N Z Snd) {NW : Nat} {bk : Int32} {sz : Int32} {wd : Nat → Int64} {mb : Nat → Int32} {gB : Int32} {gI : Int32} {gN : Int32} {iN : Int32} {dr : Int32} {es : Int64} {of : Int64} {od : Int32} {pl : Int64} {hd : Int64} {tk : Nat → Int32} {kn : Nat → Int32} {li : Nat → Int32} {pa : Nat → Int32} {ins : Nat → Int32} {cm : Int32} {fd : Int32} {hr : Int32} {m_th : Int32} {m_nb : Int32} {m_dk : Nat → Int32} {m_lk : Int32} {m_fa : Int32} {m_pp : Int32} {m_gg : Int32} {m_jj : Int32} {m_qq : Int32} {m_mp : Nat → Int32} {m_fx : Nat → Int32} {m_tn : Nat → Int32} {m_mn : Int32} {m_oq : Nat → Int32} {m_pq : Nat → Int32} {m_fo : Nat → Int32} {m_ca : Nat → Int32} {m_hr : Int32} {m_fd : Int32} (hR : RelW Z (XF Snd) NW bk sz wd mb gB gI gN iN dr es of od pl hd tk kn li pa ins cm fd hr m_th m_nb m_dk m_lk m_fa m_pp m_gg m_jj m_qq m_mp m_fx m_tn m_mn m_oq m_pq m_fo m_ca m_hr m_fd) :
    ∃ (r : Int32) (mb' : Nat → Int32) (gB' : Int32) (gI' : Int32) (gN' : Int32) (iN' : Int32) (dr' : Int32) (es' : Int64) (of' : Int64) (od' : Int32) (pl' : Int64) (hd' : Int64) (tk' : Nat → Int32) (kn' : Nat → Int32) (li' : Nat → Int32) (pa' : Nat → Int32) (ins' : Nat → Int32) (cm' : Int32) (m_pp' : Int32) (m_gg' : Int32) (m_jj' : Int32) (m_qq' : Int32) (m_mp' : Nat → Int32) (m_fx' : Nat → Int32) (m_tn' : Nat → Int32) (m_mn' : Int32) (m_oq' : Nat → Int32) (m_pq' : Nat → Int32) (m_fo' : Nat → Int32) (m_ca' : Nat → Int32) (m_fd' : Int32), f_S_firstFault N NW bk sz wd mb gB gI gN iN dr es of od pl hd tk kn li pa ins cm fd = some (r, mb', gB', gI', gN', iN', dr', es', of', od', pl', hd', tk', kn', li', pa', ins', cm', r) ∧ f_M_look N m_nb m_dk m_lk m_fa m_pp m_gg m_jj m_qq m_mp m_fx m_tn m_mn m_oq m_pq m_fo m_ca m_fd = some (1, r, m_pp', m_gg', m_jj', m_qq', m_mp', m_fx', m_tn', m_mn', m_oq', m_pq', m_fo', m_ca', m_fd') ∧ 0 ≤ r ∧ (r = 0 → Snd NW bk sz wd mb' gB' gI' gN' iN' dr' es' of' od' pl' hd' tk' kn' li' pa' ins' cm' r hr 0 m_nb m_dk 1 r m_pp' m_gg' m_jj' m_qq' m_mp' m_fx' m_tn' m_mn' m_oq' m_pq' m_fo' m_ca' m_hr m_fd') ∧ ∀ th, RelW Z (XF Snd) NW bk sz wd mb' gB' gI' gN' iN' dr' es' of' od' pl' hd' tk' kn' li' pa' ins' cm' r hr th m_nb m_dk 1 r m_pp' m_gg' m_jj' m_qq' m_mp' m_fx' m_tn' m_mn' m_oq' m_pq' m_fo' m_ca' m_hr m_fd' := by
  obtain ⟨Bk, hC, hb, hs, hh, hz, hx⟩ := hR
  rcases hx with ⟨hlk, hfd, hhr⟩ | ⟨hlk, hfa, hnn, hsn⟩
  · subst hfd
    obtain ⟨r, mb', gB', gI', gN', iN', dr', es', of', od', pl', hd', tk', kn', li', pa', ins', cm', m_pp', m_gg', m_jj', m_qq', m_mp', m_fx', m_tn', m_mn', m_oq', m_pq', m_fo', m_ca', m_fd', e1, e2, h0, hS⟩ := hK NW bk sz wd mb gB gI gN iN dr es of od pl hd tk kn li pa ins cm 0 hr m_th m_nb m_dk m_lk m_fa m_pp m_gg m_jj m_qq m_mp m_fx m_tn m_mn m_oq m_pq m_fo m_ca m_hr m_fd Bk hC hb hs hh hz hhr
    refine ⟨r, mb', gB', gI', gN', iN', dr', es', of', od', pl', hd', tk', kn', li', pa', ins', cm', m_pp', m_gg', m_jj', m_qq', m_mp', m_fx', m_tn', m_mn', m_oq', m_pq', m_fo', m_ca', m_fd', e1, ?_, h0, hS, fun th => ⟨Bk, hC, hb, hs, hh, hz, Or.inr ⟨rfl, rfl, h0, hS⟩⟩⟩
    rw [f_M_look, if_pos hlk, e2]
    rfl
  · have hne := nn_ne hnn
    refine ⟨fd, mb, gB, gI, gN, iN, dr, es, of, od, pl, hd, tk, kn, li, pa, ins, cm, m_pp, m_gg, m_jj, m_qq, m_mp, m_fx, m_tn, m_mn, m_oq, m_pq, m_fo, m_ca, m_fd, by rw [f_S_firstFault, if_neg hne], by rw [f_M_look, if_neg (by rw [hlk]; decide), hfa], hnn, fun h => ?_, fun th => ⟨Bk, hC, hb, hs, hh, hz, Or.inr ⟨rfl, rfl, hnn, fun h => ?_⟩⟩⟩
    · subst hlk; rw [← hfa] at hsn; exact hsn h
    · subst hlk; rw [← hfa] at hsn; exact hsn h

theorem none_bad {N : Nat} {r : Int32} {m_th : Int32} {m_nb : Int32} {m_dk : Nat → Int32} {m_lk : Int32} {m_fa : Int32} {m_pp : Int32} {m_gg : Int32} {m_jj : Int32} {m_qq : Int32} {m_mp : Nat → Int32} {m_fx : Nat → Int32} {m_tn : Nat → Int32} {m_mn : Int32} {m_oq : Nat → Int32} {m_pq : Nat → Int32} {m_fo : Nat → Int32} {m_ca : Nat → Int32} {m_fd : Int32} {m_pp' : Int32} {m_gg' : Int32} {m_jj' : Int32} {m_qq' : Int32} {m_mp' : Nat → Int32} {m_fx' : Nat → Int32} {m_tn' : Nat → Int32} {m_mn' : Int32} {m_oq' : Nat → Int32} {m_pq' : Nat → Int32} {m_fo' : Nat → Int32} {m_ca' : Nat → Int32} {m_fd' : Int32} (e : f_M_look N m_nb m_dk m_lk m_fa m_pp m_gg m_jj m_qq m_mp m_fx m_tn m_mn m_oq m_pq m_fo m_ca m_fd = some (1, r, m_pp', m_gg', m_jj', m_qq', m_mp', m_fx', m_tn', m_mn', m_oq', m_pq', m_fo', m_ca', m_fd')) (h0 : 0 ≤ r) (hr : ¬ r = 0) : f_M_none N m_th m_nb m_dk m_lk m_fa m_pp m_gg m_jj m_qq m_mp m_fx m_tn m_mn m_oq m_pq m_fo m_ca m_fd = some (1, 1, 1, r, m_pp', m_gg', m_jj', m_qq', m_mp', m_fx', m_tn', m_mn', m_oq', m_pq', m_fo', m_ca', m_fd') := by
  have hle : ¬ r ≤ 0 := by
    intro h
    rw [le32] at h h0
    exact hr (eq32.mpr (by omega))
  rw [f_M_none, e]
  simp only [bd15]
  rw [if_neg hle]
  rfl
theorem sim_fault {N : Nat} {Z : ZT} {Snd : RelT} (hK : Core N Z Snd) : Sim_fault N (RelW Z (XF Snd)) (RelW Z (XF Snd)) := by
  intro NW bk sz wd mb gB gI gN iN dr es of od pl hd tk kn li pa ins cm fd hr m_th m_nb m_dk m_lk m_fa m_pp m_gg m_jj m_qq m_mp m_fx m_tn m_mn m_oq m_pq m_fo m_ca m_hr m_fd hR
  obtain ⟨r, mb', gB', gI', gN', iN', dr', es', of', od', pl', hd', tk', kn', li', pa', ins', cm', m_pp', m_gg', m_jj', m_qq', m_mp', m_fx', m_tn', m_mn', m_oq', m_pq', m_fo', m_ca', m_fd', e1, e2, h0, hS, hR'⟩ := look_ok hK hR
  refine ⟨r, mb', gB', gI', gN', iN', dr', es', of', od', pl', hd', tk', kn', li', pa', ins', cm', r, 0, 1, r, m_pp', m_gg', m_jj', m_qq', m_mp', m_fx', m_tn', m_mn', m_oq', m_pq', m_fo', m_ca', m_fd', ?_, ?_, hR' 0⟩
  · rw [f_V_fault, e1]; rfl
  · rw [f_M_fault, e2]; rfl

theorem sim_items {N : Nat} {Z : ZT} {Snd : RelT} (hK : Core N Z Snd) (hO : Sim_items N Snd (RelW Z (XF Snd))) : Sim_items N (RelW Z (XF Snd)) (RelW Z (XF Snd)) := by
  intro NW bk sz wd mb gB gI gN iN dr es of od pl hd tk kn li pa ins cm fd hr m_th m_nb m_dk m_lk m_fa m_pp m_gg m_jj m_qq m_mp m_fx m_tn m_mn m_oq m_pq m_fo m_ca m_hr m_fd  hR
  obtain ⟨r, mb', gB', gI', gN', iN', dr', es', of', od', pl', hd', tk', kn', li', pa', ins', cm', m_pp', m_gg', m_jj', m_qq', m_mp', m_fx', m_tn', m_mn', m_oq', m_pq', m_fo', m_ca', m_fd', e1, e2, h0, hS, hR'⟩ := look_ok hK hR
  by_cases c : r = 0
  · subst c
    have g1 : f_S_firstFault N NW bk sz wd mb' gB' gI' gN' iN' dr' es' of' od' pl' hd' tk' kn' li' pa' ins' cm' 0 = some (0, mb', gB', gI', gN', iN', dr', es', of', od', pl', hd', tk', kn', li', pa', ins', cm', 0) := by rw [f_S_firstFault, if_neg (by decide)]
    have g2 : f_M_look N m_nb m_dk 1 0 m_pp' m_gg' m_jj' m_qq' m_mp' m_fx' m_tn' m_mn' m_oq' m_pq' m_fo' m_ca' m_fd' = some (1, 0, m_pp', m_gg', m_jj', m_qq', m_mp', m_fx', m_tn', m_mn', m_oq', m_pq', m_fo', m_ca', m_fd') := by rw [f_M_look, if_neg (by decide)]
    have eV : f_V_items N NW bk sz wd mb gB gI gN iN dr es of od pl hd tk kn li pa ins cm fd hr  = f_V_items N NW bk sz wd mb' gB' gI' gN' iN' dr' es' of' od' pl' hd' tk' kn' li' pa' ins' cm' 0 hr  := by
      unfold f_V_items; rw [e1, g1]
    have eM : f_M_items N m_th m_nb m_dk m_lk m_fa m_pp m_gg m_jj m_qq m_mp m_fx m_tn m_mn m_oq m_pq m_fo m_ca m_hr m_fd  = f_M_items N 0 m_nb m_dk 1 0 m_pp' m_gg' m_jj' m_qq' m_mp' m_fx' m_tn' m_mn' m_oq' m_pq' m_fo' m_ca' m_hr m_fd'  := by
      unfold f_M_items f_M_none; rw [e2, g2]
    rw [eV, eM]
    exact hO NW bk sz wd mb' gB' gI' gN' iN' dr' es' of' od' pl' hd' tk' kn' li' pa' ins' cm' 0 hr 0 m_nb m_dk 1 0 m_pp' m_gg' m_jj' m_qq' m_mp' m_fx' m_tn' m_mn' m_oq' m_pq' m_fo' m_ca' m_hr m_fd'  (hS rfl)
  · have eN := none_bad (m_th := m_th) e2 h0 c
    refine ⟨1, 0, mb', gB', gI', gN', iN', dr', es', of', od', pl', hd', tk', kn', li', pa', ins', cm', r, 0, 1, 1, r, m_pp', m_gg', m_jj', m_qq', m_mp', m_fx', m_tn', m_mn', m_oq', m_pq', m_fo', m_ca', m_fd', ?_, ?_, Or.inr rfl, rfl, fun h => absurd h (by decide), hR' 1⟩
    · unfold f_V_items; rw [e1]; simp only [bd19]; rw [if_neg c]
    · unfold f_M_items; rw [eN]; rfl

theorem sim_letter {N : Nat} {Z : ZT} {Snd : RelT} (hK : Core N Z Snd) (hO : Sim_letter N Snd (RelW Z (XF Snd))) : Sim_letter N (RelW Z (XF Snd)) (RelW Z (XF Snd)) := by
  intro NW bk sz wd mb gB gI gN iN dr es of od pl hd tk kn li pa ins cm fd hr m_th m_nb m_dk m_lk m_fa m_pp m_gg m_jj m_qq m_mp m_fx m_tn m_mn m_oq m_pq m_fo m_ca m_hr m_fd a1 a2 hR
  obtain ⟨r, mb', gB', gI', gN', iN', dr', es', of', od', pl', hd', tk', kn', li', pa', ins', cm', m_pp', m_gg', m_jj', m_qq', m_mp', m_fx', m_tn', m_mn', m_oq', m_pq', m_fo', m_ca', m_fd', e1, e2, h0, hS, hR'⟩ := look_ok hK hR
  by_cases c : r = 0
  · subst c
    have g1 : f_S_firstFault N NW bk sz wd mb' gB' gI' gN' iN' dr' es' of' od' pl' hd' tk' kn' li' pa' ins' cm' 0 = some (0, mb', gB', gI', gN', iN', dr', es', of', od', pl', hd', tk', kn', li', pa', ins', cm', 0) := by rw [f_S_firstFault, if_neg (by decide)]
    have g2 : f_M_look N m_nb m_dk 1 0 m_pp' m_gg' m_jj' m_qq' m_mp' m_fx' m_tn' m_mn' m_oq' m_pq' m_fo' m_ca' m_fd' = some (1, 0, m_pp', m_gg', m_jj', m_qq', m_mp', m_fx', m_tn', m_mn', m_oq', m_pq', m_fo', m_ca', m_fd') := by rw [f_M_look, if_neg (by decide)]
    have eV : f_V_letter N NW bk sz wd mb gB gI gN iN dr es of od pl hd tk kn li pa ins cm fd hr a1 a2 = f_V_letter N NW bk sz wd mb' gB' gI' gN' iN' dr' es' of' od' pl' hd' tk' kn' li' pa' ins' cm' 0 hr a1 a2 := by
      unfold f_V_letter; rw [e1, g1]
    have eM : f_M_letter N m_th m_nb m_dk m_lk m_fa m_pp m_gg m_jj m_qq m_mp m_fx m_tn m_mn m_oq m_pq m_fo m_ca m_hr m_fd a1 a2 = f_M_letter N 0 m_nb m_dk 1 0 m_pp' m_gg' m_jj' m_qq' m_mp' m_fx' m_tn' m_mn' m_oq' m_pq' m_fo' m_ca' m_hr m_fd' a1 a2 := by
      unfold f_M_letter f_M_no f_M_none; rw [e2, g2]
    rw [eV, eM]
    exact hO NW bk sz wd mb' gB' gI' gN' iN' dr' es' of' od' pl' hd' tk' kn' li' pa' ins' cm' 0 hr 0 m_nb m_dk 1 0 m_pp' m_gg' m_jj' m_qq' m_mp' m_fx' m_tn' m_mn' m_oq' m_pq' m_fo' m_ca' m_hr m_fd' a1 a2 (hS rfl)
  · have eN := none_bad (m_th := m_th) e2 h0 c
    refine ⟨1, 0, mb', gB', gI', gN', iN', dr', es', of', od', pl', hd', tk', kn', li', pa', ins', cm', r, 0, 1, 1, r, m_pp', m_gg', m_jj', m_qq', m_mp', m_fx', m_tn', m_mn', m_oq', m_pq', m_fo', m_ca', m_fd', ?_, ?_, Or.inr (Or.inl rfl), fun _ => ⟨rfl, fun h => absurd h (by decide)⟩, hR' 1⟩
    · unfold f_V_letter; rw [e1]; simp only [bd19]; rw [if_neg c]
    · unfold f_M_letter f_M_no; rw [eN]; rfl

theorem sim_about {N : Nat} {Z : ZT} {Snd : RelT} (hK : Core N Z Snd) (hO : Sim_about N Snd (RelW Z (XF Snd))) : Sim_about N (RelW Z (XF Snd)) (RelW Z (XF Snd)) := by
  intro NW bk sz wd mb gB gI gN iN dr es of od pl hd tk kn li pa ins cm fd hr m_th m_nb m_dk m_lk m_fa m_pp m_gg m_jj m_qq m_mp m_fx m_tn m_mn m_oq m_pq m_fo m_ca m_hr m_fd a1 a2 hR
  obtain ⟨r, mb', gB', gI', gN', iN', dr', es', of', od', pl', hd', tk', kn', li', pa', ins', cm', m_pp', m_gg', m_jj', m_qq', m_mp', m_fx', m_tn', m_mn', m_oq', m_pq', m_fo', m_ca', m_fd', e1, e2, h0, hS, hR'⟩ := look_ok hK hR
  by_cases c : r = 0
  · subst c
    have g1 : f_S_firstFault N NW bk sz wd mb' gB' gI' gN' iN' dr' es' of' od' pl' hd' tk' kn' li' pa' ins' cm' 0 = some (0, mb', gB', gI', gN', iN', dr', es', of', od', pl', hd', tk', kn', li', pa', ins', cm', 0) := by rw [f_S_firstFault, if_neg (by decide)]
    have g2 : f_M_look N m_nb m_dk 1 0 m_pp' m_gg' m_jj' m_qq' m_mp' m_fx' m_tn' m_mn' m_oq' m_pq' m_fo' m_ca' m_fd' = some (1, 0, m_pp', m_gg', m_jj', m_qq', m_mp', m_fx', m_tn', m_mn', m_oq', m_pq', m_fo', m_ca', m_fd') := by rw [f_M_look, if_neg (by decide)]
    have eV : f_V_about N NW bk sz wd mb gB gI gN iN dr es of od pl hd tk kn li pa ins cm fd hr a1 a2 = f_V_about N NW bk sz wd mb' gB' gI' gN' iN' dr' es' of' od' pl' hd' tk' kn' li' pa' ins' cm' 0 hr a1 a2 := by
      unfold f_V_about; rw [e1, g1]
    have eM : f_M_about N m_th m_nb m_dk m_lk m_fa m_pp m_gg m_jj m_qq m_mp m_fx m_tn m_mn m_oq m_pq m_fo m_ca m_hr m_fd a1 a2 = f_M_about N 0 m_nb m_dk 1 0 m_pp' m_gg' m_jj' m_qq' m_mp' m_fx' m_tn' m_mn' m_oq' m_pq' m_fo' m_ca' m_hr m_fd' a1 a2 := by
      unfold f_M_about f_M_no f_M_none; rw [e2, g2]
    rw [eV, eM]
    exact hO NW bk sz wd mb' gB' gI' gN' iN' dr' es' of' od' pl' hd' tk' kn' li' pa' ins' cm' 0 hr 0 m_nb m_dk 1 0 m_pp' m_gg' m_jj' m_qq' m_mp' m_fx' m_tn' m_mn' m_oq' m_pq' m_fo' m_ca' m_hr m_fd' a1 a2 (hS rfl)
  · have eN := none_bad (m_th := m_th) e2 h0 c
    refine ⟨1, 0, mb', gB', gI', gN', iN', dr', es', of', od', pl', hd', tk', kn', li', pa', ins', cm', r, 0, 1, 1, r, m_pp', m_gg', m_jj', m_qq', m_mp', m_fx', m_tn', m_mn', m_oq', m_pq', m_fo', m_ca', m_fd', ?_, ?_, Or.inr (Or.inl rfl), rfl, fun h => absurd h (by decide), hR' 1⟩
    · unfold f_V_about; rw [e1]; simp only [bd19]; rw [if_neg c]
    · unfold f_M_about f_M_no; rw [eN]; rfl

theorem sim_content {N : Nat} {Z : ZT} {Snd : RelT} (hK : Core N Z Snd) (hO : Sim_content N Snd (RelW Z (XF Snd))) : Sim_content N (RelW Z (XF Snd)) (RelW Z (XF Snd)) := by
  intro NW bk sz wd mb gB gI gN iN dr es of od pl hd tk kn li pa ins cm fd hr m_th m_nb m_dk m_lk m_fa m_pp m_gg m_jj m_qq m_mp m_fx m_tn m_mn m_oq m_pq m_fo m_ca m_hr m_fd a1 a2 hR
  obtain ⟨r, mb', gB', gI', gN', iN', dr', es', of', od', pl', hd', tk', kn', li', pa', ins', cm', m_pp', m_gg', m_jj', m_qq', m_mp', m_fx', m_tn', m_mn', m_oq', m_pq', m_fo', m_ca', m_fd', e1, e2, h0, hS, hR'⟩ := look_ok hK hR
  by_cases c : r = 0
  · subst c
    have g1 : f_S_firstFault N NW bk sz wd mb' gB' gI' gN' iN' dr' es' of' od' pl' hd' tk' kn' li' pa' ins' cm' 0 = some (0, mb', gB', gI', gN', iN', dr', es', of', od', pl', hd', tk', kn', li', pa', ins', cm', 0) := by rw [f_S_firstFault, if_neg (by decide)]
    have g2 : f_M_look N m_nb m_dk 1 0 m_pp' m_gg' m_jj' m_qq' m_mp' m_fx' m_tn' m_mn' m_oq' m_pq' m_fo' m_ca' m_fd' = some (1, 0, m_pp', m_gg', m_jj', m_qq', m_mp', m_fx', m_tn', m_mn', m_oq', m_pq', m_fo', m_ca', m_fd') := by rw [f_M_look, if_neg (by decide)]
    have eV : f_V_content N NW bk sz wd mb gB gI gN iN dr es of od pl hd tk kn li pa ins cm fd hr a1 a2 = f_V_content N NW bk sz wd mb' gB' gI' gN' iN' dr' es' of' od' pl' hd' tk' kn' li' pa' ins' cm' 0 hr a1 a2 := by
      unfold f_V_content; rw [e1, g1]
    have eM : f_M_content N m_th m_nb m_dk m_lk m_fa m_pp m_gg m_jj m_qq m_mp m_fx m_tn m_mn m_oq m_pq m_fo m_ca m_hr m_fd a1 a2 = f_M_content N 0 m_nb m_dk 1 0 m_pp' m_gg' m_jj' m_qq' m_mp' m_fx' m_tn' m_mn' m_oq' m_pq' m_fo' m_ca' m_hr m_fd' a1 a2 := by
      unfold f_M_content f_M_no f_M_none; rw [e2, g2]
    rw [eV, eM]
    exact hO NW bk sz wd mb' gB' gI' gN' iN' dr' es' of' od' pl' hd' tk' kn' li' pa' ins' cm' 0 hr 0 m_nb m_dk 1 0 m_pp' m_gg' m_jj' m_qq' m_mp' m_fx' m_tn' m_mn' m_oq' m_pq' m_fo' m_ca' m_hr m_fd' a1 a2 (hS rfl)
  · have eN := none_bad (m_th := m_th) e2 h0 c
    refine ⟨1, 0, mb', gB', gI', gN', iN', dr', es', of', od', pl', hd', tk', kn', li', pa', ins', cm', r, 0, 1, 1, r, m_pp', m_gg', m_jj', m_qq', m_mp', m_fx', m_tn', m_mn', m_oq', m_pq', m_fo', m_ca', m_fd', ?_, ?_, Or.inr (Or.inl rfl), rfl, fun h => absurd h (by decide), hR' 1⟩
    · unfold f_V_content; rw [e1]; simp only [bd19]; rw [if_neg c]
    · unfold f_M_content f_M_no; rw [eN]; rfl

theorem sim_enter {N : Nat} {Z : ZT} {Snd : RelT} (hK : Core N Z Snd) (hO : Sim_enter N Snd (RelW Z (XF Snd))) : Sim_enter N (RelW Z (XF Snd)) (RelW Z (XF Snd)) := by
  intro NW bk sz wd mb gB gI gN iN dr es of od pl hd tk kn li pa ins cm fd hr m_th m_nb m_dk m_lk m_fa m_pp m_gg m_jj m_qq m_mp m_fx m_tn m_mn m_oq m_pq m_fo m_ca m_hr m_fd a1 hR
  obtain ⟨r, mb', gB', gI', gN', iN', dr', es', of', od', pl', hd', tk', kn', li', pa', ins', cm', m_pp', m_gg', m_jj', m_qq', m_mp', m_fx', m_tn', m_mn', m_oq', m_pq', m_fo', m_ca', m_fd', e1, e2, h0, hS, hR'⟩ := look_ok hK hR
  by_cases c : r = 0
  · subst c
    have g1 : f_S_firstFault N NW bk sz wd mb' gB' gI' gN' iN' dr' es' of' od' pl' hd' tk' kn' li' pa' ins' cm' 0 = some (0, mb', gB', gI', gN', iN', dr', es', of', od', pl', hd', tk', kn', li', pa', ins', cm', 0) := by rw [f_S_firstFault, if_neg (by decide)]
    have g2 : f_M_look N m_nb m_dk 1 0 m_pp' m_gg' m_jj' m_qq' m_mp' m_fx' m_tn' m_mn' m_oq' m_pq' m_fo' m_ca' m_fd' = some (1, 0, m_pp', m_gg', m_jj', m_qq', m_mp', m_fx', m_tn', m_mn', m_oq', m_pq', m_fo', m_ca', m_fd') := by rw [f_M_look, if_neg (by decide)]
    have eV : f_V_enter N NW bk sz wd mb gB gI gN iN dr es of od pl hd tk kn li pa ins cm fd hr a1 = f_V_enter N NW bk sz wd mb' gB' gI' gN' iN' dr' es' of' od' pl' hd' tk' kn' li' pa' ins' cm' 0 hr a1 := by
      unfold f_V_enter; rw [e1, g1]
    have eM : f_M_enter N m_th m_nb m_dk m_lk m_fa m_pp m_gg m_jj m_qq m_mp m_fx m_tn m_mn m_oq m_pq m_fo m_ca m_hr m_fd a1 = f_M_enter N 0 m_nb m_dk 1 0 m_pp' m_gg' m_jj' m_qq' m_mp' m_fx' m_tn' m_mn' m_oq' m_pq' m_fo' m_ca' m_hr m_fd' a1 := by
      unfold f_M_enter f_M_no f_M_none; rw [e2, g2]
    rw [eV, eM]
    exact hO NW bk sz wd mb' gB' gI' gN' iN' dr' es' of' od' pl' hd' tk' kn' li' pa' ins' cm' 0 hr 0 m_nb m_dk 1 0 m_pp' m_gg' m_jj' m_qq' m_mp' m_fx' m_tn' m_mn' m_oq' m_pq' m_fo' m_ca' m_hr m_fd' a1 (hS rfl)
  · have eN := none_bad (m_th := m_th) e2 h0 c
    refine ⟨1, 0, mb', gB', gI', gN', iN', dr', es', of', od', pl', hd', tk', kn', li', pa', ins', cm', r, hr, 0, 1, 1, r, m_pp', m_gg', m_jj', m_qq', m_mp', m_fx', m_tn', m_mn', m_oq', m_pq', m_fo', m_ca', m_hr, m_fd', ?_, ?_, Or.inr (Or.inl rfl), rfl, fun h => absurd h (by decide), hR' 1⟩
    · unfold f_V_enter; rw [e1]; simp only [bd19]; rw [if_neg c]
    · unfold f_M_enter f_M_no; rw [eN]; rfl

theorem sim_up {N : Nat} {Z : ZT} {Snd : RelT} (hK : Core N Z Snd) (hO : Sim_up N Snd (RelW Z (XF Snd))) : Sim_up N (RelW Z (XF Snd)) (RelW Z (XF Snd)) := by
  intro NW bk sz wd mb gB gI gN iN dr es of od pl hd tk kn li pa ins cm fd hr m_th m_nb m_dk m_lk m_fa m_pp m_gg m_jj m_qq m_mp m_fx m_tn m_mn m_oq m_pq m_fo m_ca m_hr m_fd  hR
  obtain ⟨r, mb', gB', gI', gN', iN', dr', es', of', od', pl', hd', tk', kn', li', pa', ins', cm', m_pp', m_gg', m_jj', m_qq', m_mp', m_fx', m_tn', m_mn', m_oq', m_pq', m_fo', m_ca', m_fd', e1, e2, h0, hS, hR'⟩ := look_ok hK hR
  by_cases c : r = 0
  · subst c
    have g1 : f_S_firstFault N NW bk sz wd mb' gB' gI' gN' iN' dr' es' of' od' pl' hd' tk' kn' li' pa' ins' cm' 0 = some (0, mb', gB', gI', gN', iN', dr', es', of', od', pl', hd', tk', kn', li', pa', ins', cm', 0) := by rw [f_S_firstFault, if_neg (by decide)]
    have g2 : f_M_look N m_nb m_dk 1 0 m_pp' m_gg' m_jj' m_qq' m_mp' m_fx' m_tn' m_mn' m_oq' m_pq' m_fo' m_ca' m_fd' = some (1, 0, m_pp', m_gg', m_jj', m_qq', m_mp', m_fx', m_tn', m_mn', m_oq', m_pq', m_fo', m_ca', m_fd') := by rw [f_M_look, if_neg (by decide)]
    have eV : f_V_up N NW bk sz wd mb gB gI gN iN dr es of od pl hd tk kn li pa ins cm fd hr  = f_V_up N NW bk sz wd mb' gB' gI' gN' iN' dr' es' of' od' pl' hd' tk' kn' li' pa' ins' cm' 0 hr  := by
      unfold f_V_up; rw [e1, g1]
    have eM : f_M_up N m_th m_nb m_dk m_lk m_fa m_pp m_gg m_jj m_qq m_mp m_fx m_tn m_mn m_oq m_pq m_fo m_ca m_hr m_fd  = f_M_up N 0 m_nb m_dk 1 0 m_pp' m_gg' m_jj' m_qq' m_mp' m_fx' m_tn' m_mn' m_oq' m_pq' m_fo' m_ca' m_hr m_fd'  := by
      unfold f_M_up f_M_none; rw [e2, g2]
    rw [eV, eM]
    exact hO NW bk sz wd mb' gB' gI' gN' iN' dr' es' of' od' pl' hd' tk' kn' li' pa' ins' cm' 0 hr 0 m_nb m_dk 1 0 m_pp' m_gg' m_jj' m_qq' m_mp' m_fx' m_tn' m_mn' m_oq' m_pq' m_fo' m_ca' m_hr m_fd'  (hS rfl)
  · have eN := none_bad (m_th := m_th) e2 h0 c
    refine ⟨1, 0, mb', gB', gI', gN', iN', dr', es', of', od', pl', hd', tk', kn', li', pa', ins', cm', r, hr, 0, 1, 1, r, m_pp', m_gg', m_jj', m_qq', m_mp', m_fx', m_tn', m_mn', m_oq', m_pq', m_fo', m_ca', m_hr, m_fd', ?_, ?_, Or.inr rfl, rfl, fun h => absurd h (by decide), hR' 1⟩
    · unfold f_V_up; rw [e1]; simp only [bd19]; rw [if_neg c]
    · unfold f_M_up; rw [eN]; rfl
