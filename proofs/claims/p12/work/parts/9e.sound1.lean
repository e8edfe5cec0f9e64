/-! the calls on a sound volume -/
section SC
theorem none_ok {N : Nat} {m_th m_nb : Int32} {m_dk : Nat → Int32} {m_pp : Int32} {m_gg : Int32} {m_jj : Int32} {m_qq : Int32} {m_mp : Nat → Int32} {m_fx : Nat → Int32} {m_tn : Nat → Int32} {m_mn : Int32} {m_oq : Nat → Int32} {m_pq : Nat → Int32} {m_fo : Nat → Int32} {m_ca : Nat → Int32} {m_fd : Int32} : f_M_none N m_th m_nb m_dk 1 0 m_pp m_gg m_jj m_qq m_mp m_fx m_tn m_mn m_oq m_pq m_fo m_ca m_fd = some (0, 0, 1, 0, m_pp, m_gg, m_jj, m_qq, m_mp, m_fx, m_tn, m_mn, m_oq, m_pq, m_fo, m_ca, m_fd) := by
  rw [f_M_none, f_M_look, if_neg (by decide)]
  simp only [bd15]
  rw [if_pos (by decide)]
  rfl
theorem no_eq {N NW Bk : Nat} (hN : 524289 ≤ N) {sz bk : Int32} {wd : Nat → Int64} {m_th m_nb hr a1 : Int32} {m_dk : Nat → Int32} {m_pp : Int32} {m_gg : Int32} {m_jj : Int32} {m_qq : Int32} {m_mp : Nat → Int32} {m_fx : Nat → Int32} {m_tn : Nat → Int32} {m_mn : Int32} {m_oq : Nat → Int32} {m_pq : Nat → Int32} {m_fo : Nat → Int32} {m_ca : Nat → Int32} {m_fd : Int32} {G Q h par n : Nat} {M : Nat → Nat} (hC : CtxD NW sz bk Bk) (hs : Same m_dk wd Bk) (hM : CtxM m_mp m_gg G M Q Bk) (hh : hr.toInt = (h : Int)) (hir : InR G Q h) (hW : WholeF wd Bk G M h) (h1024 : szN wd Bk G M h % 1024 = 0) (hch : Chain wd Bk G M Q h par (szN wd Bk G M h) n 0 0) (hn : 2 ≤ n) :
    (∀ o, ItemAt (itemsN wd Bk G M h n 0 0) a1 o → ∃ rf : Int32, f_M_no N m_th m_nb m_dk 1 0 m_pp m_gg m_jj m_qq m_mp m_fx m_tn m_mn m_oq m_pq m_fo m_ca hr m_fd a1 = some (0, 0, 1, 0, m_pp, m_gg, m_jj, m_qq, m_mp, m_fx, m_tn, m_mn, m_oq, m_pq, m_fo, m_ca, rf) ∧ rf.toInt = ((plc wd Bk G M h o : Nat) : Int)) ∧ ((∀ o, ¬ ItemAt (itemsN wd Bk G M h n 0 0) a1 o) → ∃ fd' : Int32, f_M_no N m_th m_nb m_dk 1 0 m_pp m_gg m_jj m_qq m_mp m_fx m_tn m_mn m_oq m_pq m_fo m_ca hr m_fd a1 = some (1, 2, 1, 0, m_pp, m_gg, m_jj, m_qq, m_mp, m_fx, m_tn, m_mn, m_oq, m_pq, m_fo, m_ca, fd')) := by
  have z0 : (0 : Int32).toInt = 0 := by decide
  unfold f_M_no
  rw [none_ok]
  simp only [bd17]
  first | rw [if_pos rfl] | rw [if_pos trivial]
  by_cases c : a1 < 0
  · rw [if_pos c]
    rw [lt32, z0] at c
    exact ⟨fun o ho => by have := ho.1; omega, fun _ => ⟨m_fd, rfl⟩⟩
  · rw [if_neg c]
    rw [lt32, z0] at c
    have hf := finds_eq (N := N) hC hs hM (by omega) (x2 := a1) (t := a1.toInt.toNat) hh hir hW h1024 (by omega) hch hn m_fd
    refine ⟨fun o ho => ?_, fun hno => ?_⟩
    · obtain ⟨r, e, hr'⟩ := hf.1 o ho.2
      rw [e]
      simp only [bd2]
      rw [if_neg (show ¬ (1 : Int32) = 0 by decide)]
      exact ⟨r, rfl, hr'⟩
    · have hg : (itemsN wd Bk G M h n 0 0)[a1.toInt.toNat]? = none := by
        cases hg : (itemsN wd Bk G M h n 0 0)[a1.toInt.toNat]? with
        | none => rfl
        | some o => exact absurd ⟨by omega, hg⟩ (hno o)
      rw [hf.2 hg]
      simp only [bd2]
      first | rw [if_pos rfl] | rw [if_pos trivial]
      exact ⟨m_fd, rfl⟩

theorem snd_items {N : Nat} (hN : 524289 ≤ N) : Sim_items N Snd (RelW Z1 (XF Snd)) := by
  intro NW bk sz wd mb gB gI gN iN dr es of od pl hd tk kn li pa ins cm fd hr m_th m_nb m_dk m_lk m_fa m_pp m_gg m_jj m_qq m_mp m_fx m_tn m_mn m_oq m_pq m_fo m_ca m_hr m_fd  hS
  obtain ⟨f1, f2, f3, f4, Bk, G, Q, c, h, j, M, hC, hb, hs, hL, hM, hR, hD, hh, hj, hlj, hty⟩ := id hS
  subst f1
  subst f2
  subst f3
  subst f4
  have hB2 := hC.2.2.2.2
  have hQG : Q * G < 4096 := hM.2.2.2.2.2.1
  have hK : ∀ (dr1 : Int32) ( es1 : Int64) ( of1 : Int64) ( od1 : Int32) ( pl1 : Int64) ( hd1 : Int64) (fdm th : Int32), RelW Z1 (XF Snd) NW bk sz wd mb gB gI gN iN dr1 es1 of1 od1 pl1 hd1 tk kn li pa ins cm 0 hr th m_nb m_dk 1 0 m_pp m_gg m_jj m_qq m_mp m_fx m_tn m_mn m_oq m_pq m_fo m_ca hr fdm := fun _ _ _ _ _ _ _ _ => ⟨Bk, hC, hb, hs, rfl, trivial, Or.inr ⟨rfl, rfl, by decide, fun _ => hS⟩⟩
  obtain ⟨hir, hW, h1024, n, par, hpar, hch, hn, hkn⟩ := here_facts hR hD hh hj hlj hty
  have eS : f_S_firstFault N NW bk sz wd mb gB gI gN iN dr es of od pl hd tk kn li pa ins cm 0 = some (0, mb, gB, gI, gN, iN, dr, es, of, od, pl, hd, tk, kn, li, pa, ins, cm, 0) := by rw [f_S_firstFault, if_neg (by decide)]
  unfold f_V_items f_M_items
  rw [eS, none_ok]
  simp only [bd19, bd17]
  first | rw [if_pos rfl, if_pos rfl] | rw [if_pos trivial, if_pos trivial]
  obtain ⟨r, dr', es', of', od', pl', hd', e1, h1⟩ := countItems_eq (N := N) (dr := dr) (es := es) (of := of) (od := od) (pl := pl) (hd := hd) hC hL hN hh hir hW hch
  obtain ⟨rm, fd', e2, h2⟩ := mcount_eq (N := N) hC hs hM hN hh hir hW h1024 hch hn m_fd
  rw [e1, e2]
  simp only [bd7, bd2]
  have : r = rm := by rw [eq32, h1, h2]
  subst this
  exact ⟨0, r, mb, gB, gI, gN, iN, dr', es', of', od', pl', hd', tk, kn, li, pa, ins, cm, 0, r, 0, 1, 0, m_pp, m_gg, m_jj, m_qq, m_mp, m_fx, m_tn, m_mn, m_oq, m_pq, m_fo, m_ca, fd', rfl, rfl, Or.inl rfl, rfl, fun _ => rfl, hK _ _ _ _ _ _ _ _⟩

/-- letter, but for its answers before the first byte -/
def SimW_letter (N : Nat) (Rel Rel' : RelT) : Prop := ∀ (NW : Nat) (bk : Int32) (sz : Int32) (wd : Nat → Int64) (mb : Nat → Int32) (gB : Int32) (gI : Int32) (gN : Int32) (iN : Int32) (dr : Int32) (es : Int64) (of : Int64) (od : Int32) (pl : Int64) (hd : Int64) (tk : Nat → Int32) (kn : Nat → Int32) (li : Nat → Int32) (pa : Nat → Int32) (ins : Nat → Int32) (cm : Int32) (fd : Int32) (hr : Int32) (m_th : Int32) (m_nb : Int32) (m_dk : Nat → Int32) (m_lk : Int32) (m_fa : Int32) (m_pp : Int32) (m_gg : Int32) (m_jj : Int32) (m_qq : Int32) (m_mp : Nat → Int32) (m_fx : Nat → Int32) (m_tn : Nat → Int32) (m_mn : Int32) (m_oq : Nat → Int32) (m_pq : Nat → Int32) (m_fo : Nat → Int32) (m_ca : Nat → Int32) (m_hr : Int32) (m_fd : Int32) (a1 : Int32) (a2 : Int32), Rel NW bk sz wd mb gB gI gN iN dr es of od pl hd tk kn li pa ins cm fd hr m_th m_nb m_dk m_lk m_fa m_pp m_gg m_jj m_qq m_mp m_fx m_tn m_mn m_oq m_pq m_fo m_ca m_hr m_fd → ∃ (tag : Nat) (r : Int32) (mb' : Nat → Int32) (gB' : Int32) (gI' : Int32) (gN' : Int32) (iN' : Int32) (dr' : Int32) (es' : Int64) (of' : Int64) (od' : Int32) (pl' : Int64) (hd' : Int64) (tk' : Nat → Int32) (kn' : Nat → Int32) (li' : Nat → Int32) (pa' : Nat → Int32) (ins' : Nat → Int32) (cm' : Int32) (fd' : Int32) (rm : Int32) (m_th' : Int32) (m_lk' : Int32) (m_fa' : Int32) (m_pp' : Int32) (m_gg' : Int32) (m_jj' : Int32) (m_qq' : Int32) (m_mp' : Nat → Int32) (m_fx' : Nat → Int32) (m_tn' : Nat → Int32) (m_mn' : Int32) (m_oq' : Nat → Int32) (m_pq' : Nat → Int32) (m_fo' : Nat → Int32) (m_ca' : Nat → Int32) (m_fd' : Int32), f_V_letter N NW bk sz wd mb gB gI gN iN dr es of od pl hd tk kn li pa ins cm fd hr a1 a2 = some (tag, r, mb', gB', gI', gN', iN', dr', es', of', od', pl', hd', tk', kn', li', pa', ins', cm', fd') ∧ f_M_letter N m_th m_nb m_dk m_lk m_fa m_pp m_gg m_jj m_qq m_mp m_fx m_tn m_mn m_oq m_pq m_fo m_ca m_hr m_fd a1 a2 = some (rm, m_th', m_lk', m_fa', m_pp', m_gg', m_jj', m_qq', m_mp', m_fx', m_tn', m_mn', m_oq', m_pq', m_fo', m_ca', m_fd') ∧ (tag = 0 ∨ tag = 1 ∨ tag = 2) ∧ (0 ≤ a2 → m_th' = Int32.ofNat tag ∧ (tag = 0 → Int32.toInt64 r = Int32.toInt64 rm)) ∧ Rel' NW bk sz wd mb' gB' gI' gN' iN' dr' es' of' od' pl' hd' tk' kn' li' pa' ins' cm' fd' hr m_th' m_nb m_dk m_lk' m_fa' m_pp' m_gg' m_jj' m_qq' m_mp' m_fx' m_tn' m_mn' m_oq' m_pq' m_fo' m_ca' m_hr m_fd'
theorem snd_letter {N : Nat} (hN : 524289 ≤ N) : SimW_letter N Snd (RelW Z1 (XF Snd)) := by
  intro NW bk sz wd mb gB gI gN iN dr es of od pl hd tk kn li pa ins cm fd hr m_th m_nb m_dk m_lk m_fa m_pp m_gg m_jj m_qq m_mp m_fx m_tn m_mn m_oq m_pq m_fo m_ca m_hr m_fd a1 a2 hS
  obtain ⟨f1, f2, f3, f4, Bk, G, Q, c, h, j, M, hC, hb, hs, hL, hM, hR, hD, hh, hj, hlj, hty⟩ := id hS
  subst f1
  subst f2
  subst f3
  subst f4
  have hB2 := hC.2.2.2.2
  have hQG : Q * G < 4096 := hM.2.2.2.2.2.1
  have hK : ∀ (dr1 : Int32) ( es1 : Int64) ( of1 : Int64) ( od1 : Int32) ( pl1 : Int64) ( hd1 : Int64) (fdm th : Int32), RelW Z1 (XF Snd) NW bk sz wd mb gB gI gN iN dr1 es1 of1 od1 pl1 hd1 tk kn li pa ins cm 0 hr th m_nb m_dk 1 0 m_pp m_gg m_jj m_qq m_mp m_fx m_tn m_mn m_oq m_pq m_fo m_ca hr fdm := fun _ _ _ _ _ _ _ _ => ⟨Bk, hC, hb, hs, rfl, trivial, Or.inr ⟨rfl, rfl, by decide, fun _ => hS⟩⟩
  obtain ⟨hir, hW, h1024, n, par, hpar, hch, hn, hkn⟩ := here_facts hR hD hh hj hlj hty
  have eS : f_S_firstFault N NW bk sz wd mb gB gI gN iN dr es of od pl hd tk kn li pa ins cm 0 = some (0, mb, gB, gI, gN, iN, dr, es, of, od, pl, hd, tk, kn, li, pa, ins, cm, 0) := by rw [f_S_firstFault, if_neg (by decide)]
  obtain ⟨nI, nN⟩ := no_eq (N := N) (NW := NW) (m_th := m_th) (m_nb := m_nb) (a1 := a1) (m_pp := m_pp) (m_gg := m_gg) (m_jj := m_jj) (m_qq := m_qq) (m_mp := m_mp) (m_fx := m_fx) (m_tn := m_tn) (m_mn := m_mn) (m_oq := m_oq) (m_pq := m_pq) (m_fo := m_fo) (m_ca := m_ca) (m_fd := m_fd) hN hC hs hM hh hir hW h1024 hch hn
  have z0 : (0 : Int32).toInt = 0 := by decide
  unfold f_V_letter f_M_letter
  rw [eS]
  simp only [bd19]
  first | rw [if_pos rfl] | rw [if_pos trivial]
  rcases seekItem_eq (N := N) (a1 := a1) (dr := dr) (es := es) (of := of) (od := od) (pl := pl) (hd := hd) hC hL hN hh hir hW hch with ⟨o, of', od', pl', hd', k', ho, e1, hE⟩ | ⟨hno, of', od', pl', hd', e1⟩
  · obtain ⟨rf, e2, hrf⟩ := nI o ho
    obtain ⟨i1, i2, i3, i4, i5, i6⟩ := item_facts hR hch hkn ho
    have hin := plc_in hW i1
    have hv := hvN_lt (wd := wd) (Bk := Bk) (G := G) (M := M) h o
    have hsp := head_split (wd := wd) (Bk := Bk) (e := plc wd Bk G M h o) (by omega)
    have hpl := plc_lt (wd := wd) (Bk := Bk) (G := G) (M := M) h o
    rw [e1, e2]
    simp only [bd7, bd17]
    first | rw [if_pos rfl, if_pos rfl] | rw [if_pos trivial, if_pos trivial]
    by_cases ca : a2 < 0
    · have ca' : ¬ 0 ≤ a2 := by rw [le32, z0]; rw [lt32, z0] at ca; omega
      rw [if_neg ca', if_pos ca]
      exact ⟨2, 0, mb, gB, gI, gN, iN, hr, _, of', od', pl', hd', tk, kn, li, pa, ins, cm, 0, -1, 0, 1, 0, m_pp, m_gg, m_jj, m_qq, m_mp, m_fx, m_tn, m_mn, m_oq, m_pq, m_fo, m_ca, rf, rfl, rfl, Or.inr (Or.inr rfl), fun h => absurd h ca', hK _ _ _ _ _ _ _ _⟩
    · have ca' : 0 ≤ a2 := by rw [le32, z0]; rw [lt32, z0] at ca; omega
      rw [if_pos ca', if_neg ca]
      obtain ⟨a, haa⟩ : ∃ a : Nat, a2.toInt = (a : Int) := ⟨a2.toInt.toNat, by rw [le32, z0] at ca'; omega⟩
      obtain ⟨rn, en, hrn⟩ := nameLength_eq (NW := NW) hv
      have hnl : hNam (hvN wd Bk G M h o) < 256 := by unfold hNam; omega
      have eM : f_M_nameSize m_dk rf = some rn := by
        unfold f_M_nameSize
        rw [one_b1 hC hs (a := plc wd Bk G M h o + 6) (by rw [add32 (y := 6) hrf (by decide) (by omega) (by omega)]; omega) (by omega), hsp.2.2.1]
        refine congrArg some ?_
        rw [eq32, hrn, lit32 _ (by show hNam (hvN wd Bk G M h o) < _; omega)]
        rfl
      rw [hE.2.2.2, en, eM]
      simp only [bd1]
      by_cases cl : hNam (hvN wd Bk G M h o) ≤ a
      · rw [if_pos (show rn ≤ a2 by rw [le32, hrn, haa]; omega), if_neg (show ¬ a2 < rn by rw [lt32, hrn, haa]; omega)]
        exact ⟨0, -1, mb, gB, gI, gN, iN, hr, _, of', od', pl', _, tk, kn, li, pa, ins, cm, 0, -1, 0, 1, 0, m_pp, m_gg, m_jj, m_qq, m_mp, m_fx, m_tn, m_mn, m_oq, m_pq, m_fo, m_ca, rf, rfl, rfl, Or.inl rfl, fun _ => ⟨rfl, fun _ => rfl⟩, hK _ _ _ _ _ _ _ _⟩
      · rw [if_neg (show ¬ rn ≤ a2 by rw [le32, hrn, haa]; omega), if_pos (show a2 < rn by rw [lt32, hrn, haa]; omega)]
        obtain ⟨rb, eb, hrb⟩ := nameByte_eq (wd := wd) hC (pl := pl') (p := plc wd Bk G M h o) (by rw [hE.2.2.1]; exact num64 (by omega)) (by omega) haa
        rw [eb, one_b1 hC hs (a := plc wd Bk G M h o + 8 + a) (by rw [add32 (add32 (y := 8) hrf (by decide) (by omega) (by omega)) haa (by omega) (by omega)]; omega) (by omega)]
        simp only []
        have hbl := b1_lt wd Bk (plc wd Bk G M h o + 8 + a)
        have : Int32.ofNat (b1 wd Bk (plc wd Bk G M h o + 8 + a)) = rb := by rw [eq32, hrb, lit32 _ (by omega)]
        rw [this]
        exact ⟨0, rb, mb, gB, gI, gN, iN, hr, _, of', od', pl', _, tk, kn, li, pa, ins, cm, 0, rb, 0, 1, 0, m_pp, m_gg, m_jj, m_qq, m_mp, m_fx, m_tn, m_mn, m_oq, m_pq, m_fo, m_ca, rf, rfl, rfl, Or.inl rfl, fun _ => ⟨rfl, fun _ => rfl⟩, hK _ _ _ _ _ _ _ _⟩
  · obtain ⟨fd', e2⟩ := nN hno
    rw [e1, e2]
    simp only [bd7, bd17]
    rw [if_neg (show ¬ (2 : Nat) = 0 by decide), if_neg (show ¬ (1 : Int32) = 0 by decide)]
    exact ⟨2, 0, mb, gB, gI, gN, iN, hr, _, of', od', pl', hd', tk, kn, li, pa, ins, cm, 0, 0, 2, 1, 0, m_pp, m_gg, m_jj, m_qq, m_mp, m_fx, m_tn, m_mn, m_oq, m_pq, m_fo, m_ca, fd', rfl, rfl, Or.inr (Or.inr rfl), fun _ => ⟨rfl, fun h => absurd h (by decide)⟩, hK _ _ _ _ _ _ _ _⟩

theorem snd_content {N : Nat} (hN : 524289 ≤ N) : Sim_content N Snd (RelW Z1 (XF Snd)) := by
  intro NW bk sz wd mb gB gI gN iN dr es of od pl hd tk kn li pa ins cm fd hr m_th m_nb m_dk m_lk m_fa m_pp m_gg m_jj m_qq m_mp m_fx m_tn m_mn m_oq m_pq m_fo m_ca m_hr m_fd a1 a2 hS
  obtain ⟨f1, f2, f3, f4, Bk, G, Q, c, h, j, M, hC, hb, hs, hL, hM, hR, hD, hh, hj, hlj, hty⟩ := id hS
  subst f1
  subst f2
  subst f3
  subst f4
  have hB2 := hC.2.2.2.2
  have hQG : Q * G < 4096 := hM.2.2.2.2.2.1
  have hK : ∀ (dr1 : Int32) ( es1 : Int64) ( of1 : Int64) ( od1 : Int32) ( pl1 : Int64) ( hd1 : Int64) (fdm th : Int32), RelW Z1 (XF Snd) NW bk sz wd mb gB gI gN iN dr1 es1 of1 od1 pl1 hd1 tk kn li pa ins cm 0 hr th m_nb m_dk 1 0 m_pp m_gg m_jj m_qq m_mp m_fx m_tn m_mn m_oq m_pq m_fo m_ca hr fdm := fun _ _ _ _ _ _ _ _ => ⟨Bk, hC, hb, hs, rfl, trivial, Or.inr ⟨rfl, rfl, by decide, fun _ => hS⟩⟩
  obtain ⟨hir, hW, h1024, n, par, hpar, hch, hn, hkn⟩ := here_facts hR hD hh hj hlj hty
  have eS : f_S_firstFault N NW bk sz wd mb gB gI gN iN dr es of od pl hd tk kn li pa ins cm 0 = some (0, mb, gB, gI, gN, iN, dr, es, of, od, pl, hd, tk, kn, li, pa, ins, cm, 0) := by rw [f_S_firstFault, if_neg (by decide)]
  obtain ⟨nI, nN⟩ := no_eq (N := N) (NW := NW) (m_th := m_th) (m_nb := m_nb) (a1 := a1) (m_pp := m_pp) (m_gg := m_gg) (m_jj := m_jj) (m_qq := m_qq) (m_mp := m_mp) (m_fx := m_fx) (m_tn := m_tn) (m_mn := m_mn) (m_oq := m_oq) (m_pq := m_pq) (m_fo := m_fo) (m_ca := m_ca) (m_fd := m_fd) hN hC hs hM hh hir hW h1024 hch hn
  have z0 : (0 : Int32).toInt = 0 := by decide
  unfold f_V_content f_M_content
  rw [eS]
  simp only [bd19]
  first | rw [if_pos rfl] | rw [if_pos trivial]
  rcases seekItem_eq (N := N) (a1 := a1) (dr := dr) (es := es) (of := of) (od := od) (pl := pl) (hd := hd) hC hL hN hh hir hW hch with ⟨o, of', od', pl', hd', k', ho, e1, hE⟩ | ⟨hno, of', od', pl', hd', e1⟩
  · obtain ⟨rf, e2, hrf⟩ := nI o ho
    obtain ⟨i1, i2, i3, ⟨j2, i4, i4'⟩, i5, i6⟩ := item_facts hR hch hkn ho
    have i2a := i2.1
    have i2b := i2.2
    have h8 := inR_div i2
    have hipl := ipl_in hM h8
    have hin := plc_in hW i1
    have hv := hvN_lt (wd := wd) (Bk := Bk) (G := G) (M := M) h o
    have hsp := head_split (wd := wd) (Bk := Bk) (e := plc wd Bk G M h o) (by omega)
    obtain ⟨ri, ei, hri⟩ := inode_eq (NW := NW) hv (by omega)
    have efour : f_M_four m_dk rf = some (Int64.ofNat (hIno (hvN wd Bk G M h o))) := by
      rw [four_n4 hC hs (a := plc wd Bk G M h o) hrf (by omega), hsp.1]; rfl
    have eii : (Int64.ofNat (hIno (hvN wd Bk G M h o))).toInt32 = ri := by
      rw [eq32, hri, cut6432 (num64 (v := hIno (hvN wd Bk G M h o)) (by omega)) (by omega) (by omega)]
    rw [e1, e2]
    simp only [bd7, bd17]
    first | rw [if_pos rfl, if_pos rfl] | rw [if_pos trivial, if_pos trivial]
    rw [hE.2.2.2, ei, efour]
    simp only [bd1, lt1]
    rw [eii]
    by_cases ca : a2 < 0
    · rw [if_pos ca, if_pos ca]
      exact ⟨0, -1, mb, gB, gI, gN, iN, hr, _, of', od', pl', _, tk, kn, li, pa, ins, cm, 0, -1, 0, 1, 0, m_pp, m_gg, m_jj, m_qq, m_mp, m_fx, m_tn, m_mn, m_oq, m_pq, m_fo, m_ca, rf, rfl, rfl, Or.inl rfl, rfl, fun _ => rfl, hK _ _ _ _ _ _ _ _⟩
    · rw [if_neg ca, if_neg ca]
      obtain ⟨a, haa⟩ : ∃ a : Nat, a2.toInt = (a : Int) := ⟨a2.toInt.toNat, by rw [lt32, z0] at ca; omega⟩
      have S0 : f_L_sizeOf NW sz wd mb gI ri = some (Int64.ofNat (szN wd Bk G M (hIno (hvN wd Bk G M h o)))) := sizeOf_eq hC hL hri i2a h8
      rw [S0, msize_eq hC hs hM hri i2a h8]
      simp only []
      have hsl := szN_lt (wd := wd) (Bk := Bk) (G := G) (M := M) (hIno (hvN wd Bk G M h o))
      have hsz := i3.1
      by_cases cl : a < szN wd Bk G M (hIno (hvN wd Bk G M h o))
      · have cl' : Int32.toInt64 a2 < Int64.ofNat (szN wd Bk G M (hIno (hvN wd Bk G M h o))) := by rw [lt64, ext3264 haa, num64 (by omega)]; omega
        rw [if_pos cl', if_pos cl']
        have hd1 : (a2 / 1024).toInt = ((a / 1024 : Nat) : Int) := by rw [div32 (y := 1024) haa (by decide) (by omega) (by omega)]; omega
        have hm1 : (a2 - a2 / 1024 * 1024).toInt = ((a % 1024 : Nat) : Int) := by rw [rem32 (y := 1024) haa (by decide) (by omega) (by omega)]; omega
        have hbn : a / 1024 < (szN wd Bk G M (hIno (hvN wd Bk G M h o)) + 1023) / 1024 := by omega
        have B0 : f_L_blockOf NW sz wd mb gI ri (a2 / 1024) = some (Int64.ofNat (blN wd Bk G M (hIno (hvN wd Bk G M h o)) (a / 1024))) := blockOf_eq hC hL hri i2a h8 hd1 (by omega)
        rw [B0, mblockOf_eq hC hs hM hri i2a h8 hd1 hbn (by omega) i3.2.1]
        simp only []
        obtain ⟨bb1, bb2⟩ := i3.2.2 (a / 1024) hbn
        generalize blN wd Bk G M (hIno (hvN wd Bk G M h o)) (a / 1024) = b at *
        rw [number_b1 hC (a := 1024 * b + a % 1024) (by rw [add64 (mul64 (x := 1024) (by decide) (num64 (v := b) (by omega)) (by omega) (by omega)) (ext3264 hm1) (by omega) (by omega)]; omega)]
        rw [one_b1 hC hs (a := 1024 * b + a % 1024) (by rw [add32 (mul32 (x := 1024) (by decide) (cut6432 (num64 (v := b) (by omega)) (by omega) (by omega)) (by omega) (by omega)) hm1 (by omega) (by omega)]; omega) (by omega)]
        simp only []
        have hbl := b1_lt wd Bk (1024 * b + a % 1024)
        have : (Int64.ofNat (b1 wd Bk (1024 * b + a % 1024))).toInt32 = Int32.ofNat (b1 wd Bk (1024 * b + a % 1024)) := by
          rw [eq32, cut6432 (num64 (by omega)) (by omega) (by omega), lit32 _ (by omega)]
        rw [this]
        exact ⟨0, _, mb, gB, gI, gN, iN, hr, _, of', od', pl', _, tk, kn, li, pa, ins, cm, 0, _, 0, 1, 0, m_pp, m_gg, m_jj, m_qq, m_mp, m_fx, m_tn, m_mn, m_oq, m_pq, m_fo, m_ca, rf, rfl, rfl, Or.inl rfl, rfl, fun _ => rfl, hK _ _ _ _ _ _ _ _⟩
      · have cl' : ¬ Int32.toInt64 a2 < Int64.ofNat (szN wd Bk G M (hIno (hvN wd Bk G M h o))) := by rw [lt64, ext3264 haa, num64 (by omega)]; omega
        rw [if_neg cl', if_neg cl']
        exact ⟨0, -1, mb, gB, gI, gN, iN, hr, _, of', od', pl', _, tk, kn, li, pa, ins, cm, 0, -1, 0, 1, 0, m_pp, m_gg, m_jj, m_qq, m_mp, m_fx, m_tn, m_mn, m_oq, m_pq, m_fo, m_ca, rf, rfl, rfl, Or.inl rfl, rfl, fun _ => rfl, hK _ _ _ _ _ _ _ _⟩
  · obtain ⟨fd', e2⟩ := nN hno
    rw [e1, e2]
    simp only [bd7, bd17]
    rw [if_neg (show ¬ (2 : Nat) = 0 by decide), if_neg (show ¬ (1 : Int32) = 0 by decide)]
    exact ⟨2, 0, mb, gB, gI, gN, iN, hr, _, of', od', pl', hd', tk, kn, li, pa, ins, cm, 0, 0, 2, 1, 0, m_pp, m_gg, m_jj, m_qq, m_mp, m_fx, m_tn, m_mn, m_oq, m_pq, m_fo, m_ca, fd', rfl, rfl, Or.inr (Or.inr rfl), rfl, fun h => absurd h (by decide), hK _ _ _ _ _ _ _ _⟩

end SC
