/-! the calls on a sound volume, continued -/
section SD

theorem snd_about {N : Nat} (hN : 524289 ≤ N) : Sim_about N Snd (RelW Z1 (XF Snd)) := by
  intro NW bk sz wd mb gB gI gN iN dr es of od pl hd tk kn li pa ins cm fd hr m_th m_nb m_dk m_lk m_fa m_pp m_gg m_jj m_qq m_mp m_fx m_tn m_mn m_oq m_pq m_fo m_ca m_hr m_fd a1 a2 hS
  obtain ⟨f1, f2, f3, f4, Bk, G, Q, c, h, j, M, hC, hb, hs, hL, hM, hR, hD, hh, hj, hlj, hty⟩ := id hS
  subst f1
  subst f2
  subst f3
  subst f4
  have hB2 := hC.2.2.2.2
  have hQG : Q * G < 4096 := hM.2.2.2.2.2.1
  have hK : ∀ (dr1 : Int32) ( es1 : Int64) ( of1 : Int64) ( od1 : Int32) ( pl1 : Int64) ( hd1 : Int64) (fdm th : Int32), RelW Z1 (XF Snd) NW bk sz wd mb gB gI gN iN dr1 es1 of1 od1 pl1 hd1 tk kn li pa ins cm 0 hr th m_nb m_dk 1 0 m_pp m_gg m_jj m_qq m_mp m_fx m_tn m_mn m_oq m_pq m_fo m_ca hr fdm := fun _ _ _ _ _ _ _ _ => ⟨Bk, hC, hb, hs, rfl, trivial, Or.inr ⟨rfl, rfl, by decide, fun _ => hS⟩⟩
  obtain ⟨hir, hW, h1024, n, par, hpar, hch, hn, hkn⟩ := here_facts hR hD hh hj hlj hty
  have eS : f_S_firstFault N NW bk sz wd mb gB gI gN iN dr es of od pl hd tk kn li pa ins cm 0 = some (0, mb, gB, gI, gN, iN, dr, es, of, od, pl, hd, tk, kn, li, pa, ins, cm, 0) := by rw [f_S_firstFault, if_neg (by decide)]
  obtain ⟨nI, nN⟩ := no_eq (N := N) (NW := NW) (m_th := m_th) (m_nb := m_nb) (a1 := a1) (m_pp := m_pp) (m_gg := m_gg) (m_jj := m_jj) (m_qq := m_qq) (m_mp := m_mp) (m_fx := m_fx) (m_tn := m_tn) (m_mn := m_mn) (m_oq := m_oq) (m_pq := m_pq) (m_fo := m_fo) (m_ca := m_ca) (m_fd := m_fd) hN hC hs hM hh hir hW h1024 hch hn
  have z0 : (0 : Int32).toInt = 0 := by decide
  unfold f_V_about f_M_about
  rw [eS]
  simp only [bd19]
  first | rw [if_pos rfl] | rw [if_pos trivial]
  rcases seekItem_eq (N := N) (a1 := a1) (dr := dr) (es := es) (of := of) (od := od) (pl := pl) (hd := hd) hC hL hN hh hir hW hch with ⟨o, of', od', pl', hd', k', ho, e1, hE⟩ | ⟨hno, of', od', pl', hd', e1⟩
  · obtain ⟨rf, e2, hrf⟩ := nI o ho
    obtain ⟨i1, i2, i3, ⟨j2, i4, i4'⟩, i5, i6⟩ := item_facts hR hch hkn ho
    have i2a := i2.1
    have i2b := i2.2
    have h8 := inR_div i2
    have hipl := ipl_in hM h8
    have hin := plc_in hW i1
    have hv := hvN_lt (wd := wd) (Bk := Bk) (G := G) (M := M) h o
    have hsp := head_split (wd := wd) (Bk := Bk) (e := plc wd Bk G M h o) (by omega)
    obtain ⟨ri, ei, hri⟩ := inode_eq (NW := NW) hv (by omega)
    have efour : f_M_four m_dk rf = some (Int64.ofNat (hIno (hvN wd Bk G M h o))) := by
      rw [four_n4 hC hs (a := plc wd Bk G M h o) hrf (by omega), hsp.1]; rfl
    have eii : (Int64.ofNat (hIno (hvN wd Bk G M h o))).toInt32 = ri := by
      rw [eq32, hri, cut6432 (num64 (v := hIno (hvN wd Bk G M h o)) (by omega)) (by omega) (by omega)]
    rw [e1, e2]
    simp only [bd7, bd17]
    first | rw [if_pos rfl, if_pos rfl] | rw [if_pos trivial, if_pos trivial]
    rw [hE.2.2.2, ei]
    simp only [bd1]
    have out : (∀ s : Int32, f_M_about_18 N m_nb m_dk hr 0 1 0 m_pp m_gg m_jj m_qq m_mp m_fx m_tn m_mn m_oq m_pq m_fo m_ca rf s = some (0, 3, 1, 0, m_pp, m_gg, m_jj, m_qq, m_mp, m_fx, m_tn, m_mn, m_oq, m_pq, m_fo, m_ca, rf)) := fun s => rfl
    have z5 : (5 : Int32).toInt = 5 := by decide
    have z1 : (1 : Int32).toInt = 1 := by decide
    have z2 : (2 : Int32).toInt = 2 := by decide
    have z3 : (3 : Int32).toInt = 3 := by decide
    have z4 : (4 : Int32).toInt = 4 := by decide
    by_cases c0 : a2 < 0
    · rw [if_pos c0, out]
      rw [lt32, z0] at c0
      rw [if_neg (show ¬ a2 = 0 by rw [eq32, z0]; omega), if_neg (show ¬ a2 = 1 by rw [eq32, z1]; omega), if_neg (show ¬ a2 = 2 by rw [eq32, z2]; omega), if_neg (show ¬ a2 = 3 by rw [eq32, z3]; omega), if_neg (show ¬ a2 = 4 by rw [eq32, z4]; omega), if_neg (show ¬ a2 = 5 by rw [eq32, z5]; omega)]
      exact ⟨3, 0, mb, gB, gI, gN, iN, hr, _, of', od', pl', _, tk, kn, li, pa, ins, cm, 0, 0, 3, 1, 0, m_pp, m_gg, m_jj, m_qq, m_mp, m_fx, m_tn, m_mn, m_oq, m_pq, m_fo, m_ca, rf, rfl, rfl, Or.inr (Or.inr (Or.inr rfl)), rfl, fun h => absurd h (by decide), hK _ _ _ _ _ _ _ _⟩
    rw [if_neg c0]
    by_cases c5 : a2 ≤ 5
    · rw [if_pos c5]
      rw [le32, z5] at c5
      rw [lt32, z0] at c0
      have eIn : f_M_about_23 N m_nb m_dk hr 0 1 0 m_pp m_gg m_jj m_qq m_mp m_fx m_tn m_mn m_oq m_pq m_fo m_ca rf a2 0 = (if a2 = (0 : Int32) then some (Int32.toInt64 ri, 0, 1, 0, m_pp, m_gg, m_jj, m_qq, m_mp, m_fx, m_tn, m_mn, m_oq, m_pq, m_fo, m_ca, rf) else (if a2 = (1 : Int32) then bd1 (f_M_typeOf m_dk m_gg m_mp ri) (fun (r_10 : Int32) => (if r_10 = ((16384 : Int32)) then some ((1 : Int64), 0, 1, 0, m_pp, m_gg, m_jj, m_qq, m_mp, m_fx, m_tn, m_mn, m_oq, m_pq, m_fo, m_ca, rf) else some ((0 : Int64), 0, 1, 0, m_pp, m_gg, m_jj, m_qq, m_mp, m_fx, m_tn, m_mn, m_oq, m_pq, m_fo, m_ca, rf))) else (if a2 = (2 : Int32) then bd1 (f_M_sizeOfInode m_dk m_gg m_mp ri) (fun (r_14 : Int64) => some (r_14, 0, 1, 0, m_pp, m_gg, m_jj, m_qq, m_mp, m_fx, m_tn, m_mn, m_oq, m_pq, m_fo, m_ca, rf)) else (if a2 = (3 : Int32) then bd1 (f_M_inodeAt m_gg m_mp ri) (fun (r_17 : Int32) => bd1 (f_M_two m_dk (r_17 + ((26 : Int32)))) (fun (r_19 : Int32) => some (Int32.toInt64 r_19, 0, 1, 0, m_pp, m_gg, m_jj, m_qq, m_mp, m_fx, m_tn, m_mn, m_oq, m_pq, m_fo, m_ca, rf))) else (if a2 = (4 : Int32) then bd1 (f_M_inodeAt m_gg m_mp ri) (fun (r_22 : Int32) => bd1 (f_M_four m_dk (r_22 + ((16 : Int32)))) (fun (r_24 : Int64) => some (r_24, 0, 1, 0, m_pp, m_gg, m_jj, m_qq, m_mp, m_fx, m_tn, m_mn, m_oq, m_pq, m_fo, m_ca, rf))) else bd1 (f_M_sizeOfInode m_dk m_gg m_mp ri) (fun (r_26 : Int64) => (if r_26 = ((0 : Int64)) then some ((0 : Int64), 0, 1, 0, m_pp, m_gg, m_jj, m_qq, m_mp, m_fx, m_tn, m_mn, m_oq, m_pq, m_fo, m_ca, rf) else bd1 (f_M_sizeOfInode m_dk m_gg m_mp ri) (fun (r_29 : Int64) => bd1 (f_M_blockOf m_dk m_gg m_mp ri (Int64.toInt32 ((r_29 - ((1 : Int64))) / ((1024 : Int64))))) (fun (r_31 : Int64) => some (r_31, 0, 1, 0, m_pp, m_gg, m_jj, m_qq, m_mp, m_fx, m_tn, m_mn, m_oq, m_pq, m_fo, m_ca, rf)))))))))) := by
        have e00 : f_M_fails 0 0 3 = some (0, 0) := rfl
        rw [f_M_about_23, e00]
        simp only [bd2]
        first | rw [if_pos rfl] | rw [if_pos trivial]
        rw [efour]
        simp only [bd1, lt1]
        rw [eii]
      rw [eIn]
      clear eIn out
      by_cases d0 : a2 = 0
      · rw [if_pos d0, if_pos d0]
        exact ⟨0, _, mb, gB, gI, gN, iN, hr, _, of', od', pl', _, tk, kn, li, pa, ins, cm, 0, _, 0, 1, 0, m_pp, m_gg, m_jj, m_qq, m_mp, m_fx, m_tn, m_mn, m_oq, m_pq, m_fo, m_ca, rf, rfl, rfl, Or.inl rfl, rfl, fun _ => rfl, hK _ _ _ _ _ _ _ _⟩
      rw [if_neg d0, if_neg d0]
      by_cases d1 : a2 = 1
      · rw [if_pos d1, if_pos d1, ctypeOf_eq hC hL hri i2a h8, mtypeOf_eq hC hs hM hri i2a h8]
        simp only [bd1]
        by_cases ct : Int32.ofNat (tyN wd Bk G M (hIno (hvN wd Bk G M h o))) = 16384
        · rw [if_pos ct, if_pos ct]
          exact ⟨0, 1, mb, gB, gI, gN, iN, hr, _, of', od', pl', _, tk, kn, li, pa, ins, cm, 0, 1, 0, 1, 0, m_pp, m_gg, m_jj, m_qq, m_mp, m_fx, m_tn, m_mn, m_oq, m_pq, m_fo, m_ca, rf, rfl, rfl, Or.inl rfl, rfl, fun _ => rfl, hK _ _ _ _ _ _ _ _⟩
        · rw [if_neg ct, if_neg ct]
          exact ⟨0, 0, mb, gB, gI, gN, iN, hr, _, of', od', pl', _, tk, kn, li, pa, ins, cm, 0, 0, 0, 1, 0, m_pp, m_gg, m_jj, m_qq, m_mp, m_fx, m_tn, m_mn, m_oq, m_pq, m_fo, m_ca, rf, rfl, rfl, Or.inl rfl, rfl, fun _ => rfl, hK _ _ _ _ _ _ _ _⟩
      rw [if_neg d1, if_neg d1]
      have S0 : f_L_sizeOf NW sz wd mb gI ri = some (Int64.ofNat (szN wd Bk G M (hIno (hvN wd Bk G M h o)))) := sizeOf_eq hC hL hri i2a h8
      have S1 := msize_eq (wd := wd) hC hs hM hri i2a h8
      by_cases d2 : a2 = 2
      · rw [if_pos d2, if_pos d2, S0, S1]
        simp only [bd1]
        exact ⟨0, _, mb, gB, gI, gN, iN, hr, _, of', od', pl', _, tk, kn, li, pa, ins, cm, 0, _, 0, 1, 0, m_pp, m_gg, m_jj, m_qq, m_mp, m_fx, m_tn, m_mn, m_oq, m_pq, m_fo, m_ca, rf, rfl, rfl, Or.inl rfl, rfl, fun _ => rfl, hK _ _ _ _ _ _ _ _⟩
      rw [if_neg d2, if_neg d2]
      obtain ⟨rp, ep, hp⟩ := minodeAt_eq hB2 hM hri i2a h8
      by_cases d3 : a2 = 3
      · have F26 : f_L_field NW sz wd mb gI ri 26 2 = some (Int64.ofNat (n2 wd Bk (ipl G M (hIno (hvN wd Bk G M h o)) + 26))) := field_eq hC hL hri i2a h8 (at' := 26) (n := 2) (by decide) (by omega) (by decide) (by omega) (by omega)
        rw [if_pos d3, if_pos d3, F26, ep]
        simp only [bd1]
        rw [two_n2 hC hs (a := ipl G M (hIno (hvN wd Bk G M h o)) + 26) (by rw [add32 (y := 26) hp (by decide) (by omega) (by omega)]; omega) (by omega)]
        simp only []
        have : Int32.toInt64 (Int32.ofNat (n2 wd Bk (ipl G M (hIno (hvN wd Bk G M h o)) + 26))) = Int64.ofNat (n2 wd Bk (ipl G M (hIno (hvN wd Bk G M h o)) + 26)) := ((due_iff (n2_lt wd Bk _) _).mpr rfl).symm
        rw [this]
        exact ⟨0, _, mb, gB, gI, gN, iN, hr, _, of', od', pl', _, tk, kn, li, pa, ins, cm, 0, _, 0, 1, 0, m_pp, m_gg, m_jj, m_qq, m_mp, m_fx, m_tn, m_mn, m_oq, m_pq, m_fo, m_ca, rf, rfl, rfl, Or.inl rfl, rfl, fun _ => rfl, hK _ _ _ _ _ _ _ _⟩
      rw [if_neg d3, if_neg d3]
      by_cases d4 : a2 = 4
      · have F16 : f_L_field NW sz wd mb gI ri 16 4 = some (Int64.ofNat (n4 wd Bk (ipl G M (hIno (hvN wd Bk G M h o)) + 16))) := field_eq hC hL hri i2a h8 (at' := 16) (n := 4) (by decide) (by omega) (by decide) (by omega) (by omega)
        rw [if_pos d4, if_pos d4, F16, ep]
        simp only [bd1]
        rw [four_n4 hC hs (a := ipl G M (hIno (hvN wd Bk G M h o)) + 16) (by rw [add32 (y := 16) hp (by decide) (by omega) (by omega)]; omega) (by omega)]
        simp only []
        exact ⟨0, _, mb, gB, gI, gN, iN, hr, _, of', od', pl', _, tk, kn, li, pa, ins, cm, 0, _, 0, 1, 0, m_pp, m_gg, m_jj, m_qq, m_mp, m_fx, m_tn, m_mn, m_oq, m_pq, m_fo, m_ca, rf, rfl, rfl, Or.inl rfl, rfl, fun _ => rfl, hK _ _ _ _ _ _ _ _⟩
      rw [if_neg d4, if_neg d4]
      have d5 : a2 = 5 := by
        rw [eq32, z0] at d0
        rw [eq32, z1] at d1
        rw [eq32, z2] at d2
        rw [eq32, z3] at d3
        rw [eq32, z4] at d4
        rw [eq32, z5]
        omega
      rw [if_pos d5]
      unfold f_V_lastBlock
      rw [S0, S1]
      simp only [bd1]
      have hsl := szN_lt (wd := wd) (Bk := Bk) (G := G) (M := M) (hIno (hvN wd Bk G M h o))
      have hsz := i3.1
      have e64 : (Int64.ofNat (szN wd Bk G M (hIno (hvN wd Bk G M h o)))).toInt = ((szN wd Bk G M (hIno (hvN wd Bk G M h o)) : Nat) : Int) := num64 (by omega)
      obtain ⟨rbf, ebf, hbf⟩ := blocksFor_eq (NW := NW) e64 hsl
      rw [ebf]
      simp only []
      have q0 : Int64.ofNat (szN wd Bk G M (hIno (hvN wd Bk G M h o))) = 0 ↔ szN wd Bk G M (hIno (hvN wd Bk G M h o)) = 0 := zero64_iff (by omega)
      simp only [q0]
      by_cases cs : szN wd Bk G M (hIno (hvN wd Bk G M h o)) = 0
      · rw [if_pos cs, if_pos (show rbf ≤ 0 by rw [le32, hbf, z0]; omega)]
        exact ⟨0, 0, mb, gB, gI, gN, iN, hr, _, of', od', pl', _, tk, kn, li, pa, ins, cm, 0, 0, 0, 1, 0, m_pp, m_gg, m_jj, m_qq, m_mp, m_fx, m_tn, m_mn, m_oq, m_pq, m_fo, m_ca, rf, rfl, rfl, Or.inl rfl, rfl, fun _ => rfl, hK _ _ _ _ _ _ _ _⟩
      · rw [if_neg cs, if_neg (show ¬ rbf ≤ 0 by rw [le32, hbf, z0]; omega)]
        have hbn : (szN wd Bk G M (hIno (hvN wd Bk G M h o)) - 1) / 1024 < (szN wd Bk G M (hIno (hvN wd Bk G M h o)) + 1023) / 1024 := by omega
        have B0 : f_L_blockOf NW sz wd mb gI ri (rbf - 1) = some (Int64.ofNat (blN wd Bk G M (hIno (hvN wd Bk G M h o)) ((szN wd Bk G M (hIno (hvN wd Bk G M h o)) - 1) / 1024))) := blockOf_eq hC hL hri i2a h8 (by rw [sub32 (y := 1) hbf (by decide) (by omega) (by omega)]; omega) (by omega)
        rw [B0, mblockOf_eq hC hs hM hri i2a h8 (b := (szN wd Bk G M (hIno (hvN wd Bk G M h o)) - 1) / 1024) (cut6432 (x := (((szN wd Bk G M (hIno (hvN wd Bk G M h o)) - 1) / 1024 : Nat) : Int)) (by rw [div64 (y := 1024) (sub64 (y := 1) e64 (by decide) (by omega) (by omega)) (by decide) (by omega) (by omega)]; omega) (by omega) (by omega)) hbn (by omega) i3.2.1]
        simp only []
        exact ⟨0, _, mb, gB, gI, gN, iN, hr, _, of', od', pl', _, tk, kn, li, pa, ins, cm, 0, _, 0, 1, 0, m_pp, m_gg, m_jj, m_qq, m_mp, m_fx, m_tn, m_mn, m_oq, m_pq, m_fo, m_ca, rf, rfl, rfl, Or.inl rfl, rfl, fun _ => rfl, hK _ _ _ _ _ _ _ _⟩
    · rw [if_neg c5, out]
      rw [le32, z5] at c5
      rw [if_neg (show ¬ a2 = 0 by rw [eq32, z0]; omega), if_neg (show ¬ a2 = 1 by rw [eq32, z1]; omega), if_neg (show ¬ a2 = 2 by rw [eq32, z2]; omega), if_neg (show ¬ a2 = 3 by rw [eq32, z3]; omega), if_neg (show ¬ a2 = 4 by rw [eq32, z4]; omega), if_neg (show ¬ a2 = 5 by rw [eq32, z5]; omega)]
      exact ⟨3, 0, mb, gB, gI, gN, iN, hr, _, of', od', pl', _, tk, kn, li, pa, ins, cm, 0, 0, 3, 1, 0, m_pp, m_gg, m_jj, m_qq, m_mp, m_fx, m_tn, m_mn, m_oq, m_pq, m_fo, m_ca, rf, rfl, rfl, Or.inr (Or.inr (Or.inr rfl)), rfl, fun h => absurd h (by decide), hK _ _ _ _ _ _ _ _⟩
  · obtain ⟨fd', e2⟩ := nN hno
    rw [e1, e2]
    simp only [bd7, bd17]
    rw [if_neg (show ¬ (2 : Nat) = 0 by decide), if_neg (show ¬ (1 : Int32) = 0 by decide)]
    exact ⟨2, 0, mb, gB, gI, gN, iN, hr, _, of', od', pl', hd', tk, kn, li, pa, ins, cm, 0, 0, 2, 1, 0, m_pp, m_gg, m_jj, m_qq, m_mp, m_fx, m_tn, m_mn, m_oq, m_pq, m_fo, m_ca, fd', rfl, rfl, Or.inr (Or.inr (Or.inl rfl)), rfl, fun h => absurd h (by decide), hK _ _ _ _ _ _ _ _⟩

theorem snd_enter {N : Nat} (hN : 524289 ≤ N) : Sim_enter N Snd (RelW Z1 (XF Snd)) := by
  intro NW bk sz wd mb gB gI gN iN dr es of od pl hd tk kn li pa ins cm fd hr m_th m_nb m_dk m_lk m_fa m_pp m_gg m_jj m_qq m_mp m_fx m_tn m_mn m_oq m_pq m_fo m_ca m_hr m_fd a1 hS
  obtain ⟨f1, f2, f3, f4, Bk, G, Q, c, h, j, M, hC, hb, hs, hL, hM, hR, hD, hh, hj, hlj, hty⟩ := id hS
  subst f1
  subst f2
  subst f3
  subst f4
  have hB2 := hC.2.2.2.2
  have hQG : Q * G < 4096 := hM.2.2.2.2.2.1
  have hK : ∀ (dr1 : Int32) ( es1 : Int64) ( of1 : Int64) ( od1 : Int32) ( pl1 : Int64) ( hd1 : Int64) (fdm th : Int32), RelW Z1 (XF Snd) NW bk sz wd mb gB gI gN iN dr1 es1 of1 od1 pl1 hd1 tk kn li pa ins cm 0 hr th m_nb m_dk 1 0 m_pp m_gg m_jj m_qq m_mp m_fx m_tn m_mn m_oq m_pq m_fo m_ca hr fdm := fun _ _ _ _ _ _ _ _ => ⟨Bk, hC, hb, hs, rfl, trivial, Or.inr ⟨rfl, rfl, by decide, fun _ => hS⟩⟩
  obtain ⟨hir, hW, h1024, n, par, hpar, hch, hn, hkn⟩ := here_facts hR hD hh hj hlj hty
  have eS : f_S_firstFault N NW bk sz wd mb gB gI gN iN dr es of od pl hd tk kn li pa ins cm 0 = some (0, mb, gB, gI, gN, iN, dr, es, of, od, pl, hd, tk, kn, li, pa, ins, cm, 0) := by rw [f_S_firstFault, if_neg (by decide)]
  obtain ⟨nI, nN⟩ := no_eq (N := N) (NW := NW) (m_th := m_th) (m_nb := m_nb) (a1 := a1) (m_pp := m_pp) (m_gg := m_gg) (m_jj := m_jj) (m_qq := m_qq) (m_mp := m_mp) (m_fx := m_fx) (m_tn := m_tn) (m_mn := m_mn) (m_oq := m_oq) (m_pq := m_pq) (m_fo := m_fo) (m_ca := m_ca) (m_fd := m_fd) hN hC hs hM hh hir hW h1024 hch hn
  have z0 : (0 : Int32).toInt = 0 := by decide
  unfold f_V_enter f_M_enter
  rw [eS]
  simp only [bd19]
  first | rw [if_pos rfl] | rw [if_pos trivial]
  rcases seekItem_eq (N := N) (a1 := a1) (dr := dr) (es := es) (of := of) (od := od) (pl := pl) (hd := hd) hC hL hN hh hir hW hch with ⟨o, of', od', pl', hd', k', ho, e1, hE⟩ | ⟨hno, of', od', pl', hd', e1⟩
  · obtain ⟨rf, e2, hrf⟩ := nI o ho
    obtain ⟨i1, i2, i3, ⟨j2, i4, i4'⟩, i5, i6⟩ := item_facts hR hch hkn ho
    have i2a := i2.1
    have i2b := i2.2
    have h8 := inR_div i2
    have hipl := ipl_in hM h8
    have hin := plc_in hW i1
    have hv := hvN_lt (wd := wd) (Bk := Bk) (G := G) (M := M) h o
    have hsp := head_split (wd := wd) (Bk := Bk) (e := plc wd Bk G M h o) (by omega)
    obtain ⟨ri, ei, hri⟩ := inode_eq (NW := NW) hv (by omega)
    have efour : f_M_four m_dk rf = some (Int64.ofNat (hIno (hvN wd Bk G M h o))) := by
      rw [four_n4 hC hs (a := plc wd Bk G M h o) hrf (by omega), hsp.1]; rfl
    have eii : (Int64.ofNat (hIno (hvN wd Bk G M h o))).toInt32 = ri := by
      rw [eq32, hri, cut6432 (num64 (v := hIno (hvN wd Bk G M h o)) (by omega)) (by omega) (by omega)]
    rw [e1, e2]
    simp only [bd7, bd17]
    first | rw [if_pos rfl, if_pos rfl] | rw [if_pos trivial, if_pos trivial]
    rw [hE.2.2.2, ei, efour]
    simp only [bd1]
    rw [eii, ctypeOf_eq hC hL hri i2a h8, mtypeOf_eq hC hs hM hri i2a h8]
    simp only []
    have q1 : Int32.ofNat (tyN wd Bk G M (hIno (hvN wd Bk G M h o))) = 16384 ↔ tyN wd Bk G M (hIno (hvN wd Bk G M h o)) = 16384 := is32 (tyN_lt _) (by decide)
    simp only [q1]
    by_cases ct : tyN wd Bk G M (hIno (hvN wd Bk G M h o)) = 16384
    · rw [if_pos ct, if_pos ct]
      have hlj2 : li j2 = ri := by rw [eq32, i4', hri]
      obtain ⟨hir2, hW2, k1024, n2', par2, hpar2, hch2, hn2, hkn2⟩ := here_facts hR hD hri i4 hlj2 ct
      obtain ⟨r, dr2, es2, of2, od2, pl2, hd2, e3, h3⟩ := countItems_eq (N := N) (dr := hr) (es := Int64.ofNat (szN wd Bk G M h)) (of := of') (od := od') (pl := pl') (hd := Int64.ofNat (hvN wd Bk G M h o)) hC hL hN hri hir2 hW2 hch2
      obtain ⟨rm, fd', e4, h4⟩ := mcount_eq (N := N) hC hs hM hN hri hir2 hW2 k1024 hch2 hn2 rf
      have eE : f_M_enter_33 N m_nb m_dk 0 1 0 m_pp m_gg m_jj m_qq m_mp m_fx m_tn m_mn m_oq m_pq m_fo m_ca hr rf 0 = some (rm, 0, 1, 0, m_pp, m_gg, m_jj, m_qq, m_mp, m_fx, m_tn, m_mn, m_oq, m_pq, m_fo, m_ca, ri, fd') := by
        have e00 : f_M_fails 0 0 3 = some (0, 0) := rfl
        rw [f_M_enter_33, e00]
        simp only [bd2]
        first | rw [if_pos rfl] | rw [if_pos trivial]
        rw [efour]
        simp only [bd1]
        rw [eii, e4]
      rw [e3, eE]
      simp only []
      have : r = rm := by rw [eq32, h3, h4]
      subst this
      exact ⟨0, r, mb, gB, gI, gN, iN, dr2, es2, of2, od2, pl2, hd2, tk, kn, li, pa, ins, cm, 0, ri, r, 0, 1, 0, m_pp, m_gg, m_jj, m_qq, m_mp, m_fx, m_tn, m_mn, m_oq, m_pq, m_fo, m_ca, ri, fd', rfl, rfl, Or.inl rfl, rfl, fun _ => rfl, ⟨Bk, hC, hb, hs, rfl, trivial, Or.inr ⟨rfl, rfl, by decide, fun _ => ⟨rfl, rfl, rfl, rfl, Bk, G, Q, c, _, j2, M, hC, hb, hs, hL, hM, hR, hD, hri, i4, hlj2, ct⟩⟩⟩⟩
    · rw [if_neg ct, if_neg ct]
      have eE : f_M_enter_33 N m_nb m_dk 0 1 0 m_pp m_gg m_jj m_qq m_mp m_fx m_tn m_mn m_oq m_pq m_fo m_ca hr rf 1 = some (0, 3, 1, 0, m_pp, m_gg, m_jj, m_qq, m_mp, m_fx, m_tn, m_mn, m_oq, m_pq, m_fo, m_ca, hr, rf) := rfl
      rw [eE]
      exact ⟨3, 0, mb, gB, gI, gN, iN, hr, _, of', od', pl', _, tk, kn, li, pa, ins, cm, 0, hr, 0, 3, 1, 0, m_pp, m_gg, m_jj, m_qq, m_mp, m_fx, m_tn, m_mn, m_oq, m_pq, m_fo, m_ca, hr, rf, rfl, rfl, Or.inr (Or.inr (Or.inr rfl)), rfl, fun h => absurd h (by decide), hK _ _ _ _ _ _ _ _⟩
  · obtain ⟨fd', e2⟩ := nN hno
    rw [e1, e2]
    simp only [bd7, bd17]
    rw [if_neg (show ¬ (2 : Nat) = 0 by decide), if_neg (show ¬ (1 : Int32) = 0 by decide)]
    exact ⟨2, 0, mb, gB, gI, gN, iN, hr, _, of', od', pl', hd', tk, kn, li, pa, ins, cm, 0, hr, 0, 2, 1, 0, m_pp, m_gg, m_jj, m_qq, m_mp, m_fx, m_tn, m_mn, m_oq, m_pq, m_fo, m_ca, hr, fd', rfl, rfl, Or.inr (Or.inr (Or.inl rfl)), rfl, fun h => absurd h (by decide), hK _ _ _ _ _ _ _ _⟩

theorem snd_up {N : Nat} (hN : 524289 ≤ N) : Sim_up N Snd (RelW Z1 (XF Snd)) := by
  intro NW bk sz wd mb gB gI gN iN dr es of od pl hd tk kn li pa ins cm fd hr m_th m_nb m_dk m_lk m_fa m_pp m_gg m_jj m_qq m_mp m_fx m_tn m_mn m_oq m_pq m_fo m_ca m_hr m_fd  hS
  obtain ⟨f1, f2, f3, f4, Bk, G, Q, c, h, j, M, hC, hb, hs, hL, hM, hR, hD, hh, hj, hlj, hty⟩ := id hS
  subst f1
  subst f2
  subst f3
  subst f4
  have hB2 := hC.2.2.2.2
  have hQG : Q * G < 4096 := hM.2.2.2.2.2.1
  have hK : ∀ (dr1 : Int32) ( es1 : Int64) ( of1 : Int64) ( od1 : Int32) ( pl1 : Int64) ( hd1 : Int64) (fdm th : Int32), RelW Z1 (XF Snd) NW bk sz wd mb gB gI gN iN dr1 es1 of1 od1 pl1 hd1 tk kn li pa ins cm 0 hr th m_nb m_dk 1 0 m_pp m_gg m_jj m_qq m_mp m_fx m_tn m_mn m_oq m_pq m_fo m_ca hr fdm := fun _ _ _ _ _ _ _ _ => ⟨Bk, hC, hb, hs, rfl, trivial, Or.inr ⟨rfl, rfl, by decide, fun _ => hS⟩⟩
  obtain ⟨hir, hW, h1024, n, par, hpar, hch, hn, hkn⟩ := here_facts hR hD hh hj hlj hty
  have eS : f_S_firstFault N NW bk sz wd mb gB gI gN iN dr es of od pl hd tk kn li pa ins cm 0 = some (0, mb, gB, gI, gN, iN, dr, es, of, od, pl, hd, tk, kn, li, pa, ins, cm, 0) := by rw [f_S_firstFault, if_neg (by decide)]
  unfold f_V_up f_M_up
  rw [eS, none_ok]
  simp only [bd19, bd17]
  first | rw [if_pos rfl, if_pos rfl] | rw [if_pos trivial, if_pos trivial]
  by_cases c2 : hr = 2
  · rw [if_pos c2, if_pos c2]
    exact ⟨0, 0, mb, gB, gI, gN, iN, dr, es, of, od, pl, hd, tk, kn, li, pa, ins, cm, 0, hr, 0, 0, 1, 0, m_pp, m_gg, m_jj, m_qq, m_mp, m_fx, m_tn, m_mn, m_oq, m_pq, m_fo, m_ca, hr, m_fd, rfl, rfl, Or.inl rfl, rfl, fun _ => rfl, hK _ _ _ _ _ _ _ _⟩
  · rw [if_neg c2, if_neg c2]
    have hirb := hir.2
    have ho : ¬ oob hr 4200 := by rw [oob_iff, hh]; omega
    rw [if_neg ho, nn32 hh, start_eq hC hL hh hir.1 (inR_div hir)]
    simp only [bd6]
    obtain ⟨n1, en1⟩ : ∃ n1, n = n1 + 2 := ⟨n - 2, by omega⟩
    rw [en1] at hch
    have hl := chain_len _ _ _ hch
    obtain ⟨q1, ⟨q2, q3⟩, q4, q5⟩ := hch
    have hsz := hW.1
    obtain ⟨of1, od1, pl1, hd1, ea, hA⟩ := advance_eq hC hL hh hir.1 (inR_div hir) (eat_start (wd := wd) (Bk := Bk) (G := G) (M := M) h) q2 (by omega) (by omega)
    rw [ea]
    simp only [bd4]
    obtain ⟨p1, p2, p3, p4⟩ := q5
    have hpr : hIno (hvN wd Bk G M h (0 + hLen (hvN wd Bk G M h 0))) = par := by
      rcases p3 with p3 | p3
      · omega
      · exact (p3.2.2.2.1 rfl).2.1
    have hpar1 : 1 ≤ par ∧ par ≤ Q * G := by
      rcases p3 with p3 | p3
      · omega
      · have := p3.1; rw [hpr] at this; exact this
    obtain ⟨ri, ei, hri⟩ := inode_eq (NW := NW) (hvN_lt (wd := wd) (Bk := Bk) (G := G) (M := M) h (0 + hLen (hvN wd Bk G M h 0))) (by rw [hpr]; omega)
    rw [hA.2.2.2, ei]
    simp only [bd1]
    obtain ⟨i, l1, l2, l3, l4, l5, l6, l7, j', l8, l9, i', l10, l11⟩ := hR.2.1 j hj
    have hih : i = h := by rw [hlj] at l1; omega
    subst hih
    have hrp : ri = pa j := by rw [eq32, hri, hpr, hpar]
    rw [l5, hrp]
    exact ⟨0, 1, mb, gB, gI, gN, iN, hr, _, _, _, _, _, tk, kn, li, pa, ins, cm, 0, pa j, 1, 0, 1, 0, m_pp, m_gg, m_jj, m_qq, m_mp, m_fx, m_tn, m_mn, m_oq, m_pq, m_fo, m_ca, pa j, m_fd, rfl, rfl, Or.inl rfl, rfl, fun _ => rfl, ⟨Bk, hC, hb, hs, rfl, trivial, Or.inr ⟨rfl, rfl, by decide, fun _ => ⟨rfl, rfl, rfl, rfl, Bk, G, Q, c, i', j', M, hC, hb, hs, hL, hM, hR, hD, by rw [← l9]; exact l10, by omega, l9, l11⟩⟩⟩⟩

end SD
