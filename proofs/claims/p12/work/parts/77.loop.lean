def SimAll (N : Nat) (Rel Rel' : RelT) : Prop := Sim_put N Rel Rel' ∧ Sim_fill N Rel Rel' ∧ Sim_copy N Rel Rel' ∧ Sim_byteAt N Rel Rel' ∧ Sim_fault N Rel Rel' ∧ Sim_items N Rel Rel' ∧ Sim_letter N Rel Rel' ∧ Sim_about N Rel Rel' ∧ Sim_content N Rel Rel' ∧ Sim_enter N Rel Rel' ∧ Sim_up N Rel Rel'
theorem vin {L iv : Nat} {ii : Int32} (hi : ii.toInt = (iv : Int)) (hL : L < 100000) (k : Int32) (kn : Nat) (hk : k.toInt = (kn : Int)) (hk2 : kn < 100) (h : iv + kn < L) : vp_in (ii + k) L := by
  have e : (ii + k).toInt = ((iv + kn : Nat) : Int) := by
    rw [Int32.toInt_add, hi, hk]
    have : ((iv : Int) + (kn : Int)).bmod (2 ^ 32) = (iv : Int) + kn := Int.bmod_eq_of_le (by omega) (by omega)
    rw [this]; omega
  intro hh
  rcases hh with h1 | h1
  · rw [Int32.lt_iff_toInt_lt, e] at h1
    have h2 : (((iv + kn : Nat) : Int)) < 0 := h1
    omega
  · have h2 : (ii + k).toNatClampNeg = iv + kn := by
      show (ii + k).toInt.toNat = _
      rw [e]; rfl
    rw [h2] at h1
    omega
set_option maxHeartbeats 8000000 in
set_option maxRecDepth 100000 in
theorem law_loop {Rel : Nat → RelT} {N : Nat} (hsim : ∀ k, SimAll N (Rel (k + 1)) (Rel k)) {p : Program} {l : Launch} {e : Env} {s : State} {m : MethodId} {below : List Frame} {meth : Method} {c : Code} {dC : Nat → ClassId} {dI : Nat → Nat → Nat} {b L : Nat} {xs : Nat → Int32} {h g : Nat → Nat} {cI cL cB cZ : ClassId} {NW o : Nat} (hdown : ∀ (k NW : Nat) (bk : Int32) (sz : Int32) (wd : Nat → Int64) (mb : Nat → Int32) (gB : Int32) (gI : Int32) (gN : Int32) (iN : Int32) (dr : Int32) (es : Int64) (of : Int64) (od : Int32) (pl : Int64) (hd : Int64) (tk : Nat → Int32) (kn : Nat → Int32) (li : Nat → Int32) (pa : Nat → Int32) (ins : Nat → Int32) (cm : Int32) (fd : Int32) (hr : Int32) (m_th : Int32) (m_nb : Int32) (m_dk : Nat → Int32) (m_lk : Int32) (m_fa : Int32) (m_pp : Int32) (m_gg : Int32) (m_jj : Int32) (m_qq : Int32) (m_mp : Nat → Int32) (m_fx : Nat → Int32) (m_tn : Nat → Int32) (m_mn : Int32) (m_oq : Nat → Int32) (m_pq : Nat → Int32) (m_fo : Nat → Int32) (m_ca : Nat → Int32) (m_hr : Int32) (m_fd : Int32), Rel (k + 1) NW bk sz wd mb gB gI gN iN dr es of od pl hd tk kn li pa ins cm fd hr m_th m_nb m_dk m_lk m_fa m_pp m_gg m_jj m_qq m_mp m_fx m_tn m_mn m_oq m_pq m_fo m_ca m_hr m_fd → Rel k NW bk sz wd mb gB gI gN iN dr es of od pl hd tk kn li pa ins cm fd hr m_th m_nb m_dk m_lk m_fa m_pp m_gg m_jj m_qq m_mp m_fx m_tn m_mn m_oq m_pq m_fo m_ca m_hr m_fd) (hLs : l.stackTraces = false) (hL : L ≤ 2561) (C0 : lw_At p s m meth c b L xs) (hKC : va_K (dC, dI) clAll [(cI, .int), (cL, .long)] s) (hKM : va_K (dC, dI) clAll [(cI, .int), (cB, .byte), (cZ, .boolean)] s) (hZ : ZU (fun q : Nat => s.heap.size ≤ q) s s.heap) (hSt : StrU R_V strsV s) (hNc : NcU s) :
    ∀ (k iv : Nat) (ii : Int32), ii.toInt = (iv : Int) → iv ≤ 3000 → L ≤ iv + 5 * k + 4 → k ≤ 512 → ∀ (fo : Nat → Int64) (bk : Int32) (sz : Int32) (wd : Nat → Int64) (mb : Nat → Int32) (gB : Int32) (gI : Int32) (gN : Int32) (iN : Int32) (dr : Int32) (es : Int64) (of : Int64) (od : Int32) (pl : Int64) (hd : Int64) (tk : Nat → Int32) (kn : Nat → Int32) (li : Nat → Int32) (pa : Nat → Int32) (ins : Nat → Int32) (cm : Int32) (fd : Int32) (hr : Int32) (m_th : Int32) (m_nb : Int32) (m_dk : Nat → Int32) (m_lk : Int32) (m_fa : Int32) (m_pp : Int32) (m_gg : Int32) (m_jj : Int32) (m_qq : Int32) (m_mp : Nat → Int32) (m_fx : Nat → Int32) (m_tn : Nat → Int32) (m_mn : Int32) (m_oq : Nat → Int32) (m_pq : Nat → Int32) (m_fo : Nat → Int32) (m_ca : Nat → Int32) (m_hr : Int32) (m_fd : Int32) (H : Heap) (locs : List Loc) (ls : Array Slot), Rel k NW bk sz wd mb gB gI gN iN dr es of od pl hd tk kn li pa ins cm fd hr m_th m_nb m_dk m_lk m_fa m_pp m_gg m_jj m_qq m_mp m_fx m_tn m_mn m_oq m_pq m_fo m_ca m_hr m_fd → va_P (dC, dI) clAll ((wC h cI cL NW bk sz wd mb gB gI gN iN dr es of od pl hd tk kn li pa ins cm fd hr) ++ ([(o, .inl (cL, 1, .inr (.inl fo)))] ++ (wM g cI cB cZ m_th m_nb m_dk m_lk m_fa m_pp m_gg m_jj m_qq m_mp m_fx m_tn m_mn m_oq m_pq m_fo m_ca m_hr m_fd))) H → va_D (fun q : Nat => s.heap.size ≤ q) ((wC h cI cL NW bk sz wd mb gB gI gN iN dr es of od pl hd tk kn li pa ins cm fd hr) ++ ([(o, .inl (cL, 1, .inr (.inl fo)))] ++ (wM g cI cB cZ m_th m_nb m_dk m_lk m_fa m_pp m_gg m_jj m_qq m_mp m_fx m_tn m_mn m_oq m_pq m_fo m_ca m_hr m_fd))) → va_S (fun q : Nat => s.heap.size ≤ q) s.heap H locs → lv_has ls 8 [(0, .ref b), (1, .ref (h 0)), (2, .ref (g 0)), (3, .ref o), (4, .int ii)] → W p l e room_1 s m #[Value.ref b] below meth c H locs (600000 - k) (7000000 - 6 * k) (lw_Z below #[Value.ref b] s) (F0 m 33 ls []) := by
  obtain ⟨hx, hb, hrt9, hml, hown, hts, hX, hbl, hlocks, hgv⟩ := C0
  have hown : s.vm.findClass R_A = some m.cls := hown
  have htb : ∀ w ∈ TB, w.before #[Value.ref b] s = true := fun w h => hts w (List.mem_filter.mp h).1
  have hA : ∀ q : Nat, s.heap.size ≤ q → (fun q : Nat => s.heap.size ≤ q) q := fun _ h => h
  have hbA : ¬ (fun q : Nat => s.heap.size ≤ q) b := Nat.not_le.mpr hbl
  have hLi : (Int32.ofNat L - 5).toInt = (L : Int) - 5 := by
    rw [Int32.toInt_sub, Int32.toInt_ofNat_of_lt (by omega)]
    show ((L : Int) - 5).bmod (2 ^ 32) = _
    exact Int.bmod_eq_of_le (by omega) (by omega)
  intro k
  induction k with
  | zero =>
    intro iv ii hi hiv hLk hk fo bk sz wd mb gB gI gN iN dr es of od pl hd tk kn li pa ins cm fd hr m_th m_nb m_dk m_lk m_fa m_pp m_gg m_jj m_qq m_mp m_fx m_tn m_mn m_oq m_pq m_fo m_ca m_hr m_fd H locs ls hrel hP hD hS hl
    refine lv_iload hx hb d_A_law_33 (lv_at hl 4 rfl) ?_
    refine lv_aload_n hx hb d_A_law_35 rfl (lv_at hl 0 rfl) ?_
    refine va_slen hx hb hX hbl hbA hS d_A_law_36 ?_
    refine lv_iconst (v := 5) hx hb d_A_law_37 (by decide) ?_
    refine lv_isub hx hb d_A_law_38 ?_
    refine lv_icmp_gt (tgt := 546) hx hb d_A_law_39 (by decide) (fun c1 => ?_) (fun c1 => ?_)
    · refine lv_iconst (v := 1) hx hb d_A_law_546 (by decide) ?_
      refine va_forget (fun q hq => hS.2.2 q hq) ?_
      refine W.widen (k := 601024) (n := 7293000) (by omega) (by omega) ?_
      exact lw_ret hx hb hrt9 hlocks d_A_law_547
    · exfalso
      apply c1
      rw [Int32.lt_iff_toInt_lt, hLi, hi]
      omega
  | succ k ih =>
    intro iv ii hi hiv hLk hk fo bk sz wd mb gB gI gN iN dr es of od pl hd tk kn li pa ins cm fd hr m_th m_nb m_dk m_lk m_fa m_pp m_gg m_jj m_qq m_mp m_fx m_tn m_mn m_oq m_pq m_fo m_ca m_hr m_fd H locs ls hrel hP hD hS hl
    refine lv_iload hx hb d_A_law_33 (lv_at hl 4 rfl) ?_
    refine lv_aload_n hx hb d_A_law_35 rfl (lv_at hl 0 rfl) ?_
    refine va_slen hx hb hX hbl hbA hS d_A_law_36 ?_
    refine lv_iconst (v := 5) hx hb d_A_law_37 (by decide) ?_
    refine lv_isub hx hb d_A_law_38 ?_
    refine lv_icmp_gt (tgt := 546) hx hb d_A_law_39 (by decide) (fun c1 => ?_) (fun c1 => ?_)
    · refine lv_iconst (v := 1) hx hb d_A_law_546 (by decide) ?_
      refine va_forget (fun q hq => hS.2.2 q hq) ?_
      refine W.widen (k := 601024) (n := 7293000) (by omega) (by omega) ?_
      exact lw_ret hx hb hrt9 hlocks d_A_law_547
    · have hlt : iv + 5 ≤ L := by
        rw [Int32.lt_iff_toInt_lt, hLi, hi] at c1
        omega
      have hi1 := vin hi (by omega) 1 1 (by decide) (by omega) (show iv + 1 < L by omega)
      have hi2 := vin hi (by omega) 2 2 (by decide) (by omega) (show iv + 2 < L by omega)
      have hi3 := vin hi (by omega) 3 3 (by decide) (by omega) (show iv + 3 < L by omega)
      have hi4 := vin hi (by omega) 4 4 (by decide) (by omega) (show iv + 4 < L by omega)
      have hi0 : vp_in ii L := by
        intro hh
        rcases hh with h1 | h1
        · rw [Int32.lt_iff_toInt_lt, hi] at h1
          have h2 : (iv : Int) < 0 := h1
          omega
        · have h2 : ii.toNatClampNeg = iv := by
            show ii.toInt.toNat = _
            rw [hi]; rfl
          rw [h2] at h1
          omega
      have kont : ∀ (fo : Nat → Int64) (bk : Int32) (sz : Int32) (wd : Nat → Int64) (mb : Nat → Int32) (gB : Int32) (gI : Int32) (gN : Int32) (iN : Int32) (dr : Int32) (es : Int64) (of : Int64) (od : Int32) (pl : Int64) (hd : Int64) (tk : Nat → Int32) (kn : Nat → Int32) (li : Nat → Int32) (pa : Nat → Int32) (ins : Nat → Int32) (cm : Int32) (fd : Int32) (hr : Int32) (m_th : Int32) (m_nb : Int32) (m_dk : Nat → Int32) (m_lk : Int32) (m_fa : Int32) (m_pp : Int32) (m_gg : Int32) (m_jj : Int32) (m_qq : Int32) (m_mp : Nat → Int32) (m_fx : Nat → Int32) (m_tn : Nat → Int32) (m_mn : Int32) (m_oq : Nat → Int32) (m_pq : Nat → Int32) (m_fo : Nat → Int32) (m_ca : Nat → Int32) (m_hr : Int32) (m_fd : Int32) (H : Heap) (locs : List Loc) (ls : Array Slot), Rel k NW bk sz wd mb gB gI gN iN dr es of od pl hd tk kn li pa ins cm fd hr m_th m_nb m_dk m_lk m_fa m_pp m_gg m_jj m_qq m_mp m_fx m_tn m_mn m_oq m_pq m_fo m_ca m_hr m_fd → va_P (dC, dI) clAll ((wC h cI cL NW bk sz wd mb gB gI gN iN dr es of od pl hd tk kn li pa ins cm fd hr) ++ ([(o, .inl (cL, 1, .inr (.inl fo)))] ++ (wM g cI cB cZ m_th m_nb m_dk m_lk m_fa m_pp m_gg m_jj m_qq m_mp m_fx m_tn m_mn m_oq m_pq m_fo m_ca m_hr m_fd))) H → va_D (fun q : Nat => s.heap.size ≤ q) ((wC h cI cL NW bk sz wd mb gB gI gN iN dr es of od pl hd tk kn li pa ins cm fd hr) ++ ([(o, .inl (cL, 1, .inr (.inl fo)))] ++ (wM g cI cB cZ m_th m_nb m_dk m_lk m_fa m_pp m_gg m_jj m_qq m_mp m_fx m_tn m_mn m_oq m_pq m_fo m_ca m_hr m_fd))) → va_S (fun q : Nat => s.heap.size ≤ q) s.heap H locs → lv_has ls 8 [(0, .ref b), (1, .ref (h 0)), (2, .ref (g 0)), (3, .ref o), (4, .int ii)] → W p l e room_1 s m #[Value.ref b] below meth c H locs (600000 - (k + 1) + 1) (7000000 - 6 * (k + 1) + 6) (lw_Z below #[Value.ref b] s) (F0 m 540 ls []) := by
        intro fo bk sz wd mb gB gI gN iN dr es of od pl hd tk kn li pa ins cm fd hr m_th m_nb m_dk m_lk m_fa m_pp m_gg m_jj m_qq m_mp m_fx m_tn m_mn m_oq m_pq m_fo m_ca m_hr m_fd H locs ls hrel hP hD hS hl
        obtain ⟨ii', ei⟩ : ∃ z : Int32, z = ii + 5 := ⟨_, rfl⟩
        have hi' : ii'.toInt = ((iv + 5 : Nat) : Int) := by
          rw [ei, Int32.toInt_add, hi]
          have : ((iv : Int) + (5 : Int32).toInt).bmod (2 ^ 32) = (iv : Int) + 5 := Int.bmod_eq_of_le (by show _ ≤ (iv : Int) + 5; omega) (by show (iv : Int) + 5 < _; omega)
          rw [this]; omega
        refine lv_iinc (v := ii') (lv' := [(4, .int ii'), (0, .ref b), (1, .ref (h 0)), (2, .ref (g 0)), (3, .ref o)]) hx hb d_A_law_540 hl (k := 4) rfl (by rw [ei]; rfl) (by decide) rfl (fun ls hl => ?_)
        refine lv_goto (tgt := 33) hx hb d_A_law_543 (by decide) ?_
        rw [show 600000 - (k + 1) + 1 = 600000 - k by omega, show 7000000 - 6 * (k + 1) + 6 = 7000000 - 6 * k by omega]
        exact ih (iv + 5) ii' hi' (by omega) (by omega) (by omega) fo bk sz wd mb gB gI gN iN dr es of od pl hd tk kn li pa ins cm fd hr m_th m_nb m_dk m_lk m_fa m_pp m_gg m_jj m_qq m_mp m_fx m_tn m_mn m_oq m_pq m_fo m_ca m_hr m_fd H locs ls hrel hP hD hS (lv_sub hl [1, 2, 3, 4, 0] rfl)
      refine lv_aload_n hx hb d_A_law_42 rfl (lv_at hl 0 rfl) ?_
      refine lv_iload hx hb d_A_law_43 (lv_at hl 4 rfl) ?_
      refine va_sld (i := ii) hx hb hX hbl hbA hS hi0 d_A_law_45 ?_
      refine lv_bipush (v := 15) hx hb d_A_law_46 (by decide) ?_
      refine lv_iand hx hb d_A_law_48 ?_
      generalize xs (Int32.toNatClampNeg ii) &&& 15 = sw
      by_cases s0 : sw = 0
      · refine lv_tableIn (tgt := 108) hx hb d_A_law_49 (by rw [s0]; decide) (by rw [s0]; decide) (by rw [s0]; rfl) (by decide) ?_
        exact lk_put (hsim k).1 hLs hx hb hml hown htb hX hbl hbA hA hKC hKM hZ hSt hNc hi1 hi2 hi3 hi4 (by omega) (by omega) hrel hP hD hS hl kont
      by_cases s1 : sw = 1
      · refine lv_tableIn (tgt := 189) hx hb d_A_law_49 (by rw [s1]; decide) (by rw [s1]; decide) (by rw [s1]; rfl) (by decide) ?_
        exact lk_fill (hsim k).2.1 hLs hx hb hml hown htb hX hbl hbA hA hKC hKM hZ hSt hNc hi1 hi2 hi3 hi4 (by omega) (by omega) hrel hP hD hS hl kont
      by_cases s2 : sw = 2
      · refine lv_tableIn (tgt := 238) hx hb d_A_law_49 (by rw [s2]; decide) (by rw [s2]; decide) (by rw [s2]; rfl) (by decide) ?_
        exact lk_copy (hsim k).2.2.1 hLs hx hb hml hown htb hX hbl hbA hA hKC hKM hZ hSt hNc hi1 hi2 hi3 hi4 (by omega) (by omega) hrel hP hD hS hl kont
      by_cases s3 : sw = 3
      · refine lv_tableIn (tgt := 287) hx hb d_A_law_49 (by rw [s3]; decide) (by rw [s3]; decide) (by rw [s3]; rfl) (by decide) ?_
        exact lk_byteAt (hsim k).2.2.2.1 hLs hx hb hml hown htb hX hbl hbA hA hKC hKM hZ hSt hNc hi1 hi2 hi3 hi4 (by omega) (by omega) hrel hP hD hS hl kont
      by_cases s4 : sw = 4
      · refine lv_tableIn (tgt := 312) hx hb d_A_law_49 (by rw [s4]; decide) (by rw [s4]; decide) (by rw [s4]; rfl) (by decide) ?_
        exact lk_fault (hsim k).2.2.2.2.1 hLs hx hb hml hown htb hX hbl hbA hA hKC hKM hZ hSt hNc hi1 hi2 hi3 hi4 (by omega) (by omega) hrel hP hD hS hl kont
      by_cases s5 : sw = 5
      · refine lv_tableIn (tgt := 325) hx hb d_A_law_49 (by rw [s5]; decide) (by rw [s5]; decide) (by rw [s5]; rfl) (by decide) ?_
        exact lk_items (hsim k).2.2.2.2.2.1 hLs hx hb hml hown htb hX hbl hbA hA hKC hKM hZ hSt hNc hi1 hi2 hi3 hi4 (by omega) (by omega) hrel hP hD hS hl kont
      by_cases s6 : sw = 6
      · refine lv_tableIn (tgt := 341) hx hb d_A_law_49 (by rw [s6]; decide) (by rw [s6]; decide) (by rw [s6]; rfl) (by decide) ?_
        exact lk_letter (hsim k).2.2.2.2.2.2.1 hLs hx hb hml hown htb hX hbl hbA hA hKC hKM hZ hSt hNc hi1 hi2 hi3 hi4 (by omega) (by omega) hrel hP hD hS hl kont
      by_cases s7 : sw = 7
      · refine lv_tableIn (tgt := 381) hx hb d_A_law_49 (by rw [s7]; decide) (by rw [s7]; decide) (by rw [s7]; rfl) (by decide) ?_
        exact lk_about (hsim k).2.2.2.2.2.2.2.1 hLs hx hb hml hown htb hX hbl hbA hA hKC hKM hZ hSt hNc hi1 hi2 hi3 hi4 (by omega) (by omega) hrel hP hD hS hl kont
      by_cases s8 : sw = 8
      · refine lv_tableIn (tgt := 421) hx hb d_A_law_49 (by rw [s8]; decide) (by rw [s8]; decide) (by rw [s8]; rfl) (by decide) ?_
        exact lk_content (hsim k).2.2.2.2.2.2.2.2.1 hLs hx hb hml hown htb hX hbl hbA hA hKC hKM hZ hSt hNc hi1 hi2 hi3 hi4 (by omega) (by omega) hrel hP hD hS hl kont
      by_cases s9 : sw = 9
      · refine lv_tableIn (tgt := 461) hx hb d_A_law_49 (by rw [s9]; decide) (by rw [s9]; decide) (by rw [s9]; rfl) (by decide) ?_
        exact lk_enter (hsim k).2.2.2.2.2.2.2.2.2.1 hLs hx hb hml hown htb hX hbl hbA hA hKC hKM hZ hSt hNc hi1 hi2 hi3 hi4 (by omega) (by omega) hrel hP hD hS hl kont
      by_cases s10 : sw = 10
      · refine lv_tableIn (tgt := 489) hx hb d_A_law_49 (by rw [s10]; decide) (by rw [s10]; decide) (by rw [s10]; rfl) (by decide) ?_
        exact lk_up (hsim k).2.2.2.2.2.2.2.2.2.2 hLs hx hb hml hown htb hX hbl hbA hA hKC hKM hZ hSt hNc hi1 hi2 hi3 hi4 (by omega) (by omega) hrel hP hD hS hl kont
      have t0 := lv_neT (a := 0) s0 (by decide)
      have t1 := lv_neT (a := 1) s1 (by decide)
      have t2 := lv_neT (a := 2) s2 (by decide)
      have t3 := lv_neT (a := 3) s3 (by decide)
      have t4 := lv_neT (a := 4) s4 (by decide)
      have t5 := lv_neT (a := 5) s5 (by decide)
      have t6 := lv_neT (a := 6) s6 (by decide)
      have t7 := lv_neT (a := 7) s7 (by decide)
      have t8 := lv_neT (a := 8) s8 (by decide)
      have t9 := lv_neT (a := 9) s9 (by decide)
      have t10 := lv_neT (a := 10) s10 (by decide)
      refine lv_tableOut (tgt := 540) hx hb d_A_law_49 (by omega) (by decide) ?_
      refine W.widen (k := 600000 - (k + 1) + 1) (n := 7000000 - 6 * (k + 1) + 6) (by omega) (by omega) ?_
      exact kont fo bk sz wd mb gB gI gN iN dr es of od pl hd tk kn li pa ins cm fd hr m_th m_nb m_dk m_lk m_fa m_pp m_gg m_jj m_qq m_mp m_fx m_tn m_mn m_oq m_pq m_fo m_ca m_hr m_fd H locs ls (hdown k NW bk sz wd mb gB gI gN iN dr es of od pl hd tk kn li pa ins cm fd hr m_th m_nb m_dk m_lk m_fa m_pp m_gg m_jj m_qq m_mp m_fx m_tn m_mn m_oq m_pq m_fo m_ca m_hr m_fd hrel) hP hD hS hl
