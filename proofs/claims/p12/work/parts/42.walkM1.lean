set_option maxHeartbeats 4000000 in
set_option maxRecDepth 100000 in
theorem c_M_thrown {l : Launch} {dC : Nat → ClassId} {dI : Nat → Nat → Nat} {h : Nat → Nat} {cI : ClassId} {cB : ClassId} {cZ : ClassId} {th : Int32} {nb : Int32} {dk : Nat → Int32} {lk : Int32} {fa : Int32} {pp : Int32} {gg : Int32} {jj : Int32} {qq : Int32} {mp : Nat → Int32} {fx : Nat → Int32} {tn : Nat → Int32} {mn : Int32} {oq : Nat → Int32} {pq : Nat → Int32} {fo : Nat → Int32} {ca : Nat → Int32} {hr : Int32} {fd : Int32} {hs : Nat} {r : Int32} (hf : f_M_thrown th = some (r)) : Met l y_M_thrown ws_M_thrown { frames := 0, cells := 0, slots := 0, locals := 0 } (PcU (dC, dI) clAll [(cI, .int), (cB, .byte), (cZ, .boolean)] (wM h cI cB cZ th nb dk lk fa pp gg jj qq mp fx tn mn oq pq fo ca hr fd) hs [.ref (h 0)]) (QUi (dC, dI) clAll [(cI, .int), (cB, .byte), (cZ, .boolean)] (wM h cI cB cZ th nb dk lk fa pp gg jj qq mp fx tn mn oq pq fo ca hr fd) (wM h cI cB cZ th nb dk lk fa pp gg jj qq mp fx tn mn oq pq fo ca hr fd) hs r) 0 0 (va_A (wM h cI cB cZ th nb dk lk fa pp gg jj qq mp fx tn mn oq pq fo ca hr fd) hs) := by
  refine mUi (cc := b_M_thrown) (maxL := 1) (by decide) rfl (Nat.le_of_ble_eq_true rfl) ?_
  intro p e s m args below meth c Q hx hb hml hts hown A hA hK hP hD hS hret ls hl
  have htb : ∀ w ∈ TB, w.before args s = true := fun w h => hts w (List.mem_cons_of_mem _ h)
  have hl : lv_has ls 1 [(0, .ref (h 0))] := hl
  unfold f_M_thrown at hf
  refine lv_aload_n hx hb d_M_thrown_0 rfl (lv_at hl 0 rfl) ?_
  refine va_get (D := (dC, dI)) (ci := 5) (v := .int th) (C := R_M) (T := T_M) (N := 19) hx hb htb in_M hown hK hP 0 rfl rfl 0 (by decide) (htb _ tw_766) (fun _ h9 => h9) rfl d_M_thrown_1 ?_
  cases hf
  exact hret _ _ _ _ hP hD hS d_M_thrown_4
set_option maxHeartbeats 4000000 in
set_option maxRecDepth 100000 in
theorem c_M_fails {l : Launch} {dC : Nat → ClassId} {dI : Nat → Nat → Nat} {h : Nat → Nat} {cI : ClassId} {cB : ClassId} {cZ : ClassId} {th : Int32} {nb : Int32} {dk : Nat → Int32} {lk : Int32} {fa : Int32} {pp : Int32} {gg : Int32} {jj : Int32} {qq : Int32} {mp : Nat → Int32} {fx : Nat → Int32} {tn : Nat → Int32} {mn : Int32} {oq : Nat → Int32} {pq : Nat → Int32} {fo : Nat → Int32} {ca : Nat → Int32} {hr : Int32} {fd : Int32} {hs : Nat} {a1 : Int32} {a2 : Int32} {r : Int32} {th' : Int32} (hf : f_M_fails th a1 a2 = some (r, th')) : Met l y_M_fails ws_M_fails { frames := 0, cells := 0, slots := 0, locals := 0 } (PcU (dC, dI) clAll [(cI, .int), (cB, .byte), (cZ, .boolean)] (wM h cI cB cZ th nb dk lk fa pp gg jj qq mp fx tn mn oq pq fo ca hr fd) hs [.ref (h 0), .int a1, .int a2]) (QUi (dC, dI) clAll [(cI, .int), (cB, .byte), (cZ, .boolean)] (wM h cI cB cZ th nb dk lk fa pp gg jj qq mp fx tn mn oq pq fo ca hr fd) (wM h cI cB cZ th' nb dk lk fa pp gg jj qq mp fx tn mn oq pq fo ca hr fd) hs r) 0 0 (va_A (wM h cI cB cZ th nb dk lk fa pp gg jj qq mp fx tn mn oq pq fo ca hr fd) hs) := by
  refine mUz (cc := b_M_fails) (maxL := 3) (by decide) rfl (Nat.le_of_ble_eq_true rfl) ?_
  intro p e s m args below meth c Q hx hb hml hts hown A hA hK hP hD hS hret ls hl
  have htb : ∀ w ∈ TB, w.before args s = true := fun w h => hts w (List.mem_cons_of_mem _ h)
  have hl : lv_has ls 3 [(0, .ref (h 0)), (1, .int a1), (2, .int a2)] := hl
  have hj_16 : ∀ (th : Int32) (H : Heap) (locs : List Loc) (ls : Array Slot), f_M_fails_16 th = some (r, th') → va_P (dC, dI) clAll (wM h cI cB cZ th nb dk lk fa pp gg jj qq mp fx tn mn oq pq fo ca hr fd) H → va_D A (wM h cI cB cZ th nb dk lk fa pp gg jj qq mp fx tn mn oq pq fo ca hr fd) → va_S A s.heap H locs → lv_has ls 3 [(0, .ref (h 0))] → W p l e (headSpec ws_M_fails { frames := 0, cells := 0, slots := 0, locals := 0 }).room s m args below meth c H locs 0 0 Q (F0 m 16 ls []) := by
    intro th H locs ls hf hP hD hS hl
    unfold f_M_fails_16 at hf
    refine lv_aload_n hx hb d_M_fails_16 rfl (lv_at hl 0 rfl) ?_
    refine va_get (D := (dC, dI)) (ci := 5) (v := .int th) (C := R_M) (T := T_M) (N := 19) hx hb htb in_M hown hK hP 0 rfl rfl 0 (by decide) (htb _ tw_766) (fun _ h9 => h9) rfl d_M_fails_17 ?_
    refine lv_if_eq (tgt := 27) hx hb d_M_fails_20 (by decide) (fun c_1 => ?_) (fun c_1 => ?_)
    · have hf := ite_t c_1 hf
      refine lv_iconst (v := 0) hx hb d_M_fails_27 (by decide) ?_
      cases hf
      exact hret _ _ _ _ (Or.inl rfl) hP hD hS d_M_fails_28
    · have hf := ite_f c_1 hf
      refine lv_iconst (v := 1) hx hb d_M_fails_23 (by decide) ?_
      refine lv_goto (tgt := 28) hx hb d_M_fails_24 (by decide) ?_
      cases hf
      exact hret _ _ _ _ (Or.inr rfl) hP hD hS d_M_fails_28
  unfold f_M_fails at hf
  refine lv_iload_n hx hb d_M_fails_0 rfl (lv_at hl 1 rfl) ?_
  refine lv_if_eq (tgt := 16) hx hb d_M_fails_1 (by decide) (fun c_1 => ?_) (fun c_1 => ?_)
  · have hf := ite_t c_1 hf
    exact hj_16 th _ _ _ hf hP hD hS (lv_sub hl [0] rfl)
  · have hf := ite_f c_1 hf
    refine lv_aload_n hx hb d_M_fails_4 rfl (lv_at hl 0 rfl) ?_
    refine va_get (D := (dC, dI)) (ci := 5) (v := .int th) (C := R_M) (T := T_M) (N := 19) hx hb htb in_M hown hK hP 0 rfl rfl 0 (by decide) (htb _ tw_766) (fun _ h9 => h9) rfl d_M_fails_5 ?_
    refine lv_if_ne (tgt := 16) hx hb d_M_fails_8 (by decide) (fun c_2 => ?_) (fun c_2 => ?_)
    · have hf := ite_f c_2 hf
      exact hj_16 th _ _ _ hf hP hD hS (lv_sub hl [0] rfl)
    · have hf := ite_t c_2 hf
      refine lv_aload_n hx hb d_M_fails_11 rfl (lv_at hl 0 rfl) ?_
      refine lv_iload_n hx hb d_M_fails_12 rfl (lv_at hl 2 rfl) ?_
      refine va_put (D := (dC, dI)) (ci := 5) (v := .int a2) (ty := .int) (C := R_M) (T := T_M) (N := 19) hx hb htb in_M ty_M tyok_M nm_M hown hK hP hD hS 0 rfl rfl 0 (by decide) (htb _ tw_766) (fun _ h9 => h9) rfl (by decide +kernel) rfl rfl (Nat.le_of_ble_eq_true rfl) d_M_fails_13 (fun H locs hP hD hS => ?_)
      have hP : va_P (dC, dI) clAll (wM h cI cB cZ a2 nb dk lk fa pp gg jj qq mp fx tn mn oq pq fo ca hr fd) H := hP
      have hD : va_D A (wM h cI cB cZ a2 nb dk lk fa pp gg jj qq mp fx tn mn oq pq fo ca hr fd) := hD
      exact hj_16 a2 _ _ _ hf hP hD hS (lv_sub hl [0] rfl)
set_option maxHeartbeats 4000000 in
set_option maxRecDepth 100000 in
theorem c_M_one {l : Launch} {dC : Nat → ClassId} {dI : Nat → Nat → Nat} {h : Nat → Nat} {cI : ClassId} {cB : ClassId} {cZ : ClassId} {th : Int32} {nb : Int32} {dk : Nat → Int32} {lk : Int32} {fa : Int32} {pp : Int32} {gg : Int32} {jj : Int32} {qq : Int32} {mp : Nat → Int32} {fx : Nat → Int32} {tn : Nat → Int32} {mn : Int32} {oq : Nat → Int32} {pq : Nat → Int32} {fo : Nat → Int32} {ca : Nat → Int32} {hr : Int32} {fd : Int32} {hs : Nat} {a1 : Int32} {r : Int32} (hf : f_M_one dk a1 = some (r)) : Met l y_M_one ws_M_one { frames := 0, cells := 0, slots := 0, locals := 0 } (PcU (dC, dI) clAll [(cI, .int), (cB, .byte), (cZ, .boolean)] (wM h cI cB cZ th nb dk lk fa pp gg jj qq mp fx tn mn oq pq fo ca hr fd) hs [.ref (h 0), .int a1]) (QUi (dC, dI) clAll [(cI, .int), (cB, .byte), (cZ, .boolean)] (wM h cI cB cZ th nb dk lk fa pp gg jj qq mp fx tn mn oq pq fo ca hr fd) (wM h cI cB cZ th nb dk lk fa pp gg jj qq mp fx tn mn oq pq fo ca hr fd) hs r) 0 0 (va_A (wM h cI cB cZ th nb dk lk fa pp gg jj qq mp fx tn mn oq pq fo ca hr fd) hs) := by
  refine mUi (cc := b_M_one) (maxL := 2) (by decide) rfl (Nat.le_of_ble_eq_true rfl) ?_
  intro p e s m args below meth c Q hx hb hml hts hown A hA hK hP hD hS hret ls hl
  have htb : ∀ w ∈ TB, w.before args s = true := fun w h => hts w (List.mem_cons_of_mem _ h)
  have hl : lv_has ls 2 [(0, .ref (h 0)), (1, .int a1)] := hl
  unfold f_M_one at hf
  refine lv_aload_n hx hb d_M_one_0 rfl (lv_at hl 0 rfl) ?_
  refine va_get (D := (dC, dI)) (ci := 5) (v := .ref (h 1)) (C := R_M) (T := T_M) (N := 19) hx hb htb in_M hown hK hP 0 rfl rfl 2 (by decide) (htb _ tw_768) (fun _ h9 => h9) rfl d_M_one_1 ?_
  refine lv_iload_n hx hb d_M_one_4 rfl (lv_at hl 1 rfl) ?_
  obtain ⟨c_1, hf⟩ := gd_s hf
  refine va_bald (i := a1) hx hb hK hP 1 1 rfl rfl c_1 d_M_one_5 ?_
  refine lv_sipush (v := 255) hx hb d_M_one_6 (by decide) ?_
  refine lv_iand hx hb d_M_one_9 ?_
  cases hf
  exact hret _ _ _ _ hP hD hS d_M_one_10
set_option maxHeartbeats 4000000 in
set_option maxRecDepth 100000 in
theorem c_M_two {l : Launch} {dC : Nat → ClassId} {dI : Nat → Nat → Nat} {h : Nat → Nat} {cI : ClassId} {cB : ClassId} {cZ : ClassId} {th : Int32} {nb : Int32} {dk : Nat → Int32} {lk : Int32} {fa : Int32} {pp : Int32} {gg : Int32} {jj : Int32} {qq : Int32} {mp : Nat → Int32} {fx : Nat → Int32} {tn : Nat → Int32} {mn : Int32} {oq : Nat → Int32} {pq : Nat → Int32} {fo : Nat → Int32} {ca : Nat → Int32} {hr : Int32} {fd : Int32} {hs : Nat} {a1 : Int32} {r : Int32} (hf : f_M_two dk a1 = some (r)) : Met l y_M_two ws_M_two { frames := 1, cells := 0, slots := 0, locals := 21 } (PcU (dC, dI) clAll [(cI, .int), (cB, .byte), (cZ, .boolean)] (wM h cI cB cZ th nb dk lk fa pp gg jj qq mp fx tn mn oq pq fo ca hr fd) hs [.ref (h 0), .int a1]) (QUi (dC, dI) clAll [(cI, .int), (cB, .byte), (cZ, .boolean)] (wM h cI cB cZ th nb dk lk fa pp gg jj qq mp fx tn mn oq pq fo ca hr fd) (wM h cI cB cZ th nb dk lk fa pp gg jj qq mp fx tn mn oq pq fo ca hr fd) hs r) 0 0 (va_A (wM h cI cB cZ th nb dk lk fa pp gg jj qq mp fx tn mn oq pq fo ca hr fd) hs) := by
  refine mUi (cc := b_M_two) (maxL := 2) (by decide) rfl (Nat.le_of_ble_eq_true rfl) ?_
  intro p e s m args below meth c Q hx hb hml hts hown A hA hK hP hD hS hret ls hl
  have htb : ∀ w ∈ TB, w.before args s = true := fun w h => hts w (List.mem_cons_of_mem _ h)
  have hl : lv_has ls 2 [(0, .ref (h 0)), (1, .int a1)] := hl
  unfold f_M_two at hf
  refine lv_aload_n hx hb d_M_two_0 rfl (lv_at hl 0 rfl) ?_
  refine lv_iload_n hx hb d_M_two_1 rfl (lv_at hl 1 rfl) ?_
  obtain ⟨r_1, hc_2, hf⟩ := bd1_s hf
  refine ucVi (As := [.int a1]) (rest := []) ⟨hx, hb, hml, hown, htb⟩ hK hP hD hS hA (fun hs => c_M_one hc_2) (cwV 1 htb (gV tw_854 tw_856 tw_32 tw_74 tw_857) rfl rfl rfl (by decide +kernel) ⟨Nat.le_of_ble_eq_true rfl, Nat.le_of_ble_eq_true rfl⟩) 0 5 rfl rfl rfl rfl rfl hl.1 (Nat.le_of_ble_eq_true rfl) d_M_two_2 ⟨Nat.zero_le _, Nat.zero_le _⟩ (fun H locs hP hD hS => ?_)
  refine lv_sipush (v := 256) hx hb d_M_two_5 (by decide) ?_
  refine lv_aload_n hx hb d_M_two_8 rfl (lv_at hl 0 rfl) ?_
  refine lv_iload_n hx hb d_M_two_9 rfl (lv_at hl 1 rfl) ?_
  refine lv_iconst (v := 1) hx hb d_M_two_10 (by decide) ?_
  refine lv_iadd hx hb d_M_two_11 ?_
  obtain ⟨r_3, hc_4, hf⟩ := bd1_s hf
  refine ucVi (As := [.int (a1 + ((1 : Int32)))]) (rest := [.int ((256 : Int32)), .int r_1]) ⟨hx, hb, hml, hown, htb⟩ hK hP hD hS hA (fun hs => c_M_one hc_4) (cwV 1 htb (gV tw_854 tw_856 tw_32 tw_74 tw_857) rfl rfl rfl (by decide +kernel) ⟨Nat.le_of_ble_eq_true rfl, Nat.le_of_ble_eq_true rfl⟩) 0 5 rfl rfl rfl rfl rfl hl.1 (Nat.le_of_ble_eq_true rfl) d_M_two_12 ⟨Nat.zero_le _, Nat.zero_le _⟩ (fun H locs hP hD hS => ?_)
  refine lv_imul hx hb d_M_two_15 ?_
  refine lv_iadd hx hb d_M_two_16 ?_
  cases hf
  exact hret _ _ _ _ hP hD hS d_M_two_17
set_option maxHeartbeats 4000000 in
set_option maxRecDepth 100000 in
theorem c_M_four {l : Launch} {dC : Nat → ClassId} {dI : Nat → Nat → Nat} {h : Nat → Nat} {cI : ClassId} {cB : ClassId} {cZ : ClassId} {th : Int32} {nb : Int32} {dk : Nat → Int32} {lk : Int32} {fa : Int32} {pp : Int32} {gg : Int32} {jj : Int32} {qq : Int32} {mp : Nat → Int32} {fx : Nat → Int32} {tn : Nat → Int32} {mn : Int32} {oq : Nat → Int32} {pq : Nat → Int32} {fo : Nat → Int32} {ca : Nat → Int32} {hr : Int32} {fd : Int32} {hs : Nat} {a1 : Int32} {r : Int64} (hf : f_M_four dk a1 = some (r)) : Met l y_M_four ws_M_four { frames := 2, cells := 0, slots := 0, locals := 42 } (PcU (dC, dI) clAll [(cI, .int), (cB, .byte), (cZ, .boolean)] (wM h cI cB cZ th nb dk lk fa pp gg jj qq mp fx tn mn oq pq fo ca hr fd) hs [.ref (h 0), .int a1]) (QUl (dC, dI) clAll [(cI, .int), (cB, .byte), (cZ, .boolean)] (wM h cI cB cZ th nb dk lk fa pp gg jj qq mp fx tn mn oq pq fo ca hr fd) (wM h cI cB cZ th nb dk lk fa pp gg jj qq mp fx tn mn oq pq fo ca hr fd) hs r) 0 0 (va_A (wM h cI cB cZ th nb dk lk fa pp gg jj qq mp fx tn mn oq pq fo ca hr fd) hs) := by
  refine mUl (cc := b_M_four) (maxL := 2) (by decide) rfl (Nat.le_of_ble_eq_true rfl) ?_
  intro p e s m args below meth c Q hx hb hml hts hown A hA hK hP hD hS hret ls hl
  have htb : ∀ w ∈ TB, w.before args s = true := fun w h => hts w (List.mem_cons_of_mem _ h)
  have hl : lv_has ls 2 [(0, .ref (h 0)), (1, .int a1)] := hl
  unfold f_M_four at hf
  refine lv_aload_n hx hb d_M_four_0 rfl (lv_at hl 0 rfl) ?_
  refine lv_iload_n hx hb d_M_four_1 rfl (lv_at hl 1 rfl) ?_
  obtain ⟨r_1, hc_2, hf⟩ := bd1_s hf
  refine ucVi (As := [.int a1]) (rest := []) ⟨hx, hb, hml, hown, htb⟩ hK hP hD hS hA (fun hs => c_M_two hc_2) (cwV 1 htb (gV tw_878 tw_880 tw_37 tw_74 tw_881) rfl rfl rfl (by decide +kernel) ⟨Nat.le_of_ble_eq_true rfl, Nat.le_of_ble_eq_true rfl⟩) 0 5 rfl rfl rfl rfl rfl hl.1 (Nat.le_of_ble_eq_true rfl) d_M_four_2 ⟨Nat.zero_le _, Nat.zero_le _⟩ (fun H locs hP hD hS => ?_)
  refine lv_i2l hx hb d_M_four_5 rfl ?_
  refine lv_ldc2 (v := 65536) hx hb hown (htb _ tw_882) d_M_four_6 ?_
  refine lv_aload_n hx hb d_M_four_9 rfl (lv_at hl 0 rfl) ?_
  refine lv_iload_n hx hb d_M_four_10 rfl (lv_at hl 1 rfl) ?_
  refine lv_iconst (v := 2) hx hb d_M_four_11 (by decide) ?_
  refine lv_iadd hx hb d_M_four_12 ?_
  obtain ⟨r_3, hc_4, hf⟩ := bd1_s hf
  refine ucVi (As := [.int (a1 + ((2 : Int32)))]) (rest := [.long ((65536 : Int64)), .long (Int32.toInt64 r_1)]) ⟨hx, hb, hml, hown, htb⟩ hK hP hD hS hA (fun hs => c_M_two hc_4) (cwV 1 htb (gV tw_878 tw_880 tw_37 tw_74 tw_881) rfl rfl rfl (by decide +kernel) ⟨Nat.le_of_ble_eq_true rfl, Nat.le_of_ble_eq_true rfl⟩) 0 5 rfl rfl rfl rfl rfl hl.1 (Nat.le_of_ble_eq_true rfl) d_M_four_13 ⟨Nat.zero_le _, Nat.zero_le _⟩ (fun H locs hP hD hS => ?_)
  refine lv_i2l hx hb d_M_four_16 rfl ?_
  refine lv_lmul hx hb d_M_four_17 ?_
  refine lv_ladd hx hb d_M_four_18 ?_
  cases hf
  exact hret _ _ _ _ hP hD hS d_M_four_19
set_option maxHeartbeats 4000000 in
set_option maxRecDepth 100000 in
theorem c_M_isThere {l : Launch} {dC : Nat → ClassId} {dI : Nat → Nat → Nat} {h : Nat → Nat} {cI : ClassId} {cB : ClassId} {cZ : ClassId} {th : Int32} {nb : Int32} {dk : Nat → Int32} {lk : Int32} {fa : Int32} {pp : Int32} {gg : Int32} {jj : Int32} {qq : Int32} {mp : Nat → Int32} {fx : Nat → Int32} {tn : Nat → Int32} {mn : Int32} {oq : Nat → Int32} {pq : Nat → Int32} {fo : Nat → Int32} {ca : Nat → Int32} {hr : Int32} {fd : Int32} {hs : Nat} {a1 : Int64} {a3 : Int64} {r : Int32} (hf : f_M_isThere nb a1 a3 = some (r)) : Met l y_M_isThere ws_M_isThere { frames := 0, cells := 0, slots := 0, locals := 0 } (PcU (dC, dI) clAll [(cI, .int), (cB, .byte), (cZ, .boolean)] (wM h cI cB cZ th nb dk lk fa pp gg jj qq mp fx tn mn oq pq fo ca hr fd) hs [.ref (h 0), .long a1, .long a3]) (QUi (dC, dI) clAll [(cI, .int), (cB, .byte), (cZ, .boolean)] (wM h cI cB cZ th nb dk lk fa pp gg jj qq mp fx tn mn oq pq fo ca hr fd) (wM h cI cB cZ th nb dk lk fa pp gg jj qq mp fx tn mn oq pq fo ca hr fd) hs r) 0 0 (va_A (wM h cI cB cZ th nb dk lk fa pp gg jj qq mp fx tn mn oq pq fo ca hr fd) hs) := by
  refine mUz (cc := b_M_isThere) (maxL := 5) (by decide) rfl (Nat.le_of_ble_eq_true rfl) ?_
  intro p e s m args below meth c Q hx hb hml hts hown A hA hK hP hD hS hret ls hl
  have htb : ∀ w ∈ TB, w.before args s = true := fun w h => hts w (List.mem_cons_of_mem _ h)
  have hl : lv_has ls 5 [(0, .ref (h 0)), (1, .long a1), (3, .long a3)] := hl
  unfold f_M_isThere at hf
  refine lv_lload_n hx hb d_M_isThere_0 rfl (lv_at hl 2 rfl) ?_
  refine lv_lconst (v := 0) hx hb d_M_isThere_1 (by decide) ?_
  refine lc_lt (tgt := 38) hx hb d_M_isThere_2 d_M_isThere_3 (by decide) (fun c_1 => ?_) (fun c_1 => ?_)
  · have hf := ite_t c_1 hf
    refine lv_iconst (v := 0) hx hb d_M_isThere_38 (by decide) ?_
    cases hf
    exact hret _ _ _ _ (Or.inl rfl) hP hD hS d_M_isThere_39
  · have hf := ite_f c_1 hf
    refine lv_lload_n hx hb d_M_isThere_6 rfl (lv_at hl 2 rfl) ?_
    refine lv_lconst (v := 0) hx hb d_M_isThere_7 (by decide) ?_
    refine lc_eq (tgt := 34) hx hb d_M_isThere_8 d_M_isThere_9 (by decide) (fun c_2 => ?_) (fun c_2 => ?_)
    · have hf := ite_t c_2 hf
      refine lv_iconst (v := 1) hx hb d_M_isThere_34 (by decide) ?_
      refine lv_goto (tgt := 39) hx hb d_M_isThere_35 (by decide) ?_
      cases hf
      exact hret _ _ _ _ (Or.inr rfl) hP hD hS d_M_isThere_39
    · have hf := ite_f c_2 hf
      refine lv_lload_n hx hb d_M_isThere_12 rfl (lv_at hl 1 rfl) ?_
      refine lv_lconst (v := 0) hx hb d_M_isThere_13 (by decide) ?_
      refine lc_lt (tgt := 38) hx hb d_M_isThere_14 d_M_isThere_15 (by decide) (fun c_3 => ?_) (fun c_3 => ?_)
      · have hf := ite_t c_3 hf
        refine lv_iconst (v := 0) hx hb d_M_isThere_38 (by decide) ?_
        cases hf
        exact hret _ _ _ _ (Or.inl rfl) hP hD hS d_M_isThere_39
      · have hf := ite_f c_3 hf
        refine lv_lload_n hx hb d_M_isThere_18 rfl (lv_at hl 1 rfl) ?_
        refine lv_lload_n hx hb d_M_isThere_19 rfl (lv_at hl 2 rfl) ?_
        refine lv_ladd hx hb d_M_isThere_20 ?_
        refine lv_ldc2 (v := 1024) hx hb hown (htb _ tw_837) d_M_isThere_21 ?_
        refine lv_aload_n hx hb d_M_isThere_24 rfl (lv_at hl 0 rfl) ?_
        refine va_get (D := (dC, dI)) (ci := 5) (v := .int nb) (C := R_M) (T := T_M) (N := 19) hx hb htb in_M hown hK hP 0 rfl rfl 1 (by decide) (htb _ tw_767) (fun _ h9 => h9) rfl d_M_isThere_25 ?_
        refine lv_i2l hx hb d_M_isThere_28 rfl ?_
        refine lv_lmul hx hb d_M_isThere_29 ?_
        refine lc_gt (tgt := 38) hx hb d_M_isThere_30 d_M_isThere_31 (by decide) (fun c_4 => ?_) (fun c_4 => ?_)
        · have hf := ite_t c_4 hf
          refine lv_iconst (v := 0) hx hb d_M_isThere_38 (by decide) ?_
          cases hf
          exact hret _ _ _ _ (Or.inl rfl) hP hD hS d_M_isThere_39
        · have hf := ite_f c_4 hf
          refine lv_iconst (v := 1) hx hb d_M_isThere_34 (by decide) ?_
          refine lv_goto (tgt := 39) hx hb d_M_isThere_35 (by decide) ?_
          cases hf
          exact hret _ _ _ _ (Or.inr rfl) hP hD hS d_M_isThere_39
set_option maxHeartbeats 4000000 in
set_option maxRecDepth 100000 in
theorem c_M_changed {l : Launch} {dC : Nat → ClassId} {dI : Nat → Nat → Nat} {h : Nat → Nat} {cI : ClassId} {cB : ClassId} {cZ : ClassId} {th : Int32} {nb : Int32} {dk : Nat → Int32} {lk : Int32} {fa : Int32} {pp : Int32} {gg : Int32} {jj : Int32} {qq : Int32} {mp : Nat → Int32} {fx : Nat → Int32} {tn : Nat → Int32} {mn : Int32} {oq : Nat → Int32} {pq : Nat → Int32} {fo : Nat → Int32} {ca : Nat → Int32} {hr : Int32} {fd : Int32} {hs : Nat} {r : Int32} {lk' : Int32} {hr' : Int32} (hf : f_M_changed lk hr = some (r, lk', hr')) : Met l y_M_changed ws_M_changed { frames := 0, cells := 0, slots := 0, locals := 0 } (PcU (dC, dI) clAll [(cI, .int), (cB, .byte), (cZ, .boolean)] (wM h cI cB cZ th nb dk lk fa pp gg jj qq mp fx tn mn oq pq fo ca hr fd) hs [.ref (h 0)]) (QUi (dC, dI) clAll [(cI, .int), (cB, .byte), (cZ, .boolean)] (wM h cI cB cZ th nb dk lk fa pp gg jj qq mp fx tn mn oq pq fo ca hr fd) (wM h cI cB cZ th nb dk lk' fa pp gg jj qq mp fx tn mn oq pq fo ca hr' fd) hs r) 0 0 (va_A (wM h cI cB cZ th nb dk lk fa pp gg jj qq mp fx tn mn oq pq fo ca hr fd) hs) := by
  refine mUz (cc := b_M_changed) (maxL := 1) (by decide) rfl (Nat.le_of_ble_eq_true rfl) ?_
  intro p e s m args below meth c Q hx hb hml hts hown A hA hK hP hD hS hret ls hl
  have htb : ∀ w ∈ TB, w.before args s = true := fun w h => hts w (List.mem_cons_of_mem _ h)
  have hl : lv_has ls 1 [(0, .ref (h 0))] := hl
  unfold f_M_changed at hf
  refine lv_aload_n hx hb d_M_changed_0 rfl (lv_at hl 0 rfl) ?_
  refine lv_iconst (v := 0) hx hb d_M_changed_1 (by decide) ?_
  refine va_put (D := (dC, dI)) (ci := 5) (v := .int ((0 : Int32))) (ty := .boolean) (C := R_M) (T := T_M) (N := 19) hx hb htb in_M ty_M tyok_M nm_M hown hK hP hD hS 0 rfl rfl 3 (by decide) (htb _ tw_769) (fun _ h9 => h9) rfl (by decide +kernel) rfl rfl (Nat.le_of_ble_eq_true rfl) d_M_changed_2 (fun H locs hP hD hS => ?_)
  have hP : va_P (dC, dI) clAll (wM h cI cB cZ th nb dk ((0 : Int32)) fa pp gg jj qq mp fx tn mn oq pq fo ca hr fd) H := hP
  have hD : va_D A (wM h cI cB cZ th nb dk ((0 : Int32)) fa pp gg jj qq mp fx tn mn oq pq fo ca hr fd) := hD
  refine lv_aload_n hx hb d_M_changed_5 rfl (lv_at hl 0 rfl) ?_
  refine lv_iconst (v := 2) hx hb d_M_changed_6 (by decide) ?_
  refine va_put (D := (dC, dI)) (ci := 5) (v := .int ((2 : Int32))) (ty := .int) (C := R_M) (T := T_M) (N := 19) hx hb htb in_M ty_M tyok_M nm_M hown hK hP hD hS 0 rfl rfl 17 (by decide) (htb _ tw_783) (fun _ h9 => h9) rfl (by decide +kernel) rfl rfl (Nat.le_of_ble_eq_true rfl) d_M_changed_7 (fun H locs hP hD hS => ?_)
  have hP : va_P (dC, dI) clAll (wM h cI cB cZ th nb dk ((0 : Int32)) fa pp gg jj qq mp fx tn mn oq pq fo ca ((2 : Int32)) fd) H := hP
  have hD : va_D A (wM h cI cB cZ th nb dk ((0 : Int32)) fa pp gg jj qq mp fx tn mn oq pq fo ca ((2 : Int32)) fd) := hD
  refine lv_iconst (v := 1) hx hb d_M_changed_10 (by decide) ?_
  cases hf
  exact hret _ _ _ _ (Or.inr rfl) hP hD hS d_M_changed_11
set_option maxHeartbeats 4000000 in
set_option maxRecDepth 100000 in
theorem c_M_put {l : Launch} {dC : Nat → ClassId} {dI : Nat → Nat → Nat} {N : Nat} {h : Nat → Nat} {cI : ClassId} {cB : ClassId} {cZ : ClassId} {th : Int32} {nb : Int32} {dk : Nat → Int32} {lk : Int32} {fa : Int32} {pp : Int32} {gg : Int32} {jj : Int32} {qq : Int32} {mp : Nat → Int32} {fx : Nat → Int32} {tn : Nat → Int32} {mn : Int32} {oq : Nat → Int32} {pq : Nat → Int32} {fo : Nat → Int32} {ca : Nat → Int32} {hr : Int32} {fd : Int32} {hs : Nat} {a1 : Int32} {a2 : Int32} {a3 : Int64} {r : Int32} {th' : Int32} {dk' : Nat → Int32} {lk' : Int32} {hr' : Int32} (hf : f_M_put N th nb dk lk hr a1 a2 a3 = some (r, th', dk', lk', hr')) : Met l y_M_put ws_M_put { frames := 1, cells := 0, slots := 0, locals := 24 } (PcU (dC, dI) clAll [(cI, .int), (cB, .byte), (cZ, .boolean)] (wM h cI cB cZ th nb dk lk fa pp gg jj qq mp fx tn mn oq pq fo ca hr fd) hs [.ref (h 0), .int a1, .int a2, .long a3]) (QUi (dC, dI) clAll [(cI, .int), (cB, .byte), (cZ, .boolean)] (wM h cI cB cZ th nb dk lk fa pp gg jj qq mp fx tn mn oq pq fo ca hr fd) (wM h cI cB cZ th' nb dk' lk' fa pp gg jj qq mp fx tn mn oq pq fo ca hr' fd) hs r) 0 0 (va_A (wM h cI cB cZ th nb dk lk fa pp gg jj qq mp fx tn mn oq pq fo ca hr fd) hs) := by
  refine mUz (cc := b_M_put) (maxL := 6) (by decide) rfl (Nat.le_of_ble_eq_true rfl) ?_
  intro p e s m args below meth c Q hx hb hml hts hown A hA hK hP hD hS hret ls hl
  have htb : ∀ w ∈ TB, w.before args s = true := fun w h => hts w (List.mem_cons_of_mem _ h)
  have hl : lv_has ls 6 [(0, .ref (h 0)), (1, .int a1), (2, .int a2), (3, .long a3)] := hl
  have hj_32 : ∀ (k_32 : Nat) (th : Int32) (dk : Nat → Int32) (lk : Int32) (hr : Int32) (x1 : Int32) (x2 : Int32) (x3 : Int64) (x5 : Int32) (H : Heap) (locs : List Loc) (ls : Array Slot), f_M_put_32 N nb k_32 th dk lk hr x1 x2 x3 x5 = some (r, th', dk', lk', hr') → va_P (dC, dI) clAll (wM h cI cB cZ th nb dk lk fa pp gg jj qq mp fx tn mn oq pq fo ca hr fd) H → va_D A (wM h cI cB cZ th nb dk lk fa pp gg jj qq mp fx tn mn oq pq fo ca hr fd) → va_S A s.heap H locs → lv_has ls 6 [(0, .ref (h 0)), (1, .int x1), (2, .int x2), (3, .long x3), (5, .int x5)] → W p l e (headSpec ws_M_put { frames := 1, cells := 0, slots := 0, locals := 24 }).room s m args below meth c H locs 0 0 Q (F0 m 32 ls []) := by
    intro k_32
    induction k_32 with
    | zero => intro _ _ _ _ _ _ _ _ _ _ _ hf; exact absurd hf (by simp [f_M_put_32])
    | succ k_32 ih_32 =>
      intro th dk lk hr x1 x2 x3 x5 H locs ls hf hP hD hS hl
      rw [f_M_put_32] at hf
      refine lv_iload hx hb d_M_put_32 (lv_at hl 4 rfl) ?_
      refine lv_iload_n hx hb d_M_put_34 rfl (lv_at hl 2 rfl) ?_
      refine lv_icmp_ge (tgt := 62) hx hb d_M_put_35 (by decide) (fun c_1 => ?_) (fun c_1 => ?_)
      · have hf := ite_t c_1 hf
        refine lv_aload_n hx hb d_M_put_62 rfl (lv_at hl 0 rfl) ?_
        obtain ⟨r_2, lk_3, hr_4, hc_5, hf⟩ := bd3_s hf
        refine ucVi (As := []) (rest := []) ⟨hx, hb, hml, hown, htb⟩ hK hP hD hS hA (fun hs => c_M_changed hc_5) (cwV 0 htb (gV tw_838 tw_840 tw_31 tw_74 tw_841) rfl rfl rfl (by decide +kernel) ⟨Nat.le_of_ble_eq_true rfl, Nat.le_of_ble_eq_true rfl⟩) 0 5 rfl rfl rfl rfl rfl hl.1 (Nat.le_of_ble_eq_true rfl) d_M_put_63 ⟨Nat.zero_le _, Nat.zero_le _⟩ (fun H locs hP hD hS => ?_)
        obtain ⟨c_6, hf⟩ := gp_s hf
        cases hf
        exact hret _ _ _ _ c_6 hP hD hS d_M_put_66
      · have hf := ite_f c_1 hf
        refine lv_aload_n hx hb d_M_put_38 rfl (lv_at hl 0 rfl) ?_
        refine va_get (D := (dC, dI)) (ci := 5) (v := .ref (h 1)) (C := R_M) (T := T_M) (N := 19) hx hb htb in_M hown hK hP 0 rfl rfl 2 (by decide) (htb _ tw_768) (fun _ h9 => h9) rfl d_M_put_39 ?_
        refine lv_iload_n hx hb d_M_put_42 rfl (lv_at hl 1 rfl) ?_
        refine lv_iload hx hb d_M_put_43 (lv_at hl 4 rfl) ?_
        refine lv_iadd hx hb d_M_put_45 ?_
        refine lv_lload_n hx hb d_M_put_46 rfl (lv_at hl 3 rfl) ?_
        refine lv_bipush (v := 8) hx hb d_M_put_47 (by decide) ?_
        refine lv_iload hx hb d_M_put_49 (lv_at hl 4 rfl) ?_
        refine lv_imul hx hb d_M_put_51 ?_
        refine lv_lshr hx hb d_M_put_52 rfl ?_
        refine lv_l2i hx hb d_M_put_53 rfl ?_
        refine lv_i2b hx hb d_M_put_54 rfl ?_
        obtain ⟨c_7, hf⟩ := gd_s hf
        refine va_bast (i := x1 + x5) (x := Int8.toInt32 (Int32.toInt8 (Int64.toInt32 (x3 >>> ((Int32.toInt64 (((8 : Int32)) * x5)) &&& 63))))) hx hb hK hP hD hS 1 1 rfl rfl c_7 d_M_put_55 (fun H locs hP hD hS => ?_)
        obtain ⟨dk_8, edk_8, hf⟩ := lt1_s hf
        have hP : va_P (dC, dI) clAll (wM h cI cB cZ th nb dk_8 lk fa pp gg jj qq mp fx tn mn oq pq fo ca hr fd) H := edk_8 ▸ hP
        have hD : va_D A (wM h cI cB cZ th nb dk_8 lk fa pp gg jj qq mp fx tn mn oq pq fo ca hr fd) := edk_8 ▸ hD
        obtain ⟨v5_9, ev5_9, hf⟩ := lt1_s hf
        refine lv_iinc (v := v5_9) (lv' := [(5, .int v5_9), (0, .ref (h 0)), (1, .int x1), (2, .int x2), (3, .long x3)]) hx hb d_M_put_56 hl (k := 4) rfl (by rw [← ev5_9]; rfl) (by decide) rfl (fun ls hl => ?_)
        refine lv_goto (tgt := 32) hx hb d_M_put_59 (by decide) ?_
        exact ih_32 th dk_8 lk hr x1 x2 x3 v5_9 _ _ _ hf hP hD hS (lv_sub hl [1, 2, 3, 4, 0] rfl)
  unfold f_M_put at hf
  refine lv_aload_n hx hb d_M_put_0 rfl (lv_at hl 0 rfl) ?_
  refine lv_iconst (v := 0) hx hb d_M_put_1 (by decide) ?_
  refine va_put (D := (dC, dI)) (ci := 5) (v := .int ((0 : Int32))) (ty := .int) (C := R_M) (T := T_M) (N := 19) hx hb htb in_M ty_M tyok_M nm_M hown hK hP hD hS 0 rfl rfl 0 (by decide) (htb _ tw_766) (fun _ h9 => h9) rfl (by decide +kernel) rfl rfl (Nat.le_of_ble_eq_true rfl) d_M_put_2 (fun H locs hP hD hS => ?_)
  have hP : va_P (dC, dI) clAll (wM h cI cB cZ ((0 : Int32)) nb dk lk fa pp gg jj qq mp fx tn mn oq pq fo ca hr fd) H := hP
  have hD : va_D A (wM h cI cB cZ ((0 : Int32)) nb dk lk fa pp gg jj qq mp fx tn mn oq pq fo ca hr fd) := hD
  refine lv_iload_n hx hb d_M_put_5 rfl (lv_at hl 2 rfl) ?_
  refine lv_iconst (v := 1) hx hb d_M_put_6 (by decide) ?_
  refine lv_icmp_lt (tgt := 27) hx hb d_M_put_7 (by decide) (fun c_1 => ?_) (fun c_1 => ?_)
  · have hf := ite_t c_1 hf
    refine lv_iconst (v := 0) hx hb d_M_put_27 (by decide) ?_
    cases hf
    exact hret _ _ _ _ (Or.inl rfl) hP hD hS d_M_put_28
  · have hf := ite_f c_1 hf
    refine lv_iload_n hx hb d_M_put_10 rfl (lv_at hl 2 rfl) ?_
    refine lv_bipush (v := 8) hx hb d_M_put_11 (by decide) ?_
    refine lv_icmp_gt (tgt := 27) hx hb d_M_put_13 (by decide) (fun c_2 => ?_) (fun c_2 => ?_)
    · have hf := ite_t c_2 hf
      refine lv_iconst (v := 0) hx hb d_M_put_27 (by decide) ?_
      cases hf
      exact hret _ _ _ _ (Or.inl rfl) hP hD hS d_M_put_28
    · have hf := ite_f c_2 hf
      refine lv_aload_n hx hb d_M_put_16 rfl (lv_at hl 0 rfl) ?_
      refine lv_iload_n hx hb d_M_put_17 rfl (lv_at hl 1 rfl) ?_
      refine lv_i2l hx hb d_M_put_18 rfl ?_
      refine lv_iload_n hx hb d_M_put_19 rfl (lv_at hl 2 rfl) ?_
      refine lv_i2l hx hb d_M_put_20 rfl ?_
      obtain ⟨r_3, hc_4, hf⟩ := bd1_s hf
      refine ucVi (As := [.long (Int32.toInt64 a1), .long (Int32.toInt64 a2)]) (rest := []) ⟨hx, hb, hml, hown, htb⟩ hK hP hD hS hA (fun hs => c_M_isThere hc_4) (cwV 2 htb (gV tw_833 tw_835 tw_30 tw_74 tw_836) rfl rfl rfl (by decide +kernel) ⟨Nat.le_of_ble_eq_true rfl, Nat.le_of_ble_eq_true rfl⟩) 0 5 rfl rfl rfl rfl rfl hl.1 (Nat.le_of_ble_eq_true rfl) d_M_put_21 ⟨Nat.zero_le _, Nat.zero_le _⟩ (fun H locs hP hD hS => ?_)
      refine lv_if_ne (tgt := 29) hx hb d_M_put_24 (by decide) (fun c_5 => ?_) (fun c_5 => ?_)
      · have hf := ite_f c_5 hf
        refine lv_iconst (v := 0) hx hb d_M_put_29 (by decide) ?_
        refine lv_istore (lv' := [(5, .int ((0 : Int32))), (0, .ref (h 0)), (1, .int a1), (2, .int a2), (3, .long a3)]) hx hb d_M_put_30 hl (by decide) rfl (fun ls hl => ?_)
        exact hj_32 N ((0 : Int32)) dk lk hr a1 a2 a3 ((0 : Int32)) _ _ _ hf hP hD hS (lv_sub hl [1, 2, 3, 4, 0] rfl)
      · have hf := ite_t c_5 hf
        refine lv_iconst (v := 0) hx hb d_M_put_27 (by decide) ?_
        cases hf
        exact hret _ _ _ _ (Or.inl rfl) hP hD hS d_M_put_28
set_option maxHeartbeats 4000000 in
set_option maxRecDepth 100000 in
theorem c_M_fill {l : Launch} {dC : Nat → ClassId} {dI : Nat → Nat → Nat} {N : Nat} {h : Nat → Nat} {cI : ClassId} {cB : ClassId} {cZ : ClassId} {th : Int32} {nb : Int32} {dk : Nat → Int32} {lk : Int32} {fa : Int32} {pp : Int32} {gg : Int32} {jj : Int32} {qq : Int32} {mp : Nat → Int32} {fx : Nat → Int32} {tn : Nat → Int32} {mn : Int32} {oq : Nat → Int32} {pq : Nat → Int32} {fo : Nat → Int32} {ca : Nat → Int32} {hr : Int32} {fd : Int32} {hs : Nat} {a1 : Int32} {a2 : Int32} {a3 : Int32} {r : Int32} {th' : Int32} {dk' : Nat → Int32} {lk' : Int32} {hr' : Int32} (hf : f_M_fill N th nb dk lk hr a1 a2 a3 = some (r, th', dk', lk', hr')) : Met l y_M_fill ws_M_fill { frames := 1, cells := 0, slots := 0, locals := 24 } (PcU (dC, dI) clAll [(cI, .int), (cB, .byte), (cZ, .boolean)] (wM h cI cB cZ th nb dk lk fa pp gg jj qq mp fx tn mn oq pq fo ca hr fd) hs [.ref (h 0), .int a1, .int a2, .int a3]) (QUi (dC, dI) clAll [(cI, .int), (cB, .byte), (cZ, .boolean)] (wM h cI cB cZ th nb dk lk fa pp gg jj qq mp fx tn mn oq pq fo ca hr fd) (wM h cI cB cZ th' nb dk' lk' fa pp gg jj qq mp fx tn mn oq pq fo ca hr' fd) hs r) 0 0 (va_A (wM h cI cB cZ th nb dk lk fa pp gg jj qq mp fx tn mn oq pq fo ca hr fd) hs) := by
  refine mUz (cc := b_M_fill) (maxL := 5) (by decide) rfl (Nat.le_of_ble_eq_true rfl) ?_
  intro p e s m args below meth c Q hx hb hml hts hown A hA hK hP hD hS hret ls hl
  have htb : ∀ w ∈ TB, w.before args s = true := fun w h => hts w (List.mem_cons_of_mem _ h)
  have hl : lv_has ls 5 [(0, .ref (h 0)), (1, .int a1), (2, .int a2), (3, .int a3)] := hl
  have hj_21 : ∀ (k_21 : Nat) (th : Int32) (dk : Nat → Int32) (lk : Int32) (hr : Int32) (x1 : Int32) (x2 : Int32) (x3 : Int32) (x4 : Int32) (H : Heap) (locs : List Loc) (ls : Array Slot), f_M_fill_21 N nb k_21 th dk lk hr x1 x2 x3 x4 = some (r, th', dk', lk', hr') → va_P (dC, dI) clAll (wM h cI cB cZ th nb dk lk fa pp gg jj qq mp fx tn mn oq pq fo ca hr fd) H → va_D A (wM h cI cB cZ th nb dk lk fa pp gg jj qq mp fx tn mn oq pq fo ca hr fd) → va_S A s.heap H locs → lv_has ls 5 [(0, .ref (h 0)), (1, .int x1), (2, .int x2), (3, .int x3), (4, .int x4)] → W p l e (headSpec ws_M_fill { frames := 1, cells := 0, slots := 0, locals := 24 }).room s m args below meth c H locs 0 0 Q (F0 m 21 ls []) := by
    intro k_21
    induction k_21 with
    | zero => intro _ _ _ _ _ _ _ _ _ _ _ hf; exact absurd hf (by simp [f_M_fill_21])
    | succ k_21 ih_21 =>
      intro th dk lk hr x1 x2 x3 x4 H locs ls hf hP hD hS hl
      rw [f_M_fill_21] at hf
      refine lv_iload hx hb d_M_fill_21 (lv_at hl 4 rfl) ?_
      refine lv_iload_n hx hb d_M_fill_23 rfl (lv_at hl 2 rfl) ?_
      refine lv_icmp_ge (tgt := 44) hx hb d_M_fill_24 (by decide) (fun c_1 => ?_) (fun c_1 => ?_)
      · have hf := ite_t c_1 hf
        refine lv_aload_n hx hb d_M_fill_44 rfl (lv_at hl 0 rfl) ?_
        obtain ⟨r_2, lk_3, hr_4, hc_5, hf⟩ := bd3_s hf
        refine ucVi (As := []) (rest := []) ⟨hx, hb, hml, hown, htb⟩ hK hP hD hS hA (fun hs => c_M_changed hc_5) (cwV 0 htb (gV tw_838 tw_840 tw_31 tw_74 tw_841) rfl rfl rfl (by decide +kernel) ⟨Nat.le_of_ble_eq_true rfl, Nat.le_of_ble_eq_true rfl⟩) 0 5 rfl rfl rfl rfl rfl hl.1 (Nat.le_of_ble_eq_true rfl) d_M_fill_45 ⟨Nat.zero_le _, Nat.zero_le _⟩ (fun H locs hP hD hS => ?_)
        obtain ⟨c_6, hf⟩ := gp_s hf
        cases hf
        exact hret _ _ _ _ c_6 hP hD hS d_M_fill_48
      · have hf := ite_f c_1 hf
        refine lv_aload_n hx hb d_M_fill_27 rfl (lv_at hl 0 rfl) ?_
        refine va_get (D := (dC, dI)) (ci := 5) (v := .ref (h 1)) (C := R_M) (T := T_M) (N := 19) hx hb htb in_M hown hK hP 0 rfl rfl 2 (by decide) (htb _ tw_768) (fun _ h9 => h9) rfl d_M_fill_28 ?_
        refine lv_iload_n hx hb d_M_fill_31 rfl (lv_at hl 1 rfl) ?_
        refine lv_iload hx hb d_M_fill_32 (lv_at hl 4 rfl) ?_
        refine lv_iadd hx hb d_M_fill_34 ?_
        refine lv_iload_n hx hb d_M_fill_35 rfl (lv_at hl 3 rfl) ?_
        refine lv_i2b hx hb d_M_fill_36 rfl ?_
        obtain ⟨c_7, hf⟩ := gd_s hf
        refine va_bast (i := x1 + x4) (x := Int8.toInt32 (Int32.toInt8 x3)) hx hb hK hP hD hS 1 1 rfl rfl c_7 d_M_fill_37 (fun H locs hP hD hS => ?_)
        obtain ⟨dk_8, edk_8, hf⟩ := lt1_s hf
        have hP : va_P (dC, dI) clAll (wM h cI cB cZ th nb dk_8 lk fa pp gg jj qq mp fx tn mn oq pq fo ca hr fd) H := edk_8 ▸ hP
        have hD : va_D A (wM h cI cB cZ th nb dk_8 lk fa pp gg jj qq mp fx tn mn oq pq fo ca hr fd) := edk_8 ▸ hD
        obtain ⟨v4_9, ev4_9, hf⟩ := lt1_s hf
        refine lv_iinc (v := v4_9) (lv' := [(4, .int v4_9), (0, .ref (h 0)), (1, .int x1), (2, .int x2), (3, .int x3)]) hx hb d_M_fill_38 hl (k := 4) rfl (by rw [← ev4_9]; rfl) (by decide) rfl (fun ls hl => ?_)
        refine lv_goto (tgt := 21) hx hb d_M_fill_41 (by decide) ?_
        exact ih_21 th dk_8 lk hr x1 x2 x3 v4_9 _ _ _ hf hP hD hS (lv_sub hl [1, 2, 3, 4, 0] rfl)
  unfold f_M_fill at hf
  refine lv_aload_n hx hb d_M_fill_0 rfl (lv_at hl 0 rfl) ?_
  refine lv_iconst (v := 0) hx hb d_M_fill_1 (by decide) ?_
  refine va_put (D := (dC, dI)) (ci := 5) (v := .int ((0 : Int32))) (ty := .int) (C := R_M) (T := T_M) (N := 19) hx hb htb in_M ty_M tyok_M nm_M hown hK hP hD hS 0 rfl rfl 0 (by decide) (htb _ tw_766) (fun _ h9 => h9) rfl (by decide +kernel) rfl rfl (Nat.le_of_ble_eq_true rfl) d_M_fill_2 (fun H locs hP hD hS => ?_)
  have hP : va_P (dC, dI) clAll (wM h cI cB cZ ((0 : Int32)) nb dk lk fa pp gg jj qq mp fx tn mn oq pq fo ca hr fd) H := hP
  have hD : va_D A (wM h cI cB cZ ((0 : Int32)) nb dk lk fa pp gg jj qq mp fx tn mn oq pq fo ca hr fd) := hD
  refine lv_aload_n hx hb d_M_fill_5 rfl (lv_at hl 0 rfl) ?_
  refine lv_iload_n hx hb d_M_fill_6 rfl (lv_at hl 1 rfl) ?_
  refine lv_i2l hx hb d_M_fill_7 rfl ?_
  refine lv_iload_n hx hb d_M_fill_8 rfl (lv_at hl 2 rfl) ?_
  refine lv_i2l hx hb d_M_fill_9 rfl ?_
  obtain ⟨r_1, hc_2, hf⟩ := bd1_s hf
  refine ucVi (As := [.long (Int32.toInt64 a1), .long (Int32.toInt64 a2)]) (rest := []) ⟨hx, hb, hml, hown, htb⟩ hK hP hD hS hA (fun hs => c_M_isThere hc_2) (cwV 2 htb (gV tw_833 tw_835 tw_30 tw_74 tw_836) rfl rfl rfl (by decide +kernel) ⟨Nat.le_of_ble_eq_true rfl, Nat.le_of_ble_eq_true rfl⟩) 0 5 rfl rfl rfl rfl rfl hl.1 (Nat.le_of_ble_eq_true rfl) d_M_fill_10 ⟨Nat.zero_le _, Nat.zero_le _⟩ (fun H locs hP hD hS => ?_)
  refine lv_if_ne (tgt := 18) hx hb d_M_fill_13 (by decide) (fun c_3 => ?_) (fun c_3 => ?_)
  · have hf := ite_f c_3 hf
    refine lv_iconst (v := 0) hx hb d_M_fill_18 (by decide) ?_
    refine lv_istore (lv' := [(4, .int ((0 : Int32))), (0, .ref (h 0)), (1, .int a1), (2, .int a2), (3, .int a3)]) hx hb d_M_fill_19 hl (by decide) rfl (fun ls hl => ?_)
    exact hj_21 N ((0 : Int32)) dk lk hr a1 a2 a3 ((0 : Int32)) _ _ _ hf hP hD hS (lv_sub hl [1, 2, 3, 4, 0] rfl)
  · have hf := ite_t c_3 hf
    refine lv_iconst (v := 0) hx hb d_M_fill_16 (by decide) ?_
    cases hf
    exact hret _ _ _ _ (Or.inl rfl) hP hD hS d_M_fill_17
set_option maxHeartbeats 4000000 in
set_option maxRecDepth 100000 in
theorem c_M_copy {l : Launch} {dC : Nat → ClassId} {dI : Nat → Nat → Nat} {N : Nat} {h : Nat → Nat} {cI : ClassId} {cB : ClassId} {cZ : ClassId} {th : Int32} {nb : Int32} {dk : Nat → Int32} {lk : Int32} {fa : Int32} {pp : Int32} {gg : Int32} {jj : Int32} {qq : Int32} {mp : Nat → Int32} {fx : Nat → Int32} {tn : Nat → Int32} {mn : Int32} {oq : Nat → Int32} {pq : Nat → Int32} {fo : Nat → Int32} {ca : Nat → Int32} {hr : Int32} {fd : Int32} {hs : Nat} {a1 : Int32} {a2 : Int32} {a3 : Int32} {r : Int32} {th' : Int32} {dk' : Nat → Int32} {lk' : Int32} {hr' : Int32} (hf : f_M_copy N th nb dk lk hr a1 a2 a3 = some (r, th', dk', lk', hr')) : Met l y_M_copy ws_M_copy { frames := 1, cells := 0, slots := 0, locals := 24 } (PcU (dC, dI) clAll [(cI, .int), (cB, .byte), (cZ, .boolean)] (wM h cI cB cZ th nb dk lk fa pp gg jj qq mp fx tn mn oq pq fo ca hr fd) hs [.ref (h 0), .int a1, .int a2, .int a3]) (QUi (dC, dI) clAll [(cI, .int), (cB, .byte), (cZ, .boolean)] (wM h cI cB cZ th nb dk lk fa pp gg jj qq mp fx tn mn oq pq fo ca hr fd) (wM h cI cB cZ th' nb dk' lk' fa pp gg jj qq mp fx tn mn oq pq fo ca hr' fd) hs r) 0 0 (va_A (wM h cI cB cZ th nb dk lk fa pp gg jj qq mp fx tn mn oq pq fo ca hr fd) hs) := by
  refine mUz (cc := b_M_copy) (maxL := 6) (by decide) rfl (Nat.le_of_ble_eq_true rfl) ?_
  intro p e s m args below meth c Q hx hb hml hts hown A hA hK hP hD hS hret ls hl
  have htb : ∀ w ∈ TB, w.before args s = true := fun w h => hts w (List.mem_cons_of_mem _ h)
  have hl : lv_has ls 6 [(0, .ref (h 0)), (1, .int a1), (2, .int a2), (3, .int a3)] := hl
  have hj_32 : ∀ (k_32 : Nat) (th : Int32) (dk : Nat → Int32) (lk : Int32) (hr : Int32) (x1 : Int32) (x2 : Int32) (x3 : Int32) (x4 : Int32) (H : Heap) (locs : List Loc) (ls : Array Slot), f_M_copy_32 N nb k_32 th dk lk hr x1 x2 x3 x4 = some (r, th', dk', lk', hr') → va_P (dC, dI) clAll (wM h cI cB cZ th nb dk lk fa pp gg jj qq mp fx tn mn oq pq fo ca hr fd) H → va_D A (wM h cI cB cZ th nb dk lk fa pp gg jj qq mp fx tn mn oq pq fo ca hr fd) → va_S A s.heap H locs → lv_has ls 6 [(0, .ref (h 0)), (1, .int x1), (2, .int x2), (3, .int x3), (4, .int x4)] → W p l e (headSpec ws_M_copy { frames := 1, cells := 0, slots := 0, locals := 24 }).room s m args below meth c H locs 0 0 Q (F0 m 32 ls []) := by
    intro k_32
    induction k_32 with
    | zero => intro _ _ _ _ _ _ _ _ _ _ _ hf; exact absurd hf (by simp [f_M_copy_32])
    | succ k_32 ih_32 =>
      have hj_54 : ∀ (th : Int32) (dk : Nat → Int32) (lk : Int32) (hr : Int32) (x1 : Int32) (x2 : Int32) (x3 : Int32) (x4 : Int32) (s0 : Int32) (H : Heap) (locs : List Loc) (ls : Array Slot), f_M_copy_54 N nb (f_M_copy_32 N nb k_32) th dk lk hr x1 x2 x3 x4 s0 = some (r, th', dk', lk', hr') → va_P (dC, dI) clAll (wM h cI cB cZ th nb dk lk fa pp gg jj qq mp fx tn mn oq pq fo ca hr fd) H → va_D A (wM h cI cB cZ th nb dk lk fa pp gg jj qq mp fx tn mn oq pq fo ca hr fd) → va_S A s.heap H locs → lv_has ls 6 [(0, .ref (h 0)), (1, .int x1), (2, .int x2), (3, .int x3), (4, .int x4)] → W p l e (headSpec ws_M_copy { frames := 1, cells := 0, slots := 0, locals := 24 }).room s m args below meth c H locs 0 0 Q (F0 m 54 ls [.int s0]) := by
        intro th dk lk hr x1 x2 x3 x4 s0 H locs ls hf hP hD hS hl
        unfold f_M_copy_54 at hf
        refine lv_istore (lv' := [(5, .int s0), (0, .ref (h 0)), (1, .int x1), (2, .int x2), (3, .int x3), (4, .int x4)]) hx hb d_M_copy_54 hl (by decide) rfl (fun ls hl => ?_)
        refine lv_aload_n hx hb d_M_copy_56 rfl (lv_at hl 1 rfl) ?_
        refine va_get (D := (dC, dI)) (ci := 5) (v := .ref (h 1)) (C := R_M) (T := T_M) (N := 19) hx hb htb in_M hown hK hP 0 rfl rfl 2 (by decide) (htb _ tw_768) (fun _ h9 => h9) rfl d_M_copy_57 ?_
        refine lv_iload_n hx hb d_M_copy_60 rfl (lv_at hl 3 rfl) ?_
        refine lv_iload hx hb d_M_copy_61 (lv_at hl 0 rfl) ?_
        refine lv_iadd hx hb d_M_copy_63 ?_
        refine lv_aload_n hx hb d_M_copy_64 rfl (lv_at hl 1 rfl) ?_
        refine va_get (D := (dC, dI)) (ci := 5) (v := .ref (h 1)) (C := R_M) (T := T_M) (N := 19) hx hb htb in_M hown hK hP 0 rfl rfl 2 (by decide) (htb _ tw_768) (fun _ h9 => h9) rfl d_M_copy_65 ?_
        refine lv_iload_n hx hb d_M_copy_68 rfl (lv_at hl 2 rfl) ?_
        refine lv_iload hx hb d_M_copy_69 (lv_at hl 0 rfl) ?_
        refine lv_iadd hx hb d_M_copy_71 ?_
        obtain ⟨c_1, hf⟩ := gd_s hf
        refine va_bald (i := x1 + s0) hx hb hK hP 1 1 rfl rfl c_1 d_M_copy_72 ?_
        obtain ⟨c_2, hf⟩ := gd_s hf
        refine va_bast (i := x2 + s0) (x := dk (Int32.toNatClampNeg (x1 + s0))) hx hb hK hP hD hS 1 1 rfl rfl c_2 d_M_copy_73 (fun H locs hP hD hS => ?_)
        obtain ⟨dk_3, edk_3, hf⟩ := lt1_s hf
        have hP : va_P (dC, dI) clAll (wM h cI cB cZ th nb dk_3 lk fa pp gg jj qq mp fx tn mn oq pq fo ca hr fd) H := edk_3 ▸ hP
        have hD : va_D A (wM h cI cB cZ th nb dk_3 lk fa pp gg jj qq mp fx tn mn oq pq fo ca hr fd) := edk_3 ▸ hD
        obtain ⟨v4_4, ev4_4, hf⟩ := lt1_s hf
        refine lv_iinc (v := v4_4) (lv' := [(4, .int v4_4), (5, .int s0), (0, .ref (h 0)), (1, .int x1), (2, .int x2), (3, .int x3)]) hx hb d_M_copy_74 hl (k := 5) rfl (by rw [← ev4_4]; rfl) (by decide) rfl (fun ls hl => ?_)
        refine lv_goto (tgt := 32) hx hb d_M_copy_77 (by decide) ?_
        exact ih_32 th dk_3 lk hr x1 x2 x3 v4_4 _ _ _ hf hP hD hS (lv_sub hl [2, 3, 4, 5, 0] rfl)
      intro th dk lk hr x1 x2 x3 x4 H locs ls hf hP hD hS hl
      rw [f_M_copy_32] at hf
      refine lv_iload hx hb d_M_copy_32 (lv_at hl 4 rfl) ?_
      refine lv_iload_n hx hb d_M_copy_34 rfl (lv_at hl 3 rfl) ?_
      refine lv_icmp_ge (tgt := 80) hx hb d_M_copy_35 (by decide) (fun c_1 => ?_) (fun c_1 => ?_)
      · have hf := ite_t c_1 hf
        refine lv_aload_n hx hb d_M_copy_80 rfl (lv_at hl 0 rfl) ?_
        obtain ⟨r_2, lk_3, hr_4, hc_5, hf⟩ := bd3_s hf
        refine ucVi (As := []) (rest := []) ⟨hx, hb, hml, hown, htb⟩ hK hP hD hS hA (fun hs => c_M_changed hc_5) (cwV 0 htb (gV tw_838 tw_840 tw_31 tw_74 tw_841) rfl rfl rfl (by decide +kernel) ⟨Nat.le_of_ble_eq_true rfl, Nat.le_of_ble_eq_true rfl⟩) 0 5 rfl rfl rfl rfl rfl hl.1 (Nat.le_of_ble_eq_true rfl) d_M_copy_81 ⟨Nat.zero_le _, Nat.zero_le _⟩ (fun H locs hP hD hS => ?_)
        obtain ⟨c_6, hf⟩ := gp_s hf
        cases hf
        exact hret _ _ _ _ c_6 hP hD hS d_M_copy_84
      · have hf := ite_f c_1 hf
        refine lv_iload_n hx hb d_M_copy_38 rfl (lv_at hl 1 rfl) ?_
        refine lv_iload_n hx hb d_M_copy_39 rfl (lv_at hl 2 rfl) ?_
        refine lv_icmp_ge (tgt := 52) hx hb d_M_copy_40 (by decide) (fun c_7 => ?_) (fun c_7 => ?_)
        · have hf := ite_t c_7 hf
          refine lv_iload hx hb d_M_copy_52 (lv_at hl 4 rfl) ?_
          exact hj_54 th dk lk hr x1 x2 x3 x4 x4 _ _ _ hf hP hD hS (lv_sub hl [0, 1, 2, 3, 4] rfl)
        · have hf := ite_f c_7 hf
          refine lv_iload_n hx hb d_M_copy_43 rfl (lv_at hl 3 rfl) ?_
          refine lv_iconst (v := 1) hx hb d_M_copy_44 (by decide) ?_
          refine lv_isub hx hb d_M_copy_45 ?_
          refine lv_iload hx hb d_M_copy_46 (lv_at hl 4 rfl) ?_
          refine lv_isub hx hb d_M_copy_48 ?_
          refine lv_goto (tgt := 54) hx hb d_M_copy_49 (by decide) ?_
          exact hj_54 th dk lk hr x1 x2 x3 x4 ((x3 - ((1 : Int32))) - x4) _ _ _ hf hP hD hS (lv_sub hl [0, 1, 2, 3, 4] rfl)
  unfold f_M_copy at hf
  refine lv_aload_n hx hb d_M_copy_0 rfl (lv_at hl 0 rfl) ?_
  refine lv_iconst (v := 0) hx hb d_M_copy_1 (by decide) ?_
  refine va_put (D := (dC, dI)) (ci := 5) (v := .int ((0 : Int32))) (ty := .int) (C := R_M) (T := T_M) (N := 19) hx hb htb in_M ty_M tyok_M nm_M hown hK hP hD hS 0 rfl rfl 0 (by decide) (htb _ tw_766) (fun _ h9 => h9) rfl (by decide +kernel) rfl rfl (Nat.le_of_ble_eq_true rfl) d_M_copy_2 (fun H locs hP hD hS => ?_)
  have hP : va_P (dC, dI) clAll (wM h cI cB cZ ((0 : Int32)) nb dk lk fa pp gg jj qq mp fx tn mn oq pq fo ca hr fd) H := hP
  have hD : va_D A (wM h cI cB cZ ((0 : Int32)) nb dk lk fa pp gg jj qq mp fx tn mn oq pq fo ca hr fd) := hD
  refine lv_aload_n hx hb d_M_copy_5 rfl (lv_at hl 0 rfl) ?_
  refine lv_iload_n hx hb d_M_copy_6 rfl (lv_at hl 1 rfl) ?_
  refine lv_i2l hx hb d_M_copy_7 rfl ?_
  refine lv_iload_n hx hb d_M_copy_8 rfl (lv_at hl 3 rfl) ?_
  refine lv_i2l hx hb d_M_copy_9 rfl ?_
  obtain ⟨r_1, hc_2, hf⟩ := bd1_s hf
  refine ucVi (As := [.long (Int32.toInt64 a1), .long (Int32.toInt64 a3)]) (rest := []) ⟨hx, hb, hml, hown, htb⟩ hK hP hD hS hA (fun hs => c_M_isThere hc_2) (cwV 2 htb (gV tw_833 tw_835 tw_30 tw_74 tw_836) rfl rfl rfl (by decide +kernel) ⟨Nat.le_of_ble_eq_true rfl, Nat.le_of_ble_eq_true rfl⟩) 0 5 rfl rfl rfl rfl rfl hl.1 (Nat.le_of_ble_eq_true rfl) d_M_copy_10 ⟨Nat.zero_le _, Nat.zero_le _⟩ (fun H locs hP hD hS => ?_)
  refine lv_if_eq (tgt := 27) hx hb d_M_copy_13 (by decide) (fun c_3 => ?_) (fun c_3 => ?_)
  · have hf := ite_t c_3 hf
    refine lv_iconst (v := 0) hx hb d_M_copy_27 (by decide) ?_
    cases hf
    exact hret _ _ _ _ (Or.inl rfl) hP hD hS d_M_copy_28
  · have hf := ite_f c_3 hf
    refine lv_aload_n hx hb d_M_copy_16 rfl (lv_at hl 0 rfl) ?_
    refine lv_iload_n hx hb d_M_copy_17 rfl (lv_at hl 2 rfl) ?_
    refine lv_i2l hx hb d_M_copy_18 rfl ?_
    refine lv_iload_n hx hb d_M_copy_19 rfl (lv_at hl 3 rfl) ?_
    refine lv_i2l hx hb d_M_copy_20 rfl ?_
    obtain ⟨r_4, hc_5, hf⟩ := bd1_s hf
    refine ucVi (As := [.long (Int32.toInt64 a2), .long (Int32.toInt64 a3)]) (rest := []) ⟨hx, hb, hml, hown, htb⟩ hK hP hD hS hA (fun hs => c_M_isThere hc_5) (cwV 2 htb (gV tw_833 tw_835 tw_30 tw_74 tw_836) rfl rfl rfl (by decide +kernel) ⟨Nat.le_of_ble_eq_true rfl, Nat.le_of_ble_eq_true rfl⟩) 0 5 rfl rfl rfl rfl rfl hl.1 (Nat.le_of_ble_eq_true rfl) d_M_copy_21 ⟨Nat.zero_le _, Nat.zero_le _⟩ (fun H locs hP hD hS => ?_)
    refine lv_if_ne (tgt := 29) hx hb d_M_copy_24 (by decide) (fun c_6 => ?_) (fun c_6 => ?_)
    · have hf := ite_f c_6 hf
      refine lv_iconst (v := 0) hx hb d_M_copy_29 (by decide) ?_
      refine lv_istore (lv' := [(4, .int ((0 : Int32))), (0, .ref (h 0)), (1, .int a1), (2, .int a2), (3, .int a3)]) hx hb d_M_copy_30 hl (by decide) rfl (fun ls hl => ?_)
      exact hj_32 N ((0 : Int32)) dk lk hr a1 a2 a3 ((0 : Int32)) _ _ _ hf hP hD hS (lv_sub hl [1, 2, 3, 4, 0] rfl)
    · have hf := ite_t c_6 hf
      refine lv_iconst (v := 0) hx hb d_M_copy_27 (by decide) ?_
      cases hf
      exact hret _ _ _ _ (Or.inl rfl) hP hD hS d_M_copy_28
set_option maxHeartbeats 4000000 in
set_option maxRecDepth 100000 in
theorem c_M_byteAt {l : Launch} {dC : Nat → ClassId} {dI : Nat → Nat → Nat} {h : Nat → Nat} {cI : ClassId} {cB : ClassId} {cZ : ClassId} {th : Int32} {nb : Int32} {dk : Nat → Int32} {lk : Int32} {fa : Int32} {pp : Int32} {gg : Int32} {jj : Int32} {qq : Int32} {mp : Nat → Int32} {fx : Nat → Int32} {tn : Nat → Int32} {mn : Int32} {oq : Nat → Int32} {pq : Nat → Int32} {fo : Nat → Int32} {ca : Nat → Int32} {hr : Int32} {fd : Int32} {hs : Nat} {a1 : Int32} {r : Int32} {th' : Int32} (hf : f_M_byteAt th nb dk a1 = some (r, th')) : Met l y_M_byteAt ws_M_byteAt { frames := 1, cells := 0, slots := 0, locals := 21 } (PcU (dC, dI) clAll [(cI, .int), (cB, .byte), (cZ, .boolean)] (wM h cI cB cZ th nb dk lk fa pp gg jj qq mp fx tn mn oq pq fo ca hr fd) hs [.ref (h 0), .int a1]) (QUi (dC, dI) clAll [(cI, .int), (cB, .byte), (cZ, .boolean)] (wM h cI cB cZ th nb dk lk fa pp gg jj qq mp fx tn mn oq pq fo ca hr fd) (wM h cI cB cZ th' nb dk lk fa pp gg jj qq mp fx tn mn oq pq fo ca hr fd) hs r) 0 0 (va_A (wM h cI cB cZ th nb dk lk fa pp gg jj qq mp fx tn mn oq pq fo ca hr fd) hs) := by
  refine mUi (cc := b_M_byteAt) (maxL := 2) (by decide) rfl (Nat.le_of_ble_eq_true rfl) ?_
  intro p e s m args below meth c Q hx hb hml hts hown A hA hK hP hD hS hret ls hl
  have htb : ∀ w ∈ TB, w.before args s = true := fun w h => hts w (List.mem_cons_of_mem _ h)
  have hl : lv_has ls 2 [(0, .ref (h 0)), (1, .int a1)] := hl
  unfold f_M_byteAt at hf
  refine lv_aload_n hx hb d_M_byteAt_0 rfl (lv_at hl 0 rfl) ?_
  refine lv_iconst (v := 0) hx hb d_M_byteAt_1 (by decide) ?_
  refine va_put (D := (dC, dI)) (ci := 5) (v := .int ((0 : Int32))) (ty := .int) (C := R_M) (T := T_M) (N := 19) hx hb htb in_M ty_M tyok_M nm_M hown hK hP hD hS 0 rfl rfl 0 (by decide) (htb _ tw_766) (fun _ h9 => h9) rfl (by decide +kernel) rfl rfl (Nat.le_of_ble_eq_true rfl) d_M_byteAt_2 (fun H locs hP hD hS => ?_)
  have hP : va_P (dC, dI) clAll (wM h cI cB cZ ((0 : Int32)) nb dk lk fa pp gg jj qq mp fx tn mn oq pq fo ca hr fd) H := hP
  have hD : va_D A (wM h cI cB cZ ((0 : Int32)) nb dk lk fa pp gg jj qq mp fx tn mn oq pq fo ca hr fd) := hD
  refine lv_iload_n hx hb d_M_byteAt_5 rfl (lv_at hl 1 rfl) ?_
  refine lv_if_lt (tgt := 21) hx hb d_M_byteAt_6 (by decide) (fun c_1 => ?_) (fun c_1 => ?_)
  · have hf := ite_t c_1 hf
    refine lv_iconst (v := -1) hx hb d_M_byteAt_21 (by decide) ?_
    refine lv_goto (tgt := 30) hx hb d_M_byteAt_22 (by decide) ?_
    cases hf
    exact hret _ _ _ _ hP hD hS d_M_byteAt_30
  · have hf := ite_f c_1 hf
    refine lv_iload_n hx hb d_M_byteAt_9 rfl (lv_at hl 1 rfl) ?_
    refine lv_sipush (v := 1024) hx hb d_M_byteAt_10 (by decide) ?_
    refine lv_aload_n hx hb d_M_byteAt_13 rfl (lv_at hl 0 rfl) ?_
    refine va_get (D := (dC, dI)) (ci := 5) (v := .int nb) (C := R_M) (T := T_M) (N := 19) hx hb htb in_M hown hK hP 0 rfl rfl 1 (by decide) (htb _ tw_767) (fun _ h9 => h9) rfl d_M_byteAt_14 ?_
    refine lv_imul hx hb d_M_byteAt_17 ?_
    refine lv_icmp_lt (tgt := 25) hx hb d_M_byteAt_18 (by decide) (fun c_2 => ?_) (fun c_2 => ?_)
    · have hf := ite_t c_2 hf
      refine lv_aload_n hx hb d_M_byteAt_25 rfl (lv_at hl 0 rfl) ?_
      refine lv_iload_n hx hb d_M_byteAt_26 rfl (lv_at hl 1 rfl) ?_
      obtain ⟨r_3, hc_4, hf⟩ := bd1_s hf
      refine ucVi (As := [.int a1]) (rest := []) ⟨hx, hb, hml, hown, htb⟩ hK hP hD hS hA (fun hs => c_M_one hc_4) (cwV 1 htb (gV tw_854 tw_856 tw_32 tw_74 tw_857) rfl rfl rfl (by decide +kernel) ⟨Nat.le_of_ble_eq_true rfl, Nat.le_of_ble_eq_true rfl⟩) 0 5 rfl rfl rfl rfl rfl hl.1 (Nat.le_of_ble_eq_true rfl) d_M_byteAt_27 ⟨Nat.zero_le _, Nat.zero_le _⟩ (fun H locs hP hD hS => ?_)
      cases hf
      exact hret _ _ _ _ hP hD hS d_M_byteAt_30
    · have hf := ite_f c_2 hf
      refine lv_iconst (v := -1) hx hb d_M_byteAt_21 (by decide) ?_
      refine lv_goto (tgt := 30) hx hb d_M_byteAt_22 (by decide) ?_
      cases hf
      exact hret _ _ _ _ hP hD hS d_M_byteAt_30
set_option maxHeartbeats 4000000 in
set_option maxRecDepth 100000 in
theorem c_M_begin {l : Launch} {dC : Nat → ClassId} {dI : Nat → Nat → Nat} {h : Nat → Nat} {cI : ClassId} {cB : ClassId} {cZ : ClassId} {th : Int32} {nb : Int32} {dk : Nat → Int32} {lk : Int32} {fa : Int32} {pp : Int32} {gg : Int32} {jj : Int32} {qq : Int32} {mp : Nat → Int32} {fx : Nat → Int32} {tn : Nat → Int32} {mn : Int32} {oq : Nat → Int32} {pq : Nat → Int32} {fo : Nat → Int32} {ca : Nat → Int32} {hr : Int32} {fd : Int32} {hs : Nat} {a1 : Int32} {r : Int32} (hf : f_M_begin pp a1 = some (r)) : Met l y_M_begin ws_M_begin { frames := 0, cells := 0, slots := 0, locals := 0 } (PcU (dC, dI) clAll [(cI, .int), (cB, .byte), (cZ, .boolean)] (wM h cI cB cZ th nb dk lk fa pp gg jj qq mp fx tn mn oq pq fo ca hr fd) hs [.ref (h 0), .int a1]) (QUi (dC, dI) clAll [(cI, .int), (cB, .byte), (cZ, .boolean)] (wM h cI cB cZ th nb dk lk fa pp gg jj qq mp fx tn mn oq pq fo ca hr fd) (wM h cI cB cZ th nb dk lk fa pp gg jj qq mp fx tn mn oq pq fo ca hr fd) hs r) 0 0 (va_A (wM h cI cB cZ th nb dk lk fa pp gg jj qq mp fx tn mn oq pq fo ca hr fd) hs) := by
  refine mUi (cc := b_M_begin) (maxL := 2) (by decide) rfl (Nat.le_of_ble_eq_true rfl) ?_
  intro p e s m args below meth c Q hx hb hml hts hown A hA hK hP hD hS hret ls hl
  have htb : ∀ w ∈ TB, w.before args s = true := fun w h => hts w (List.mem_cons_of_mem _ h)
  have hl : lv_has ls 2 [(0, .ref (h 0)), (1, .int a1)] := hl
  unfold f_M_begin at hf
  refine lv_iconst (v := 1) hx hb d_M_begin_0 (by decide) ?_
  refine lv_iload_n hx hb d_M_begin_1 rfl (lv_at hl 1 rfl) ?_
  refine lv_aload_n hx hb d_M_begin_2 rfl (lv_at hl 0 rfl) ?_
  refine va_get (D := (dC, dI)) (ci := 5) (v := .int pp) (C := R_M) (T := T_M) (N := 19) hx hb htb in_M hown hK hP 0 rfl rfl 5 (by decide) (htb _ tw_771) (fun _ h9 => h9) rfl d_M_begin_3 ?_
  refine lv_imul hx hb d_M_begin_6 ?_
  refine lv_iadd hx hb d_M_begin_7 ?_
  cases hf
  exact hret _ _ _ _ hP hD hS d_M_begin_8
set_option maxHeartbeats 4000000 in
set_option maxRecDepth 100000 in
theorem c_M_sizeOf {l : Launch} {dC : Nat → ClassId} {dI : Nat → Nat → Nat} {h : Nat → Nat} {cI : ClassId} {cB : ClassId} {cZ : ClassId} {th : Int32} {nb : Int32} {dk : Nat → Int32} {lk : Int32} {fa : Int32} {pp : Int32} {gg : Int32} {jj : Int32} {qq : Int32} {mp : Nat → Int32} {fx : Nat → Int32} {tn : Nat → Int32} {mn : Int32} {oq : Nat → Int32} {pq : Nat → Int32} {fo : Nat → Int32} {ca : Nat → Int32} {hr : Int32} {fd : Int32} {hs : Nat} {a1 : Int32} {r : Int32} (hf : f_M_sizeOf nb pp qq a1 = some (r)) : Met l y_M_sizeOf ws_M_sizeOf { frames := 1, cells := 0, slots := 0, locals := 21 } (PcU (dC, dI) clAll [(cI, .int), (cB, .byte), (cZ, .boolean)] (wM h cI cB cZ th nb dk lk fa pp gg jj qq mp fx tn mn oq pq fo ca hr fd) hs [.ref (h 0), .int a1]) (QUi (dC, dI) clAll [(cI, .int), (cB, .byte), (cZ, .boolean)] (wM h cI cB cZ th nb dk lk fa pp gg jj qq mp fx tn mn oq pq fo ca hr fd) (wM h cI cB cZ th nb dk lk fa pp gg jj qq mp fx tn mn oq pq fo ca hr fd) hs r) 0 0 (va_A (wM h cI cB cZ th nb dk lk fa pp gg jj qq mp fx tn mn oq pq fo ca hr fd) hs) := by
  refine mUi (cc := b_M_sizeOf) (maxL := 2) (by decide) rfl (Nat.le_of_ble_eq_true rfl) ?_
  intro p e s m args below meth c Q hx hb hml hts hown A hA hK hP hD hS hret ls hl
  have htb : ∀ w ∈ TB, w.before args s = true := fun w h => hts w (List.mem_cons_of_mem _ h)
  have hl : lv_has ls 2 [(0, .ref (h 0)), (1, .int a1)] := hl
  unfold f_M_sizeOf at hf
  refine lv_iload_n hx hb d_M_sizeOf_0 rfl (lv_at hl 1 rfl) ?_
  refine lv_aload_n hx hb d_M_sizeOf_1 rfl (lv_at hl 0 rfl) ?_
  refine va_get (D := (dC, dI)) (ci := 5) (v := .int qq) (C := R_M) (T := T_M) (N := 19) hx hb htb in_M hown hK hP 0 rfl rfl 8 (by decide) (htb _ tw_774) (fun _ h9 => h9) rfl d_M_sizeOf_2 ?_
  refine lv_iconst (v := 1) hx hb d_M_sizeOf_5 (by decide) ?_
  refine lv_isub hx hb d_M_sizeOf_6 ?_
  refine lv_icmp_ge (tgt := 17) hx hb d_M_sizeOf_7 (by decide) (fun c_1 => ?_) (fun c_1 => ?_)
  · have hf := ite_t c_1 hf
    refine lv_aload_n hx hb d_M_sizeOf_17 rfl (lv_at hl 0 rfl) ?_
    refine va_get (D := (dC, dI)) (ci := 5) (v := .int nb) (C := R_M) (T := T_M) (N := 19) hx hb htb in_M hown hK hP 0 rfl rfl 1 (by decide) (htb _ tw_767) (fun _ h9 => h9) rfl d_M_sizeOf_18 ?_
    refine lv_aload_n hx hb d_M_sizeOf_21 rfl (lv_at hl 0 rfl) ?_
    refine lv_iload_n hx hb d_M_sizeOf_22 rfl (lv_at hl 1 rfl) ?_
    obtain ⟨r_2, hc_3, hf⟩ := bd1_s hf
    refine ucVi (As := [.int a1]) (rest := [.int nb]) ⟨hx, hb, hml, hown, htb⟩ hK hP hD hS hA (fun hs => c_M_begin hc_3) (cwV 1 htb (gV tw_899 tw_901 tw_40 tw_74 tw_902) rfl rfl rfl (by decide +kernel) ⟨Nat.le_of_ble_eq_true rfl, Nat.le_of_ble_eq_true rfl⟩) 0 5 rfl rfl rfl rfl rfl hl.1 (Nat.le_of_ble_eq_true rfl) d_M_sizeOf_23 ⟨Nat.zero_le _, Nat.zero_le _⟩ (fun H locs hP hD hS => ?_)
    refine lv_isub hx hb d_M_sizeOf_26 ?_
    cases hf
    exact hret _ _ _ _ hP hD hS d_M_sizeOf_27
  · have hf := ite_f c_1 hf
    refine lv_aload_n hx hb d_M_sizeOf_10 rfl (lv_at hl 0 rfl) ?_
    refine va_get (D := (dC, dI)) (ci := 5) (v := .int pp) (C := R_M) (T := T_M) (N := 19) hx hb htb in_M hown hK hP 0 rfl rfl 5 (by decide) (htb _ tw_771) (fun _ h9 => h9) rfl d_M_sizeOf_11 ?_
    refine lv_goto (tgt := 27) hx hb d_M_sizeOf_14 (by decide) ?_
    cases hf
    exact hret _ _ _ _ hP hD hS d_M_sizeOf_27
set_option maxHeartbeats 4000000 in
set_option maxRecDepth 100000 in
theorem c_M_badHead {l : Launch} {dC : Nat → ClassId} {dI : Nat → Nat → Nat} {h : Nat → Nat} {cI : ClassId} {cB : ClassId} {cZ : ClassId} {th : Int32} {nb : Int32} {dk : Nat → Int32} {lk : Int32} {fa : Int32} {pp : Int32} {gg : Int32} {jj : Int32} {qq : Int32} {mp : Nat → Int32} {fx : Nat → Int32} {tn : Nat → Int32} {mn : Int32} {oq : Nat → Int32} {pq : Nat → Int32} {fo : Nat → Int32} {ca : Nat → Int32} {hr : Int32} {fd : Int32} {hs : Nat} {r : Int32} {pp' : Int32} {gg' : Int32} {jj' : Int32} {qq' : Int32} (hf : f_M_badHead nb dk pp gg jj qq = some (r, pp', gg', jj', qq')) : Met l y_M_badHead ws_M_badHead { frames := 3, cells := 0, slots := 0, locals := 63 } (PcU (dC, dI) clAll [(cI, .int), (cB, .byte), (cZ, .boolean)] (wM h cI cB cZ th nb dk lk fa pp gg jj qq mp fx tn mn oq pq fo ca hr fd) hs [.ref (h 0)]) (QUi (dC, dI) clAll [(cI, .int), (cB, .byte), (cZ, .boolean)] (wM h cI cB cZ th nb dk lk fa pp gg jj qq mp fx tn mn oq pq fo ca hr fd) (wM h cI cB cZ th nb dk lk fa pp' gg' jj' qq' mp fx tn mn oq pq fo ca hr fd) hs r) 0 0 (va_A (wM h cI cB cZ th nb dk lk fa pp gg jj qq mp fx tn mn oq pq fo ca hr fd) hs) := by
  refine mUz (cc := b_M_badHead) (maxL := 7) (by decide) rfl (Nat.le_of_ble_eq_true rfl) ?_
  intro p e s m args below meth c Q hx hb hml hts hown A hA hK hP hD hS hret ls hl
  have htb : ∀ w ∈ TB, w.before args s = true := fun w h => hts w (List.mem_cons_of_mem _ h)
  have hl : lv_has ls 7 [(0, .ref (h 0))] := hl
  have hj_229 : ∀ (pp : Int32) (gg : Int32) (jj : Int32) (qq : Int32) (x1 : Int32) (s0 : Int32) (H : Heap) (locs : List Loc) (ls : Array Slot), f_M_badHead_229 nb dk pp gg jj qq x1 s0 = some (r, pp', gg', jj', qq') → va_P (dC, dI) clAll (wM h cI cB cZ th nb dk lk fa pp gg jj qq mp fx tn mn oq pq fo ca hr fd) H → va_D A (wM h cI cB cZ th nb dk lk fa pp gg jj qq mp fx tn mn oq pq fo ca hr fd) → va_S A s.heap H locs → lv_has ls 7 [(0, .ref (h 0)), (1, .int x1)] → W p l e (headSpec ws_M_badHead { frames := 3, cells := 0, slots := 0, locals := 63 }).room s m args below meth c H locs 0 0 Q (F0 m 229 ls [.int s0]) := by
    intro pp gg jj qq x1 s0 H locs ls hf hP hD hS hl
    unfold f_M_badHead_229 at hf
    refine lv_istore (lv' := [(6, .int s0), (0, .ref (h 0)), (1, .int x1)]) hx hb d_M_badHead_229 hl (by decide) rfl (fun ls hl => ?_)
    refine lv_iload hx hb d_M_badHead_231 (lv_at hl 0 rfl) ?_
    refine lv_if_eq (tgt := 304) hx hb d_M_badHead_233 (by decide) (fun c_1 => ?_) (fun c_1 => ?_)
    · have hf := ite_t c_1 hf
      refine lv_iconst (v := 1) hx hb d_M_badHead_304 (by decide) ?_
      refine lv_goto (tgt := 309) hx hb d_M_badHead_305 (by decide) ?_
      cases hf
      exact hret _ _ _ _ (Or.inr rfl) hP hD hS d_M_badHead_309
    · have hf := ite_f c_1 hf
      refine lv_aload_n hx hb d_M_badHead_236 rfl (lv_at hl 1 rfl) ?_
      refine lv_iload_n hx hb d_M_badHead_237 rfl (lv_at hl 2 rfl) ?_
      refine lv_bipush (v := 76) hx hb d_M_badHead_238 (by decide) ?_
      refine lv_iadd hx hb d_M_badHead_240 ?_
      obtain ⟨r_2, hc_3, hf⟩ := bd1_s hf
      refine ucVl (As := [.int (x1 + ((76 : Int32)))]) (rest := []) ⟨hx, hb, hml, hown, htb⟩ hK hP hD hS hA (fun hs => c_M_four hc_3) (cwV 1 htb (gV tw_874 tw_876 tw_36 tw_74 tw_877) rfl rfl rfl (by decide +kernel) ⟨Nat.le_of_ble_eq_true rfl, Nat.le_of_ble_eq_true rfl⟩) 0 5 rfl rfl rfl rfl rfl hl.1 (Nat.le_of_ble_eq_true rfl) d_M_badHead_241 ⟨Nat.zero_le _, Nat.zero_le _⟩ (fun H locs hP hD hS => ?_)
      refine lv_lconst (v := 1) hx hb d_M_badHead_244 (by decide) ?_
      refine lc_ne (tgt := 304) hx hb d_M_badHead_245 d_M_badHead_246 (by decide) (fun c_4 => ?_) (fun c_4 => ?_)
      · have hf := ite_f c_4 hf
        refine lv_iconst (v := 1) hx hb d_M_badHead_304 (by decide) ?_
        refine lv_goto (tgt := 309) hx hb d_M_badHead_305 (by decide) ?_
        cases hf
        exact hret _ _ _ _ (Or.inr rfl) hP hD hS d_M_badHead_309
      · have hf := ite_t c_4 hf
        refine lv_aload_n hx hb d_M_badHead_249 rfl (lv_at hl 1 rfl) ?_
        refine lv_iload_n hx hb d_M_badHead_250 rfl (lv_at hl 2 rfl) ?_
        refine lv_bipush (v := 84) hx hb d_M_badHead_251 (by decide) ?_
        refine lv_iadd hx hb d_M_badHead_253 ?_
        obtain ⟨r_5, hc_6, hf⟩ := bd1_s hf
        refine ucVl (As := [.int (x1 + ((84 : Int32)))]) (rest := []) ⟨hx, hb, hml, hown, htb⟩ hK hP hD hS hA (fun hs => c_M_four hc_6) (cwV 1 htb (gV tw_874 tw_876 tw_36 tw_74 tw_877) rfl rfl rfl (by decide +kernel) ⟨Nat.le_of_ble_eq_true rfl, Nat.le_of_ble_eq_true rfl⟩) 0 5 rfl rfl rfl rfl rfl hl.1 (Nat.le_of_ble_eq_true rfl) d_M_badHead_254 ⟨Nat.zero_le _, Nat.zero_le _⟩ (fun H locs hP hD hS => ?_)
        refine lv_ldc2 (v := 11) hx hb hown (htb _ tw_889) d_M_badHead_257 ?_
        refine lc_ne (tgt := 304) hx hb d_M_badHead_260 d_M_badHead_261 (by decide) (fun c_7 => ?_) (fun c_7 => ?_)
        · have hf := ite_f c_7 hf
          refine lv_iconst (v := 1) hx hb d_M_badHead_304 (by decide) ?_
          refine lv_goto (tgt := 309) hx hb d_M_badHead_305 (by decide) ?_
          cases hf
          exact hret _ _ _ _ (Or.inr rfl) hP hD hS d_M_badHead_309
        · have hf := ite_t c_7 hf
          refine lv_aload_n hx hb d_M_badHead_264 rfl (lv_at hl 1 rfl) ?_
          refine lv_iload_n hx hb d_M_badHead_265 rfl (lv_at hl 2 rfl) ?_
          refine lv_bipush (v := 88) hx hb d_M_badHead_266 (by decide) ?_
          refine lv_iadd hx hb d_M_badHead_268 ?_
          obtain ⟨r_8, hc_9, hf⟩ := bd1_s hf
          refine ucVi (As := [.int (x1 + ((88 : Int32)))]) (rest := []) ⟨hx, hb, hml, hown, htb⟩ hK hP hD hS hA (fun hs => c_M_two hc_9) (cwV 1 htb (gV tw_878 tw_880 tw_37 tw_74 tw_881) rfl rfl rfl (by decide +kernel) ⟨Nat.le_of_ble_eq_true rfl, Nat.le_of_ble_eq_true rfl⟩) 0 5 rfl rfl rfl rfl rfl hl.1 (Nat.le_of_ble_eq_true rfl) d_M_badHead_269 ⟨Nat.zero_le _, Nat.zero_le _⟩ (fun H locs hP hD hS => ?_)
          refine lv_sipush (v := 128) hx hb d_M_badHead_272 (by decide) ?_
          refine lv_icmp_ne (tgt := 304) hx hb d_M_badHead_275 (by decide) (fun c_10 => ?_) (fun c_10 => ?_)
          · have hf := ite_f c_10 hf
            refine lv_iconst (v := 1) hx hb d_M_badHead_304 (by decide) ?_
            refine lv_goto (tgt := 309) hx hb d_M_badHead_305 (by decide) ?_
            cases hf
            exact hret _ _ _ _ (Or.inr rfl) hP hD hS d_M_badHead_309
          · have hf := ite_t c_10 hf
            refine lv_aload_n hx hb d_M_badHead_278 rfl (lv_at hl 1 rfl) ?_
            refine lv_iload_n hx hb d_M_badHead_279 rfl (lv_at hl 2 rfl) ?_
            refine lv_bipush (v := 90) hx hb d_M_badHead_280 (by decide) ?_
            refine lv_iadd hx hb d_M_badHead_282 ?_
            obtain ⟨r_11, hc_12, hf⟩ := bd1_s hf
            refine ucVi (As := [.int (x1 + ((90 : Int32)))]) (rest := []) ⟨hx, hb, hml, hown, htb⟩ hK hP hD hS hA (fun hs => c_M_two hc_12) (cwV 1 htb (gV tw_878 tw_880 tw_37 tw_74 tw_881) rfl rfl rfl (by decide +kernel) ⟨Nat.le_of_ble_eq_true rfl, Nat.le_of_ble_eq_true rfl⟩) 0 5 rfl rfl rfl rfl rfl hl.1 (Nat.le_of_ble_eq_true rfl) d_M_badHead_283 ⟨Nat.zero_le _, Nat.zero_le _⟩ (fun H locs hP hD hS => ?_)
            refine lv_if_ne (tgt := 304) hx hb d_M_badHead_286 (by decide) (fun c_13 => ?_) (fun c_13 => ?_)
            · have hf := ite_f c_13 hf
              refine lv_iconst (v := 1) hx hb d_M_badHead_304 (by decide) ?_
              refine lv_goto (tgt := 309) hx hb d_M_badHead_305 (by decide) ?_
              cases hf
              exact hret _ _ _ _ (Or.inr rfl) hP hD hS d_M_badHead_309
            · have hf := ite_t c_13 hf
              refine lv_aload_n hx hb d_M_badHead_289 rfl (lv_at hl 1 rfl) ?_
              refine lv_iload_n hx hb d_M_badHead_290 rfl (lv_at hl 2 rfl) ?_
              refine lv_bipush (v := 96) hx hb d_M_badHead_291 (by decide) ?_
              refine lv_iadd hx hb d_M_badHead_293 ?_
              obtain ⟨r_14, hc_15, hf⟩ := bd1_s hf
              refine ucVl (As := [.int (x1 + ((96 : Int32)))]) (rest := []) ⟨hx, hb, hml, hown, htb⟩ hK hP hD hS hA (fun hs => c_M_four hc_15) (cwV 1 htb (gV tw_874 tw_876 tw_36 tw_74 tw_877) rfl rfl rfl (by decide +kernel) ⟨Nat.le_of_ble_eq_true rfl, Nat.le_of_ble_eq_true rfl⟩) 0 5 rfl rfl rfl rfl rfl hl.1 (Nat.le_of_ble_eq_true rfl) d_M_badHead_294 ⟨Nat.zero_le _, Nat.zero_le _⟩ (fun H locs hP hD hS => ?_)
              refine lv_ldc2 (v := 2) hx hb hown (htb _ tw_890) d_M_badHead_297 ?_
              refine lc_eq (tgt := 308) hx hb d_M_badHead_300 d_M_badHead_301 (by decide) (fun c_16 => ?_) (fun c_16 => ?_)
              · have hf := ite_t c_16 hf
                refine lv_iconst (v := 0) hx hb d_M_badHead_308 (by decide) ?_
                cases hf
                exact hret _ _ _ _ (Or.inl rfl) hP hD hS d_M_badHead_309
              · have hf := ite_f c_16 hf
                refine lv_iconst (v := 1) hx hb d_M_badHead_304 (by decide) ?_
                refine lv_goto (tgt := 309) hx hb d_M_badHead_305 (by decide) ?_
                cases hf
                exact hret _ _ _ _ (Or.inr rfl) hP hD hS d_M_badHead_309
  have hj_228 : ∀ (pp : Int32) (gg : Int32) (jj : Int32) (qq : Int32) (x1 : Int32) (H : Heap) (locs : List Loc) (ls : Array Slot), f_M_badHead_228 nb dk pp gg jj qq x1 = some (r, pp', gg', jj', qq') → va_P (dC, dI) clAll (wM h cI cB cZ th nb dk lk fa pp gg jj qq mp fx tn mn oq pq fo ca hr fd) H → va_D A (wM h cI cB cZ th nb dk lk fa pp gg jj qq mp fx tn mn oq pq fo ca hr fd) → va_S A s.heap H locs → lv_has ls 7 [(0, .ref (h 0)), (1, .int x1)] → W p l e (headSpec ws_M_badHead { frames := 3, cells := 0, slots := 0, locals := 63 }).room s m args below meth c H locs 0 0 Q (F0 m 228 ls []) := by
    intro pp gg jj qq x1 H locs ls hf hP hD hS hl
    unfold f_M_badHead_228 at hf
    refine lv_iconst (v := 0) hx hb d_M_badHead_228 (by decide) ?_
    exact hj_229 pp gg jj qq x1 ((0 : Int32)) _ _ _ hf hP hD hS (lv_sub hl [0, 1] rfl)
  have hj_47 : ∀ (pp : Int32) (gg : Int32) (jj : Int32) (qq : Int32) (x1 : Int32) (x2 : Int64) (x4 : Int64) (H : Heap) (locs : List Loc) (ls : Array Slot), f_M_badHead_47 nb dk pp gg jj qq x1 x2 x4 = some (r, pp', gg', jj', qq') → va_P (dC, dI) clAll (wM h cI cB cZ th nb dk lk fa pp gg jj qq mp fx tn mn oq pq fo ca hr fd) H → va_D A (wM h cI cB cZ th nb dk lk fa pp gg jj qq mp fx tn mn oq pq fo ca hr fd) → va_S A s.heap H locs → lv_has ls 7 [(0, .ref (h 0)), (1, .int x1), (2, .long x2), (4, .long x4)] → W p l e (headSpec ws_M_badHead { frames := 3, cells := 0, slots := 0, locals := 63 }).room s m args below meth c H locs 0 0 Q (F0 m 47 ls []) := by
    intro pp gg jj qq x1 x2 x4 H locs ls hf hP hD hS hl
    unfold f_M_badHead_47 at hf
    refine lv_lload hx hb d_M_badHead_47 (lv_at hl 3 rfl) ?_
    refine lv_ldc2 (v := 8) hx hb hown (htb _ tw_886) d_M_badHead_49 ?_
    refine lc_lt (tgt := 76) hx hb d_M_badHead_52 d_M_badHead_53 (by decide) (fun c_1 => ?_) (fun c_1 => ?_)
    · have hf := ite_t c_1 hf
      refine lv_iconst (v := 1) hx hb d_M_badHead_76 (by decide) ?_
      cases hf
      exact hret _ _ _ _ (Or.inr rfl) hP hD hS d_M_badHead_77
    · have hf := ite_f c_1 hf
      refine lv_lload hx hb d_M_badHead_56 (lv_at hl 3 rfl) ?_
      refine lv_ldc2 (v := 8192) hx hb hown (htb _ tw_887) d_M_badHead_58 ?_
      refine lc_gt (tgt := 76) hx hb d_M_badHead_61 d_M_badHead_62 (by decide) (fun c_2 => ?_) (fun c_2 => ?_)
      · have hf := ite_t c_2 hf
        refine lv_iconst (v := 1) hx hb d_M_badHead_76 (by decide) ?_
        cases hf
        exact hret _ _ _ _ (Or.inr rfl) hP hD hS d_M_badHead_77
      · have hf := ite_f c_2 hf
        refine lv_lload hx hb d_M_badHead_65 (lv_at hl 3 rfl) ?_
        refine lv_ldc2 (v := 8) hx hb hown (htb _ tw_886) d_M_badHead_67 ?_
        refine lv_lrem hx hb d_M_badHead_70 (by decide) ?_
        refine lv_lconst (v := 0) hx hb d_M_badHead_71 (by decide) ?_
        refine lc_eq (tgt := 78) hx hb d_M_badHead_72 d_M_badHead_73 (by decide) (fun c_3 => ?_) (fun c_3 => ?_)
        · have hf := ite_t c_3 hf
          refine lv_aload_n hx hb d_M_badHead_78 rfl (lv_at hl 0 rfl) ?_
          refine lv_lload_n hx hb d_M_badHead_79 rfl (lv_at hl 2 rfl) ?_
          refine lv_l2i hx hb d_M_badHead_80 rfl ?_
          refine va_put (D := (dC, dI)) (ci := 5) (v := .int (Int64.toInt32 x2)) (ty := .int) (C := R_M) (T := T_M) (N := 19) hx hb htb in_M ty_M tyok_M nm_M hown hK hP hD hS 0 rfl rfl 5 (by decide) (htb _ tw_771) (fun _ h9 => h9) rfl (by decide +kernel) rfl rfl (Nat.le_of_ble_eq_true rfl) d_M_badHead_81 (fun H locs hP hD hS => ?_)
          have hP : va_P (dC, dI) clAll (wM h cI cB cZ th nb dk lk fa (Int64.toInt32 x2) gg jj qq mp fx tn mn oq pq fo ca hr fd) H := hP
          have hD : va_D A (wM h cI cB cZ th nb dk lk fa (Int64.toInt32 x2) gg jj qq mp fx tn mn oq pq fo ca hr fd) := hD
          refine lv_aload_n hx hb d_M_badHead_84 rfl (lv_at hl 0 rfl) ?_
          refine lv_lload hx hb d_M_badHead_85 (lv_at hl 3 rfl) ?_
          refine lv_l2i hx hb d_M_badHead_87 rfl ?_
          refine va_put (D := (dC, dI)) (ci := 5) (v := .int (Int64.toInt32 x4)) (ty := .int) (C := R_M) (T := T_M) (N := 19) hx hb htb in_M ty_M tyok_M nm_M hown hK hP hD hS 0 rfl rfl 6 (by decide) (htb _ tw_772) (fun _ h9 => h9) rfl (by decide +kernel) rfl rfl (Nat.le_of_ble_eq_true rfl) d_M_badHead_88 (fun H locs hP hD hS => ?_)
          have hP : va_P (dC, dI) clAll (wM h cI cB cZ th nb dk lk fa (Int64.toInt32 x2) (Int64.toInt32 x4) jj qq mp fx tn mn oq pq fo ca hr fd) H := hP
          have hD : va_D A (wM h cI cB cZ th nb dk lk fa (Int64.toInt32 x2) (Int64.toInt32 x4) jj qq mp fx tn mn oq pq fo ca hr fd) := hD
          refine lv_aload_n hx hb d_M_badHead_91 rfl (lv_at hl 0 rfl) ?_
          refine lv_aload_n hx hb d_M_badHead_92 rfl (lv_at hl 0 rfl) ?_
          refine va_get (D := (dC, dI)) (ci := 5) (v := .int (Int64.toInt32 x4)) (C := R_M) (T := T_M) (N := 19) hx hb htb in_M hown hK hP 0 rfl rfl 6 (by decide) (htb _ tw_772) (fun _ h9 => h9) rfl d_M_badHead_93 ?_
          refine lv_bipush (v := 8) hx hb d_M_badHead_96 (by decide) ?_
          refine lv_idiv hx hb d_M_badHead_98 (by decide) ?_
          refine va_put (D := (dC, dI)) (ci := 5) (v := .int ((Int64.toInt32 x4) / ((8 : Int32)))) (ty := .int) (C := R_M) (T := T_M) (N := 19) hx hb htb in_M ty_M tyok_M nm_M hown hK hP hD hS 0 rfl rfl 7 (by decide) (htb _ tw_773) (fun _ h9 => h9) rfl (by decide +kernel) rfl rfl (Nat.le_of_ble_eq_true rfl) d_M_badHead_99 (fun H locs hP hD hS => ?_)
          have hP : va_P (dC, dI) clAll (wM h cI cB cZ th nb dk lk fa (Int64.toInt32 x2) (Int64.toInt32 x4) ((Int64.toInt32 x4) / ((8 : Int32))) qq mp fx tn mn oq pq fo ca hr fd) H := hP
          have hD : va_D A (wM h cI cB cZ th nb dk lk fa (Int64.toInt32 x2) (Int64.toInt32 x4) ((Int64.toInt32 x4) / ((8 : Int32))) qq mp fx tn mn oq pq fo ca hr fd) := hD
          refine lv_aload_n hx hb d_M_badHead_102 rfl (lv_at hl 0 rfl) ?_
          refine lv_aload_n hx hb d_M_badHead_103 rfl (lv_at hl 0 rfl) ?_
          refine va_get (D := (dC, dI)) (ci := 5) (v := .int nb) (C := R_M) (T := T_M) (N := 19) hx hb htb in_M hown hK hP 0 rfl rfl 1 (by decide) (htb _ tw_767) (fun _ h9 => h9) rfl d_M_badHead_104 ?_
          refine lv_iconst (v := 1) hx hb d_M_badHead_107 (by decide) ?_
          refine lv_isub hx hb d_M_badHead_108 ?_
          refine lv_aload_n hx hb d_M_badHead_109 rfl (lv_at hl 0 rfl) ?_
          refine va_get (D := (dC, dI)) (ci := 5) (v := .int (Int64.toInt32 x2)) (C := R_M) (T := T_M) (N := 19) hx hb htb in_M hown hK hP 0 rfl rfl 5 (by decide) (htb _ tw_771) (fun _ h9 => h9) rfl d_M_badHead_110 ?_
          refine lv_iadd hx hb d_M_badHead_113 ?_
          refine lv_iconst (v := 1) hx hb d_M_badHead_114 (by decide) ?_
          refine lv_isub hx hb d_M_badHead_115 ?_
          refine lv_aload_n hx hb d_M_badHead_116 rfl (lv_at hl 0 rfl) ?_
          refine va_get (D := (dC, dI)) (ci := 5) (v := .int (Int64.toInt32 x2)) (C := R_M) (T := T_M) (N := 19) hx hb htb in_M hown hK hP 0 rfl rfl 5 (by decide) (htb _ tw_771) (fun _ h9 => h9) rfl d_M_badHead_117 ?_
          obtain ⟨c_4, hf⟩ := gd_s hf
          refine lv_idiv hx hb d_M_badHead_120 c_4 ?_
          refine va_put (D := (dC, dI)) (ci := 5) (v := .int ((((nb - ((1 : Int32))) + (Int64.toInt32 x2)) - ((1 : Int32))) / (Int64.toInt32 x2))) (ty := .int) (C := R_M) (T := T_M) (N := 19) hx hb htb in_M ty_M tyok_M nm_M hown hK hP hD hS 0 rfl rfl 8 (by decide) (htb _ tw_774) (fun _ h9 => h9) rfl (by decide +kernel) rfl rfl (Nat.le_of_ble_eq_true rfl) d_M_badHead_121 (fun H locs hP hD hS => ?_)
          have hP : va_P (dC, dI) clAll (wM h cI cB cZ th nb dk lk fa (Int64.toInt32 x2) (Int64.toInt32 x4) ((Int64.toInt32 x4) / ((8 : Int32))) ((((nb - ((1 : Int32))) + (Int64.toInt32 x2)) - ((1 : Int32))) / (Int64.toInt32 x2)) mp fx tn mn oq pq fo ca hr fd) H := hP
          have hD : va_D A (wM h cI cB cZ th nb dk lk fa (Int64.toInt32 x2) (Int64.toInt32 x4) ((Int64.toInt32 x4) / ((8 : Int32))) ((((nb - ((1 : Int32))) + (Int64.toInt32 x2)) - ((1 : Int32))) / (Int64.toInt32 x2)) mp fx tn mn oq pq fo ca hr fd) := hD
          refine lv_aload_n hx hb d_M_badHead_124 rfl (lv_at hl 0 rfl) ?_
          refine lv_iload_n hx hb d_M_badHead_125 rfl (lv_at hl 1 rfl) ?_
          obtain ⟨r_5, hc_6, hf⟩ := bd1_s hf
          refine ucVl (As := [.int x1]) (rest := []) ⟨hx, hb, hml, hown, htb⟩ hK hP hD hS hA (fun hs => c_M_four hc_6) (cwV 1 htb (gV tw_874 tw_876 tw_36 tw_74 tw_877) rfl rfl rfl (by decide +kernel) ⟨Nat.le_of_ble_eq_true rfl, Nat.le_of_ble_eq_true rfl⟩) 0 5 rfl rfl rfl rfl rfl hl.1 (Nat.le_of_ble_eq_true rfl) d_M_badHead_126 ⟨Nat.zero_le _, Nat.zero_le _⟩ (fun H locs hP hD hS => ?_)
          refine lv_aload_n hx hb d_M_badHead_129 rfl (lv_at hl 0 rfl) ?_
          refine va_get (D := (dC, dI)) (ci := 5) (v := .int ((((nb - ((1 : Int32))) + (Int64.toInt32 x2)) - ((1 : Int32))) / (Int64.toInt32 x2))) (C := R_M) (T := T_M) (N := 19) hx hb htb in_M hown hK hP 0 rfl rfl 8 (by decide) (htb _ tw_774) (fun _ h9 => h9) rfl d_M_badHead_130 ?_
          refine lv_i2l hx hb d_M_badHead_133 rfl ?_
          refine lv_aload_n hx hb d_M_badHead_134 rfl (lv_at hl 0 rfl) ?_
          refine va_get (D := (dC, dI)) (ci := 5) (v := .int (Int64.toInt32 x4)) (C := R_M) (T := T_M) (N := 19) hx hb htb in_M hown hK hP 0 rfl rfl 6 (by decide) (htb _ tw_772) (fun _ h9 => h9) rfl d_M_badHead_135 ?_
          refine lv_i2l hx hb d_M_badHead_138 rfl ?_
          refine lv_lmul hx hb d_M_badHead_139 ?_
          refine lc_ne (tgt := 228) hx hb d_M_badHead_140 d_M_badHead_141 (by decide) (fun c_7 => ?_) (fun c_7 => ?_)
          · have hf := ite_f c_7 hf
            exact hj_228 (Int64.toInt32 x2) (Int64.toInt32 x4) ((Int64.toInt32 x4) / ((8 : Int32))) ((((nb - ((1 : Int32))) + (Int64.toInt32 x2)) - ((1 : Int32))) / (Int64.toInt32 x2)) x1 _ _ _ hf hP hD hS (lv_sub hl [0, 1] rfl)
          · have hf := ite_t c_7 hf
            refine lv_aload_n hx hb d_M_badHead_144 rfl (lv_at hl 0 rfl) ?_
            refine lv_iload_n hx hb d_M_badHead_145 rfl (lv_at hl 1 rfl) ?_
            refine lv_iconst (v := 4) hx hb d_M_badHead_146 (by decide) ?_
            refine lv_iadd hx hb d_M_badHead_147 ?_
            obtain ⟨r_8, hc_9, hf⟩ := bd1_s hf
            refine ucVl (As := [.int (x1 + ((4 : Int32)))]) (rest := []) ⟨hx, hb, hml, hown, htb⟩ hK hP hD hS hA (fun hs => c_M_four hc_9) (cwV 1 htb (gV tw_874 tw_876 tw_36 tw_74 tw_877) rfl rfl rfl (by decide +kernel) ⟨Nat.le_of_ble_eq_true rfl, Nat.le_of_ble_eq_true rfl⟩) 0 5 rfl rfl rfl rfl rfl hl.1 (Nat.le_of_ble_eq_true rfl) d_M_badHead_148 ⟨Nat.zero_le _, Nat.zero_le _⟩ (fun H locs hP hD hS => ?_)
            refine lv_aload_n hx hb d_M_badHead_151 rfl (lv_at hl 0 rfl) ?_
            refine va_get (D := (dC, dI)) (ci := 5) (v := .int nb) (C := R_M) (T := T_M) (N := 19) hx hb htb in_M hown hK hP 0 rfl rfl 1 (by decide) (htb _ tw_767) (fun _ h9 => h9) rfl d_M_badHead_152 ?_
            refine lv_i2l hx hb d_M_badHead_155 rfl ?_
            refine lc_ne (tgt := 228) hx hb d_M_badHead_156 d_M_badHead_157 (by decide) (fun c_10 => ?_) (fun c_10 => ?_)
            · have hf := ite_f c_10 hf
              exact hj_228 (Int64.toInt32 x2) (Int64.toInt32 x4) ((Int64.toInt32 x4) / ((8 : Int32))) ((((nb - ((1 : Int32))) + (Int64.toInt32 x2)) - ((1 : Int32))) / (Int64.toInt32 x2)) x1 _ _ _ hf hP hD hS (lv_sub hl [0, 1] rfl)
            · have hf := ite_t c_10 hf
              refine lv_aload_n hx hb d_M_badHead_160 rfl (lv_at hl 0 rfl) ?_
              refine lv_iload_n hx hb d_M_badHead_161 rfl (lv_at hl 1 rfl) ?_
              refine lv_bipush (v := 20) hx hb d_M_badHead_162 (by decide) ?_
              refine lv_iadd hx hb d_M_badHead_164 ?_
              obtain ⟨r_11, hc_12, hf⟩ := bd1_s hf
              refine ucVl (As := [.int (x1 + ((20 : Int32)))]) (rest := []) ⟨hx, hb, hml, hown, htb⟩ hK hP hD hS hA (fun hs => c_M_four hc_12) (cwV 1 htb (gV tw_874 tw_876 tw_36 tw_74 tw_877) rfl rfl rfl (by decide +kernel) ⟨Nat.le_of_ble_eq_true rfl, Nat.le_of_ble_eq_true rfl⟩) 0 5 rfl rfl rfl rfl rfl hl.1 (Nat.le_of_ble_eq_true rfl) d_M_badHead_165 ⟨Nat.zero_le _, Nat.zero_le _⟩ (fun H locs hP hD hS => ?_)
              refine lv_lconst (v := 1) hx hb d_M_badHead_168 (by decide) ?_
              refine lc_ne (tgt := 228) hx hb d_M_badHead_169 d_M_badHead_170 (by decide) (fun c_13 => ?_) (fun c_13 => ?_)
              · have hf := ite_f c_13 hf
                exact hj_228 (Int64.toInt32 x2) (Int64.toInt32 x4) ((Int64.toInt32 x4) / ((8 : Int32))) ((((nb - ((1 : Int32))) + (Int64.toInt32 x2)) - ((1 : Int32))) / (Int64.toInt32 x2)) x1 _ _ _ hf hP hD hS (lv_sub hl [0, 1] rfl)
              · have hf := ite_t c_13 hf
                refine lv_aload_n hx hb d_M_badHead_173 rfl (lv_at hl 0 rfl) ?_
                refine lv_iload_n hx hb d_M_badHead_174 rfl (lv_at hl 1 rfl) ?_
                refine lv_bipush (v := 24) hx hb d_M_badHead_175 (by decide) ?_
                refine lv_iadd hx hb d_M_badHead_177 ?_
                obtain ⟨r_14, hc_15, hf⟩ := bd1_s hf
                refine ucVl (As := [.int (x1 + ((24 : Int32)))]) (rest := []) ⟨hx, hb, hml, hown, htb⟩ hK hP hD hS hA (fun hs => c_M_four hc_15) (cwV 1 htb (gV tw_874 tw_876 tw_36 tw_74 tw_877) rfl rfl rfl (by decide +kernel) ⟨Nat.le_of_ble_eq_true rfl, Nat.le_of_ble_eq_true rfl⟩) 0 5 rfl rfl rfl rfl rfl hl.1 (Nat.le_of_ble_eq_true rfl) d_M_badHead_178 ⟨Nat.zero_le _, Nat.zero_le _⟩ (fun H locs hP hD hS => ?_)
                refine lv_lconst (v := 0) hx hb d_M_badHead_181 (by decide) ?_
                refine lc_ne (tgt := 228) hx hb d_M_badHead_182 d_M_badHead_183 (by decide) (fun c_16 => ?_) (fun c_16 => ?_)
                · have hf := ite_f c_16 hf
                  exact hj_228 (Int64.toInt32 x2) (Int64.toInt32 x4) ((Int64.toInt32 x4) / ((8 : Int32))) ((((nb - ((1 : Int32))) + (Int64.toInt32 x2)) - ((1 : Int32))) / (Int64.toInt32 x2)) x1 _ _ _ hf hP hD hS (lv_sub hl [0, 1] rfl)
                · have hf := ite_t c_16 hf
                  refine lv_aload_n hx hb d_M_badHead_186 rfl (lv_at hl 0 rfl) ?_
                  refine lv_iload_n hx hb d_M_badHead_187 rfl (lv_at hl 1 rfl) ?_
                  refine lv_bipush (v := 36) hx hb d_M_badHead_188 (by decide) ?_
                  refine lv_iadd hx hb d_M_badHead_190 ?_
                  obtain ⟨r_17, hc_18, hf⟩ := bd1_s hf
                  refine ucVl (As := [.int (x1 + ((36 : Int32)))]) (rest := []) ⟨hx, hb, hml, hown, htb⟩ hK hP hD hS hA (fun hs => c_M_four hc_18) (cwV 1 htb (gV tw_874 tw_876 tw_36 tw_74 tw_877) rfl rfl rfl (by decide +kernel) ⟨Nat.le_of_ble_eq_true rfl, Nat.le_of_ble_eq_true rfl⟩) 0 5 rfl rfl rfl rfl rfl hl.1 (Nat.le_of_ble_eq_true rfl) d_M_badHead_191 ⟨Nat.zero_le _, Nat.zero_le _⟩ (fun H locs hP hD hS => ?_)
                  refine lv_lload_n hx hb d_M_badHead_194 rfl (lv_at hl 2 rfl) ?_
                  refine lc_ne (tgt := 228) hx hb d_M_badHead_195 d_M_badHead_196 (by decide) (fun c_19 => ?_) (fun c_19 => ?_)
                  · have hf := ite_f c_19 hf
                    exact hj_228 (Int64.toInt32 x2) (Int64.toInt32 x4) ((Int64.toInt32 x4) / ((8 : Int32))) ((((nb - ((1 : Int32))) + (Int64.toInt32 x2)) - ((1 : Int32))) / (Int64.toInt32 x2)) x1 _ _ _ hf hP hD hS (lv_sub hl [0, 1] rfl)
                  · have hf := ite_t c_19 hf
                    refine lv_aload_n hx hb d_M_badHead_199 rfl (lv_at hl 0 rfl) ?_
                    refine lv_iload_n hx hb d_M_badHead_200 rfl (lv_at hl 1 rfl) ?_
                    refine lv_bipush (v := 56) hx hb d_M_badHead_201 (by decide) ?_
                    refine lv_iadd hx hb d_M_badHead_203 ?_
                    obtain ⟨r_20, hc_21, hf⟩ := bd1_s hf
                    refine ucVi (As := [.int (x1 + ((56 : Int32)))]) (rest := []) ⟨hx, hb, hml, hown, htb⟩ hK hP hD hS hA (fun hs => c_M_two hc_21) (cwV 1 htb (gV tw_878 tw_880 tw_37 tw_74 tw_881) rfl rfl rfl (by decide +kernel) ⟨Nat.le_of_ble_eq_true rfl, Nat.le_of_ble_eq_true rfl⟩) 0 5 rfl rfl rfl rfl rfl hl.1 (Nat.le_of_ble_eq_true rfl) d_M_badHead_204 ⟨Nat.zero_le _, Nat.zero_le _⟩ (fun H locs hP hD hS => ?_)
                    refine lv_ldc (v := 61267) hx hb hown (htb _ tw_888) d_M_badHead_207 ?_
                    refine lv_icmp_ne (tgt := 228) hx hb d_M_badHead_209 (by decide) (fun c_22 => ?_) (fun c_22 => ?_)
                    · have hf := ite_f c_22 hf
                      exact hj_228 (Int64.toInt32 x2) (Int64.toInt32 x4) ((Int64.toInt32 x4) / ((8 : Int32))) ((((nb - ((1 : Int32))) + (Int64.toInt32 x2)) - ((1 : Int32))) / (Int64.toInt32 x2)) x1 _ _ _ hf hP hD hS (lv_sub hl [0, 1] rfl)
                    · have hf := ite_t c_22 hf
                      refine lv_aload_n hx hb d_M_badHead_212 rfl (lv_at hl 0 rfl) ?_
                      refine lv_iload_n hx hb d_M_badHead_213 rfl (lv_at hl 1 rfl) ?_
                      refine lv_bipush (v := 58) hx hb d_M_badHead_214 (by decide) ?_
                      refine lv_iadd hx hb d_M_badHead_216 ?_
                      obtain ⟨r_23, hc_24, hf⟩ := bd1_s hf
                      refine ucVi (As := [.int (x1 + ((58 : Int32)))]) (rest := []) ⟨hx, hb, hml, hown, htb⟩ hK hP hD hS hA (fun hs => c_M_two hc_24) (cwV 1 htb (gV tw_878 tw_880 tw_37 tw_74 tw_881) rfl rfl rfl (by decide +kernel) ⟨Nat.le_of_ble_eq_true rfl, Nat.le_of_ble_eq_true rfl⟩) 0 5 rfl rfl rfl rfl rfl hl.1 (Nat.le_of_ble_eq_true rfl) d_M_badHead_217 ⟨Nat.zero_le _, Nat.zero_le _⟩ (fun H locs hP hD hS => ?_)
                      refine lv_iconst (v := 1) hx hb d_M_badHead_220 (by decide) ?_
                      refine lv_icmp_ne (tgt := 228) hx hb d_M_badHead_221 (by decide) (fun c_25 => ?_) (fun c_25 => ?_)
                      · have hf := ite_f c_25 hf
                        exact hj_228 (Int64.toInt32 x2) (Int64.toInt32 x4) ((Int64.toInt32 x4) / ((8 : Int32))) ((((nb - ((1 : Int32))) + (Int64.toInt32 x2)) - ((1 : Int32))) / (Int64.toInt32 x2)) x1 _ _ _ hf hP hD hS (lv_sub hl [0, 1] rfl)
                      · have hf := ite_t c_25 hf
                        refine lv_iconst (v := 1) hx hb d_M_badHead_224 (by decide) ?_
                        refine lv_goto (tgt := 229) hx hb d_M_badHead_225 (by decide) ?_
                        exact hj_229 (Int64.toInt32 x2) (Int64.toInt32 x4) ((Int64.toInt32 x4) / ((8 : Int32))) ((((nb - ((1 : Int32))) + (Int64.toInt32 x2)) - ((1 : Int32))) / (Int64.toInt32 x2)) x1 ((1 : Int32)) _ _ _ hf hP hD hS (lv_sub hl [0, 1] rfl)
        · have hf := ite_f c_3 hf
          refine lv_iconst (v := 1) hx hb d_M_badHead_76 (by decide) ?_
          cases hf
          exact hret _ _ _ _ (Or.inr rfl) hP hD hS d_M_badHead_77
  unfold f_M_badHead at hf
  refine lv_sipush (v := 1024) hx hb d_M_badHead_0 (by decide) ?_
  refine lv_istore_n (lv' := [(1, .int ((1024 : Int32))), (0, .ref (h 0))]) hx hb d_M_badHead_3 rfl hl (by decide) rfl (fun ls hl => ?_)
  refine lv_aload_n hx hb d_M_badHead_4 rfl (lv_at hl 1 rfl) ?_
  refine lv_iload_n hx hb d_M_badHead_5 rfl (lv_at hl 0 rfl) ?_
  refine lv_bipush (v := 32) hx hb d_M_badHead_6 (by decide) ?_
  refine lv_iadd hx hb d_M_badHead_8 ?_
  obtain ⟨r_1, hc_2, hf⟩ := bd1_s hf
  refine ucVl (As := [.int (((1024 : Int32)) + ((32 : Int32)))]) (rest := []) ⟨hx, hb, hml, hown, htb⟩ hK hP hD hS hA (fun hs => c_M_four hc_2) (cwV 1 htb (gV tw_874 tw_876 tw_36 tw_74 tw_877) rfl rfl rfl (by decide +kernel) ⟨Nat.le_of_ble_eq_true rfl, Nat.le_of_ble_eq_true rfl⟩) 0 5 rfl rfl rfl rfl rfl hl.1 (Nat.le_of_ble_eq_true rfl) d_M_badHead_9 ⟨Nat.zero_le _, Nat.zero_le _⟩ (fun H locs hP hD hS => ?_)
  refine lv_lstore_n (lv' := [(2, .long r_1), (1, .int ((1024 : Int32))), (0, .ref (h 0))]) hx hb d_M_badHead_12 rfl hl (by decide) rfl (fun ls hl => ?_)
  refine lv_aload_n hx hb d_M_badHead_13 rfl (lv_at hl 2 rfl) ?_
  refine lv_iload_n hx hb d_M_badHead_14 rfl (lv_at hl 1 rfl) ?_
  refine lv_bipush (v := 40) hx hb d_M_badHead_15 (by decide) ?_
  refine lv_iadd hx hb d_M_badHead_17 ?_
  obtain ⟨r_3, hc_4, hf⟩ := bd1_s hf
  refine ucVl (As := [.int (((1024 : Int32)) + ((40 : Int32)))]) (rest := []) ⟨hx, hb, hml, hown, htb⟩ hK hP hD hS hA (fun hs => c_M_four hc_4) (cwV 1 htb (gV tw_874 tw_876 tw_36 tw_74 tw_877) rfl rfl rfl (by decide +kernel) ⟨Nat.le_of_ble_eq_true rfl, Nat.le_of_ble_eq_true rfl⟩) 0 5 rfl rfl rfl rfl rfl hl.1 (Nat.le_of_ble_eq_true rfl) d_M_badHead_18 ⟨Nat.zero_le _, Nat.zero_le _⟩ (fun H locs hP hD hS => ?_)
  refine lv_lstore (lv' := [(4, .long r_3), (2, .long r_1), (1, .int ((1024 : Int32))), (0, .ref (h 0))]) hx hb d_M_badHead_21 hl (by decide) rfl (fun ls hl => ?_)
  refine lv_lload_n hx hb d_M_badHead_23 rfl (lv_at hl 1 rfl) ?_
  refine lv_ldc2 (v := 64) hx hb hown (htb _ tw_883) d_M_badHead_24 ?_
  refine lc_eq (tgt := 47) hx hb d_M_badHead_27 d_M_badHead_28 (by decide) (fun c_5 => ?_) (fun c_5 => ?_)
  · have hf := ite_t c_5 hf
    exact hj_47 pp gg jj qq ((1024 : Int32)) r_1 r_3 _ _ _ hf hP hD hS (lv_sub hl [3, 2, 1, 0] rfl)
  · have hf := ite_f c_5 hf
    refine lv_lload_n hx hb d_M_badHead_31 rfl (lv_at hl 1 rfl) ?_
    refine lv_ldc2 (v := 128) hx hb hown (htb _ tw_884) d_M_badHead_32 ?_
    refine lc_eq (tgt := 47) hx hb d_M_badHead_35 d_M_badHead_36 (by decide) (fun c_6 => ?_) (fun c_6 => ?_)
    · have hf := ite_t c_6 hf
      exact hj_47 pp gg jj qq ((1024 : Int32)) r_1 r_3 _ _ _ hf hP hD hS (lv_sub hl [3, 2, 1, 0] rfl)
    · have hf := ite_f c_6 hf
      refine lv_lload_n hx hb d_M_badHead_39 rfl (lv_at hl 1 rfl) ?_
      refine lv_ldc2 (v := 256) hx hb hown (htb _ tw_885) d_M_badHead_40 ?_
      refine lc_ne (tgt := 76) hx hb d_M_badHead_43 d_M_badHead_44 (by decide) (fun c_7 => ?_) (fun c_7 => ?_)
      · have hf := ite_f c_7 hf
        refine lv_iconst (v := 1) hx hb d_M_badHead_76 (by decide) ?_
        cases hf
        exact hret _ _ _ _ (Or.inr rfl) hP hD hS d_M_badHead_77
      · have hf := ite_t c_7 hf
        exact hj_47 pp gg jj qq ((1024 : Int32)) r_1 r_3 _ _ _ hf hP hD hS (lv_sub hl [3, 2, 1, 0] rfl)
set_option maxHeartbeats 4000000 in
set_option maxRecDepth 100000 in
theorem c_M_badCopies {l : Launch} {dC : Nat → ClassId} {dI : Nat → Nat → Nat} {N : Nat} {h : Nat → Nat} {cI : ClassId} {cB : ClassId} {cZ : ClassId} {th : Int32} {nb : Int32} {dk : Nat → Int32} {lk : Int32} {fa : Int32} {pp : Int32} {gg : Int32} {jj : Int32} {qq : Int32} {mp : Nat → Int32} {fx : Nat → Int32} {tn : Nat → Int32} {mn : Int32} {oq : Nat → Int32} {pq : Nat → Int32} {fo : Nat → Int32} {ca : Nat → Int32} {hr : Int32} {fd : Int32} {hs : Nat} {r : Int32} (hf : f_M_badCopies N nb dk pp qq = some (r)) : Met l y_M_badCopies ws_M_badCopies { frames := 2, cells := 0, slots := 0, locals := 42 } (PcU (dC, dI) clAll [(cI, .int), (cB, .byte), (cZ, .boolean)] (wM h cI cB cZ th nb dk lk fa pp gg jj qq mp fx tn mn oq pq fo ca hr fd) hs [.ref (h 0)]) (QUi (dC, dI) clAll [(cI, .int), (cB, .byte), (cZ, .boolean)] (wM h cI cB cZ th nb dk lk fa pp gg jj qq mp fx tn mn oq pq fo ca hr fd) (wM h cI cB cZ th nb dk lk fa pp gg jj qq mp fx tn mn oq pq fo ca hr fd) hs r) 0 0 (va_A (wM h cI cB cZ th nb dk lk fa pp gg jj qq mp fx tn mn oq pq fo ca hr fd) hs) := by
  refine mUz (cc := b_M_badCopies) (maxL := 4) (by decide) rfl (Nat.le_of_ble_eq_true rfl) ?_
  intro p e s m args below meth c Q hx hb hml hts hown A hA hK hP hD hS hret ls hl
  have htb : ∀ w ∈ TB, w.before args s = true := fun w h => hts w (List.mem_cons_of_mem _ h)
  have hl : lv_has ls 4 [(0, .ref (h 0))] := hl
  have hj_2 : ∀ (k_2 : Nat) (x1 : Int32) (H : Heap) (locs : List Loc) (ls : Array Slot), f_M_badCopies_2 N nb dk pp qq k_2 x1 = some (r) → va_P (dC, dI) clAll (wM h cI cB cZ th nb dk lk fa pp gg jj qq mp fx tn mn oq pq fo ca hr fd) H → va_D A (wM h cI cB cZ th nb dk lk fa pp gg jj qq mp fx tn mn oq pq fo ca hr fd) → va_S A s.heap H locs → lv_has ls 4 [(0, .ref (h 0)), (1, .int x1)] → W p l e (headSpec ws_M_badCopies { frames := 2, cells := 0, slots := 0, locals := 42 }).room s m args below meth c H locs 0 0 Q (F0 m 2 ls []) := by
    intro k_2
    induction k_2 with
    | zero => intro _ _ _ _ hf; exact absurd hf (by simp [f_M_badCopies_2])
    | succ k_2 ih_2 =>
      have hj_23 : ∀ (k_23 : Nat) (x1 : Int32) (x2 : Int32) (H : Heap) (locs : List Loc) (ls : Array Slot), f_M_badCopies_23 N nb dk pp qq (f_M_badCopies_2 N nb dk pp qq k_2) k_23 x1 x2 = some (r) → va_P (dC, dI) clAll (wM h cI cB cZ th nb dk lk fa pp gg jj qq mp fx tn mn oq pq fo ca hr fd) H → va_D A (wM h cI cB cZ th nb dk lk fa pp gg jj qq mp fx tn mn oq pq fo ca hr fd) → va_S A s.heap H locs → lv_has ls 4 [(0, .ref (h 0)), (1, .int x1), (2, .int x2)] → W p l e (headSpec ws_M_badCopies { frames := 2, cells := 0, slots := 0, locals := 42 }).room s m args below meth c H locs 0 0 Q (F0 m 23 ls []) := by
        intro k_23
        induction k_23 with
        | zero => intro _ _ _ _ _ hf; exact absurd hf (by simp [f_M_badCopies_23])
        | succ k_23 ih_23 =>
          have hj_59 : ∀ (x1 : Int32) (x2 : Int32) (s0 : Int32) (H : Heap) (locs : List Loc) (ls : Array Slot), f_M_badCopies_59 N nb dk pp qq (f_M_badCopies_2 N nb dk pp qq k_2) (f_M_badCopies_23 N nb dk pp qq (f_M_badCopies_2 N nb dk pp qq k_2) k_23) x1 x2 s0 = some (r) → va_P (dC, dI) clAll (wM h cI cB cZ th nb dk lk fa pp gg jj qq mp fx tn mn oq pq fo ca hr fd) H → va_D A (wM h cI cB cZ th nb dk lk fa pp gg jj qq mp fx tn mn oq pq fo ca hr fd) → va_S A s.heap H locs → lv_has ls 4 [(0, .ref (h 0)), (1, .int x1), (2, .int x2)] → W p l e (headSpec ws_M_badCopies { frames := 2, cells := 0, slots := 0, locals := 42 }).room s m args below meth c H locs 0 0 Q (F0 m 59 ls [.int s0]) := by
            intro x1 x2 s0 H locs ls hf hP hD hS hl
            unfold f_M_badCopies_59 at hf
            refine lv_istore_n (lv' := [(3, .int s0), (0, .ref (h 0)), (1, .int x1), (2, .int x2)]) hx hb d_M_badCopies_59 rfl hl (by decide) rfl (fun ls hl => ?_)
            refine lv_aload_n hx hb d_M_badCopies_60 rfl (lv_at hl 1 rfl) ?_
            refine lv_sipush (v := 1024) hx hb d_M_badCopies_61 (by decide) ?_
            refine lv_aload_n hx hb d_M_badCopies_64 rfl (lv_at hl 1 rfl) ?_
            refine lv_iload_n hx hb d_M_badCopies_65 rfl (lv_at hl 2 rfl) ?_
            obtain ⟨r_1, hc_2, hf⟩ := bd1_s hf
            refine ucVi (As := [.int x1]) (rest := [.int ((1024 : Int32)), .ref (h 0)]) ⟨hx, hb, hml, hown, htb⟩ hK hP hD hS hA (fun hs => c_M_begin hc_2) (cwV 1 htb (gV tw_899 tw_901 tw_40 tw_74 tw_902) rfl rfl rfl (by decide +kernel) ⟨Nat.le_of_ble_eq_true rfl, Nat.le_of_ble_eq_true rfl⟩) 0 5 rfl rfl rfl rfl rfl hl.1 (Nat.le_of_ble_eq_true rfl) d_M_badCopies_66 ⟨Nat.zero_le _, Nat.zero_le _⟩ (fun H locs hP hD hS => ?_)
            refine lv_imul hx hb d_M_badCopies_69 ?_
            refine lv_iload_n hx hb d_M_badCopies_70 rfl (lv_at hl 3 rfl) ?_
            refine lv_iadd hx hb d_M_badCopies_71 ?_
            obtain ⟨r_3, hc_4, hf⟩ := bd1_s hf
            refine ucVi (As := [.int ((((1024 : Int32)) * r_1) + x2)]) (rest := []) ⟨hx, hb, hml, hown, htb⟩ hK hP hD hS hA (fun hs => c_M_one hc_4) (cwV 1 htb (gV tw_854 tw_856 tw_32 tw_74 tw_857) rfl rfl rfl (by decide +kernel) ⟨Nat.le_of_ble_eq_true rfl, Nat.le_of_ble_eq_true rfl⟩) 0 5 rfl rfl rfl rfl rfl hl.1 (Nat.le_of_ble_eq_true rfl) d_M_badCopies_72 ⟨Nat.zero_le _, Nat.zero_le _⟩ (fun H locs hP hD hS => ?_)
            refine lv_iload_n hx hb d_M_badCopies_75 rfl (lv_at hl 0 rfl) ?_
            refine lv_icmp_eq (tgt := 81) hx hb d_M_badCopies_76 (by decide) (fun c_5 => ?_) (fun c_5 => ?_)
            · have hf := ite_t c_5 hf
              obtain ⟨v2_6, ev2_6, hf⟩ := lt1_s hf
              refine lv_iinc (v := v2_6) (lv' := [(2, .int v2_6), (3, .int s0), (0, .ref (h 0)), (1, .int x1)]) hx hb d_M_badCopies_81 hl (k := 3) rfl (by rw [← ev2_6]; rfl) (by decide) rfl (fun ls hl => ?_)
              refine lv_goto (tgt := 23) hx hb d_M_badCopies_84 (by decide) ?_
              exact ih_23 x1 v2_6 _ _ _ hf hP hD hS (lv_sub hl [2, 3, 0] rfl)
            · have hf := ite_f c_5 hf
              refine lv_iconst (v := 1) hx hb d_M_badCopies_79 (by decide) ?_
              cases hf
              exact hret _ _ _ _ (Or.inr rfl) hP hD hS d_M_badCopies_80
          intro x1 x2 H locs ls hf hP hD hS hl
          rw [f_M_badCopies_23] at hf
          refine lv_iload_n hx hb d_M_badCopies_23 rfl (lv_at hl 2 rfl) ?_
          refine lv_sipush (v := 2048) hx hb d_M_badCopies_24 (by decide) ?_
          refine lv_icmp_ge (tgt := 87) hx hb d_M_badCopies_27 (by decide) (fun c_1 => ?_) (fun c_1 => ?_)
          · have hf := ite_t c_1 hf
            obtain ⟨v1_2, ev1_2, hf⟩ := lt1_s hf
            refine lv_iinc (v := v1_2) (lv' := [(1, .int v1_2), (0, .ref (h 0)), (2, .int x2)]) hx hb d_M_badCopies_87 hl (k := 1) rfl (by rw [← ev1_2]; rfl) (by decide) rfl (fun ls hl => ?_)
            refine lv_goto (tgt := 2) hx hb d_M_badCopies_90 (by decide) ?_
            exact ih_2 v1_2 _ _ _ hf hP hD hS (lv_sub hl [1, 0] rfl)
          · have hf := ite_f c_1 hf
            refine lv_iload_n hx hb d_M_badCopies_30 rfl (lv_at hl 2 rfl) ?_
            refine lv_bipush (v := 90) hx hb d_M_badCopies_31 (by decide) ?_
            refine lv_icmp_ne (tgt := 40) hx hb d_M_badCopies_33 (by decide) (fun c_3 => ?_) (fun c_3 => ?_)
            · have hf := ite_f c_3 hf
              refine lv_iload_n hx hb d_M_badCopies_40 rfl (lv_at hl 2 rfl) ?_
              refine lv_bipush (v := 91) hx hb d_M_badCopies_41 (by decide) ?_
              refine lv_icmp_ne (tgt := 50) hx hb d_M_badCopies_43 (by decide) (fun c_4 => ?_) (fun c_4 => ?_)
              · have hf := ite_f c_4 hf
                refine lv_aload_n hx hb d_M_badCopies_50 rfl (lv_at hl 0 rfl) ?_
                refine lv_sipush (v := 1024) hx hb d_M_badCopies_51 (by decide) ?_
                refine lv_iload_n hx hb d_M_badCopies_54 rfl (lv_at hl 2 rfl) ?_
                refine lv_iadd hx hb d_M_badCopies_55 ?_
                obtain ⟨r_5, hc_6, hf⟩ := bd1_s hf
                refine ucVi (As := [.int (((1024 : Int32)) + x2)]) (rest := []) ⟨hx, hb, hml, hown, htb⟩ hK hP hD hS hA (fun hs => c_M_one hc_6) (cwV 1 htb (gV tw_854 tw_856 tw_32 tw_74 tw_857) rfl rfl rfl (by decide +kernel) ⟨Nat.le_of_ble_eq_true rfl, Nat.le_of_ble_eq_true rfl⟩) 0 5 rfl rfl rfl rfl rfl hl.1 (Nat.le_of_ble_eq_true rfl) d_M_badCopies_56 ⟨Nat.zero_le _, Nat.zero_le _⟩ (fun H locs hP hD hS => ?_)
                exact hj_59 x1 x2 r_5 _ _ _ hf hP hD hS (lv_sub hl [0, 1, 2] rfl)
              · have hf := ite_t c_4 hf
                refine lv_iconst (v := 0) hx hb d_M_badCopies_46 (by decide) ?_
                refine lv_goto (tgt := 59) hx hb d_M_badCopies_47 (by decide) ?_
                exact hj_59 x1 x2 ((0 : Int32)) _ _ _ hf hP hD hS (lv_sub hl [0, 1, 2] rfl)
            · have hf := ite_t c_3 hf
              refine lv_iload_n hx hb d_M_badCopies_36 rfl (lv_at hl 1 rfl) ?_
              refine lv_goto (tgt := 59) hx hb d_M_badCopies_37 (by decide) ?_
              exact hj_59 x1 x2 x1 _ _ _ hf hP hD hS (lv_sub hl [0, 1, 2] rfl)
      intro x1 H locs ls hf hP hD hS hl
      rw [f_M_badCopies_2] at hf
      refine lv_iload_n hx hb d_M_badCopies_2 rfl (lv_at hl 1 rfl) ?_
      refine lv_aload_n hx hb d_M_badCopies_3 rfl (lv_at hl 0 rfl) ?_
      refine va_get (D := (dC, dI)) (ci := 5) (v := .int qq) (C := R_M) (T := T_M) (N := 19) hx hb htb in_M hown hK hP 0 rfl rfl 8 (by decide) (htb _ tw_774) (fun _ h9 => h9) rfl d_M_badCopies_4 ?_
      refine lv_icmp_ge (tgt := 93) hx hb d_M_badCopies_7 (by decide) (fun c_1 => ?_) (fun c_1 => ?_)
      · have hf := ite_t c_1 hf
        refine lv_iconst (v := 0) hx hb d_M_badCopies_93 (by decide) ?_
        cases hf
        exact hret _ _ _ _ (Or.inl rfl) hP hD hS d_M_badCopies_94
      · have hf := ite_f c_1 hf
        refine lv_aload_n hx hb d_M_badCopies_10 rfl (lv_at hl 0 rfl) ?_
        refine lv_iload_n hx hb d_M_badCopies_11 rfl (lv_at hl 1 rfl) ?_
        obtain ⟨r_2, hc_3, hf⟩ := bd1_s hf
        refine ucVi (As := [.int x1]) (rest := []) ⟨hx, hb, hml, hown, htb⟩ hK hP hD hS hA (fun hs => c_M_sizeOf hc_3) (cwV 1 htb (gV tw_895 tw_897 tw_39 tw_74 tw_898) rfl rfl rfl (by decide +kernel) ⟨Nat.le_of_ble_eq_true rfl, Nat.le_of_ble_eq_true rfl⟩) 0 5 rfl rfl rfl rfl rfl hl.1 (Nat.le_of_ble_eq_true rfl) d_M_badCopies_12 ⟨Nat.zero_le _, Nat.zero_le _⟩ (fun H locs hP hD hS => ?_)
        refine lv_iconst (v := 2) hx hb d_M_badCopies_15 (by decide) ?_
        refine lv_icmp_ge (tgt := 21) hx hb d_M_badCopies_16 (by decide) (fun c_4 => ?_) (fun c_4 => ?_)
        · have hf := ite_t c_4 hf
          refine lv_iconst (v := 0) hx hb d_M_badCopies_21 (by decide) ?_
          refine lv_istore_n (lv' := [(2, .int ((0 : Int32))), (0, .ref (h 0)), (1, .int x1)]) hx hb d_M_badCopies_22 rfl hl (by decide) rfl (fun ls hl => ?_)
          exact hj_23 N x1 ((0 : Int32)) _ _ _ hf hP hD hS (lv_sub hl [1, 2, 0] rfl)
        · have hf := ite_f c_4 hf
          refine lv_iconst (v := 1) hx hb d_M_badCopies_19 (by decide) ?_
          cases hf
          exact hret _ _ _ _ (Or.inr rfl) hP hD hS d_M_badCopies_20
  unfold f_M_badCopies at hf
  refine lv_iconst (v := 1) hx hb d_M_badCopies_0 (by decide) ?_
  refine lv_istore_n (lv' := [(1, .int ((1 : Int32))), (0, .ref (h 0))]) hx hb d_M_badCopies_1 rfl hl (by decide) rfl (fun ls hl => ?_)
  exact hj_2 N ((1 : Int32)) _ _ _ hf hP hD hS (lv_sub hl [1, 0] rfl)
set_option maxHeartbeats 4000000 in
set_option maxRecDepth 100000 in
theorem c_M_fixes {l : Launch} {dC : Nat → ClassId} {dI : Nat → Nat → Nat} {h : Nat → Nat} {cI : ClassId} {cB : ClassId} {cZ : ClassId} {th : Int32} {nb : Int32} {dk : Nat → Int32} {lk : Int32} {fa : Int32} {pp : Int32} {gg : Int32} {jj : Int32} {qq : Int32} {mp : Nat → Int32} {fx : Nat → Int32} {tn : Nat → Int32} {mn : Int32} {oq : Nat → Int32} {pq : Nat → Int32} {fo : Nat → Int32} {ca : Nat → Int32} {hr : Int32} {fd : Int32} {hs : Nat} {a1 : Int32} {r : Int32} {fx' : Nat → Int32} (hf : f_M_fixes fx a1 = some (r, fx')) : Met l y_M_fixes ws_M_fixes { frames := 0, cells := 0, slots := 0, locals := 0 } (PcU (dC, dI) clAll [(cI, .int), (cB, .byte), (cZ, .boolean)] (wM h cI cB cZ th nb dk lk fa pp gg jj qq mp fx tn mn oq pq fo ca hr fd) hs [.ref (h 0), .int a1]) (QUi (dC, dI) clAll [(cI, .int), (cB, .byte), (cZ, .boolean)] (wM h cI cB cZ th nb dk lk fa pp gg jj qq mp fx tn mn oq pq fo ca hr fd) (wM h cI cB cZ th nb dk lk fa pp gg jj qq mp fx' tn mn oq pq fo ca hr fd) hs r) 0 0 (va_A (wM h cI cB cZ th nb dk lk fa pp gg jj qq mp fx tn mn oq pq fo ca hr fd) hs) := by
  refine mUz (cc := b_M_fixes) (maxL := 3) (by decide) rfl (Nat.le_of_ble_eq_true rfl) ?_
  intro p e s m args below meth c Q hx hb hml hts hown A hA hK hP hD hS hret ls hl
  have htb : ∀ w ∈ TB, w.before args s = true := fun w h => hts w (List.mem_cons_of_mem _ h)
  have hl : lv_has ls 3 [(0, .ref (h 0)), (1, .int a1)] := hl
  unfold f_M_fixes at hf
  refine lv_aload_n hx hb d_M_fixes_0 rfl (lv_at hl 0 rfl) ?_
  refine va_get (D := (dC, dI)) (ci := 5) (v := .ref (h 3)) (C := R_M) (T := T_M) (N := 19) hx hb htb in_M hown hK hP 0 rfl rfl 10 (by decide) (htb _ tw_776) (fun _ h9 => h9) rfl d_M_fixes_1 ?_
  refine lv_iload_n hx hb d_M_fixes_4 rfl (lv_at hl 1 rfl) ?_
  obtain ⟨c_1, hf⟩ := gd_s hf
  refine va_zald (i := a1) hx hb hK hP 3 2 rfl rfl c_1 d_M_fixes_5 ?_
  obtain ⟨v2_2, ev2_2, hf⟩ := lt1_s hf
  refine lv_eqi ev2_2 ?_
  refine lv_istore_n (lv' := [(2, .int v2_2), (0, .ref (h 0)), (1, .int a1)]) hx hb d_M_fixes_6 rfl hl (by decide) rfl (fun ls hl => ?_)
  refine lv_aload_n hx hb d_M_fixes_7 rfl (lv_at hl 1 rfl) ?_
  refine va_get (D := (dC, dI)) (ci := 5) (v := .ref (h 3)) (C := R_M) (T := T_M) (N := 19) hx hb htb in_M hown hK hP 0 rfl rfl 10 (by decide) (htb _ tw_776) (fun _ h9 => h9) rfl d_M_fixes_8 ?_
  refine lv_iload_n hx hb d_M_fixes_11 rfl (lv_at hl 2 rfl) ?_
  refine lv_iconst (v := 1) hx hb d_M_fixes_12 (by decide) ?_
  obtain ⟨c_3, hf⟩ := gd_s hf
  refine va_zast (i := a1) (x := (1 : Int32)) hx hb hK hP hD hS 3 2 rfl rfl c_3 d_M_fixes_13 (fun H locs hP hD hS => ?_)
  obtain ⟨fx_4, efx_4, hf⟩ := lt1_s hf
  have hP : va_P (dC, dI) clAll (wM h cI cB cZ th nb dk lk fa pp gg jj qq mp fx_4 tn mn oq pq fo ca hr fd) H := efx_4 ▸ hP
  have hD : va_D A (wM h cI cB cZ th nb dk lk fa pp gg jj qq mp fx_4 tn mn oq pq fo ca hr fd) := efx_4 ▸ hD
  refine lv_iload_n hx hb d_M_fixes_14 rfl (lv_at hl 0 rfl) ?_
  refine lv_if_ne (tgt := 22) hx hb d_M_fixes_15 (by decide) (fun c_5 => ?_) (fun c_5 => ?_)
  · have hf := ite_f c_5 hf
    refine lv_iconst (v := 0) hx hb d_M_fixes_22 (by decide) ?_
    cases hf
    exact hret _ _ _ _ (Or.inl rfl) hP hD hS d_M_fixes_23
  · have hf := ite_t c_5 hf
    refine lv_iconst (v := 1) hx hb d_M_fixes_18 (by decide) ?_
    refine lv_goto (tgt := 23) hx hb d_M_fixes_19 (by decide) ?_
    cases hf
    exact hret _ _ _ _ (Or.inr rfl) hP hD hS d_M_fixes_23
set_option maxHeartbeats 4000000 in
set_option maxRecDepth 100000 in
theorem c_M_badMaps {l : Launch} {dC : Nat → ClassId} {dI : Nat → Nat → Nat} {N : Nat} {h : Nat → Nat} {cI : ClassId} {cB : ClassId} {cZ : ClassId} {th : Int32} {nb : Int32} {dk : Nat → Int32} {lk : Int32} {fa : Int32} {pp : Int32} {gg : Int32} {jj : Int32} {qq : Int32} {mp : Nat → Int32} {fx : Nat → Int32} {tn : Nat → Int32} {mn : Int32} {oq : Nat → Int32} {pq : Nat → Int32} {fo : Nat → Int32} {ca : Nat → Int32} {hr : Int32} {fd : Int32} {hs : Nat} {r : Int32} {mp' : Nat → Int32} {fx' : Nat → Int32} (hf : f_M_badMaps N nb dk pp jj qq mp fx = some (r, mp', fx')) : Met l y_M_badMaps ws_M_badMaps { frames := 3, cells := 0, slots := 0, locals := 63 } (PcU (dC, dI) clAll [(cI, .int), (cB, .byte), (cZ, .boolean)] (wM h cI cB cZ th nb dk lk fa pp gg jj qq mp fx tn mn oq pq fo ca hr fd) hs [.ref (h 0)]) (QUi (dC, dI) clAll [(cI, .int), (cB, .byte), (cZ, .boolean)] (wM h cI cB cZ th nb dk lk fa pp gg jj qq mp fx tn mn oq pq fo ca hr fd) (wM h cI cB cZ th nb dk lk fa pp gg jj qq mp' fx' tn mn oq pq fo ca hr fd) hs r) 0 0 (va_A (wM h cI cB cZ th nb dk lk fa pp gg jj qq mp fx tn mn oq pq fo ca hr fd) hs) := by
  refine mUz (cc := b_M_badMaps) (maxL := 7) (by decide) rfl (Nat.le_of_ble_eq_true rfl) ?_
  intro p e s m args below meth c Q hx hb hml hts hown A hA hK hP hD hS hret ls hl
  have htb : ∀ w ∈ TB, w.before args s = true := fun w h => hts w (List.mem_cons_of_mem _ h)
  have hl : lv_has ls 7 [(0, .ref (h 0))] := hl
  have hj_2 : ∀ (k_2 : Nat) (mp : Nat → Int32) (fx : Nat → Int32) (x1 : Int32) (H : Heap) (locs : List Loc) (ls : Array Slot), f_M_badMaps_2 N nb dk pp jj qq k_2 mp fx x1 = some (r, mp', fx') → va_P (dC, dI) clAll (wM h cI cB cZ th nb dk lk fa pp gg jj qq mp fx tn mn oq pq fo ca hr fd) H → va_D A (wM h cI cB cZ th nb dk lk fa pp gg jj qq mp fx tn mn oq pq fo ca hr fd) → va_S A s.heap H locs → lv_has ls 7 [(0, .ref (h 0)), (1, .int x1)] → W p l e (headSpec ws_M_badMaps { frames := 3, cells := 0, slots := 0, locals := 63 }).room s m args below meth c H locs 0 0 Q (F0 m 2 ls []) := by
    intro k_2
    induction k_2 with
    | zero => intro _ _ _ _ _ _ hf; exact absurd hf (by simp [f_M_badMaps_2])
    | succ k_2 ih_2 =>
      have hj_140 : ∀ (k_140 : Nat) (mp : Nat → Int32) (fx : Nat → Int32) (x1 : Int32) (x5 : Int32) (x6 : Int32) (H : Heap) (locs : List Loc) (ls : Array Slot), f_M_badMaps_140 N nb dk pp jj qq (f_M_badMaps_2 N nb dk pp jj qq k_2) k_140 mp fx x1 x5 x6 = some (r, mp', fx') → va_P (dC, dI) clAll (wM h cI cB cZ th nb dk lk fa pp gg jj qq mp fx tn mn oq pq fo ca hr fd) H → va_D A (wM h cI cB cZ th nb dk lk fa pp gg jj qq mp fx tn mn oq pq fo ca hr fd) → va_S A s.heap H locs → lv_has ls 7 [(0, .ref (h 0)), (1, .int x1), (5, .int x5), (6, .int x6)] → W p l e (headSpec ws_M_badMaps { frames := 3, cells := 0, slots := 0, locals := 63 }).room s m args below meth c H locs 0 0 Q (F0 m 140 ls []) := by
        intro k_140
        induction k_140 with
        | zero => intro _ _ _ _ _ _ _ _ hf; exact absurd hf (by simp [f_M_badMaps_140])
        | succ k_140 ih_140 =>
          intro mp fx x1 x5 x6 H locs ls hf hP hD hS hl
          rw [f_M_badMaps_140] at hf
          refine lv_iload hx hb d_M_badMaps_140 (lv_at hl 3 rfl) ?_
          refine lv_iconst (v := 2) hx hb d_M_badMaps_142 (by decide) ?_
          refine lv_aload_n hx hb d_M_badMaps_143 rfl (lv_at hl 0 rfl) ?_
          refine va_get (D := (dC, dI)) (ci := 5) (v := .int jj) (C := R_M) (T := T_M) (N := 19) hx hb htb in_M hown hK hP 0 rfl rfl 7 (by decide) (htb _ tw_773) (fun _ h9 => h9) rfl d_M_badMaps_144 ?_
          refine lv_iadd hx hb d_M_badMaps_147 ?_
          refine lv_icmp_ge (tgt := 185) hx hb d_M_badMaps_148 (by decide) (fun c_1 => ?_) (fun c_1 => ?_)
          · have hf := ite_t c_1 hf
            refine lv_iload hx hb d_M_badMaps_185 (lv_at hl 2 rfl) ?_
            refine lv_if_ne (tgt := 192) hx hb d_M_badMaps_187 (by decide) (fun c_2 => ?_) (fun c_2 => ?_)
            · have hf := ite_f c_2 hf
              obtain ⟨v1_3, ev1_3, hf⟩ := lt1_s hf
              refine lv_iinc (v := v1_3) (lv' := [(1, .int v1_3), (0, .ref (h 0)), (5, .int x5), (6, .int x6)]) hx hb d_M_badMaps_192 hl (k := 1) rfl (by rw [← ev1_3]; rfl) (by decide) rfl (fun ls hl => ?_)
              refine lv_goto (tgt := 2) hx hb d_M_badMaps_195 (by decide) ?_
              exact ih_2 mp fx v1_3 _ _ _ hf hP hD hS (lv_sub hl [1, 0] rfl)
            · have hf := ite_t c_2 hf
              refine lv_iconst (v := 1) hx hb d_M_badMaps_190 (by decide) ?_
              cases hf
              exact hret _ _ _ _ (Or.inr rfl) hP hD hS d_M_badMaps_191
          · have hf := ite_f c_1 hf
            refine lv_iload hx hb d_M_badMaps_151 (lv_at hl 2 rfl) ?_
            refine lv_if_eq (tgt := 176) hx hb d_M_badMaps_153 (by decide) (fun c_4 => ?_) (fun c_4 => ?_)
            · have hf := ite_t c_4 hf
              refine lv_iconst (v := 0) hx hb d_M_badMaps_176 (by decide) ?_
              refine lv_istore (lv' := [(5, .int ((0 : Int32))), (0, .ref (h 0)), (1, .int x1), (6, .int x6)]) hx hb d_M_badMaps_177 hl (by decide) rfl (fun ls hl => ?_)
              obtain ⟨v6_5, ev6_5, hf⟩ := lt1_s hf
              refine lv_iinc (v := v6_5) (lv' := [(6, .int v6_5), (5, .int ((0 : Int32))), (0, .ref (h 0)), (1, .int x1)]) hx hb d_M_badMaps_179 hl (k := 3) rfl (by rw [← ev6_5]; rfl) (by decide) rfl (fun ls hl => ?_)
              refine lv_goto (tgt := 140) hx hb d_M_badMaps_182 (by decide) ?_
              exact ih_140 mp fx x1 ((0 : Int32)) v6_5 _ _ _ hf hP hD hS (lv_sub hl [2, 3, 1, 0] rfl)
            · have hf := ite_f c_4 hf
              refine lv_aload_n hx hb d_M_badMaps_156 rfl (lv_at hl 0 rfl) ?_
              refine lv_aload_n hx hb d_M_badMaps_157 rfl (lv_at hl 0 rfl) ?_
              refine va_get (D := (dC, dI)) (ci := 5) (v := .ref (h 2)) (C := R_M) (T := T_M) (N := 19) hx hb htb in_M hown hK hP 0 rfl rfl 9 (by decide) (htb _ tw_775) (fun _ h9 => h9) rfl d_M_badMaps_158 ?_
              refine lv_iload_n hx hb d_M_badMaps_161 rfl (lv_at hl 1 rfl) ?_
              obtain ⟨c_6, hf⟩ := gd_s hf
              refine va_iald (i := x1) hx hb hK hP 2 0 rfl rfl c_6 d_M_badMaps_162 ?_
              refine lv_iload hx hb d_M_badMaps_163 (lv_at hl 3 rfl) ?_
              refine lv_iadd hx hb d_M_badMaps_165 ?_
              obtain ⟨r_7, fx_8, hc_9, hf⟩ := bd2_s hf
              refine ucVi (As := [.int ((mp (Int32.toNatClampNeg x1)) + x6)]) (rest := []) ⟨hx, hb, hml, hown, htb⟩ hK hP hD hS hA (fun hs => c_M_fixes hc_9) (cwV 1 htb (gV tw_907 tw_909 tw_42 tw_74 tw_910) rfl rfl rfl (by decide +kernel) ⟨Nat.le_of_ble_eq_true rfl, Nat.le_of_ble_eq_true rfl⟩) 0 5 rfl rfl rfl rfl rfl hl.1 (Nat.le_of_ble_eq_true rfl) d_M_badMaps_166 ⟨Nat.zero_le _, Nat.zero_le _⟩ (fun H locs hP hD hS => ?_)
              refine lv_if_eq (tgt := 176) hx hb d_M_badMaps_169 (by decide) (fun c_10 => ?_) (fun c_10 => ?_)
              · have hf := ite_t c_10 hf
                refine lv_iconst (v := 0) hx hb d_M_badMaps_176 (by decide) ?_
                refine lv_istore (lv' := [(5, .int ((0 : Int32))), (0, .ref (h 0)), (1, .int x1), (6, .int x6)]) hx hb d_M_badMaps_177 hl (by decide) rfl (fun ls hl => ?_)
                obtain ⟨v6_11, ev6_11, hf⟩ := lt1_s hf
                refine lv_iinc (v := v6_11) (lv' := [(6, .int v6_11), (5, .int ((0 : Int32))), (0, .ref (h 0)), (1, .int x1)]) hx hb d_M_badMaps_179 hl (k := 3) rfl (by rw [← ev6_11]; rfl) (by decide) rfl (fun ls hl => ?_)
                refine lv_goto (tgt := 140) hx hb d_M_badMaps_182 (by decide) ?_
                exact ih_140 mp fx_8 x1 ((0 : Int32)) v6_11 _ _ _ hf hP hD hS (lv_sub hl [2, 3, 1, 0] rfl)
              · have hf := ite_f c_10 hf
                refine lv_iconst (v := 1) hx hb d_M_badMaps_172 (by decide) ?_
                refine lv_goto (tgt := 177) hx hb d_M_badMaps_173 (by decide) ?_
                refine lv_istore (lv' := [(5, .int ((1 : Int32))), (0, .ref (h 0)), (1, .int x1), (6, .int x6)]) hx hb d_M_badMaps_177 hl (by decide) rfl (fun ls hl => ?_)
                obtain ⟨v6_12, ev6_12, hf⟩ := lt1_s hf
                refine lv_iinc (v := v6_12) (lv' := [(6, .int v6_12), (5, .int ((1 : Int32))), (0, .ref (h 0)), (1, .int x1)]) hx hb d_M_badMaps_179 hl (k := 3) rfl (by rw [← ev6_12]; rfl) (by decide) rfl (fun ls hl => ?_)
                refine lv_goto (tgt := 140) hx hb d_M_badMaps_182 (by decide) ?_
                exact ih_140 mp fx_8 x1 ((1 : Int32)) v6_12 _ _ _ hf hP hD hS (lv_sub hl [2, 3, 1, 0] rfl)
      intro mp fx x1 H locs ls hf hP hD hS hl
      rw [f_M_badMaps_2] at hf
      refine lv_iload_n hx hb d_M_badMaps_2 rfl (lv_at hl 1 rfl) ?_
      refine lv_aload_n hx hb d_M_badMaps_3 rfl (lv_at hl 0 rfl) ?_
      refine va_get (D := (dC, dI)) (ci := 5) (v := .int qq) (C := R_M) (T := T_M) (N := 19) hx hb htb in_M hown hK hP 0 rfl rfl 8 (by decide) (htb _ tw_774) (fun _ h9 => h9) rfl d_M_badMaps_4 ?_
      refine lv_icmp_ge (tgt := 198) hx hb d_M_badMaps_7 (by decide) (fun c_1 => ?_) (fun c_1 => ?_)
      · have hf := ite_t c_1 hf
        refine lv_iconst (v := 0) hx hb d_M_badMaps_198 (by decide) ?_
        cases hf
        exact hret _ _ _ _ (Or.inl rfl) hP hD hS d_M_badMaps_199
      · have hf := ite_f c_1 hf
        refine lv_sipush (v := 2048) hx hb d_M_badMaps_10 (by decide) ?_
        refine lv_bipush (v := 32) hx hb d_M_badMaps_13 (by decide) ?_
        refine lv_iload_n hx hb d_M_badMaps_15 rfl (lv_at hl 1 rfl) ?_
        refine lv_imul hx hb d_M_badMaps_16 ?_
        refine lv_iadd hx hb d_M_badMaps_17 ?_
        obtain ⟨v2_2, ev2_2, hf⟩ := lt1_s hf
        refine lv_eqi ev2_2 ?_
        refine lv_istore_n (lv' := [(2, .int v2_2), (0, .ref (h 0)), (1, .int x1)]) hx hb d_M_badMaps_18 rfl hl (by decide) rfl (fun ls hl => ?_)
        refine lv_aload_n hx hb d_M_badMaps_19 rfl (lv_at hl 1 rfl) ?_
        refine lv_iload_n hx hb d_M_badMaps_20 rfl (lv_at hl 0 rfl) ?_
        obtain ⟨r_3, hc_4, hf⟩ := bd1_s hf
        refine ucVl (As := [.int v2_2]) (rest := []) ⟨hx, hb, hml, hown, htb⟩ hK hP hD hS hA (fun hs => c_M_four hc_4) (cwV 1 htb (gV tw_874 tw_876 tw_36 tw_74 tw_877) rfl rfl rfl (by decide +kernel) ⟨Nat.le_of_ble_eq_true rfl, Nat.le_of_ble_eq_true rfl⟩) 0 5 rfl rfl rfl rfl rfl hl.1 (Nat.le_of_ble_eq_true rfl) d_M_badMaps_21 ⟨Nat.zero_le _, Nat.zero_le _⟩ (fun H locs hP hD hS => ?_)
        refine lv_lstore_n (lv' := [(3, .long r_3), (2, .int v2_2), (0, .ref (h 0)), (1, .int x1)]) hx hb d_M_badMaps_24 rfl hl (by decide) rfl (fun ls hl => ?_)
        refine lv_lload_n hx hb d_M_badMaps_25 rfl (lv_at hl 0 rfl) ?_
        refine lv_aload_n hx hb d_M_badMaps_26 rfl (lv_at hl 2 rfl) ?_
        refine lv_iload_n hx hb d_M_badMaps_27 rfl (lv_at hl 3 rfl) ?_
        obtain ⟨r_5, hc_6, hf⟩ := bd1_s hf
        refine ucVi (As := [.int x1]) (rest := [.long r_3]) ⟨hx, hb, hml, hown, htb⟩ hK hP hD hS hA (fun hs => c_M_begin hc_6) (cwV 1 htb (gV tw_899 tw_901 tw_40 tw_74 tw_902) rfl rfl rfl (by decide +kernel) ⟨Nat.le_of_ble_eq_true rfl, Nat.le_of_ble_eq_true rfl⟩) 0 5 rfl rfl rfl rfl rfl hl.1 (Nat.le_of_ble_eq_true rfl) d_M_badMaps_28 ⟨Nat.zero_le _, Nat.zero_le _⟩ (fun H locs hP hD hS => ?_)
        refine lv_i2l hx hb d_M_badMaps_31 rfl ?_
        refine lc_le (tgt := 94) hx hb d_M_badMaps_32 d_M_badMaps_33 (by decide) (fun c_7 => ?_) (fun c_7 => ?_)
        · have hf := ite_t c_7 hf
          refine lv_iconst (v := 1) hx hb d_M_badMaps_94 (by decide) ?_
          cases hf
          exact hret _ _ _ _ (Or.inr rfl) hP hD hS d_M_badMaps_95
        · have hf := ite_f c_7 hf
          refine lv_lload_n hx hb d_M_badMaps_36 rfl (lv_at hl 0 rfl) ?_
          refine lv_ldc2 (v := 2) hx hb hown (htb _ tw_890) d_M_badMaps_37 ?_
          refine lv_ladd hx hb d_M_badMaps_40 ?_
          refine lv_aload_n hx hb d_M_badMaps_41 rfl (lv_at hl 2 rfl) ?_
          refine va_get (D := (dC, dI)) (ci := 5) (v := .int jj) (C := R_M) (T := T_M) (N := 19) hx hb htb in_M hown hK hP 0 rfl rfl 7 (by decide) (htb _ tw_773) (fun _ h9 => h9) rfl d_M_badMaps_42 ?_
          refine lv_i2l hx hb d_M_badMaps_45 rfl ?_
          refine lv_ladd hx hb d_M_badMaps_46 ?_
          refine lv_aload_n hx hb d_M_badMaps_47 rfl (lv_at hl 2 rfl) ?_
          refine lv_iload_n hx hb d_M_badMaps_48 rfl (lv_at hl 3 rfl) ?_
          obtain ⟨r_8, hc_9, hf⟩ := bd1_s hf
          refine ucVi (As := [.int x1]) (rest := [.long ((r_3 + ((2 : Int64))) + (Int32.toInt64 jj))]) ⟨hx, hb, hml, hown, htb⟩ hK hP hD hS hA (fun hs => c_M_begin hc_9) (cwV 1 htb (gV tw_899 tw_901 tw_40 tw_74 tw_902) rfl rfl rfl (by decide +kernel) ⟨Nat.le_of_ble_eq_true rfl, Nat.le_of_ble_eq_true rfl⟩) 0 5 rfl rfl rfl rfl rfl hl.1 (Nat.le_of_ble_eq_true rfl) d_M_badMaps_49 ⟨Nat.zero_le _, Nat.zero_le _⟩ (fun H locs hP hD hS => ?_)
          refine lv_aload_n hx hb d_M_badMaps_52 rfl (lv_at hl 2 rfl) ?_
          refine lv_iload_n hx hb d_M_badMaps_53 rfl (lv_at hl 3 rfl) ?_
          obtain ⟨r_10, hc_11, hf⟩ := bd1_s hf
          refine ucVi (As := [.int x1]) (rest := [.int r_8, .long ((r_3 + ((2 : Int64))) + (Int32.toInt64 jj))]) ⟨hx, hb, hml, hown, htb⟩ hK hP hD hS hA (fun hs => c_M_sizeOf hc_11) (cwV 1 htb (gV tw_895 tw_897 tw_39 tw_74 tw_898) rfl rfl rfl (by decide +kernel) ⟨Nat.le_of_ble_eq_true rfl, Nat.le_of_ble_eq_true rfl⟩) 0 5 rfl rfl rfl rfl rfl hl.1 (Nat.le_of_ble_eq_true rfl) d_M_badMaps_54 ⟨Nat.zero_le _, Nat.zero_le _⟩ (fun H locs hP hD hS => ?_)
          refine lv_iadd hx hb d_M_badMaps_57 ?_
          refine lv_i2l hx hb d_M_badMaps_58 rfl ?_
          refine lc_gt (tgt := 94) hx hb d_M_badMaps_59 d_M_badMaps_60 (by decide) (fun c_12 => ?_) (fun c_12 => ?_)
          · have hf := ite_t c_12 hf
            refine lv_iconst (v := 1) hx hb d_M_badMaps_94 (by decide) ?_
            cases hf
            exact hret _ _ _ _ (Or.inr rfl) hP hD hS d_M_badMaps_95
          · have hf := ite_f c_12 hf
            refine lv_aload_n hx hb d_M_badMaps_63 rfl (lv_at hl 2 rfl) ?_
            refine lv_iload_n hx hb d_M_badMaps_64 rfl (lv_at hl 1 rfl) ?_
            refine lv_iconst (v := 4) hx hb d_M_badMaps_65 (by decide) ?_
            refine lv_iadd hx hb d_M_badMaps_66 ?_
            obtain ⟨r_13, hc_14, hf⟩ := bd1_s hf
            refine ucVl (As := [.int (v2_2 + ((4 : Int32)))]) (rest := []) ⟨hx, hb, hml, hown, htb⟩ hK hP hD hS hA (fun hs => c_M_four hc_14) (cwV 1 htb (gV tw_874 tw_876 tw_36 tw_74 tw_877) rfl rfl rfl (by decide +kernel) ⟨Nat.le_of_ble_eq_true rfl, Nat.le_of_ble_eq_true rfl⟩) 0 5 rfl rfl rfl rfl rfl hl.1 (Nat.le_of_ble_eq_true rfl) d_M_badMaps_67 ⟨Nat.zero_le _, Nat.zero_le _⟩ (fun H locs hP hD hS => ?_)
            refine lv_lload_n hx hb d_M_badMaps_70 rfl (lv_at hl 0 rfl) ?_
            refine lv_lconst (v := 1) hx hb d_M_badMaps_71 (by decide) ?_
            refine lv_ladd hx hb d_M_badMaps_72 ?_
            refine lc_ne (tgt := 94) hx hb d_M_badMaps_73 d_M_badMaps_74 (by decide) (fun c_15 => ?_) (fun c_15 => ?_)
            · have hf := ite_f c_15 hf
              refine lv_iconst (v := 1) hx hb d_M_badMaps_94 (by decide) ?_
              cases hf
              exact hret _ _ _ _ (Or.inr rfl) hP hD hS d_M_badMaps_95
            · have hf := ite_t c_15 hf
              refine lv_aload_n hx hb d_M_badMaps_77 rfl (lv_at hl 2 rfl) ?_
              refine lv_iload_n hx hb d_M_badMaps_78 rfl (lv_at hl 1 rfl) ?_
              refine lv_bipush (v := 8) hx hb d_M_badMaps_79 (by decide) ?_
              refine lv_iadd hx hb d_M_badMaps_81 ?_
              obtain ⟨r_16, hc_17, hf⟩ := bd1_s hf
              refine ucVl (As := [.int (v2_2 + ((8 : Int32)))]) (rest := []) ⟨hx, hb, hml, hown, htb⟩ hK hP hD hS hA (fun hs => c_M_four hc_17) (cwV 1 htb (gV tw_874 tw_876 tw_36 tw_74 tw_877) rfl rfl rfl (by decide +kernel) ⟨Nat.le_of_ble_eq_true rfl, Nat.le_of_ble_eq_true rfl⟩) 0 5 rfl rfl rfl rfl rfl hl.1 (Nat.le_of_ble_eq_true rfl) d_M_badMaps_82 ⟨Nat.zero_le _, Nat.zero_le _⟩ (fun H locs hP hD hS => ?_)
              refine lv_lload_n hx hb d_M_badMaps_85 rfl (lv_at hl 0 rfl) ?_
              refine lv_ldc2 (v := 2) hx hb hown (htb _ tw_890) d_M_badMaps_86 ?_
              refine lv_ladd hx hb d_M_badMaps_89 ?_
              refine lc_eq (tgt := 96) hx hb d_M_badMaps_90 d_M_badMaps_91 (by decide) (fun c_18 => ?_) (fun c_18 => ?_)
              · have hf := ite_t c_18 hf
                refine lv_aload_n hx hb d_M_badMaps_96 rfl (lv_at hl 2 rfl) ?_
                refine va_get (D := (dC, dI)) (ci := 5) (v := .ref (h 2)) (C := R_M) (T := T_M) (N := 19) hx hb htb in_M hown hK hP 0 rfl rfl 9 (by decide) (htb _ tw_775) (fun _ h9 => h9) rfl d_M_badMaps_97 ?_
                refine lv_iload_n hx hb d_M_badMaps_100 rfl (lv_at hl 3 rfl) ?_
                refine lv_lload_n hx hb d_M_badMaps_101 rfl (lv_at hl 0 rfl) ?_
                refine lv_l2i hx hb d_M_badMaps_102 rfl ?_
                obtain ⟨c_19, hf⟩ := gd_s hf
                refine va_iast (i := x1) (x := Int64.toInt32 r_3) hx hb hK hP hD hS 2 0 rfl rfl c_19 d_M_badMaps_103 (fun H locs hP hD hS => ?_)
                obtain ⟨mp_20, emp_20, hf⟩ := lt1_s hf
                have hP : va_P (dC, dI) clAll (wM h cI cB cZ th nb dk lk fa pp gg jj qq mp_20 fx tn mn oq pq fo ca hr fd) H := emp_20 ▸ hP
                have hD : va_D A (wM h cI cB cZ th nb dk lk fa pp gg jj qq mp_20 fx tn mn oq pq fo ca hr fd) := emp_20 ▸ hD
                refine lv_aload_n hx hb d_M_badMaps_104 rfl (lv_at hl 2 rfl) ?_
                refine lv_aload_n hx hb d_M_badMaps_105 rfl (lv_at hl 2 rfl) ?_
                refine lv_iload_n hx hb d_M_badMaps_106 rfl (lv_at hl 3 rfl) ?_
                obtain ⟨r_21, hc_22, hf⟩ := bd1_s hf
                refine ucVi (As := [.int x1]) (rest := [.ref (h 0)]) ⟨hx, hb, hml, hown, htb⟩ hK hP hD hS hA (fun hs => c_M_begin hc_22) (cwV 1 htb (gV tw_899 tw_901 tw_40 tw_74 tw_902) rfl rfl rfl (by decide +kernel) ⟨Nat.le_of_ble_eq_true rfl, Nat.le_of_ble_eq_true rfl⟩) 0 5 rfl rfl rfl rfl rfl hl.1 (Nat.le_of_ble_eq_true rfl) d_M_badMaps_107 ⟨Nat.zero_le _, Nat.zero_le _⟩ (fun H locs hP hD hS => ?_)
                obtain ⟨r_23, fx_24, hc_25, hf⟩ := bd2_s hf
                refine ucVi (As := [.int r_21]) (rest := []) ⟨hx, hb, hml, hown, htb⟩ hK hP hD hS hA (fun hs => c_M_fixes hc_25) (cwV 1 htb (gV tw_907 tw_909 tw_42 tw_74 tw_910) rfl rfl rfl (by decide +kernel) ⟨Nat.le_of_ble_eq_true rfl, Nat.le_of_ble_eq_true rfl⟩) 0 5 rfl rfl rfl rfl rfl hl.1 (Nat.le_of_ble_eq_true rfl) d_M_badMaps_110 ⟨Nat.zero_le _, Nat.zero_le _⟩ (fun H locs hP hD hS => ?_)
                refine lv_if_eq (tgt := 134) hx hb d_M_badMaps_113 (by decide) (fun c_26 => ?_) (fun c_26 => ?_)
                · have hf := ite_t c_26 hf
                  refine lv_iconst (v := 0) hx hb d_M_badMaps_134 (by decide) ?_
                  refine lv_istore (lv' := [(5, .int ((0 : Int32))), (3, .long r_3), (2, .int v2_2), (0, .ref (h 0)), (1, .int x1)]) hx hb d_M_badMaps_135 hl (by decide) rfl (fun ls hl => ?_)
                  refine lv_iconst (v := 0) hx hb d_M_badMaps_137 (by decide) ?_
                  refine lv_istore (lv' := [(6, .int ((0 : Int32))), (5, .int ((0 : Int32))), (3, .long r_3), (2, .int v2_2), (0, .ref (h 0)), (1, .int x1)]) hx hb d_M_badMaps_138 hl (by decide) rfl (fun ls hl => ?_)
                  exact hj_140 N mp_20 fx_24 x1 ((0 : Int32)) ((0 : Int32)) _ _ _ hf hP hD hS (lv_sub hl [4, 5, 1, 0] rfl)
                · have hf := ite_f c_26 hf
                  refine lv_aload_n hx hb d_M_badMaps_116 rfl (lv_at hl 2 rfl) ?_
                  refine lv_aload_n hx hb d_M_badMaps_117 rfl (lv_at hl 2 rfl) ?_
                  refine lv_iload_n hx hb d_M_badMaps_118 rfl (lv_at hl 3 rfl) ?_
                  obtain ⟨r_27, hc_28, hf⟩ := bd1_s hf
                  refine ucVi (As := [.int x1]) (rest := [.ref (h 0)]) ⟨hx, hb, hml, hown, htb⟩ hK hP hD hS hA (fun hs => c_M_begin hc_28) (cwV 1 htb (gV tw_899 tw_901 tw_40 tw_74 tw_902) rfl rfl rfl (by decide +kernel) ⟨Nat.le_of_ble_eq_true rfl, Nat.le_of_ble_eq_true rfl⟩) 0 5 rfl rfl rfl rfl rfl hl.1 (Nat.le_of_ble_eq_true rfl) d_M_badMaps_119 ⟨Nat.zero_le _, Nat.zero_le _⟩ (fun H locs hP hD hS => ?_)
                  refine lv_iconst (v := 1) hx hb d_M_badMaps_122 (by decide) ?_
                  refine lv_iadd hx hb d_M_badMaps_123 ?_
                  obtain ⟨r_29, fx_30, hc_31, hf⟩ := bd2_s hf
                  refine ucVi (As := [.int (r_27 + ((1 : Int32)))]) (rest := []) ⟨hx, hb, hml, hown, htb⟩ hK hP hD hS hA (fun hs => c_M_fixes hc_31) (cwV 1 htb (gV tw_907 tw_909 tw_42 tw_74 tw_910) rfl rfl rfl (by decide +kernel) ⟨Nat.le_of_ble_eq_true rfl, Nat.le_of_ble_eq_true rfl⟩) 0 5 rfl rfl rfl rfl rfl hl.1 (Nat.le_of_ble_eq_true rfl) d_M_badMaps_124 ⟨Nat.zero_le _, Nat.zero_le _⟩ (fun H locs hP hD hS => ?_)
                  refine lv_if_eq (tgt := 134) hx hb d_M_badMaps_127 (by decide) (fun c_32 => ?_) (fun c_32 => ?_)
                  · have hf := ite_t c_32 hf
                    refine lv_iconst (v := 0) hx hb d_M_badMaps_134 (by decide) ?_
                    refine lv_istore (lv' := [(5, .int ((0 : Int32))), (3, .long r_3), (2, .int v2_2), (0, .ref (h 0)), (1, .int x1)]) hx hb d_M_badMaps_135 hl (by decide) rfl (fun ls hl => ?_)
                    refine lv_iconst (v := 0) hx hb d_M_badMaps_137 (by decide) ?_
                    refine lv_istore (lv' := [(6, .int ((0 : Int32))), (5, .int ((0 : Int32))), (3, .long r_3), (2, .int v2_2), (0, .ref (h 0)), (1, .int x1)]) hx hb d_M_badMaps_138 hl (by decide) rfl (fun ls hl => ?_)
                    exact hj_140 N mp_20 fx_30 x1 ((0 : Int32)) ((0 : Int32)) _ _ _ hf hP hD hS (lv_sub hl [4, 5, 1, 0] rfl)
                  · have hf := ite_f c_32 hf
                    refine lv_iconst (v := 1) hx hb d_M_badMaps_130 (by decide) ?_
                    refine lv_goto (tgt := 135) hx hb d_M_badMaps_131 (by decide) ?_
                    refine lv_istore (lv' := [(5, .int ((1 : Int32))), (3, .long r_3), (2, .int v2_2), (0, .ref (h 0)), (1, .int x1)]) hx hb d_M_badMaps_135 hl (by decide) rfl (fun ls hl => ?_)
                    refine lv_iconst (v := 0) hx hb d_M_badMaps_137 (by decide) ?_
                    refine lv_istore (lv' := [(6, .int ((0 : Int32))), (5, .int ((1 : Int32))), (3, .long r_3), (2, .int v2_2), (0, .ref (h 0)), (1, .int x1)]) hx hb d_M_badMaps_138 hl (by decide) rfl (fun ls hl => ?_)
                    exact hj_140 N mp_20 fx_30 x1 ((1 : Int32)) ((0 : Int32)) _ _ _ hf hP hD hS (lv_sub hl [4, 5, 1, 0] rfl)
              · have hf := ite_f c_18 hf
                refine lv_iconst (v := 1) hx hb d_M_badMaps_94 (by decide) ?_
                cases hf
                exact hret _ _ _ _ (Or.inr rfl) hP hD hS d_M_badMaps_95
  unfold f_M_badMaps at hf
  refine lv_iconst (v := 0) hx hb d_M_badMaps_0 (by decide) ?_
  refine lv_istore_n (lv' := [(1, .int ((0 : Int32))), (0, .ref (h 0))]) hx hb d_M_badMaps_1 rfl hl (by decide) rfl (fun ls hl => ?_)
  exact hj_2 N mp fx ((0 : Int32)) _ _ _ hf hP hD hS (lv_sub hl [1, 0] rfl)
