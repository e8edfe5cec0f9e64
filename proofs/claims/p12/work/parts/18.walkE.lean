set_option maxHeartbeats 4000000 in
set_option maxRecDepth 100000 in
theorem c_E_start {l : Launch} {dC : Nat → ClassId} {dI : Nat → Nat → Nat} {h : Nat → Nat} {cI : ClassId} {cL : ClassId} {NW : Nat} {bk : Int32} {sz : Int32} {wd : Nat → Int64} {mb : Nat → Int32} {gB : Int32} {gI : Int32} {gN : Int32} {iN : Int32} {dr : Int32} {es : Int64} {of : Int64} {od : Int32} {pl : Int64} {hd : Int64} {tk : Nat → Int32} {kn : Nat → Int32} {li : Nat → Int32} {pa : Nat → Int32} {ins : Nat → Int32} {cm : Int32} {fd : Int32} {hr : Int32} {hs : Nat} {a1 : Int32} {dr' : Int32} {es' : Int64} {of' : Int64} {od' : Int32} {pl' : Int64} {hd' : Int64} (hf : f_E_start NW sz wd mb gI dr es of od pl hd a1 = some (dr', es', of', od', pl', hd')) : Met l y_E_start ws_E_start { frames := 2, cells := 0, slots := 0, locals := 56 } (PcU (dC, dI) clAll [(cI, .int), (cL, .long)] (wC h cI cL NW bk sz wd mb gB gI gN iN dr es of od pl hd tk kn li pa ins cm fd hr) hs [.ref (h 5), .int a1]) (QUv (dC, dI) clAll [(cI, .int), (cL, .long)] (wC h cI cL NW bk sz wd mb gB gI gN iN dr es of od pl hd tk kn li pa ins cm fd hr) (wC h cI cL NW bk sz wd mb gB gI gN iN dr' es' of' od' pl' hd' tk kn li pa ins cm fd hr) hs) 0 0 (va_A (wC h cI cL NW bk sz wd mb gB gI gN iN dr es of od pl hd tk kn li pa ins cm fd hr) hs) := by
  refine mUv (cc := b_E_start) (maxL := 2) (by decide) rfl (Nat.le_of_ble_eq_true rfl) ?_
  intro p e s m args below meth c Q hx hb hml hts hown A hA hK hP hD hS hret ls hl
  have htb : ∀ w ∈ TB, w.before args s = true := fun w h => hts w (List.mem_cons_of_mem _ h)
  have hl : lv_has ls 2 [(0, .ref (h 5)), (1, .int a1)] := hl
  unfold f_E_start at hf
  refine lv_aload_n hx hb d_E_start_0 rfl (lv_at hl 0 rfl) ?_
  refine lv_iload_n hx hb d_E_start_1 rfl (lv_at hl 1 rfl) ?_
  refine va_put (D := (dC, dI)) (ci := 1) (v := .int a1) (ty := .int) (C := R_E) (T := T_E) (N := 8) hx hb htb in_E ty_E tyok_E nm_E hown hK hP hD hS 5 rfl rfl 2 (by decide) (htb _ tw_147) (fun _ h9 => h9) rfl (by decide +kernel) rfl rfl (Nat.le_of_ble_eq_true rfl) d_E_start_2 (fun H locs hP hD hS => ?_)
  have hP : va_P (dC, dI) clAll (wC h cI cL NW bk sz wd mb gB gI gN iN a1 es of od pl hd tk kn li pa ins cm fd hr) H := hP
  have hD : va_D A (wC h cI cL NW bk sz wd mb gB gI gN iN a1 es of od pl hd tk kn li pa ins cm fd hr) := hD
  refine lv_aload_n hx hb d_E_start_5 rfl (lv_at hl 0 rfl) ?_
  refine lv_aload_n hx hb d_E_start_6 rfl (lv_at hl 0 rfl) ?_
  refine va_get (D := (dC, dI)) (ci := 1) (v := .ref (h 3)) (C := R_E) (T := T_E) (N := 8) hx hb htb in_E hown hK hP 5 rfl rfl 1 (by decide) (htb _ tw_146) (fun _ h9 => h9) rfl d_E_start_7 ?_
  refine lv_iload_n hx hb d_E_start_10 rfl (lv_at hl 1 rfl) ?_
  obtain ⟨r_1, hc_2, hf⟩ := bd1_s hf
  refine ucVl (As := [.int a1]) (rest := [.ref (h 5)]) ⟨hx, hb, hml, hown, htb⟩ hK hP hD hS hA (fun hs => c_L_sizeOf hc_2) (cwV 1 htb (gV tw_437 tw_393 tw_394 tw_71 tw_395) rfl rfl rfl (by decide +kernel) ⟨Nat.le_of_ble_eq_true rfl, Nat.le_of_ble_eq_true rfl⟩) 3 2 rfl rfl rfl rfl rfl hl.1 (Nat.le_of_ble_eq_true rfl) d_E_start_11 ⟨Nat.zero_le _, Nat.zero_le _⟩ (fun H locs hP hD hS => ?_)
  refine va_put (D := (dC, dI)) (ci := 1) (v := .long r_1) (ty := .long) (C := R_E) (T := T_E) (N := 8) hx hb htb in_E ty_E tyok_E nm_E hown hK hP hD hS 5 rfl rfl 3 (by decide) (htb _ tw_148) (fun _ h9 => h9) rfl (by decide +kernel) rfl rfl (Nat.le_of_ble_eq_true rfl) d_E_start_14 (fun H locs hP hD hS => ?_)
  have hP : va_P (dC, dI) clAll (wC h cI cL NW bk sz wd mb gB gI gN iN a1 r_1 of od pl hd tk kn li pa ins cm fd hr) H := hP
  have hD : va_D A (wC h cI cL NW bk sz wd mb gB gI gN iN a1 r_1 of od pl hd tk kn li pa ins cm fd hr) := hD
  refine lv_aload_n hx hb d_E_start_17 rfl (lv_at hl 0 rfl) ?_
  refine lv_lconst (v := 0) hx hb d_E_start_18 (by decide) ?_
  refine va_put (D := (dC, dI)) (ci := 1) (v := .long ((0 : Int64))) (ty := .long) (C := R_E) (T := T_E) (N := 8) hx hb htb in_E ty_E tyok_E nm_E hown hK hP hD hS 5 rfl rfl 4 (by decide) (htb _ tw_149) (fun _ h9 => h9) rfl (by decide +kernel) rfl rfl (Nat.le_of_ble_eq_true rfl) d_E_start_19 (fun H locs hP hD hS => ?_)
  have hP : va_P (dC, dI) clAll (wC h cI cL NW bk sz wd mb gB gI gN iN a1 r_1 ((0 : Int64)) od pl hd tk kn li pa ins cm fd hr) H := hP
  have hD : va_D A (wC h cI cL NW bk sz wd mb gB gI gN iN a1 r_1 ((0 : Int64)) od pl hd tk kn li pa ins cm fd hr) := hD
  refine lv_aload_n hx hb d_E_start_22 rfl (lv_at hl 0 rfl) ?_
  refine lv_iconst (v := 0) hx hb d_E_start_23 (by decide) ?_
  refine va_put (D := (dC, dI)) (ci := 1) (v := .int ((0 : Int32))) (ty := .int) (C := R_E) (T := T_E) (N := 8) hx hb htb in_E ty_E tyok_E nm_E hown hK hP hD hS 5 rfl rfl 5 (by decide) (htb _ tw_150) (fun _ h9 => h9) rfl (by decide +kernel) rfl rfl (Nat.le_of_ble_eq_true rfl) d_E_start_24 (fun H locs hP hD hS => ?_)
  have hP : va_P (dC, dI) clAll (wC h cI cL NW bk sz wd mb gB gI gN iN a1 r_1 ((0 : Int64)) ((0 : Int32)) pl hd tk kn li pa ins cm fd hr) H := hP
  have hD : va_D A (wC h cI cL NW bk sz wd mb gB gI gN iN a1 r_1 ((0 : Int64)) ((0 : Int32)) pl hd tk kn li pa ins cm fd hr) := hD
  refine lv_aload_n hx hb d_E_start_27 rfl (lv_at hl 0 rfl) ?_
  refine lv_ldc2 (v := 1024) hx hb hown (htb _ tw_438) d_E_start_28 ?_
  refine lv_aload_n hx hb d_E_start_31 rfl (lv_at hl 0 rfl) ?_
  refine va_get (D := (dC, dI)) (ci := 1) (v := .ref (h 3)) (C := R_E) (T := T_E) (N := 8) hx hb htb in_E hown hK hP 5 rfl rfl 1 (by decide) (htb _ tw_146) (fun _ h9 => h9) rfl d_E_start_32 ?_
  refine lv_iload_n hx hb d_E_start_35 rfl (lv_at hl 1 rfl) ?_
  refine lv_iconst (v := 0) hx hb d_E_start_36 (by decide) ?_
  obtain ⟨r_3, hc_4, hf⟩ := bd1_s hf
  refine ucVl (As := [.int a1, .int ((0 : Int32))]) (rest := [.long ((1024 : Int64)), .ref (h 5)]) ⟨hx, hb, hml, hown, htb⟩ hK hP hD hS hA (fun hs => c_L_blockOf hc_4) (cwV 2 htb (gV tw_439 tw_419 tw_420 tw_71 tw_421) rfl rfl rfl (by decide +kernel) ⟨Nat.le_of_ble_eq_true rfl, Nat.le_of_ble_eq_true rfl⟩) 3 2 rfl rfl rfl rfl rfl hl.1 (Nat.le_of_ble_eq_true rfl) d_E_start_37 ⟨Nat.zero_le _, Nat.zero_le _⟩ (fun H locs hP hD hS => ?_)
  refine lv_lmul hx hb d_E_start_40 ?_
  refine va_put (D := (dC, dI)) (ci := 1) (v := .long (((1024 : Int64)) * r_3)) (ty := .long) (C := R_E) (T := T_E) (N := 8) hx hb htb in_E ty_E tyok_E nm_E hown hK hP hD hS 5 rfl rfl 6 (by decide) (htb _ tw_151) (fun _ h9 => h9) rfl (by decide +kernel) rfl rfl (Nat.le_of_ble_eq_true rfl) d_E_start_41 (fun H locs hP hD hS => ?_)
  have hP : va_P (dC, dI) clAll (wC h cI cL NW bk sz wd mb gB gI gN iN a1 r_1 ((0 : Int64)) ((0 : Int32)) (((1024 : Int64)) * r_3) hd tk kn li pa ins cm fd hr) H := hP
  have hD : va_D A (wC h cI cL NW bk sz wd mb gB gI gN iN a1 r_1 ((0 : Int64)) ((0 : Int32)) (((1024 : Int64)) * r_3) hd tk kn li pa ins cm fd hr) := hD
  refine lv_aload_n hx hb d_E_start_44 rfl (lv_at hl 0 rfl) ?_
  refine lv_aload_n hx hb d_E_start_45 rfl (lv_at hl 0 rfl) ?_
  refine va_get (D := (dC, dI)) (ci := 1) (v := .ref (h 1)) (C := R_E) (T := T_E) (N := 8) hx hb htb in_E hown hK hP 5 rfl rfl 0 (by decide) (htb _ tw_145) (fun _ h9 => h9) rfl d_E_start_46 ?_
  refine lv_aload_n hx hb d_E_start_49 rfl (lv_at hl 0 rfl) ?_
  refine va_get (D := (dC, dI)) (ci := 1) (v := .long (((1024 : Int64)) * r_3)) (C := R_E) (T := T_E) (N := 8) hx hb htb in_E hown hK hP 5 rfl rfl 6 (by decide) (htb _ tw_151) (fun _ h9 => h9) rfl d_E_start_50 ?_
  refine lv_bipush (v := 8) hx hb d_E_start_53 (by decide) ?_
  obtain ⟨r_5, hc_6, hf⟩ := bd1_s hf
  refine ucVl (As := [.long (((1024 : Int64)) * r_3), .int ((8 : Int32))]) (rest := [.ref (h 5)]) ⟨hx, hb, hml, hown, htb⟩ hK hP hD hS hA (fun hs => c_D_number hc_6) (cwV 2 htb (gV tw_440 tw_264 tw_265 tw_69 tw_266) rfl rfl rfl (by decide +kernel) ⟨Nat.le_of_ble_eq_true rfl, Nat.le_of_ble_eq_true rfl⟩) 1 0 rfl rfl rfl rfl rfl hl.1 (Nat.le_of_ble_eq_true rfl) d_E_start_55 ⟨Nat.zero_le _, Nat.zero_le _⟩ (fun H locs hP hD hS => ?_)
  refine va_put (D := (dC, dI)) (ci := 1) (v := .long r_5) (ty := .long) (C := R_E) (T := T_E) (N := 8) hx hb htb in_E ty_E tyok_E nm_E hown hK hP hD hS 5 rfl rfl 7 (by decide) (htb _ tw_152) (fun _ h9 => h9) rfl (by decide +kernel) rfl rfl (Nat.le_of_ble_eq_true rfl) d_E_start_58 (fun H locs hP hD hS => ?_)
  have hP : va_P (dC, dI) clAll (wC h cI cL NW bk sz wd mb gB gI gN iN a1 r_1 ((0 : Int64)) ((0 : Int32)) (((1024 : Int64)) * r_3) r_5 tk kn li pa ins cm fd hr) H := hP
  have hD : va_D A (wC h cI cL NW bk sz wd mb gB gI gN iN a1 r_1 ((0 : Int64)) ((0 : Int32)) (((1024 : Int64)) * r_3) r_5 tk kn li pa ins cm fd hr) := hD
  cases hf
  exact hret _ _ _ _ hP hD hS d_E_start_61
set_option maxHeartbeats 4000000 in
set_option maxRecDepth 100000 in
theorem c_E_isOn {l : Launch} {dC : Nat → ClassId} {dI : Nat → Nat → Nat} {h : Nat → Nat} {cI : ClassId} {cL : ClassId} {NW : Nat} {bk : Int32} {sz : Int32} {wd : Nat → Int64} {mb : Nat → Int32} {gB : Int32} {gI : Int32} {gN : Int32} {iN : Int32} {dr : Int32} {es : Int64} {of : Int64} {od : Int32} {pl : Int64} {hd : Int64} {tk : Nat → Int32} {kn : Nat → Int32} {li : Nat → Int32} {pa : Nat → Int32} {ins : Nat → Int32} {cm : Int32} {fd : Int32} {hr : Int32} {hs : Nat} {r : Int32} (hf : f_E_isOn NW es of = some (r)) : Met l y_E_isOn ws_E_isOn { frames := 0, cells := 0, slots := 0, locals := 0 } (PcU (dC, dI) clAll [(cI, .int), (cL, .long)] (wC h cI cL NW bk sz wd mb gB gI gN iN dr es of od pl hd tk kn li pa ins cm fd hr) hs [.ref (h 5)]) (QUi (dC, dI) clAll [(cI, .int), (cL, .long)] (wC h cI cL NW bk sz wd mb gB gI gN iN dr es of od pl hd tk kn li pa ins cm fd hr) (wC h cI cL NW bk sz wd mb gB gI gN iN dr es of od pl hd tk kn li pa ins cm fd hr) hs r) 0 0 (va_A (wC h cI cL NW bk sz wd mb gB gI gN iN dr es of od pl hd tk kn li pa ins cm fd hr) hs) := by
  refine mUz (cc := b_E_isOn) (maxL := 1) (by decide) rfl (Nat.le_of_ble_eq_true rfl) ?_
  intro p e s m args below meth c Q hx hb hml hts hown A hA hK hP hD hS hret ls hl
  have htb : ∀ w ∈ TB, w.before args s = true := fun w h => hts w (List.mem_cons_of_mem _ h)
  have hl : lv_has ls 1 [(0, .ref (h 5))] := hl
  unfold f_E_isOn at hf
  refine lv_aload_n hx hb d_E_isOn_0 rfl (lv_at hl 0 rfl) ?_
  refine va_get (D := (dC, dI)) (ci := 1) (v := .long of) (C := R_E) (T := T_E) (N := 8) hx hb htb in_E hown hK hP 5 rfl rfl 4 (by decide) (htb _ tw_149) (fun _ h9 => h9) rfl d_E_isOn_1 ?_
  refine lv_aload_n hx hb d_E_isOn_4 rfl (lv_at hl 0 rfl) ?_
  refine va_get (D := (dC, dI)) (ci := 1) (v := .long es) (C := R_E) (T := T_E) (N := 8) hx hb htb in_E hown hK hP 5 rfl rfl 3 (by decide) (htb _ tw_148) (fun _ h9 => h9) rfl d_E_isOn_5 ?_
  refine lc_ge (tgt := 16) hx hb d_E_isOn_8 d_E_isOn_9 (by decide) (fun c_1 => ?_) (fun c_1 => ?_)
  · have hf := ite_t c_1 hf
    refine lv_iconst (v := 0) hx hb d_E_isOn_16 (by decide) ?_
    cases hf
    exact hret _ _ _ _ (Or.inl rfl) hP hD hS d_E_isOn_17
  · have hf := ite_f c_1 hf
    refine lv_iconst (v := 1) hx hb d_E_isOn_12 (by decide) ?_
    refine lv_goto (tgt := 17) hx hb d_E_isOn_13 (by decide) ?_
    cases hf
    exact hret _ _ _ _ (Or.inr rfl) hP hD hS d_E_isOn_17
set_option maxHeartbeats 4000000 in
set_option maxRecDepth 100000 in
theorem c_E_length {l : Launch} {dC : Nat → ClassId} {dI : Nat → Nat → Nat} {h : Nat → Nat} {cI : ClassId} {cL : ClassId} {NW : Nat} {bk : Int32} {sz : Int32} {wd : Nat → Int64} {mb : Nat → Int32} {gB : Int32} {gI : Int32} {gN : Int32} {iN : Int32} {dr : Int32} {es : Int64} {of : Int64} {od : Int32} {pl : Int64} {hd : Int64} {tk : Nat → Int32} {kn : Nat → Int32} {li : Nat → Int32} {pa : Nat → Int32} {ins : Nat → Int32} {cm : Int32} {fd : Int32} {hr : Int32} {hs : Nat} {r : Int32} (hf : f_E_length NW hd = some (r)) : Met l y_E_length ws_E_length { frames := 0, cells := 0, slots := 0, locals := 0 } (PcU (dC, dI) clAll [(cI, .int), (cL, .long)] (wC h cI cL NW bk sz wd mb gB gI gN iN dr es of od pl hd tk kn li pa ins cm fd hr) hs [.ref (h 5)]) (QUi (dC, dI) clAll [(cI, .int), (cL, .long)] (wC h cI cL NW bk sz wd mb gB gI gN iN dr es of od pl hd tk kn li pa ins cm fd hr) (wC h cI cL NW bk sz wd mb gB gI gN iN dr es of od pl hd tk kn li pa ins cm fd hr) hs r) 0 0 (va_A (wC h cI cL NW bk sz wd mb gB gI gN iN dr es of od pl hd tk kn li pa ins cm fd hr) hs) := by
  refine mUi (cc := b_E_length) (maxL := 1) (by decide) rfl (Nat.le_of_ble_eq_true rfl) ?_
  intro p e s m args below meth c Q hx hb hml hts hown A hA hK hP hD hS hret ls hl
  have htb : ∀ w ∈ TB, w.before args s = true := fun w h => hts w (List.mem_cons_of_mem _ h)
  have hl : lv_has ls 1 [(0, .ref (h 5))] := hl
  unfold f_E_length at hf
  refine lv_aload_n hx hb d_E_length_0 rfl (lv_at hl 0 rfl) ?_
  refine va_get (D := (dC, dI)) (ci := 1) (v := .long hd) (C := R_E) (T := T_E) (N := 8) hx hb htb in_E hown hK hP 5 rfl rfl 7 (by decide) (htb _ tw_152) (fun _ h9 => h9) rfl d_E_length_1 ?_
  refine lv_bipush (v := 32) hx hb d_E_length_4 (by decide) ?_
  refine lv_lushr hx hb d_E_length_6 rfl ?_
  refine lv_l2i hx hb d_E_length_7 rfl ?_
  refine lv_ldc (v := 65535) hx hb hown (htb _ tw_454) d_E_length_8 ?_
  refine lv_iand hx hb d_E_length_10 ?_
  cases hf
  exact hret _ _ _ _ hP hD hS d_E_length_11
set_option maxHeartbeats 4000000 in
set_option maxRecDepth 100000 in
theorem c_E_fits {l : Launch} {dC : Nat → ClassId} {dI : Nat → Nat → Nat} {h : Nat → Nat} {cI : ClassId} {cL : ClassId} {NW : Nat} {bk : Int32} {sz : Int32} {wd : Nat → Int64} {mb : Nat → Int32} {gB : Int32} {gI : Int32} {gN : Int32} {iN : Int32} {dr : Int32} {es : Int64} {of : Int64} {od : Int32} {pl : Int64} {hd : Int64} {tk : Nat → Int32} {kn : Nat → Int32} {li : Nat → Int32} {pa : Nat → Int32} {ins : Nat → Int32} {cm : Int32} {fd : Int32} {hr : Int32} {hs : Nat} {r : Int32} (hf : f_E_fits NW of hd = some (r)) : Met l y_E_fits ws_E_fits { frames := 1, cells := 0, slots := 0, locals := 20 } (PcU (dC, dI) clAll [(cI, .int), (cL, .long)] (wC h cI cL NW bk sz wd mb gB gI gN iN dr es of od pl hd tk kn li pa ins cm fd hr) hs [.ref (h 5)]) (QUi (dC, dI) clAll [(cI, .int), (cL, .long)] (wC h cI cL NW bk sz wd mb gB gI gN iN dr es of od pl hd tk kn li pa ins cm fd hr) (wC h cI cL NW bk sz wd mb gB gI gN iN dr es of od pl hd tk kn li pa ins cm fd hr) hs r) 0 0 (va_A (wC h cI cL NW bk sz wd mb gB gI gN iN dr es of od pl hd tk kn li pa ins cm fd hr) hs) := by
  refine mUz (cc := b_E_fits) (maxL := 2) (by decide) rfl (Nat.le_of_ble_eq_true rfl) ?_
  intro p e s m args below meth c Q hx hb hml hts hown A hA hK hP hD hS hret ls hl
  have htb : ∀ w ∈ TB, w.before args s = true := fun w h => hts w (List.mem_cons_of_mem _ h)
  have hl : lv_has ls 2 [(0, .ref (h 5))] := hl
  unfold f_E_fits at hf
  refine lv_aload_n hx hb d_E_fits_0 rfl (lv_at hl 0 rfl) ?_
  obtain ⟨r_1, hc_2, hf⟩ := bd1_s hf
  refine ucVi (As := []) (rest := []) ⟨hx, hb, hml, hown, htb⟩ hK hP hD hS hA (fun hs => c_E_length hc_2) (cwV 0 htb (gV tw_450 tw_451 tw_452 tw_72 tw_453) rfl rfl rfl (by decide +kernel) ⟨Nat.le_of_ble_eq_true rfl, Nat.le_of_ble_eq_true rfl⟩) 5 1 rfl rfl rfl rfl rfl hl.1 (Nat.le_of_ble_eq_true rfl) d_E_fits_1 ⟨Nat.zero_le _, Nat.zero_le _⟩ (fun H locs hP hD hS => ?_)
  refine lv_istore_n (lv' := [(1, .int r_1), (0, .ref (h 5))]) hx hb d_E_fits_4 rfl hl (by decide) rfl (fun ls hl => ?_)
  refine lv_iload_n hx hb d_E_fits_5 rfl (lv_at hl 0 rfl) ?_
  refine lv_bipush (v := 12) hx hb d_E_fits_6 (by decide) ?_
  refine lv_icmp_lt (tgt := 39) hx hb d_E_fits_8 (by decide) (fun c_3 => ?_) (fun c_3 => ?_)
  · have hf := ite_t c_3 hf
    refine lv_iconst (v := 0) hx hb d_E_fits_39 (by decide) ?_
    cases hf
    exact hret _ _ _ _ (Or.inl rfl) hP hD hS d_E_fits_40
  · have hf := ite_f c_3 hf
    refine lv_iload_n hx hb d_E_fits_11 rfl (lv_at hl 0 rfl) ?_
    refine lv_iconst (v := 4) hx hb d_E_fits_12 (by decide) ?_
    refine lv_irem hx hb d_E_fits_13 (by decide) ?_
    refine lv_if_ne (tgt := 39) hx hb d_E_fits_14 (by decide) (fun c_4 => ?_) (fun c_4 => ?_)
    · have hf := ite_f c_4 hf
      refine lv_iconst (v := 0) hx hb d_E_fits_39 (by decide) ?_
      cases hf
      exact hret _ _ _ _ (Or.inl rfl) hP hD hS d_E_fits_40
    · have hf := ite_t c_4 hf
      refine lv_aload_n hx hb d_E_fits_17 rfl (lv_at hl 1 rfl) ?_
      refine va_get (D := (dC, dI)) (ci := 1) (v := .long of) (C := R_E) (T := T_E) (N := 8) hx hb htb in_E hown hK hP 5 rfl rfl 4 (by decide) (htb _ tw_149) (fun _ h9 => h9) rfl d_E_fits_18 ?_
      refine lv_ldc2 (v := 1024) hx hb hown (htb _ tw_438) d_E_fits_21 ?_
      refine lv_lrem hx hb d_E_fits_24 (by decide) ?_
      refine lv_iload_n hx hb d_E_fits_25 rfl (lv_at hl 0 rfl) ?_
      refine lv_i2l hx hb d_E_fits_26 rfl ?_
      refine lv_ladd hx hb d_E_fits_27 ?_
      refine lv_ldc2 (v := 1024) hx hb hown (htb _ tw_438) d_E_fits_28 ?_
      refine lc_gt (tgt := 39) hx hb d_E_fits_31 d_E_fits_32 (by decide) (fun c_5 => ?_) (fun c_5 => ?_)
      · have hf := ite_t c_5 hf
        refine lv_iconst (v := 0) hx hb d_E_fits_39 (by decide) ?_
        cases hf
        exact hret _ _ _ _ (Or.inl rfl) hP hD hS d_E_fits_40
      · have hf := ite_f c_5 hf
        refine lv_iconst (v := 1) hx hb d_E_fits_35 (by decide) ?_
        refine lv_goto (tgt := 40) hx hb d_E_fits_36 (by decide) ?_
        cases hf
        exact hret _ _ _ _ (Or.inr rfl) hP hD hS d_E_fits_40
set_option maxHeartbeats 4000000 in
set_option maxRecDepth 100000 in
theorem c_E_isEmpty {l : Launch} {dC : Nat → ClassId} {dI : Nat → Nat → Nat} {h : Nat → Nat} {cI : ClassId} {cL : ClassId} {NW : Nat} {bk : Int32} {sz : Int32} {wd : Nat → Int64} {mb : Nat → Int32} {gB : Int32} {gI : Int32} {gN : Int32} {iN : Int32} {dr : Int32} {es : Int64} {of : Int64} {od : Int32} {pl : Int64} {hd : Int64} {tk : Nat → Int32} {kn : Nat → Int32} {li : Nat → Int32} {pa : Nat → Int32} {ins : Nat → Int32} {cm : Int32} {fd : Int32} {hr : Int32} {hs : Nat} {r : Int32} (hf : f_E_isEmpty NW od hd = some (r)) : Met l y_E_isEmpty ws_E_isEmpty { frames := 0, cells := 0, slots := 0, locals := 0 } (PcU (dC, dI) clAll [(cI, .int), (cL, .long)] (wC h cI cL NW bk sz wd mb gB gI gN iN dr es of od pl hd tk kn li pa ins cm fd hr) hs [.ref (h 5)]) (QUi (dC, dI) clAll [(cI, .int), (cL, .long)] (wC h cI cL NW bk sz wd mb gB gI gN iN dr es of od pl hd tk kn li pa ins cm fd hr) (wC h cI cL NW bk sz wd mb gB gI gN iN dr es of od pl hd tk kn li pa ins cm fd hr) hs r) 0 0 (va_A (wC h cI cL NW bk sz wd mb gB gI gN iN dr es of od pl hd tk kn li pa ins cm fd hr) hs) := by
  refine mUz (cc := b_E_isEmpty) (maxL := 1) (by decide) rfl (Nat.le_of_ble_eq_true rfl) ?_
  intro p e s m args below meth c Q hx hb hml hts hown A hA hK hP hD hS hret ls hl
  have htb : ∀ w ∈ TB, w.before args s = true := fun w h => hts w (List.mem_cons_of_mem _ h)
  have hl : lv_has ls 1 [(0, .ref (h 5))] := hl
  unfold f_E_isEmpty at hf
  refine lv_aload_n hx hb d_E_isEmpty_0 rfl (lv_at hl 0 rfl) ?_
  refine va_get (D := (dC, dI)) (ci := 1) (v := .int od) (C := R_E) (T := T_E) (N := 8) hx hb htb in_E hown hK hP 5 rfl rfl 5 (by decide) (htb _ tw_150) (fun _ h9 => h9) rfl d_E_isEmpty_1 ?_
  refine lv_iconst (v := 2) hx hb d_E_isEmpty_4 (by decide) ?_
  refine lv_icmp_lt (tgt := 25) hx hb d_E_isEmpty_5 (by decide) (fun c_1 => ?_) (fun c_1 => ?_)
  · have hf := ite_t c_1 hf
    refine lv_iconst (v := 0) hx hb d_E_isEmpty_25 (by decide) ?_
    cases hf
    exact hret _ _ _ _ (Or.inl rfl) hP hD hS d_E_isEmpty_26
  · have hf := ite_f c_1 hf
    refine lv_aload_n hx hb d_E_isEmpty_8 rfl (lv_at hl 0 rfl) ?_
    refine va_get (D := (dC, dI)) (ci := 1) (v := .long hd) (C := R_E) (T := T_E) (N := 8) hx hb htb in_E hown hK hP 5 rfl rfl 7 (by decide) (htb _ tw_152) (fun _ h9 => h9) rfl d_E_isEmpty_9 ?_
    refine lv_ldc2 (v := 4294967295) hx hb hown (htb _ tw_459) d_E_isEmpty_12 ?_
    refine lv_land hx hb d_E_isEmpty_15 ?_
    refine lv_lconst (v := 0) hx hb d_E_isEmpty_16 (by decide) ?_
    refine lc_ne (tgt := 25) hx hb d_E_isEmpty_17 d_E_isEmpty_18 (by decide) (fun c_2 => ?_) (fun c_2 => ?_)
    · have hf := ite_f c_2 hf
      refine lv_iconst (v := 0) hx hb d_E_isEmpty_25 (by decide) ?_
      cases hf
      exact hret _ _ _ _ (Or.inl rfl) hP hD hS d_E_isEmpty_26
    · have hf := ite_t c_2 hf
      refine lv_iconst (v := 1) hx hb d_E_isEmpty_21 (by decide) ?_
      refine lv_goto (tgt := 26) hx hb d_E_isEmpty_22 (by decide) ?_
      cases hf
      exact hret _ _ _ _ (Or.inr rfl) hP hD hS d_E_isEmpty_26
set_option maxHeartbeats 4000000 in
set_option maxRecDepth 100000 in
theorem c_E_hasInode {l : Launch} {dC : Nat → ClassId} {dI : Nat → Nat → Nat} {h : Nat → Nat} {cI : ClassId} {cL : ClassId} {NW : Nat} {bk : Int32} {sz : Int32} {wd : Nat → Int64} {mb : Nat → Int32} {gB : Int32} {gI : Int32} {gN : Int32} {iN : Int32} {dr : Int32} {es : Int64} {of : Int64} {od : Int32} {pl : Int64} {hd : Int64} {tk : Nat → Int32} {kn : Nat → Int32} {li : Nat → Int32} {pa : Nat → Int32} {ins : Nat → Int32} {cm : Int32} {fd : Int32} {hr : Int32} {hs : Nat} {r : Int32} (hf : f_E_hasInode NW iN hd = some (r)) : Met l y_E_hasInode ws_E_hasInode { frames := 1, cells := 0, slots := 0, locals := 22 } (PcU (dC, dI) clAll [(cI, .int), (cL, .long)] (wC h cI cL NW bk sz wd mb gB gI gN iN dr es of od pl hd tk kn li pa ins cm fd hr) hs [.ref (h 5)]) (QUi (dC, dI) clAll [(cI, .int), (cL, .long)] (wC h cI cL NW bk sz wd mb gB gI gN iN dr es of od pl hd tk kn li pa ins cm fd hr) (wC h cI cL NW bk sz wd mb gB gI gN iN dr es of od pl hd tk kn li pa ins cm fd hr) hs r) 0 0 (va_A (wC h cI cL NW bk sz wd mb gB gI gN iN dr es of od pl hd tk kn li pa ins cm fd hr) hs) := by
  refine mUz (cc := b_E_hasInode) (maxL := 1) (by decide) rfl (Nat.le_of_ble_eq_true rfl) ?_
  intro p e s m args below meth c Q hx hb hml hts hown A hA hK hP hD hS hret ls hl
  have htb : ∀ w ∈ TB, w.before args s = true := fun w h => hts w (List.mem_cons_of_mem _ h)
  have hl : lv_has ls 1 [(0, .ref (h 5))] := hl
  unfold f_E_hasInode at hf
  refine lv_aload_n hx hb d_E_hasInode_0 rfl (lv_at hl 0 rfl) ?_
  refine va_get (D := (dC, dI)) (ci := 1) (v := .ref (h 3)) (C := R_E) (T := T_E) (N := 8) hx hb htb in_E hown hK hP 5 rfl rfl 1 (by decide) (htb _ tw_146) (fun _ h9 => h9) rfl d_E_hasInode_1 ?_
  refine lv_aload_n hx hb d_E_hasInode_4 rfl (lv_at hl 0 rfl) ?_
  refine va_get (D := (dC, dI)) (ci := 1) (v := .long hd) (C := R_E) (T := T_E) (N := 8) hx hb htb in_E hown hK hP 5 rfl rfl 7 (by decide) (htb _ tw_152) (fun _ h9 => h9) rfl d_E_hasInode_5 ?_
  refine lv_ldc2 (v := 4294967295) hx hb hown (htb _ tw_459) d_E_hasInode_8 ?_
  refine lv_land hx hb d_E_hasInode_11 ?_
  obtain ⟨r_1, hc_2, hf⟩ := bd1_s hf
  refine ucVi (As := [.long (hd &&& ((4294967295 : Int64)))]) (rest := []) ⟨hx, hb, hml, hown, htb⟩ hK hP hD hS hA (fun hs => c_L_isInode hc_2) (cwV 1 htb (gV tw_468 tw_469 tw_470 tw_71 tw_471) rfl rfl rfl (by decide +kernel) ⟨Nat.le_of_ble_eq_true rfl, Nat.le_of_ble_eq_true rfl⟩) 3 2 rfl rfl rfl rfl rfl hl.1 (Nat.le_of_ble_eq_true rfl) d_E_hasInode_12 ⟨Nat.zero_le _, Nat.zero_le _⟩ (fun H locs hP hD hS => ?_)
  obtain ⟨c_3, hf⟩ := gp_s hf
  cases hf
  exact hret _ _ _ _ c_3 hP hD hS d_E_hasInode_15
set_option maxHeartbeats 4000000 in
set_option maxRecDepth 100000 in
theorem c_E_nameLength {l : Launch} {dC : Nat → ClassId} {dI : Nat → Nat → Nat} {h : Nat → Nat} {cI : ClassId} {cL : ClassId} {NW : Nat} {bk : Int32} {sz : Int32} {wd : Nat → Int64} {mb : Nat → Int32} {gB : Int32} {gI : Int32} {gN : Int32} {iN : Int32} {dr : Int32} {es : Int64} {of : Int64} {od : Int32} {pl : Int64} {hd : Int64} {tk : Nat → Int32} {kn : Nat → Int32} {li : Nat → Int32} {pa : Nat → Int32} {ins : Nat → Int32} {cm : Int32} {fd : Int32} {hr : Int32} {hs : Nat} {r : Int32} (hf : f_E_nameLength NW hd = some (r)) : Met l y_E_nameLength ws_E_nameLength { frames := 0, cells := 0, slots := 0, locals := 0 } (PcU (dC, dI) clAll [(cI, .int), (cL, .long)] (wC h cI cL NW bk sz wd mb gB gI gN iN dr es of od pl hd tk kn li pa ins cm fd hr) hs [.ref (h 5)]) (QUi (dC, dI) clAll [(cI, .int), (cL, .long)] (wC h cI cL NW bk sz wd mb gB gI gN iN dr es of od pl hd tk kn li pa ins cm fd hr) (wC h cI cL NW bk sz wd mb gB gI gN iN dr es of od pl hd tk kn li pa ins cm fd hr) hs r) 0 0 (va_A (wC h cI cL NW bk sz wd mb gB gI gN iN dr es of od pl hd tk kn li pa ins cm fd hr) hs) := by
  refine mUi (cc := b_E_nameLength) (maxL := 1) (by decide) rfl (Nat.le_of_ble_eq_true rfl) ?_
  intro p e s m args below meth c Q hx hb hml hts hown A hA hK hP hD hS hret ls hl
  have htb : ∀ w ∈ TB, w.before args s = true := fun w h => hts w (List.mem_cons_of_mem _ h)
  have hl : lv_has ls 1 [(0, .ref (h 5))] := hl
  unfold f_E_nameLength at hf
  refine lv_aload_n hx hb d_E_nameLength_0 rfl (lv_at hl 0 rfl) ?_
  refine va_get (D := (dC, dI)) (ci := 1) (v := .long hd) (C := R_E) (T := T_E) (N := 8) hx hb htb in_E hown hK hP 5 rfl rfl 7 (by decide) (htb _ tw_152) (fun _ h9 => h9) rfl d_E_nameLength_1 ?_
  refine lv_bipush (v := 48) hx hb d_E_nameLength_4 (by decide) ?_
  refine lv_lushr hx hb d_E_nameLength_6 rfl ?_
  refine lv_l2i hx hb d_E_nameLength_7 rfl ?_
  refine lv_sipush (v := 255) hx hb d_E_nameLength_8 (by decide) ?_
  refine lv_iand hx hb d_E_nameLength_11 ?_
  cases hf
  exact hret _ _ _ _ hP hD hS d_E_nameLength_12
set_option maxHeartbeats 4000000 in
set_option maxRecDepth 100000 in
theorem c_E_hasName {l : Launch} {dC : Nat → ClassId} {dI : Nat → Nat → Nat} {N : Nat} {h : Nat → Nat} {cI : ClassId} {cL : ClassId} {NW : Nat} {bk : Int32} {sz : Int32} {wd : Nat → Int64} {mb : Nat → Int32} {gB : Int32} {gI : Int32} {gN : Int32} {iN : Int32} {dr : Int32} {es : Int64} {of : Int64} {od : Int32} {pl : Int64} {hd : Int64} {tk : Nat → Int32} {kn : Nat → Int32} {li : Nat → Int32} {pa : Nat → Int32} {ins : Nat → Int32} {cm : Int32} {fd : Int32} {hr : Int32} {hs : Nat} {r : Int32} (hf : f_E_hasName N NW sz wd pl hd = some (r)) : Met l y_E_hasName ws_E_hasName { frames := 1, cells := 0, slots := 0, locals := 27 } (PcU (dC, dI) clAll [(cI, .int), (cL, .long)] (wC h cI cL NW bk sz wd mb gB gI gN iN dr es of od pl hd tk kn li pa ins cm fd hr) hs [.ref (h 5)]) (QUi (dC, dI) clAll [(cI, .int), (cL, .long)] (wC h cI cL NW bk sz wd mb gB gI gN iN dr es of od pl hd tk kn li pa ins cm fd hr) (wC h cI cL NW bk sz wd mb gB gI gN iN dr es of od pl hd tk kn li pa ins cm fd hr) hs r) 0 0 (va_A (wC h cI cL NW bk sz wd mb gB gI gN iN dr es of od pl hd tk kn li pa ins cm fd hr) hs) := by
  refine mUz (cc := b_E_hasName) (maxL := 5) (by decide) rfl (Nat.le_of_ble_eq_true rfl) ?_
  intro p e s m args below meth c Q hx hb hml hts hown A hA hK hP hD hS hret ls hl
  have htb : ∀ w ∈ TB, w.before args s = true := fun w h => hts w (List.mem_cons_of_mem _ h)
  have hl : lv_has ls 5 [(0, .ref (h 5))] := hl
  have hj_24 : ∀ (k_24 : Nat) (x1 : Int32) (x2 : Int32) (H : Heap) (locs : List Loc) (ls : Array Slot), f_E_hasName_24 N NW sz wd pl hd k_24 x1 x2 = some (r) → va_P (dC, dI) clAll (wC h cI cL NW bk sz wd mb gB gI gN iN dr es of od pl hd tk kn li pa ins cm fd hr) H → va_D A (wC h cI cL NW bk sz wd mb gB gI gN iN dr es of od pl hd tk kn li pa ins cm fd hr) → va_S A s.heap H locs → lv_has ls 5 [(0, .ref (h 5)), (1, .int x1), (2, .int x2)] → W p l e (headSpec ws_E_hasName { frames := 1, cells := 0, slots := 0, locals := 27 }).room s m args below meth c H locs 0 0 Q (F0 m 24 ls []) := by
    intro k_24
    induction k_24 with
    | zero => intro _ _ _ _ _ hf; exact absurd hf (by simp [f_E_hasName_24])
    | succ k_24 ih_24 =>
      intro x1 x2 H locs ls hf hP hD hS hl
      rw [f_E_hasName_24] at hf
      refine lv_iload_n hx hb d_E_hasName_24 rfl (lv_at hl 2 rfl) ?_
      refine lv_iload_n hx hb d_E_hasName_25 rfl (lv_at hl 1 rfl) ?_
      refine lv_icmp_ge (tgt := 71) hx hb d_E_hasName_26 (by decide) (fun c_1 => ?_) (fun c_1 => ?_)
      · have hf := ite_t c_1 hf
        refine lv_iconst (v := 1) hx hb d_E_hasName_71 (by decide) ?_
        cases hf
        exact hret _ _ _ _ (Or.inr rfl) hP hD hS d_E_hasName_72
      · have hf := ite_f c_1 hf
        refine lv_aload_n hx hb d_E_hasName_29 rfl (lv_at hl 0 rfl) ?_
        refine va_get (D := (dC, dI)) (ci := 1) (v := .ref (h 1)) (C := R_E) (T := T_E) (N := 8) hx hb htb in_E hown hK hP 5 rfl rfl 0 (by decide) (htb _ tw_145) (fun _ h9 => h9) rfl d_E_hasName_30 ?_
        refine lv_aload_n hx hb d_E_hasName_33 rfl (lv_at hl 0 rfl) ?_
        refine va_get (D := (dC, dI)) (ci := 1) (v := .long pl) (C := R_E) (T := T_E) (N := 8) hx hb htb in_E hown hK hP 5 rfl rfl 6 (by decide) (htb _ tw_151) (fun _ h9 => h9) rfl d_E_hasName_34 ?_
        refine lv_ldc2 (v := 8) hx hb hown (htb _ tw_480) d_E_hasName_37 ?_
        refine lv_ladd hx hb d_E_hasName_40 ?_
        refine lv_iload_n hx hb d_E_hasName_41 rfl (lv_at hl 2 rfl) ?_
        refine lv_i2l hx hb d_E_hasName_42 rfl ?_
        refine lv_ladd hx hb d_E_hasName_43 ?_
        refine lv_iconst (v := 1) hx hb d_E_hasName_44 (by decide) ?_
        obtain ⟨r_2, hc_3, hf⟩ := bd1_s hf
        refine ucVl (As := [.long ((pl + ((8 : Int64))) + (Int32.toInt64 x2)), .int ((1 : Int32))]) (rest := []) ⟨hx, hb, hml, hown, htb⟩ hK hP hD hS hA (fun hs => c_D_number hc_3) (cwV 2 htb (gV tw_440 tw_264 tw_265 tw_69 tw_266) rfl rfl rfl (by decide +kernel) ⟨Nat.le_of_ble_eq_true rfl, Nat.le_of_ble_eq_true rfl⟩) 1 0 rfl rfl rfl rfl rfl hl.1 (Nat.le_of_ble_eq_true rfl) d_E_hasName_45 ⟨Nat.zero_le _, Nat.zero_le _⟩ (fun H locs hP hD hS => ?_)
        refine lv_lstore_n (lv' := [(3, .long r_2), (0, .ref (h 5)), (1, .int x1), (2, .int x2)]) hx hb d_E_hasName_48 rfl hl (by decide) rfl (fun ls hl => ?_)
        refine lv_lload_n hx hb d_E_hasName_49 rfl (lv_at hl 0 rfl) ?_
        refine lv_lconst (v := 0) hx hb d_E_hasName_50 (by decide) ?_
        refine lc_eq (tgt := 63) hx hb d_E_hasName_51 d_E_hasName_52 (by decide) (fun c_4 => ?_) (fun c_4 => ?_)
        · have hf := ite_t c_4 hf
          refine lv_iconst (v := 0) hx hb d_E_hasName_63 (by decide) ?_
          cases hf
          exact hret _ _ _ _ (Or.inl rfl) hP hD hS d_E_hasName_64
        · have hf := ite_f c_4 hf
          refine lv_lload_n hx hb d_E_hasName_55 rfl (lv_at hl 0 rfl) ?_
          refine lv_ldc2 (v := 47) hx hb hown (htb _ tw_481) d_E_hasName_56 ?_
          refine lc_ne (tgt := 65) hx hb d_E_hasName_59 d_E_hasName_60 (by decide) (fun c_5 => ?_) (fun c_5 => ?_)
          · have hf := ite_f c_5 hf
            obtain ⟨v2_6, ev2_6, hf⟩ := lt1_s hf
            refine lv_iinc (v := v2_6) (lv' := [(2, .int v2_6), (3, .long r_2), (0, .ref (h 5)), (1, .int x1)]) hx hb d_E_hasName_65 hl (k := 3) rfl (by rw [← ev2_6]; rfl) (by decide) rfl (fun ls hl => ?_)
            refine lv_goto (tgt := 24) hx hb d_E_hasName_68 (by decide) ?_
            exact ih_24 x1 v2_6 _ _ _ hf hP hD hS (lv_sub hl [2, 3, 0] rfl)
          · have hf := ite_t c_5 hf
            refine lv_iconst (v := 0) hx hb d_E_hasName_63 (by decide) ?_
            cases hf
            exact hret _ _ _ _ (Or.inl rfl) hP hD hS d_E_hasName_64
  unfold f_E_hasName at hf
  refine lv_aload_n hx hb d_E_hasName_0 rfl (lv_at hl 0 rfl) ?_
  obtain ⟨r_1, hc_2, hf⟩ := bd1_s hf
  refine ucVi (As := []) (rest := []) ⟨hx, hb, hml, hown, htb⟩ hK hP hD hS hA (fun hs => c_E_nameLength hc_2) (cwV 0 htb (gV tw_476 tw_477 tw_478 tw_72 tw_479) rfl rfl rfl (by decide +kernel) ⟨Nat.le_of_ble_eq_true rfl, Nat.le_of_ble_eq_true rfl⟩) 5 1 rfl rfl rfl rfl rfl hl.1 (Nat.le_of_ble_eq_true rfl) d_E_hasName_1 ⟨Nat.zero_le _, Nat.zero_le _⟩ (fun H locs hP hD hS => ?_)
  refine lv_istore_n (lv' := [(1, .int r_1), (0, .ref (h 5))]) hx hb d_E_hasName_4 rfl hl (by decide) rfl (fun ls hl => ?_)
  refine lv_iload_n hx hb d_E_hasName_5 rfl (lv_at hl 0 rfl) ?_
  refine lv_if_eq (tgt := 20) hx hb d_E_hasName_6 (by decide) (fun c_3 => ?_) (fun c_3 => ?_)
  · have hf := ite_t c_3 hf
    refine lv_iconst (v := 0) hx hb d_E_hasName_20 (by decide) ?_
    cases hf
    exact hret _ _ _ _ (Or.inl rfl) hP hD hS d_E_hasName_21
  · have hf := ite_f c_3 hf
    refine lv_bipush (v := 8) hx hb d_E_hasName_9 (by decide) ?_
    refine lv_iload_n hx hb d_E_hasName_11 rfl (lv_at hl 0 rfl) ?_
    refine lv_iadd hx hb d_E_hasName_12 ?_
    refine lv_aload_n hx hb d_E_hasName_13 rfl (lv_at hl 1 rfl) ?_
    obtain ⟨r_4, hc_5, hf⟩ := bd1_s hf
    refine ucVi (As := []) (rest := [.int (((8 : Int32)) + r_1)]) ⟨hx, hb, hml, hown, htb⟩ hK hP hD hS hA (fun hs => c_E_length hc_5) (cwV 0 htb (gV tw_450 tw_451 tw_452 tw_72 tw_453) rfl rfl rfl (by decide +kernel) ⟨Nat.le_of_ble_eq_true rfl, Nat.le_of_ble_eq_true rfl⟩) 5 1 rfl rfl rfl rfl rfl hl.1 (Nat.le_of_ble_eq_true rfl) d_E_hasName_14 ⟨Nat.zero_le _, Nat.zero_le _⟩ (fun H locs hP hD hS => ?_)
    refine lv_icmp_le (tgt := 22) hx hb d_E_hasName_17 (by decide) (fun c_6 => ?_) (fun c_6 => ?_)
    · have hf := ite_t c_6 hf
      refine lv_iconst (v := 0) hx hb d_E_hasName_22 (by decide) ?_
      refine lv_istore_n (lv' := [(2, .int ((0 : Int32))), (1, .int r_1), (0, .ref (h 5))]) hx hb d_E_hasName_23 rfl hl (by decide) rfl (fun ls hl => ?_)
      exact hj_24 N r_1 ((0 : Int32)) _ _ _ hf hP hD hS (lv_sub hl [2, 1, 0] rfl)
    · have hf := ite_f c_6 hf
      refine lv_iconst (v := 0) hx hb d_E_hasName_20 (by decide) ?_
      cases hf
      exact hret _ _ _ _ (Or.inl rfl) hP hD hS d_E_hasName_21
set_option maxHeartbeats 4000000 in
set_option maxRecDepth 100000 in
theorem c_E_inode {l : Launch} {dC : Nat → ClassId} {dI : Nat → Nat → Nat} {h : Nat → Nat} {cI : ClassId} {cL : ClassId} {NW : Nat} {bk : Int32} {sz : Int32} {wd : Nat → Int64} {mb : Nat → Int32} {gB : Int32} {gI : Int32} {gN : Int32} {iN : Int32} {dr : Int32} {es : Int64} {of : Int64} {od : Int32} {pl : Int64} {hd : Int64} {tk : Nat → Int32} {kn : Nat → Int32} {li : Nat → Int32} {pa : Nat → Int32} {ins : Nat → Int32} {cm : Int32} {fd : Int32} {hr : Int32} {hs : Nat} {r : Int32} (hf : f_E_inode NW hd = some (r)) : Met l y_E_inode ws_E_inode { frames := 0, cells := 0, slots := 0, locals := 0 } (PcU (dC, dI) clAll [(cI, .int), (cL, .long)] (wC h cI cL NW bk sz wd mb gB gI gN iN dr es of od pl hd tk kn li pa ins cm fd hr) hs [.ref (h 5)]) (QUi (dC, dI) clAll [(cI, .int), (cL, .long)] (wC h cI cL NW bk sz wd mb gB gI gN iN dr es of od pl hd tk kn li pa ins cm fd hr) (wC h cI cL NW bk sz wd mb gB gI gN iN dr es of od pl hd tk kn li pa ins cm fd hr) hs r) 0 0 (va_A (wC h cI cL NW bk sz wd mb gB gI gN iN dr es of od pl hd tk kn li pa ins cm fd hr) hs) := by
  refine mUi (cc := b_E_inode) (maxL := 1) (by decide) rfl (Nat.le_of_ble_eq_true rfl) ?_
  intro p e s m args below meth c Q hx hb hml hts hown A hA hK hP hD hS hret ls hl
  have htb : ∀ w ∈ TB, w.before args s = true := fun w h => hts w (List.mem_cons_of_mem _ h)
  have hl : lv_has ls 1 [(0, .ref (h 5))] := hl
  unfold f_E_inode at hf
  refine lv_aload_n hx hb d_E_inode_0 rfl (lv_at hl 0 rfl) ?_
  refine va_get (D := (dC, dI)) (ci := 1) (v := .long hd) (C := R_E) (T := T_E) (N := 8) hx hb htb in_E hown hK hP 5 rfl rfl 7 (by decide) (htb _ tw_152) (fun _ h9 => h9) rfl d_E_inode_1 ?_
  refine lv_l2i hx hb d_E_inode_4 rfl ?_
  cases hf
  exact hret _ _ _ _ hP hD hS d_E_inode_5
set_option maxHeartbeats 4000000 in
set_option maxRecDepth 100000 in
theorem c_E_order {l : Launch} {dC : Nat → ClassId} {dI : Nat → Nat → Nat} {h : Nat → Nat} {cI : ClassId} {cL : ClassId} {NW : Nat} {bk : Int32} {sz : Int32} {wd : Nat → Int64} {mb : Nat → Int32} {gB : Int32} {gI : Int32} {gN : Int32} {iN : Int32} {dr : Int32} {es : Int64} {of : Int64} {od : Int32} {pl : Int64} {hd : Int64} {tk : Nat → Int32} {kn : Nat → Int32} {li : Nat → Int32} {pa : Nat → Int32} {ins : Nat → Int32} {cm : Int32} {fd : Int32} {hr : Int32} {hs : Nat} {r : Int32} (hf : f_E_order NW od = some (r)) : Met l y_E_order ws_E_order { frames := 0, cells := 0, slots := 0, locals := 0 } (PcU (dC, dI) clAll [(cI, .int), (cL, .long)] (wC h cI cL NW bk sz wd mb gB gI gN iN dr es of od pl hd tk kn li pa ins cm fd hr) hs [.ref (h 5)]) (QUi (dC, dI) clAll [(cI, .int), (cL, .long)] (wC h cI cL NW bk sz wd mb gB gI gN iN dr es of od pl hd tk kn li pa ins cm fd hr) (wC h cI cL NW bk sz wd mb gB gI gN iN dr es of od pl hd tk kn li pa ins cm fd hr) hs r) 0 0 (va_A (wC h cI cL NW bk sz wd mb gB gI gN iN dr es of od pl hd tk kn li pa ins cm fd hr) hs) := by
  refine mUi (cc := b_E_order) (maxL := 1) (by decide) rfl (Nat.le_of_ble_eq_true rfl) ?_
  intro p e s m args below meth c Q hx hb hml hts hown A hA hK hP hD hS hret ls hl
  have htb : ∀ w ∈ TB, w.before args s = true := fun w h => hts w (List.mem_cons_of_mem _ h)
  have hl : lv_has ls 1 [(0, .ref (h 5))] := hl
  unfold f_E_order at hf
  refine lv_aload_n hx hb d_E_order_0 rfl (lv_at hl 0 rfl) ?_
  refine va_get (D := (dC, dI)) (ci := 1) (v := .int od) (C := R_E) (T := T_E) (N := 8) hx hb htb in_E hown hK hP 5 rfl rfl 5 (by decide) (htb _ tw_150) (fun _ h9 => h9) rfl d_E_order_1 ?_
  cases hf
  exact hret _ _ _ _ hP hD hS d_E_order_4
set_option maxHeartbeats 4000000 in
set_option maxRecDepth 100000 in
theorem c_E_isOneDot {l : Launch} {dC : Nat → ClassId} {dI : Nat → Nat → Nat} {h : Nat → Nat} {cI : ClassId} {cL : ClassId} {NW : Nat} {bk : Int32} {sz : Int32} {wd : Nat → Int64} {mb : Nat → Int32} {gB : Int32} {gI : Int32} {gN : Int32} {iN : Int32} {dr : Int32} {es : Int64} {of : Int64} {od : Int32} {pl : Int64} {hd : Int64} {tk : Nat → Int32} {kn : Nat → Int32} {li : Nat → Int32} {pa : Nat → Int32} {ins : Nat → Int32} {cm : Int32} {fd : Int32} {hr : Int32} {hs : Nat} {r : Int32} (hf : f_E_isOneDot NW sz wd pl hd = some (r)) : Met l y_E_isOneDot ws_E_isOneDot { frames := 1, cells := 0, slots := 0, locals := 27 } (PcU (dC, dI) clAll [(cI, .int), (cL, .long)] (wC h cI cL NW bk sz wd mb gB gI gN iN dr es of od pl hd tk kn li pa ins cm fd hr) hs [.ref (h 5)]) (QUi (dC, dI) clAll [(cI, .int), (cL, .long)] (wC h cI cL NW bk sz wd mb gB gI gN iN dr es of od pl hd tk kn li pa ins cm fd hr) (wC h cI cL NW bk sz wd mb gB gI gN iN dr es of od pl hd tk kn li pa ins cm fd hr) hs r) 0 0 (va_A (wC h cI cL NW bk sz wd mb gB gI gN iN dr es of od pl hd tk kn li pa ins cm fd hr) hs) := by
  refine mUz (cc := b_E_isOneDot) (maxL := 1) (by decide) rfl (Nat.le_of_ble_eq_true rfl) ?_
  intro p e s m args below meth c Q hx hb hml hts hown A hA hK hP hD hS hret ls hl
  have htb : ∀ w ∈ TB, w.before args s = true := fun w h => hts w (List.mem_cons_of_mem _ h)
  have hl : lv_has ls 1 [(0, .ref (h 5))] := hl
  unfold f_E_isOneDot at hf
  refine lv_aload_n hx hb d_E_isOneDot_0 rfl (lv_at hl 0 rfl) ?_
  obtain ⟨r_1, hc_2, hf⟩ := bd1_s hf
  refine ucVi (As := []) (rest := []) ⟨hx, hb, hml, hown, htb⟩ hK hP hD hS hA (fun hs => c_E_nameLength hc_2) (cwV 0 htb (gV tw_476 tw_477 tw_478 tw_72 tw_479) rfl rfl rfl (by decide +kernel) ⟨Nat.le_of_ble_eq_true rfl, Nat.le_of_ble_eq_true rfl⟩) 5 1 rfl rfl rfl rfl rfl hl.1 (Nat.le_of_ble_eq_true rfl) d_E_isOneDot_1 ⟨Nat.zero_le _, Nat.zero_le _⟩ (fun H locs hP hD hS => ?_)
  refine lv_iconst (v := 1) hx hb d_E_isOneDot_4 (by decide) ?_
  refine lv_icmp_ne (tgt := 35) hx hb d_E_isOneDot_5 (by decide) (fun c_3 => ?_) (fun c_3 => ?_)
  · have hf := ite_f c_3 hf
    refine lv_iconst (v := 0) hx hb d_E_isOneDot_35 (by decide) ?_
    cases hf
    exact hret _ _ _ _ (Or.inl rfl) hP hD hS d_E_isOneDot_36
  · have hf := ite_t c_3 hf
    refine lv_aload_n hx hb d_E_isOneDot_8 rfl (lv_at hl 0 rfl) ?_
    refine va_get (D := (dC, dI)) (ci := 1) (v := .ref (h 1)) (C := R_E) (T := T_E) (N := 8) hx hb htb in_E hown hK hP 5 rfl rfl 0 (by decide) (htb _ tw_145) (fun _ h9 => h9) rfl d_E_isOneDot_9 ?_
    refine lv_aload_n hx hb d_E_isOneDot_12 rfl (lv_at hl 0 rfl) ?_
    refine va_get (D := (dC, dI)) (ci := 1) (v := .long pl) (C := R_E) (T := T_E) (N := 8) hx hb htb in_E hown hK hP 5 rfl rfl 6 (by decide) (htb _ tw_151) (fun _ h9 => h9) rfl d_E_isOneDot_13 ?_
    refine lv_ldc2 (v := 8) hx hb hown (htb _ tw_480) d_E_isOneDot_16 ?_
    refine lv_ladd hx hb d_E_isOneDot_19 ?_
    refine lv_iconst (v := 1) hx hb d_E_isOneDot_20 (by decide) ?_
    obtain ⟨r_4, hc_5, hf⟩ := bd1_s hf
    refine ucVl (As := [.long (pl + ((8 : Int64))), .int ((1 : Int32))]) (rest := []) ⟨hx, hb, hml, hown, htb⟩ hK hP hD hS hA (fun hs => c_D_number hc_5) (cwV 2 htb (gV tw_440 tw_264 tw_265 tw_69 tw_266) rfl rfl rfl (by decide +kernel) ⟨Nat.le_of_ble_eq_true rfl, Nat.le_of_ble_eq_true rfl⟩) 1 0 rfl rfl rfl rfl rfl hl.1 (Nat.le_of_ble_eq_true rfl) d_E_isOneDot_21 ⟨Nat.zero_le _, Nat.zero_le _⟩ (fun H locs hP hD hS => ?_)
    refine lv_ldc2 (v := 46) hx hb hown (htb _ tw_494) d_E_isOneDot_24 ?_
    refine lc_ne (tgt := 35) hx hb d_E_isOneDot_27 d_E_isOneDot_28 (by decide) (fun c_6 => ?_) (fun c_6 => ?_)
    · have hf := ite_f c_6 hf
      refine lv_iconst (v := 0) hx hb d_E_isOneDot_35 (by decide) ?_
      cases hf
      exact hret _ _ _ _ (Or.inl rfl) hP hD hS d_E_isOneDot_36
    · have hf := ite_t c_6 hf
      refine lv_iconst (v := 1) hx hb d_E_isOneDot_31 (by decide) ?_
      refine lv_goto (tgt := 36) hx hb d_E_isOneDot_32 (by decide) ?_
      cases hf
      exact hret _ _ _ _ (Or.inr rfl) hP hD hS d_E_isOneDot_36
set_option maxHeartbeats 4000000 in
set_option maxRecDepth 100000 in
theorem c_E_mark {l : Launch} {dC : Nat → ClassId} {dI : Nat → Nat → Nat} {h : Nat → Nat} {cI : ClassId} {cL : ClassId} {NW : Nat} {bk : Int32} {sz : Int32} {wd : Nat → Int64} {mb : Nat → Int32} {gB : Int32} {gI : Int32} {gN : Int32} {iN : Int32} {dr : Int32} {es : Int64} {of : Int64} {od : Int32} {pl : Int64} {hd : Int64} {tk : Nat → Int32} {kn : Nat → Int32} {li : Nat → Int32} {pa : Nat → Int32} {ins : Nat → Int32} {cm : Int32} {fd : Int32} {hr : Int32} {hs : Nat} {r : Int32} (hf : f_E_mark NW hd = some (r)) : Met l y_E_mark ws_E_mark { frames := 0, cells := 0, slots := 0, locals := 0 } (PcU (dC, dI) clAll [(cI, .int), (cL, .long)] (wC h cI cL NW bk sz wd mb gB gI gN iN dr es of od pl hd tk kn li pa ins cm fd hr) hs [.ref (h 5)]) (QUi (dC, dI) clAll [(cI, .int), (cL, .long)] (wC h cI cL NW bk sz wd mb gB gI gN iN dr es of od pl hd tk kn li pa ins cm fd hr) (wC h cI cL NW bk sz wd mb gB gI gN iN dr es of od pl hd tk kn li pa ins cm fd hr) hs r) 0 0 (va_A (wC h cI cL NW bk sz wd mb gB gI gN iN dr es of od pl hd tk kn li pa ins cm fd hr) hs) := by
  refine mUi (cc := b_E_mark) (maxL := 1) (by decide) rfl (Nat.le_of_ble_eq_true rfl) ?_
  intro p e s m args below meth c Q hx hb hml hts hown A hA hK hP hD hS hret ls hl
  have htb : ∀ w ∈ TB, w.before args s = true := fun w h => hts w (List.mem_cons_of_mem _ h)
  have hl : lv_has ls 1 [(0, .ref (h 5))] := hl
  unfold f_E_mark at hf
  refine lv_aload_n hx hb d_E_mark_0 rfl (lv_at hl 0 rfl) ?_
  refine va_get (D := (dC, dI)) (ci := 1) (v := .long hd) (C := R_E) (T := T_E) (N := 8) hx hb htb in_E hown hK hP 5 rfl rfl 7 (by decide) (htb _ tw_152) (fun _ h9 => h9) rfl d_E_mark_1 ?_
  refine lv_bipush (v := 56) hx hb d_E_mark_4 (by decide) ?_
  refine lv_lushr hx hb d_E_mark_6 rfl ?_
  refine lv_l2i hx hb d_E_mark_7 rfl ?_
  cases hf
  exact hret _ _ _ _ hP hD hS d_E_mark_8
set_option maxHeartbeats 4000000 in
set_option maxRecDepth 100000 in
theorem c_E_isTwoDots {l : Launch} {dC : Nat → ClassId} {dI : Nat → Nat → Nat} {h : Nat → Nat} {cI : ClassId} {cL : ClassId} {NW : Nat} {bk : Int32} {sz : Int32} {wd : Nat → Int64} {mb : Nat → Int32} {gB : Int32} {gI : Int32} {gN : Int32} {iN : Int32} {dr : Int32} {es : Int64} {of : Int64} {od : Int32} {pl : Int64} {hd : Int64} {tk : Nat → Int32} {kn : Nat → Int32} {li : Nat → Int32} {pa : Nat → Int32} {ins : Nat → Int32} {cm : Int32} {fd : Int32} {hr : Int32} {hs : Nat} {r : Int32} (hf : f_E_isTwoDots NW sz wd pl hd = some (r)) : Met l y_E_isTwoDots ws_E_isTwoDots { frames := 1, cells := 0, slots := 0, locals := 27 } (PcU (dC, dI) clAll [(cI, .int), (cL, .long)] (wC h cI cL NW bk sz wd mb gB gI gN iN dr es of od pl hd tk kn li pa ins cm fd hr) hs [.ref (h 5)]) (QUi (dC, dI) clAll [(cI, .int), (cL, .long)] (wC h cI cL NW bk sz wd mb gB gI gN iN dr es of od pl hd tk kn li pa ins cm fd hr) (wC h cI cL NW bk sz wd mb gB gI gN iN dr es of od pl hd tk kn li pa ins cm fd hr) hs r) 0 0 (va_A (wC h cI cL NW bk sz wd mb gB gI gN iN dr es of od pl hd tk kn li pa ins cm fd hr) hs) := by
  refine mUz (cc := b_E_isTwoDots) (maxL := 1) (by decide) rfl (Nat.le_of_ble_eq_true rfl) ?_
  intro p e s m args below meth c Q hx hb hml hts hown A hA hK hP hD hS hret ls hl
  have htb : ∀ w ∈ TB, w.before args s = true := fun w h => hts w (List.mem_cons_of_mem _ h)
  have hl : lv_has ls 1 [(0, .ref (h 5))] := hl
  unfold f_E_isTwoDots at hf
  refine lv_aload_n hx hb d_E_isTwoDots_0 rfl (lv_at hl 0 rfl) ?_
  obtain ⟨r_1, hc_2, hf⟩ := bd1_s hf
  refine ucVi (As := []) (rest := []) ⟨hx, hb, hml, hown, htb⟩ hK hP hD hS hA (fun hs => c_E_nameLength hc_2) (cwV 0 htb (gV tw_476 tw_477 tw_478 tw_72 tw_479) rfl rfl rfl (by decide +kernel) ⟨Nat.le_of_ble_eq_true rfl, Nat.le_of_ble_eq_true rfl⟩) 5 1 rfl rfl rfl rfl rfl hl.1 (Nat.le_of_ble_eq_true rfl) d_E_isTwoDots_1 ⟨Nat.zero_le _, Nat.zero_le _⟩ (fun H locs hP hD hS => ?_)
  refine lv_iconst (v := 2) hx hb d_E_isTwoDots_4 (by decide) ?_
  refine lv_icmp_ne (tgt := 35) hx hb d_E_isTwoDots_5 (by decide) (fun c_3 => ?_) (fun c_3 => ?_)
  · have hf := ite_f c_3 hf
    refine lv_iconst (v := 0) hx hb d_E_isTwoDots_35 (by decide) ?_
    cases hf
    exact hret _ _ _ _ (Or.inl rfl) hP hD hS d_E_isTwoDots_36
  · have hf := ite_t c_3 hf
    refine lv_aload_n hx hb d_E_isTwoDots_8 rfl (lv_at hl 0 rfl) ?_
    refine va_get (D := (dC, dI)) (ci := 1) (v := .ref (h 1)) (C := R_E) (T := T_E) (N := 8) hx hb htb in_E hown hK hP 5 rfl rfl 0 (by decide) (htb _ tw_145) (fun _ h9 => h9) rfl d_E_isTwoDots_9 ?_
    refine lv_aload_n hx hb d_E_isTwoDots_12 rfl (lv_at hl 0 rfl) ?_
    refine va_get (D := (dC, dI)) (ci := 1) (v := .long pl) (C := R_E) (T := T_E) (N := 8) hx hb htb in_E hown hK hP 5 rfl rfl 6 (by decide) (htb _ tw_151) (fun _ h9 => h9) rfl d_E_isTwoDots_13 ?_
    refine lv_ldc2 (v := 8) hx hb hown (htb _ tw_480) d_E_isTwoDots_16 ?_
    refine lv_ladd hx hb d_E_isTwoDots_19 ?_
    refine lv_iconst (v := 2) hx hb d_E_isTwoDots_20 (by decide) ?_
    obtain ⟨r_4, hc_5, hf⟩ := bd1_s hf
    refine ucVl (As := [.long (pl + ((8 : Int64))), .int ((2 : Int32))]) (rest := []) ⟨hx, hb, hml, hown, htb⟩ hK hP hD hS hA (fun hs => c_D_number hc_5) (cwV 2 htb (gV tw_440 tw_264 tw_265 tw_69 tw_266) rfl rfl rfl (by decide +kernel) ⟨Nat.le_of_ble_eq_true rfl, Nat.le_of_ble_eq_true rfl⟩) 1 0 rfl rfl rfl rfl rfl hl.1 (Nat.le_of_ble_eq_true rfl) d_E_isTwoDots_21 ⟨Nat.zero_le _, Nat.zero_le _⟩ (fun H locs hP hD hS => ?_)
    refine lv_ldc2 (v := 11822) hx hb hown (htb _ tw_503) d_E_isTwoDots_24 ?_
    refine lc_ne (tgt := 35) hx hb d_E_isTwoDots_27 d_E_isTwoDots_28 (by decide) (fun c_6 => ?_) (fun c_6 => ?_)
    · have hf := ite_f c_6 hf
      refine lv_iconst (v := 0) hx hb d_E_isTwoDots_35 (by decide) ?_
      cases hf
      exact hret _ _ _ _ (Or.inl rfl) hP hD hS d_E_isTwoDots_36
    · have hf := ite_t c_6 hf
      refine lv_iconst (v := 1) hx hb d_E_isTwoDots_31 (by decide) ?_
      refine lv_goto (tgt := 36) hx hb d_E_isTwoDots_32 (by decide) ?_
      cases hf
      exact hret _ _ _ _ (Or.inr rfl) hP hD hS d_E_isTwoDots_36
set_option maxHeartbeats 4000000 in
set_option maxRecDepth 100000 in
theorem c_E_advance {l : Launch} {dC : Nat → ClassId} {dI : Nat → Nat → Nat} {h : Nat → Nat} {cI : ClassId} {cL : ClassId} {NW : Nat} {bk : Int32} {sz : Int32} {wd : Nat → Int64} {mb : Nat → Int32} {gB : Int32} {gI : Int32} {gN : Int32} {iN : Int32} {dr : Int32} {es : Int64} {of : Int64} {od : Int32} {pl : Int64} {hd : Int64} {tk : Nat → Int32} {kn : Nat → Int32} {li : Nat → Int32} {pa : Nat → Int32} {ins : Nat → Int32} {cm : Int32} {fd : Int32} {hr : Int32} {hs : Nat} {of' : Int64} {od' : Int32} {pl' : Int64} {hd' : Int64} (hf : f_E_advance NW sz wd mb gI dr of od pl hd = some (of', od', pl', hd')) : Met l y_E_advance ws_E_advance { frames := 2, cells := 0, slots := 0, locals := 56 } (PcU (dC, dI) clAll [(cI, .int), (cL, .long)] (wC h cI cL NW bk sz wd mb gB gI gN iN dr es of od pl hd tk kn li pa ins cm fd hr) hs [.ref (h 5)]) (QUv (dC, dI) clAll [(cI, .int), (cL, .long)] (wC h cI cL NW bk sz wd mb gB gI gN iN dr es of od pl hd tk kn li pa ins cm fd hr) (wC h cI cL NW bk sz wd mb gB gI gN iN dr es of' od' pl' hd' tk kn li pa ins cm fd hr) hs) 0 0 (va_A (wC h cI cL NW bk sz wd mb gB gI gN iN dr es of od pl hd tk kn li pa ins cm fd hr) hs) := by
  refine mUv (cc := b_E_advance) (maxL := 1) (by decide) rfl (Nat.le_of_ble_eq_true rfl) ?_
  intro p e s m args below meth c Q hx hb hml hts hown A hA hK hP hD hS hret ls hl
  have htb : ∀ w ∈ TB, w.before args s = true := fun w h => hts w (List.mem_cons_of_mem _ h)
  have hl : lv_has ls 1 [(0, .ref (h 5))] := hl
  unfold f_E_advance at hf
  refine lv_aload_n hx hb d_E_advance_0 rfl (lv_at hl 0 rfl) ?_
  refine lv_dup hx hb d_E_advance_1 rfl ?_
  refine va_get (D := (dC, dI)) (ci := 1) (v := .long of) (C := R_E) (T := T_E) (N := 8) hx hb htb in_E hown hK hP 5 rfl rfl 4 (by decide) (htb _ tw_149) (fun _ h9 => h9) rfl d_E_advance_2 ?_
  refine lv_bipush (v := 12) hx hb d_E_advance_5 (by decide) ?_
  refine lv_aload_n hx hb d_E_advance_7 rfl (lv_at hl 0 rfl) ?_
  obtain ⟨r_1, hc_2, hf⟩ := bd1_s hf
  refine ucVi (As := []) (rest := [.int ((12 : Int32)), .long of, .ref (h 5)]) ⟨hx, hb, hml, hown, htb⟩ hK hP hD hS hA (fun hs => c_E_length hc_2) (cwV 0 htb (gV tw_450 tw_451 tw_452 tw_72 tw_453) rfl rfl rfl (by decide +kernel) ⟨Nat.le_of_ble_eq_true rfl, Nat.le_of_ble_eq_true rfl⟩) 5 1 rfl rfl rfl rfl rfl hl.1 (Nat.le_of_ble_eq_true rfl) d_E_advance_8 ⟨Nat.zero_le _, Nat.zero_le _⟩ (fun H locs hP hD hS => ?_)
  refine va_mmax hx hb (hml.trans hl.1.symm) hown (htb _ tw_509) (htb _ tw_100) (htb _ tw_70) (htb _ tw_101) (Nat.le_of_ble_eq_true rfl) (Nat.le_of_ble_eq_true rfl) (Nat.zero_le _) (Nat.zero_le _) d_E_advance_11 ?_
  refine lv_i2l hx hb d_E_advance_14 rfl ?_
  refine lv_ladd hx hb d_E_advance_15 ?_
  refine va_put (D := (dC, dI)) (ci := 1) (v := .long (of + (Int32.toInt64 (if ((12 : Int32)) < r_1 then r_1 else ((12 : Int32)))))) (ty := .long) (C := R_E) (T := T_E) (N := 8) hx hb htb in_E ty_E tyok_E nm_E hown hK hP hD hS 5 rfl rfl 4 (by decide) (htb _ tw_149) (fun _ h9 => h9) rfl (by decide +kernel) rfl rfl (Nat.le_of_ble_eq_true rfl) d_E_advance_16 (fun H locs hP hD hS => ?_)
  have hP : va_P (dC, dI) clAll (wC h cI cL NW bk sz wd mb gB gI gN iN dr es (of + (Int32.toInt64 (if ((12 : Int32)) < r_1 then r_1 else ((12 : Int32))))) od pl hd tk kn li pa ins cm fd hr) H := hP
  have hD : va_D A (wC h cI cL NW bk sz wd mb gB gI gN iN dr es (of + (Int32.toInt64 (if ((12 : Int32)) < r_1 then r_1 else ((12 : Int32))))) od pl hd tk kn li pa ins cm fd hr) := hD
  refine lv_aload_n hx hb d_E_advance_19 rfl (lv_at hl 0 rfl) ?_
  refine lv_dup hx hb d_E_advance_20 rfl ?_
  refine va_get (D := (dC, dI)) (ci := 1) (v := .int od) (C := R_E) (T := T_E) (N := 8) hx hb htb in_E hown hK hP 5 rfl rfl 5 (by decide) (htb _ tw_150) (fun _ h9 => h9) rfl d_E_advance_21 ?_
  refine lv_iconst (v := 1) hx hb d_E_advance_24 (by decide) ?_
  refine lv_iadd hx hb d_E_advance_25 ?_
  refine va_put (D := (dC, dI)) (ci := 1) (v := .int (od + ((1 : Int32)))) (ty := .int) (C := R_E) (T := T_E) (N := 8) hx hb htb in_E ty_E tyok_E nm_E hown hK hP hD hS 5 rfl rfl 5 (by decide) (htb _ tw_150) (fun _ h9 => h9) rfl (by decide +kernel) rfl rfl (Nat.le_of_ble_eq_true rfl) d_E_advance_26 (fun H locs hP hD hS => ?_)
  have hP : va_P (dC, dI) clAll (wC h cI cL NW bk sz wd mb gB gI gN iN dr es (of + (Int32.toInt64 (if ((12 : Int32)) < r_1 then r_1 else ((12 : Int32))))) (od + ((1 : Int32))) pl hd tk kn li pa ins cm fd hr) H := hP
  have hD : va_D A (wC h cI cL NW bk sz wd mb gB gI gN iN dr es (of + (Int32.toInt64 (if ((12 : Int32)) < r_1 then r_1 else ((12 : Int32))))) (od + ((1 : Int32))) pl hd tk kn li pa ins cm fd hr) := hD
  refine lv_aload_n hx hb d_E_advance_29 rfl (lv_at hl 0 rfl) ?_
  refine lv_ldc2 (v := 1024) hx hb hown (htb _ tw_438) d_E_advance_30 ?_
  refine lv_aload_n hx hb d_E_advance_33 rfl (lv_at hl 0 rfl) ?_
  refine va_get (D := (dC, dI)) (ci := 1) (v := .ref (h 3)) (C := R_E) (T := T_E) (N := 8) hx hb htb in_E hown hK hP 5 rfl rfl 1 (by decide) (htb _ tw_146) (fun _ h9 => h9) rfl d_E_advance_34 ?_
  refine lv_aload_n hx hb d_E_advance_37 rfl (lv_at hl 0 rfl) ?_
  refine va_get (D := (dC, dI)) (ci := 1) (v := .int dr) (C := R_E) (T := T_E) (N := 8) hx hb htb in_E hown hK hP 5 rfl rfl 2 (by decide) (htb _ tw_147) (fun _ h9 => h9) rfl d_E_advance_38 ?_
  refine lv_aload_n hx hb d_E_advance_41 rfl (lv_at hl 0 rfl) ?_
  refine va_get (D := (dC, dI)) (ci := 1) (v := .long (of + (Int32.toInt64 (if ((12 : Int32)) < r_1 then r_1 else ((12 : Int32)))))) (C := R_E) (T := T_E) (N := 8) hx hb htb in_E hown hK hP 5 rfl rfl 4 (by decide) (htb _ tw_149) (fun _ h9 => h9) rfl d_E_advance_42 ?_
  refine lv_ldc2 (v := 1024) hx hb hown (htb _ tw_438) d_E_advance_45 ?_
  refine lv_ldiv hx hb d_E_advance_48 (by decide) ?_
  refine lv_l2i hx hb d_E_advance_49 rfl ?_
  obtain ⟨r_3, hc_4, hf⟩ := bd1_s hf
  refine ucVl (As := [.int dr, .int (Int64.toInt32 ((of + (Int32.toInt64 (if ((12 : Int32)) < r_1 then r_1 else ((12 : Int32))))) / ((1024 : Int64))))]) (rest := [.long ((1024 : Int64)), .ref (h 5)]) ⟨hx, hb, hml, hown, htb⟩ hK hP hD hS hA (fun hs => c_L_blockOf hc_4) (cwV 2 htb (gV tw_439 tw_419 tw_420 tw_71 tw_421) rfl rfl rfl (by decide +kernel) ⟨Nat.le_of_ble_eq_true rfl, Nat.le_of_ble_eq_true rfl⟩) 3 2 rfl rfl rfl rfl rfl hl.1 (Nat.le_of_ble_eq_true rfl) d_E_advance_50 ⟨Nat.zero_le _, Nat.zero_le _⟩ (fun H locs hP hD hS => ?_)
  refine lv_lmul hx hb d_E_advance_53 ?_
  refine lv_aload_n hx hb d_E_advance_54 rfl (lv_at hl 0 rfl) ?_
  refine va_get (D := (dC, dI)) (ci := 1) (v := .long (of + (Int32.toInt64 (if ((12 : Int32)) < r_1 then r_1 else ((12 : Int32)))))) (C := R_E) (T := T_E) (N := 8) hx hb htb in_E hown hK hP 5 rfl rfl 4 (by decide) (htb _ tw_149) (fun _ h9 => h9) rfl d_E_advance_55 ?_
  refine lv_ldc2 (v := 1024) hx hb hown (htb _ tw_438) d_E_advance_58 ?_
  refine lv_lrem hx hb d_E_advance_61 (by decide) ?_
  refine lv_ladd hx hb d_E_advance_62 ?_
  refine va_put (D := (dC, dI)) (ci := 1) (v := .long ((((1024 : Int64)) * r_3) + ((of + (Int32.toInt64 (if ((12 : Int32)) < r_1 then r_1 else ((12 : Int32))))) - (of + (Int32.toInt64 (if ((12 : Int32)) < r_1 then r_1 else ((12 : Int32))))) / ((1024 : Int64)) * ((1024 : Int64))))) (ty := .long) (C := R_E) (T := T_E) (N := 8) hx hb htb in_E ty_E tyok_E nm_E hown hK hP hD hS 5 rfl rfl 6 (by decide) (htb _ tw_151) (fun _ h9 => h9) rfl (by decide +kernel) rfl rfl (Nat.le_of_ble_eq_true rfl) d_E_advance_63 (fun H locs hP hD hS => ?_)
  have hP : va_P (dC, dI) clAll (wC h cI cL NW bk sz wd mb gB gI gN iN dr es (of + (Int32.toInt64 (if ((12 : Int32)) < r_1 then r_1 else ((12 : Int32))))) (od + ((1 : Int32))) ((((1024 : Int64)) * r_3) + ((of + (Int32.toInt64 (if ((12 : Int32)) < r_1 then r_1 else ((12 : Int32))))) - (of + (Int32.toInt64 (if ((12 : Int32)) < r_1 then r_1 else ((12 : Int32))))) / ((1024 : Int64)) * ((1024 : Int64)))) hd tk kn li pa ins cm fd hr) H := hP
  have hD : va_D A (wC h cI cL NW bk sz wd mb gB gI gN iN dr es (of + (Int32.toInt64 (if ((12 : Int32)) < r_1 then r_1 else ((12 : Int32))))) (od + ((1 : Int32))) ((((1024 : Int64)) * r_3) + ((of + (Int32.toInt64 (if ((12 : Int32)) < r_1 then r_1 else ((12 : Int32))))) - (of + (Int32.toInt64 (if ((12 : Int32)) < r_1 then r_1 else ((12 : Int32))))) / ((1024 : Int64)) * ((1024 : Int64)))) hd tk kn li pa ins cm fd hr) := hD
  refine lv_aload_n hx hb d_E_advance_66 rfl (lv_at hl 0 rfl) ?_
  refine lv_aload_n hx hb d_E_advance_67 rfl (lv_at hl 0 rfl) ?_
  refine va_get (D := (dC, dI)) (ci := 1) (v := .ref (h 1)) (C := R_E) (T := T_E) (N := 8) hx hb htb in_E hown hK hP 5 rfl rfl 0 (by decide) (htb _ tw_145) (fun _ h9 => h9) rfl d_E_advance_68 ?_
  refine lv_aload_n hx hb d_E_advance_71 rfl (lv_at hl 0 rfl) ?_
  refine va_get (D := (dC, dI)) (ci := 1) (v := .long ((((1024 : Int64)) * r_3) + ((of + (Int32.toInt64 (if ((12 : Int32)) < r_1 then r_1 else ((12 : Int32))))) - (of + (Int32.toInt64 (if ((12 : Int32)) < r_1 then r_1 else ((12 : Int32))))) / ((1024 : Int64)) * ((1024 : Int64))))) (C := R_E) (T := T_E) (N := 8) hx hb htb in_E hown hK hP 5 rfl rfl 6 (by decide) (htb _ tw_151) (fun _ h9 => h9) rfl d_E_advance_72 ?_
  refine lv_bipush (v := 8) hx hb d_E_advance_75 (by decide) ?_
  obtain ⟨r_5, hc_6, hf⟩ := bd1_s hf
  refine ucVl (As := [.long ((((1024 : Int64)) * r_3) + ((of + (Int32.toInt64 (if ((12 : Int32)) < r_1 then r_1 else ((12 : Int32))))) - (of + (Int32.toInt64 (if ((12 : Int32)) < r_1 then r_1 else ((12 : Int32))))) / ((1024 : Int64)) * ((1024 : Int64)))), .int ((8 : Int32))]) (rest := [.ref (h 5)]) ⟨hx, hb, hml, hown, htb⟩ hK hP hD hS hA (fun hs => c_D_number hc_6) (cwV 2 htb (gV tw_440 tw_264 tw_265 tw_69 tw_266) rfl rfl rfl (by decide +kernel) ⟨Nat.le_of_ble_eq_true rfl, Nat.le_of_ble_eq_true rfl⟩) 1 0 rfl rfl rfl rfl rfl hl.1 (Nat.le_of_ble_eq_true rfl) d_E_advance_77 ⟨Nat.zero_le _, Nat.zero_le _⟩ (fun H locs hP hD hS => ?_)
  refine va_put (D := (dC, dI)) (ci := 1) (v := .long r_5) (ty := .long) (C := R_E) (T := T_E) (N := 8) hx hb htb in_E ty_E tyok_E nm_E hown hK hP hD hS 5 rfl rfl 7 (by decide) (htb _ tw_152) (fun _ h9 => h9) rfl (by decide +kernel) rfl rfl (Nat.le_of_ble_eq_true rfl) d_E_advance_80 (fun H locs hP hD hS => ?_)
  have hP : va_P (dC, dI) clAll (wC h cI cL NW bk sz wd mb gB gI gN iN dr es (of + (Int32.toInt64 (if ((12 : Int32)) < r_1 then r_1 else ((12 : Int32))))) (od + ((1 : Int32))) ((((1024 : Int64)) * r_3) + ((of + (Int32.toInt64 (if ((12 : Int32)) < r_1 then r_1 else ((12 : Int32))))) - (of + (Int32.toInt64 (if ((12 : Int32)) < r_1 then r_1 else ((12 : Int32))))) / ((1024 : Int64)) * ((1024 : Int64)))) r_5 tk kn li pa ins cm fd hr) H := hP
  have hD : va_D A (wC h cI cL NW bk sz wd mb gB gI gN iN dr es (of + (Int32.toInt64 (if ((12 : Int32)) < r_1 then r_1 else ((12 : Int32))))) (od + ((1 : Int32))) ((((1024 : Int64)) * r_3) + ((of + (Int32.toInt64 (if ((12 : Int32)) < r_1 then r_1 else ((12 : Int32))))) - (of + (Int32.toInt64 (if ((12 : Int32)) < r_1 then r_1 else ((12 : Int32))))) / ((1024 : Int64)) * ((1024 : Int64)))) r_5 tk kn li pa ins cm fd hr) := hD
  cases hf
  exact hret _ _ _ _ hP hD hS d_E_advance_83
set_option maxHeartbeats 4000000 in
set_option maxRecDepth 100000 in
theorem c_E_isItem {l : Launch} {dC : Nat → ClassId} {dI : Nat → Nat → Nat} {h : Nat → Nat} {cI : ClassId} {cL : ClassId} {NW : Nat} {bk : Int32} {sz : Int32} {wd : Nat → Int64} {mb : Nat → Int32} {gB : Int32} {gI : Int32} {gN : Int32} {iN : Int32} {dr : Int32} {es : Int64} {of : Int64} {od : Int32} {pl : Int64} {hd : Int64} {tk : Nat → Int32} {kn : Nat → Int32} {li : Nat → Int32} {pa : Nat → Int32} {ins : Nat → Int32} {cm : Int32} {fd : Int32} {hr : Int32} {hs : Nat} {r : Int32} (hf : f_E_isItem NW od hd = some (r)) : Met l y_E_isItem ws_E_isItem { frames := 0, cells := 0, slots := 0, locals := 0 } (PcU (dC, dI) clAll [(cI, .int), (cL, .long)] (wC h cI cL NW bk sz wd mb gB gI gN iN dr es of od pl hd tk kn li pa ins cm fd hr) hs [.ref (h 5)]) (QUi (dC, dI) clAll [(cI, .int), (cL, .long)] (wC h cI cL NW bk sz wd mb gB gI gN iN dr es of od pl hd tk kn li pa ins cm fd hr) (wC h cI cL NW bk sz wd mb gB gI gN iN dr es of od pl hd tk kn li pa ins cm fd hr) hs r) 0 0 (va_A (wC h cI cL NW bk sz wd mb gB gI gN iN dr es of od pl hd tk kn li pa ins cm fd hr) hs) := by
  refine mUz (cc := b_E_isItem) (maxL := 1) (by decide) rfl (Nat.le_of_ble_eq_true rfl) ?_
  intro p e s m args below meth c Q hx hb hml hts hown A hA hK hP hD hS hret ls hl
  have htb : ∀ w ∈ TB, w.before args s = true := fun w h => hts w (List.mem_cons_of_mem _ h)
  have hl : lv_has ls 1 [(0, .ref (h 5))] := hl
  unfold f_E_isItem at hf
  refine lv_aload_n hx hb d_E_isItem_0 rfl (lv_at hl 0 rfl) ?_
  refine va_get (D := (dC, dI)) (ci := 1) (v := .int od) (C := R_E) (T := T_E) (N := 8) hx hb htb in_E hown hK hP 5 rfl rfl 5 (by decide) (htb _ tw_150) (fun _ h9 => h9) rfl d_E_isItem_1 ?_
  refine lv_iconst (v := 2) hx hb d_E_isItem_4 (by decide) ?_
  refine lv_icmp_lt (tgt := 25) hx hb d_E_isItem_5 (by decide) (fun c_1 => ?_) (fun c_1 => ?_)
  · have hf := ite_t c_1 hf
    refine lv_iconst (v := 0) hx hb d_E_isItem_25 (by decide) ?_
    cases hf
    exact hret _ _ _ _ (Or.inl rfl) hP hD hS d_E_isItem_26
  · have hf := ite_f c_1 hf
    refine lv_aload_n hx hb d_E_isItem_8 rfl (lv_at hl 0 rfl) ?_
    refine va_get (D := (dC, dI)) (ci := 1) (v := .long hd) (C := R_E) (T := T_E) (N := 8) hx hb htb in_E hown hK hP 5 rfl rfl 7 (by decide) (htb _ tw_152) (fun _ h9 => h9) rfl d_E_isItem_9 ?_
    refine lv_ldc2 (v := 4294967295) hx hb hown (htb _ tw_459) d_E_isItem_12 ?_
    refine lv_land hx hb d_E_isItem_15 ?_
    refine lv_lconst (v := 0) hx hb d_E_isItem_16 (by decide) ?_
    refine lc_eq (tgt := 25) hx hb d_E_isItem_17 d_E_isItem_18 (by decide) (fun c_2 => ?_) (fun c_2 => ?_)
    · have hf := ite_t c_2 hf
      refine lv_iconst (v := 0) hx hb d_E_isItem_25 (by decide) ?_
      cases hf
      exact hret _ _ _ _ (Or.inl rfl) hP hD hS d_E_isItem_26
    · have hf := ite_f c_2 hf
      refine lv_iconst (v := 1) hx hb d_E_isItem_21 (by decide) ?_
      refine lv_goto (tgt := 26) hx hb d_E_isItem_22 (by decide) ?_
      cases hf
      exact hret _ _ _ _ (Or.inr rfl) hP hD hS d_E_isItem_26
set_option maxHeartbeats 4000000 in
set_option maxRecDepth 100000 in
theorem c_E_nameByte {l : Launch} {dC : Nat → ClassId} {dI : Nat → Nat → Nat} {h : Nat → Nat} {cI : ClassId} {cL : ClassId} {NW : Nat} {bk : Int32} {sz : Int32} {wd : Nat → Int64} {mb : Nat → Int32} {gB : Int32} {gI : Int32} {gN : Int32} {iN : Int32} {dr : Int32} {es : Int64} {of : Int64} {od : Int32} {pl : Int64} {hd : Int64} {tk : Nat → Int32} {kn : Nat → Int32} {li : Nat → Int32} {pa : Nat → Int32} {ins : Nat → Int32} {cm : Int32} {fd : Int32} {hr : Int32} {hs : Nat} {a1 : Int32} {r : Int32} (hf : f_E_nameByte NW sz wd pl a1 = some (r)) : Met l y_E_nameByte ws_E_nameByte { frames := 1, cells := 0, slots := 0, locals := 27 } (PcU (dC, dI) clAll [(cI, .int), (cL, .long)] (wC h cI cL NW bk sz wd mb gB gI gN iN dr es of od pl hd tk kn li pa ins cm fd hr) hs [.ref (h 5), .int a1]) (QUi (dC, dI) clAll [(cI, .int), (cL, .long)] (wC h cI cL NW bk sz wd mb gB gI gN iN dr es of od pl hd tk kn li pa ins cm fd hr) (wC h cI cL NW bk sz wd mb gB gI gN iN dr es of od pl hd tk kn li pa ins cm fd hr) hs r) 0 0 (va_A (wC h cI cL NW bk sz wd mb gB gI gN iN dr es of od pl hd tk kn li pa ins cm fd hr) hs) := by
  refine mUi (cc := b_E_nameByte) (maxL := 2) (by decide) rfl (Nat.le_of_ble_eq_true rfl) ?_
  intro p e s m args below meth c Q hx hb hml hts hown A hA hK hP hD hS hret ls hl
  have htb : ∀ w ∈ TB, w.before args s = true := fun w h => hts w (List.mem_cons_of_mem _ h)
  have hl : lv_has ls 2 [(0, .ref (h 5)), (1, .int a1)] := hl
  unfold f_E_nameByte at hf
  refine lv_aload_n hx hb d_E_nameByte_0 rfl (lv_at hl 0 rfl) ?_
  refine va_get (D := (dC, dI)) (ci := 1) (v := .ref (h 1)) (C := R_E) (T := T_E) (N := 8) hx hb htb in_E hown hK hP 5 rfl rfl 0 (by decide) (htb _ tw_145) (fun _ h9 => h9) rfl d_E_nameByte_1 ?_
  refine lv_aload_n hx hb d_E_nameByte_4 rfl (lv_at hl 0 rfl) ?_
  refine va_get (D := (dC, dI)) (ci := 1) (v := .long pl) (C := R_E) (T := T_E) (N := 8) hx hb htb in_E hown hK hP 5 rfl rfl 6 (by decide) (htb _ tw_151) (fun _ h9 => h9) rfl d_E_nameByte_5 ?_
  refine lv_ldc2 (v := 8) hx hb hown (htb _ tw_480) d_E_nameByte_8 ?_
  refine lv_ladd hx hb d_E_nameByte_11 ?_
  refine lv_iload_n hx hb d_E_nameByte_12 rfl (lv_at hl 1 rfl) ?_
  refine lv_i2l hx hb d_E_nameByte_13 rfl ?_
  refine lv_ladd hx hb d_E_nameByte_14 ?_
  refine lv_iconst (v := 1) hx hb d_E_nameByte_15 (by decide) ?_
  obtain ⟨r_1, hc_2, hf⟩ := bd1_s hf
  refine ucVl (As := [.long ((pl + ((8 : Int64))) + (Int32.toInt64 a1)), .int ((1 : Int32))]) (rest := []) ⟨hx, hb, hml, hown, htb⟩ hK hP hD hS hA (fun hs => c_D_number hc_2) (cwV 2 htb (gV tw_440 tw_264 tw_265 tw_69 tw_266) rfl rfl rfl (by decide +kernel) ⟨Nat.le_of_ble_eq_true rfl, Nat.le_of_ble_eq_true rfl⟩) 1 0 rfl rfl rfl rfl rfl hl.1 (Nat.le_of_ble_eq_true rfl) d_E_nameByte_16 ⟨Nat.zero_le _, Nat.zero_le _⟩ (fun H locs hP hD hS => ?_)
  refine lv_l2i hx hb d_E_nameByte_19 rfl ?_
  cases hf
  exact hret _ _ _ _ hP hD hS d_E_nameByte_20
