set_option maxHeartbeats 4000000 in
set_option maxRecDepth 100000 in
theorem c_V_beginAgain {l : Launch} {dC : Nat → ClassId} {dI : Nat → Nat → Nat} {h : Nat → Nat} {cI : ClassId} {cL : ClassId} {NW : Nat} {bk : Int32} {sz : Int32} {wd : Nat → Int64} {mb : Nat → Int32} {gB : Int32} {gI : Int32} {gN : Int32} {iN : Int32} {dr : Int32} {es : Int64} {of : Int64} {od : Int32} {pl : Int64} {hd : Int64} {tk : Nat → Int32} {kn : Nat → Int32} {li : Nat → Int32} {pa : Nat → Int32} {ins : Nat → Int32} {cm : Int32} {fd : Int32} {hr : Int32} {hs : Nat} {fd' : Int32} {hr' : Int32} (hf : f_V_beginAgain NW fd hr = some (fd', hr')) : Met l y_V_beginAgain ws_V_beginAgain { frames := 1, cells := 0, slots := 0, locals := 20 } (PcU (dC, dI) clAll [(cI, .int), (cL, .long)] (wC h cI cL NW bk sz wd mb gB gI gN iN dr es of od pl hd tk kn li pa ins cm fd hr) hs [.ref (h 0)]) (QUv (dC, dI) clAll [(cI, .int), (cL, .long)] (wC h cI cL NW bk sz wd mb gB gI gN iN dr es of od pl hd tk kn li pa ins cm fd hr) (wC h cI cL NW bk sz wd mb gB gI gN iN dr es of od pl hd tk kn li pa ins cm fd' hr') hs) 0 0 (va_A (wC h cI cL NW bk sz wd mb gB gI gN iN dr es of od pl hd tk kn li pa ins cm fd hr) hs) := by
  refine mUv (cc := b_V_beginAgain) (maxL := 1) (by decide) rfl (Nat.le_of_ble_eq_true rfl) ?_
  intro p e s m args below meth c Q hx hb hml hts hown A hA hK hP hD hS hret ls hl
  have htb : ∀ w ∈ TB, w.before args s = true := fun w h => hts w (List.mem_cons_of_mem _ h)
  have hl : lv_has ls 1 [(0, .ref (h 0))] := hl
  unfold f_V_beginAgain at hf
  refine lv_aload_n hx hb d_V_beginAgain_0 rfl (lv_at hl 0 rfl) ?_
  refine va_get (D := (dC, dI)) (ci := 4) (v := .ref (h 6)) (C := R_V) (T := T_V) (N := 5) hx hb htb in_V hown hK hP 0 rfl rfl 3 (by decide) (htb _ tw_210) (fun _ h9 => h9) rfl d_V_beginAgain_1 ?_
  obtain ⟨fd_1, hc_2, hf⟩ := bd1_s hf
  refine ucVv (As := []) (rest := []) ⟨hx, hb, hml, hown, htb⟩ hK hP hD hS hA (fun hs => c_S_forget hc_2) (cwV 0 htb (gV tw_241 tw_242 tw_243 tw_73 tw_244) rfl rfl rfl (by decide +kernel) ⟨Nat.le_of_ble_eq_true rfl, Nat.le_of_ble_eq_true rfl⟩) 6 3 rfl rfl rfl rfl rfl hl.1 (Nat.le_of_ble_eq_true rfl) d_V_beginAgain_4 ⟨Nat.zero_le _, Nat.zero_le _⟩ (fun H locs hP hD hS => ?_)
  refine lv_aload_n hx hb d_V_beginAgain_7 rfl (lv_at hl 0 rfl) ?_
  refine lv_iconst (v := 2) hx hb d_V_beginAgain_8 (by decide) ?_
  refine va_put (D := (dC, dI)) (ci := 4) (v := .int ((2 : Int32))) (ty := .int) (C := R_V) (T := T_V) (N := 5) hx hb htb in_V ty_V tyok_V nm_V hown hK hP hD hS 0 rfl rfl 4 (by decide) (htb _ tw_211) (fun _ h9 => h9) rfl (by decide +kernel) rfl rfl (Nat.le_of_ble_eq_true rfl) d_V_beginAgain_9 (fun H locs hP hD hS => ?_)
  have hP : va_P (dC, dI) clAll (wC h cI cL NW bk sz wd mb gB gI gN iN dr es of od pl hd tk kn li pa ins cm fd_1 ((2 : Int32))) H := hP
  have hD : va_D A (wC h cI cL NW bk sz wd mb gB gI gN iN dr es of od pl hd tk kn li pa ins cm fd_1 ((2 : Int32))) := hD
  cases hf
  exact hret _ _ _ _ hP hD hS d_V_beginAgain_12
set_option maxHeartbeats 4000000 in
set_option maxRecDepth 100000 in
theorem c_V_put {l : Launch} {dC : Nat → ClassId} {dI : Nat → Nat → Nat} {h : Nat → Nat} {cI : ClassId} {cL : ClassId} {NW : Nat} {bk : Int32} {sz : Int32} {wd : Nat → Int64} {mb : Nat → Int32} {gB : Int32} {gI : Int32} {gN : Int32} {iN : Int32} {dr : Int32} {es : Int64} {of : Int64} {od : Int32} {pl : Int64} {hd : Int64} {tk : Nat → Int32} {kn : Nat → Int32} {li : Nat → Int32} {pa : Nat → Int32} {ins : Nat → Int32} {cm : Int32} {fd : Int32} {hr : Int32} {hs : Nat} {a1 : Int32} {a2 : Int32} {a3 : Int64} {r : Int32} {wd' : Nat → Int64} {fd' : Int32} {hr' : Int32} (hf : f_V_put NW sz wd fd hr a1 a2 a3 = some (r, wd', fd', hr')) : Met l y_V_put ws_V_put { frames := 2, cells := 0, slots := 0, locals := 40 } (PcU (dC, dI) clAll [(cI, .int), (cL, .long)] (wC h cI cL NW bk sz wd mb gB gI gN iN dr es of od pl hd tk kn li pa ins cm fd hr) hs [.ref (h 0), .int a1, .int a2, .long a3]) (QUi (dC, dI) clAll [(cI, .int), (cL, .long)] (wC h cI cL NW bk sz wd mb gB gI gN iN dr es of od pl hd tk kn li pa ins cm fd hr) (wC h cI cL NW bk sz wd' mb gB gI gN iN dr es of od pl hd tk kn li pa ins cm fd' hr') hs r) 0 0 (va_A (wC h cI cL NW bk sz wd mb gB gI gN iN dr es of od pl hd tk kn li pa ins cm fd hr) hs) := by
  refine mUz (cc := b_V_put) (maxL := 5) (by decide) rfl (Nat.le_of_ble_eq_true rfl) ?_
  intro p e s m args below meth c Q hx hb hml hts hown A hA hK hP hD hS hret ls hl
  have htb : ∀ w ∈ TB, w.before args s = true := fun w h => hts w (List.mem_cons_of_mem _ h)
  have hl : lv_has ls 5 [(0, .ref (h 0)), (1, .int a1), (2, .int a2), (3, .long a3)] := hl
  unfold f_V_put at hf
  refine lv_iload_n hx hb d_V_put_0 rfl (lv_at hl 2 rfl) ?_
  refine lv_iconst (v := 1) hx hb d_V_put_1 (by decide) ?_
  refine lv_icmp_lt (tgt := 24) hx hb d_V_put_2 (by decide) (fun c_1 => ?_) (fun c_1 => ?_)
  · have hf := ite_t c_1 hf
    refine lv_iconst (v := 0) hx hb d_V_put_24 (by decide) ?_
    cases hf
    exact hret _ _ _ _ (Or.inl rfl) hP hD hS d_V_put_25
  · have hf := ite_f c_1 hf
    refine lv_iload_n hx hb d_V_put_5 rfl (lv_at hl 2 rfl) ?_
    refine lv_bipush (v := 8) hx hb d_V_put_6 (by decide) ?_
    refine lv_icmp_gt (tgt := 24) hx hb d_V_put_8 (by decide) (fun c_2 => ?_) (fun c_2 => ?_)
    · have hf := ite_t c_2 hf
      refine lv_iconst (v := 0) hx hb d_V_put_24 (by decide) ?_
      cases hf
      exact hret _ _ _ _ (Or.inl rfl) hP hD hS d_V_put_25
    · have hf := ite_f c_2 hf
      refine lv_aload_n hx hb d_V_put_11 rfl (lv_at hl 0 rfl) ?_
      refine va_get (D := (dC, dI)) (ci := 4) (v := .ref (h 1)) (C := R_V) (T := T_V) (N := 5) hx hb htb in_V hown hK hP 0 rfl rfl 0 (by decide) (htb _ tw_207) (fun _ h9 => h9) rfl d_V_put_12 ?_
      refine lv_iload_n hx hb d_V_put_15 rfl (lv_at hl 1 rfl) ?_
      refine lv_i2l hx hb d_V_put_16 rfl ?_
      refine lv_iload_n hx hb d_V_put_17 rfl (lv_at hl 2 rfl) ?_
      obtain ⟨r_3, hc_4, hf⟩ := bd1_s hf
      refine ucVi (As := [.long (Int32.toInt64 a1), .int a2]) (rest := []) ⟨hx, hb, hml, hown, htb⟩ hK hP hD hS hA (fun hs => c_D_holds hc_4) (cwV 2 htb (gV tw_227 tw_228 tw_229 tw_69 tw_230) rfl rfl rfl (by decide +kernel) ⟨Nat.le_of_ble_eq_true rfl, Nat.le_of_ble_eq_true rfl⟩) 1 0 rfl rfl rfl rfl rfl hl.1 (Nat.le_of_ble_eq_true rfl) d_V_put_18 ⟨Nat.zero_le _, Nat.zero_le _⟩ (fun H locs hP hD hS => ?_)
      refine lv_if_ne (tgt := 26) hx hb d_V_put_21 (by decide) (fun c_5 => ?_) (fun c_5 => ?_)
      · have hf := ite_f c_5 hf
        refine lv_aload_n hx hb d_V_put_26 rfl (lv_at hl 0 rfl) ?_
        refine va_get (D := (dC, dI)) (ci := 4) (v := .ref (h 1)) (C := R_V) (T := T_V) (N := 5) hx hb htb in_V hown hK hP 0 rfl rfl 0 (by decide) (htb _ tw_207) (fun _ h9 => h9) rfl d_V_put_27 ?_
        refine lv_iload_n hx hb d_V_put_30 rfl (lv_at hl 1 rfl) ?_
        refine lv_i2l hx hb d_V_put_31 rfl ?_
        refine lv_iload_n hx hb d_V_put_32 rfl (lv_at hl 2 rfl) ?_
        refine lv_lload_n hx hb d_V_put_33 rfl (lv_at hl 3 rfl) ?_
        obtain ⟨wd_6, hc_7, hf⟩ := bd1_s hf
        refine ucVv (As := [.long (Int32.toInt64 a1), .int a2, .long a3]) (rest := []) ⟨hx, hb, hml, hown, htb⟩ hK hP hD hS hA (fun hs => c_D_set hc_7) (cwV 3 htb (gV tw_231 tw_232 tw_233 tw_69 tw_234) rfl rfl rfl (by decide +kernel) ⟨Nat.le_of_ble_eq_true rfl, Nat.le_of_ble_eq_true rfl⟩) 1 0 rfl rfl rfl rfl rfl hl.1 (Nat.le_of_ble_eq_true rfl) d_V_put_34 ⟨Nat.zero_le _, Nat.zero_le _⟩ (fun H locs hP hD hS => ?_)
        refine lv_aload_n hx hb d_V_put_37 rfl (lv_at hl 0 rfl) ?_
        obtain ⟨fd_8, hr_9, hc_10, hf⟩ := bd2_s hf
        refine ucVv (As := []) (rest := []) ⟨hx, hb, hml, hown, htb⟩ hK hP hD hS hA (fun hs => c_V_beginAgain hc_10) (cwV 0 htb (gV tw_237 tw_239 tw_0 tw_68 tw_240) rfl rfl rfl (by decide +kernel) ⟨Nat.le_of_ble_eq_true rfl, Nat.le_of_ble_eq_true rfl⟩) 0 4 rfl rfl rfl rfl rfl hl.1 (Nat.le_of_ble_eq_true rfl) d_V_put_38 ⟨Nat.zero_le _, Nat.zero_le _⟩ (fun H locs hP hD hS => ?_)
        refine lv_iconst (v := 1) hx hb d_V_put_41 (by decide) ?_
        cases hf
        exact hret _ _ _ _ (Or.inr rfl) hP hD hS d_V_put_42
      · have hf := ite_t c_5 hf
        refine lv_iconst (v := 0) hx hb d_V_put_24 (by decide) ?_
        cases hf
        exact hret _ _ _ _ (Or.inl rfl) hP hD hS d_V_put_25
set_option maxHeartbeats 4000000 in
set_option maxRecDepth 100000 in
theorem c_V_fill {l : Launch} {dC : Nat → ClassId} {dI : Nat → Nat → Nat} {N : Nat} {h : Nat → Nat} {cI : ClassId} {cL : ClassId} {NW : Nat} {bk : Int32} {sz : Int32} {wd : Nat → Int64} {mb : Nat → Int32} {gB : Int32} {gI : Int32} {gN : Int32} {iN : Int32} {dr : Int32} {es : Int64} {of : Int64} {od : Int32} {pl : Int64} {hd : Int64} {tk : Nat → Int32} {kn : Nat → Int32} {li : Nat → Int32} {pa : Nat → Int32} {ins : Nat → Int32} {cm : Int32} {fd : Int32} {hr : Int32} {hs : Nat} {a1 : Int32} {a2 : Int32} {a3 : Int32} {r : Int32} {wd' : Nat → Int64} {fd' : Int32} {hr' : Int32} (hf : f_V_fill N NW sz wd fd hr a1 a2 a3 = some (r, wd', fd', hr')) : Met l y_V_fill ws_V_fill { frames := 2, cells := 0, slots := 0, locals := 57 } (PcU (dC, dI) clAll [(cI, .int), (cL, .long)] (wC h cI cL NW bk sz wd mb gB gI gN iN dr es of od pl hd tk kn li pa ins cm fd hr) hs [.ref (h 0), .int a1, .int a2, .int a3]) (QUi (dC, dI) clAll [(cI, .int), (cL, .long)] (wC h cI cL NW bk sz wd mb gB gI gN iN dr es of od pl hd tk kn li pa ins cm fd hr) (wC h cI cL NW bk sz wd' mb gB gI gN iN dr es of od pl hd tk kn li pa ins cm fd' hr') hs r) 0 0 (va_A (wC h cI cL NW bk sz wd mb gB gI gN iN dr es of od pl hd tk kn li pa ins cm fd hr) hs) := by
  refine mUz (cc := b_V_fill) (maxL := 4) (by decide) rfl (Nat.le_of_ble_eq_true rfl) ?_
  intro p e s m args below meth c Q hx hb hml hts hown A hA hK hP hD hS hret ls hl
  have htb : ∀ w ∈ TB, w.before args s = true := fun w h => hts w (List.mem_cons_of_mem _ h)
  have hl : lv_has ls 4 [(0, .ref (h 0)), (1, .int a1), (2, .int a2), (3, .int a3)] := hl
  unfold f_V_fill at hf
  refine lv_aload_n hx hb d_V_fill_0 rfl (lv_at hl 0 rfl) ?_
  refine va_get (D := (dC, dI)) (ci := 4) (v := .ref (h 1)) (C := R_V) (T := T_V) (N := 5) hx hb htb in_V hown hK hP 0 rfl rfl 0 (by decide) (htb _ tw_207) (fun _ h9 => h9) rfl d_V_fill_1 ?_
  refine lv_iload_n hx hb d_V_fill_4 rfl (lv_at hl 1 rfl) ?_
  refine lv_i2l hx hb d_V_fill_5 rfl ?_
  refine lv_iload_n hx hb d_V_fill_6 rfl (lv_at hl 2 rfl) ?_
  obtain ⟨r_1, hc_2, hf⟩ := bd1_s hf
  refine ucVi (As := [.long (Int32.toInt64 a1), .int a2]) (rest := []) ⟨hx, hb, hml, hown, htb⟩ hK hP hD hS hA (fun hs => c_D_holds hc_2) (cwV 2 htb (gV tw_227 tw_228 tw_229 tw_69 tw_230) rfl rfl rfl (by decide +kernel) ⟨Nat.le_of_ble_eq_true rfl, Nat.le_of_ble_eq_true rfl⟩) 1 0 rfl rfl rfl rfl rfl hl.1 (Nat.le_of_ble_eq_true rfl) d_V_fill_7 ⟨Nat.zero_le _, Nat.zero_le _⟩ (fun H locs hP hD hS => ?_)
  refine lv_if_ne (tgt := 15) hx hb d_V_fill_10 (by decide) (fun c_3 => ?_) (fun c_3 => ?_)
  · have hf := ite_f c_3 hf
    refine lv_aload_n hx hb d_V_fill_15 rfl (lv_at hl 0 rfl) ?_
    refine va_get (D := (dC, dI)) (ci := 4) (v := .ref (h 1)) (C := R_V) (T := T_V) (N := 5) hx hb htb in_V hown hK hP 0 rfl rfl 0 (by decide) (htb _ tw_207) (fun _ h9 => h9) rfl d_V_fill_16 ?_
    refine lv_iload_n hx hb d_V_fill_19 rfl (lv_at hl 1 rfl) ?_
    refine lv_iload_n hx hb d_V_fill_20 rfl (lv_at hl 2 rfl) ?_
    refine lv_iload_n hx hb d_V_fill_21 rfl (lv_at hl 3 rfl) ?_
    obtain ⟨wd_4, hc_5, hf⟩ := bd1_s hf
    refine ucVv (As := [.int a1, .int a2, .int a3]) (rest := []) ⟨hx, hb, hml, hown, htb⟩ hK hP hD hS hA (fun hs => c_D_spread hc_5) (cwV 3 htb (gV tw_249 tw_250 tw_251 tw_69 tw_252) rfl rfl rfl (by decide +kernel) ⟨Nat.le_of_ble_eq_true rfl, Nat.le_of_ble_eq_true rfl⟩) 1 0 rfl rfl rfl rfl rfl hl.1 (Nat.le_of_ble_eq_true rfl) d_V_fill_22 ⟨Nat.zero_le _, Nat.zero_le _⟩ (fun H locs hP hD hS => ?_)
    refine lv_aload_n hx hb d_V_fill_25 rfl (lv_at hl 0 rfl) ?_
    obtain ⟨fd_6, hr_7, hc_8, hf⟩ := bd2_s hf
    refine ucVv (As := []) (rest := []) ⟨hx, hb, hml, hown, htb⟩ hK hP hD hS hA (fun hs => c_V_beginAgain hc_8) (cwV 0 htb (gV tw_237 tw_239 tw_0 tw_68 tw_240) rfl rfl rfl (by decide +kernel) ⟨Nat.le_of_ble_eq_true rfl, Nat.le_of_ble_eq_true rfl⟩) 0 4 rfl rfl rfl rfl rfl hl.1 (Nat.le_of_ble_eq_true rfl) d_V_fill_26 ⟨Nat.zero_le _, Nat.zero_le _⟩ (fun H locs hP hD hS => ?_)
    refine lv_iconst (v := 1) hx hb d_V_fill_29 (by decide) ?_
    cases hf
    exact hret _ _ _ _ (Or.inr rfl) hP hD hS d_V_fill_30
  · have hf := ite_t c_3 hf
    refine lv_iconst (v := 0) hx hb d_V_fill_13 (by decide) ?_
    cases hf
    exact hret _ _ _ _ (Or.inl rfl) hP hD hS d_V_fill_14
set_option maxHeartbeats 4000000 in
set_option maxRecDepth 100000 in
theorem c_V_copy {l : Launch} {dC : Nat → ClassId} {dI : Nat → Nat → Nat} {N : Nat} {h : Nat → Nat} {cI : ClassId} {cL : ClassId} {NW : Nat} {bk : Int32} {sz : Int32} {wd : Nat → Int64} {mb : Nat → Int32} {gB : Int32} {gI : Int32} {gN : Int32} {iN : Int32} {dr : Int32} {es : Int64} {of : Int64} {od : Int32} {pl : Int64} {hd : Int64} {tk : Nat → Int32} {kn : Nat → Int32} {li : Nat → Int32} {pa : Nat → Int32} {ins : Nat → Int32} {cm : Int32} {fd : Int32} {hr : Int32} {hs : Nat} {a1 : Int32} {a2 : Int32} {a3 : Int32} {r : Int32} {wd' : Nat → Int64} {fd' : Int32} {hr' : Int32} (hf : f_V_copy N NW sz wd fd hr a1 a2 a3 = some (r, wd', fd', hr')) : Met l y_V_copy ws_V_copy { frames := 2, cells := 0, slots := 0, locals := 55 } (PcU (dC, dI) clAll [(cI, .int), (cL, .long)] (wC h cI cL NW bk sz wd mb gB gI gN iN dr es of od pl hd tk kn li pa ins cm fd hr) hs [.ref (h 0), .int a1, .int a2, .int a3]) (QUi (dC, dI) clAll [(cI, .int), (cL, .long)] (wC h cI cL NW bk sz wd mb gB gI gN iN dr es of od pl hd tk kn li pa ins cm fd hr) (wC h cI cL NW bk sz wd' mb gB gI gN iN dr es of od pl hd tk kn li pa ins cm fd' hr') hs r) 0 0 (va_A (wC h cI cL NW bk sz wd mb gB gI gN iN dr es of od pl hd tk kn li pa ins cm fd hr) hs) := by
  refine mUz (cc := b_V_copy) (maxL := 4) (by decide) rfl (Nat.le_of_ble_eq_true rfl) ?_
  intro p e s m args below meth c Q hx hb hml hts hown A hA hK hP hD hS hret ls hl
  have htb : ∀ w ∈ TB, w.before args s = true := fun w h => hts w (List.mem_cons_of_mem _ h)
  have hl : lv_has ls 4 [(0, .ref (h 0)), (1, .int a1), (2, .int a2), (3, .int a3)] := hl
  unfold f_V_copy at hf
  refine lv_aload_n hx hb d_V_copy_0 rfl (lv_at hl 0 rfl) ?_
  refine va_get (D := (dC, dI)) (ci := 4) (v := .ref (h 1)) (C := R_V) (T := T_V) (N := 5) hx hb htb in_V hown hK hP 0 rfl rfl 0 (by decide) (htb _ tw_207) (fun _ h9 => h9) rfl d_V_copy_1 ?_
  refine lv_iload_n hx hb d_V_copy_4 rfl (lv_at hl 1 rfl) ?_
  refine lv_i2l hx hb d_V_copy_5 rfl ?_
  refine lv_iload_n hx hb d_V_copy_6 rfl (lv_at hl 3 rfl) ?_
  obtain ⟨r_1, hc_2, hf⟩ := bd1_s hf
  refine ucVi (As := [.long (Int32.toInt64 a1), .int a3]) (rest := []) ⟨hx, hb, hml, hown, htb⟩ hK hP hD hS hA (fun hs => c_D_holds hc_2) (cwV 2 htb (gV tw_227 tw_228 tw_229 tw_69 tw_230) rfl rfl rfl (by decide +kernel) ⟨Nat.le_of_ble_eq_true rfl, Nat.le_of_ble_eq_true rfl⟩) 1 0 rfl rfl rfl rfl rfl hl.1 (Nat.le_of_ble_eq_true rfl) d_V_copy_7 ⟨Nat.zero_le _, Nat.zero_le _⟩ (fun H locs hP hD hS => ?_)
  refine lv_if_eq (tgt := 26) hx hb d_V_copy_10 (by decide) (fun c_3 => ?_) (fun c_3 => ?_)
  · have hf := ite_t c_3 hf
    refine lv_iconst (v := 0) hx hb d_V_copy_26 (by decide) ?_
    cases hf
    exact hret _ _ _ _ (Or.inl rfl) hP hD hS d_V_copy_27
  · have hf := ite_f c_3 hf
    refine lv_aload_n hx hb d_V_copy_13 rfl (lv_at hl 0 rfl) ?_
    refine va_get (D := (dC, dI)) (ci := 4) (v := .ref (h 1)) (C := R_V) (T := T_V) (N := 5) hx hb htb in_V hown hK hP 0 rfl rfl 0 (by decide) (htb _ tw_207) (fun _ h9 => h9) rfl d_V_copy_14 ?_
    refine lv_iload_n hx hb d_V_copy_17 rfl (lv_at hl 2 rfl) ?_
    refine lv_i2l hx hb d_V_copy_18 rfl ?_
    refine lv_iload_n hx hb d_V_copy_19 rfl (lv_at hl 3 rfl) ?_
    obtain ⟨r_4, hc_5, hf⟩ := bd1_s hf
    refine ucVi (As := [.long (Int32.toInt64 a2), .int a3]) (rest := []) ⟨hx, hb, hml, hown, htb⟩ hK hP hD hS hA (fun hs => c_D_holds hc_5) (cwV 2 htb (gV tw_227 tw_228 tw_229 tw_69 tw_230) rfl rfl rfl (by decide +kernel) ⟨Nat.le_of_ble_eq_true rfl, Nat.le_of_ble_eq_true rfl⟩) 1 0 rfl rfl rfl rfl rfl hl.1 (Nat.le_of_ble_eq_true rfl) d_V_copy_20 ⟨Nat.zero_le _, Nat.zero_le _⟩ (fun H locs hP hD hS => ?_)
    refine lv_if_ne (tgt := 28) hx hb d_V_copy_23 (by decide) (fun c_6 => ?_) (fun c_6 => ?_)
    · have hf := ite_f c_6 hf
      refine lv_aload_n hx hb d_V_copy_28 rfl (lv_at hl 0 rfl) ?_
      refine va_get (D := (dC, dI)) (ci := 4) (v := .ref (h 1)) (C := R_V) (T := T_V) (N := 5) hx hb htb in_V hown hK hP 0 rfl rfl 0 (by decide) (htb _ tw_207) (fun _ h9 => h9) rfl d_V_copy_29 ?_
      refine lv_iload_n hx hb d_V_copy_32 rfl (lv_at hl 1 rfl) ?_
      refine lv_iload_n hx hb d_V_copy_33 rfl (lv_at hl 2 rfl) ?_
      refine lv_iload_n hx hb d_V_copy_34 rfl (lv_at hl 3 rfl) ?_
      obtain ⟨wd_7, hc_8, hf⟩ := bd1_s hf
      refine ucVv (As := [.int a1, .int a2, .int a3]) (rest := []) ⟨hx, hb, hml, hown, htb⟩ hK hP hD hS hA (fun hs => c_D_move hc_8) (cwV 3 htb (gV tw_259 tw_260 tw_261 tw_69 tw_262) rfl rfl rfl (by decide +kernel) ⟨Nat.le_of_ble_eq_true rfl, Nat.le_of_ble_eq_true rfl⟩) 1 0 rfl rfl rfl rfl rfl hl.1 (Nat.le_of_ble_eq_true rfl) d_V_copy_35 ⟨Nat.zero_le _, Nat.zero_le _⟩ (fun H locs hP hD hS => ?_)
      refine lv_aload_n hx hb d_V_copy_38 rfl (lv_at hl 0 rfl) ?_
      obtain ⟨fd_9, hr_10, hc_11, hf⟩ := bd2_s hf
      refine ucVv (As := []) (rest := []) ⟨hx, hb, hml, hown, htb⟩ hK hP hD hS hA (fun hs => c_V_beginAgain hc_11) (cwV 0 htb (gV tw_237 tw_239 tw_0 tw_68 tw_240) rfl rfl rfl (by decide +kernel) ⟨Nat.le_of_ble_eq_true rfl, Nat.le_of_ble_eq_true rfl⟩) 0 4 rfl rfl rfl rfl rfl hl.1 (Nat.le_of_ble_eq_true rfl) d_V_copy_39 ⟨Nat.zero_le _, Nat.zero_le _⟩ (fun H locs hP hD hS => ?_)
      refine lv_iconst (v := 1) hx hb d_V_copy_42 (by decide) ?_
      cases hf
      exact hret _ _ _ _ (Or.inr rfl) hP hD hS d_V_copy_43
    · have hf := ite_t c_6 hf
      refine lv_iconst (v := 0) hx hb d_V_copy_26 (by decide) ?_
      cases hf
      exact hret _ _ _ _ (Or.inl rfl) hP hD hS d_V_copy_27
set_option maxHeartbeats 4000000 in
set_option maxRecDepth 100000 in
theorem c_V_byteAt {l : Launch} {dC : Nat → ClassId} {dI : Nat → Nat → Nat} {h : Nat → Nat} {cI : ClassId} {cL : ClassId} {NW : Nat} {bk : Int32} {sz : Int32} {wd : Nat → Int64} {mb : Nat → Int32} {gB : Int32} {gI : Int32} {gN : Int32} {iN : Int32} {dr : Int32} {es : Int64} {of : Int64} {od : Int32} {pl : Int64} {hd : Int64} {tk : Nat → Int32} {kn : Nat → Int32} {li : Nat → Int32} {pa : Nat → Int32} {ins : Nat → Int32} {cm : Int32} {fd : Int32} {hr : Int32} {hs : Nat} {a1 : Int32} {r : Int32} (hf : f_V_byteAt NW sz wd a1 = some (r)) : Met l y_V_byteAt ws_V_byteAt { frames := 1, cells := 0, slots := 0, locals := 27 } (PcU (dC, dI) clAll [(cI, .int), (cL, .long)] (wC h cI cL NW bk sz wd mb gB gI gN iN dr es of od pl hd tk kn li pa ins cm fd hr) hs [.ref (h 0), .int a1]) (QUi (dC, dI) clAll [(cI, .int), (cL, .long)] (wC h cI cL NW bk sz wd mb gB gI gN iN dr es of od pl hd tk kn li pa ins cm fd hr) (wC h cI cL NW bk sz wd mb gB gI gN iN dr es of od pl hd tk kn li pa ins cm fd hr) hs r) 0 0 (va_A (wC h cI cL NW bk sz wd mb gB gI gN iN dr es of od pl hd tk kn li pa ins cm fd hr) hs) := by
  refine mUi (cc := b_V_byteAt) (maxL := 2) (by decide) rfl (Nat.le_of_ble_eq_true rfl) ?_
  intro p e s m args below meth c Q hx hb hml hts hown A hA hK hP hD hS hret ls hl
  have htb : ∀ w ∈ TB, w.before args s = true := fun w h => hts w (List.mem_cons_of_mem _ h)
  have hl : lv_has ls 2 [(0, .ref (h 0)), (1, .int a1)] := hl
  unfold f_V_byteAt at hf
  refine lv_aload_n hx hb d_V_byteAt_0 rfl (lv_at hl 0 rfl) ?_
  refine va_get (D := (dC, dI)) (ci := 4) (v := .ref (h 1)) (C := R_V) (T := T_V) (N := 5) hx hb htb in_V hown hK hP 0 rfl rfl 0 (by decide) (htb _ tw_207) (fun _ h9 => h9) rfl d_V_byteAt_1 ?_
  refine lv_iload_n hx hb d_V_byteAt_4 rfl (lv_at hl 1 rfl) ?_
  refine lv_i2l hx hb d_V_byteAt_5 rfl ?_
  refine lv_iconst (v := 1) hx hb d_V_byteAt_6 (by decide) ?_
  obtain ⟨r_1, hc_2, hf⟩ := bd1_s hf
  refine ucVi (As := [.long (Int32.toInt64 a1), .int ((1 : Int32))]) (rest := []) ⟨hx, hb, hml, hown, htb⟩ hK hP hD hS hA (fun hs => c_D_holds hc_2) (cwV 2 htb (gV tw_227 tw_228 tw_229 tw_69 tw_230) rfl rfl rfl (by decide +kernel) ⟨Nat.le_of_ble_eq_true rfl, Nat.le_of_ble_eq_true rfl⟩) 1 0 rfl rfl rfl rfl rfl hl.1 (Nat.le_of_ble_eq_true rfl) d_V_byteAt_7 ⟨Nat.zero_le _, Nat.zero_le _⟩ (fun H locs hP hD hS => ?_)
  refine lv_if_eq (tgt := 27) hx hb d_V_byteAt_10 (by decide) (fun c_3 => ?_) (fun c_3 => ?_)
  · have hf := ite_t c_3 hf
    refine lv_iconst (v := -1) hx hb d_V_byteAt_27 (by decide) ?_
    cases hf
    exact hret _ _ _ _ hP hD hS d_V_byteAt_28
  · have hf := ite_f c_3 hf
    refine lv_aload_n hx hb d_V_byteAt_13 rfl (lv_at hl 0 rfl) ?_
    refine va_get (D := (dC, dI)) (ci := 4) (v := .ref (h 1)) (C := R_V) (T := T_V) (N := 5) hx hb htb in_V hown hK hP 0 rfl rfl 0 (by decide) (htb _ tw_207) (fun _ h9 => h9) rfl d_V_byteAt_14 ?_
    refine lv_iload_n hx hb d_V_byteAt_17 rfl (lv_at hl 1 rfl) ?_
    refine lv_i2l hx hb d_V_byteAt_18 rfl ?_
    refine lv_iconst (v := 1) hx hb d_V_byteAt_19 (by decide) ?_
    obtain ⟨r_4, hc_5, hf⟩ := bd1_s hf
    refine ucVl (As := [.long (Int32.toInt64 a1), .int ((1 : Int32))]) (rest := []) ⟨hx, hb, hml, hown, htb⟩ hK hP hD hS hA (fun hs => c_D_number hc_5) (cwV 2 htb (gV tw_271 tw_264 tw_265 tw_69 tw_266) rfl rfl rfl (by decide +kernel) ⟨Nat.le_of_ble_eq_true rfl, Nat.le_of_ble_eq_true rfl⟩) 1 0 rfl rfl rfl rfl rfl hl.1 (Nat.le_of_ble_eq_true rfl) d_V_byteAt_20 ⟨Nat.zero_le _, Nat.zero_le _⟩ (fun H locs hP hD hS => ?_)
    refine lv_l2i hx hb d_V_byteAt_23 rfl ?_
    refine lv_goto (tgt := 28) hx hb d_V_byteAt_24 (by decide) ?_
    cases hf
    exact hret _ _ _ _ hP hD hS d_V_byteAt_28
set_option maxHeartbeats 4000000 in
set_option maxRecDepth 100000 in
theorem c_V_fault {l : Launch} {dC : Nat → ClassId} {dI : Nat → Nat → Nat} {N : Nat} {h : Nat → Nat} {cI : ClassId} {cL : ClassId} {NW : Nat} {bk : Int32} {sz : Int32} {wd : Nat → Int64} {mb : Nat → Int32} {gB : Int32} {gI : Int32} {gN : Int32} {iN : Int32} {dr : Int32} {es : Int64} {of : Int64} {od : Int32} {pl : Int64} {hd : Int64} {tk : Nat → Int32} {kn : Nat → Int32} {li : Nat → Int32} {pa : Nat → Int32} {ins : Nat → Int32} {cm : Int32} {fd : Int32} {hr : Int32} {hs : Nat} {r : Int32} {mb' : Nat → Int32} {gB' : Int32} {gI' : Int32} {gN' : Int32} {iN' : Int32} {dr' : Int32} {es' : Int64} {of' : Int64} {od' : Int32} {pl' : Int64} {hd' : Int64} {tk' : Nat → Int32} {kn' : Nat → Int32} {li' : Nat → Int32} {pa' : Nat → Int32} {ins' : Nat → Int32} {cm' : Int32} {fd' : Int32} (hf : f_V_fault N NW bk sz wd mb gB gI gN iN dr es of od pl hd tk kn li pa ins cm fd = some (r, mb', gB', gI', gN', iN', dr', es', of', od', pl', hd', tk', kn', li', pa', ins', cm', fd')) : Met l y_V_fault ws_V_fault { frames := 6, cells := 0, slots := 0, locals := 150 } (PcU (dC, dI) clAll [(cI, .int), (cL, .long)] (wC h cI cL NW bk sz wd mb gB gI gN iN dr es of od pl hd tk kn li pa ins cm fd hr) hs [.ref (h 0)]) (QUi (dC, dI) clAll [(cI, .int), (cL, .long)] (wC h cI cL NW bk sz wd mb gB gI gN iN dr es of od pl hd tk kn li pa ins cm fd hr) (wC h cI cL NW bk sz wd mb' gB' gI' gN' iN' dr' es' of' od' pl' hd' tk' kn' li' pa' ins' cm' fd' hr) hs r) 0 0 (va_A (wC h cI cL NW bk sz wd mb gB gI gN iN dr es of od pl hd tk kn li pa ins cm fd hr) hs) := by
  refine mUi (cc := b_V_fault) (maxL := 1) (by decide) rfl (Nat.le_of_ble_eq_true rfl) ?_
  intro p e s m args below meth c Q hx hb hml hts hown A hA hK hP hD hS hret ls hl
  have htb : ∀ w ∈ TB, w.before args s = true := fun w h => hts w (List.mem_cons_of_mem _ h)
  have hl : lv_has ls 1 [(0, .ref (h 0))] := hl
  unfold f_V_fault at hf
  refine lv_aload_n hx hb d_V_fault_0 rfl (lv_at hl 0 rfl) ?_
  refine va_get (D := (dC, dI)) (ci := 4) (v := .ref (h 6)) (C := R_V) (T := T_V) (N := 5) hx hb htb in_V hown hK hP 0 rfl rfl 3 (by decide) (htb _ tw_210) (fun _ h9 => h9) rfl d_V_fault_1 ?_
  obtain ⟨r_1, mb_2, gB_3, gI_4, gN_5, iN_6, dr_7, es_8, of_9, od_10, pl_11, hd_12, tk_13, kn_14, li_15, pa_16, ins_17, cm_18, fd_19, hc_20, hf⟩ := bd19_s hf
  refine ucVi (As := []) (rest := []) ⟨hx, hb, hml, hown, htb⟩ hK hP hD hS hA (fun hs => c_S_firstFault hc_20) (cwV 0 htb (gV tw_276 tw_277 tw_278 tw_73 tw_279) rfl rfl rfl (by decide +kernel) ⟨Nat.le_of_ble_eq_true rfl, Nat.le_of_ble_eq_true rfl⟩) 6 3 rfl rfl rfl rfl rfl hl.1 (Nat.le_of_ble_eq_true rfl) d_V_fault_4 ⟨Nat.zero_le _, Nat.zero_le _⟩ (fun H locs hP hD hS => ?_)
  cases hf
  exact hret _ _ _ _ hP hD hS d_V_fault_7
set_option maxHeartbeats 4000000 in
set_option maxRecDepth 100000 in
theorem c_V_countItems {l : Launch} {dC : Nat → ClassId} {dI : Nat → Nat → Nat} {N : Nat} {h : Nat → Nat} {cI : ClassId} {cL : ClassId} {NW : Nat} {bk : Int32} {sz : Int32} {wd : Nat → Int64} {mb : Nat → Int32} {gB : Int32} {gI : Int32} {gN : Int32} {iN : Int32} {dr : Int32} {es : Int64} {of : Int64} {od : Int32} {pl : Int64} {hd : Int64} {tk : Nat → Int32} {kn : Nat → Int32} {li : Nat → Int32} {pa : Nat → Int32} {ins : Nat → Int32} {cm : Int32} {fd : Int32} {hr : Int32} {hs : Nat} {r : Int32} {dr' : Int32} {es' : Int64} {of' : Int64} {od' : Int32} {pl' : Int64} {hd' : Int64} (hf : f_V_countItems N NW sz wd mb gI dr es of od pl hd hr = some (r, dr', es', of', od', pl', hd')) : Met l y_V_countItems ws_V_countItems { frames := 3, cells := 0, slots := 0, locals := 77 } (PcU (dC, dI) clAll [(cI, .int), (cL, .long)] (wC h cI cL NW bk sz wd mb gB gI gN iN dr es of od pl hd tk kn li pa ins cm fd hr) hs [.ref (h 0)]) (QUi (dC, dI) clAll [(cI, .int), (cL, .long)] (wC h cI cL NW bk sz wd mb gB gI gN iN dr es of od pl hd tk kn li pa ins cm fd hr) (wC h cI cL NW bk sz wd mb gB gI gN iN dr' es' of' od' pl' hd' tk kn li pa ins cm fd hr) hs r) 0 0 (va_A (wC h cI cL NW bk sz wd mb gB gI gN iN dr es of od pl hd tk kn li pa ins cm fd hr) hs) := by
  refine mUi (cc := b_V_countItems) (maxL := 3) (by decide) rfl (Nat.le_of_ble_eq_true rfl) ?_
  intro p e s m args below meth c Q hx hb hml hts hown A hA hK hP hD hS hret ls hl
  have htb : ∀ w ∈ TB, w.before args s = true := fun w h => hts w (List.mem_cons_of_mem _ h)
  have hl : lv_has ls 3 [(0, .ref (h 0))] := hl
  have hj_15 : ∀ (k_15 : Nat) (dr : Int32) (es : Int64) (of : Int64) (od : Int32) (pl : Int64) (hd : Int64) (x1 : Int32) (x2 : Int32) (H : Heap) (locs : List Loc) (ls : Array Slot), f_V_countItems_15 N NW sz wd mb gI hr k_15 dr es of od pl hd x1 x2 = some (r, dr', es', of', od', pl', hd') → va_P (dC, dI) clAll (wC h cI cL NW bk sz wd mb gB gI gN iN dr es of od pl hd tk kn li pa ins cm fd hr) H → va_D A (wC h cI cL NW bk sz wd mb gB gI gN iN dr es of od pl hd tk kn li pa ins cm fd hr) → va_S A s.heap H locs → lv_has ls 3 [(0, .ref (h 0)), (1, .int x1), (2, .int x2)] → W p l e (headSpec ws_V_countItems { frames := 3, cells := 0, slots := 0, locals := 77 }).room s m args below meth c H locs 0 0 Q (F0 m 15 ls []) := by
    intro k_15
    induction k_15 with
    | zero => intro _ _ _ _ _ _ _ _ _ _ _ hf; exact absurd hf (by simp [f_V_countItems_15])
    | succ k_15 ih_15 =>
      have hj_44 : ∀ (dr : Int32) (es : Int64) (of : Int64) (od : Int32) (pl : Int64) (hd : Int64) (x1 : Int32) (x2 : Int32) (H : Heap) (locs : List Loc) (ls : Array Slot), f_V_countItems_44 N NW sz wd mb gI hr (f_V_countItems_15 N NW sz wd mb gI hr k_15) dr es of od pl hd x1 x2 = some (r, dr', es', of', od', pl', hd') → va_P (dC, dI) clAll (wC h cI cL NW bk sz wd mb gB gI gN iN dr es of od pl hd tk kn li pa ins cm fd hr) H → va_D A (wC h cI cL NW bk sz wd mb gB gI gN iN dr es of od pl hd tk kn li pa ins cm fd hr) → va_S A s.heap H locs → lv_has ls 3 [(0, .ref (h 0)), (1, .int x1), (2, .int x2)] → W p l e (headSpec ws_V_countItems { frames := 3, cells := 0, slots := 0, locals := 77 }).room s m args below meth c H locs 0 0 Q (F0 m 44 ls []) := by
        intro dr es of od pl hd x1 x2 H locs ls hf hP hD hS hl
        unfold f_V_countItems_44 at hf
        refine lv_aload_n hx hb d_V_countItems_44 rfl (lv_at hl 0 rfl) ?_
        refine va_get (D := (dC, dI)) (ci := 4) (v := .ref (h 5)) (C := R_V) (T := T_V) (N := 5) hx hb htb in_V hown hK hP 0 rfl rfl 2 (by decide) (htb _ tw_209) (fun _ h9 => h9) rfl d_V_countItems_45 ?_
        obtain ⟨of_1, od_2, pl_3, hd_4, hc_5, hf⟩ := bd4_s hf
        refine ucVv (As := []) (rest := []) ⟨hx, hb, hml, hown, htb⟩ hK hP hD hS hA (fun hs => c_E_advance hc_5) (cwV 0 htb (gV tw_667 tw_506 tw_507 tw_72 tw_508) rfl rfl rfl (by decide +kernel) ⟨Nat.le_of_ble_eq_true rfl, Nat.le_of_ble_eq_true rfl⟩) 5 1 rfl rfl rfl rfl rfl hl.1 (Nat.le_of_ble_eq_true rfl) d_V_countItems_48 ⟨Nat.zero_le _, Nat.zero_le _⟩ (fun H locs hP hD hS => ?_)
        obtain ⟨v2_6, ev2_6, hf⟩ := lt1_s hf
        refine lv_iinc (v := v2_6) (lv' := [(2, .int v2_6), (0, .ref (h 0)), (1, .int x1)]) hx hb d_V_countItems_51 hl (k := 2) rfl (by rw [← ev2_6]; rfl) (by decide) rfl (fun ls hl => ?_)
        refine lv_goto (tgt := 15) hx hb d_V_countItems_54 (by decide) ?_
        exact ih_15 dr es of_1 od_2 pl_3 hd_4 x1 v2_6 _ _ _ hf hP hD hS (lv_sub hl [1, 2, 0] rfl)
      intro dr es of od pl hd x1 x2 H locs ls hf hP hD hS hl
      rw [f_V_countItems_15] at hf
      refine lv_iload_n hx hb d_V_countItems_15 rfl (lv_at hl 2 rfl) ?_
      refine lv_ldc (v := 43691) hx hb hown (htb _ tw_664) d_V_countItems_16 ?_
      refine lv_icmp_ge (tgt := 57) hx hb d_V_countItems_18 (by decide) (fun c_1 => ?_) (fun c_1 => ?_)
      · have hf := ite_t c_1 hf
        refine lv_iload_n hx hb d_V_countItems_57 rfl (lv_at hl 1 rfl) ?_
        cases hf
        exact hret _ _ _ _ hP hD hS d_V_countItems_58
      · have hf := ite_f c_1 hf
        refine lv_aload_n hx hb d_V_countItems_21 rfl (lv_at hl 0 rfl) ?_
        refine va_get (D := (dC, dI)) (ci := 4) (v := .ref (h 5)) (C := R_V) (T := T_V) (N := 5) hx hb htb in_V hown hK hP 0 rfl rfl 2 (by decide) (htb _ tw_209) (fun _ h9 => h9) rfl d_V_countItems_22 ?_
        obtain ⟨r_2, hc_3, hf⟩ := bd1_s hf
        refine ucVi (As := []) (rest := []) ⟨hx, hb, hml, hown, htb⟩ hK hP hD hS hA (fun hs => c_E_isOn hc_3) (cwV 0 htb (gV tw_665 tw_443 tw_444 tw_72 tw_445) rfl rfl rfl (by decide +kernel) ⟨Nat.le_of_ble_eq_true rfl, Nat.le_of_ble_eq_true rfl⟩) 5 1 rfl rfl rfl rfl rfl hl.1 (Nat.le_of_ble_eq_true rfl) d_V_countItems_25 ⟨Nat.zero_le _, Nat.zero_le _⟩ (fun H locs hP hD hS => ?_)
        refine lv_if_eq (tgt := 57) hx hb d_V_countItems_28 (by decide) (fun c_4 => ?_) (fun c_4 => ?_)
        · have hf := ite_t c_4 hf
          refine lv_iload_n hx hb d_V_countItems_57 rfl (lv_at hl 1 rfl) ?_
          cases hf
          exact hret _ _ _ _ hP hD hS d_V_countItems_58
        · have hf := ite_f c_4 hf
          refine lv_aload_n hx hb d_V_countItems_31 rfl (lv_at hl 0 rfl) ?_
          refine va_get (D := (dC, dI)) (ci := 4) (v := .ref (h 5)) (C := R_V) (T := T_V) (N := 5) hx hb htb in_V hown hK hP 0 rfl rfl 2 (by decide) (htb _ tw_209) (fun _ h9 => h9) rfl d_V_countItems_32 ?_
          obtain ⟨r_5, hc_6, hf⟩ := bd1_s hf
          refine ucVi (As := []) (rest := []) ⟨hx, hb, hml, hown, htb⟩ hK hP hD hS hA (fun hs => c_E_isItem hc_6) (cwV 0 htb (gV tw_666 tw_515 tw_516 tw_72 tw_517) rfl rfl rfl (by decide +kernel) ⟨Nat.le_of_ble_eq_true rfl, Nat.le_of_ble_eq_true rfl⟩) 5 1 rfl rfl rfl rfl rfl hl.1 (Nat.le_of_ble_eq_true rfl) d_V_countItems_35 ⟨Nat.zero_le _, Nat.zero_le _⟩ (fun H locs hP hD hS => ?_)
          refine lv_if_eq (tgt := 44) hx hb d_V_countItems_38 (by decide) (fun c_7 => ?_) (fun c_7 => ?_)
          · have hf := ite_t c_7 hf
            exact hj_44 dr es of od pl hd x1 x2 _ _ _ hf hP hD hS (lv_sub hl [0, 1, 2] rfl)
          · have hf := ite_f c_7 hf
            obtain ⟨v1_8, ev1_8, hf⟩ := lt1_s hf
            refine lv_iinc (v := v1_8) (lv' := [(1, .int v1_8), (0, .ref (h 0)), (2, .int x2)]) hx hb d_V_countItems_41 hl (k := 1) rfl (by rw [← ev1_8]; rfl) (by decide) rfl (fun ls hl => ?_)
            exact hj_44 dr es of od pl hd v1_8 x2 _ _ _ hf hP hD hS (lv_sub hl [1, 0, 2] rfl)
  unfold f_V_countItems at hf
  refine lv_iconst (v := 0) hx hb d_V_countItems_0 (by decide) ?_
  refine lv_istore_n (lv' := [(1, .int ((0 : Int32))), (0, .ref (h 0))]) hx hb d_V_countItems_1 rfl hl (by decide) rfl (fun ls hl => ?_)
  refine lv_aload_n hx hb d_V_countItems_2 rfl (lv_at hl 1 rfl) ?_
  refine va_get (D := (dC, dI)) (ci := 4) (v := .ref (h 5)) (C := R_V) (T := T_V) (N := 5) hx hb htb in_V hown hK hP 0 rfl rfl 2 (by decide) (htb _ tw_209) (fun _ h9 => h9) rfl d_V_countItems_3 ?_
  refine lv_aload_n hx hb d_V_countItems_6 rfl (lv_at hl 1 rfl) ?_
  refine va_get (D := (dC, dI)) (ci := 4) (v := .int hr) (C := R_V) (T := T_V) (N := 5) hx hb htb in_V hown hK hP 0 rfl rfl 4 (by decide) (htb _ tw_211) (fun _ h9 => h9) rfl d_V_countItems_7 ?_
  obtain ⟨dr_1, es_2, of_3, od_4, pl_5, hd_6, hc_7, hf⟩ := bd6_s hf
  refine ucVv (As := [.int hr]) (rest := []) ⟨hx, hb, hml, hown, htb⟩ hK hP hD hS hA (fun hs => c_E_start hc_7) (cwV 1 htb (gV tw_663 tw_434 tw_435 tw_72 tw_436) rfl rfl rfl (by decide +kernel) ⟨Nat.le_of_ble_eq_true rfl, Nat.le_of_ble_eq_true rfl⟩) 5 1 rfl rfl rfl rfl rfl hl.1 (Nat.le_of_ble_eq_true rfl) d_V_countItems_10 ⟨Nat.zero_le _, Nat.zero_le _⟩ (fun H locs hP hD hS => ?_)
  refine lv_iconst (v := 0) hx hb d_V_countItems_13 (by decide) ?_
  refine lv_istore_n (lv' := [(2, .int ((0 : Int32))), (1, .int ((0 : Int32))), (0, .ref (h 0))]) hx hb d_V_countItems_14 rfl hl (by decide) rfl (fun ls hl => ?_)
  exact hj_15 N dr_1 es_2 of_3 od_4 pl_5 hd_6 ((0 : Int32)) ((0 : Int32)) _ _ _ hf hP hD hS (lv_sub hl [2, 1, 0] rfl)
set_option maxHeartbeats 4000000 in
set_option maxRecDepth 100000 in
theorem c_V_lastBlock {l : Launch} {dC : Nat → ClassId} {dI : Nat → Nat → Nat} {h : Nat → Nat} {cI : ClassId} {cL : ClassId} {NW : Nat} {bk : Int32} {sz : Int32} {wd : Nat → Int64} {mb : Nat → Int32} {gB : Int32} {gI : Int32} {gN : Int32} {iN : Int32} {dr : Int32} {es : Int64} {of : Int64} {od : Int32} {pl : Int64} {hd : Int64} {tk : Nat → Int32} {kn : Nat → Int32} {li : Nat → Int32} {pa : Nat → Int32} {ins : Nat → Int32} {cm : Int32} {fd : Int32} {hr : Int32} {hs : Nat} {a1 : Int32} {r : Int64} (hf : f_V_lastBlock NW sz wd mb gI a1 = some (r)) : Met l y_V_lastBlock ws_V_lastBlock { frames := 2, cells := 0, slots := 0, locals := 56 } (PcU (dC, dI) clAll [(cI, .int), (cL, .long)] (wC h cI cL NW bk sz wd mb gB gI gN iN dr es of od pl hd tk kn li pa ins cm fd hr) hs [.ref (h 0), .int a1]) (QUl (dC, dI) clAll [(cI, .int), (cL, .long)] (wC h cI cL NW bk sz wd mb gB gI gN iN dr es of od pl hd tk kn li pa ins cm fd hr) (wC h cI cL NW bk sz wd mb gB gI gN iN dr es of od pl hd tk kn li pa ins cm fd hr) hs r) 0 0 (va_A (wC h cI cL NW bk sz wd mb gB gI gN iN dr es of od pl hd tk kn li pa ins cm fd hr) hs) := by
  refine mUl (cc := b_V_lastBlock) (maxL := 3) (by decide) rfl (Nat.le_of_ble_eq_true rfl) ?_
  intro p e s m args below meth c Q hx hb hml hts hown A hA hK hP hD hS hret ls hl
  have htb : ∀ w ∈ TB, w.before args s = true := fun w h => hts w (List.mem_cons_of_mem _ h)
  have hl : lv_has ls 3 [(0, .ref (h 0)), (1, .int a1)] := hl
  unfold f_V_lastBlock at hf
  refine lv_aload_n hx hb d_V_lastBlock_0 rfl (lv_at hl 0 rfl) ?_
  refine va_get (D := (dC, dI)) (ci := 4) (v := .ref (h 3)) (C := R_V) (T := T_V) (N := 5) hx hb htb in_V hown hK hP 0 rfl rfl 1 (by decide) (htb _ tw_208) (fun _ h9 => h9) rfl d_V_lastBlock_1 ?_
  refine lv_aload_n hx hb d_V_lastBlock_4 rfl (lv_at hl 0 rfl) ?_
  refine va_get (D := (dC, dI)) (ci := 4) (v := .ref (h 3)) (C := R_V) (T := T_V) (N := 5) hx hb htb in_V hown hK hP 0 rfl rfl 1 (by decide) (htb _ tw_208) (fun _ h9 => h9) rfl d_V_lastBlock_5 ?_
  refine lv_iload_n hx hb d_V_lastBlock_8 rfl (lv_at hl 1 rfl) ?_
  obtain ⟨r_1, hc_2, hf⟩ := bd1_s hf
  refine ucVl (As := [.int a1]) (rest := [.ref (h 3)]) ⟨hx, hb, hml, hown, htb⟩ hK hP hD hS hA (fun hs => c_L_sizeOf hc_2) (cwV 1 htb (gV tw_712 tw_393 tw_394 tw_71 tw_395) rfl rfl rfl (by decide +kernel) ⟨Nat.le_of_ble_eq_true rfl, Nat.le_of_ble_eq_true rfl⟩) 3 2 rfl rfl rfl rfl rfl hl.1 (Nat.le_of_ble_eq_true rfl) d_V_lastBlock_9 ⟨Nat.zero_le _, Nat.zero_le _⟩ (fun H locs hP hD hS => ?_)
  obtain ⟨r_3, hc_4, hf⟩ := bd1_s hf
  refine ucVi (As := [.long r_1]) (rest := []) ⟨hx, hb, hml, hown, htb⟩ hK hP hD hS hA (fun hs => c_L_blocksFor hc_4) (cwV 1 htb (gV tw_718 tw_398 tw_399 tw_71 tw_400) rfl rfl rfl (by decide +kernel) ⟨Nat.le_of_ble_eq_true rfl, Nat.le_of_ble_eq_true rfl⟩) 3 2 rfl rfl rfl rfl rfl hl.1 (Nat.le_of_ble_eq_true rfl) d_V_lastBlock_12 ⟨Nat.zero_le _, Nat.zero_le _⟩ (fun H locs hP hD hS => ?_)
  refine lv_istore_n (lv' := [(2, .int r_3), (0, .ref (h 0)), (1, .int a1)]) hx hb d_V_lastBlock_15 rfl hl (by decide) rfl (fun ls hl => ?_)
  refine lv_iload_n hx hb d_V_lastBlock_16 rfl (lv_at hl 0 rfl) ?_
  refine lv_if_le (tgt := 34) hx hb d_V_lastBlock_17 (by decide) (fun c_5 => ?_) (fun c_5 => ?_)
  · have hf := ite_t c_5 hf
    refine lv_lconst (v := 0) hx hb d_V_lastBlock_34 (by decide) ?_
    cases hf
    exact hret _ _ _ _ hP hD hS d_V_lastBlock_35
  · have hf := ite_f c_5 hf
    refine lv_aload_n hx hb d_V_lastBlock_20 rfl (lv_at hl 1 rfl) ?_
    refine va_get (D := (dC, dI)) (ci := 4) (v := .ref (h 3)) (C := R_V) (T := T_V) (N := 5) hx hb htb in_V hown hK hP 0 rfl rfl 1 (by decide) (htb _ tw_208) (fun _ h9 => h9) rfl d_V_lastBlock_21 ?_
    refine lv_iload_n hx hb d_V_lastBlock_24 rfl (lv_at hl 2 rfl) ?_
    refine lv_iload_n hx hb d_V_lastBlock_25 rfl (lv_at hl 0 rfl) ?_
    refine lv_iconst (v := 1) hx hb d_V_lastBlock_26 (by decide) ?_
    refine lv_isub hx hb d_V_lastBlock_27 ?_
    obtain ⟨r_6, hc_7, hf⟩ := bd1_s hf
    refine ucVl (As := [.int a1, .int (r_3 - ((1 : Int32)))]) (rest := []) ⟨hx, hb, hml, hown, htb⟩ hK hP hD hS hA (fun hs => c_L_blockOf hc_7) (cwV 2 htb (gV tw_719 tw_419 tw_420 tw_71 tw_421) rfl rfl rfl (by decide +kernel) ⟨Nat.le_of_ble_eq_true rfl, Nat.le_of_ble_eq_true rfl⟩) 3 2 rfl rfl rfl rfl rfl hl.1 (Nat.le_of_ble_eq_true rfl) d_V_lastBlock_28 ⟨Nat.zero_le _, Nat.zero_le _⟩ (fun H locs hP hD hS => ?_)
    refine lv_goto (tgt := 35) hx hb d_V_lastBlock_31 (by decide) ?_
    cases hf
    exact hret _ _ _ _ hP hD hS d_V_lastBlock_35
