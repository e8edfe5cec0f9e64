set_option maxHeartbeats 4000000 in
set_option maxRecDepth 100000 in
theorem c0_V_items {l : Launch} {dC : Nat → ClassId} {dI : Nat → Nat → Nat} {N : Nat} {h : Nat → Nat} {cI : ClassId} {cL : ClassId} {NW : Nat} {bk : Int32} {sz : Int32} {wd : Nat → Int64} {mb : Nat → Int32} {gB : Int32} {gI : Int32} {gN : Int32} {iN : Int32} {dr : Int32} {es : Int64} {of : Int64} {od : Int32} {pl : Int64} {hd : Int64} {tk : Nat → Int32} {kn : Nat → Int32} {li : Nat → Int32} {pa : Nat → Int32} {ins : Nat → Int32} {cm : Int32} {fd : Int32} {hr : Int32} {hs : Nat} {r : Int32} {mb' : Nat → Int32} {gB' : Int32} {gI' : Int32} {gN' : Int32} {iN' : Int32} {dr' : Int32} {es' : Int64} {of' : Int64} {od' : Int32} {pl' : Int64} {hd' : Int64} {tk' : Nat → Int32} {kn' : Nat → Int32} {li' : Nat → Int32} {pa' : Nat → Int32} {ins' : Nat → Int32} {cm' : Int32} {fd' : Int32} (hf : f_V_items N NW bk sz wd mb gB gI gN iN dr es of od pl hd tk kn li pa ins cm fd hr = some (0, r, mb', gB', gI', gN', iN', dr', es', of', od', pl', hd', tk', kn', li', pa', ins', cm', fd')) : Met l y_V_items ws_V_items { frames := 6, cells := 0, slots := 0, locals := 150 } (PcU (dC, dI) clAll [(cI, .int), (cL, .long)] (wC h cI cL NW bk sz wd mb gB gI gN iN dr es of od pl hd tk kn li pa ins cm fd hr) hs [.ref (h 0)]) (QUi (dC, dI) clAll [(cI, .int), (cL, .long)] (wC h cI cL NW bk sz wd mb gB gI gN iN dr es of od pl hd tk kn li pa ins cm fd hr) (wC h cI cL NW bk sz wd mb' gB' gI' gN' iN' dr' es' of' od' pl' hd' tk' kn' li' pa' ins' cm' fd' hr) hs r) 0 0 (va_A (wC h cI cL NW bk sz wd mb gB gI gN iN dr es of od pl hd tk kn li pa ins cm fd hr) hs) := by
  refine mUi (cc := b_V_items) (maxL := 1) (by decide) rfl (Nat.le_of_ble_eq_true rfl) ?_
  intro p e s m args below meth c Q hx hb hml hts hown A hA hK hP hD hS hret ls hl
  have htb : ∀ w ∈ TB, w.before args s = true := fun w h => hts w (List.mem_cons_of_mem _ h)
  have hl : lv_has ls 1 [(0, .ref (h 0))] := hl
  unfold f_V_items at hf
  refine lv_aload_n hx hb d_V_items_0 rfl (lv_at hl 0 rfl) ?_
  refine va_get (D := (dC, dI)) (ci := 4) (v := .ref (h 6)) (C := R_V) (T := T_V) (N := 5) hx hb htb in_V hown hK hP 0 rfl rfl 3 (by decide) (htb _ tw_210) (fun _ h9 => h9) rfl d_V_items_1 ?_
  obtain ⟨r_1, mb_2, gB_3, gI_4, gN_5, iN_6, dr_7, es_8, of_9, od_10, pl_11, hd_12, tk_13, kn_14, li_15, pa_16, ins_17, cm_18, fd_19, hc_20, hf⟩ := bd19_s hf
  refine ucVi (As := []) (rest := []) ⟨hx, hb, hml, hown, htb⟩ hK hP hD hS hA (fun hs => c_S_firstFault hc_20) (cwV 0 htb (gV tw_276 tw_277 tw_278 tw_73 tw_279) rfl rfl rfl (by decide +kernel) ⟨Nat.le_of_ble_eq_true rfl, Nat.le_of_ble_eq_true rfl⟩) 6 3 rfl rfl rfl rfl rfl hl.1 (Nat.le_of_ble_eq_true rfl) d_V_items_4 ⟨Nat.zero_le _, Nat.zero_le _⟩ (fun H locs hP hD hS => ?_)
  refine lv_if_eq (tgt := 20) hx hb d_V_items_7 (by decide) (fun c_21 => ?_) (fun c_21 => ?_)
  · have hf := ite_t c_21 hf
    refine lv_aload_n hx hb d_V_items_20 rfl (lv_at hl 0 rfl) ?_
    obtain ⟨r_22, dr_23, es_24, of_25, od_26, pl_27, hd_28, hc_29, hf⟩ := bd7_s hf
    refine ucVi (As := []) (rest := []) ⟨hx, hb, hml, hown, htb⟩ hK hP hD hS hA (fun hs => c_V_countItems hc_29) (cwV 0 htb (gV tw_659 tw_661 tw_27 tw_68 tw_662) rfl rfl rfl (by decide +kernel) ⟨Nat.le_of_ble_eq_true rfl, Nat.le_of_ble_eq_true rfl⟩) 0 4 rfl rfl rfl rfl rfl hl.1 (Nat.le_of_ble_eq_true rfl) d_V_items_21 ⟨Nat.zero_le _, Nat.zero_le _⟩ (fun H locs hP hD hS => ?_)
    cases hf
    exact hret _ _ _ _ hP hD hS d_V_items_24
  · have hf := ite_f c_21 hf
    cases hf
set_option maxHeartbeats 4000000 in
set_option maxRecDepth 100000 in
theorem cT_V_items {l : Launch} {dC : Nat → ClassId} {dI : Nat → Nat → Nat} {N : Nat} {h : Nat → Nat} {cI : ClassId} {cL : ClassId} {NW : Nat} {bk : Int32} {sz : Int32} {wd : Nat → Int64} {mb : Nat → Int32} {gB : Int32} {gI : Int32} {gN : Int32} {iN : Int32} {dr : Int32} {es : Int64} {of : Int64} {od : Int32} {pl : Int64} {hd : Int64} {tk : Nat → Int32} {kn : Nat → Int32} {li : Nat → Int32} {pa : Nat → Int32} {ins : Nat → Int32} {cm : Int32} {fd : Int32} {hr : Int32} {hs : Nat} {tag : Nat} {r : Int32} {mb' : Nat → Int32} {gB' : Int32} {gI' : Int32} {gN' : Int32} {iN' : Int32} {dr' : Int32} {es' : Int64} {of' : Int64} {od' : Int32} {pl' : Int64} {hd' : Int64} {tk' : Nat → Int32} {kn' : Nat → Int32} {li' : Nat → Int32} {pa' : Nat → Int32} {ins' : Nat → Int32} {cm' : Int32} {fd' : Int32} (hL : l.stackTraces = false) (htag : tag ≠ 0) (hf : f_V_items N NW bk sz wd mb gB gI gN iN dr es of od pl hd tk kn li pa ins cm fd hr = some (tag, r, mb', gB', gI', gN', iN', dr', es', of', od', pl', hd', tk', kn', li', pa', ins', cm', fd')) : MetT l y_V_items ws_V_items { frames := 6, cells := 1, slots := 6, locals := 150 } (PcT (dC, dI) clAll [(cI, .int), (cL, .long)] (wC h cI cL NW bk sz wd mb gB gI gN iN dr es of od pl hd tk kn li pa ins cm fd hr) hs R_V strsV [.ref (h 0)]) (exn tag) (BT (dC, dI) clAll [(cI, .int), (cL, .long)] (wC h cI cL NW bk sz wd mb gB gI gN iN dr es of od pl hd tk kn li pa ins cm fd hr) (wC h cI cL NW bk sz wd mb' gB' gI' gN' iN' dr' es' of' od' pl' hd' tk' kn' li' pa' ins' cm' fd' hr) hs) 1 6 (va_A (wC h cI cL NW bk sz wd mb gB gI gN iN dr es of od pl hd tk kn li pa ins cm fd hr) hs) := by
  refine mT (cc := b_V_items) (maxL := 1) hL (by decide) rfl rfl rfl (Nat.le_of_ble_eq_true rfl) rfl ?_
  intro p e s m args below meth c Q hx hb hml hts hown A hA hK hP hD hS hZ hSt hthr hgo ls hl
  have htb : ∀ w ∈ TB, w.before args s = true := fun w h => hts w (List.mem_cons_of_mem _ h)
  have hl : lv_has ls 1 [(0, .ref (h 0))] := hl
  unfold f_V_items at hf
  refine lv_aload_n hx hb d_V_items_0 rfl (lv_at hl 0 rfl) ?_
  refine va_get (D := (dC, dI)) (ci := 4) (v := .ref (h 6)) (C := R_V) (T := T_V) (N := 5) hx hb htb in_V hown hK hP 0 rfl rfl 3 (by decide) (htb _ tw_210) (fun _ h9 => h9) rfl d_V_items_1 ?_
  obtain ⟨r_1, mb_2, gB_3, gI_4, gN_5, iN_6, dr_7, es_8, of_9, od_10, pl_11, hd_12, tk_13, kn_14, li_15, pa_16, ins_17, cm_18, fd_19, hc_20, hf⟩ := bd19_s hf
  refine ucVi (As := []) (rest := []) ⟨hx, hb, hml, hown, htb⟩ hK hP hD hS hA (fun hs => c_S_firstFault hc_20) (cwV 0 htb (gV tw_276 tw_277 tw_278 tw_73 tw_279) rfl rfl rfl (by decide +kernel) ⟨Nat.le_of_ble_eq_true rfl, Nat.le_of_ble_eq_true rfl⟩) 6 3 rfl rfl rfl rfl rfl hl.1 (Nat.le_of_ble_eq_true rfl) d_V_items_4 ⟨Nat.zero_le _, Nat.zero_le _⟩ (fun H locs hP hD hS => ?_)
  refine lv_if_eq (tgt := 20) hx hb d_V_items_7 (by decide) (fun c_21 => ?_) (fun c_21 => ?_)
  · have hf := ite_t c_21 hf
    refine lv_aload_n hx hb d_V_items_20 rfl (lv_at hl 0 rfl) ?_
    obtain ⟨r_22, dr_23, es_24, of_25, od_26, pl_27, hd_28, hc_29, hf⟩ := bd7_s hf
    refine ucVi (As := []) (rest := []) ⟨hx, hb, hml, hown, htb⟩ hK hP hD hS hA (fun hs => c_V_countItems hc_29) (cwV 0 htb (gV tw_659 tw_661 tw_27 tw_68 tw_662) rfl rfl rfl (by decide +kernel) ⟨Nat.le_of_ble_eq_true rfl, Nat.le_of_ble_eq_true rfl⟩) 0 4 rfl rfl rfl rfl rfl hl.1 (Nat.le_of_ble_eq_true rfl) d_V_items_21 ⟨Nat.zero_le _, Nat.zero_le _⟩ (fun H locs hP hD hS => ?_)
    cases hf
    exact absurd rfl htag
  · have hf := ite_f c_21 hf
    cases hf
    exact hthr "java/lang/IllegalStateException" "the volume is not sound" xn_IllegalStateException 75 77 79 _ _ _ _ _ rfl (by decide +kernel) (by decide +kernel) (by decide +kernel) (htb _ tw_591) (htb _ tw_79) (xat_IllegalStateException_79 htb hSt) hl.1 d_V_items_10 d_V_items_13 d_V_items_14 d_V_items_16 d_V_items_19 (Nat.le_of_ble_eq_true rfl) (Nat.le_of_ble_eq_true rfl) hP hD hS
set_option maxHeartbeats 4000000 in
set_option maxRecDepth 100000 in
theorem c0_V_seekItem {l : Launch} {dC : Nat → ClassId} {dI : Nat → Nat → Nat} {N : Nat} {h : Nat → Nat} {cI : ClassId} {cL : ClassId} {NW : Nat} {bk : Int32} {sz : Int32} {wd : Nat → Int64} {mb : Nat → Int32} {gB : Int32} {gI : Int32} {gN : Int32} {iN : Int32} {dr : Int32} {es : Int64} {of : Int64} {od : Int32} {pl : Int64} {hd : Int64} {tk : Nat → Int32} {kn : Nat → Int32} {li : Nat → Int32} {pa : Nat → Int32} {ins : Nat → Int32} {cm : Int32} {fd : Int32} {hr : Int32} {hs : Nat} {a1 : Int32} {dr' : Int32} {es' : Int64} {of' : Int64} {od' : Int32} {pl' : Int64} {hd' : Int64} (hf : f_V_seekItem N NW sz wd mb gI dr es of od pl hd hr a1 = some (0, dr', es', of', od', pl', hd')) : Met l y_V_seekItem ws_V_seekItem { frames := 6, cells := 0, slots := 0, locals := 100 } (PcU (dC, dI) clAll [(cI, .int), (cL, .long)] (wC h cI cL NW bk sz wd mb gB gI gN iN dr es of od pl hd tk kn li pa ins cm fd hr) hs [.ref (h 0), .int a1]) (QUv (dC, dI) clAll [(cI, .int), (cL, .long)] (wC h cI cL NW bk sz wd mb gB gI gN iN dr es of od pl hd tk kn li pa ins cm fd hr) (wC h cI cL NW bk sz wd mb gB gI gN iN dr' es' of' od' pl' hd' tk kn li pa ins cm fd hr) hs) 0 0 (va_A (wC h cI cL NW bk sz wd mb gB gI gN iN dr es of od pl hd tk kn li pa ins cm fd hr) hs) := by
  refine mUv (cc := b_V_seekItem) (maxL := 4) (by decide) rfl (Nat.le_of_ble_eq_true rfl) ?_
  intro p e s m args below meth c Q hx hb hml hts hown A hA hK hP hD hS hret ls hl
  have htb : ∀ w ∈ TB, w.before args s = true := fun w h => hts w (List.mem_cons_of_mem _ h)
  have hl : lv_has ls 4 [(0, .ref (h 0)), (1, .int a1)] := hl
  have hj_66 : ∀ (dr : Int32) (es : Int64) (of : Int64) (od : Int32) (pl : Int64) (hd : Int64) (H : Heap) (locs : List Loc) (ls : Array Slot), f_V_seekItem_66 N NW sz wd mb gI hr dr es of od pl hd = some (0, dr', es', of', od', pl', hd') → va_P (dC, dI) clAll (wC h cI cL NW bk sz wd mb gB gI gN iN dr es of od pl hd tk kn li pa ins cm fd hr) H → va_D A (wC h cI cL NW bk sz wd mb gB gI gN iN dr es of od pl hd tk kn li pa ins cm fd hr) → va_S A s.heap H locs → lv_has ls 4 [] → W p l e (headSpec ws_V_seekItem { frames := 6, cells := 0, slots := 0, locals := 100 }).room s m args below meth c H locs 0 0 Q (F0 m 66 ls []) := by
    intro dr es of od pl hd H locs ls hf hP hD hS hl
    unfold f_V_seekItem_66 at hf
    cases hf
  have hj_15 : ∀ (k_15 : Nat) (dr : Int32) (es : Int64) (of : Int64) (od : Int32) (pl : Int64) (hd : Int64) (x1 : Int32) (x2 : Int32) (x3 : Int32) (H : Heap) (locs : List Loc) (ls : Array Slot), f_V_seekItem_15 N NW sz wd mb gI hr k_15 dr es of od pl hd x1 x2 x3 = some (0, dr', es', of', od', pl', hd') → va_P (dC, dI) clAll (wC h cI cL NW bk sz wd mb gB gI gN iN dr es of od pl hd tk kn li pa ins cm fd hr) H → va_D A (wC h cI cL NW bk sz wd mb gB gI gN iN dr es of od pl hd tk kn li pa ins cm fd hr) → va_S A s.heap H locs → lv_has ls 4 [(0, .ref (h 0)), (1, .int x1), (2, .int x2), (3, .int x3)] → W p l e (headSpec ws_V_seekItem { frames := 6, cells := 0, slots := 0, locals := 100 }).room s m args below meth c H locs 0 0 Q (F0 m 15 ls []) := by
    intro k_15
    induction k_15 with
    | zero => intro _ _ _ _ _ _ _ _ _ _ _ _ hf; exact absurd hf (by simp [f_V_seekItem_15])
    | succ k_15 ih_15 =>
      have hj_53 : ∀ (dr : Int32) (es : Int64) (of : Int64) (od : Int32) (pl : Int64) (hd : Int64) (x1 : Int32) (x2 : Int32) (x3 : Int32) (H : Heap) (locs : List Loc) (ls : Array Slot), f_V_seekItem_53 N NW sz wd mb gI hr (f_V_seekItem_15 N NW sz wd mb gI hr k_15) dr es of od pl hd x1 x2 x3 = some (0, dr', es', of', od', pl', hd') → va_P (dC, dI) clAll (wC h cI cL NW bk sz wd mb gB gI gN iN dr es of od pl hd tk kn li pa ins cm fd hr) H → va_D A (wC h cI cL NW bk sz wd mb gB gI gN iN dr es of od pl hd tk kn li pa ins cm fd hr) → va_S A s.heap H locs → lv_has ls 4 [(0, .ref (h 0)), (1, .int x1), (2, .int x2), (3, .int x3)] → W p l e (headSpec ws_V_seekItem { frames := 6, cells := 0, slots := 0, locals := 100 }).room s m args below meth c H locs 0 0 Q (F0 m 53 ls []) := by
        intro dr es of od pl hd x1 x2 x3 H locs ls hf hP hD hS hl
        unfold f_V_seekItem_53 at hf
        refine lv_aload_n hx hb d_V_seekItem_53 rfl (lv_at hl 0 rfl) ?_
        refine va_get (D := (dC, dI)) (ci := 4) (v := .ref (h 5)) (C := R_V) (T := T_V) (N := 5) hx hb htb in_V hown hK hP 0 rfl rfl 2 (by decide) (htb _ tw_209) (fun _ h9 => h9) rfl d_V_seekItem_54 ?_
        obtain ⟨of_1, od_2, pl_3, hd_4, hc_5, hf⟩ := bd4_s hf
        refine ucVv (As := []) (rest := []) ⟨hx, hb, hml, hown, htb⟩ hK hP hD hS hA (fun hs => c_E_advance hc_5) (cwV 0 htb (gV tw_667 tw_506 tw_507 tw_72 tw_508) rfl rfl rfl (by decide +kernel) ⟨Nat.le_of_ble_eq_true rfl, Nat.le_of_ble_eq_true rfl⟩) 5 1 rfl rfl rfl rfl rfl hl.1 (Nat.le_of_ble_eq_true rfl) d_V_seekItem_57 ⟨Nat.zero_le _, Nat.zero_le _⟩ (fun H locs hP hD hS => ?_)
        obtain ⟨v3_6, ev3_6, hf⟩ := lt1_s hf
        refine lv_iinc (v := v3_6) (lv' := [(3, .int v3_6), (0, .ref (h 0)), (1, .int x1), (2, .int x2)]) hx hb d_V_seekItem_60 hl (k := 3) rfl (by rw [← ev3_6]; rfl) (by decide) rfl (fun ls hl => ?_)
        refine lv_goto (tgt := 15) hx hb d_V_seekItem_63 (by decide) ?_
        exact ih_15 dr es of_1 od_2 pl_3 hd_4 x1 x2 v3_6 _ _ _ hf hP hD hS (lv_sub hl [1, 2, 3, 0] rfl)
      intro dr es of od pl hd x1 x2 x3 H locs ls hf hP hD hS hl
      rw [f_V_seekItem_15] at hf
      refine lv_iload_n hx hb d_V_seekItem_15 rfl (lv_at hl 1 rfl) ?_
      refine lv_if_lt (tgt := 66) hx hb d_V_seekItem_16 (by decide) (fun c_1 => ?_) (fun c_1 => ?_)
      · have hf := ite_t c_1 hf
        exact hj_66 dr es of od pl hd _ _ _ hf hP hD hS (lv_sub hl [] rfl)
      · have hf := ite_f c_1 hf
        refine lv_iload_n hx hb d_V_seekItem_19 rfl (lv_at hl 3 rfl) ?_
        refine lv_ldc (v := 43691) hx hb hown (htb _ tw_664) d_V_seekItem_20 ?_
        refine lv_icmp_ge (tgt := 66) hx hb d_V_seekItem_22 (by decide) (fun c_2 => ?_) (fun c_2 => ?_)
        · have hf := ite_t c_2 hf
          exact hj_66 dr es of od pl hd _ _ _ hf hP hD hS (lv_sub hl [] rfl)
        · have hf := ite_f c_2 hf
          refine lv_aload_n hx hb d_V_seekItem_25 rfl (lv_at hl 0 rfl) ?_
          refine va_get (D := (dC, dI)) (ci := 4) (v := .ref (h 5)) (C := R_V) (T := T_V) (N := 5) hx hb htb in_V hown hK hP 0 rfl rfl 2 (by decide) (htb _ tw_209) (fun _ h9 => h9) rfl d_V_seekItem_26 ?_
          obtain ⟨r_3, hc_4, hf⟩ := bd1_s hf
          refine ucVi (As := []) (rest := []) ⟨hx, hb, hml, hown, htb⟩ hK hP hD hS hA (fun hs => c_E_isOn hc_4) (cwV 0 htb (gV tw_665 tw_443 tw_444 tw_72 tw_445) rfl rfl rfl (by decide +kernel) ⟨Nat.le_of_ble_eq_true rfl, Nat.le_of_ble_eq_true rfl⟩) 5 1 rfl rfl rfl rfl rfl hl.1 (Nat.le_of_ble_eq_true rfl) d_V_seekItem_29 ⟨Nat.zero_le _, Nat.zero_le _⟩ (fun H locs hP hD hS => ?_)
          refine lv_if_eq (tgt := 66) hx hb d_V_seekItem_32 (by decide) (fun c_5 => ?_) (fun c_5 => ?_)
          · have hf := ite_t c_5 hf
            exact hj_66 dr es of od pl hd _ _ _ hf hP hD hS (lv_sub hl [] rfl)
          · have hf := ite_f c_5 hf
            refine lv_aload_n hx hb d_V_seekItem_35 rfl (lv_at hl 0 rfl) ?_
            refine va_get (D := (dC, dI)) (ci := 4) (v := .ref (h 5)) (C := R_V) (T := T_V) (N := 5) hx hb htb in_V hown hK hP 0 rfl rfl 2 (by decide) (htb _ tw_209) (fun _ h9 => h9) rfl d_V_seekItem_36 ?_
            obtain ⟨r_6, hc_7, hf⟩ := bd1_s hf
            refine ucVi (As := []) (rest := []) ⟨hx, hb, hml, hown, htb⟩ hK hP hD hS hA (fun hs => c_E_isItem hc_7) (cwV 0 htb (gV tw_666 tw_515 tw_516 tw_72 tw_517) rfl rfl rfl (by decide +kernel) ⟨Nat.le_of_ble_eq_true rfl, Nat.le_of_ble_eq_true rfl⟩) 5 1 rfl rfl rfl rfl rfl hl.1 (Nat.le_of_ble_eq_true rfl) d_V_seekItem_39 ⟨Nat.zero_le _, Nat.zero_le _⟩ (fun H locs hP hD hS => ?_)
            refine lv_if_eq (tgt := 53) hx hb d_V_seekItem_42 (by decide) (fun c_8 => ?_) (fun c_8 => ?_)
            · have hf := ite_t c_8 hf
              exact hj_53 dr es of od pl hd x1 x2 x3 _ _ _ hf hP hD hS (lv_sub hl [0, 1, 2, 3] rfl)
            · have hf := ite_f c_8 hf
              refine lv_iload_n hx hb d_V_seekItem_45 rfl (lv_at hl 2 rfl) ?_
              refine lv_if_ne (tgt := 50) hx hb d_V_seekItem_46 (by decide) (fun c_9 => ?_) (fun c_9 => ?_)
              · have hf := ite_f c_9 hf
                obtain ⟨v2_10, ev2_10, hf⟩ := lt1_s hf
                refine lv_iinc (v := v2_10) (lv' := [(2, .int v2_10), (0, .ref (h 0)), (1, .int x1), (3, .int x3)]) hx hb d_V_seekItem_50 hl (k := 2) rfl (by rw [← ev2_10]; rfl) (by decide) rfl (fun ls hl => ?_)
                exact hj_53 dr es of od pl hd x1 v2_10 x3 _ _ _ hf hP hD hS (lv_sub hl [1, 2, 0, 3] rfl)
              · have hf := ite_t c_9 hf
                cases hf
                exact hret _ _ _ _ hP hD hS d_V_seekItem_49
  unfold f_V_seekItem at hf
  refine lv_iload_n hx hb d_V_seekItem_0 rfl (lv_at hl 1 rfl) ?_
  refine lv_istore_n (lv' := [(2, .int a1), (0, .ref (h 0)), (1, .int a1)]) hx hb d_V_seekItem_1 rfl hl (by decide) rfl (fun ls hl => ?_)
  refine lv_aload_n hx hb d_V_seekItem_2 rfl (lv_at hl 1 rfl) ?_
  refine va_get (D := (dC, dI)) (ci := 4) (v := .ref (h 5)) (C := R_V) (T := T_V) (N := 5) hx hb htb in_V hown hK hP 0 rfl rfl 2 (by decide) (htb _ tw_209) (fun _ h9 => h9) rfl d_V_seekItem_3 ?_
  refine lv_aload_n hx hb d_V_seekItem_6 rfl (lv_at hl 1 rfl) ?_
  refine va_get (D := (dC, dI)) (ci := 4) (v := .int hr) (C := R_V) (T := T_V) (N := 5) hx hb htb in_V hown hK hP 0 rfl rfl 4 (by decide) (htb _ tw_211) (fun _ h9 => h9) rfl d_V_seekItem_7 ?_
  obtain ⟨dr_1, es_2, of_3, od_4, pl_5, hd_6, hc_7, hf⟩ := bd6_s hf
  refine ucVv (As := [.int hr]) (rest := []) ⟨hx, hb, hml, hown, htb⟩ hK hP hD hS hA (fun hs => c_E_start hc_7) (cwV 1 htb (gV tw_663 tw_434 tw_435 tw_72 tw_436) rfl rfl rfl (by decide +kernel) ⟨Nat.le_of_ble_eq_true rfl, Nat.le_of_ble_eq_true rfl⟩) 5 1 rfl rfl rfl rfl rfl hl.1 (Nat.le_of_ble_eq_true rfl) d_V_seekItem_10 ⟨Nat.zero_le _, Nat.zero_le _⟩ (fun H locs hP hD hS => ?_)
  refine lv_iconst (v := 0) hx hb d_V_seekItem_13 (by decide) ?_
  refine lv_istore_n (lv' := [(3, .int ((0 : Int32))), (2, .int a1), (0, .ref (h 0)), (1, .int a1)]) hx hb d_V_seekItem_14 rfl hl (by decide) rfl (fun ls hl => ?_)
  exact hj_15 N dr_1 es_2 of_3 od_4 pl_5 hd_6 a1 a1 ((0 : Int32)) _ _ _ hf hP hD hS (lv_sub hl [2, 3, 1, 0] rfl)
set_option maxHeartbeats 4000000 in
set_option maxRecDepth 100000 in
theorem cT_V_seekItem {l : Launch} {dC : Nat → ClassId} {dI : Nat → Nat → Nat} {N : Nat} {h : Nat → Nat} {cI : ClassId} {cL : ClassId} {NW : Nat} {bk : Int32} {sz : Int32} {wd : Nat → Int64} {mb : Nat → Int32} {gB : Int32} {gI : Int32} {gN : Int32} {iN : Int32} {dr : Int32} {es : Int64} {of : Int64} {od : Int32} {pl : Int64} {hd : Int64} {tk : Nat → Int32} {kn : Nat → Int32} {li : Nat → Int32} {pa : Nat → Int32} {ins : Nat → Int32} {cm : Int32} {fd : Int32} {hr : Int32} {hs : Nat} {a1 : Int32} {tag : Nat} {dr' : Int32} {es' : Int64} {of' : Int64} {od' : Int32} {pl' : Int64} {hd' : Int64} (hL : l.stackTraces = false) (htag : tag ≠ 0) (hf : f_V_seekItem N NW sz wd mb gI dr es of od pl hd hr a1 = some (tag, dr', es', of', od', pl', hd')) : MetT l y_V_seekItem ws_V_seekItem { frames := 6, cells := 1, slots := 6, locals := 100 } (PcT (dC, dI) clAll [(cI, .int), (cL, .long)] (wC h cI cL NW bk sz wd mb gB gI gN iN dr es of od pl hd tk kn li pa ins cm fd hr) hs R_V strsV [.ref (h 0), .int a1]) (exn tag) (BT (dC, dI) clAll [(cI, .int), (cL, .long)] (wC h cI cL NW bk sz wd mb gB gI gN iN dr es of od pl hd tk kn li pa ins cm fd hr) (wC h cI cL NW bk sz wd mb gB gI gN iN dr' es' of' od' pl' hd' tk kn li pa ins cm fd hr) hs) 1 6 (va_A (wC h cI cL NW bk sz wd mb gB gI gN iN dr es of od pl hd tk kn li pa ins cm fd hr) hs) := by
  refine mT (cc := b_V_seekItem) (maxL := 4) hL (by decide) rfl rfl rfl (Nat.le_of_ble_eq_true rfl) rfl ?_
  intro p e s m args below meth c Q hx hb hml hts hown A hA hK hP hD hS hZ hSt hthr hgo ls hl
  have htb : ∀ w ∈ TB, w.before args s = true := fun w h => hts w (List.mem_cons_of_mem _ h)
  have hl : lv_has ls 4 [(0, .ref (h 0)), (1, .int a1)] := hl
  have hj_66 : ∀ (dr : Int32) (es : Int64) (of : Int64) (od : Int32) (pl : Int64) (hd : Int64) (H : Heap) (locs : List Loc) (ls : Array Slot), f_V_seekItem_66 N NW sz wd mb gI hr dr es of od pl hd = some (tag, dr', es', of', od', pl', hd') → va_P (dC, dI) clAll (wC h cI cL NW bk sz wd mb gB gI gN iN dr es of od pl hd tk kn li pa ins cm fd hr) H → va_D A (wC h cI cL NW bk sz wd mb gB gI gN iN dr es of od pl hd tk kn li pa ins cm fd hr) → va_S A s.heap H locs → lv_has ls 4 [] → W p l e (headSpec ws_V_seekItem { frames := 6, cells := 1, slots := 6, locals := 100 }).room s m args below meth c H locs 0 0 Q (F0 m 66 ls []) := by
    intro dr es of od pl hd H locs ls hf hP hD hS hl
    unfold f_V_seekItem_66 at hf
    cases hf
    exact hthr "java/lang/IndexOutOfBoundsException" "there is no such item here" xn_IndexOutOfBoundsException 88 147 92 _ _ _ _ _ rfl (by decide +kernel) (by decide +kernel) (by decide +kernel) (htb _ tw_680) (htb _ tw_80) (xat_IndexOutOfBoundsException_92 htb hSt) hl.1 d_V_seekItem_66 d_V_seekItem_69 d_V_seekItem_70 d_V_seekItem_72 d_V_seekItem_75 (Nat.le_of_ble_eq_true rfl) (Nat.le_of_ble_eq_true rfl) hP hD hS
  have hj_15 : ∀ (k_15 : Nat) (dr : Int32) (es : Int64) (of : Int64) (od : Int32) (pl : Int64) (hd : Int64) (x1 : Int32) (x2 : Int32) (x3 : Int32) (H : Heap) (locs : List Loc) (ls : Array Slot), f_V_seekItem_15 N NW sz wd mb gI hr k_15 dr es of od pl hd x1 x2 x3 = some (tag, dr', es', of', od', pl', hd') → va_P (dC, dI) clAll (wC h cI cL NW bk sz wd mb gB gI gN iN dr es of od pl hd tk kn li pa ins cm fd hr) H → va_D A (wC h cI cL NW bk sz wd mb gB gI gN iN dr es of od pl hd tk kn li pa ins cm fd hr) → va_S A s.heap H locs → lv_has ls 4 [(0, .ref (h 0)), (1, .int x1), (2, .int x2), (3, .int x3)] → W p l e (headSpec ws_V_seekItem { frames := 6, cells := 1, slots := 6, locals := 100 }).room s m args below meth c H locs 0 0 Q (F0 m 15 ls []) := by
    intro k_15
    induction k_15 with
    | zero => intro _ _ _ _ _ _ _ _ _ _ _ _ hf; exact absurd hf (by simp [f_V_seekItem_15])
    | succ k_15 ih_15 =>
      have hj_53 : ∀ (dr : Int32) (es : Int64) (of : Int64) (od : Int32) (pl : Int64) (hd : Int64) (x1 : Int32) (x2 : Int32) (x3 : Int32) (H : Heap) (locs : List Loc) (ls : Array Slot), f_V_seekItem_53 N NW sz wd mb gI hr (f_V_seekItem_15 N NW sz wd mb gI hr k_15) dr es of od pl hd x1 x2 x3 = some (tag, dr', es', of', od', pl', hd') → va_P (dC, dI) clAll (wC h cI cL NW bk sz wd mb gB gI gN iN dr es of od pl hd tk kn li pa ins cm fd hr) H → va_D A (wC h cI cL NW bk sz wd mb gB gI gN iN dr es of od pl hd tk kn li pa ins cm fd hr) → va_S A s.heap H locs → lv_has ls 4 [(0, .ref (h 0)), (1, .int x1), (2, .int x2), (3, .int x3)] → W p l e (headSpec ws_V_seekItem { frames := 6, cells := 1, slots := 6, locals := 100 }).room s m args below meth c H locs 0 0 Q (F0 m 53 ls []) := by
        intro dr es of od pl hd x1 x2 x3 H locs ls hf hP hD hS hl
        unfold f_V_seekItem_53 at hf
        refine lv_aload_n hx hb d_V_seekItem_53 rfl (lv_at hl 0 rfl) ?_
        refine va_get (D := (dC, dI)) (ci := 4) (v := .ref (h 5)) (C := R_V) (T := T_V) (N := 5) hx hb htb in_V hown hK hP 0 rfl rfl 2 (by decide) (htb _ tw_209) (fun _ h9 => h9) rfl d_V_seekItem_54 ?_
        obtain ⟨of_1, od_2, pl_3, hd_4, hc_5, hf⟩ := bd4_s hf
        refine ucVv (As := []) (rest := []) ⟨hx, hb, hml, hown, htb⟩ hK hP hD hS hA (fun hs => c_E_advance hc_5) (cwV 0 htb (gV tw_667 tw_506 tw_507 tw_72 tw_508) rfl rfl rfl (by decide +kernel) ⟨Nat.le_of_ble_eq_true rfl, Nat.le_of_ble_eq_true rfl⟩) 5 1 rfl rfl rfl rfl rfl hl.1 (Nat.le_of_ble_eq_true rfl) d_V_seekItem_57 ⟨Nat.zero_le _, Nat.zero_le _⟩ (fun H locs hP hD hS => ?_)
        obtain ⟨v3_6, ev3_6, hf⟩ := lt1_s hf
        refine lv_iinc (v := v3_6) (lv' := [(3, .int v3_6), (0, .ref (h 0)), (1, .int x1), (2, .int x2)]) hx hb d_V_seekItem_60 hl (k := 3) rfl (by rw [← ev3_6]; rfl) (by decide) rfl (fun ls hl => ?_)
        refine lv_goto (tgt := 15) hx hb d_V_seekItem_63 (by decide) ?_
        exact ih_15 dr es of_1 od_2 pl_3 hd_4 x1 x2 v3_6 _ _ _ hf hP hD hS (lv_sub hl [1, 2, 3, 0] rfl)
      intro dr es of od pl hd x1 x2 x3 H locs ls hf hP hD hS hl
      rw [f_V_seekItem_15] at hf
      refine lv_iload_n hx hb d_V_seekItem_15 rfl (lv_at hl 1 rfl) ?_
      refine lv_if_lt (tgt := 66) hx hb d_V_seekItem_16 (by decide) (fun c_1 => ?_) (fun c_1 => ?_)
      · have hf := ite_t c_1 hf
        exact hj_66 dr es of od pl hd _ _ _ hf hP hD hS (lv_sub hl [] rfl)
      · have hf := ite_f c_1 hf
        refine lv_iload_n hx hb d_V_seekItem_19 rfl (lv_at hl 3 rfl) ?_
        refine lv_ldc (v := 43691) hx hb hown (htb _ tw_664) d_V_seekItem_20 ?_
        refine lv_icmp_ge (tgt := 66) hx hb d_V_seekItem_22 (by decide) (fun c_2 => ?_) (fun c_2 => ?_)
        · have hf := ite_t c_2 hf
          exact hj_66 dr es of od pl hd _ _ _ hf hP hD hS (lv_sub hl [] rfl)
        · have hf := ite_f c_2 hf
          refine lv_aload_n hx hb d_V_seekItem_25 rfl (lv_at hl 0 rfl) ?_
          refine va_get (D := (dC, dI)) (ci := 4) (v := .ref (h 5)) (C := R_V) (T := T_V) (N := 5) hx hb htb in_V hown hK hP 0 rfl rfl 2 (by decide) (htb _ tw_209) (fun _ h9 => h9) rfl d_V_seekItem_26 ?_
          obtain ⟨r_3, hc_4, hf⟩ := bd1_s hf
          refine ucVi (As := []) (rest := []) ⟨hx, hb, hml, hown, htb⟩ hK hP hD hS hA (fun hs => c_E_isOn hc_4) (cwV 0 htb (gV tw_665 tw_443 tw_444 tw_72 tw_445) rfl rfl rfl (by decide +kernel) ⟨Nat.le_of_ble_eq_true rfl, Nat.le_of_ble_eq_true rfl⟩) 5 1 rfl rfl rfl rfl rfl hl.1 (Nat.le_of_ble_eq_true rfl) d_V_seekItem_29 ⟨Nat.zero_le _, Nat.zero_le _⟩ (fun H locs hP hD hS => ?_)
          refine lv_if_eq (tgt := 66) hx hb d_V_seekItem_32 (by decide) (fun c_5 => ?_) (fun c_5 => ?_)
          · have hf := ite_t c_5 hf
            exact hj_66 dr es of od pl hd _ _ _ hf hP hD hS (lv_sub hl [] rfl)
          · have hf := ite_f c_5 hf
            refine lv_aload_n hx hb d_V_seekItem_35 rfl (lv_at hl 0 rfl) ?_
            refine va_get (D := (dC, dI)) (ci := 4) (v := .ref (h 5)) (C := R_V) (T := T_V) (N := 5) hx hb htb in_V hown hK hP 0 rfl rfl 2 (by decide) (htb _ tw_209) (fun _ h9 => h9) rfl d_V_seekItem_36 ?_
            obtain ⟨r_6, hc_7, hf⟩ := bd1_s hf
            refine ucVi (As := []) (rest := []) ⟨hx, hb, hml, hown, htb⟩ hK hP hD hS hA (fun hs => c_E_isItem hc_7) (cwV 0 htb (gV tw_666 tw_515 tw_516 tw_72 tw_517) rfl rfl rfl (by decide +kernel) ⟨Nat.le_of_ble_eq_true rfl, Nat.le_of_ble_eq_true rfl⟩) 5 1 rfl rfl rfl rfl rfl hl.1 (Nat.le_of_ble_eq_true rfl) d_V_seekItem_39 ⟨Nat.zero_le _, Nat.zero_le _⟩ (fun H locs hP hD hS => ?_)
            refine lv_if_eq (tgt := 53) hx hb d_V_seekItem_42 (by decide) (fun c_8 => ?_) (fun c_8 => ?_)
            · have hf := ite_t c_8 hf
              exact hj_53 dr es of od pl hd x1 x2 x3 _ _ _ hf hP hD hS (lv_sub hl [0, 1, 2, 3] rfl)
            · have hf := ite_f c_8 hf
              refine lv_iload_n hx hb d_V_seekItem_45 rfl (lv_at hl 2 rfl) ?_
              refine lv_if_ne (tgt := 50) hx hb d_V_seekItem_46 (by decide) (fun c_9 => ?_) (fun c_9 => ?_)
              · have hf := ite_f c_9 hf
                obtain ⟨v2_10, ev2_10, hf⟩ := lt1_s hf
                refine lv_iinc (v := v2_10) (lv' := [(2, .int v2_10), (0, .ref (h 0)), (1, .int x1), (3, .int x3)]) hx hb d_V_seekItem_50 hl (k := 2) rfl (by rw [← ev2_10]; rfl) (by decide) rfl (fun ls hl => ?_)
                exact hj_53 dr es of od pl hd x1 v2_10 x3 _ _ _ hf hP hD hS (lv_sub hl [1, 2, 0, 3] rfl)
              · have hf := ite_t c_9 hf
                cases hf
                exact absurd rfl htag
  unfold f_V_seekItem at hf
  refine lv_iload_n hx hb d_V_seekItem_0 rfl (lv_at hl 1 rfl) ?_
  refine lv_istore_n (lv' := [(2, .int a1), (0, .ref (h 0)), (1, .int a1)]) hx hb d_V_seekItem_1 rfl hl (by decide) rfl (fun ls hl => ?_)
  refine lv_aload_n hx hb d_V_seekItem_2 rfl (lv_at hl 1 rfl) ?_
  refine va_get (D := (dC, dI)) (ci := 4) (v := .ref (h 5)) (C := R_V) (T := T_V) (N := 5) hx hb htb in_V hown hK hP 0 rfl rfl 2 (by decide) (htb _ tw_209) (fun _ h9 => h9) rfl d_V_seekItem_3 ?_
  refine lv_aload_n hx hb d_V_seekItem_6 rfl (lv_at hl 1 rfl) ?_
  refine va_get (D := (dC, dI)) (ci := 4) (v := .int hr) (C := R_V) (T := T_V) (N := 5) hx hb htb in_V hown hK hP 0 rfl rfl 4 (by decide) (htb _ tw_211) (fun _ h9 => h9) rfl d_V_seekItem_7 ?_
  obtain ⟨dr_1, es_2, of_3, od_4, pl_5, hd_6, hc_7, hf⟩ := bd6_s hf
  refine ucVv (As := [.int hr]) (rest := []) ⟨hx, hb, hml, hown, htb⟩ hK hP hD hS hA (fun hs => c_E_start hc_7) (cwV 1 htb (gV tw_663 tw_434 tw_435 tw_72 tw_436) rfl rfl rfl (by decide +kernel) ⟨Nat.le_of_ble_eq_true rfl, Nat.le_of_ble_eq_true rfl⟩) 5 1 rfl rfl rfl rfl rfl hl.1 (Nat.le_of_ble_eq_true rfl) d_V_seekItem_10 ⟨Nat.zero_le _, Nat.zero_le _⟩ (fun H locs hP hD hS => ?_)
  refine lv_iconst (v := 0) hx hb d_V_seekItem_13 (by decide) ?_
  refine lv_istore_n (lv' := [(3, .int ((0 : Int32))), (2, .int a1), (0, .ref (h 0)), (1, .int a1)]) hx hb d_V_seekItem_14 rfl hl (by decide) rfl (fun ls hl => ?_)
  exact hj_15 N dr_1 es_2 of_3 od_4 pl_5 hd_6 a1 a1 ((0 : Int32)) _ _ _ hf hP hD hS (lv_sub hl [2, 3, 1, 0] rfl)
set_option maxHeartbeats 4000000 in
set_option maxRecDepth 100000 in
theorem c0_V_letter {l : Launch} {dC : Nat → ClassId} {dI : Nat → Nat → Nat} {N : Nat} {h : Nat → Nat} {cI : ClassId} {cL : ClassId} {NW : Nat} {bk : Int32} {sz : Int32} {wd : Nat → Int64} {mb : Nat → Int32} {gB : Int32} {gI : Int32} {gN : Int32} {iN : Int32} {dr : Int32} {es : Int64} {of : Int64} {od : Int32} {pl : Int64} {hd : Int64} {tk : Nat → Int32} {kn : Nat → Int32} {li : Nat → Int32} {pa : Nat → Int32} {ins : Nat → Int32} {cm : Int32} {fd : Int32} {hr : Int32} {hs : Nat} {a1 : Int32} {a2 : Int32} {r : Int32} {mb' : Nat → Int32} {gB' : Int32} {gI' : Int32} {gN' : Int32} {iN' : Int32} {dr' : Int32} {es' : Int64} {of' : Int64} {od' : Int32} {pl' : Int64} {hd' : Int64} {tk' : Nat → Int32} {kn' : Nat → Int32} {li' : Nat → Int32} {pa' : Nat → Int32} {ins' : Nat → Int32} {cm' : Int32} {fd' : Int32} (hf : f_V_letter N NW bk sz wd mb gB gI gN iN dr es of od pl hd tk kn li pa ins cm fd hr a1 a2 = some (0, r, mb', gB', gI', gN', iN', dr', es', of', od', pl', hd', tk', kn', li', pa', ins', cm', fd')) : Met l y_V_letter ws_V_letter { frames := 7, cells := 0, slots := 0, locals := 150 } (PcU (dC, dI) clAll [(cI, .int), (cL, .long)] (wC h cI cL NW bk sz wd mb gB gI gN iN dr es of od pl hd tk kn li pa ins cm fd hr) hs [.ref (h 0), .int a1, .int a2]) (QUi (dC, dI) clAll [(cI, .int), (cL, .long)] (wC h cI cL NW bk sz wd mb gB gI gN iN dr es of od pl hd tk kn li pa ins cm fd hr) (wC h cI cL NW bk sz wd mb' gB' gI' gN' iN' dr' es' of' od' pl' hd' tk' kn' li' pa' ins' cm' fd' hr) hs r) 0 0 (va_A (wC h cI cL NW bk sz wd mb gB gI gN iN dr es of od pl hd tk kn li pa ins cm fd hr) hs) := by
  refine mUi (cc := b_V_letter) (maxL := 3) (by decide) rfl (Nat.le_of_ble_eq_true rfl) ?_
  intro p e s m args below meth c Q hx hb hml hts hown A hA hK hP hD hS hret ls hl
  have htb : ∀ w ∈ TB, w.before args s = true := fun w h => hts w (List.mem_cons_of_mem _ h)
  have hl : lv_has ls 3 [(0, .ref (h 0)), (1, .int a1), (2, .int a2)] := hl
  unfold f_V_letter at hf
  refine lv_aload_n hx hb d_V_letter_0 rfl (lv_at hl 0 rfl) ?_
  refine va_get (D := (dC, dI)) (ci := 4) (v := .ref (h 6)) (C := R_V) (T := T_V) (N := 5) hx hb htb in_V hown hK hP 0 rfl rfl 3 (by decide) (htb _ tw_210) (fun _ h9 => h9) rfl d_V_letter_1 ?_
  obtain ⟨r_1, mb_2, gB_3, gI_4, gN_5, iN_6, dr_7, es_8, of_9, od_10, pl_11, hd_12, tk_13, kn_14, li_15, pa_16, ins_17, cm_18, fd_19, hc_20, hf⟩ := bd19_s hf
  refine ucVi (As := []) (rest := []) ⟨hx, hb, hml, hown, htb⟩ hK hP hD hS hA (fun hs => c_S_firstFault hc_20) (cwV 0 htb (gV tw_276 tw_277 tw_278 tw_73 tw_279) rfl rfl rfl (by decide +kernel) ⟨Nat.le_of_ble_eq_true rfl, Nat.le_of_ble_eq_true rfl⟩) 6 3 rfl rfl rfl rfl rfl hl.1 (Nat.le_of_ble_eq_true rfl) d_V_letter_4 ⟨Nat.zero_le _, Nat.zero_le _⟩ (fun H locs hP hD hS => ?_)
  refine lv_if_eq (tgt := 20) hx hb d_V_letter_7 (by decide) (fun c_21 => ?_) (fun c_21 => ?_)
  · have hf := ite_t c_21 hf
    refine lv_aload_n hx hb d_V_letter_20 rfl (lv_at hl 0 rfl) ?_
    refine lv_iload_n hx hb d_V_letter_21 rfl (lv_at hl 1 rfl) ?_
    obtain ⟨tg_22, dr_23, es_24, of_25, od_26, pl_27, hd_28, hc_29, hf⟩ := bd7_s hf
    by_cases c_30 : tg_22 = 0
    · subst c_30
      have hf := ite_t rfl hf
      refine ucVv (As := [.int a1]) (rest := []) ⟨hx, hb, hml, hown, htb⟩ hK hP hD hS hA (fun hs => c0_V_seekItem hc_29) (cwV 1 htb (gV tw_676 tw_678 tw_28 tw_68 tw_679) rfl rfl rfl (by decide +kernel) ⟨Nat.le_of_ble_eq_true rfl, Nat.le_of_ble_eq_true rfl⟩) 0 4 rfl rfl rfl rfl rfl hl.1 (Nat.le_of_ble_eq_true rfl) d_V_letter_22 ⟨Nat.zero_le _, Nat.zero_le _⟩ (fun H locs hP hD hS => ?_)
      refine lv_iload_n hx hb d_V_letter_25 rfl (lv_at hl 2 rfl) ?_
      refine lv_if_ge (tgt := 39) hx hb d_V_letter_26 (by decide) (fun c_31 => ?_) (fun c_31 => ?_)
      · have hf := ite_t c_31 hf
        refine lv_iload_n hx hb d_V_letter_39 rfl (lv_at hl 2 rfl) ?_
        refine lv_aload_n hx hb d_V_letter_40 rfl (lv_at hl 0 rfl) ?_
        refine va_get (D := (dC, dI)) (ci := 4) (v := .ref (h 5)) (C := R_V) (T := T_V) (N := 5) hx hb htb in_V hown hK hP 0 rfl rfl 2 (by decide) (htb _ tw_209) (fun _ h9 => h9) rfl d_V_letter_41 ?_
        obtain ⟨r_32, hc_33, hf⟩ := bd1_s hf
        refine ucVi (As := []) (rest := [.int a2]) ⟨hx, hb, hml, hown, htb⟩ hK hP hD hS hA (fun hs => c_E_nameLength hc_33) (cwV 0 htb (gV tw_697 tw_477 tw_478 tw_72 tw_479) rfl rfl rfl (by decide +kernel) ⟨Nat.le_of_ble_eq_true rfl, Nat.le_of_ble_eq_true rfl⟩) 5 1 rfl rfl rfl rfl rfl hl.1 (Nat.le_of_ble_eq_true rfl) d_V_letter_44 ⟨Nat.zero_le _, Nat.zero_le _⟩ (fun H locs hP hD hS => ?_)
        refine lv_icmp_ge (tgt := 61) hx hb d_V_letter_47 (by decide) (fun c_34 => ?_) (fun c_34 => ?_)
        · have hf := ite_t c_34 hf
          refine lv_iconst (v := -1) hx hb d_V_letter_61 (by decide) ?_
          cases hf
          exact hret _ _ _ _ hP hD hS d_V_letter_62
        · have hf := ite_f c_34 hf
          refine lv_aload_n hx hb d_V_letter_50 rfl (lv_at hl 0 rfl) ?_
          refine va_get (D := (dC, dI)) (ci := 4) (v := .ref (h 5)) (C := R_V) (T := T_V) (N := 5) hx hb htb in_V hown hK hP 0 rfl rfl 2 (by decide) (htb _ tw_209) (fun _ h9 => h9) rfl d_V_letter_51 ?_
          refine lv_iload_n hx hb d_V_letter_54 rfl (lv_at hl 2 rfl) ?_
          obtain ⟨r_35, hc_36, hf⟩ := bd1_s hf
          refine ucVi (As := [.int a2]) (rest := []) ⟨hx, hb, hml, hown, htb⟩ hK hP hD hS hA (fun hs => c_E_nameByte hc_36) (cwV 1 htb (gV tw_698 tw_699 tw_700 tw_72 tw_701) rfl rfl rfl (by decide +kernel) ⟨Nat.le_of_ble_eq_true rfl, Nat.le_of_ble_eq_true rfl⟩) 5 1 rfl rfl rfl rfl rfl hl.1 (Nat.le_of_ble_eq_true rfl) d_V_letter_55 ⟨Nat.zero_le _, Nat.zero_le _⟩ (fun H locs hP hD hS => ?_)
          refine lv_goto (tgt := 62) hx hb d_V_letter_58 (by decide) ?_
          cases hf
          exact hret _ _ _ _ hP hD hS d_V_letter_62
      · have hf := ite_f c_31 hf
        cases hf
    · have hf := ite_f c_30 hf
      cases hf
      exact absurd rfl c_30
  · have hf := ite_f c_21 hf
    cases hf
set_option maxHeartbeats 4000000 in
set_option maxRecDepth 100000 in
theorem cT_V_letter {l : Launch} {dC : Nat → ClassId} {dI : Nat → Nat → Nat} {N : Nat} {h : Nat → Nat} {cI : ClassId} {cL : ClassId} {NW : Nat} {bk : Int32} {sz : Int32} {wd : Nat → Int64} {mb : Nat → Int32} {gB : Int32} {gI : Int32} {gN : Int32} {iN : Int32} {dr : Int32} {es : Int64} {of : Int64} {od : Int32} {pl : Int64} {hd : Int64} {tk : Nat → Int32} {kn : Nat → Int32} {li : Nat → Int32} {pa : Nat → Int32} {ins : Nat → Int32} {cm : Int32} {fd : Int32} {hr : Int32} {hs : Nat} {a1 : Int32} {a2 : Int32} {tag : Nat} {r : Int32} {mb' : Nat → Int32} {gB' : Int32} {gI' : Int32} {gN' : Int32} {iN' : Int32} {dr' : Int32} {es' : Int64} {of' : Int64} {od' : Int32} {pl' : Int64} {hd' : Int64} {tk' : Nat → Int32} {kn' : Nat → Int32} {li' : Nat → Int32} {pa' : Nat → Int32} {ins' : Nat → Int32} {cm' : Int32} {fd' : Int32} (hL : l.stackTraces = false) (htag : tag ≠ 0) (hf : f_V_letter N NW bk sz wd mb gB gI gN iN dr es of od pl hd tk kn li pa ins cm fd hr a1 a2 = some (tag, r, mb', gB', gI', gN', iN', dr', es', of', od', pl', hd', tk', kn', li', pa', ins', cm', fd')) : MetT l y_V_letter ws_V_letter { frames := 7, cells := 1, slots := 6, locals := 150 } (PcT (dC, dI) clAll [(cI, .int), (cL, .long)] (wC h cI cL NW bk sz wd mb gB gI gN iN dr es of od pl hd tk kn li pa ins cm fd hr) hs R_V strsV [.ref (h 0), .int a1, .int a2]) (exn tag) (BT (dC, dI) clAll [(cI, .int), (cL, .long)] (wC h cI cL NW bk sz wd mb gB gI gN iN dr es of od pl hd tk kn li pa ins cm fd hr) (wC h cI cL NW bk sz wd mb' gB' gI' gN' iN' dr' es' of' od' pl' hd' tk' kn' li' pa' ins' cm' fd' hr) hs) 1 6 (va_A (wC h cI cL NW bk sz wd mb gB gI gN iN dr es of od pl hd tk kn li pa ins cm fd hr) hs) := by
  refine mT (cc := b_V_letter) (maxL := 3) hL (by decide) rfl rfl rfl (Nat.le_of_ble_eq_true rfl) rfl ?_
  intro p e s m args below meth c Q hx hb hml hts hown A hA hK hP hD hS hZ hSt hthr hgo ls hl
  have htb : ∀ w ∈ TB, w.before args s = true := fun w h => hts w (List.mem_cons_of_mem _ h)
  have hl : lv_has ls 3 [(0, .ref (h 0)), (1, .int a1), (2, .int a2)] := hl
  unfold f_V_letter at hf
  refine lv_aload_n hx hb d_V_letter_0 rfl (lv_at hl 0 rfl) ?_
  refine va_get (D := (dC, dI)) (ci := 4) (v := .ref (h 6)) (C := R_V) (T := T_V) (N := 5) hx hb htb in_V hown hK hP 0 rfl rfl 3 (by decide) (htb _ tw_210) (fun _ h9 => h9) rfl d_V_letter_1 ?_
  obtain ⟨r_1, mb_2, gB_3, gI_4, gN_5, iN_6, dr_7, es_8, of_9, od_10, pl_11, hd_12, tk_13, kn_14, li_15, pa_16, ins_17, cm_18, fd_19, hc_20, hf⟩ := bd19_s hf
  refine ucVi (As := []) (rest := []) ⟨hx, hb, hml, hown, htb⟩ hK hP hD hS hA (fun hs => c_S_firstFault hc_20) (cwV 0 htb (gV tw_276 tw_277 tw_278 tw_73 tw_279) rfl rfl rfl (by decide +kernel) ⟨Nat.le_of_ble_eq_true rfl, Nat.le_of_ble_eq_true rfl⟩) 6 3 rfl rfl rfl rfl rfl hl.1 (Nat.le_of_ble_eq_true rfl) d_V_letter_4 ⟨Nat.zero_le _, Nat.zero_le _⟩ (fun H locs hP hD hS => ?_)
  refine lv_if_eq (tgt := 20) hx hb d_V_letter_7 (by decide) (fun c_21 => ?_) (fun c_21 => ?_)
  · have hf := ite_t c_21 hf
    refine lv_aload_n hx hb d_V_letter_20 rfl (lv_at hl 0 rfl) ?_
    refine lv_iload_n hx hb d_V_letter_21 rfl (lv_at hl 1 rfl) ?_
    obtain ⟨tg_22, dr_23, es_24, of_25, od_26, pl_27, hd_28, hc_29, hf⟩ := bd7_s hf
    by_cases c_30 : tg_22 = 0
    · subst c_30
      have hf := ite_t rfl hf
      refine ucVv (As := [.int a1]) (rest := []) ⟨hx, hb, hml, hown, htb⟩ hK hP hD hS hA (fun hs => c0_V_seekItem hc_29) (cwV 1 htb (gV tw_676 tw_678 tw_28 tw_68 tw_679) rfl rfl rfl (by decide +kernel) ⟨Nat.le_of_ble_eq_true rfl, Nat.le_of_ble_eq_true rfl⟩) 0 4 rfl rfl rfl rfl rfl hl.1 (Nat.le_of_ble_eq_true rfl) d_V_letter_22 ⟨Nat.zero_le _, Nat.zero_le _⟩ (fun H locs hP hD hS => ?_)
      refine lv_iload_n hx hb d_V_letter_25 rfl (lv_at hl 2 rfl) ?_
      refine lv_if_ge (tgt := 39) hx hb d_V_letter_26 (by decide) (fun c_31 => ?_) (fun c_31 => ?_)
      · have hf := ite_t c_31 hf
        refine lv_iload_n hx hb d_V_letter_39 rfl (lv_at hl 2 rfl) ?_
        refine lv_aload_n hx hb d_V_letter_40 rfl (lv_at hl 0 rfl) ?_
        refine va_get (D := (dC, dI)) (ci := 4) (v := .ref (h 5)) (C := R_V) (T := T_V) (N := 5) hx hb htb in_V hown hK hP 0 rfl rfl 2 (by decide) (htb _ tw_209) (fun _ h9 => h9) rfl d_V_letter_41 ?_
        obtain ⟨r_32, hc_33, hf⟩ := bd1_s hf
        refine ucVi (As := []) (rest := [.int a2]) ⟨hx, hb, hml, hown, htb⟩ hK hP hD hS hA (fun hs => c_E_nameLength hc_33) (cwV 0 htb (gV tw_697 tw_477 tw_478 tw_72 tw_479) rfl rfl rfl (by decide +kernel) ⟨Nat.le_of_ble_eq_true rfl, Nat.le_of_ble_eq_true rfl⟩) 5 1 rfl rfl rfl rfl rfl hl.1 (Nat.le_of_ble_eq_true rfl) d_V_letter_44 ⟨Nat.zero_le _, Nat.zero_le _⟩ (fun H locs hP hD hS => ?_)
        refine lv_icmp_ge (tgt := 61) hx hb d_V_letter_47 (by decide) (fun c_34 => ?_) (fun c_34 => ?_)
        · have hf := ite_t c_34 hf
          refine lv_iconst (v := -1) hx hb d_V_letter_61 (by decide) ?_
          cases hf
          exact absurd rfl htag
        · have hf := ite_f c_34 hf
          refine lv_aload_n hx hb d_V_letter_50 rfl (lv_at hl 0 rfl) ?_
          refine va_get (D := (dC, dI)) (ci := 4) (v := .ref (h 5)) (C := R_V) (T := T_V) (N := 5) hx hb htb in_V hown hK hP 0 rfl rfl 2 (by decide) (htb _ tw_209) (fun _ h9 => h9) rfl d_V_letter_51 ?_
          refine lv_iload_n hx hb d_V_letter_54 rfl (lv_at hl 2 rfl) ?_
          obtain ⟨r_35, hc_36, hf⟩ := bd1_s hf
          refine ucVi (As := [.int a2]) (rest := []) ⟨hx, hb, hml, hown, htb⟩ hK hP hD hS hA (fun hs => c_E_nameByte hc_36) (cwV 1 htb (gV tw_698 tw_699 tw_700 tw_72 tw_701) rfl rfl rfl (by decide +kernel) ⟨Nat.le_of_ble_eq_true rfl, Nat.le_of_ble_eq_true rfl⟩) 5 1 rfl rfl rfl rfl rfl hl.1 (Nat.le_of_ble_eq_true rfl) d_V_letter_55 ⟨Nat.zero_le _, Nat.zero_le _⟩ (fun H locs hP hD hS => ?_)
          refine lv_goto (tgt := 62) hx hb d_V_letter_58 (by decide) ?_
          cases hf
          exact absurd rfl htag
      · have hf := ite_f c_31 hf
        cases hf
        exact hthr "java/lang/IndexOutOfBoundsException" "a name has no byte before its first" xn_IndexOutOfBoundsException 88 90 92 _ _ _ _ _ rfl (by decide +kernel) (by decide +kernel) (by decide +kernel) (htb _ tw_680) (htb _ tw_80) (xat_IndexOutOfBoundsException_92 htb hSt) hl.1 d_V_letter_29 d_V_letter_32 d_V_letter_33 d_V_letter_35 d_V_letter_38 (Nat.le_of_ble_eq_true rfl) (Nat.le_of_ble_eq_true rfl) hP hD hS
    · have hf := ite_f c_30 hf
      cases hf
      refine ucT (As := [.int a1]) (rest := []) ⟨hx, hb, hml, hown, htb⟩ hK hP hD hS hA hZ hSt (fun hs => cT_V_seekItem hL c_30 hc_29) (cwV 1 htb (gV tw_676 tw_678 tw_28 tw_68 tw_679) rfl rfl rfl (by decide +kernel) ⟨Nat.le_of_ble_eq_true rfl, Nat.le_of_ble_eq_true rfl⟩) 0 4 rfl rfl rfl rfl rfl hl.1 (Nat.le_of_ble_eq_true rfl) d_V_letter_22 ⟨Nat.le_of_ble_eq_true rfl, Nat.le_of_ble_eq_true rfl⟩ (fun H locs q9 ce hP hD hS he hv hcl => ?_)
      exact hgo _ _ _ _ _ _ _ he hv hcl hP hD hS
  · have hf := ite_f c_21 hf
    cases hf
    exact hthr "java/lang/IllegalStateException" "the volume is not sound" xn_IllegalStateException 75 77 79 _ _ _ _ _ rfl (by decide +kernel) (by decide +kernel) (by decide +kernel) (htb _ tw_591) (htb _ tw_79) (xat_IllegalStateException_79 htb hSt) hl.1 d_V_letter_10 d_V_letter_13 d_V_letter_14 d_V_letter_16 d_V_letter_19 (Nat.le_of_ble_eq_true rfl) (Nat.le_of_ble_eq_true rfl) hP hD hS
set_option maxHeartbeats 4000000 in
set_option maxRecDepth 100000 in
theorem c0_V_about {l : Launch} {dC : Nat → ClassId} {dI : Nat → Nat → Nat} {N : Nat} {h : Nat → Nat} {cI : ClassId} {cL : ClassId} {NW : Nat} {bk : Int32} {sz : Int32} {wd : Nat → Int64} {mb : Nat → Int32} {gB : Int32} {gI : Int32} {gN : Int32} {iN : Int32} {dr : Int32} {es : Int64} {of : Int64} {od : Int32} {pl : Int64} {hd : Int64} {tk : Nat → Int32} {kn : Nat → Int32} {li : Nat → Int32} {pa : Nat → Int32} {ins : Nat → Int32} {cm : Int32} {fd : Int32} {hr : Int32} {hs : Nat} {a1 : Int32} {a2 : Int32} {r : Int64} {mb' : Nat → Int32} {gB' : Int32} {gI' : Int32} {gN' : Int32} {iN' : Int32} {dr' : Int32} {es' : Int64} {of' : Int64} {od' : Int32} {pl' : Int64} {hd' : Int64} {tk' : Nat → Int32} {kn' : Nat → Int32} {li' : Nat → Int32} {pa' : Nat → Int32} {ins' : Nat → Int32} {cm' : Int32} {fd' : Int32} (hf : f_V_about N NW bk sz wd mb gB gI gN iN dr es of od pl hd tk kn li pa ins cm fd hr a1 a2 = some (0, r, mb', gB', gI', gN', iN', dr', es', of', od', pl', hd', tk', kn', li', pa', ins', cm', fd')) : Met l y_V_about ws_V_about { frames := 7, cells := 0, slots := 0, locals := 150 } (PcU (dC, dI) clAll [(cI, .int), (cL, .long)] (wC h cI cL NW bk sz wd mb gB gI gN iN dr es of od pl hd tk kn li pa ins cm fd hr) hs [.ref (h 0), .int a1, .int a2]) (QUl (dC, dI) clAll [(cI, .int), (cL, .long)] (wC h cI cL NW bk sz wd mb gB gI gN iN dr es of od pl hd tk kn li pa ins cm fd hr) (wC h cI cL NW bk sz wd mb' gB' gI' gN' iN' dr' es' of' od' pl' hd' tk' kn' li' pa' ins' cm' fd' hr) hs r) 0 0 (va_A (wC h cI cL NW bk sz wd mb gB gI gN iN dr es of od pl hd tk kn li pa ins cm fd hr) hs) := by
  refine mUl (cc := b_V_about) (maxL := 4) (by decide) rfl (Nat.le_of_ble_eq_true rfl) ?_
  intro p e s m args below meth c Q hx hb hml hts hown A hA hK hP hD hS hret ls hl
  have htb : ∀ w ∈ TB, w.before args s = true := fun w h => hts w (List.mem_cons_of_mem _ h)
  have hl : lv_has ls 4 [(0, .ref (h 0)), (1, .int a1), (2, .int a2)] := hl
  unfold f_V_about at hf
  refine lv_aload_n hx hb d_V_about_0 rfl (lv_at hl 0 rfl) ?_
  refine va_get (D := (dC, dI)) (ci := 4) (v := .ref (h 6)) (C := R_V) (T := T_V) (N := 5) hx hb htb in_V hown hK hP 0 rfl rfl 3 (by decide) (htb _ tw_210) (fun _ h9 => h9) rfl d_V_about_1 ?_
  obtain ⟨r_1, mb_2, gB_3, gI_4, gN_5, iN_6, dr_7, es_8, of_9, od_10, pl_11, hd_12, tk_13, kn_14, li_15, pa_16, ins_17, cm_18, fd_19, hc_20, hf⟩ := bd19_s hf
  refine ucVi (As := []) (rest := []) ⟨hx, hb, hml, hown, htb⟩ hK hP hD hS hA (fun hs => c_S_firstFault hc_20) (cwV 0 htb (gV tw_276 tw_277 tw_278 tw_73 tw_279) rfl rfl rfl (by decide +kernel) ⟨Nat.le_of_ble_eq_true rfl, Nat.le_of_ble_eq_true rfl⟩) 6 3 rfl rfl rfl rfl rfl hl.1 (Nat.le_of_ble_eq_true rfl) d_V_about_4 ⟨Nat.zero_le _, Nat.zero_le _⟩ (fun H locs hP hD hS => ?_)
  refine lv_if_eq (tgt := 20) hx hb d_V_about_7 (by decide) (fun c_21 => ?_) (fun c_21 => ?_)
  · have hf := ite_t c_21 hf
    refine lv_aload_n hx hb d_V_about_20 rfl (lv_at hl 0 rfl) ?_
    refine lv_iload_n hx hb d_V_about_21 rfl (lv_at hl 1 rfl) ?_
    obtain ⟨tg_22, dr_23, es_24, of_25, od_26, pl_27, hd_28, hc_29, hf⟩ := bd7_s hf
    by_cases c_30 : tg_22 = 0
    · subst c_30
      have hf := ite_t rfl hf
      refine ucVv (As := [.int a1]) (rest := []) ⟨hx, hb, hml, hown, htb⟩ hK hP hD hS hA (fun hs => c0_V_seekItem hc_29) (cwV 1 htb (gV tw_676 tw_678 tw_28 tw_68 tw_679) rfl rfl rfl (by decide +kernel) ⟨Nat.le_of_ble_eq_true rfl, Nat.le_of_ble_eq_true rfl⟩) 0 4 rfl rfl rfl rfl rfl hl.1 (Nat.le_of_ble_eq_true rfl) d_V_about_22 ⟨Nat.zero_le _, Nat.zero_le _⟩ (fun H locs hP hD hS => ?_)
      refine lv_aload_n hx hb d_V_about_25 rfl (lv_at hl 0 rfl) ?_
      refine va_get (D := (dC, dI)) (ci := 4) (v := .ref (h 5)) (C := R_V) (T := T_V) (N := 5) hx hb htb in_V hown hK hP 0 rfl rfl 2 (by decide) (htb _ tw_209) (fun _ h9 => h9) rfl d_V_about_26 ?_
      obtain ⟨r_31, hc_32, hf⟩ := bd1_s hf
      refine ucVi (As := []) (rest := []) ⟨hx, hb, hml, hown, htb⟩ hK hP hD hS hA (fun hs => c_E_inode hc_32) (cwV 0 htb (gV tw_710 tw_483 tw_484 tw_72 tw_485) rfl rfl rfl (by decide +kernel) ⟨Nat.le_of_ble_eq_true rfl, Nat.le_of_ble_eq_true rfl⟩) 5 1 rfl rfl rfl rfl rfl hl.1 (Nat.le_of_ble_eq_true rfl) d_V_about_29 ⟨Nat.zero_le _, Nat.zero_le _⟩ (fun H locs hP hD hS => ?_)
      refine lv_istore_n (lv' := [(3, .int r_31), (0, .ref (h 0)), (1, .int a1), (2, .int a2)]) hx hb d_V_about_32 rfl hl (by decide) rfl (fun ls hl => ?_)
      refine lv_iload_n hx hb d_V_about_33 rfl (lv_at hl 3 rfl) ?_
      by_cases c_33 : a2 = (0 : Int32)
      · have hf := ite_t c_33 hf
        refine lv_tableIn (tgt := 72) hx hb d_V_about_34 (by rw [c_33]; decide) (by rw [c_33]; decide) (by rw [c_33]; rfl) (by decide) ?_
        refine lv_iload_n hx hb d_V_about_72 rfl (lv_at hl 0 rfl) ?_
        refine lv_i2l hx hb d_V_about_73 rfl ?_
        cases hf
        exact hret _ _ _ _ hP hD hS d_V_about_74
      · have hf := ite_f c_33 hf
        by_cases c_34 : a2 = (1 : Int32)
        · have hf := ite_t c_34 hf
          refine lv_tableIn (tgt := 75) hx hb d_V_about_34 (by rw [c_34]; decide) (by rw [c_34]; decide) (by rw [c_34]; rfl) (by decide) ?_
          refine lv_aload_n hx hb d_V_about_75 rfl (lv_at hl 1 rfl) ?_
          refine va_get (D := (dC, dI)) (ci := 4) (v := .ref (h 3)) (C := R_V) (T := T_V) (N := 5) hx hb htb in_V hown hK hP 0 rfl rfl 1 (by decide) (htb _ tw_208) (fun _ h9 => h9) rfl d_V_about_76 ?_
          refine lv_iload_n hx hb d_V_about_79 rfl (lv_at hl 0 rfl) ?_
          obtain ⟨r_35, hc_36, hf⟩ := bd1_s hf
          refine ucVi (As := [.int r_31]) (rest := []) ⟨hx, hb, hml, hown, htb⟩ hK hP hD hS hA (fun hs => c_L_typeOf hc_36) (cwV 1 htb (gV tw_711 tw_379 tw_380 tw_71 tw_381) rfl rfl rfl (by decide +kernel) ⟨Nat.le_of_ble_eq_true rfl, Nat.le_of_ble_eq_true rfl⟩) 3 2 rfl rfl rfl rfl rfl hl.1 (Nat.le_of_ble_eq_true rfl) d_V_about_80 ⟨Nat.zero_le _, Nat.zero_le _⟩ (fun H locs hP hD hS => ?_)
          refine lv_sipush (v := 16384) hx hb d_V_about_83 (by decide) ?_
          refine lv_icmp_ne (tgt := 93) hx hb d_V_about_86 (by decide) (fun c_37 => ?_) (fun c_37 => ?_)
          · have hf := ite_f c_37 hf
            refine lv_lconst (v := 0) hx hb d_V_about_93 (by decide) ?_
            cases hf
            exact hret _ _ _ _ hP hD hS d_V_about_94
          · have hf := ite_t c_37 hf
            refine lv_lconst (v := 1) hx hb d_V_about_89 (by decide) ?_
            refine lv_goto (tgt := 94) hx hb d_V_about_90 (by decide) ?_
            cases hf
            exact hret _ _ _ _ hP hD hS d_V_about_94
        · have hf := ite_f c_34 hf
          by_cases c_38 : a2 = (2 : Int32)
          · have hf := ite_t c_38 hf
            refine lv_tableIn (tgt := 95) hx hb d_V_about_34 (by rw [c_38]; decide) (by rw [c_38]; decide) (by rw [c_38]; rfl) (by decide) ?_
            refine lv_aload_n hx hb d_V_about_95 rfl (lv_at hl 1 rfl) ?_
            refine va_get (D := (dC, dI)) (ci := 4) (v := .ref (h 3)) (C := R_V) (T := T_V) (N := 5) hx hb htb in_V hown hK hP 0 rfl rfl 1 (by decide) (htb _ tw_208) (fun _ h9 => h9) rfl d_V_about_96 ?_
            refine lv_iload_n hx hb d_V_about_99 rfl (lv_at hl 0 rfl) ?_
            obtain ⟨r_39, hc_40, hf⟩ := bd1_s hf
            refine ucVl (As := [.int r_31]) (rest := []) ⟨hx, hb, hml, hown, htb⟩ hK hP hD hS hA (fun hs => c_L_sizeOf hc_40) (cwV 1 htb (gV tw_712 tw_393 tw_394 tw_71 tw_395) rfl rfl rfl (by decide +kernel) ⟨Nat.le_of_ble_eq_true rfl, Nat.le_of_ble_eq_true rfl⟩) 3 2 rfl rfl rfl rfl rfl hl.1 (Nat.le_of_ble_eq_true rfl) d_V_about_100 ⟨Nat.zero_le _, Nat.zero_le _⟩ (fun H locs hP hD hS => ?_)
            cases hf
            exact hret _ _ _ _ hP hD hS d_V_about_103
          · have hf := ite_f c_38 hf
            by_cases c_41 : a2 = (3 : Int32)
            · have hf := ite_t c_41 hf
              refine lv_tableIn (tgt := 104) hx hb d_V_about_34 (by rw [c_41]; decide) (by rw [c_41]; decide) (by rw [c_41]; rfl) (by decide) ?_
              refine lv_aload_n hx hb d_V_about_104 rfl (lv_at hl 1 rfl) ?_
              refine va_get (D := (dC, dI)) (ci := 4) (v := .ref (h 3)) (C := R_V) (T := T_V) (N := 5) hx hb htb in_V hown hK hP 0 rfl rfl 1 (by decide) (htb _ tw_208) (fun _ h9 => h9) rfl d_V_about_105 ?_
              refine lv_iload_n hx hb d_V_about_108 rfl (lv_at hl 0 rfl) ?_
              refine lv_bipush (v := 26) hx hb d_V_about_109 (by decide) ?_
              refine lv_iconst (v := 2) hx hb d_V_about_111 (by decide) ?_
              obtain ⟨r_42, hc_43, hf⟩ := bd1_s hf
              refine ucVl (As := [.int r_31, .int ((26 : Int32)), .int ((2 : Int32))]) (rest := []) ⟨hx, hb, hml, hown, htb⟩ hK hP hD hS hA (fun hs => c_L_field hc_43) (cwV 3 htb (gV tw_713 tw_402 tw_403 tw_71 tw_404) rfl rfl rfl (by decide +kernel) ⟨Nat.le_of_ble_eq_true rfl, Nat.le_of_ble_eq_true rfl⟩) 3 2 rfl rfl rfl rfl rfl hl.1 (Nat.le_of_ble_eq_true rfl) d_V_about_112 ⟨Nat.zero_le _, Nat.zero_le _⟩ (fun H locs hP hD hS => ?_)
              cases hf
              exact hret _ _ _ _ hP hD hS d_V_about_115
            · have hf := ite_f c_41 hf
              by_cases c_44 : a2 = (4 : Int32)
              · have hf := ite_t c_44 hf
                refine lv_tableIn (tgt := 116) hx hb d_V_about_34 (by rw [c_44]; decide) (by rw [c_44]; decide) (by rw [c_44]; rfl) (by decide) ?_
                refine lv_aload_n hx hb d_V_about_116 rfl (lv_at hl 1 rfl) ?_
                refine va_get (D := (dC, dI)) (ci := 4) (v := .ref (h 3)) (C := R_V) (T := T_V) (N := 5) hx hb htb in_V hown hK hP 0 rfl rfl 1 (by decide) (htb _ tw_208) (fun _ h9 => h9) rfl d_V_about_117 ?_
                refine lv_iload_n hx hb d_V_about_120 rfl (lv_at hl 0 rfl) ?_
                refine lv_bipush (v := 16) hx hb d_V_about_121 (by decide) ?_
                refine lv_iconst (v := 4) hx hb d_V_about_123 (by decide) ?_
                obtain ⟨r_45, hc_46, hf⟩ := bd1_s hf
                refine ucVl (As := [.int r_31, .int ((16 : Int32)), .int ((4 : Int32))]) (rest := []) ⟨hx, hb, hml, hown, htb⟩ hK hP hD hS hA (fun hs => c_L_field hc_46) (cwV 3 htb (gV tw_713 tw_402 tw_403 tw_71 tw_404) rfl rfl rfl (by decide +kernel) ⟨Nat.le_of_ble_eq_true rfl, Nat.le_of_ble_eq_true rfl⟩) 3 2 rfl rfl rfl rfl rfl hl.1 (Nat.le_of_ble_eq_true rfl) d_V_about_124 ⟨Nat.zero_le _, Nat.zero_le _⟩ (fun H locs hP hD hS => ?_)
                cases hf
                exact hret _ _ _ _ hP hD hS d_V_about_127
              · have hf := ite_f c_44 hf
                by_cases c_47 : a2 = (5 : Int32)
                · have hf := ite_t c_47 hf
                  refine lv_tableIn (tgt := 128) hx hb d_V_about_34 (by rw [c_47]; decide) (by rw [c_47]; decide) (by rw [c_47]; rfl) (by decide) ?_
                  refine lv_aload_n hx hb d_V_about_128 rfl (lv_at hl 1 rfl) ?_
                  refine lv_iload_n hx hb d_V_about_129 rfl (lv_at hl 0 rfl) ?_
                  obtain ⟨r_48, hc_49, hf⟩ := bd1_s hf
                  refine ucVl (As := [.int r_31]) (rest := []) ⟨hx, hb, hml, hown, htb⟩ hK hP hD hS hA (fun hs => c_V_lastBlock hc_49) (cwV 1 htb (gV tw_714 tw_716 tw_29 tw_68 tw_717) rfl rfl rfl (by decide +kernel) ⟨Nat.le_of_ble_eq_true rfl, Nat.le_of_ble_eq_true rfl⟩) 0 4 rfl rfl rfl rfl rfl hl.1 (Nat.le_of_ble_eq_true rfl) d_V_about_130 ⟨Nat.zero_le _, Nat.zero_le _⟩ (fun H locs hP hD hS => ?_)
                  cases hf
                  exact hret _ _ _ _ hP hD hS d_V_about_133
                · have hf := ite_f c_47 hf
                  have gc_33 := lv_neT (a := 0) c_33 (by decide)
                  have gc_34 := lv_neT (a := 1) c_34 (by decide)
                  have gc_38 := lv_neT (a := 2) c_38 (by decide)
                  have gc_41 := lv_neT (a := 3) c_41 (by decide)
                  have gc_44 := lv_neT (a := 4) c_44 (by decide)
                  have gc_47 := lv_neT (a := 5) c_47 (by decide)
                  refine lv_tableOut (tgt := 134) hx hb d_V_about_34 (by omega) (by decide) ?_
                  cases hf
    · have hf := ite_f c_30 hf
      cases hf
      exact absurd rfl c_30
  · have hf := ite_f c_21 hf
    cases hf
set_option maxHeartbeats 4000000 in
set_option maxRecDepth 100000 in
theorem cT_V_about {l : Launch} {dC : Nat → ClassId} {dI : Nat → Nat → Nat} {N : Nat} {h : Nat → Nat} {cI : ClassId} {cL : ClassId} {NW : Nat} {bk : Int32} {sz : Int32} {wd : Nat → Int64} {mb : Nat → Int32} {gB : Int32} {gI : Int32} {gN : Int32} {iN : Int32} {dr : Int32} {es : Int64} {of : Int64} {od : Int32} {pl : Int64} {hd : Int64} {tk : Nat → Int32} {kn : Nat → Int32} {li : Nat → Int32} {pa : Nat → Int32} {ins : Nat → Int32} {cm : Int32} {fd : Int32} {hr : Int32} {hs : Nat} {a1 : Int32} {a2 : Int32} {tag : Nat} {r : Int64} {mb' : Nat → Int32} {gB' : Int32} {gI' : Int32} {gN' : Int32} {iN' : Int32} {dr' : Int32} {es' : Int64} {of' : Int64} {od' : Int32} {pl' : Int64} {hd' : Int64} {tk' : Nat → Int32} {kn' : Nat → Int32} {li' : Nat → Int32} {pa' : Nat → Int32} {ins' : Nat → Int32} {cm' : Int32} {fd' : Int32} (hL : l.stackTraces = false) (htag : tag ≠ 0) (hf : f_V_about N NW bk sz wd mb gB gI gN iN dr es of od pl hd tk kn li pa ins cm fd hr a1 a2 = some (tag, r, mb', gB', gI', gN', iN', dr', es', of', od', pl', hd', tk', kn', li', pa', ins', cm', fd')) : MetT l y_V_about ws_V_about { frames := 7, cells := 1, slots := 6, locals := 150 } (PcT (dC, dI) clAll [(cI, .int), (cL, .long)] (wC h cI cL NW bk sz wd mb gB gI gN iN dr es of od pl hd tk kn li pa ins cm fd hr) hs R_V strsV [.ref (h 0), .int a1, .int a2]) (exn tag) (BT (dC, dI) clAll [(cI, .int), (cL, .long)] (wC h cI cL NW bk sz wd mb gB gI gN iN dr es of od pl hd tk kn li pa ins cm fd hr) (wC h cI cL NW bk sz wd mb' gB' gI' gN' iN' dr' es' of' od' pl' hd' tk' kn' li' pa' ins' cm' fd' hr) hs) 1 6 (va_A (wC h cI cL NW bk sz wd mb gB gI gN iN dr es of od pl hd tk kn li pa ins cm fd hr) hs) := by
  refine mT (cc := b_V_about) (maxL := 4) hL (by decide) rfl rfl rfl (Nat.le_of_ble_eq_true rfl) rfl ?_
  intro p e s m args below meth c Q hx hb hml hts hown A hA hK hP hD hS hZ hSt hthr hgo ls hl
  have htb : ∀ w ∈ TB, w.before args s = true := fun w h => hts w (List.mem_cons_of_mem _ h)
  have hl : lv_has ls 4 [(0, .ref (h 0)), (1, .int a1), (2, .int a2)] := hl
  unfold f_V_about at hf
  refine lv_aload_n hx hb d_V_about_0 rfl (lv_at hl 0 rfl) ?_
  refine va_get (D := (dC, dI)) (ci := 4) (v := .ref (h 6)) (C := R_V) (T := T_V) (N := 5) hx hb htb in_V hown hK hP 0 rfl rfl 3 (by decide) (htb _ tw_210) (fun _ h9 => h9) rfl d_V_about_1 ?_
  obtain ⟨r_1, mb_2, gB_3, gI_4, gN_5, iN_6, dr_7, es_8, of_9, od_10, pl_11, hd_12, tk_13, kn_14, li_15, pa_16, ins_17, cm_18, fd_19, hc_20, hf⟩ := bd19_s hf
  refine ucVi (As := []) (rest := []) ⟨hx, hb, hml, hown, htb⟩ hK hP hD hS hA (fun hs => c_S_firstFault hc_20) (cwV 0 htb (gV tw_276 tw_277 tw_278 tw_73 tw_279) rfl rfl rfl (by decide +kernel) ⟨Nat.le_of_ble_eq_true rfl, Nat.le_of_ble_eq_true rfl⟩) 6 3 rfl rfl rfl rfl rfl hl.1 (Nat.le_of_ble_eq_true rfl) d_V_about_4 ⟨Nat.zero_le _, Nat.zero_le _⟩ (fun H locs hP hD hS => ?_)
  refine lv_if_eq (tgt := 20) hx hb d_V_about_7 (by decide) (fun c_21 => ?_) (fun c_21 => ?_)
  · have hf := ite_t c_21 hf
    refine lv_aload_n hx hb d_V_about_20 rfl (lv_at hl 0 rfl) ?_
    refine lv_iload_n hx hb d_V_about_21 rfl (lv_at hl 1 rfl) ?_
    obtain ⟨tg_22, dr_23, es_24, of_25, od_26, pl_27, hd_28, hc_29, hf⟩ := bd7_s hf
    by_cases c_30 : tg_22 = 0
    · subst c_30
      have hf := ite_t rfl hf
      refine ucVv (As := [.int a1]) (rest := []) ⟨hx, hb, hml, hown, htb⟩ hK hP hD hS hA (fun hs => c0_V_seekItem hc_29) (cwV 1 htb (gV tw_676 tw_678 tw_28 tw_68 tw_679) rfl rfl rfl (by decide +kernel) ⟨Nat.le_of_ble_eq_true rfl, Nat.le_of_ble_eq_true rfl⟩) 0 4 rfl rfl rfl rfl rfl hl.1 (Nat.le_of_ble_eq_true rfl) d_V_about_22 ⟨Nat.zero_le _, Nat.zero_le _⟩ (fun H locs hP hD hS => ?_)
      refine lv_aload_n hx hb d_V_about_25 rfl (lv_at hl 0 rfl) ?_
      refine va_get (D := (dC, dI)) (ci := 4) (v := .ref (h 5)) (C := R_V) (T := T_V) (N := 5) hx hb htb in_V hown hK hP 0 rfl rfl 2 (by decide) (htb _ tw_209) (fun _ h9 => h9) rfl d_V_about_26 ?_
      obtain ⟨r_31, hc_32, hf⟩ := bd1_s hf
      refine ucVi (As := []) (rest := []) ⟨hx, hb, hml, hown, htb⟩ hK hP hD hS hA (fun hs => c_E_inode hc_32) (cwV 0 htb (gV tw_710 tw_483 tw_484 tw_72 tw_485) rfl rfl rfl (by decide +kernel) ⟨Nat.le_of_ble_eq_true rfl, Nat.le_of_ble_eq_true rfl⟩) 5 1 rfl rfl rfl rfl rfl hl.1 (Nat.le_of_ble_eq_true rfl) d_V_about_29 ⟨Nat.zero_le _, Nat.zero_le _⟩ (fun H locs hP hD hS => ?_)
      refine lv_istore_n (lv' := [(3, .int r_31), (0, .ref (h 0)), (1, .int a1), (2, .int a2)]) hx hb d_V_about_32 rfl hl (by decide) rfl (fun ls hl => ?_)
      refine lv_iload_n hx hb d_V_about_33 rfl (lv_at hl 3 rfl) ?_
      by_cases c_33 : a2 = (0 : Int32)
      · have hf := ite_t c_33 hf
        refine lv_tableIn (tgt := 72) hx hb d_V_about_34 (by rw [c_33]; decide) (by rw [c_33]; decide) (by rw [c_33]; rfl) (by decide) ?_
        refine lv_iload_n hx hb d_V_about_72 rfl (lv_at hl 0 rfl) ?_
        refine lv_i2l hx hb d_V_about_73 rfl ?_
        cases hf
        exact absurd rfl htag
      · have hf := ite_f c_33 hf
        by_cases c_34 : a2 = (1 : Int32)
        · have hf := ite_t c_34 hf
          refine lv_tableIn (tgt := 75) hx hb d_V_about_34 (by rw [c_34]; decide) (by rw [c_34]; decide) (by rw [c_34]; rfl) (by decide) ?_
          refine lv_aload_n hx hb d_V_about_75 rfl (lv_at hl 1 rfl) ?_
          refine va_get (D := (dC, dI)) (ci := 4) (v := .ref (h 3)) (C := R_V) (T := T_V) (N := 5) hx hb htb in_V hown hK hP 0 rfl rfl 1 (by decide) (htb _ tw_208) (fun _ h9 => h9) rfl d_V_about_76 ?_
          refine lv_iload_n hx hb d_V_about_79 rfl (lv_at hl 0 rfl) ?_
          obtain ⟨r_35, hc_36, hf⟩ := bd1_s hf
          refine ucVi (As := [.int r_31]) (rest := []) ⟨hx, hb, hml, hown, htb⟩ hK hP hD hS hA (fun hs => c_L_typeOf hc_36) (cwV 1 htb (gV tw_711 tw_379 tw_380 tw_71 tw_381) rfl rfl rfl (by decide +kernel) ⟨Nat.le_of_ble_eq_true rfl, Nat.le_of_ble_eq_true rfl⟩) 3 2 rfl rfl rfl rfl rfl hl.1 (Nat.le_of_ble_eq_true rfl) d_V_about_80 ⟨Nat.zero_le _, Nat.zero_le _⟩ (fun H locs hP hD hS => ?_)
          refine lv_sipush (v := 16384) hx hb d_V_about_83 (by decide) ?_
          refine lv_icmp_ne (tgt := 93) hx hb d_V_about_86 (by decide) (fun c_37 => ?_) (fun c_37 => ?_)
          · have hf := ite_f c_37 hf
            refine lv_lconst (v := 0) hx hb d_V_about_93 (by decide) ?_
            cases hf
            exact absurd rfl htag
          · have hf := ite_t c_37 hf
            refine lv_lconst (v := 1) hx hb d_V_about_89 (by decide) ?_
            refine lv_goto (tgt := 94) hx hb d_V_about_90 (by decide) ?_
            cases hf
            exact absurd rfl htag
        · have hf := ite_f c_34 hf
          by_cases c_38 : a2 = (2 : Int32)
          · have hf := ite_t c_38 hf
            refine lv_tableIn (tgt := 95) hx hb d_V_about_34 (by rw [c_38]; decide) (by rw [c_38]; decide) (by rw [c_38]; rfl) (by decide) ?_
            refine lv_aload_n hx hb d_V_about_95 rfl (lv_at hl 1 rfl) ?_
            refine va_get (D := (dC, dI)) (ci := 4) (v := .ref (h 3)) (C := R_V) (T := T_V) (N := 5) hx hb htb in_V hown hK hP 0 rfl rfl 1 (by decide) (htb _ tw_208) (fun _ h9 => h9) rfl d_V_about_96 ?_
            refine lv_iload_n hx hb d_V_about_99 rfl (lv_at hl 0 rfl) ?_
            obtain ⟨r_39, hc_40, hf⟩ := bd1_s hf
            refine ucVl (As := [.int r_31]) (rest := []) ⟨hx, hb, hml, hown, htb⟩ hK hP hD hS hA (fun hs => c_L_sizeOf hc_40) (cwV 1 htb (gV tw_712 tw_393 tw_394 tw_71 tw_395) rfl rfl rfl (by decide +kernel) ⟨Nat.le_of_ble_eq_true rfl, Nat.le_of_ble_eq_true rfl⟩) 3 2 rfl rfl rfl rfl rfl hl.1 (Nat.le_of_ble_eq_true rfl) d_V_about_100 ⟨Nat.zero_le _, Nat.zero_le _⟩ (fun H locs hP hD hS => ?_)
            cases hf
            exact absurd rfl htag
          · have hf := ite_f c_38 hf
            by_cases c_41 : a2 = (3 : Int32)
            · have hf := ite_t c_41 hf
              refine lv_tableIn (tgt := 104) hx hb d_V_about_34 (by rw [c_41]; decide) (by rw [c_41]; decide) (by rw [c_41]; rfl) (by decide) ?_
              refine lv_aload_n hx hb d_V_about_104 rfl (lv_at hl 1 rfl) ?_
              refine va_get (D := (dC, dI)) (ci := 4) (v := .ref (h 3)) (C := R_V) (T := T_V) (N := 5) hx hb htb in_V hown hK hP 0 rfl rfl 1 (by decide) (htb _ tw_208) (fun _ h9 => h9) rfl d_V_about_105 ?_
              refine lv_iload_n hx hb d_V_about_108 rfl (lv_at hl 0 rfl) ?_
              refine lv_bipush (v := 26) hx hb d_V_about_109 (by decide) ?_
              refine lv_iconst (v := 2) hx hb d_V_about_111 (by decide) ?_
              obtain ⟨r_42, hc_43, hf⟩ := bd1_s hf
              refine ucVl (As := [.int r_31, .int ((26 : Int32)), .int ((2 : Int32))]) (rest := []) ⟨hx, hb, hml, hown, htb⟩ hK hP hD hS hA (fun hs => c_L_field hc_43) (cwV 3 htb (gV tw_713 tw_402 tw_403 tw_71 tw_404) rfl rfl rfl (by decide +kernel) ⟨Nat.le_of_ble_eq_true rfl, Nat.le_of_ble_eq_true rfl⟩) 3 2 rfl rfl rfl rfl rfl hl.1 (Nat.le_of_ble_eq_true rfl) d_V_about_112 ⟨Nat.zero_le _, Nat.zero_le _⟩ (fun H locs hP hD hS => ?_)
              cases hf
              exact absurd rfl htag
            · have hf := ite_f c_41 hf
              by_cases c_44 : a2 = (4 : Int32)
              · have hf := ite_t c_44 hf
                refine lv_tableIn (tgt := 116) hx hb d_V_about_34 (by rw [c_44]; decide) (by rw [c_44]; decide) (by rw [c_44]; rfl) (by decide) ?_
                refine lv_aload_n hx hb d_V_about_116 rfl (lv_at hl 1 rfl) ?_
                refine va_get (D := (dC, dI)) (ci := 4) (v := .ref (h 3)) (C := R_V) (T := T_V) (N := 5) hx hb htb in_V hown hK hP 0 rfl rfl 1 (by decide) (htb _ tw_208) (fun _ h9 => h9) rfl d_V_about_117 ?_
                refine lv_iload_n hx hb d_V_about_120 rfl (lv_at hl 0 rfl) ?_
                refine lv_bipush (v := 16) hx hb d_V_about_121 (by decide) ?_
                refine lv_iconst (v := 4) hx hb d_V_about_123 (by decide) ?_
                obtain ⟨r_45, hc_46, hf⟩ := bd1_s hf
                refine ucVl (As := [.int r_31, .int ((16 : Int32)), .int ((4 : Int32))]) (rest := []) ⟨hx, hb, hml, hown, htb⟩ hK hP hD hS hA (fun hs => c_L_field hc_46) (cwV 3 htb (gV tw_713 tw_402 tw_403 tw_71 tw_404) rfl rfl rfl (by decide +kernel) ⟨Nat.le_of_ble_eq_true rfl, Nat.le_of_ble_eq_true rfl⟩) 3 2 rfl rfl rfl rfl rfl hl.1 (Nat.le_of_ble_eq_true rfl) d_V_about_124 ⟨Nat.zero_le _, Nat.zero_le _⟩ (fun H locs hP hD hS => ?_)
                cases hf
                exact absurd rfl htag
              · have hf := ite_f c_44 hf
                by_cases c_47 : a2 = (5 : Int32)
                · have hf := ite_t c_47 hf
                  refine lv_tableIn (tgt := 128) hx hb d_V_about_34 (by rw [c_47]; decide) (by rw [c_47]; decide) (by rw [c_47]; rfl) (by decide) ?_
                  refine lv_aload_n hx hb d_V_about_128 rfl (lv_at hl 1 rfl) ?_
                  refine lv_iload_n hx hb d_V_about_129 rfl (lv_at hl 0 rfl) ?_
                  obtain ⟨r_48, hc_49, hf⟩ := bd1_s hf
                  refine ucVl (As := [.int r_31]) (rest := []) ⟨hx, hb, hml, hown, htb⟩ hK hP hD hS hA (fun hs => c_V_lastBlock hc_49) (cwV 1 htb (gV tw_714 tw_716 tw_29 tw_68 tw_717) rfl rfl rfl (by decide +kernel) ⟨Nat.le_of_ble_eq_true rfl, Nat.le_of_ble_eq_true rfl⟩) 0 4 rfl rfl rfl rfl rfl hl.1 (Nat.le_of_ble_eq_true rfl) d_V_about_130 ⟨Nat.zero_le _, Nat.zero_le _⟩ (fun H locs hP hD hS => ?_)
                  cases hf
                  exact absurd rfl htag
                · have hf := ite_f c_47 hf
                  have gc_33 := lv_neT (a := 0) c_33 (by decide)
                  have gc_34 := lv_neT (a := 1) c_34 (by decide)
                  have gc_38 := lv_neT (a := 2) c_38 (by decide)
                  have gc_41 := lv_neT (a := 3) c_41 (by decide)
                  have gc_44 := lv_neT (a := 4) c_44 (by decide)
                  have gc_47 := lv_neT (a := 5) c_47 (by decide)
                  refine lv_tableOut (tgt := 134) hx hb d_V_about_34 (by omega) (by decide) ?_
                  cases hf
                  exact hthr "java/lang/IllegalArgumentException" "what is not 0 to 5" xn_IllegalArgumentException 117 119 121 _ _ _ _ _ rfl (by decide +kernel) (by decide +kernel) (by decide +kernel) (htb _ tw_720) (htb _ tw_81) (xat_IllegalArgumentException_121 htb hSt) hl.1 d_V_about_134 d_V_about_137 d_V_about_138 d_V_about_140 d_V_about_143 (Nat.le_of_ble_eq_true rfl) (Nat.le_of_ble_eq_true rfl) hP hD hS
    · have hf := ite_f c_30 hf
      cases hf
      refine ucT (As := [.int a1]) (rest := []) ⟨hx, hb, hml, hown, htb⟩ hK hP hD hS hA hZ hSt (fun hs => cT_V_seekItem hL c_30 hc_29) (cwV 1 htb (gV tw_676 tw_678 tw_28 tw_68 tw_679) rfl rfl rfl (by decide +kernel) ⟨Nat.le_of_ble_eq_true rfl, Nat.le_of_ble_eq_true rfl⟩) 0 4 rfl rfl rfl rfl rfl hl.1 (Nat.le_of_ble_eq_true rfl) d_V_about_22 ⟨Nat.le_of_ble_eq_true rfl, Nat.le_of_ble_eq_true rfl⟩ (fun H locs q9 ce hP hD hS he hv hcl => ?_)
      exact hgo _ _ _ _ _ _ _ he hv hcl hP hD hS
  · have hf := ite_f c_21 hf
    cases hf
    exact hthr "java/lang/IllegalStateException" "the volume is not sound" xn_IllegalStateException 75 77 79 _ _ _ _ _ rfl (by decide +kernel) (by decide +kernel) (by decide +kernel) (htb _ tw_591) (htb _ tw_79) (xat_IllegalStateException_79 htb hSt) hl.1 d_V_about_10 d_V_about_13 d_V_about_14 d_V_about_16 d_V_about_19 (Nat.le_of_ble_eq_true rfl) (Nat.le_of_ble_eq_true rfl) hP hD hS
set_option maxHeartbeats 4000000 in
set_option maxRecDepth 100000 in
theorem c0_V_content {l : Launch} {dC : Nat → ClassId} {dI : Nat → Nat → Nat} {N : Nat} {h : Nat → Nat} {cI : ClassId} {cL : ClassId} {NW : Nat} {bk : Int32} {sz : Int32} {wd : Nat → Int64} {mb : Nat → Int32} {gB : Int32} {gI : Int32} {gN : Int32} {iN : Int32} {dr : Int32} {es : Int64} {of : Int64} {od : Int32} {pl : Int64} {hd : Int64} {tk : Nat → Int32} {kn : Nat → Int32} {li : Nat → Int32} {pa : Nat → Int32} {ins : Nat → Int32} {cm : Int32} {fd : Int32} {hr : Int32} {hs : Nat} {a1 : Int32} {a2 : Int32} {r : Int32} {mb' : Nat → Int32} {gB' : Int32} {gI' : Int32} {gN' : Int32} {iN' : Int32} {dr' : Int32} {es' : Int64} {of' : Int64} {od' : Int32} {pl' : Int64} {hd' : Int64} {tk' : Nat → Int32} {kn' : Nat → Int32} {li' : Nat → Int32} {pa' : Nat → Int32} {ins' : Nat → Int32} {cm' : Int32} {fd' : Int32} (hf : f_V_content N NW bk sz wd mb gB gI gN iN dr es of od pl hd tk kn li pa ins cm fd hr a1 a2 = some (0, r, mb', gB', gI', gN', iN', dr', es', of', od', pl', hd', tk', kn', li', pa', ins', cm', fd')) : Met l y_V_content ws_V_content { frames := 7, cells := 0, slots := 0, locals := 150 } (PcU (dC, dI) clAll [(cI, .int), (cL, .long)] (wC h cI cL NW bk sz wd mb gB gI gN iN dr es of od pl hd tk kn li pa ins cm fd hr) hs [.ref (h 0), .int a1, .int a2]) (QUi (dC, dI) clAll [(cI, .int), (cL, .long)] (wC h cI cL NW bk sz wd mb gB gI gN iN dr es of od pl hd tk kn li pa ins cm fd hr) (wC h cI cL NW bk sz wd mb' gB' gI' gN' iN' dr' es' of' od' pl' hd' tk' kn' li' pa' ins' cm' fd' hr) hs r) 0 0 (va_A (wC h cI cL NW bk sz wd mb gB gI gN iN dr es of od pl hd tk kn li pa ins cm fd hr) hs) := by
  refine mUi (cc := b_V_content) (maxL := 4) (by decide) rfl (Nat.le_of_ble_eq_true rfl) ?_
  intro p e s m args below meth c Q hx hb hml hts hown A hA hK hP hD hS hret ls hl
  have htb : ∀ w ∈ TB, w.before args s = true := fun w h => hts w (List.mem_cons_of_mem _ h)
  have hl : lv_has ls 4 [(0, .ref (h 0)), (1, .int a1), (2, .int a2)] := hl
  unfold f_V_content at hf
  refine lv_aload_n hx hb d_V_content_0 rfl (lv_at hl 0 rfl) ?_
  refine va_get (D := (dC, dI)) (ci := 4) (v := .ref (h 6)) (C := R_V) (T := T_V) (N := 5) hx hb htb in_V hown hK hP 0 rfl rfl 3 (by decide) (htb _ tw_210) (fun _ h9 => h9) rfl d_V_content_1 ?_
  obtain ⟨r_1, mb_2, gB_3, gI_4, gN_5, iN_6, dr_7, es_8, of_9, od_10, pl_11, hd_12, tk_13, kn_14, li_15, pa_16, ins_17, cm_18, fd_19, hc_20, hf⟩ := bd19_s hf
  refine ucVi (As := []) (rest := []) ⟨hx, hb, hml, hown, htb⟩ hK hP hD hS hA (fun hs => c_S_firstFault hc_20) (cwV 0 htb (gV tw_276 tw_277 tw_278 tw_73 tw_279) rfl rfl rfl (by decide +kernel) ⟨Nat.le_of_ble_eq_true rfl, Nat.le_of_ble_eq_true rfl⟩) 6 3 rfl rfl rfl rfl rfl hl.1 (Nat.le_of_ble_eq_true rfl) d_V_content_4 ⟨Nat.zero_le _, Nat.zero_le _⟩ (fun H locs hP hD hS => ?_)
  refine lv_if_eq (tgt := 20) hx hb d_V_content_7 (by decide) (fun c_21 => ?_) (fun c_21 => ?_)
  · have hf := ite_t c_21 hf
    refine lv_aload_n hx hb d_V_content_20 rfl (lv_at hl 0 rfl) ?_
    refine lv_iload_n hx hb d_V_content_21 rfl (lv_at hl 1 rfl) ?_
    obtain ⟨tg_22, dr_23, es_24, of_25, od_26, pl_27, hd_28, hc_29, hf⟩ := bd7_s hf
    by_cases c_30 : tg_22 = 0
    · subst c_30
      have hf := ite_t rfl hf
      refine ucVv (As := [.int a1]) (rest := []) ⟨hx, hb, hml, hown, htb⟩ hK hP hD hS hA (fun hs => c0_V_seekItem hc_29) (cwV 1 htb (gV tw_676 tw_678 tw_28 tw_68 tw_679) rfl rfl rfl (by decide +kernel) ⟨Nat.le_of_ble_eq_true rfl, Nat.le_of_ble_eq_true rfl⟩) 0 4 rfl rfl rfl rfl rfl hl.1 (Nat.le_of_ble_eq_true rfl) d_V_content_22 ⟨Nat.zero_le _, Nat.zero_le _⟩ (fun H locs hP hD hS => ?_)
      refine lv_aload_n hx hb d_V_content_25 rfl (lv_at hl 0 rfl) ?_
      refine va_get (D := (dC, dI)) (ci := 4) (v := .ref (h 5)) (C := R_V) (T := T_V) (N := 5) hx hb htb in_V hown hK hP 0 rfl rfl 2 (by decide) (htb _ tw_209) (fun _ h9 => h9) rfl d_V_content_26 ?_
      obtain ⟨r_31, hc_32, hf⟩ := bd1_s hf
      refine ucVi (As := []) (rest := []) ⟨hx, hb, hml, hown, htb⟩ hK hP hD hS hA (fun hs => c_E_inode hc_32) (cwV 0 htb (gV tw_710 tw_483 tw_484 tw_72 tw_485) rfl rfl rfl (by decide +kernel) ⟨Nat.le_of_ble_eq_true rfl, Nat.le_of_ble_eq_true rfl⟩) 5 1 rfl rfl rfl rfl rfl hl.1 (Nat.le_of_ble_eq_true rfl) d_V_content_29 ⟨Nat.zero_le _, Nat.zero_le _⟩ (fun H locs hP hD hS => ?_)
      refine lv_istore_n (lv' := [(3, .int r_31), (0, .ref (h 0)), (1, .int a1), (2, .int a2)]) hx hb d_V_content_32 rfl hl (by decide) rfl (fun ls hl => ?_)
      refine lv_iload_n hx hb d_V_content_33 rfl (lv_at hl 3 rfl) ?_
      refine lv_if_lt (tgt := 51) hx hb d_V_content_34 (by decide) (fun c_33 => ?_) (fun c_33 => ?_)
      · have hf := ite_t c_33 hf
        refine lv_iconst (v := -1) hx hb d_V_content_51 (by decide) ?_
        cases hf
        exact hret _ _ _ _ hP hD hS d_V_content_52
      · have hf := ite_f c_33 hf
        refine lv_iload_n hx hb d_V_content_37 rfl (lv_at hl 3 rfl) ?_
        refine lv_i2l hx hb d_V_content_38 rfl ?_
        refine lv_aload_n hx hb d_V_content_39 rfl (lv_at hl 1 rfl) ?_
        refine va_get (D := (dC, dI)) (ci := 4) (v := .ref (h 3)) (C := R_V) (T := T_V) (N := 5) hx hb htb in_V hown hK hP 0 rfl rfl 1 (by decide) (htb _ tw_208) (fun _ h9 => h9) rfl d_V_content_40 ?_
        refine lv_iload_n hx hb d_V_content_43 rfl (lv_at hl 0 rfl) ?_
        obtain ⟨r_34, hc_35, hf⟩ := bd1_s hf
        refine ucVl (As := [.int r_31]) (rest := [.long (Int32.toInt64 a2)]) ⟨hx, hb, hml, hown, htb⟩ hK hP hD hS hA (fun hs => c_L_sizeOf hc_35) (cwV 1 htb (gV tw_712 tw_393 tw_394 tw_71 tw_395) rfl rfl rfl (by decide +kernel) ⟨Nat.le_of_ble_eq_true rfl, Nat.le_of_ble_eq_true rfl⟩) 3 2 rfl rfl rfl rfl rfl hl.1 (Nat.le_of_ble_eq_true rfl) d_V_content_44 ⟨Nat.zero_le _, Nat.zero_le _⟩ (fun H locs hP hD hS => ?_)
        refine lc_lt (tgt := 53) hx hb d_V_content_47 d_V_content_48 (by decide) (fun c_36 => ?_) (fun c_36 => ?_)
        · have hf := ite_t c_36 hf
          refine lv_aload_n hx hb d_V_content_53 rfl (lv_at hl 1 rfl) ?_
          refine va_get (D := (dC, dI)) (ci := 4) (v := .ref (h 1)) (C := R_V) (T := T_V) (N := 5) hx hb htb in_V hown hK hP 0 rfl rfl 0 (by decide) (htb _ tw_207) (fun _ h9 => h9) rfl d_V_content_54 ?_
          refine lv_ldc2 (v := 1024) hx hb hown (htb _ tw_743) d_V_content_57 ?_
          refine lv_aload_n hx hb d_V_content_60 rfl (lv_at hl 1 rfl) ?_
          refine va_get (D := (dC, dI)) (ci := 4) (v := .ref (h 3)) (C := R_V) (T := T_V) (N := 5) hx hb htb in_V hown hK hP 0 rfl rfl 1 (by decide) (htb _ tw_208) (fun _ h9 => h9) rfl d_V_content_61 ?_
          refine lv_iload_n hx hb d_V_content_64 rfl (lv_at hl 0 rfl) ?_
          refine lv_iload_n hx hb d_V_content_65 rfl (lv_at hl 3 rfl) ?_
          refine lv_sipush (v := 1024) hx hb d_V_content_66 (by decide) ?_
          refine lv_idiv hx hb d_V_content_69 (by decide) ?_
          obtain ⟨r_37, hc_38, hf⟩ := bd1_s hf
          refine ucVl (As := [.int r_31, .int (a2 / ((1024 : Int32)))]) (rest := [.long ((1024 : Int64)), .ref (h 1)]) ⟨hx, hb, hml, hown, htb⟩ hK hP hD hS hA (fun hs => c_L_blockOf hc_38) (cwV 2 htb (gV tw_719 tw_419 tw_420 tw_71 tw_421) rfl rfl rfl (by decide +kernel) ⟨Nat.le_of_ble_eq_true rfl, Nat.le_of_ble_eq_true rfl⟩) 3 2 rfl rfl rfl rfl rfl hl.1 (Nat.le_of_ble_eq_true rfl) d_V_content_70 ⟨Nat.zero_le _, Nat.zero_le _⟩ (fun H locs hP hD hS => ?_)
          refine lv_lmul hx hb d_V_content_73 ?_
          refine lv_iload_n hx hb d_V_content_74 rfl (lv_at hl 3 rfl) ?_
          refine lv_sipush (v := 1024) hx hb d_V_content_75 (by decide) ?_
          refine lv_irem hx hb d_V_content_78 (by decide) ?_
          refine lv_i2l hx hb d_V_content_79 rfl ?_
          refine lv_ladd hx hb d_V_content_80 ?_
          refine lv_iconst (v := 1) hx hb d_V_content_81 (by decide) ?_
          obtain ⟨r_39, hc_40, hf⟩ := bd1_s hf
          refine ucVl (As := [.long ((((1024 : Int64)) * r_37) + (Int32.toInt64 (a2 - a2 / ((1024 : Int32)) * ((1024 : Int32))))), .int ((1 : Int32))]) (rest := []) ⟨hx, hb, hml, hown, htb⟩ hK hP hD hS hA (fun hs => c_D_number hc_40) (cwV 2 htb (gV tw_271 tw_264 tw_265 tw_69 tw_266) rfl rfl rfl (by decide +kernel) ⟨Nat.le_of_ble_eq_true rfl, Nat.le_of_ble_eq_true rfl⟩) 1 0 rfl rfl rfl rfl rfl hl.1 (Nat.le_of_ble_eq_true rfl) d_V_content_82 ⟨Nat.zero_le _, Nat.zero_le _⟩ (fun H locs hP hD hS => ?_)
          refine lv_l2i hx hb d_V_content_85 rfl ?_
          cases hf
          exact hret _ _ _ _ hP hD hS d_V_content_86
        · have hf := ite_f c_36 hf
          refine lv_iconst (v := -1) hx hb d_V_content_51 (by decide) ?_
          cases hf
          exact hret _ _ _ _ hP hD hS d_V_content_52
    · have hf := ite_f c_30 hf
      cases hf
      exact absurd rfl c_30
  · have hf := ite_f c_21 hf
    cases hf
set_option maxHeartbeats 4000000 in
set_option maxRecDepth 100000 in
theorem cT_V_content {l : Launch} {dC : Nat → ClassId} {dI : Nat → Nat → Nat} {N : Nat} {h : Nat → Nat} {cI : ClassId} {cL : ClassId} {NW : Nat} {bk : Int32} {sz : Int32} {wd : Nat → Int64} {mb : Nat → Int32} {gB : Int32} {gI : Int32} {gN : Int32} {iN : Int32} {dr : Int32} {es : Int64} {of : Int64} {od : Int32} {pl : Int64} {hd : Int64} {tk : Nat → Int32} {kn : Nat → Int32} {li : Nat → Int32} {pa : Nat → Int32} {ins : Nat → Int32} {cm : Int32} {fd : Int32} {hr : Int32} {hs : Nat} {a1 : Int32} {a2 : Int32} {tag : Nat} {r : Int32} {mb' : Nat → Int32} {gB' : Int32} {gI' : Int32} {gN' : Int32} {iN' : Int32} {dr' : Int32} {es' : Int64} {of' : Int64} {od' : Int32} {pl' : Int64} {hd' : Int64} {tk' : Nat → Int32} {kn' : Nat → Int32} {li' : Nat → Int32} {pa' : Nat → Int32} {ins' : Nat → Int32} {cm' : Int32} {fd' : Int32} (hL : l.stackTraces = false) (htag : tag ≠ 0) (hf : f_V_content N NW bk sz wd mb gB gI gN iN dr es of od pl hd tk kn li pa ins cm fd hr a1 a2 = some (tag, r, mb', gB', gI', gN', iN', dr', es', of', od', pl', hd', tk', kn', li', pa', ins', cm', fd')) : MetT l y_V_content ws_V_content { frames := 7, cells := 1, slots := 6, locals := 150 } (PcT (dC, dI) clAll [(cI, .int), (cL, .long)] (wC h cI cL NW bk sz wd mb gB gI gN iN dr es of od pl hd tk kn li pa ins cm fd hr) hs R_V strsV [.ref (h 0), .int a1, .int a2]) (exn tag) (BT (dC, dI) clAll [(cI, .int), (cL, .long)] (wC h cI cL NW bk sz wd mb gB gI gN iN dr es of od pl hd tk kn li pa ins cm fd hr) (wC h cI cL NW bk sz wd mb' gB' gI' gN' iN' dr' es' of' od' pl' hd' tk' kn' li' pa' ins' cm' fd' hr) hs) 1 6 (va_A (wC h cI cL NW bk sz wd mb gB gI gN iN dr es of od pl hd tk kn li pa ins cm fd hr) hs) := by
  refine mT (cc := b_V_content) (maxL := 4) hL (by decide) rfl rfl rfl (Nat.le_of_ble_eq_true rfl) rfl ?_
  intro p e s m args below meth c Q hx hb hml hts hown A hA hK hP hD hS hZ hSt hthr hgo ls hl
  have htb : ∀ w ∈ TB, w.before args s = true := fun w h => hts w (List.mem_cons_of_mem _ h)
  have hl : lv_has ls 4 [(0, .ref (h 0)), (1, .int a1), (2, .int a2)] := hl
  unfold f_V_content at hf
  refine lv_aload_n hx hb d_V_content_0 rfl (lv_at hl 0 rfl) ?_
  refine va_get (D := (dC, dI)) (ci := 4) (v := .ref (h 6)) (C := R_V) (T := T_V) (N := 5) hx hb htb in_V hown hK hP 0 rfl rfl 3 (by decide) (htb _ tw_210) (fun _ h9 => h9) rfl d_V_content_1 ?_
  obtain ⟨r_1, mb_2, gB_3, gI_4, gN_5, iN_6, dr_7, es_8, of_9, od_10, pl_11, hd_12, tk_13, kn_14, li_15, pa_16, ins_17, cm_18, fd_19, hc_20, hf⟩ := bd19_s hf
  refine ucVi (As := []) (rest := []) ⟨hx, hb, hml, hown, htb⟩ hK hP hD hS hA (fun hs => c_S_firstFault hc_20) (cwV 0 htb (gV tw_276 tw_277 tw_278 tw_73 tw_279) rfl rfl rfl (by decide +kernel) ⟨Nat.le_of_ble_eq_true rfl, Nat.le_of_ble_eq_true rfl⟩) 6 3 rfl rfl rfl rfl rfl hl.1 (Nat.le_of_ble_eq_true rfl) d_V_content_4 ⟨Nat.zero_le _, Nat.zero_le _⟩ (fun H locs hP hD hS => ?_)
  refine lv_if_eq (tgt := 20) hx hb d_V_content_7 (by decide) (fun c_21 => ?_) (fun c_21 => ?_)
  · have hf := ite_t c_21 hf
    refine lv_aload_n hx hb d_V_content_20 rfl (lv_at hl 0 rfl) ?_
    refine lv_iload_n hx hb d_V_content_21 rfl (lv_at hl 1 rfl) ?_
    obtain ⟨tg_22, dr_23, es_24, of_25, od_26, pl_27, hd_28, hc_29, hf⟩ := bd7_s hf
    by_cases c_30 : tg_22 = 0
    · subst c_30
      have hf := ite_t rfl hf
      refine ucVv (As := [.int a1]) (rest := []) ⟨hx, hb, hml, hown, htb⟩ hK hP hD hS hA (fun hs => c0_V_seekItem hc_29) (cwV 1 htb (gV tw_676 tw_678 tw_28 tw_68 tw_679) rfl rfl rfl (by decide +kernel) ⟨Nat.le_of_ble_eq_true rfl, Nat.le_of_ble_eq_true rfl⟩) 0 4 rfl rfl rfl rfl rfl hl.1 (Nat.le_of_ble_eq_true rfl) d_V_content_22 ⟨Nat.zero_le _, Nat.zero_le _⟩ (fun H locs hP hD hS => ?_)
      refine lv_aload_n hx hb d_V_content_25 rfl (lv_at hl 0 rfl) ?_
      refine va_get (D := (dC, dI)) (ci := 4) (v := .ref (h 5)) (C := R_V) (T := T_V) (N := 5) hx hb htb in_V hown hK hP 0 rfl rfl 2 (by decide) (htb _ tw_209) (fun _ h9 => h9) rfl d_V_content_26 ?_
      obtain ⟨r_31, hc_32, hf⟩ := bd1_s hf
      refine ucVi (As := []) (rest := []) ⟨hx, hb, hml, hown, htb⟩ hK hP hD hS hA (fun hs => c_E_inode hc_32) (cwV 0 htb (gV tw_710 tw_483 tw_484 tw_72 tw_485) rfl rfl rfl (by decide +kernel) ⟨Nat.le_of_ble_eq_true rfl, Nat.le_of_ble_eq_true rfl⟩) 5 1 rfl rfl rfl rfl rfl hl.1 (Nat.le_of_ble_eq_true rfl) d_V_content_29 ⟨Nat.zero_le _, Nat.zero_le _⟩ (fun H locs hP hD hS => ?_)
      refine lv_istore_n (lv' := [(3, .int r_31), (0, .ref (h 0)), (1, .int a1), (2, .int a2)]) hx hb d_V_content_32 rfl hl (by decide) rfl (fun ls hl => ?_)
      refine lv_iload_n hx hb d_V_content_33 rfl (lv_at hl 3 rfl) ?_
      refine lv_if_lt (tgt := 51) hx hb d_V_content_34 (by decide) (fun c_33 => ?_) (fun c_33 => ?_)
      · have hf := ite_t c_33 hf
        refine lv_iconst (v := -1) hx hb d_V_content_51 (by decide) ?_
        cases hf
        exact absurd rfl htag
      · have hf := ite_f c_33 hf
        refine lv_iload_n hx hb d_V_content_37 rfl (lv_at hl 3 rfl) ?_
        refine lv_i2l hx hb d_V_content_38 rfl ?_
        refine lv_aload_n hx hb d_V_content_39 rfl (lv_at hl 1 rfl) ?_
        refine va_get (D := (dC, dI)) (ci := 4) (v := .ref (h 3)) (C := R_V) (T := T_V) (N := 5) hx hb htb in_V hown hK hP 0 rfl rfl 1 (by decide) (htb _ tw_208) (fun _ h9 => h9) rfl d_V_content_40 ?_
        refine lv_iload_n hx hb d_V_content_43 rfl (lv_at hl 0 rfl) ?_
        obtain ⟨r_34, hc_35, hf⟩ := bd1_s hf
        refine ucVl (As := [.int r_31]) (rest := [.long (Int32.toInt64 a2)]) ⟨hx, hb, hml, hown, htb⟩ hK hP hD hS hA (fun hs => c_L_sizeOf hc_35) (cwV 1 htb (gV tw_712 tw_393 tw_394 tw_71 tw_395) rfl rfl rfl (by decide +kernel) ⟨Nat.le_of_ble_eq_true rfl, Nat.le_of_ble_eq_true rfl⟩) 3 2 rfl rfl rfl rfl rfl hl.1 (Nat.le_of_ble_eq_true rfl) d_V_content_44 ⟨Nat.zero_le _, Nat.zero_le _⟩ (fun H locs hP hD hS => ?_)
        refine lc_lt (tgt := 53) hx hb d_V_content_47 d_V_content_48 (by decide) (fun c_36 => ?_) (fun c_36 => ?_)
        · have hf := ite_t c_36 hf
          refine lv_aload_n hx hb d_V_content_53 rfl (lv_at hl 1 rfl) ?_
          refine va_get (D := (dC, dI)) (ci := 4) (v := .ref (h 1)) (C := R_V) (T := T_V) (N := 5) hx hb htb in_V hown hK hP 0 rfl rfl 0 (by decide) (htb _ tw_207) (fun _ h9 => h9) rfl d_V_content_54 ?_
          refine lv_ldc2 (v := 1024) hx hb hown (htb _ tw_743) d_V_content_57 ?_
          refine lv_aload_n hx hb d_V_content_60 rfl (lv_at hl 1 rfl) ?_
          refine va_get (D := (dC, dI)) (ci := 4) (v := .ref (h 3)) (C := R_V) (T := T_V) (N := 5) hx hb htb in_V hown hK hP 0 rfl rfl 1 (by decide) (htb _ tw_208) (fun _ h9 => h9) rfl d_V_content_61 ?_
          refine lv_iload_n hx hb d_V_content_64 rfl (lv_at hl 0 rfl) ?_
          refine lv_iload_n hx hb d_V_content_65 rfl (lv_at hl 3 rfl) ?_
          refine lv_sipush (v := 1024) hx hb d_V_content_66 (by decide) ?_
          refine lv_idiv hx hb d_V_content_69 (by decide) ?_
          obtain ⟨r_37, hc_38, hf⟩ := bd1_s hf
          refine ucVl (As := [.int r_31, .int (a2 / ((1024 : Int32)))]) (rest := [.long ((1024 : Int64)), .ref (h 1)]) ⟨hx, hb, hml, hown, htb⟩ hK hP hD hS hA (fun hs => c_L_blockOf hc_38) (cwV 2 htb (gV tw_719 tw_419 tw_420 tw_71 tw_421) rfl rfl rfl (by decide +kernel) ⟨Nat.le_of_ble_eq_true rfl, Nat.le_of_ble_eq_true rfl⟩) 3 2 rfl rfl rfl rfl rfl hl.1 (Nat.le_of_ble_eq_true rfl) d_V_content_70 ⟨Nat.zero_le _, Nat.zero_le _⟩ (fun H locs hP hD hS => ?_)
          refine lv_lmul hx hb d_V_content_73 ?_
          refine lv_iload_n hx hb d_V_content_74 rfl (lv_at hl 3 rfl) ?_
          refine lv_sipush (v := 1024) hx hb d_V_content_75 (by decide) ?_
          refine lv_irem hx hb d_V_content_78 (by decide) ?_
          refine lv_i2l hx hb d_V_content_79 rfl ?_
          refine lv_ladd hx hb d_V_content_80 ?_
          refine lv_iconst (v := 1) hx hb d_V_content_81 (by decide) ?_
          obtain ⟨r_39, hc_40, hf⟩ := bd1_s hf
          refine ucVl (As := [.long ((((1024 : Int64)) * r_37) + (Int32.toInt64 (a2 - a2 / ((1024 : Int32)) * ((1024 : Int32))))), .int ((1 : Int32))]) (rest := []) ⟨hx, hb, hml, hown, htb⟩ hK hP hD hS hA (fun hs => c_D_number hc_40) (cwV 2 htb (gV tw_271 tw_264 tw_265 tw_69 tw_266) rfl rfl rfl (by decide +kernel) ⟨Nat.le_of_ble_eq_true rfl, Nat.le_of_ble_eq_true rfl⟩) 1 0 rfl rfl rfl rfl rfl hl.1 (Nat.le_of_ble_eq_true rfl) d_V_content_82 ⟨Nat.zero_le _, Nat.zero_le _⟩ (fun H locs hP hD hS => ?_)
          refine lv_l2i hx hb d_V_content_85 rfl ?_
          cases hf
          exact absurd rfl htag
        · have hf := ite_f c_36 hf
          refine lv_iconst (v := -1) hx hb d_V_content_51 (by decide) ?_
          cases hf
          exact absurd rfl htag
    · have hf := ite_f c_30 hf
      cases hf
      refine ucT (As := [.int a1]) (rest := []) ⟨hx, hb, hml, hown, htb⟩ hK hP hD hS hA hZ hSt (fun hs => cT_V_seekItem hL c_30 hc_29) (cwV 1 htb (gV tw_676 tw_678 tw_28 tw_68 tw_679) rfl rfl rfl (by decide +kernel) ⟨Nat.le_of_ble_eq_true rfl, Nat.le_of_ble_eq_true rfl⟩) 0 4 rfl rfl rfl rfl rfl hl.1 (Nat.le_of_ble_eq_true rfl) d_V_content_22 ⟨Nat.le_of_ble_eq_true rfl, Nat.le_of_ble_eq_true rfl⟩ (fun H locs q9 ce hP hD hS he hv hcl => ?_)
      exact hgo _ _ _ _ _ _ _ he hv hcl hP hD hS
  · have hf := ite_f c_21 hf
    cases hf
    exact hthr "java/lang/IllegalStateException" "the volume is not sound" xn_IllegalStateException 75 77 79 _ _ _ _ _ rfl (by decide +kernel) (by decide +kernel) (by decide +kernel) (htb _ tw_591) (htb _ tw_79) (xat_IllegalStateException_79 htb hSt) hl.1 d_V_content_10 d_V_content_13 d_V_content_14 d_V_content_16 d_V_content_19 (Nat.le_of_ble_eq_true rfl) (Nat.le_of_ble_eq_true rfl) hP hD hS
set_option maxHeartbeats 4000000 in
set_option maxRecDepth 100000 in
theorem c0_V_enter {l : Launch} {dC : Nat → ClassId} {dI : Nat → Nat → Nat} {N : Nat} {h : Nat → Nat} {cI : ClassId} {cL : ClassId} {NW : Nat} {bk : Int32} {sz : Int32} {wd : Nat → Int64} {mb : Nat → Int32} {gB : Int32} {gI : Int32} {gN : Int32} {iN : Int32} {dr : Int32} {es : Int64} {of : Int64} {od : Int32} {pl : Int64} {hd : Int64} {tk : Nat → Int32} {kn : Nat → Int32} {li : Nat → Int32} {pa : Nat → Int32} {ins : Nat → Int32} {cm : Int32} {fd : Int32} {hr : Int32} {hs : Nat} {a1 : Int32} {r : Int32} {mb' : Nat → Int32} {gB' : Int32} {gI' : Int32} {gN' : Int32} {iN' : Int32} {dr' : Int32} {es' : Int64} {of' : Int64} {od' : Int32} {pl' : Int64} {hd' : Int64} {tk' : Nat → Int32} {kn' : Nat → Int32} {li' : Nat → Int32} {pa' : Nat → Int32} {ins' : Nat → Int32} {cm' : Int32} {fd' : Int32} {hr' : Int32} (hf : f_V_enter N NW bk sz wd mb gB gI gN iN dr es of od pl hd tk kn li pa ins cm fd hr a1 = some (0, r, mb', gB', gI', gN', iN', dr', es', of', od', pl', hd', tk', kn', li', pa', ins', cm', fd', hr')) : Met l y_V_enter ws_V_enter { frames := 7, cells := 0, slots := 0, locals := 150 } (PcU (dC, dI) clAll [(cI, .int), (cL, .long)] (wC h cI cL NW bk sz wd mb gB gI gN iN dr es of od pl hd tk kn li pa ins cm fd hr) hs [.ref (h 0), .int a1]) (QUi (dC, dI) clAll [(cI, .int), (cL, .long)] (wC h cI cL NW bk sz wd mb gB gI gN iN dr es of od pl hd tk kn li pa ins cm fd hr) (wC h cI cL NW bk sz wd mb' gB' gI' gN' iN' dr' es' of' od' pl' hd' tk' kn' li' pa' ins' cm' fd' hr') hs r) 0 0 (va_A (wC h cI cL NW bk sz wd mb gB gI gN iN dr es of od pl hd tk kn li pa ins cm fd hr) hs) := by
  refine mUi (cc := b_V_enter) (maxL := 3) (by decide) rfl (Nat.le_of_ble_eq_true rfl) ?_
  intro p e s m args below meth c Q hx hb hml hts hown A hA hK hP hD hS hret ls hl
  have htb : ∀ w ∈ TB, w.before args s = true := fun w h => hts w (List.mem_cons_of_mem _ h)
  have hl : lv_has ls 3 [(0, .ref (h 0)), (1, .int a1)] := hl
  unfold f_V_enter at hf
  refine lv_aload_n hx hb d_V_enter_0 rfl (lv_at hl 0 rfl) ?_
  refine va_get (D := (dC, dI)) (ci := 4) (v := .ref (h 6)) (C := R_V) (T := T_V) (N := 5) hx hb htb in_V hown hK hP 0 rfl rfl 3 (by decide) (htb _ tw_210) (fun _ h9 => h9) rfl d_V_enter_1 ?_
  obtain ⟨r_1, mb_2, gB_3, gI_4, gN_5, iN_6, dr_7, es_8, of_9, od_10, pl_11, hd_12, tk_13, kn_14, li_15, pa_16, ins_17, cm_18, fd_19, hc_20, hf⟩ := bd19_s hf
  refine ucVi (As := []) (rest := []) ⟨hx, hb, hml, hown, htb⟩ hK hP hD hS hA (fun hs => c_S_firstFault hc_20) (cwV 0 htb (gV tw_276 tw_277 tw_278 tw_73 tw_279) rfl rfl rfl (by decide +kernel) ⟨Nat.le_of_ble_eq_true rfl, Nat.le_of_ble_eq_true rfl⟩) 6 3 rfl rfl rfl rfl rfl hl.1 (Nat.le_of_ble_eq_true rfl) d_V_enter_4 ⟨Nat.zero_le _, Nat.zero_le _⟩ (fun H locs hP hD hS => ?_)
  refine lv_if_eq (tgt := 20) hx hb d_V_enter_7 (by decide) (fun c_21 => ?_) (fun c_21 => ?_)
  · have hf := ite_t c_21 hf
    refine lv_aload_n hx hb d_V_enter_20 rfl (lv_at hl 0 rfl) ?_
    refine lv_iload_n hx hb d_V_enter_21 rfl (lv_at hl 1 rfl) ?_
    obtain ⟨tg_22, dr_23, es_24, of_25, od_26, pl_27, hd_28, hc_29, hf⟩ := bd7_s hf
    by_cases c_30 : tg_22 = 0
    · subst c_30
      have hf := ite_t rfl hf
      refine ucVv (As := [.int a1]) (rest := []) ⟨hx, hb, hml, hown, htb⟩ hK hP hD hS hA (fun hs => c0_V_seekItem hc_29) (cwV 1 htb (gV tw_676 tw_678 tw_28 tw_68 tw_679) rfl rfl rfl (by decide +kernel) ⟨Nat.le_of_ble_eq_true rfl, Nat.le_of_ble_eq_true rfl⟩) 0 4 rfl rfl rfl rfl rfl hl.1 (Nat.le_of_ble_eq_true rfl) d_V_enter_22 ⟨Nat.zero_le _, Nat.zero_le _⟩ (fun H locs hP hD hS => ?_)
      refine lv_aload_n hx hb d_V_enter_25 rfl (lv_at hl 0 rfl) ?_
      refine va_get (D := (dC, dI)) (ci := 4) (v := .ref (h 5)) (C := R_V) (T := T_V) (N := 5) hx hb htb in_V hown hK hP 0 rfl rfl 2 (by decide) (htb _ tw_209) (fun _ h9 => h9) rfl d_V_enter_26 ?_
      obtain ⟨r_31, hc_32, hf⟩ := bd1_s hf
      refine ucVi (As := []) (rest := []) ⟨hx, hb, hml, hown, htb⟩ hK hP hD hS hA (fun hs => c_E_inode hc_32) (cwV 0 htb (gV tw_710 tw_483 tw_484 tw_72 tw_485) rfl rfl rfl (by decide +kernel) ⟨Nat.le_of_ble_eq_true rfl, Nat.le_of_ble_eq_true rfl⟩) 5 1 rfl rfl rfl rfl rfl hl.1 (Nat.le_of_ble_eq_true rfl) d_V_enter_29 ⟨Nat.zero_le _, Nat.zero_le _⟩ (fun H locs hP hD hS => ?_)
      refine lv_istore_n (lv' := [(2, .int r_31), (0, .ref (h 0)), (1, .int a1)]) hx hb d_V_enter_32 rfl hl (by decide) rfl (fun ls hl => ?_)
      refine lv_aload_n hx hb d_V_enter_33 rfl (lv_at hl 1 rfl) ?_
      refine va_get (D := (dC, dI)) (ci := 4) (v := .ref (h 3)) (C := R_V) (T := T_V) (N := 5) hx hb htb in_V hown hK hP 0 rfl rfl 1 (by decide) (htb _ tw_208) (fun _ h9 => h9) rfl d_V_enter_34 ?_
      refine lv_iload_n hx hb d_V_enter_37 rfl (lv_at hl 0 rfl) ?_
      obtain ⟨r_33, hc_34, hf⟩ := bd1_s hf
      refine ucVi (As := [.int r_31]) (rest := []) ⟨hx, hb, hml, hown, htb⟩ hK hP hD hS hA (fun hs => c_L_typeOf hc_34) (cwV 1 htb (gV tw_711 tw_379 tw_380 tw_71 tw_381) rfl rfl rfl (by decide +kernel) ⟨Nat.le_of_ble_eq_true rfl, Nat.le_of_ble_eq_true rfl⟩) 3 2 rfl rfl rfl rfl rfl hl.1 (Nat.le_of_ble_eq_true rfl) d_V_enter_38 ⟨Nat.zero_le _, Nat.zero_le _⟩ (fun H locs hP hD hS => ?_)
      refine lv_sipush (v := 16384) hx hb d_V_enter_41 (by decide) ?_
      refine lv_icmp_eq (tgt := 57) hx hb d_V_enter_44 (by decide) (fun c_35 => ?_) (fun c_35 => ?_)
      · have hf := ite_t c_35 hf
        refine lv_aload_n hx hb d_V_enter_57 rfl (lv_at hl 1 rfl) ?_
        refine lv_iload_n hx hb d_V_enter_58 rfl (lv_at hl 0 rfl) ?_
        refine va_put (D := (dC, dI)) (ci := 4) (v := .int r_31) (ty := .int) (C := R_V) (T := T_V) (N := 5) hx hb htb in_V ty_V tyok_V nm_V hown hK hP hD hS 0 rfl rfl 4 (by decide) (htb _ tw_211) (fun _ h9 => h9) rfl (by decide +kernel) rfl rfl (Nat.le_of_ble_eq_true rfl) d_V_enter_59 (fun H locs hP hD hS => ?_)
        have hP : va_P (dC, dI) clAll (wC h cI cL NW bk sz wd mb_2 gB_3 gI_4 gN_5 iN_6 dr_23 es_24 of_25 od_26 pl_27 hd_28 tk_13 kn_14 li_15 pa_16 ins_17 cm_18 fd_19 r_31) H := hP
        have hD : va_D A (wC h cI cL NW bk sz wd mb_2 gB_3 gI_4 gN_5 iN_6 dr_23 es_24 of_25 od_26 pl_27 hd_28 tk_13 kn_14 li_15 pa_16 ins_17 cm_18 fd_19 r_31) := hD
        refine lv_aload_n hx hb d_V_enter_62 rfl (lv_at hl 1 rfl) ?_
        obtain ⟨r_36, dr_37, es_38, of_39, od_40, pl_41, hd_42, hc_43, hf⟩ := bd7_s hf
        refine ucVi (As := []) (rest := []) ⟨hx, hb, hml, hown, htb⟩ hK hP hD hS hA (fun hs => c_V_countItems hc_43) (cwV 0 htb (gV tw_659 tw_661 tw_27 tw_68 tw_662) rfl rfl rfl (by decide +kernel) ⟨Nat.le_of_ble_eq_true rfl, Nat.le_of_ble_eq_true rfl⟩) 0 4 rfl rfl rfl rfl rfl hl.1 (Nat.le_of_ble_eq_true rfl) d_V_enter_63 ⟨Nat.zero_le _, Nat.zero_le _⟩ (fun H locs hP hD hS => ?_)
        cases hf
        exact hret _ _ _ _ hP hD hS d_V_enter_66
      · have hf := ite_f c_35 hf
        cases hf
    · have hf := ite_f c_30 hf
      cases hf
      exact absurd rfl c_30
  · have hf := ite_f c_21 hf
    cases hf
set_option maxHeartbeats 4000000 in
set_option maxRecDepth 100000 in
theorem cT_V_enter {l : Launch} {dC : Nat → ClassId} {dI : Nat → Nat → Nat} {N : Nat} {h : Nat → Nat} {cI : ClassId} {cL : ClassId} {NW : Nat} {bk : Int32} {sz : Int32} {wd : Nat → Int64} {mb : Nat → Int32} {gB : Int32} {gI : Int32} {gN : Int32} {iN : Int32} {dr : Int32} {es : Int64} {of : Int64} {od : Int32} {pl : Int64} {hd : Int64} {tk : Nat → Int32} {kn : Nat → Int32} {li : Nat → Int32} {pa : Nat → Int32} {ins : Nat → Int32} {cm : Int32} {fd : Int32} {hr : Int32} {hs : Nat} {a1 : Int32} {tag : Nat} {r : Int32} {mb' : Nat → Int32} {gB' : Int32} {gI' : Int32} {gN' : Int32} {iN' : Int32} {dr' : Int32} {es' : Int64} {of' : Int64} {od' : Int32} {pl' : Int64} {hd' : Int64} {tk' : Nat → Int32} {kn' : Nat → Int32} {li' : Nat → Int32} {pa' : Nat → Int32} {ins' : Nat → Int32} {cm' : Int32} {fd' : Int32} {hr' : Int32} (hL : l.stackTraces = false) (htag : tag ≠ 0) (hf : f_V_enter N NW bk sz wd mb gB gI gN iN dr es of od pl hd tk kn li pa ins cm fd hr a1 = some (tag, r, mb', gB', gI', gN', iN', dr', es', of', od', pl', hd', tk', kn', li', pa', ins', cm', fd', hr')) : MetT l y_V_enter ws_V_enter { frames := 7, cells := 1, slots := 6, locals := 150 } (PcT (dC, dI) clAll [(cI, .int), (cL, .long)] (wC h cI cL NW bk sz wd mb gB gI gN iN dr es of od pl hd tk kn li pa ins cm fd hr) hs R_V strsV [.ref (h 0), .int a1]) (exn tag) (BT (dC, dI) clAll [(cI, .int), (cL, .long)] (wC h cI cL NW bk sz wd mb gB gI gN iN dr es of od pl hd tk kn li pa ins cm fd hr) (wC h cI cL NW bk sz wd mb' gB' gI' gN' iN' dr' es' of' od' pl' hd' tk' kn' li' pa' ins' cm' fd' hr') hs) 1 6 (va_A (wC h cI cL NW bk sz wd mb gB gI gN iN dr es of od pl hd tk kn li pa ins cm fd hr) hs) := by
  refine mT (cc := b_V_enter) (maxL := 3) hL (by decide) rfl rfl rfl (Nat.le_of_ble_eq_true rfl) rfl ?_
  intro p e s m args below meth c Q hx hb hml hts hown A hA hK hP hD hS hZ hSt hthr hgo ls hl
  have htb : ∀ w ∈ TB, w.before args s = true := fun w h => hts w (List.mem_cons_of_mem _ h)
  have hl : lv_has ls 3 [(0, .ref (h 0)), (1, .int a1)] := hl
  unfold f_V_enter at hf
  refine lv_aload_n hx hb d_V_enter_0 rfl (lv_at hl 0 rfl) ?_
  refine va_get (D := (dC, dI)) (ci := 4) (v := .ref (h 6)) (C := R_V) (T := T_V) (N := 5) hx hb htb in_V hown hK hP 0 rfl rfl 3 (by decide) (htb _ tw_210) (fun _ h9 => h9) rfl d_V_enter_1 ?_
  obtain ⟨r_1, mb_2, gB_3, gI_4, gN_5, iN_6, dr_7, es_8, of_9, od_10, pl_11, hd_12, tk_13, kn_14, li_15, pa_16, ins_17, cm_18, fd_19, hc_20, hf⟩ := bd19_s hf
  refine ucVi (As := []) (rest := []) ⟨hx, hb, hml, hown, htb⟩ hK hP hD hS hA (fun hs => c_S_firstFault hc_20) (cwV 0 htb (gV tw_276 tw_277 tw_278 tw_73 tw_279) rfl rfl rfl (by decide +kernel) ⟨Nat.le_of_ble_eq_true rfl, Nat.le_of_ble_eq_true rfl⟩) 6 3 rfl rfl rfl rfl rfl hl.1 (Nat.le_of_ble_eq_true rfl) d_V_enter_4 ⟨Nat.zero_le _, Nat.zero_le _⟩ (fun H locs hP hD hS => ?_)
  refine lv_if_eq (tgt := 20) hx hb d_V_enter_7 (by decide) (fun c_21 => ?_) (fun c_21 => ?_)
  · have hf := ite_t c_21 hf
    refine lv_aload_n hx hb d_V_enter_20 rfl (lv_at hl 0 rfl) ?_
    refine lv_iload_n hx hb d_V_enter_21 rfl (lv_at hl 1 rfl) ?_
    obtain ⟨tg_22, dr_23, es_24, of_25, od_26, pl_27, hd_28, hc_29, hf⟩ := bd7_s hf
    by_cases c_30 : tg_22 = 0
    · subst c_30
      have hf := ite_t rfl hf
      refine ucVv (As := [.int a1]) (rest := []) ⟨hx, hb, hml, hown, htb⟩ hK hP hD hS hA (fun hs => c0_V_seekItem hc_29) (cwV 1 htb (gV tw_676 tw_678 tw_28 tw_68 tw_679) rfl rfl rfl (by decide +kernel) ⟨Nat.le_of_ble_eq_true rfl, Nat.le_of_ble_eq_true rfl⟩) 0 4 rfl rfl rfl rfl rfl hl.1 (Nat.le_of_ble_eq_true rfl) d_V_enter_22 ⟨Nat.zero_le _, Nat.zero_le _⟩ (fun H locs hP hD hS => ?_)
      refine lv_aload_n hx hb d_V_enter_25 rfl (lv_at hl 0 rfl) ?_
      refine va_get (D := (dC, dI)) (ci := 4) (v := .ref (h 5)) (C := R_V) (T := T_V) (N := 5) hx hb htb in_V hown hK hP 0 rfl rfl 2 (by decide) (htb _ tw_209) (fun _ h9 => h9) rfl d_V_enter_26 ?_
      obtain ⟨r_31, hc_32, hf⟩ := bd1_s hf
      refine ucVi (As := []) (rest := []) ⟨hx, hb, hml, hown, htb⟩ hK hP hD hS hA (fun hs => c_E_inode hc_32) (cwV 0 htb (gV tw_710 tw_483 tw_484 tw_72 tw_485) rfl rfl rfl (by decide +kernel) ⟨Nat.le_of_ble_eq_true rfl, Nat.le_of_ble_eq_true rfl⟩) 5 1 rfl rfl rfl rfl rfl hl.1 (Nat.le_of_ble_eq_true rfl) d_V_enter_29 ⟨Nat.zero_le _, Nat.zero_le _⟩ (fun H locs hP hD hS => ?_)
      refine lv_istore_n (lv' := [(2, .int r_31), (0, .ref (h 0)), (1, .int a1)]) hx hb d_V_enter_32 rfl hl (by decide) rfl (fun ls hl => ?_)
      refine lv_aload_n hx hb d_V_enter_33 rfl (lv_at hl 1 rfl) ?_
      refine va_get (D := (dC, dI)) (ci := 4) (v := .ref (h 3)) (C := R_V) (T := T_V) (N := 5) hx hb htb in_V hown hK hP 0 rfl rfl 1 (by decide) (htb _ tw_208) (fun _ h9 => h9) rfl d_V_enter_34 ?_
      refine lv_iload_n hx hb d_V_enter_37 rfl (lv_at hl 0 rfl) ?_
      obtain ⟨r_33, hc_34, hf⟩ := bd1_s hf
      refine ucVi (As := [.int r_31]) (rest := []) ⟨hx, hb, hml, hown, htb⟩ hK hP hD hS hA (fun hs => c_L_typeOf hc_34) (cwV 1 htb (gV tw_711 tw_379 tw_380 tw_71 tw_381) rfl rfl rfl (by decide +kernel) ⟨Nat.le_of_ble_eq_true rfl, Nat.le_of_ble_eq_true rfl⟩) 3 2 rfl rfl rfl rfl rfl hl.1 (Nat.le_of_ble_eq_true rfl) d_V_enter_38 ⟨Nat.zero_le _, Nat.zero_le _⟩ (fun H locs hP hD hS => ?_)
      refine lv_sipush (v := 16384) hx hb d_V_enter_41 (by decide) ?_
      refine lv_icmp_eq (tgt := 57) hx hb d_V_enter_44 (by decide) (fun c_35 => ?_) (fun c_35 => ?_)
      · have hf := ite_t c_35 hf
        refine lv_aload_n hx hb d_V_enter_57 rfl (lv_at hl 1 rfl) ?_
        refine lv_iload_n hx hb d_V_enter_58 rfl (lv_at hl 0 rfl) ?_
        refine va_put (D := (dC, dI)) (ci := 4) (v := .int r_31) (ty := .int) (C := R_V) (T := T_V) (N := 5) hx hb htb in_V ty_V tyok_V nm_V hown hK hP hD hS 0 rfl rfl 4 (by decide) (htb _ tw_211) (fun _ h9 => h9) rfl (by decide +kernel) rfl rfl (Nat.le_of_ble_eq_true rfl) d_V_enter_59 (fun H locs hP hD hS => ?_)
        have hP : va_P (dC, dI) clAll (wC h cI cL NW bk sz wd mb_2 gB_3 gI_4 gN_5 iN_6 dr_23 es_24 of_25 od_26 pl_27 hd_28 tk_13 kn_14 li_15 pa_16 ins_17 cm_18 fd_19 r_31) H := hP
        have hD : va_D A (wC h cI cL NW bk sz wd mb_2 gB_3 gI_4 gN_5 iN_6 dr_23 es_24 of_25 od_26 pl_27 hd_28 tk_13 kn_14 li_15 pa_16 ins_17 cm_18 fd_19 r_31) := hD
        refine lv_aload_n hx hb d_V_enter_62 rfl (lv_at hl 1 rfl) ?_
        obtain ⟨r_36, dr_37, es_38, of_39, od_40, pl_41, hd_42, hc_43, hf⟩ := bd7_s hf
        refine ucVi (As := []) (rest := []) ⟨hx, hb, hml, hown, htb⟩ hK hP hD hS hA (fun hs => c_V_countItems hc_43) (cwV 0 htb (gV tw_659 tw_661 tw_27 tw_68 tw_662) rfl rfl rfl (by decide +kernel) ⟨Nat.le_of_ble_eq_true rfl, Nat.le_of_ble_eq_true rfl⟩) 0 4 rfl rfl rfl rfl rfl hl.1 (Nat.le_of_ble_eq_true rfl) d_V_enter_63 ⟨Nat.zero_le _, Nat.zero_le _⟩ (fun H locs hP hD hS => ?_)
        cases hf
        exact absurd rfl htag
      · have hf := ite_f c_35 hf
        cases hf
        exact hthr "java/lang/IllegalArgumentException" "the item is a file" xn_IllegalArgumentException 117 128 121 _ _ _ _ _ rfl (by decide +kernel) (by decide +kernel) (by decide +kernel) (htb _ tw_720) (htb _ tw_81) (xat_IllegalArgumentException_121 htb hSt) hl.1 d_V_enter_47 d_V_enter_50 d_V_enter_51 d_V_enter_53 d_V_enter_56 (Nat.le_of_ble_eq_true rfl) (Nat.le_of_ble_eq_true rfl) hP hD hS
    · have hf := ite_f c_30 hf
      cases hf
      refine ucT (As := [.int a1]) (rest := []) ⟨hx, hb, hml, hown, htb⟩ hK hP hD hS hA hZ hSt (fun hs => cT_V_seekItem hL c_30 hc_29) (cwV 1 htb (gV tw_676 tw_678 tw_28 tw_68 tw_679) rfl rfl rfl (by decide +kernel) ⟨Nat.le_of_ble_eq_true rfl, Nat.le_of_ble_eq_true rfl⟩) 0 4 rfl rfl rfl rfl rfl hl.1 (Nat.le_of_ble_eq_true rfl) d_V_enter_22 ⟨Nat.le_of_ble_eq_true rfl, Nat.le_of_ble_eq_true rfl⟩ (fun H locs q9 ce hP hD hS he hv hcl => ?_)
      exact hgo _ _ _ _ _ _ _ he hv hcl hP hD hS
  · have hf := ite_f c_21 hf
    cases hf
    exact hthr "java/lang/IllegalStateException" "the volume is not sound" xn_IllegalStateException 75 77 79 _ _ _ _ _ rfl (by decide +kernel) (by decide +kernel) (by decide +kernel) (htb _ tw_591) (htb _ tw_79) (xat_IllegalStateException_79 htb hSt) hl.1 d_V_enter_10 d_V_enter_13 d_V_enter_14 d_V_enter_16 d_V_enter_19 (Nat.le_of_ble_eq_true rfl) (Nat.le_of_ble_eq_true rfl) hP hD hS
set_option maxHeartbeats 4000000 in
set_option maxRecDepth 100000 in
theorem c0_V_up {l : Launch} {dC : Nat → ClassId} {dI : Nat → Nat → Nat} {N : Nat} {h : Nat → Nat} {cI : ClassId} {cL : ClassId} {NW : Nat} {bk : Int32} {sz : Int32} {wd : Nat → Int64} {mb : Nat → Int32} {gB : Int32} {gI : Int32} {gN : Int32} {iN : Int32} {dr : Int32} {es : Int64} {of : Int64} {od : Int32} {pl : Int64} {hd : Int64} {tk : Nat → Int32} {kn : Nat → Int32} {li : Nat → Int32} {pa : Nat → Int32} {ins : Nat → Int32} {cm : Int32} {fd : Int32} {hr : Int32} {hs : Nat} {r : Int32} {mb' : Nat → Int32} {gB' : Int32} {gI' : Int32} {gN' : Int32} {iN' : Int32} {dr' : Int32} {es' : Int64} {of' : Int64} {od' : Int32} {pl' : Int64} {hd' : Int64} {tk' : Nat → Int32} {kn' : Nat → Int32} {li' : Nat → Int32} {pa' : Nat → Int32} {ins' : Nat → Int32} {cm' : Int32} {fd' : Int32} {hr' : Int32} (hf : f_V_up N NW bk sz wd mb gB gI gN iN dr es of od pl hd tk kn li pa ins cm fd hr = some (0, r, mb', gB', gI', gN', iN', dr', es', of', od', pl', hd', tk', kn', li', pa', ins', cm', fd', hr')) : Met l y_V_up ws_V_up { frames := 6, cells := 0, slots := 0, locals := 150 } (PcU (dC, dI) clAll [(cI, .int), (cL, .long)] (wC h cI cL NW bk sz wd mb gB gI gN iN dr es of od pl hd tk kn li pa ins cm fd hr) hs [.ref (h 0)]) (QUi (dC, dI) clAll [(cI, .int), (cL, .long)] (wC h cI cL NW bk sz wd mb gB gI gN iN dr es of od pl hd tk kn li pa ins cm fd hr) (wC h cI cL NW bk sz wd mb' gB' gI' gN' iN' dr' es' of' od' pl' hd' tk' kn' li' pa' ins' cm' fd' hr') hs r) 0 0 (va_A (wC h cI cL NW bk sz wd mb gB gI gN iN dr es of od pl hd tk kn li pa ins cm fd hr) hs) := by
  refine mUz (cc := b_V_up) (maxL := 1) (by decide) rfl (Nat.le_of_ble_eq_true rfl) ?_
  intro p e s m args below meth c Q hx hb hml hts hown A hA hK hP hD hS hret ls hl
  have htb : ∀ w ∈ TB, w.before args s = true := fun w h => hts w (List.mem_cons_of_mem _ h)
  have hl : lv_has ls 1 [(0, .ref (h 0))] := hl
  unfold f_V_up at hf
  refine lv_aload_n hx hb d_V_up_0 rfl (lv_at hl 0 rfl) ?_
  refine va_get (D := (dC, dI)) (ci := 4) (v := .ref (h 6)) (C := R_V) (T := T_V) (N := 5) hx hb htb in_V hown hK hP 0 rfl rfl 3 (by decide) (htb _ tw_210) (fun _ h9 => h9) rfl d_V_up_1 ?_
  obtain ⟨r_1, mb_2, gB_3, gI_4, gN_5, iN_6, dr_7, es_8, of_9, od_10, pl_11, hd_12, tk_13, kn_14, li_15, pa_16, ins_17, cm_18, fd_19, hc_20, hf⟩ := bd19_s hf
  refine ucVi (As := []) (rest := []) ⟨hx, hb, hml, hown, htb⟩ hK hP hD hS hA (fun hs => c_S_firstFault hc_20) (cwV 0 htb (gV tw_276 tw_277 tw_278 tw_73 tw_279) rfl rfl rfl (by decide +kernel) ⟨Nat.le_of_ble_eq_true rfl, Nat.le_of_ble_eq_true rfl⟩) 6 3 rfl rfl rfl rfl rfl hl.1 (Nat.le_of_ble_eq_true rfl) d_V_up_4 ⟨Nat.zero_le _, Nat.zero_le _⟩ (fun H locs hP hD hS => ?_)
  refine lv_if_eq (tgt := 20) hx hb d_V_up_7 (by decide) (fun c_21 => ?_) (fun c_21 => ?_)
  · have hf := ite_t c_21 hf
    refine lv_aload_n hx hb d_V_up_20 rfl (lv_at hl 0 rfl) ?_
    refine va_get (D := (dC, dI)) (ci := 4) (v := .int hr) (C := R_V) (T := T_V) (N := 5) hx hb htb in_V hown hK hP 0 rfl rfl 4 (by decide) (htb _ tw_211) (fun _ h9 => h9) rfl d_V_up_21 ?_
    refine lv_iconst (v := 2) hx hb d_V_up_24 (by decide) ?_
    refine lv_icmp_ne (tgt := 30) hx hb d_V_up_25 (by decide) (fun c_22 => ?_) (fun c_22 => ?_)
    · have hf := ite_f c_22 hf
      refine lv_aload_n hx hb d_V_up_30 rfl (lv_at hl 0 rfl) ?_
      refine va_get (D := (dC, dI)) (ci := 4) (v := .ref (h 5)) (C := R_V) (T := T_V) (N := 5) hx hb htb in_V hown hK hP 0 rfl rfl 2 (by decide) (htb _ tw_209) (fun _ h9 => h9) rfl d_V_up_31 ?_
      refine lv_aload_n hx hb d_V_up_34 rfl (lv_at hl 0 rfl) ?_
      refine va_get (D := (dC, dI)) (ci := 4) (v := .int hr) (C := R_V) (T := T_V) (N := 5) hx hb htb in_V hown hK hP 0 rfl rfl 4 (by decide) (htb _ tw_211) (fun _ h9 => h9) rfl d_V_up_35 ?_
      obtain ⟨dr_23, es_24, of_25, od_26, pl_27, hd_28, hc_29, hf⟩ := bd6_s hf
      refine ucVv (As := [.int hr]) (rest := []) ⟨hx, hb, hml, hown, htb⟩ hK hP hD hS hA (fun hs => c_E_start hc_29) (cwV 1 htb (gV tw_663 tw_434 tw_435 tw_72 tw_436) rfl rfl rfl (by decide +kernel) ⟨Nat.le_of_ble_eq_true rfl, Nat.le_of_ble_eq_true rfl⟩) 5 1 rfl rfl rfl rfl rfl hl.1 (Nat.le_of_ble_eq_true rfl) d_V_up_38 ⟨Nat.zero_le _, Nat.zero_le _⟩ (fun H locs hP hD hS => ?_)
      refine lv_aload_n hx hb d_V_up_41 rfl (lv_at hl 0 rfl) ?_
      refine va_get (D := (dC, dI)) (ci := 4) (v := .ref (h 5)) (C := R_V) (T := T_V) (N := 5) hx hb htb in_V hown hK hP 0 rfl rfl 2 (by decide) (htb _ tw_209) (fun _ h9 => h9) rfl d_V_up_42 ?_
      obtain ⟨of_30, od_31, pl_32, hd_33, hc_34, hf⟩ := bd4_s hf
      refine ucVv (As := []) (rest := []) ⟨hx, hb, hml, hown, htb⟩ hK hP hD hS hA (fun hs => c_E_advance hc_34) (cwV 0 htb (gV tw_667 tw_506 tw_507 tw_72 tw_508) rfl rfl rfl (by decide +kernel) ⟨Nat.le_of_ble_eq_true rfl, Nat.le_of_ble_eq_true rfl⟩) 5 1 rfl rfl rfl rfl rfl hl.1 (Nat.le_of_ble_eq_true rfl) d_V_up_45 ⟨Nat.zero_le _, Nat.zero_le _⟩ (fun H locs hP hD hS => ?_)
      refine lv_aload_n hx hb d_V_up_48 rfl (lv_at hl 0 rfl) ?_
      refine lv_aload_n hx hb d_V_up_49 rfl (lv_at hl 0 rfl) ?_
      refine va_get (D := (dC, dI)) (ci := 4) (v := .ref (h 5)) (C := R_V) (T := T_V) (N := 5) hx hb htb in_V hown hK hP 0 rfl rfl 2 (by decide) (htb _ tw_209) (fun _ h9 => h9) rfl d_V_up_50 ?_
      obtain ⟨r_35, hc_36, hf⟩ := bd1_s hf
      refine ucVi (As := []) (rest := [.ref (h 0)]) ⟨hx, hb, hml, hown, htb⟩ hK hP hD hS hA (fun hs => c_E_inode hc_36) (cwV 0 htb (gV tw_710 tw_483 tw_484 tw_72 tw_485) rfl rfl rfl (by decide +kernel) ⟨Nat.le_of_ble_eq_true rfl, Nat.le_of_ble_eq_true rfl⟩) 5 1 rfl rfl rfl rfl rfl hl.1 (Nat.le_of_ble_eq_true rfl) d_V_up_53 ⟨Nat.zero_le _, Nat.zero_le _⟩ (fun H locs hP hD hS => ?_)
      refine va_put (D := (dC, dI)) (ci := 4) (v := .int r_35) (ty := .int) (C := R_V) (T := T_V) (N := 5) hx hb htb in_V ty_V tyok_V nm_V hown hK hP hD hS 0 rfl rfl 4 (by decide) (htb _ tw_211) (fun _ h9 => h9) rfl (by decide +kernel) rfl rfl (Nat.le_of_ble_eq_true rfl) d_V_up_56 (fun H locs hP hD hS => ?_)
      have hP : va_P (dC, dI) clAll (wC h cI cL NW bk sz wd mb_2 gB_3 gI_4 gN_5 iN_6 dr_23 es_24 of_30 od_31 pl_32 hd_33 tk_13 kn_14 li_15 pa_16 ins_17 cm_18 fd_19 r_35) H := hP
      have hD : va_D A (wC h cI cL NW bk sz wd mb_2 gB_3 gI_4 gN_5 iN_6 dr_23 es_24 of_30 od_31 pl_32 hd_33 tk_13 kn_14 li_15 pa_16 ins_17 cm_18 fd_19 r_35) := hD
      refine lv_iconst (v := 1) hx hb d_V_up_59 (by decide) ?_
      cases hf
      exact hret _ _ _ _ (Or.inr rfl) hP hD hS d_V_up_60
    · have hf := ite_t c_22 hf
      refine lv_iconst (v := 0) hx hb d_V_up_28 (by decide) ?_
      cases hf
      exact hret _ _ _ _ (Or.inl rfl) hP hD hS d_V_up_29
  · have hf := ite_f c_21 hf
    cases hf
set_option maxHeartbeats 4000000 in
set_option maxRecDepth 100000 in
theorem cT_V_up {l : Launch} {dC : Nat → ClassId} {dI : Nat → Nat → Nat} {N : Nat} {h : Nat → Nat} {cI : ClassId} {cL : ClassId} {NW : Nat} {bk : Int32} {sz : Int32} {wd : Nat → Int64} {mb : Nat → Int32} {gB : Int32} {gI : Int32} {gN : Int32} {iN : Int32} {dr : Int32} {es : Int64} {of : Int64} {od : Int32} {pl : Int64} {hd : Int64} {tk : Nat → Int32} {kn : Nat → Int32} {li : Nat → Int32} {pa : Nat → Int32} {ins : Nat → Int32} {cm : Int32} {fd : Int32} {hr : Int32} {hs : Nat} {tag : Nat} {r : Int32} {mb' : Nat → Int32} {gB' : Int32} {gI' : Int32} {gN' : Int32} {iN' : Int32} {dr' : Int32} {es' : Int64} {of' : Int64} {od' : Int32} {pl' : Int64} {hd' : Int64} {tk' : Nat → Int32} {kn' : Nat → Int32} {li' : Nat → Int32} {pa' : Nat → Int32} {ins' : Nat → Int32} {cm' : Int32} {fd' : Int32} {hr' : Int32} (hL : l.stackTraces = false) (htag : tag ≠ 0) (hf : f_V_up N NW bk sz wd mb gB gI gN iN dr es of od pl hd tk kn li pa ins cm fd hr = some (tag, r, mb', gB', gI', gN', iN', dr', es', of', od', pl', hd', tk', kn', li', pa', ins', cm', fd', hr')) : MetT l y_V_up ws_V_up { frames := 6, cells := 1, slots := 6, locals := 150 } (PcT (dC, dI) clAll [(cI, .int), (cL, .long)] (wC h cI cL NW bk sz wd mb gB gI gN iN dr es of od pl hd tk kn li pa ins cm fd hr) hs R_V strsV [.ref (h 0)]) (exn tag) (BT (dC, dI) clAll [(cI, .int), (cL, .long)] (wC h cI cL NW bk sz wd mb gB gI gN iN dr es of od pl hd tk kn li pa ins cm fd hr) (wC h cI cL NW bk sz wd mb' gB' gI' gN' iN' dr' es' of' od' pl' hd' tk' kn' li' pa' ins' cm' fd' hr') hs) 1 6 (va_A (wC h cI cL NW bk sz wd mb gB gI gN iN dr es of od pl hd tk kn li pa ins cm fd hr) hs) := by
  refine mT (cc := b_V_up) (maxL := 1) hL (by decide) rfl rfl rfl (Nat.le_of_ble_eq_true rfl) rfl ?_
  intro p e s m args below meth c Q hx hb hml hts hown A hA hK hP hD hS hZ hSt hthr hgo ls hl
  have htb : ∀ w ∈ TB, w.before args s = true := fun w h => hts w (List.mem_cons_of_mem _ h)
  have hl : lv_has ls 1 [(0, .ref (h 0))] := hl
  unfold f_V_up at hf
  refine lv_aload_n hx hb d_V_up_0 rfl (lv_at hl 0 rfl) ?_
  refine va_get (D := (dC, dI)) (ci := 4) (v := .ref (h 6)) (C := R_V) (T := T_V) (N := 5) hx hb htb in_V hown hK hP 0 rfl rfl 3 (by decide) (htb _ tw_210) (fun _ h9 => h9) rfl d_V_up_1 ?_
  obtain ⟨r_1, mb_2, gB_3, gI_4, gN_5, iN_6, dr_7, es_8, of_9, od_10, pl_11, hd_12, tk_13, kn_14, li_15, pa_16, ins_17, cm_18, fd_19, hc_20, hf⟩ := bd19_s hf
  refine ucVi (As := []) (rest := []) ⟨hx, hb, hml, hown, htb⟩ hK hP hD hS hA (fun hs => c_S_firstFault hc_20) (cwV 0 htb (gV tw_276 tw_277 tw_278 tw_73 tw_279) rfl rfl rfl (by decide +kernel) ⟨Nat.le_of_ble_eq_true rfl, Nat.le_of_ble_eq_true rfl⟩) 6 3 rfl rfl rfl rfl rfl hl.1 (Nat.le_of_ble_eq_true rfl) d_V_up_4 ⟨Nat.zero_le _, Nat.zero_le _⟩ (fun H locs hP hD hS => ?_)
  refine lv_if_eq (tgt := 20) hx hb d_V_up_7 (by decide) (fun c_21 => ?_) (fun c_21 => ?_)
  · have hf := ite_t c_21 hf
    refine lv_aload_n hx hb d_V_up_20 rfl (lv_at hl 0 rfl) ?_
    refine va_get (D := (dC, dI)) (ci := 4) (v := .int hr) (C := R_V) (T := T_V) (N := 5) hx hb htb in_V hown hK hP 0 rfl rfl 4 (by decide) (htb _ tw_211) (fun _ h9 => h9) rfl d_V_up_21 ?_
    refine lv_iconst (v := 2) hx hb d_V_up_24 (by decide) ?_
    refine lv_icmp_ne (tgt := 30) hx hb d_V_up_25 (by decide) (fun c_22 => ?_) (fun c_22 => ?_)
    · have hf := ite_f c_22 hf
      refine lv_aload_n hx hb d_V_up_30 rfl (lv_at hl 0 rfl) ?_
      refine va_get (D := (dC, dI)) (ci := 4) (v := .ref (h 5)) (C := R_V) (T := T_V) (N := 5) hx hb htb in_V hown hK hP 0 rfl rfl 2 (by decide) (htb _ tw_209) (fun _ h9 => h9) rfl d_V_up_31 ?_
      refine lv_aload_n hx hb d_V_up_34 rfl (lv_at hl 0 rfl) ?_
      refine va_get (D := (dC, dI)) (ci := 4) (v := .int hr) (C := R_V) (T := T_V) (N := 5) hx hb htb in_V hown hK hP 0 rfl rfl 4 (by decide) (htb _ tw_211) (fun _ h9 => h9) rfl d_V_up_35 ?_
      obtain ⟨dr_23, es_24, of_25, od_26, pl_27, hd_28, hc_29, hf⟩ := bd6_s hf
      refine ucVv (As := [.int hr]) (rest := []) ⟨hx, hb, hml, hown, htb⟩ hK hP hD hS hA (fun hs => c_E_start hc_29) (cwV 1 htb (gV tw_663 tw_434 tw_435 tw_72 tw_436) rfl rfl rfl (by decide +kernel) ⟨Nat.le_of_ble_eq_true rfl, Nat.le_of_ble_eq_true rfl⟩) 5 1 rfl rfl rfl rfl rfl hl.1 (Nat.le_of_ble_eq_true rfl) d_V_up_38 ⟨Nat.zero_le _, Nat.zero_le _⟩ (fun H locs hP hD hS => ?_)
      refine lv_aload_n hx hb d_V_up_41 rfl (lv_at hl 0 rfl) ?_
      refine va_get (D := (dC, dI)) (ci := 4) (v := .ref (h 5)) (C := R_V) (T := T_V) (N := 5) hx hb htb in_V hown hK hP 0 rfl rfl 2 (by decide) (htb _ tw_209) (fun _ h9 => h9) rfl d_V_up_42 ?_
      obtain ⟨of_30, od_31, pl_32, hd_33, hc_34, hf⟩ := bd4_s hf
      refine ucVv (As := []) (rest := []) ⟨hx, hb, hml, hown, htb⟩ hK hP hD hS hA (fun hs => c_E_advance hc_34) (cwV 0 htb (gV tw_667 tw_506 tw_507 tw_72 tw_508) rfl rfl rfl (by decide +kernel) ⟨Nat.le_of_ble_eq_true rfl, Nat.le_of_ble_eq_true rfl⟩) 5 1 rfl rfl rfl rfl rfl hl.1 (Nat.le_of_ble_eq_true rfl) d_V_up_45 ⟨Nat.zero_le _, Nat.zero_le _⟩ (fun H locs hP hD hS => ?_)
      refine lv_aload_n hx hb d_V_up_48 rfl (lv_at hl 0 rfl) ?_
      refine lv_aload_n hx hb d_V_up_49 rfl (lv_at hl 0 rfl) ?_
      refine va_get (D := (dC, dI)) (ci := 4) (v := .ref (h 5)) (C := R_V) (T := T_V) (N := 5) hx hb htb in_V hown hK hP 0 rfl rfl 2 (by decide) (htb _ tw_209) (fun _ h9 => h9) rfl d_V_up_50 ?_
      obtain ⟨r_35, hc_36, hf⟩ := bd1_s hf
      refine ucVi (As := []) (rest := [.ref (h 0)]) ⟨hx, hb, hml, hown, htb⟩ hK hP hD hS hA (fun hs => c_E_inode hc_36) (cwV 0 htb (gV tw_710 tw_483 tw_484 tw_72 tw_485) rfl rfl rfl (by decide +kernel) ⟨Nat.le_of_ble_eq_true rfl, Nat.le_of_ble_eq_true rfl⟩) 5 1 rfl rfl rfl rfl rfl hl.1 (Nat.le_of_ble_eq_true rfl) d_V_up_53 ⟨Nat.zero_le _, Nat.zero_le _⟩ (fun H locs hP hD hS => ?_)
      refine va_put (D := (dC, dI)) (ci := 4) (v := .int r_35) (ty := .int) (C := R_V) (T := T_V) (N := 5) hx hb htb in_V ty_V tyok_V nm_V hown hK hP hD hS 0 rfl rfl 4 (by decide) (htb _ tw_211) (fun _ h9 => h9) rfl (by decide +kernel) rfl rfl (Nat.le_of_ble_eq_true rfl) d_V_up_56 (fun H locs hP hD hS => ?_)
      have hP : va_P (dC, dI) clAll (wC h cI cL NW bk sz wd mb_2 gB_3 gI_4 gN_5 iN_6 dr_23 es_24 of_30 od_31 pl_32 hd_33 tk_13 kn_14 li_15 pa_16 ins_17 cm_18 fd_19 r_35) H := hP
      have hD : va_D A (wC h cI cL NW bk sz wd mb_2 gB_3 gI_4 gN_5 iN_6 dr_23 es_24 of_30 od_31 pl_32 hd_33 tk_13 kn_14 li_15 pa_16 ins_17 cm_18 fd_19 r_35) := hD
      refine lv_iconst (v := 1) hx hb d_V_up_59 (by decide) ?_
      cases hf
      exact absurd rfl htag
    · have hf := ite_t c_22 hf
      refine lv_iconst (v := 0) hx hb d_V_up_28 (by decide) ?_
      cases hf
      exact absurd rfl htag
  · have hf := ite_f c_21 hf
    cases hf
    exact hthr "java/lang/IllegalStateException" "the volume is not sound" xn_IllegalStateException 75 77 79 _ _ _ _ _ rfl (by decide +kernel) (by decide +kernel) (by decide +kernel) (htb _ tw_591) (htb _ tw_79) (xat_IllegalStateException_79 htb hSt) hl.1 d_V_up_10 d_V_up_13 d_V_up_14 d_V_up_16 d_V_up_19 (Nat.le_of_ble_eq_true rfl) (Nat.le_of_ble_eq_true rfl) hP hD hS
