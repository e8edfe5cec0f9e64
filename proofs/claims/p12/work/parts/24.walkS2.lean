set_option maxHeartbeats 4000000 in
set_option maxRecDepth 100000 in
theorem c_S_isKnown {l : Launch} {dC : Nat → ClassId} {dI : Nat → Nat → Nat} {h : Nat → Nat} {cI : ClassId} {cL : ClassId} {NW : Nat} {bk : Int32} {sz : Int32} {wd : Nat → Int64} {mb : Nat → Int32} {gB : Int32} {gI : Int32} {gN : Int32} {iN : Int32} {dr : Int32} {es : Int64} {of : Int64} {od : Int32} {pl : Int64} {hd : Int64} {tk : Nat → Int32} {kn : Nat → Int32} {li : Nat → Int32} {pa : Nat → Int32} {ins : Nat → Int32} {cm : Int32} {fd : Int32} {hr : Int32} {hs : Nat} {a1 : Int32} {r : Int32} (hf : f_S_isKnown NW kn a1 = some (r)) : Met l y_S_isKnown ws_S_isKnown { frames := 0, cells := 0, slots := 0, locals := 0 } (PcU (dC, dI) clAll [(cI, .int), (cL, .long)] (wC h cI cL NW bk sz wd mb gB gI gN iN dr es of od pl hd tk kn li pa ins cm fd hr) hs [.ref (h 6), .int a1]) (QUi (dC, dI) clAll [(cI, .int), (cL, .long)] (wC h cI cL NW bk sz wd mb gB gI gN iN dr es of od pl hd tk kn li pa ins cm fd hr) (wC h cI cL NW bk sz wd mb gB gI gN iN dr es of od pl hd tk kn li pa ins cm fd hr) hs r) 0 0 (va_A (wC h cI cL NW bk sz wd mb gB gI gN iN dr es of od pl hd tk kn li pa ins cm fd hr) hs) := by
  refine mUz (cc := b_S_isKnown) (maxL := 2) (by decide) rfl (Nat.le_of_ble_eq_true rfl) ?_
  intro p e s m args below meth c Q hx hb hml hts hown A hA hK hP hD hS hret ls hl
  have htb : ∀ w ∈ TB, w.before args s = true := fun w h => hts w (List.mem_cons_of_mem _ h)
  have hl : lv_has ls 2 [(0, .ref (h 6)), (1, .int a1)] := hl
  unfold f_S_isKnown at hf
  refine lv_iload_n hx hb d_S_isKnown_0 rfl (lv_at hl 1 rfl) ?_
  refine lv_iconst (v := 1) hx hb d_S_isKnown_1 (by decide) ?_
  refine lv_icmp_lt (tgt := 28) hx hb d_S_isKnown_2 (by decide) (fun c_1 => ?_) (fun c_1 => ?_)
  · have hf := ite_t c_1 hf
    refine lv_iconst (v := 0) hx hb d_S_isKnown_28 (by decide) ?_
    cases hf
    exact hret _ _ _ _ (Or.inl rfl) hP hD hS d_S_isKnown_29
  · have hf := ite_f c_1 hf
    refine lv_iload_n hx hb d_S_isKnown_5 rfl (lv_at hl 1 rfl) ?_
    refine lv_aload_n hx hb d_S_isKnown_6 rfl (lv_at hl 0 rfl) ?_
    refine va_get (D := (dC, dI)) (ci := 3) (v := .ref (h 8)) (C := R_S) (T := T_S) (N := 10) hx hb htb in_S hown hK hP 6 rfl rfl 4 (by decide) (htb _ tw_180) (fun _ h9 => h9) rfl d_S_isKnown_7 ?_
    refine va_alen (v := (4097 : Int32)) hx hb hK hP 8 0 rfl rfl rfl d_S_isKnown_10 ?_
    refine lv_icmp_ge (tgt := 28) hx hb d_S_isKnown_11 (by decide) (fun c_2 => ?_) (fun c_2 => ?_)
    · have hf := ite_t c_2 hf
      refine lv_iconst (v := 0) hx hb d_S_isKnown_28 (by decide) ?_
      cases hf
      exact hret _ _ _ _ (Or.inl rfl) hP hD hS d_S_isKnown_29
    · have hf := ite_f c_2 hf
      refine lv_aload_n hx hb d_S_isKnown_14 rfl (lv_at hl 0 rfl) ?_
      refine va_get (D := (dC, dI)) (ci := 3) (v := .ref (h 8)) (C := R_S) (T := T_S) (N := 10) hx hb htb in_S hown hK hP 6 rfl rfl 4 (by decide) (htb _ tw_180) (fun _ h9 => h9) rfl d_S_isKnown_15 ?_
      refine lv_iload_n hx hb d_S_isKnown_18 rfl (lv_at hl 1 rfl) ?_
      obtain ⟨c_3, hf⟩ := gd_s hf
      refine va_iald (i := a1) hx hb hK hP 8 0 rfl rfl c_3 d_S_isKnown_19 ?_
      refine lv_iconst (v := 1) hx hb d_S_isKnown_20 (by decide) ?_
      refine lv_icmp_ne (tgt := 28) hx hb d_S_isKnown_21 (by decide) (fun c_4 => ?_) (fun c_4 => ?_)
      · have hf := ite_f c_4 hf
        refine lv_iconst (v := 0) hx hb d_S_isKnown_28 (by decide) ?_
        cases hf
        exact hret _ _ _ _ (Or.inl rfl) hP hD hS d_S_isKnown_29
      · have hf := ite_t c_4 hf
        refine lv_iconst (v := 1) hx hb d_S_isKnown_24 (by decide) ?_
        refine lv_goto (tgt := 29) hx hb d_S_isKnown_25 (by decide) ?_
        cases hf
        exact hret _ _ _ _ (Or.inr rfl) hP hD hS d_S_isKnown_29
set_option maxHeartbeats 4000000 in
set_option maxRecDepth 100000 in
theorem c_S_itemsComeUp {l : Launch} {dC : Nat → ClassId} {dI : Nat → Nat → Nat} {N : Nat} {h : Nat → Nat} {cI : ClassId} {cL : ClassId} {NW : Nat} {bk : Int32} {sz : Int32} {wd : Nat → Int64} {mb : Nat → Int32} {gB : Int32} {gI : Int32} {gN : Int32} {iN : Int32} {dr : Int32} {es : Int64} {of : Int64} {od : Int32} {pl : Int64} {hd : Int64} {tk : Nat → Int32} {kn : Nat → Int32} {li : Nat → Int32} {pa : Nat → Int32} {ins : Nat → Int32} {cm : Int32} {fd : Int32} {hr : Int32} {hs : Nat} {a1 : Int32} {r : Int32} {dr' : Int32} {es' : Int64} {of' : Int64} {od' : Int32} {pl' : Int64} {hd' : Int64} {tk' : Nat → Int32} {kn' : Nat → Int32} {li' : Nat → Int32} {pa' : Nat → Int32} {ins' : Nat → Int32} {cm' : Int32} (hf : f_S_itemsComeUp N NW bk sz wd mb gI dr es of od pl hd tk kn li pa ins cm a1 = some (r, dr', es', of', od', pl', hd', tk', kn', li', pa', ins', cm')) : Met l y_S_itemsComeUp ws_S_itemsComeUp { frames := 3, cells := 0, slots := 0, locals := 85 } (PcU (dC, dI) clAll [(cI, .int), (cL, .long)] (wC h cI cL NW bk sz wd mb gB gI gN iN dr es of od pl hd tk kn li pa ins cm fd hr) hs [.ref (h 6), .int a1]) (QUi (dC, dI) clAll [(cI, .int), (cL, .long)] (wC h cI cL NW bk sz wd mb gB gI gN iN dr es of od pl hd tk kn li pa ins cm fd hr) (wC h cI cL NW bk sz wd mb gB gI gN iN dr' es' of' od' pl' hd' tk' kn' li' pa' ins' cm' fd hr) hs r) 0 0 (va_A (wC h cI cL NW bk sz wd mb gB gI gN iN dr es of od pl hd tk kn li pa ins cm fd hr) hs) := by
  refine mUz (cc := b_S_itemsComeUp) (maxL := 5) (by decide) rfl (Nat.le_of_ble_eq_true rfl) ?_
  intro p e s m args below meth c Q hx hb hml hts hown A hA hK hP hD hS hret ls hl
  have htb : ∀ w ∈ TB, w.before args s = true := fun w h => hts w (List.mem_cons_of_mem _ h)
  have hl : lv_has ls 5 [(0, .ref (h 6)), (1, .int a1)] := hl
  have hj_32 : ∀ (k_32 : Nat) (dr : Int32) (es : Int64) (of : Int64) (od : Int32) (pl : Int64) (hd : Int64) (tk : Nat → Int32) (kn : Nat → Int32) (li : Nat → Int32) (pa : Nat → Int32) (ins : Nat → Int32) (cm : Int32) (x1 : Int32) (x2 : Int32) (x3 : Int32) (H : Heap) (locs : List Loc) (ls : Array Slot), f_S_itemsComeUp_32 N NW bk sz wd mb gI k_32 dr es of od pl hd tk kn li pa ins cm x1 x2 x3 = some (r, dr', es', of', od', pl', hd', tk', kn', li', pa', ins', cm') → va_P (dC, dI) clAll (wC h cI cL NW bk sz wd mb gB gI gN iN dr es of od pl hd tk kn li pa ins cm fd hr) H → va_D A (wC h cI cL NW bk sz wd mb gB gI gN iN dr es of od pl hd tk kn li pa ins cm fd hr) → va_S A s.heap H locs → lv_has ls 5 [(0, .ref (h 6)), (1, .int x1), (2, .int x2), (3, .int x3)] → W p l e (headSpec ws_S_itemsComeUp { frames := 3, cells := 0, slots := 0, locals := 85 }).room s m args below meth c H locs 0 0 Q (F0 m 32 ls []) := by
    intro k_32
    induction k_32 with
    | zero => intro _ _ _ _ _ _ _ _ _ _ _ _ _ _ _ _ _ _ hf; exact absurd hf (by simp [f_S_itemsComeUp_32])
    | succ k_32 ih_32 =>
      have hj_115 : ∀ (dr : Int32) (es : Int64) (of : Int64) (od : Int32) (pl : Int64) (hd : Int64) (tk : Nat → Int32) (kn : Nat → Int32) (li : Nat → Int32) (pa : Nat → Int32) (ins : Nat → Int32) (cm : Int32) (x1 : Int32) (x2 : Int32) (x3 : Int32) (H : Heap) (locs : List Loc) (ls : Array Slot), f_S_itemsComeUp_115 N NW bk sz wd mb gI (f_S_itemsComeUp_32 N NW bk sz wd mb gI k_32) dr es of od pl hd tk kn li pa ins cm x1 x2 x3 = some (r, dr', es', of', od', pl', hd', tk', kn', li', pa', ins', cm') → va_P (dC, dI) clAll (wC h cI cL NW bk sz wd mb gB gI gN iN dr es of od pl hd tk kn li pa ins cm fd hr) H → va_D A (wC h cI cL NW bk sz wd mb gB gI gN iN dr es of od pl hd tk kn li pa ins cm fd hr) → va_S A s.heap H locs → lv_has ls 5 [(0, .ref (h 6)), (1, .int x1), (2, .int x2), (3, .int x3)] → W p l e (headSpec ws_S_itemsComeUp { frames := 3, cells := 0, slots := 0, locals := 85 }).room s m args below meth c H locs 0 0 Q (F0 m 115 ls []) := by
        intro dr es of od pl hd tk kn li pa ins cm x1 x2 x3 H locs ls hf hP hD hS hl
        unfold f_S_itemsComeUp_115 at hf
        refine lv_aload_n hx hb d_S_itemsComeUp_115 rfl (lv_at hl 0 rfl) ?_
        refine va_get (D := (dC, dI)) (ci := 3) (v := .ref (h 5)) (C := R_S) (T := T_S) (N := 10) hx hb htb in_S hown hK hP 6 rfl rfl 2 (by decide) (htb _ tw_178) (fun _ h9 => h9) rfl d_S_itemsComeUp_116 ?_
        obtain ⟨of_1, od_2, pl_3, hd_4, hc_5, hf⟩ := bd4_s hf
        refine ucVv (As := []) (rest := []) ⟨hx, hb, hml, hown, htb⟩ hK hP hD hS hA (fun hs => c_E_advance hc_5) (cwV 0 htb (gV tw_505 tw_506 tw_507 tw_72 tw_508) rfl rfl rfl (by decide +kernel) ⟨Nat.le_of_ble_eq_true rfl, Nat.le_of_ble_eq_true rfl⟩) 5 1 rfl rfl rfl rfl rfl hl.1 (Nat.le_of_ble_eq_true rfl) d_S_itemsComeUp_119 ⟨Nat.zero_le _, Nat.zero_le _⟩ (fun H locs hP hD hS => ?_)
        obtain ⟨v3_6, ev3_6, hf⟩ := lt1_s hf
        refine lv_iinc (v := v3_6) (lv' := [(3, .int v3_6), (0, .ref (h 6)), (1, .int x1), (2, .int x2)]) hx hb d_S_itemsComeUp_122 hl (k := 3) rfl (by rw [← ev3_6]; rfl) (by decide) rfl (fun ls hl => ?_)
        refine lv_goto (tgt := 32) hx hb d_S_itemsComeUp_125 (by decide) ?_
        exact ih_32 dr es of_1 od_2 pl_3 hd_4 tk kn li pa ins cm x1 x2 v3_6 _ _ _ hf hP hD hS (lv_sub hl [1, 2, 3, 0] rfl)
      intro dr es of od pl hd tk kn li pa ins cm x1 x2 x3 H locs ls hf hP hD hS hl
      rw [f_S_itemsComeUp_32] at hf
      refine lv_iload_n hx hb d_S_itemsComeUp_32 rfl (lv_at hl 3 rfl) ?_
      refine lv_ldc (v := 43691) hx hb hown (htb _ tw_441) d_S_itemsComeUp_33 ?_
      refine lv_icmp_ge (tgt := 128) hx hb d_S_itemsComeUp_35 (by decide) (fun c_1 => ?_) (fun c_1 => ?_)
      · have hf := ite_t c_1 hf
        refine lv_iconst (v := 1) hx hb d_S_itemsComeUp_128 (by decide) ?_
        cases hf
        exact hret _ _ _ _ (Or.inr rfl) hP hD hS d_S_itemsComeUp_129
      · have hf := ite_f c_1 hf
        refine lv_aload_n hx hb d_S_itemsComeUp_38 rfl (lv_at hl 0 rfl) ?_
        refine va_get (D := (dC, dI)) (ci := 3) (v := .ref (h 5)) (C := R_S) (T := T_S) (N := 10) hx hb htb in_S hown hK hP 6 rfl rfl 2 (by decide) (htb _ tw_178) (fun _ h9 => h9) rfl d_S_itemsComeUp_39 ?_
        obtain ⟨r_2, hc_3, hf⟩ := bd1_s hf
        refine ucVi (As := []) (rest := []) ⟨hx, hb, hml, hown, htb⟩ hK hP hD hS hA (fun hs => c_E_isOn hc_3) (cwV 0 htb (gV tw_442 tw_443 tw_444 tw_72 tw_445) rfl rfl rfl (by decide +kernel) ⟨Nat.le_of_ble_eq_true rfl, Nat.le_of_ble_eq_true rfl⟩) 5 1 rfl rfl rfl rfl rfl hl.1 (Nat.le_of_ble_eq_true rfl) d_S_itemsComeUp_42 ⟨Nat.zero_le _, Nat.zero_le _⟩ (fun H locs hP hD hS => ?_)
        refine lv_if_eq (tgt := 128) hx hb d_S_itemsComeUp_45 (by decide) (fun c_4 => ?_) (fun c_4 => ?_)
        · have hf := ite_t c_4 hf
          refine lv_iconst (v := 1) hx hb d_S_itemsComeUp_128 (by decide) ?_
          cases hf
          exact hret _ _ _ _ (Or.inr rfl) hP hD hS d_S_itemsComeUp_129
        · have hf := ite_f c_4 hf
          refine lv_aload_n hx hb d_S_itemsComeUp_48 rfl (lv_at hl 0 rfl) ?_
          refine va_get (D := (dC, dI)) (ci := 3) (v := .ref (h 5)) (C := R_S) (T := T_S) (N := 10) hx hb htb in_S hown hK hP 6 rfl rfl 2 (by decide) (htb _ tw_178) (fun _ h9 => h9) rfl d_S_itemsComeUp_49 ?_
          obtain ⟨r_5, hc_6, hf⟩ := bd1_s hf
          refine ucVi (As := []) (rest := []) ⟨hx, hb, hml, hown, htb⟩ hK hP hD hS hA (fun hs => c_E_isItem hc_6) (cwV 0 htb (gV tw_514 tw_515 tw_516 tw_72 tw_517) rfl rfl rfl (by decide +kernel) ⟨Nat.le_of_ble_eq_true rfl, Nat.le_of_ble_eq_true rfl⟩) 5 1 rfl rfl rfl rfl rfl hl.1 (Nat.le_of_ble_eq_true rfl) d_S_itemsComeUp_52 ⟨Nat.zero_le _, Nat.zero_le _⟩ (fun H locs hP hD hS => ?_)
          refine lv_if_eq (tgt := 115) hx hb d_S_itemsComeUp_55 (by decide) (fun c_7 => ?_) (fun c_7 => ?_)
          · have hf := ite_t c_7 hf
            exact hj_115 dr es of od pl hd tk kn li pa ins cm x1 x2 x3 _ _ _ hf hP hD hS (lv_sub hl [0, 1, 2, 3] rfl)
          · have hf := ite_f c_7 hf
            refine lv_aload_n hx hb d_S_itemsComeUp_58 rfl (lv_at hl 0 rfl) ?_
            refine va_get (D := (dC, dI)) (ci := 3) (v := .ref (h 5)) (C := R_S) (T := T_S) (N := 10) hx hb htb in_S hown hK hP 6 rfl rfl 2 (by decide) (htb _ tw_178) (fun _ h9 => h9) rfl d_S_itemsComeUp_59 ?_
            obtain ⟨r_8, hc_9, hf⟩ := bd1_s hf
            refine ucVi (As := []) (rest := []) ⟨hx, hb, hml, hown, htb⟩ hK hP hD hS hA (fun hs => c_E_inode hc_9) (cwV 0 htb (gV tw_482 tw_483 tw_484 tw_72 tw_485) rfl rfl rfl (by decide +kernel) ⟨Nat.le_of_ble_eq_true rfl, Nat.le_of_ble_eq_true rfl⟩) 5 1 rfl rfl rfl rfl rfl hl.1 (Nat.le_of_ble_eq_true rfl) d_S_itemsComeUp_62 ⟨Nat.zero_le _, Nat.zero_le _⟩ (fun H locs hP hD hS => ?_)
            refine lv_istore (lv' := [(4, .int r_8), (0, .ref (h 6)), (1, .int x1), (2, .int x2), (3, .int x3)]) hx hb d_S_itemsComeUp_65 hl (by decide) rfl (fun ls hl => ?_)
            refine lv_aload_n hx hb d_S_itemsComeUp_67 rfl (lv_at hl 1 rfl) ?_
            refine lv_iload hx hb d_S_itemsComeUp_68 (lv_at hl 0 rfl) ?_
            obtain ⟨r_10, hc_11, hf⟩ := bd1_s hf
            refine ucVi (As := [.int r_8]) (rest := []) ⟨hx, hb, hml, hown, htb⟩ hK hP hD hS hA (fun hs => c_S_isKnown hc_11) (cwV 1 htb (gV tw_518 tw_520 tw_15 tw_73 tw_521) rfl rfl rfl (by decide +kernel) ⟨Nat.le_of_ble_eq_true rfl, Nat.le_of_ble_eq_true rfl⟩) 6 3 rfl rfl rfl rfl rfl hl.1 (Nat.le_of_ble_eq_true rfl) d_S_itemsComeUp_70 ⟨Nat.zero_le _, Nat.zero_le _⟩ (fun H locs hP hD hS => ?_)
            refine lv_if_ne (tgt := 85) hx hb d_S_itemsComeUp_73 (by decide) (fun c_12 => ?_) (fun c_12 => ?_)
            · have hf := ite_f c_12 hf
              refine lv_iconst (v := 0) hx hb d_S_itemsComeUp_85 (by decide) ?_
              cases hf
              exact hret _ _ _ _ (Or.inl rfl) hP hD hS d_S_itemsComeUp_86
            · have hf := ite_t c_12 hf
              refine lv_aload_n hx hb d_S_itemsComeUp_76 rfl (lv_at hl 1 rfl) ?_
              refine lv_iload hx hb d_S_itemsComeUp_77 (lv_at hl 0 rfl) ?_
              obtain ⟨r_13, tk_14, hc_15, hf⟩ := bd2_s hf
              refine ucVi (As := [.int r_8]) (rest := []) ⟨hx, hb, hml, hown, htb⟩ hK hP hD hS hA (fun hs => c_S_takeWhole hc_15) (cwV 1 htb (gV tw_388 tw_390 tw_8 tw_73 tw_391) rfl rfl rfl (by decide +kernel) ⟨Nat.le_of_ble_eq_true rfl, Nat.le_of_ble_eq_true rfl⟩) 6 3 rfl rfl rfl rfl rfl hl.1 (Nat.le_of_ble_eq_true rfl) d_S_itemsComeUp_79 ⟨Nat.zero_le _, Nat.zero_le _⟩ (fun H locs hP hD hS => ?_)
              refine lv_if_ne (tgt := 87) hx hb d_S_itemsComeUp_82 (by decide) (fun c_16 => ?_) (fun c_16 => ?_)
              · have hf := ite_f c_16 hf
                refine lv_aload_n hx hb d_S_itemsComeUp_87 rfl (lv_at hl 1 rfl) ?_
                refine lv_iload hx hb d_S_itemsComeUp_88 (lv_at hl 0 rfl) ?_
                refine lv_iload_n hx hb d_S_itemsComeUp_90 rfl (lv_at hl 3 rfl) ?_
                obtain ⟨kn_17, li_18, pa_19, ins_20, cm_21, hc_22, hf⟩ := bd5_s hf
                refine ucVv (As := [.int r_8, .int x2]) (rest := []) ⟨hx, hb, hml, hown, htb⟩ hK hP hD hS hA (fun hs => c_S_standInLine hc_22) (cwV 2 htb (gV tw_425 tw_427 tw_11 tw_73 tw_428) rfl rfl rfl (by decide +kernel) ⟨Nat.le_of_ble_eq_true rfl, Nat.le_of_ble_eq_true rfl⟩) 6 3 rfl rfl rfl rfl rfl hl.1 (Nat.le_of_ble_eq_true rfl) d_S_itemsComeUp_91 ⟨Nat.zero_le _, Nat.zero_le _⟩ (fun H locs hP hD hS => ?_)
                refine lv_aload_n hx hb d_S_itemsComeUp_94 rfl (lv_at hl 1 rfl) ?_
                refine va_get (D := (dC, dI)) (ci := 3) (v := .ref (h 5)) (C := R_S) (T := T_S) (N := 10) hx hb htb in_S hown hK hP 6 rfl rfl 2 (by decide) (htb _ tw_178) (fun _ h9 => h9) rfl d_S_itemsComeUp_95 ?_
                obtain ⟨r_23, hc_24, hf⟩ := bd1_s hf
                refine ucVi (As := []) (rest := []) ⟨hx, hb, hml, hown, htb⟩ hK hP hD hS hA (fun hs => c_E_mark hc_24) (cwV 0 htb (gV tw_495 tw_496 tw_497 tw_72 tw_498) rfl rfl rfl (by decide +kernel) ⟨Nat.le_of_ble_eq_true rfl, Nat.le_of_ble_eq_true rfl⟩) 5 1 rfl rfl rfl rfl rfl hl.1 (Nat.le_of_ble_eq_true rfl) d_S_itemsComeUp_98 ⟨Nat.zero_le _, Nat.zero_le _⟩ (fun H locs hP hD hS => ?_)
                refine lv_iconst (v := 2) hx hb d_S_itemsComeUp_101 (by decide) ?_
                refine lv_icmp_ne (tgt := 115) hx hb d_S_itemsComeUp_102 (by decide) (fun c_25 => ?_) (fun c_25 => ?_)
                · have hf := ite_f c_25 hf
                  exact hj_115 dr es of od pl hd tk_14 kn_17 li_18 pa_19 ins_20 cm_21 x1 x2 x3 _ _ _ hf hP hD hS (lv_sub hl [1, 2, 3, 4] rfl)
                · have hf := ite_t c_25 hf
                  refine lv_aload_n hx hb d_S_itemsComeUp_105 rfl (lv_at hl 1 rfl) ?_
                  refine va_get (D := (dC, dI)) (ci := 3) (v := .ref (h 11)) (C := R_S) (T := T_S) (N := 10) hx hb htb in_S hown hK hP 6 rfl rfl 7 (by decide) (htb _ tw_183) (fun _ h9 => h9) rfl d_S_itemsComeUp_106 ?_
                  refine lv_iload_n hx hb d_S_itemsComeUp_109 rfl (lv_at hl 2 rfl) ?_
                  refine lv_dup2_11 hx hb d_S_itemsComeUp_110 rfl rfl ?_
                  obtain ⟨c_26, hf⟩ := gd_s hf
                  refine va_iald (i := x1) hx hb hK hP 11 0 rfl rfl c_26 d_S_itemsComeUp_111 ?_
                  refine lv_iconst (v := 1) hx hb d_S_itemsComeUp_112 (by decide) ?_
                  refine lv_iadd hx hb d_S_itemsComeUp_113 ?_
                  obtain ⟨c_27, hf⟩ := gd_s hf
                  refine va_iast (i := x1) (x := (ins_20 (Int32.toNatClampNeg x1)) + ((1 : Int32))) hx hb hK hP hD hS 11 0 rfl rfl c_27 d_S_itemsComeUp_114 (fun H locs hP hD hS => ?_)
                  obtain ⟨ins_28, eins_28, hf⟩ := lt1_s hf
                  have hP : va_P (dC, dI) clAll (wC h cI cL NW bk sz wd mb gB gI gN iN dr es of od pl hd tk_14 kn_17 li_18 pa_19 ins_28 cm_21 fd hr) H := eins_28 ▸ hP
                  have hD : va_D A (wC h cI cL NW bk sz wd mb gB gI gN iN dr es of od pl hd tk_14 kn_17 li_18 pa_19 ins_28 cm_21 fd hr) := eins_28 ▸ hD
                  exact hj_115 dr es of od pl hd tk_14 kn_17 li_18 pa_19 ins_28 cm_21 x1 x2 x3 _ _ _ hf hP hD hS (lv_sub hl [1, 2, 3, 4] rfl)
              · have hf := ite_t c_16 hf
                refine lv_iconst (v := 0) hx hb d_S_itemsComeUp_85 (by decide) ?_
                cases hf
                exact hret _ _ _ _ (Or.inl rfl) hP hD hS d_S_itemsComeUp_86
  unfold f_S_itemsComeUp at hf
  refine lv_iload_n hx hb d_S_itemsComeUp_0 rfl (lv_at hl 1 rfl) ?_
  refine lv_if_lt (tgt := 13) hx hb d_S_itemsComeUp_1 (by decide) (fun c_1 => ?_) (fun c_1 => ?_)
  · have hf := ite_t c_1 hf
    refine lv_iconst (v := 0) hx hb d_S_itemsComeUp_13 (by decide) ?_
    cases hf
    exact hret _ _ _ _ (Or.inl rfl) hP hD hS d_S_itemsComeUp_14
  · have hf := ite_f c_1 hf
    refine lv_iload_n hx hb d_S_itemsComeUp_4 rfl (lv_at hl 1 rfl) ?_
    refine lv_aload_n hx hb d_S_itemsComeUp_5 rfl (lv_at hl 0 rfl) ?_
    refine va_get (D := (dC, dI)) (ci := 3) (v := .ref (h 9)) (C := R_S) (T := T_S) (N := 10) hx hb htb in_S hown hK hP 6 rfl rfl 5 (by decide) (htb _ tw_181) (fun _ h9 => h9) rfl d_S_itemsComeUp_6 ?_
    refine va_alen (v := (4096 : Int32)) hx hb hK hP 9 0 rfl rfl rfl d_S_itemsComeUp_9 ?_
    refine lv_icmp_lt (tgt := 15) hx hb d_S_itemsComeUp_10 (by decide) (fun c_2 => ?_) (fun c_2 => ?_)
    · have hf := ite_t c_2 hf
      refine lv_aload_n hx hb d_S_itemsComeUp_15 rfl (lv_at hl 0 rfl) ?_
      refine va_get (D := (dC, dI)) (ci := 3) (v := .ref (h 9)) (C := R_S) (T := T_S) (N := 10) hx hb htb in_S hown hK hP 6 rfl rfl 5 (by decide) (htb _ tw_181) (fun _ h9 => h9) rfl d_S_itemsComeUp_16 ?_
      refine lv_iload_n hx hb d_S_itemsComeUp_19 rfl (lv_at hl 1 rfl) ?_
      obtain ⟨c_3, hf⟩ := gd_s hf
      refine va_iald (i := a1) hx hb hK hP 9 0 rfl rfl c_3 d_S_itemsComeUp_20 ?_
      obtain ⟨v2_4, ev2_4, hf⟩ := lt1_s hf
      refine lv_eqi ev2_4 ?_
      refine lv_istore_n (lv' := [(2, .int v2_4), (0, .ref (h 6)), (1, .int a1)]) hx hb d_S_itemsComeUp_21 rfl hl (by decide) rfl (fun ls hl => ?_)
      refine lv_aload_n hx hb d_S_itemsComeUp_22 rfl (lv_at hl 1 rfl) ?_
      refine va_get (D := (dC, dI)) (ci := 3) (v := .ref (h 5)) (C := R_S) (T := T_S) (N := 10) hx hb htb in_S hown hK hP 6 rfl rfl 2 (by decide) (htb _ tw_178) (fun _ h9 => h9) rfl d_S_itemsComeUp_23 ?_
      refine lv_iload_n hx hb d_S_itemsComeUp_26 rfl (lv_at hl 0 rfl) ?_
      obtain ⟨dr_5, es_6, of_7, od_8, pl_9, hd_10, hc_11, hf⟩ := bd6_s hf
      refine ucVv (As := [.int v2_4]) (rest := []) ⟨hx, hb, hml, hown, htb⟩ hK hP hD hS hA (fun hs => c_E_start hc_11) (cwV 1 htb (gV tw_433 tw_434 tw_435 tw_72 tw_436) rfl rfl rfl (by decide +kernel) ⟨Nat.le_of_ble_eq_true rfl, Nat.le_of_ble_eq_true rfl⟩) 5 1 rfl rfl rfl rfl rfl hl.1 (Nat.le_of_ble_eq_true rfl) d_S_itemsComeUp_27 ⟨Nat.zero_le _, Nat.zero_le _⟩ (fun H locs hP hD hS => ?_)
      refine lv_iconst (v := 0) hx hb d_S_itemsComeUp_30 (by decide) ?_
      refine lv_istore_n (lv' := [(3, .int ((0 : Int32))), (2, .int v2_4), (0, .ref (h 6)), (1, .int a1)]) hx hb d_S_itemsComeUp_31 rfl hl (by decide) rfl (fun ls hl => ?_)
      exact hj_32 N dr_5 es_6 of_7 od_8 pl_9 hd_10 tk kn li pa ins cm a1 v2_4 ((0 : Int32)) _ _ _ hf hP hD hS (lv_sub hl [2, 3, 1, 0] rfl)
    · have hf := ite_f c_2 hf
      refine lv_iconst (v := 0) hx hb d_S_itemsComeUp_13 (by decide) ?_
      cases hf
      exact hret _ _ _ _ (Or.inl rfl) hP hD hS d_S_itemsComeUp_14
set_option maxHeartbeats 4000000 in
set_option maxRecDepth 100000 in
theorem c_S_treeFault {l : Launch} {dC : Nat → ClassId} {dI : Nat → Nat → Nat} {N : Nat} {h : Nat → Nat} {cI : ClassId} {cL : ClassId} {NW : Nat} {bk : Int32} {sz : Int32} {wd : Nat → Int64} {mb : Nat → Int32} {gB : Int32} {gI : Int32} {gN : Int32} {iN : Int32} {dr : Int32} {es : Int64} {of : Int64} {od : Int32} {pl : Int64} {hd : Int64} {tk : Nat → Int32} {kn : Nat → Int32} {li : Nat → Int32} {pa : Nat → Int32} {ins : Nat → Int32} {cm : Int32} {fd : Int32} {hr : Int32} {hs : Nat} {r : Int32} {dr' : Int32} {es' : Int64} {of' : Int64} {od' : Int32} {pl' : Int64} {hd' : Int64} {tk' : Nat → Int32} {kn' : Nat → Int32} {li' : Nat → Int32} {pa' : Nat → Int32} {ins' : Nat → Int32} {cm' : Int32} (hf : f_S_treeFault N NW bk sz wd mb gI iN dr es of od pl hd tk kn li pa ins cm = some (r, dr', es', of', od', pl', hd', tk', kn', li', pa', ins', cm')) : Met l y_S_treeFault ws_S_treeFault { frames := 4, cells := 0, slots := 0, locals := 109 } (PcU (dC, dI) clAll [(cI, .int), (cL, .long)] (wC h cI cL NW bk sz wd mb gB gI gN iN dr es of od pl hd tk kn li pa ins cm fd hr) hs [.ref (h 6)]) (QUi (dC, dI) clAll [(cI, .int), (cL, .long)] (wC h cI cL NW bk sz wd mb gB gI gN iN dr es of od pl hd tk kn li pa ins cm fd hr) (wC h cI cL NW bk sz wd mb gB gI gN iN dr' es' of' od' pl' hd' tk' kn' li' pa' ins' cm' fd hr) hs r) 0 0 (va_A (wC h cI cL NW bk sz wd mb gB gI gN iN dr es of od pl hd tk kn li pa ins cm fd hr) hs) := by
  refine mUi (cc := b_S_treeFault) (maxL := 2) (by decide) rfl (Nat.le_of_ble_eq_true rfl) ?_
  intro p e s m args below meth c Q hx hb hml hts hown A hA hK hP hD hS hret ls hl
  have htb : ∀ w ∈ TB, w.before args s = true := fun w h => hts w (List.mem_cons_of_mem _ h)
  have hl : lv_has ls 2 [(0, .ref (h 6))] := hl
  have hj_56 : ∀ (k_56 : Nat) (dr : Int32) (es : Int64) (of : Int64) (od : Int32) (pl : Int64) (hd : Int64) (tk : Nat → Int32) (kn : Nat → Int32) (li : Nat → Int32) (pa : Nat → Int32) (ins : Nat → Int32) (cm : Int32) (x1 : Int32) (H : Heap) (locs : List Loc) (ls : Array Slot), f_S_treeFault_56 N NW bk sz wd mb gI iN k_56 dr es of od pl hd tk kn li pa ins cm x1 = some (r, dr', es', of', od', pl', hd', tk', kn', li', pa', ins', cm') → va_P (dC, dI) clAll (wC h cI cL NW bk sz wd mb gB gI gN iN dr es of od pl hd tk kn li pa ins cm fd hr) H → va_D A (wC h cI cL NW bk sz wd mb gB gI gN iN dr es of od pl hd tk kn li pa ins cm fd hr) → va_S A s.heap H locs → lv_has ls 2 [(0, .ref (h 6)), (1, .int x1)] → W p l e (headSpec ws_S_treeFault { frames := 4, cells := 0, slots := 0, locals := 109 }).room s m args below meth c H locs 0 0 Q (F0 m 56 ls []) := by
    intro k_56
    induction k_56 with
    | zero => intro _ _ _ _ _ _ _ _ _ _ _ _ _ _ _ _ hf; exact absurd hf (by simp [f_S_treeFault_56])
    | succ k_56 ih_56 =>
      intro dr es of od pl hd tk kn li pa ins cm x1 H locs ls hf hP hD hS hl
      rw [f_S_treeFault_56] at hf
      refine lv_iload_n hx hb d_S_treeFault_56 rfl (lv_at hl 1 rfl) ?_
      refine lv_aload_n hx hb d_S_treeFault_57 rfl (lv_at hl 0 rfl) ?_
      refine va_get (D := (dC, dI)) (ci := 3) (v := .int cm) (C := R_S) (T := T_S) (N := 10) hx hb htb in_S hown hK hP 6 rfl rfl 8 (by decide) (htb _ tw_184) (fun _ h9 => h9) rfl d_S_treeFault_58 ?_
      refine lv_icmp_ge (tgt := 129) hx hb d_S_treeFault_61 (by decide) (fun c_1 => ?_) (fun c_1 => ?_)
      · have hf := ite_t c_1 hf
        refine lv_iconst (v := 0) hx hb d_S_treeFault_129 (by decide) ?_
        cases hf
        exact hret _ _ _ _ hP hD hS d_S_treeFault_130
      · have hf := ite_f c_1 hf
        refine lv_iload_n hx hb d_S_treeFault_64 rfl (lv_at hl 1 rfl) ?_
        refine lv_aload_n hx hb d_S_treeFault_65 rfl (lv_at hl 0 rfl) ?_
        refine va_get (D := (dC, dI)) (ci := 3) (v := .ref (h 9)) (C := R_S) (T := T_S) (N := 10) hx hb htb in_S hown hK hP 6 rfl rfl 5 (by decide) (htb _ tw_181) (fun _ h9 => h9) rfl d_S_treeFault_66 ?_
        refine va_alen (v := (4096 : Int32)) hx hb hK hP 9 0 rfl rfl rfl d_S_treeFault_69 ?_
        refine lv_icmp_ge (tgt := 129) hx hb d_S_treeFault_70 (by decide) (fun c_2 => ?_) (fun c_2 => ?_)
        · have hf := ite_t c_2 hf
          refine lv_iconst (v := 0) hx hb d_S_treeFault_129 (by decide) ?_
          cases hf
          exact hret _ _ _ _ hP hD hS d_S_treeFault_130
        · have hf := ite_f c_2 hf
          refine lv_aload_n hx hb d_S_treeFault_73 rfl (lv_at hl 0 rfl) ?_
          refine va_get (D := (dC, dI)) (ci := 3) (v := .ref (h 3)) (C := R_S) (T := T_S) (N := 10) hx hb htb in_S hown hK hP 6 rfl rfl 1 (by decide) (htb _ tw_177) (fun _ h9 => h9) rfl d_S_treeFault_74 ?_
          refine lv_aload_n hx hb d_S_treeFault_77 rfl (lv_at hl 0 rfl) ?_
          refine va_get (D := (dC, dI)) (ci := 3) (v := .ref (h 9)) (C := R_S) (T := T_S) (N := 10) hx hb htb in_S hown hK hP 6 rfl rfl 5 (by decide) (htb _ tw_181) (fun _ h9 => h9) rfl d_S_treeFault_78 ?_
          refine lv_iload_n hx hb d_S_treeFault_81 rfl (lv_at hl 1 rfl) ?_
          obtain ⟨c_3, hf⟩ := gd_s hf
          refine va_iald (i := x1) hx hb hK hP 9 0 rfl rfl c_3 d_S_treeFault_82 ?_
          obtain ⟨r_4, hc_5, hf⟩ := bd1_s hf
          refine ucVi (As := [.int (li (Int32.toNatClampNeg x1))]) (rest := []) ⟨hx, hb, hml, hown, htb⟩ hK hP hD hS hA (fun hs => c_L_typeOf hc_5) (cwV 1 htb (gV tw_378 tw_379 tw_380 tw_71 tw_381) rfl rfl rfl (by decide +kernel) ⟨Nat.le_of_ble_eq_true rfl, Nat.le_of_ble_eq_true rfl⟩) 3 2 rfl rfl rfl rfl rfl hl.1 (Nat.le_of_ble_eq_true rfl) d_S_treeFault_83 ⟨Nat.zero_le _, Nat.zero_le _⟩ (fun H locs hP hD hS => ?_)
          refine lv_sipush (v := 16384) hx hb d_S_treeFault_86 (by decide) ?_
          refine lv_icmp_ne (tgt := 123) hx hb d_S_treeFault_89 (by decide) (fun c_6 => ?_) (fun c_6 => ?_)
          · have hf := ite_f c_6 hf
            obtain ⟨v1_7, ev1_7, hf⟩ := lt1_s hf
            refine lv_iinc (v := v1_7) (lv' := [(1, .int v1_7), (0, .ref (h 6))]) hx hb d_S_treeFault_123 hl (k := 1) rfl (by rw [← ev1_7]; rfl) (by decide) rfl (fun ls hl => ?_)
            refine lv_goto (tgt := 56) hx hb d_S_treeFault_126 (by decide) ?_
            exact ih_56 dr es of od pl hd tk kn li pa ins cm v1_7 _ _ _ hf hP hD hS (lv_sub hl [1, 0] rfl)
          · have hf := ite_t c_6 hf
            refine lv_aload_n hx hb d_S_treeFault_92 rfl (lv_at hl 0 rfl) ?_
            refine lv_aload_n hx hb d_S_treeFault_93 rfl (lv_at hl 0 rfl) ?_
            refine va_get (D := (dC, dI)) (ci := 3) (v := .ref (h 9)) (C := R_S) (T := T_S) (N := 10) hx hb htb in_S hown hK hP 6 rfl rfl 5 (by decide) (htb _ tw_181) (fun _ h9 => h9) rfl d_S_treeFault_94 ?_
            refine lv_iload_n hx hb d_S_treeFault_97 rfl (lv_at hl 1 rfl) ?_
            obtain ⟨c_8, hf⟩ := gd_s hf
            refine va_iald (i := x1) hx hb hK hP 9 0 rfl rfl c_8 d_S_treeFault_98 ?_
            refine lv_aload_n hx hb d_S_treeFault_99 rfl (lv_at hl 0 rfl) ?_
            refine va_get (D := (dC, dI)) (ci := 3) (v := .ref (h 10)) (C := R_S) (T := T_S) (N := 10) hx hb htb in_S hown hK hP 6 rfl rfl 6 (by decide) (htb _ tw_182) (fun _ h9 => h9) rfl d_S_treeFault_100 ?_
            refine lv_iload_n hx hb d_S_treeFault_103 rfl (lv_at hl 1 rfl) ?_
            obtain ⟨c_9, hf⟩ := gd_s hf
            refine va_iald (i := x1) hx hb hK hP 10 0 rfl rfl c_9 d_S_treeFault_104 ?_
            obtain ⟨r_10, dr_11, es_12, of_13, od_14, pl_15, hd_16, hc_17, hf⟩ := bd7_s hf
            refine ucVi (As := [.int (li (Int32.toNatClampNeg x1)), .int (pa (Int32.toNatClampNeg x1))]) (rest := []) ⟨hx, hb, hml, hown, htb⟩ hK hP hD hS hA (fun hs => c_S_entriesStand hc_17) (cwV 2 htb (gV tw_429 tw_431 tw_12 tw_73 tw_432) rfl rfl rfl (by decide +kernel) ⟨Nat.le_of_ble_eq_true rfl, Nat.le_of_ble_eq_true rfl⟩) 6 3 rfl rfl rfl rfl rfl hl.1 (Nat.le_of_ble_eq_true rfl) d_S_treeFault_105 ⟨Nat.zero_le _, Nat.zero_le _⟩ (fun H locs hP hD hS => ?_)
            refine lv_if_ne (tgt := 113) hx hb d_S_treeFault_108 (by decide) (fun c_18 => ?_) (fun c_18 => ?_)
            · have hf := ite_f c_18 hf
              refine lv_aload_n hx hb d_S_treeFault_113 rfl (lv_at hl 0 rfl) ?_
              refine lv_iload_n hx hb d_S_treeFault_114 rfl (lv_at hl 1 rfl) ?_
              obtain ⟨r_19, dr_20, es_21, of_22, od_23, pl_24, hd_25, tk_26, kn_27, li_28, pa_29, ins_30, cm_31, hc_32, hf⟩ := bd13_s hf
              refine ucVi (As := [.int x1]) (rest := []) ⟨hx, hb, hml, hown, htb⟩ hK hP hD hS hA (fun hs => c_S_itemsComeUp hc_32) (cwV 1 htb (gV tw_510 tw_512 tw_14 tw_73 tw_513) rfl rfl rfl (by decide +kernel) ⟨Nat.le_of_ble_eq_true rfl, Nat.le_of_ble_eq_true rfl⟩) 6 3 rfl rfl rfl rfl rfl hl.1 (Nat.le_of_ble_eq_true rfl) d_S_treeFault_115 ⟨Nat.zero_le _, Nat.zero_le _⟩ (fun H locs hP hD hS => ?_)
              refine lv_if_ne (tgt := 123) hx hb d_S_treeFault_118 (by decide) (fun c_33 => ?_) (fun c_33 => ?_)
              · have hf := ite_f c_33 hf
                obtain ⟨v1_34, ev1_34, hf⟩ := lt1_s hf
                refine lv_iinc (v := v1_34) (lv' := [(1, .int v1_34), (0, .ref (h 6))]) hx hb d_S_treeFault_123 hl (k := 1) rfl (by rw [← ev1_34]; rfl) (by decide) rfl (fun ls hl => ?_)
                refine lv_goto (tgt := 56) hx hb d_S_treeFault_126 (by decide) ?_
                exact ih_56 dr_20 es_21 of_22 od_23 pl_24 hd_25 tk_26 kn_27 li_28 pa_29 ins_30 cm_31 v1_34 _ _ _ hf hP hD hS (lv_sub hl [1, 0] rfl)
              · have hf := ite_t c_33 hf
                refine lv_iconst (v := 4) hx hb d_S_treeFault_121 (by decide) ?_
                cases hf
                exact hret _ _ _ _ hP hD hS d_S_treeFault_122
            · have hf := ite_t c_18 hf
              refine lv_iconst (v := 5) hx hb d_S_treeFault_111 (by decide) ?_
              cases hf
              exact hret _ _ _ _ hP hD hS d_S_treeFault_112
  unfold f_S_treeFault at hf
  refine lv_aload_n hx hb d_S_treeFault_0 rfl (lv_at hl 0 rfl) ?_
  refine va_get (D := (dC, dI)) (ci := 3) (v := .ref (h 8)) (C := R_S) (T := T_S) (N := 10) hx hb htb in_S hown hK hP 6 rfl rfl 4 (by decide) (htb _ tw_180) (fun _ h9 => h9) rfl d_S_treeFault_1 ?_
  refine lv_iconst (v := 0) hx hb d_S_treeFault_4 (by decide) ?_
  obtain ⟨kn_1, hc_2, hf⟩ := bd1_s hf
  refine ucSv (As := [.ref (h 8), .int ((0 : Int32))]) (rest := []) ⟨hx, hb, hml, hown, htb⟩ hK hP hD hS hA (fun hs => c_J_fill8 hc_2) (va_cwS 2 htb (gS tw_345 tw_346 tw_75 tw_347) rfl rfl rfl (by decide +kernel) ⟨Nat.le_of_ble_eq_true rfl, Nat.le_of_ble_eq_true rfl⟩) rfl rfl hl.1 (Nat.le_of_ble_eq_true rfl) d_S_treeFault_5 ⟨Nat.zero_le _, Nat.zero_le _⟩ (fun H locs hP hD hS => ?_)
  refine lv_aload_n hx hb d_S_treeFault_8 rfl (lv_at hl 0 rfl) ?_
  refine lv_iconst (v := 0) hx hb d_S_treeFault_9 (by decide) ?_
  refine va_put (D := (dC, dI)) (ci := 3) (v := .int ((0 : Int32))) (ty := .int) (C := R_S) (T := T_S) (N := 10) hx hb htb in_S ty_S tyok_S nm_S hown hK hP hD hS 6 rfl rfl 8 (by decide) (htb _ tw_184) (fun _ h9 => h9) rfl (by decide +kernel) rfl rfl (Nat.le_of_ble_eq_true rfl) d_S_treeFault_10 (fun H locs hP hD hS => ?_)
  have hP : va_P (dC, dI) clAll (wC h cI cL NW bk sz wd mb gB gI gN iN dr es of od pl hd tk kn_1 li pa ins ((0 : Int32)) fd hr) H := hP
  have hD : va_D A (wC h cI cL NW bk sz wd mb gB gI gN iN dr es of od pl hd tk kn_1 li pa ins ((0 : Int32)) fd hr) := hD
  refine lv_aload_n hx hb d_S_treeFault_13 rfl (lv_at hl 0 rfl) ?_
  refine va_get (D := (dC, dI)) (ci := 3) (v := .ref (h 3)) (C := R_S) (T := T_S) (N := 10) hx hb htb in_S hown hK hP 6 rfl rfl 1 (by decide) (htb _ tw_177) (fun _ h9 => h9) rfl d_S_treeFault_14 ?_
  refine lv_iconst (v := 2) hx hb d_S_treeFault_17 (by decide) ?_
  obtain ⟨r_3, hc_4, hf⟩ := bd1_s hf
  refine ucVi (As := [.int ((2 : Int32))]) (rest := []) ⟨hx, hb, hml, hown, htb⟩ hK hP hD hS hA (fun hs => c_L_isUsed hc_4) (cwV 1 htb (gV tw_369 tw_370 tw_371 tw_71 tw_372) rfl rfl rfl (by decide +kernel) ⟨Nat.le_of_ble_eq_true rfl, Nat.le_of_ble_eq_true rfl⟩) 3 2 rfl rfl rfl rfl rfl hl.1 (Nat.le_of_ble_eq_true rfl) d_S_treeFault_18 ⟨Nat.zero_le _, Nat.zero_le _⟩ (fun H locs hP hD hS => ?_)
  refine lv_if_eq (tgt := 46) hx hb d_S_treeFault_21 (by decide) (fun c_5 => ?_) (fun c_5 => ?_)
  · have hf := ite_t c_5 hf
    refine lv_iconst (v := 4) hx hb d_S_treeFault_46 (by decide) ?_
    cases hf
    exact hret _ _ _ _ hP hD hS d_S_treeFault_47
  · have hf := ite_f c_5 hf
    refine lv_aload_n hx hb d_S_treeFault_24 rfl (lv_at hl 0 rfl) ?_
    refine va_get (D := (dC, dI)) (ci := 3) (v := .ref (h 3)) (C := R_S) (T := T_S) (N := 10) hx hb htb in_S hown hK hP 6 rfl rfl 1 (by decide) (htb _ tw_177) (fun _ h9 => h9) rfl d_S_treeFault_25 ?_
    refine lv_iconst (v := 2) hx hb d_S_treeFault_28 (by decide) ?_
    obtain ⟨r_6, hc_7, hf⟩ := bd1_s hf
    refine ucVi (As := [.int ((2 : Int32))]) (rest := []) ⟨hx, hb, hml, hown, htb⟩ hK hP hD hS hA (fun hs => c_L_typeOf hc_7) (cwV 1 htb (gV tw_378 tw_379 tw_380 tw_71 tw_381) rfl rfl rfl (by decide +kernel) ⟨Nat.le_of_ble_eq_true rfl, Nat.le_of_ble_eq_true rfl⟩) 3 2 rfl rfl rfl rfl rfl hl.1 (Nat.le_of_ble_eq_true rfl) d_S_treeFault_29 ⟨Nat.zero_le _, Nat.zero_le _⟩ (fun H locs hP hD hS => ?_)
    refine lv_sipush (v := 16384) hx hb d_S_treeFault_32 (by decide) ?_
    refine lv_icmp_ne (tgt := 46) hx hb d_S_treeFault_35 (by decide) (fun c_8 => ?_) (fun c_8 => ?_)
    · have hf := ite_f c_8 hf
      refine lv_iconst (v := 4) hx hb d_S_treeFault_46 (by decide) ?_
      cases hf
      exact hret _ _ _ _ hP hD hS d_S_treeFault_47
    · have hf := ite_t c_8 hf
      refine lv_aload_n hx hb d_S_treeFault_38 rfl (lv_at hl 0 rfl) ?_
      refine lv_iconst (v := 2) hx hb d_S_treeFault_39 (by decide) ?_
      obtain ⟨r_9, tk_10, hc_11, hf⟩ := bd2_s hf
      refine ucVi (As := [.int ((2 : Int32))]) (rest := []) ⟨hx, hb, hml, hown, htb⟩ hK hP hD hS hA (fun hs => c_S_takeWhole hc_11) (cwV 1 htb (gV tw_388 tw_390 tw_8 tw_73 tw_391) rfl rfl rfl (by decide +kernel) ⟨Nat.le_of_ble_eq_true rfl, Nat.le_of_ble_eq_true rfl⟩) 6 3 rfl rfl rfl rfl rfl hl.1 (Nat.le_of_ble_eq_true rfl) d_S_treeFault_40 ⟨Nat.zero_le _, Nat.zero_le _⟩ (fun H locs hP hD hS => ?_)
      refine lv_if_ne (tgt := 48) hx hb d_S_treeFault_43 (by decide) (fun c_12 => ?_) (fun c_12 => ?_)
      · have hf := ite_f c_12 hf
        refine lv_aload_n hx hb d_S_treeFault_48 rfl (lv_at hl 0 rfl) ?_
        refine lv_iconst (v := 2) hx hb d_S_treeFault_49 (by decide) ?_
        refine lv_iconst (v := 2) hx hb d_S_treeFault_50 (by decide) ?_
        obtain ⟨kn_13, li_14, pa_15, ins_16, cm_17, hc_18, hf⟩ := bd5_s hf
        refine ucVv (As := [.int ((2 : Int32)), .int ((2 : Int32))]) (rest := []) ⟨hx, hb, hml, hown, htb⟩ hK hP hD hS hA (fun hs => c_S_standInLine hc_18) (cwV 2 htb (gV tw_425 tw_427 tw_11 tw_73 tw_428) rfl rfl rfl (by decide +kernel) ⟨Nat.le_of_ble_eq_true rfl, Nat.le_of_ble_eq_true rfl⟩) 6 3 rfl rfl rfl rfl rfl hl.1 (Nat.le_of_ble_eq_true rfl) d_S_treeFault_51 ⟨Nat.zero_le _, Nat.zero_le _⟩ (fun H locs hP hD hS => ?_)
        refine lv_iconst (v := 0) hx hb d_S_treeFault_54 (by decide) ?_
        refine lv_istore_n (lv' := [(1, .int ((0 : Int32))), (0, .ref (h 6))]) hx hb d_S_treeFault_55 rfl hl (by decide) rfl (fun ls hl => ?_)
        exact hj_56 N dr es of od pl hd tk_10 kn_13 li_14 pa_15 ins_16 cm_17 ((0 : Int32)) _ _ _ hf hP hD hS (lv_sub hl [1, 0] rfl)
      · have hf := ite_t c_12 hf
        refine lv_iconst (v := 4) hx hb d_S_treeFault_46 (by decide) ?_
        cases hf
        exact hret _ _ _ _ hP hD hS d_S_treeFault_47
set_option maxHeartbeats 4000000 in
set_option maxRecDepth 100000 in
theorem c_S_linksStand {l : Launch} {dC : Nat → ClassId} {dI : Nat → Nat → Nat} {N : Nat} {h : Nat → Nat} {cI : ClassId} {cL : ClassId} {NW : Nat} {bk : Int32} {sz : Int32} {wd : Nat → Int64} {mb : Nat → Int32} {gB : Int32} {gI : Int32} {gN : Int32} {iN : Int32} {dr : Int32} {es : Int64} {of : Int64} {od : Int32} {pl : Int64} {hd : Int64} {tk : Nat → Int32} {kn : Nat → Int32} {li : Nat → Int32} {pa : Nat → Int32} {ins : Nat → Int32} {cm : Int32} {fd : Int32} {hr : Int32} {hs : Nat} {r : Int32} (hf : f_S_linksStand N NW sz wd mb gI li ins cm = some (r)) : Met l y_S_linksStand ws_S_linksStand { frames := 2, cells := 0, slots := 0, locals := 50 } (PcU (dC, dI) clAll [(cI, .int), (cL, .long)] (wC h cI cL NW bk sz wd mb gB gI gN iN dr es of od pl hd tk kn li pa ins cm fd hr) hs [.ref (h 6)]) (QUi (dC, dI) clAll [(cI, .int), (cL, .long)] (wC h cI cL NW bk sz wd mb gB gI gN iN dr es of od pl hd tk kn li pa ins cm fd hr) (wC h cI cL NW bk sz wd mb gB gI gN iN dr es of od pl hd tk kn li pa ins cm fd hr) hs r) 0 0 (va_A (wC h cI cL NW bk sz wd mb gB gI gN iN dr es of od pl hd tk kn li pa ins cm fd hr) hs) := by
  refine mUz (cc := b_S_linksStand) (maxL := 3) (by decide) rfl (Nat.le_of_ble_eq_true rfl) ?_
  intro p e s m args below meth c Q hx hb hml hts hown A hA hK hP hD hS hret ls hl
  have htb : ∀ w ∈ TB, w.before args s = true := fun w h => hts w (List.mem_cons_of_mem _ h)
  have hl : lv_has ls 3 [(0, .ref (h 6))] := hl
  have hj_2 : ∀ (k_2 : Nat) (x1 : Int32) (H : Heap) (locs : List Loc) (ls : Array Slot), f_S_linksStand_2 N NW sz wd mb gI li ins cm k_2 x1 = some (r) → va_P (dC, dI) clAll (wC h cI cL NW bk sz wd mb gB gI gN iN dr es of od pl hd tk kn li pa ins cm fd hr) H → va_D A (wC h cI cL NW bk sz wd mb gB gI gN iN dr es of od pl hd tk kn li pa ins cm fd hr) → va_S A s.heap H locs → lv_has ls 3 [(0, .ref (h 6)), (1, .int x1)] → W p l e (headSpec ws_S_linksStand { frames := 2, cells := 0, slots := 0, locals := 50 }).room s m args below meth c H locs 0 0 Q (F0 m 2 ls []) := by
    intro k_2
    induction k_2 with
    | zero => intro _ _ _ _ hf; exact absurd hf (by simp [f_S_linksStand_2])
    | succ k_2 ih_2 =>
      have hj_50 : ∀ (x1 : Int32) (s0 : Int32) (H : Heap) (locs : List Loc) (ls : Array Slot), f_S_linksStand_50 N NW sz wd mb gI li ins cm (f_S_linksStand_2 N NW sz wd mb gI li ins cm k_2) x1 s0 = some (r) → va_P (dC, dI) clAll (wC h cI cL NW bk sz wd mb gB gI gN iN dr es of od pl hd tk kn li pa ins cm fd hr) H → va_D A (wC h cI cL NW bk sz wd mb gB gI gN iN dr es of od pl hd tk kn li pa ins cm fd hr) → va_S A s.heap H locs → lv_has ls 3 [(0, .ref (h 6)), (1, .int x1)] → W p l e (headSpec ws_S_linksStand { frames := 2, cells := 0, slots := 0, locals := 50 }).room s m args below meth c H locs 0 0 Q (F0 m 50 ls [.int s0]) := by
        intro x1 s0 H locs ls hf hP hD hS hl
        unfold f_S_linksStand_50 at hf
        refine lv_istore_n (lv' := [(2, .int s0), (0, .ref (h 6)), (1, .int x1)]) hx hb d_S_linksStand_50 rfl hl (by decide) rfl (fun ls hl => ?_)
        refine lv_aload_n hx hb d_S_linksStand_51 rfl (lv_at hl 1 rfl) ?_
        refine va_get (D := (dC, dI)) (ci := 3) (v := .ref (h 3)) (C := R_S) (T := T_S) (N := 10) hx hb htb in_S hown hK hP 6 rfl rfl 1 (by decide) (htb _ tw_177) (fun _ h9 => h9) rfl d_S_linksStand_52 ?_
        refine lv_aload_n hx hb d_S_linksStand_55 rfl (lv_at hl 1 rfl) ?_
        refine va_get (D := (dC, dI)) (ci := 3) (v := .ref (h 9)) (C := R_S) (T := T_S) (N := 10) hx hb htb in_S hown hK hP 6 rfl rfl 5 (by decide) (htb _ tw_181) (fun _ h9 => h9) rfl d_S_linksStand_56 ?_
        refine lv_iload_n hx hb d_S_linksStand_59 rfl (lv_at hl 2 rfl) ?_
        obtain ⟨c_1, hf⟩ := gd_s hf
        refine va_iald (i := x1) hx hb hK hP 9 0 rfl rfl c_1 d_S_linksStand_60 ?_
        refine lv_bipush (v := 26) hx hb d_S_linksStand_61 (by decide) ?_
        refine lv_iconst (v := 2) hx hb d_S_linksStand_63 (by decide) ?_
        obtain ⟨r_2, hc_3, hf⟩ := bd1_s hf
        refine ucVl (As := [.int (li (Int32.toNatClampNeg x1)), .int ((26 : Int32)), .int ((2 : Int32))]) (rest := []) ⟨hx, hb, hml, hown, htb⟩ hK hP hD hS hA (fun hs => c_L_field hc_3) (cwV 3 htb (gV tw_401 tw_402 tw_403 tw_71 tw_404) rfl rfl rfl (by decide +kernel) ⟨Nat.le_of_ble_eq_true rfl, Nat.le_of_ble_eq_true rfl⟩) 3 2 rfl rfl rfl rfl rfl hl.1 (Nat.le_of_ble_eq_true rfl) d_S_linksStand_64 ⟨Nat.zero_le _, Nat.zero_le _⟩ (fun H locs hP hD hS => ?_)
        refine lv_iload_n hx hb d_S_linksStand_67 rfl (lv_at hl 0 rfl) ?_
        refine lv_i2l hx hb d_S_linksStand_68 rfl ?_
        refine lc_eq (tgt := 75) hx hb d_S_linksStand_69 d_S_linksStand_70 (by decide) (fun c_4 => ?_) (fun c_4 => ?_)
        · have hf := ite_t c_4 hf
          obtain ⟨v1_5, ev1_5, hf⟩ := lt1_s hf
          refine lv_iinc (v := v1_5) (lv' := [(1, .int v1_5), (2, .int s0), (0, .ref (h 6))]) hx hb d_S_linksStand_75 hl (k := 2) rfl (by rw [← ev1_5]; rfl) (by decide) rfl (fun ls hl => ?_)
          refine lv_goto (tgt := 2) hx hb d_S_linksStand_78 (by decide) ?_
          exact ih_2 v1_5 _ _ _ hf hP hD hS (lv_sub hl [2, 0] rfl)
        · have hf := ite_f c_4 hf
          refine lv_iconst (v := 0) hx hb d_S_linksStand_73 (by decide) ?_
          cases hf
          exact hret _ _ _ _ (Or.inl rfl) hP hD hS d_S_linksStand_74
      intro x1 H locs ls hf hP hD hS hl
      rw [f_S_linksStand_2] at hf
      refine lv_iload_n hx hb d_S_linksStand_2 rfl (lv_at hl 1 rfl) ?_
      refine lv_aload_n hx hb d_S_linksStand_3 rfl (lv_at hl 0 rfl) ?_
      refine va_get (D := (dC, dI)) (ci := 3) (v := .int cm) (C := R_S) (T := T_S) (N := 10) hx hb htb in_S hown hK hP 6 rfl rfl 8 (by decide) (htb _ tw_184) (fun _ h9 => h9) rfl d_S_linksStand_4 ?_
      refine lv_icmp_ge (tgt := 81) hx hb d_S_linksStand_7 (by decide) (fun c_1 => ?_) (fun c_1 => ?_)
      · have hf := ite_t c_1 hf
        refine lv_iconst (v := 1) hx hb d_S_linksStand_81 (by decide) ?_
        cases hf
        exact hret _ _ _ _ (Or.inr rfl) hP hD hS d_S_linksStand_82
      · have hf := ite_f c_1 hf
        refine lv_iload_n hx hb d_S_linksStand_10 rfl (lv_at hl 1 rfl) ?_
        refine lv_aload_n hx hb d_S_linksStand_11 rfl (lv_at hl 0 rfl) ?_
        refine va_get (D := (dC, dI)) (ci := 3) (v := .ref (h 9)) (C := R_S) (T := T_S) (N := 10) hx hb htb in_S hown hK hP 6 rfl rfl 5 (by decide) (htb _ tw_181) (fun _ h9 => h9) rfl d_S_linksStand_12 ?_
        refine va_alen (v := (4096 : Int32)) hx hb hK hP 9 0 rfl rfl rfl d_S_linksStand_15 ?_
        refine lv_icmp_ge (tgt := 81) hx hb d_S_linksStand_16 (by decide) (fun c_2 => ?_) (fun c_2 => ?_)
        · have hf := ite_t c_2 hf
          refine lv_iconst (v := 1) hx hb d_S_linksStand_81 (by decide) ?_
          cases hf
          exact hret _ _ _ _ (Or.inr rfl) hP hD hS d_S_linksStand_82
        · have hf := ite_f c_2 hf
          refine lv_aload_n hx hb d_S_linksStand_19 rfl (lv_at hl 0 rfl) ?_
          refine va_get (D := (dC, dI)) (ci := 3) (v := .ref (h 3)) (C := R_S) (T := T_S) (N := 10) hx hb htb in_S hown hK hP 6 rfl rfl 1 (by decide) (htb _ tw_177) (fun _ h9 => h9) rfl d_S_linksStand_20 ?_
          refine lv_aload_n hx hb d_S_linksStand_23 rfl (lv_at hl 0 rfl) ?_
          refine va_get (D := (dC, dI)) (ci := 3) (v := .ref (h 9)) (C := R_S) (T := T_S) (N := 10) hx hb htb in_S hown hK hP 6 rfl rfl 5 (by decide) (htb _ tw_181) (fun _ h9 => h9) rfl d_S_linksStand_24 ?_
          refine lv_iload_n hx hb d_S_linksStand_27 rfl (lv_at hl 1 rfl) ?_
          obtain ⟨c_3, hf⟩ := gd_s hf
          refine va_iald (i := x1) hx hb hK hP 9 0 rfl rfl c_3 d_S_linksStand_28 ?_
          obtain ⟨r_4, hc_5, hf⟩ := bd1_s hf
          refine ucVi (As := [.int (li (Int32.toNatClampNeg x1))]) (rest := []) ⟨hx, hb, hml, hown, htb⟩ hK hP hD hS hA (fun hs => c_L_typeOf hc_5) (cwV 1 htb (gV tw_378 tw_379 tw_380 tw_71 tw_381) rfl rfl rfl (by decide +kernel) ⟨Nat.le_of_ble_eq_true rfl, Nat.le_of_ble_eq_true rfl⟩) 3 2 rfl rfl rfl rfl rfl hl.1 (Nat.le_of_ble_eq_true rfl) d_S_linksStand_29 ⟨Nat.zero_le _, Nat.zero_le _⟩ (fun H locs hP hD hS => ?_)
          refine lv_sipush (v := 16384) hx hb d_S_linksStand_32 (by decide) ?_
          refine lv_icmp_ne (tgt := 49) hx hb d_S_linksStand_35 (by decide) (fun c_6 => ?_) (fun c_6 => ?_)
          · have hf := ite_f c_6 hf
            refine lv_iconst (v := 1) hx hb d_S_linksStand_49 (by decide) ?_
            exact hj_50 x1 ((1 : Int32)) _ _ _ hf hP hD hS (lv_sub hl [0, 1] rfl)
          · have hf := ite_t c_6 hf
            refine lv_iconst (v := 2) hx hb d_S_linksStand_38 (by decide) ?_
            refine lv_aload_n hx hb d_S_linksStand_39 rfl (lv_at hl 0 rfl) ?_
            refine va_get (D := (dC, dI)) (ci := 3) (v := .ref (h 11)) (C := R_S) (T := T_S) (N := 10) hx hb htb in_S hown hK hP 6 rfl rfl 7 (by decide) (htb _ tw_183) (fun _ h9 => h9) rfl d_S_linksStand_40 ?_
            refine lv_iload_n hx hb d_S_linksStand_43 rfl (lv_at hl 1 rfl) ?_
            obtain ⟨c_7, hf⟩ := gd_s hf
            refine va_iald (i := x1) hx hb hK hP 11 0 rfl rfl c_7 d_S_linksStand_44 ?_
            refine lv_iadd hx hb d_S_linksStand_45 ?_
            refine lv_goto (tgt := 50) hx hb d_S_linksStand_46 (by decide) ?_
            exact hj_50 x1 (((2 : Int32)) + (ins (Int32.toNatClampNeg x1))) _ _ _ hf hP hD hS (lv_sub hl [0, 1] rfl)
  unfold f_S_linksStand at hf
  refine lv_iconst (v := 0) hx hb d_S_linksStand_0 (by decide) ?_
  refine lv_istore_n (lv' := [(1, .int ((0 : Int32))), (0, .ref (h 6))]) hx hb d_S_linksStand_1 rfl hl (by decide) rfl (fun ls hl => ?_)
  exact hj_2 N ((0 : Int32)) _ _ _ hf hP hD hS (lv_sub hl [1, 0] rfl)
set_option maxHeartbeats 4000000 in
set_option maxRecDepth 100000 in
theorem c_S_isBlank {l : Launch} {dC : Nat → ClassId} {dI : Nat → Nat → Nat} {N : Nat} {h : Nat → Nat} {cI : ClassId} {cL : ClassId} {NW : Nat} {bk : Int32} {sz : Int32} {wd : Nat → Int64} {mb : Nat → Int32} {gB : Int32} {gI : Int32} {gN : Int32} {iN : Int32} {dr : Int32} {es : Int64} {of : Int64} {od : Int32} {pl : Int64} {hd : Int64} {tk : Nat → Int32} {kn : Nat → Int32} {li : Nat → Int32} {pa : Nat → Int32} {ins : Nat → Int32} {cm : Int32} {fd : Int32} {hr : Int32} {hs : Nat} {a1 : Int32} {r : Int32} (hf : f_S_isBlank N NW sz wd mb gI a1 = some (r)) : Met l y_S_isBlank ws_S_isBlank { frames := 1, cells := 0, slots := 0, locals := 27 } (PcU (dC, dI) clAll [(cI, .int), (cL, .long)] (wC h cI cL NW bk sz wd mb gB gI gN iN dr es of od pl hd tk kn li pa ins cm fd hr) hs [.ref (h 6), .int a1]) (QUi (dC, dI) clAll [(cI, .int), (cL, .long)] (wC h cI cL NW bk sz wd mb gB gI gN iN dr es of od pl hd tk kn li pa ins cm fd hr) (wC h cI cL NW bk sz wd mb gB gI gN iN dr es of od pl hd tk kn li pa ins cm fd hr) hs r) 0 0 (va_A (wC h cI cL NW bk sz wd mb gB gI gN iN dr es of od pl hd tk kn li pa ins cm fd hr) hs) := by
  refine mUz (cc := b_S_isBlank) (maxL := 5) (by decide) rfl (Nat.le_of_ble_eq_true rfl) ?_
  intro p e s m args below meth c Q hx hb hml hts hown A hA hK hP hD hS hret ls hl
  have htb : ∀ w ∈ TB, w.before args s = true := fun w h => hts w (List.mem_cons_of_mem _ h)
  have hl : lv_has ls 5 [(0, .ref (h 6)), (1, .int a1)] := hl
  have hj_12 : ∀ (k_12 : Nat) (x2 : Int64) (x4 : Int32) (H : Heap) (locs : List Loc) (ls : Array Slot), f_S_isBlank_12 N NW sz wd mb gI k_12 x2 x4 = some (r) → va_P (dC, dI) clAll (wC h cI cL NW bk sz wd mb gB gI gN iN dr es of od pl hd tk kn li pa ins cm fd hr) H → va_D A (wC h cI cL NW bk sz wd mb gB gI gN iN dr es of od pl hd tk kn li pa ins cm fd hr) → va_S A s.heap H locs → lv_has ls 5 [(0, .ref (h 6)), (2, .long x2), (4, .int x4)] → W p l e (headSpec ws_S_isBlank { frames := 1, cells := 0, slots := 0, locals := 27 }).room s m args below meth c H locs 0 0 Q (F0 m 12 ls []) := by
    intro k_12
    induction k_12 with
    | zero => intro _ _ _ _ _ hf; exact absurd hf (by simp [f_S_isBlank_12])
    | succ k_12 ih_12 =>
      intro x2 x4 H locs ls hf hP hD hS hl
      rw [f_S_isBlank_12] at hf
      refine lv_iload hx hb d_S_isBlank_12 (lv_at hl 2 rfl) ?_
      refine lv_sipush (v := 128) hx hb d_S_isBlank_14 (by decide) ?_
      refine lv_icmp_ge (tgt := 47) hx hb d_S_isBlank_17 (by decide) (fun c_1 => ?_) (fun c_1 => ?_)
      · have hf := ite_t c_1 hf
        refine lv_iconst (v := 1) hx hb d_S_isBlank_47 (by decide) ?_
        cases hf
        exact hret _ _ _ _ (Or.inr rfl) hP hD hS d_S_isBlank_48
      · have hf := ite_f c_1 hf
        refine lv_aload_n hx hb d_S_isBlank_20 rfl (lv_at hl 0 rfl) ?_
        refine va_get (D := (dC, dI)) (ci := 3) (v := .ref (h 1)) (C := R_S) (T := T_S) (N := 10) hx hb htb in_S hown hK hP 6 rfl rfl 0 (by decide) (htb _ tw_176) (fun _ h9 => h9) rfl d_S_isBlank_21 ?_
        refine lv_lload_n hx hb d_S_isBlank_24 rfl (lv_at hl 1 rfl) ?_
        refine lv_iload hx hb d_S_isBlank_25 (lv_at hl 2 rfl) ?_
        refine lv_i2l hx hb d_S_isBlank_27 rfl ?_
        refine lv_ladd hx hb d_S_isBlank_28 ?_
        refine lv_bipush (v := 8) hx hb d_S_isBlank_29 (by decide) ?_
        obtain ⟨r_2, hc_3, hf⟩ := bd1_s hf
        refine ucVl (As := [.long (x2 + (Int32.toInt64 x4)), .int ((8 : Int32))]) (rest := []) ⟨hx, hb, hml, hown, htb⟩ hK hP hD hS hA (fun hs => c_D_number hc_3) (cwV 2 htb (gV tw_308 tw_264 tw_265 tw_69 tw_266) rfl rfl rfl (by decide +kernel) ⟨Nat.le_of_ble_eq_true rfl, Nat.le_of_ble_eq_true rfl⟩) 1 0 rfl rfl rfl rfl rfl hl.1 (Nat.le_of_ble_eq_true rfl) d_S_isBlank_31 ⟨Nat.zero_le _, Nat.zero_le _⟩ (fun H locs hP hD hS => ?_)
        refine lv_lconst (v := 0) hx hb d_S_isBlank_34 (by decide) ?_
        refine lc_eq (tgt := 41) hx hb d_S_isBlank_35 d_S_isBlank_36 (by decide) (fun c_4 => ?_) (fun c_4 => ?_)
        · have hf := ite_t c_4 hf
          obtain ⟨v4_5, ev4_5, hf⟩ := lt1_s hf
          refine lv_iinc (v := v4_5) (lv' := [(4, .int v4_5), (0, .ref (h 6)), (2, .long x2)]) hx hb d_S_isBlank_41 hl (k := 2) rfl (by rw [← ev4_5]; rfl) (by decide) rfl (fun ls hl => ?_)
          refine lv_goto (tgt := 12) hx hb d_S_isBlank_44 (by decide) ?_
          exact ih_12 x2 v4_5 _ _ _ hf hP hD hS (lv_sub hl [1, 2, 0] rfl)
        · have hf := ite_f c_4 hf
          refine lv_iconst (v := 0) hx hb d_S_isBlank_39 (by decide) ?_
          cases hf
          exact hret _ _ _ _ (Or.inl rfl) hP hD hS d_S_isBlank_40
  unfold f_S_isBlank at hf
  refine lv_aload_n hx hb d_S_isBlank_0 rfl (lv_at hl 0 rfl) ?_
  refine va_get (D := (dC, dI)) (ci := 3) (v := .ref (h 3)) (C := R_S) (T := T_S) (N := 10) hx hb htb in_S hown hK hP 6 rfl rfl 1 (by decide) (htb _ tw_177) (fun _ h9 => h9) rfl d_S_isBlank_1 ?_
  refine lv_iload_n hx hb d_S_isBlank_4 rfl (lv_at hl 1 rfl) ?_
  obtain ⟨r_1, hc_2, hf⟩ := bd1_s hf
  refine ucVl (As := [.int a1]) (rest := []) ⟨hx, hb, hml, hown, htb⟩ hK hP hD hS hA (fun hs => c_L_inodePlace hc_2) (cwV 1 htb (gV tw_409 tw_383 tw_384 tw_71 tw_385) rfl rfl rfl (by decide +kernel) ⟨Nat.le_of_ble_eq_true rfl, Nat.le_of_ble_eq_true rfl⟩) 3 2 rfl rfl rfl rfl rfl hl.1 (Nat.le_of_ble_eq_true rfl) d_S_isBlank_5 ⟨Nat.zero_le _, Nat.zero_le _⟩ (fun H locs hP hD hS => ?_)
  refine lv_lstore_n (lv' := [(2, .long r_1), (0, .ref (h 6)), (1, .int a1)]) hx hb d_S_isBlank_8 rfl hl (by decide) rfl (fun ls hl => ?_)
  refine lv_iconst (v := 0) hx hb d_S_isBlank_9 (by decide) ?_
  refine lv_istore (lv' := [(4, .int ((0 : Int32))), (2, .long r_1), (0, .ref (h 6)), (1, .int a1)]) hx hb d_S_isBlank_10 hl (by decide) rfl (fun ls hl => ?_)
  exact hj_12 N r_1 ((0 : Int32)) _ _ _ hf hP hD hS (lv_sub hl [2, 1, 0] rfl)
set_option maxHeartbeats 4000000 in
set_option maxRecDepth 100000 in
theorem c_S_inodesStand {l : Launch} {dC : Nat → ClassId} {dI : Nat → Nat → Nat} {N : Nat} {h : Nat → Nat} {cI : ClassId} {cL : ClassId} {NW : Nat} {bk : Int32} {sz : Int32} {wd : Nat → Int64} {mb : Nat → Int32} {gB : Int32} {gI : Int32} {gN : Int32} {iN : Int32} {dr : Int32} {es : Int64} {of : Int64} {od : Int32} {pl : Int64} {hd : Int64} {tk : Nat → Int32} {kn : Nat → Int32} {li : Nat → Int32} {pa : Nat → Int32} {ins : Nat → Int32} {cm : Int32} {fd : Int32} {hr : Int32} {hs : Nat} {r : Int32} (hf : f_S_inodesStand N NW sz wd mb gI iN kn = some (r)) : Met l y_S_inodesStand ws_S_inodesStand { frames := 2, cells := 0, slots := 0, locals := 51 } (PcU (dC, dI) clAll [(cI, .int), (cL, .long)] (wC h cI cL NW bk sz wd mb gB gI gN iN dr es of od pl hd tk kn li pa ins cm fd hr) hs [.ref (h 6)]) (QUi (dC, dI) clAll [(cI, .int), (cL, .long)] (wC h cI cL NW bk sz wd mb gB gI gN iN dr es of od pl hd tk kn li pa ins cm fd hr) (wC h cI cL NW bk sz wd mb gB gI gN iN dr es of od pl hd tk kn li pa ins cm fd hr) hs r) 0 0 (va_A (wC h cI cL NW bk sz wd mb gB gI gN iN dr es of od pl hd tk kn li pa ins cm fd hr) hs) := by
  refine mUz (cc := b_S_inodesStand) (maxL := 3) (by decide) rfl (Nat.le_of_ble_eq_true rfl) ?_
  intro p e s m args below meth c Q hx hb hml hts hown A hA hK hP hD hS hret ls hl
  have htb : ∀ w ∈ TB, w.before args s = true := fun w h => hts w (List.mem_cons_of_mem _ h)
  have hl : lv_has ls 3 [(0, .ref (h 6))] := hl
  have hj_2 : ∀ (k_2 : Nat) (x1 : Int32) (H : Heap) (locs : List Loc) (ls : Array Slot), f_S_inodesStand_2 N NW sz wd mb gI iN kn k_2 x1 = some (r) → va_P (dC, dI) clAll (wC h cI cL NW bk sz wd mb gB gI gN iN dr es of od pl hd tk kn li pa ins cm fd hr) H → va_D A (wC h cI cL NW bk sz wd mb gB gI gN iN dr es of od pl hd tk kn li pa ins cm fd hr) → va_S A s.heap H locs → lv_has ls 3 [(0, .ref (h 6)), (1, .int x1)] → W p l e (headSpec ws_S_inodesStand { frames := 2, cells := 0, slots := 0, locals := 51 }).room s m args below meth c H locs 0 0 Q (F0 m 2 ls []) := by
    intro k_2
    induction k_2 with
    | zero => intro _ _ _ _ hf; exact absurd hf (by simp [f_S_inodesStand_2])
    | succ k_2 ih_2 =>
      have hj_42 : ∀ (x1 : Int32) (x2 : Int32) (s0 : Int32) (s1 : Int32) (H : Heap) (locs : List Loc) (ls : Array Slot), f_S_inodesStand_42 N NW sz wd mb gI iN kn (f_S_inodesStand_2 N NW sz wd mb gI iN kn k_2) x1 x2 s0 s1 = some (r) → va_P (dC, dI) clAll (wC h cI cL NW bk sz wd mb gB gI gN iN dr es of od pl hd tk kn li pa ins cm fd hr) H → va_D A (wC h cI cL NW bk sz wd mb gB gI gN iN dr es of od pl hd tk kn li pa ins cm fd hr) → va_S A s.heap H locs → lv_has ls 3 [(0, .ref (h 6)), (1, .int x1), (2, .int x2)] → W p l e (headSpec ws_S_inodesStand { frames := 2, cells := 0, slots := 0, locals := 51 }).room s m args below meth c H locs 0 0 Q (F0 m 42 ls [.int s1, .int s0]) := by
        intro x1 x2 s0 s1 H locs ls hf hP hD hS hl
        unfold f_S_inodesStand_42 at hf
        refine lv_icmp_eq (tgt := 47) hx hb d_S_inodesStand_42 (by decide) (fun c_1 => ?_) (fun c_1 => ?_)
        · have hf := ite_t c_1 hf
          refine lv_iload_n hx hb d_S_inodesStand_47 rfl (lv_at hl 2 rfl) ?_
          refine lv_if_ne (tgt := 61) hx hb d_S_inodesStand_48 (by decide) (fun c_2 => ?_) (fun c_2 => ?_)
          · have hf := ite_f c_2 hf
            obtain ⟨v1_3, ev1_3, hf⟩ := lt1_s hf
            refine lv_iinc (v := v1_3) (lv' := [(1, .int v1_3), (0, .ref (h 6)), (2, .int x2)]) hx hb d_S_inodesStand_61 hl (k := 1) rfl (by rw [← ev1_3]; rfl) (by decide) rfl (fun ls hl => ?_)
            refine lv_goto (tgt := 2) hx hb d_S_inodesStand_64 (by decide) ?_
            exact ih_2 v1_3 _ _ _ hf hP hD hS (lv_sub hl [1, 0] rfl)
          · have hf := ite_t c_2 hf
            refine lv_aload_n hx hb d_S_inodesStand_51 rfl (lv_at hl 0 rfl) ?_
            refine lv_iload_n hx hb d_S_inodesStand_52 rfl (lv_at hl 1 rfl) ?_
            obtain ⟨r_4, hc_5, hf⟩ := bd1_s hf
            refine ucVi (As := [.int x1]) (rest := []) ⟨hx, hb, hml, hown, htb⟩ hK hP hD hS hA (fun hs => c_S_isBlank hc_5) (cwV 1 htb (gV tw_534 tw_536 tw_19 tw_73 tw_537) rfl rfl rfl (by decide +kernel) ⟨Nat.le_of_ble_eq_true rfl, Nat.le_of_ble_eq_true rfl⟩) 6 3 rfl rfl rfl rfl rfl hl.1 (Nat.le_of_ble_eq_true rfl) d_S_inodesStand_53 ⟨Nat.zero_le _, Nat.zero_le _⟩ (fun H locs hP hD hS => ?_)
            refine lv_if_ne (tgt := 61) hx hb d_S_inodesStand_56 (by decide) (fun c_6 => ?_) (fun c_6 => ?_)
            · have hf := ite_f c_6 hf
              obtain ⟨v1_7, ev1_7, hf⟩ := lt1_s hf
              refine lv_iinc (v := v1_7) (lv' := [(1, .int v1_7), (0, .ref (h 6)), (2, .int x2)]) hx hb d_S_inodesStand_61 hl (k := 1) rfl (by rw [← ev1_7]; rfl) (by decide) rfl (fun ls hl => ?_)
              refine lv_goto (tgt := 2) hx hb d_S_inodesStand_64 (by decide) ?_
              exact ih_2 v1_7 _ _ _ hf hP hD hS (lv_sub hl [1, 0] rfl)
            · have hf := ite_t c_6 hf
              refine lv_iconst (v := 0) hx hb d_S_inodesStand_59 (by decide) ?_
              cases hf
              exact hret _ _ _ _ (Or.inl rfl) hP hD hS d_S_inodesStand_60
        · have hf := ite_f c_1 hf
          refine lv_iconst (v := 0) hx hb d_S_inodesStand_45 (by decide) ?_
          cases hf
          exact hret _ _ _ _ (Or.inl rfl) hP hD hS d_S_inodesStand_46
      have hj_37 : ∀ (x1 : Int32) (x2 : Int32) (s0 : Int32) (H : Heap) (locs : List Loc) (ls : Array Slot), f_S_inodesStand_37 N NW sz wd mb gI iN kn (f_S_inodesStand_2 N NW sz wd mb gI iN kn k_2) x1 x2 s0 = some (r) → va_P (dC, dI) clAll (wC h cI cL NW bk sz wd mb gB gI gN iN dr es of od pl hd tk kn li pa ins cm fd hr) H → va_D A (wC h cI cL NW bk sz wd mb gB gI gN iN dr es of od pl hd tk kn li pa ins cm fd hr) → va_S A s.heap H locs → lv_has ls 3 [(0, .ref (h 6)), (1, .int x1), (2, .int x2)] → W p l e (headSpec ws_S_inodesStand { frames := 2, cells := 0, slots := 0, locals := 51 }).room s m args below meth c H locs 0 0 Q (F0 m 37 ls [.int s0]) := by
        intro x1 x2 s0 H locs ls hf hP hD hS hl
        unfold f_S_inodesStand_37 at hf
        refine lv_iconst (v := 1) hx hb d_S_inodesStand_37 (by decide) ?_
        refine lv_goto (tgt := 42) hx hb d_S_inodesStand_38 (by decide) ?_
        exact hj_42 x1 x2 s0 ((1 : Int32)) _ _ _ hf hP hD hS (lv_sub hl [0, 1, 2] rfl)
      intro x1 H locs ls hf hP hD hS hl
      rw [f_S_inodesStand_2] at hf
      refine lv_iload_n hx hb d_S_inodesStand_2 rfl (lv_at hl 1 rfl) ?_
      refine lv_aload_n hx hb d_S_inodesStand_3 rfl (lv_at hl 0 rfl) ?_
      refine va_get (D := (dC, dI)) (ci := 3) (v := .ref (h 3)) (C := R_S) (T := T_S) (N := 10) hx hb htb in_S hown hK hP 6 rfl rfl 1 (by decide) (htb _ tw_177) (fun _ h9 => h9) rfl d_S_inodesStand_4 ?_
      obtain ⟨r_1, hc_2, hf⟩ := bd1_s hf
      refine ucVi (As := []) (rest := [.int x1]) ⟨hx, hb, hml, hown, htb⟩ hK hP hD hS hA (fun hs => c_L_inodes hc_2) (cwV 0 htb (gV tw_300 tw_301 tw_302 tw_71 tw_303) rfl rfl rfl (by decide +kernel) ⟨Nat.le_of_ble_eq_true rfl, Nat.le_of_ble_eq_true rfl⟩) 3 2 rfl rfl rfl rfl rfl hl.1 (Nat.le_of_ble_eq_true rfl) d_S_inodesStand_7 ⟨Nat.zero_le _, Nat.zero_le _⟩ (fun H locs hP hD hS => ?_)
      refine lv_icmp_gt (tgt := 67) hx hb d_S_inodesStand_10 (by decide) (fun c_3 => ?_) (fun c_3 => ?_)
      · have hf := ite_t c_3 hf
        refine lv_iconst (v := 1) hx hb d_S_inodesStand_67 (by decide) ?_
        cases hf
        exact hret _ _ _ _ (Or.inr rfl) hP hD hS d_S_inodesStand_68
      · have hf := ite_f c_3 hf
        refine lv_aload_n hx hb d_S_inodesStand_13 rfl (lv_at hl 0 rfl) ?_
        refine lv_iload_n hx hb d_S_inodesStand_14 rfl (lv_at hl 1 rfl) ?_
        obtain ⟨r_4, hc_5, hf⟩ := bd1_s hf
        refine ucVi (As := [.int x1]) (rest := []) ⟨hx, hb, hml, hown, htb⟩ hK hP hD hS hA (fun hs => c_S_isKnown hc_5) (cwV 1 htb (gV tw_518 tw_520 tw_15 tw_73 tw_521) rfl rfl rfl (by decide +kernel) ⟨Nat.le_of_ble_eq_true rfl, Nat.le_of_ble_eq_true rfl⟩) 6 3 rfl rfl rfl rfl rfl hl.1 (Nat.le_of_ble_eq_true rfl) d_S_inodesStand_15 ⟨Nat.zero_le _, Nat.zero_le _⟩ (fun H locs hP hD hS => ?_)
        refine lv_istore_n (lv' := [(2, .int r_4), (0, .ref (h 6)), (1, .int x1)]) hx hb d_S_inodesStand_18 rfl hl (by decide) rfl (fun ls hl => ?_)
        refine lv_aload_n hx hb d_S_inodesStand_19 rfl (lv_at hl 1 rfl) ?_
        refine va_get (D := (dC, dI)) (ci := 3) (v := .ref (h 3)) (C := R_S) (T := T_S) (N := 10) hx hb htb in_S hown hK hP 6 rfl rfl 1 (by decide) (htb _ tw_177) (fun _ h9 => h9) rfl d_S_inodesStand_20 ?_
        refine lv_iload_n hx hb d_S_inodesStand_23 rfl (lv_at hl 2 rfl) ?_
        obtain ⟨r_6, hc_7, hf⟩ := bd1_s hf
        refine ucVi (As := [.int x1]) (rest := []) ⟨hx, hb, hml, hown, htb⟩ hK hP hD hS hA (fun hs => c_L_isUsed hc_7) (cwV 1 htb (gV tw_369 tw_370 tw_371 tw_71 tw_372) rfl rfl rfl (by decide +kernel) ⟨Nat.le_of_ble_eq_true rfl, Nat.le_of_ble_eq_true rfl⟩) 3 2 rfl rfl rfl rfl rfl hl.1 (Nat.le_of_ble_eq_true rfl) d_S_inodesStand_24 ⟨Nat.zero_le _, Nat.zero_le _⟩ (fun H locs hP hD hS => ?_)
        refine lv_iload_n hx hb d_S_inodesStand_27 rfl (lv_at hl 0 rfl) ?_
        refine lv_if_ne (tgt := 37) hx hb d_S_inodesStand_28 (by decide) (fun c_8 => ?_) (fun c_8 => ?_)
        · have hf := ite_f c_8 hf
          exact hj_37 x1 r_4 r_6 _ _ _ hf hP hD hS (lv_sub hl [1, 2, 0] rfl)
        · have hf := ite_t c_8 hf
          refine lv_iload_n hx hb d_S_inodesStand_31 rfl (lv_at hl 2 rfl) ?_
          refine lv_bipush (v := 11) hx hb d_S_inodesStand_32 (by decide) ?_
          refine lv_icmp_gt (tgt := 41) hx hb d_S_inodesStand_34 (by decide) (fun c_9 => ?_) (fun c_9 => ?_)
          · have hf := ite_t c_9 hf
            refine lv_iconst (v := 0) hx hb d_S_inodesStand_41 (by decide) ?_
            exact hj_42 x1 r_4 r_6 ((0 : Int32)) _ _ _ hf hP hD hS (lv_sub hl [1, 2, 0] rfl)
          · have hf := ite_f c_9 hf
            exact hj_37 x1 r_4 r_6 _ _ _ hf hP hD hS (lv_sub hl [1, 2, 0] rfl)
  unfold f_S_inodesStand at hf
  refine lv_iconst (v := 1) hx hb d_S_inodesStand_0 (by decide) ?_
  refine lv_istore_n (lv' := [(1, .int ((1 : Int32))), (0, .ref (h 6))]) hx hb d_S_inodesStand_1 rfl hl (by decide) rfl (fun ls hl => ?_)
  exact hj_2 N ((1 : Int32)) _ _ _ hf hP hD hS (lv_sub hl [1, 0] rfl)
set_option maxHeartbeats 4000000 in
set_option maxRecDepth 100000 in
theorem c_S_isTaken {l : Launch} {dC : Nat → ClassId} {dI : Nat → Nat → Nat} {h : Nat → Nat} {cI : ClassId} {cL : ClassId} {NW : Nat} {bk : Int32} {sz : Int32} {wd : Nat → Int64} {mb : Nat → Int32} {gB : Int32} {gI : Int32} {gN : Int32} {iN : Int32} {dr : Int32} {es : Int64} {of : Int64} {od : Int32} {pl : Int64} {hd : Int64} {tk : Nat → Int32} {kn : Nat → Int32} {li : Nat → Int32} {pa : Nat → Int32} {ins : Nat → Int32} {cm : Int32} {fd : Int32} {hr : Int32} {hs : Nat} {a1 : Int32} {r : Int32} (hf : f_S_isTaken NW tk a1 = some (r)) : Met l y_S_isTaken ws_S_isTaken { frames := 0, cells := 0, slots := 0, locals := 0 } (PcU (dC, dI) clAll [(cI, .int), (cL, .long)] (wC h cI cL NW bk sz wd mb gB gI gN iN dr es of od pl hd tk kn li pa ins cm fd hr) hs [.ref (h 6), .int a1]) (QUi (dC, dI) clAll [(cI, .int), (cL, .long)] (wC h cI cL NW bk sz wd mb gB gI gN iN dr es of od pl hd tk kn li pa ins cm fd hr) (wC h cI cL NW bk sz wd mb gB gI gN iN dr es of od pl hd tk kn li pa ins cm fd hr) hs r) 0 0 (va_A (wC h cI cL NW bk sz wd mb gB gI gN iN dr es of od pl hd tk kn li pa ins cm fd hr) hs) := by
  refine mUz (cc := b_S_isTaken) (maxL := 2) (by decide) rfl (Nat.le_of_ble_eq_true rfl) ?_
  intro p e s m args below meth c Q hx hb hml hts hown A hA hK hP hD hS hret ls hl
  have htb : ∀ w ∈ TB, w.before args s = true := fun w h => hts w (List.mem_cons_of_mem _ h)
  have hl : lv_has ls 2 [(0, .ref (h 6)), (1, .int a1)] := hl
  unfold f_S_isTaken at hf
  refine lv_iload_n hx hb d_S_isTaken_0 rfl (lv_at hl 1 rfl) ?_
  refine lv_if_lt (tgt := 26) hx hb d_S_isTaken_1 (by decide) (fun c_1 => ?_) (fun c_1 => ?_)
  · have hf := ite_t c_1 hf
    refine lv_iconst (v := 0) hx hb d_S_isTaken_26 (by decide) ?_
    cases hf
    exact hret _ _ _ _ (Or.inl rfl) hP hD hS d_S_isTaken_27
  · have hf := ite_f c_1 hf
    refine lv_iload_n hx hb d_S_isTaken_4 rfl (lv_at hl 1 rfl) ?_
    refine lv_aload_n hx hb d_S_isTaken_5 rfl (lv_at hl 0 rfl) ?_
    refine va_get (D := (dC, dI)) (ci := 3) (v := .ref (h 7)) (C := R_S) (T := T_S) (N := 10) hx hb htb in_S hown hK hP 6 rfl rfl 3 (by decide) (htb _ tw_179) (fun _ h9 => h9) rfl d_S_isTaken_6 ?_
    refine va_alen (v := (512 : Int32)) hx hb hK hP 7 0 rfl rfl rfl d_S_isTaken_9 ?_
    refine lv_icmp_ge (tgt := 26) hx hb d_S_isTaken_10 (by decide) (fun c_2 => ?_) (fun c_2 => ?_)
    · have hf := ite_t c_2 hf
      refine lv_iconst (v := 0) hx hb d_S_isTaken_26 (by decide) ?_
      cases hf
      exact hret _ _ _ _ (Or.inl rfl) hP hD hS d_S_isTaken_27
    · have hf := ite_f c_2 hf
      refine lv_aload_n hx hb d_S_isTaken_13 rfl (lv_at hl 0 rfl) ?_
      refine va_get (D := (dC, dI)) (ci := 3) (v := .ref (h 7)) (C := R_S) (T := T_S) (N := 10) hx hb htb in_S hown hK hP 6 rfl rfl 3 (by decide) (htb _ tw_179) (fun _ h9 => h9) rfl d_S_isTaken_14 ?_
      refine lv_iload_n hx hb d_S_isTaken_17 rfl (lv_at hl 1 rfl) ?_
      obtain ⟨c_3, hf⟩ := gd_s hf
      refine va_iald (i := a1) hx hb hK hP 7 0 rfl rfl c_3 d_S_isTaken_18 ?_
      refine lv_if_eq (tgt := 26) hx hb d_S_isTaken_19 (by decide) (fun c_4 => ?_) (fun c_4 => ?_)
      · have hf := ite_t c_4 hf
        refine lv_iconst (v := 0) hx hb d_S_isTaken_26 (by decide) ?_
        cases hf
        exact hret _ _ _ _ (Or.inl rfl) hP hD hS d_S_isTaken_27
      · have hf := ite_f c_4 hf
        refine lv_iconst (v := 1) hx hb d_S_isTaken_22 (by decide) ?_
        refine lv_goto (tgt := 27) hx hb d_S_isTaken_23 (by decide) ?_
        cases hf
        exact hret _ _ _ _ (Or.inr rfl) hP hD hS d_S_isTaken_27
set_option maxHeartbeats 4000000 in
set_option maxRecDepth 100000 in
theorem c_S_blockMapStands {l : Launch} {dC : Nat → ClassId} {dI : Nat → Nat → Nat} {N : Nat} {h : Nat → Nat} {cI : ClassId} {cL : ClassId} {NW : Nat} {bk : Int32} {sz : Int32} {wd : Nat → Int64} {mb : Nat → Int32} {gB : Int32} {gI : Int32} {gN : Int32} {iN : Int32} {dr : Int32} {es : Int64} {of : Int64} {od : Int32} {pl : Int64} {hd : Int64} {tk : Nat → Int32} {kn : Nat → Int32} {li : Nat → Int32} {pa : Nat → Int32} {ins : Nat → Int32} {cm : Int32} {fd : Int32} {hr : Int32} {hs : Nat} {a1 : Int32} {r : Int32} (hf : f_S_blockMapStands N NW bk sz wd mb gB tk a1 = some (r)) : Met l y_S_blockMapStands ws_S_blockMapStands { frames := 2, cells := 0, slots := 0, locals := 51 } (PcU (dC, dI) clAll [(cI, .int), (cL, .long)] (wC h cI cL NW bk sz wd mb gB gI gN iN dr es of od pl hd tk kn li pa ins cm fd hr) hs [.ref (h 6), .int a1]) (QUi (dC, dI) clAll [(cI, .int), (cL, .long)] (wC h cI cL NW bk sz wd mb gB gI gN iN dr es of od pl hd tk kn li pa ins cm fd hr) (wC h cI cL NW bk sz wd mb gB gI gN iN dr es of od pl hd tk kn li pa ins cm fd hr) hs r) 0 0 (va_A (wC h cI cL NW bk sz wd mb gB gI gN iN dr es of od pl hd tk kn li pa ins cm fd hr) hs) := by
  refine mUz (cc := b_S_blockMapStands) (maxL := 4) (by decide) rfl (Nat.le_of_ble_eq_true rfl) ?_
  intro p e s m args below meth c Q hx hb hml hts hown A hA hK hP hD hS hret ls hl
  have htb : ∀ w ∈ TB, w.before args s = true := fun w h => hts w (List.mem_cons_of_mem _ h)
  have hl : lv_has ls 4 [(0, .ref (h 6)), (1, .int a1)] := hl
  have hj_11 : ∀ (k_11 : Nat) (x1 : Int32) (x2 : Int32) (x3 : Int32) (H : Heap) (locs : List Loc) (ls : Array Slot), f_S_blockMapStands_11 N NW bk sz wd mb gB tk k_11 x1 x2 x3 = some (r) → va_P (dC, dI) clAll (wC h cI cL NW bk sz wd mb gB gI gN iN dr es of od pl hd tk kn li pa ins cm fd hr) H → va_D A (wC h cI cL NW bk sz wd mb gB gI gN iN dr es of od pl hd tk kn li pa ins cm fd hr) → va_S A s.heap H locs → lv_has ls 4 [(0, .ref (h 6)), (1, .int x1), (2, .int x2), (3, .int x3)] → W p l e (headSpec ws_S_blockMapStands { frames := 2, cells := 0, slots := 0, locals := 51 }).room s m args below meth c H locs 0 0 Q (F0 m 11 ls []) := by
    intro k_11
    induction k_11 with
    | zero => intro _ _ _ _ _ _ hf; exact absurd hf (by simp [f_S_blockMapStands_11])
    | succ k_11 ih_11 =>
      intro x1 x2 x3 H locs ls hf hP hD hS hl
      rw [f_S_blockMapStands_11] at hf
      refine lv_iload_n hx hb d_S_blockMapStands_11 rfl (lv_at hl 3 rfl) ?_
      refine lv_iload_n hx hb d_S_blockMapStands_12 rfl (lv_at hl 2 rfl) ?_
      refine lv_icmp_ge (tgt := 57) hx hb d_S_blockMapStands_13 (by decide) (fun c_1 => ?_) (fun c_1 => ?_)
      · have hf := ite_t c_1 hf
        refine lv_aload_n hx hb d_S_blockMapStands_57 rfl (lv_at hl 0 rfl) ?_
        refine va_get (D := (dC, dI)) (ci := 3) (v := .ref (h 1)) (C := R_S) (T := T_S) (N := 10) hx hb htb in_S hown hK hP 6 rfl rfl 0 (by decide) (htb _ tw_176) (fun _ h9 => h9) rfl d_S_blockMapStands_58 ?_
        refine lv_aload_n hx hb d_S_blockMapStands_61 rfl (lv_at hl 0 rfl) ?_
        refine va_get (D := (dC, dI)) (ci := 3) (v := .ref (h 3)) (C := R_S) (T := T_S) (N := 10) hx hb htb in_S hown hK hP 6 rfl rfl 1 (by decide) (htb _ tw_177) (fun _ h9 => h9) rfl d_S_blockMapStands_62 ?_
        refine lv_iload_n hx hb d_S_blockMapStands_65 rfl (lv_at hl 1 rfl) ?_
        obtain ⟨r_2, hc_3, hf⟩ := bd1_s hf
        refine ucVl (As := [.int x1]) (rest := [.ref (h 1)]) ⟨hx, hb, hml, hown, htb⟩ hK hP hD hS hA (fun hs => c_L_blockMap hc_3) (cwV 1 htb (gV tw_546 tw_547 tw_548 tw_71 tw_549) rfl rfl rfl (by decide +kernel) ⟨Nat.le_of_ble_eq_true rfl, Nat.le_of_ble_eq_true rfl⟩) 3 2 rfl rfl rfl rfl rfl hl.1 (Nat.le_of_ble_eq_true rfl) d_S_blockMapStands_66 ⟨Nat.zero_le _, Nat.zero_le _⟩ (fun H locs hP hD hS => ?_)
        refine lv_iload_n hx hb d_S_blockMapStands_69 rfl (lv_at hl 2 rfl) ?_
        obtain ⟨r_4, hc_5, hf⟩ := bd1_s hf
        refine ucVi (As := [.long r_2, .int x2]) (rest := []) ⟨hx, hb, hml, hown, htb⟩ hK hP hD hS hA (fun hs => c_D_onesFrom hc_5) (cwV 2 htb (gV tw_558 tw_559 tw_560 tw_69 tw_561) rfl rfl rfl (by decide +kernel) ⟨Nat.le_of_ble_eq_true rfl, Nat.le_of_ble_eq_true rfl⟩) 1 0 rfl rfl rfl rfl rfl hl.1 (Nat.le_of_ble_eq_true rfl) d_S_blockMapStands_70 ⟨Nat.zero_le _, Nat.zero_le _⟩ (fun H locs hP hD hS => ?_)
        obtain ⟨c_6, hf⟩ := gp_s hf
        cases hf
        exact hret _ _ _ _ c_6 hP hD hS d_S_blockMapStands_73
      · have hf := ite_f c_1 hf
        refine lv_aload_n hx hb d_S_blockMapStands_16 rfl (lv_at hl 0 rfl) ?_
        refine va_get (D := (dC, dI)) (ci := 3) (v := .ref (h 1)) (C := R_S) (T := T_S) (N := 10) hx hb htb in_S hown hK hP 6 rfl rfl 0 (by decide) (htb _ tw_176) (fun _ h9 => h9) rfl d_S_blockMapStands_17 ?_
        refine lv_aload_n hx hb d_S_blockMapStands_20 rfl (lv_at hl 0 rfl) ?_
        refine va_get (D := (dC, dI)) (ci := 3) (v := .ref (h 3)) (C := R_S) (T := T_S) (N := 10) hx hb htb in_S hown hK hP 6 rfl rfl 1 (by decide) (htb _ tw_177) (fun _ h9 => h9) rfl d_S_blockMapStands_21 ?_
        refine lv_iload_n hx hb d_S_blockMapStands_24 rfl (lv_at hl 1 rfl) ?_
        obtain ⟨r_7, hc_8, hf⟩ := bd1_s hf
        refine ucVl (As := [.int x1]) (rest := [.ref (h 1)]) ⟨hx, hb, hml, hown, htb⟩ hK hP hD hS hA (fun hs => c_L_blockMap hc_8) (cwV 1 htb (gV tw_546 tw_547 tw_548 tw_71 tw_549) rfl rfl rfl (by decide +kernel) ⟨Nat.le_of_ble_eq_true rfl, Nat.le_of_ble_eq_true rfl⟩) 3 2 rfl rfl rfl rfl rfl hl.1 (Nat.le_of_ble_eq_true rfl) d_S_blockMapStands_25 ⟨Nat.zero_le _, Nat.zero_le _⟩ (fun H locs hP hD hS => ?_)
        refine lv_iload_n hx hb d_S_blockMapStands_28 rfl (lv_at hl 3 rfl) ?_
        obtain ⟨r_9, hc_10, hf⟩ := bd1_s hf
        refine ucVi (As := [.long r_7, .int x3]) (rest := []) ⟨hx, hb, hml, hown, htb⟩ hK hP hD hS hA (fun hs => c_D_bit hc_10) (cwV 2 htb (gV tw_550 tw_551 tw_552 tw_69 tw_553) rfl rfl rfl (by decide +kernel) ⟨Nat.le_of_ble_eq_true rfl, Nat.le_of_ble_eq_true rfl⟩) 1 0 rfl rfl rfl rfl rfl hl.1 (Nat.le_of_ble_eq_true rfl) d_S_blockMapStands_29 ⟨Nat.zero_le _, Nat.zero_le _⟩ (fun H locs hP hD hS => ?_)
        refine lv_aload_n hx hb d_S_blockMapStands_32 rfl (lv_at hl 0 rfl) ?_
        refine lv_aload_n hx hb d_S_blockMapStands_33 rfl (lv_at hl 0 rfl) ?_
        refine va_get (D := (dC, dI)) (ci := 3) (v := .ref (h 3)) (C := R_S) (T := T_S) (N := 10) hx hb htb in_S hown hK hP 6 rfl rfl 1 (by decide) (htb _ tw_177) (fun _ h9 => h9) rfl d_S_blockMapStands_34 ?_
        refine lv_iload_n hx hb d_S_blockMapStands_37 rfl (lv_at hl 1 rfl) ?_
        obtain ⟨r_11, hc_12, hf⟩ := bd1_s hf
        refine ucVi (As := [.int x1]) (rest := [.ref (h 6), .int r_9]) ⟨hx, hb, hml, hown, htb⟩ hK hP hD hS hA (fun hs => c_L_firstBlock hc_12) (cwV 1 htb (gV tw_340 tw_331 tw_332 tw_71 tw_333) rfl rfl rfl (by decide +kernel) ⟨Nat.le_of_ble_eq_true rfl, Nat.le_of_ble_eq_true rfl⟩) 3 2 rfl rfl rfl rfl rfl hl.1 (Nat.le_of_ble_eq_true rfl) d_S_blockMapStands_38 ⟨Nat.zero_le _, Nat.zero_le _⟩ (fun H locs hP hD hS => ?_)
        refine lv_iload_n hx hb d_S_blockMapStands_41 rfl (lv_at hl 3 rfl) ?_
        refine lv_iadd hx hb d_S_blockMapStands_42 ?_
        obtain ⟨r_13, hc_14, hf⟩ := bd1_s hf
        refine ucVi (As := [.int (r_11 + x3)]) (rest := [.int r_9]) ⟨hx, hb, hml, hown, htb⟩ hK hP hD hS hA (fun hs => c_S_isTaken hc_14) (cwV 1 htb (gV tw_554 tw_556 tw_22 tw_73 tw_557) rfl rfl rfl (by decide +kernel) ⟨Nat.le_of_ble_eq_true rfl, Nat.le_of_ble_eq_true rfl⟩) 6 3 rfl rfl rfl rfl rfl hl.1 (Nat.le_of_ble_eq_true rfl) d_S_blockMapStands_43 ⟨Nat.zero_le _, Nat.zero_le _⟩ (fun H locs hP hD hS => ?_)
        refine lv_icmp_eq (tgt := 51) hx hb d_S_blockMapStands_46 (by decide) (fun c_15 => ?_) (fun c_15 => ?_)
        · have hf := ite_t c_15 hf
          obtain ⟨v3_16, ev3_16, hf⟩ := lt1_s hf
          refine lv_iinc (v := v3_16) (lv' := [(3, .int v3_16), (0, .ref (h 6)), (1, .int x1), (2, .int x2)]) hx hb d_S_blockMapStands_51 hl (k := 3) rfl (by rw [← ev3_16]; rfl) (by decide) rfl (fun ls hl => ?_)
          refine lv_goto (tgt := 11) hx hb d_S_blockMapStands_54 (by decide) ?_
          exact ih_11 x1 x2 v3_16 _ _ _ hf hP hD hS (lv_sub hl [1, 2, 3, 0] rfl)
        · have hf := ite_f c_15 hf
          refine lv_iconst (v := 0) hx hb d_S_blockMapStands_49 (by decide) ?_
          cases hf
          exact hret _ _ _ _ (Or.inl rfl) hP hD hS d_S_blockMapStands_50
  unfold f_S_blockMapStands at hf
  refine lv_aload_n hx hb d_S_blockMapStands_0 rfl (lv_at hl 0 rfl) ?_
  refine va_get (D := (dC, dI)) (ci := 3) (v := .ref (h 3)) (C := R_S) (T := T_S) (N := 10) hx hb htb in_S hown hK hP 6 rfl rfl 1 (by decide) (htb _ tw_177) (fun _ h9 => h9) rfl d_S_blockMapStands_1 ?_
  refine lv_iload_n hx hb d_S_blockMapStands_4 rfl (lv_at hl 1 rfl) ?_
  obtain ⟨r_1, hc_2, hf⟩ := bd1_s hf
  refine ucVi (As := [.int a1]) (rest := []) ⟨hx, hb, hml, hown, htb⟩ hK hP hD hS hA (fun hs => c_L_blocksOf hc_2) (cwV 1 htb (gV tw_326 tw_327 tw_328 tw_71 tw_329) rfl rfl rfl (by decide +kernel) ⟨Nat.le_of_ble_eq_true rfl, Nat.le_of_ble_eq_true rfl⟩) 3 2 rfl rfl rfl rfl rfl hl.1 (Nat.le_of_ble_eq_true rfl) d_S_blockMapStands_5 ⟨Nat.zero_le _, Nat.zero_le _⟩ (fun H locs hP hD hS => ?_)
  refine lv_istore_n (lv' := [(2, .int r_1), (0, .ref (h 6)), (1, .int a1)]) hx hb d_S_blockMapStands_8 rfl hl (by decide) rfl (fun ls hl => ?_)
  refine lv_iconst (v := 0) hx hb d_S_blockMapStands_9 (by decide) ?_
  refine lv_istore_n (lv' := [(3, .int ((0 : Int32))), (2, .int r_1), (0, .ref (h 6)), (1, .int a1)]) hx hb d_S_blockMapStands_10 rfl hl (by decide) rfl (fun ls hl => ?_)
  exact hj_11 N a1 r_1 ((0 : Int32)) _ _ _ hf hP hD hS (lv_sub hl [2, 3, 1, 0] rfl)
set_option maxHeartbeats 4000000 in
set_option maxRecDepth 100000 in
theorem c_S_freeBlocks {l : Launch} {dC : Nat → ClassId} {dI : Nat → Nat → Nat} {N : Nat} {h : Nat → Nat} {cI : ClassId} {cL : ClassId} {NW : Nat} {bk : Int32} {sz : Int32} {wd : Nat → Int64} {mb : Nat → Int32} {gB : Int32} {gI : Int32} {gN : Int32} {iN : Int32} {dr : Int32} {es : Int64} {of : Int64} {od : Int32} {pl : Int64} {hd : Int64} {tk : Nat → Int32} {kn : Nat → Int32} {li : Nat → Int32} {pa : Nat → Int32} {ins : Nat → Int32} {cm : Int32} {fd : Int32} {hr : Int32} {hs : Nat} {a1 : Int32} {r : Int32} (hf : f_S_freeBlocks N NW bk gB tk a1 = some (r)) : Met l y_S_freeBlocks ws_S_freeBlocks { frames := 2, cells := 0, slots := 0, locals := 42 } (PcU (dC, dI) clAll [(cI, .int), (cL, .long)] (wC h cI cL NW bk sz wd mb gB gI gN iN dr es of od pl hd tk kn li pa ins cm fd hr) hs [.ref (h 6), .int a1]) (QUi (dC, dI) clAll [(cI, .int), (cL, .long)] (wC h cI cL NW bk sz wd mb gB gI gN iN dr es of od pl hd tk kn li pa ins cm fd hr) (wC h cI cL NW bk sz wd mb gB gI gN iN dr es of od pl hd tk kn li pa ins cm fd hr) hs r) 0 0 (va_A (wC h cI cL NW bk sz wd mb gB gI gN iN dr es of od pl hd tk kn li pa ins cm fd hr) hs) := by
  refine mUi (cc := b_S_freeBlocks) (maxL := 5) (by decide) rfl (Nat.le_of_ble_eq_true rfl) ?_
  intro p e s m args below meth c Q hx hb hml hts hown A hA hK hP hD hS hret ls hl
  have htb : ∀ w ∈ TB, w.before args s = true := fun w h => hts w (List.mem_cons_of_mem _ h)
  have hl : lv_has ls 5 [(0, .ref (h 6)), (1, .int a1)] := hl
  have hj_14 : ∀ (k_14 : Nat) (x1 : Int32) (x2 : Int32) (x3 : Int32) (x4 : Int32) (H : Heap) (locs : List Loc) (ls : Array Slot), f_S_freeBlocks_14 N NW bk gB tk k_14 x1 x2 x3 x4 = some (r) → va_P (dC, dI) clAll (wC h cI cL NW bk sz wd mb gB gI gN iN dr es of od pl hd tk kn li pa ins cm fd hr) H → va_D A (wC h cI cL NW bk sz wd mb gB gI gN iN dr es of od pl hd tk kn li pa ins cm fd hr) → va_S A s.heap H locs → lv_has ls 5 [(0, .ref (h 6)), (1, .int x1), (2, .int x2), (3, .int x3), (4, .int x4)] → W p l e (headSpec ws_S_freeBlocks { frames := 2, cells := 0, slots := 0, locals := 42 }).room s m args below meth c H locs 0 0 Q (F0 m 14 ls []) := by
    intro k_14
    induction k_14 with
    | zero => intro _ _ _ _ _ _ _ hf; exact absurd hf (by simp [f_S_freeBlocks_14])
    | succ k_14 ih_14 =>
      intro x1 x2 x3 x4 H locs ls hf hP hD hS hl
      rw [f_S_freeBlocks_14] at hf
      refine lv_iload hx hb d_S_freeBlocks_14 (lv_at hl 4 rfl) ?_
      refine lv_iload_n hx hb d_S_freeBlocks_16 rfl (lv_at hl 2 rfl) ?_
      refine lv_icmp_ge (tgt := 47) hx hb d_S_freeBlocks_17 (by decide) (fun c_1 => ?_) (fun c_1 => ?_)
      · have hf := ite_t c_1 hf
        refine lv_iload_n hx hb d_S_freeBlocks_47 rfl (lv_at hl 3 rfl) ?_
        cases hf
        exact hret _ _ _ _ hP hD hS d_S_freeBlocks_48
      · have hf := ite_f c_1 hf
        refine lv_aload_n hx hb d_S_freeBlocks_20 rfl (lv_at hl 0 rfl) ?_
        refine lv_aload_n hx hb d_S_freeBlocks_21 rfl (lv_at hl 0 rfl) ?_
        refine va_get (D := (dC, dI)) (ci := 3) (v := .ref (h 3)) (C := R_S) (T := T_S) (N := 10) hx hb htb in_S hown hK hP 6 rfl rfl 1 (by decide) (htb _ tw_177) (fun _ h9 => h9) rfl d_S_freeBlocks_22 ?_
        refine lv_iload_n hx hb d_S_freeBlocks_25 rfl (lv_at hl 1 rfl) ?_
        obtain ⟨r_2, hc_3, hf⟩ := bd1_s hf
        refine ucVi (As := [.int x1]) (rest := [.ref (h 6)]) ⟨hx, hb, hml, hown, htb⟩ hK hP hD hS hA (fun hs => c_L_firstBlock hc_3) (cwV 1 htb (gV tw_340 tw_331 tw_332 tw_71 tw_333) rfl rfl rfl (by decide +kernel) ⟨Nat.le_of_ble_eq_true rfl, Nat.le_of_ble_eq_true rfl⟩) 3 2 rfl rfl rfl rfl rfl hl.1 (Nat.le_of_ble_eq_true rfl) d_S_freeBlocks_26 ⟨Nat.zero_le _, Nat.zero_le _⟩ (fun H locs hP hD hS => ?_)
        refine lv_iload hx hb d_S_freeBlocks_29 (lv_at hl 4 rfl) ?_
        refine lv_iadd hx hb d_S_freeBlocks_31 ?_
        obtain ⟨r_4, hc_5, hf⟩ := bd1_s hf
        refine ucVi (As := [.int (r_2 + x4)]) (rest := []) ⟨hx, hb, hml, hown, htb⟩ hK hP hD hS hA (fun hs => c_S_isTaken hc_5) (cwV 1 htb (gV tw_554 tw_556 tw_22 tw_73 tw_557) rfl rfl rfl (by decide +kernel) ⟨Nat.le_of_ble_eq_true rfl, Nat.le_of_ble_eq_true rfl⟩) 6 3 rfl rfl rfl rfl rfl hl.1 (Nat.le_of_ble_eq_true rfl) d_S_freeBlocks_32 ⟨Nat.zero_le _, Nat.zero_le _⟩ (fun H locs hP hD hS => ?_)
        refine lv_if_ne (tgt := 41) hx hb d_S_freeBlocks_35 (by decide) (fun c_6 => ?_) (fun c_6 => ?_)
        · have hf := ite_f c_6 hf
          obtain ⟨v4_7, ev4_7, hf⟩ := lt1_s hf
          refine lv_iinc (v := v4_7) (lv' := [(4, .int v4_7), (0, .ref (h 6)), (1, .int x1), (2, .int x2), (3, .int x3)]) hx hb d_S_freeBlocks_41 hl (k := 4) rfl (by rw [← ev4_7]; rfl) (by decide) rfl (fun ls hl => ?_)
          refine lv_goto (tgt := 14) hx hb d_S_freeBlocks_44 (by decide) ?_
          exact ih_14 x1 x2 x3 v4_7 _ _ _ hf hP hD hS (lv_sub hl [1, 2, 3, 4, 0] rfl)
        · have hf := ite_t c_6 hf
          obtain ⟨v3_8, ev3_8, hf⟩ := lt1_s hf
          refine lv_iinc (v := v3_8) (lv' := [(3, .int v3_8), (0, .ref (h 6)), (1, .int x1), (2, .int x2), (4, .int x4)]) hx hb d_S_freeBlocks_38 hl (k := 3) rfl (by rw [← ev3_8]; rfl) (by decide) rfl (fun ls hl => ?_)
          obtain ⟨v4_9, ev4_9, hf⟩ := lt1_s hf
          refine lv_iinc (v := v4_9) (lv' := [(4, .int v4_9), (3, .int v3_8), (0, .ref (h 6)), (1, .int x1), (2, .int x2)]) hx hb d_S_freeBlocks_41 hl (k := 4) rfl (by rw [← ev4_9]; rfl) (by decide) rfl (fun ls hl => ?_)
          refine lv_goto (tgt := 14) hx hb d_S_freeBlocks_44 (by decide) ?_
          exact ih_14 x1 x2 v3_8 v4_9 _ _ _ hf hP hD hS (lv_sub hl [2, 3, 4, 1, 0] rfl)
  unfold f_S_freeBlocks at hf
  refine lv_aload_n hx hb d_S_freeBlocks_0 rfl (lv_at hl 0 rfl) ?_
  refine va_get (D := (dC, dI)) (ci := 3) (v := .ref (h 3)) (C := R_S) (T := T_S) (N := 10) hx hb htb in_S hown hK hP 6 rfl rfl 1 (by decide) (htb _ tw_177) (fun _ h9 => h9) rfl d_S_freeBlocks_1 ?_
  refine lv_iload_n hx hb d_S_freeBlocks_4 rfl (lv_at hl 1 rfl) ?_
  obtain ⟨r_1, hc_2, hf⟩ := bd1_s hf
  refine ucVi (As := [.int a1]) (rest := []) ⟨hx, hb, hml, hown, htb⟩ hK hP hD hS hA (fun hs => c_L_blocksOf hc_2) (cwV 1 htb (gV tw_326 tw_327 tw_328 tw_71 tw_329) rfl rfl rfl (by decide +kernel) ⟨Nat.le_of_ble_eq_true rfl, Nat.le_of_ble_eq_true rfl⟩) 3 2 rfl rfl rfl rfl rfl hl.1 (Nat.le_of_ble_eq_true rfl) d_S_freeBlocks_5 ⟨Nat.zero_le _, Nat.zero_le _⟩ (fun H locs hP hD hS => ?_)
  refine lv_istore_n (lv' := [(2, .int r_1), (0, .ref (h 6)), (1, .int a1)]) hx hb d_S_freeBlocks_8 rfl hl (by decide) rfl (fun ls hl => ?_)
  refine lv_iconst (v := 0) hx hb d_S_freeBlocks_9 (by decide) ?_
  refine lv_istore_n (lv' := [(3, .int ((0 : Int32))), (2, .int r_1), (0, .ref (h 6)), (1, .int a1)]) hx hb d_S_freeBlocks_10 rfl hl (by decide) rfl (fun ls hl => ?_)
  refine lv_iconst (v := 0) hx hb d_S_freeBlocks_11 (by decide) ?_
  refine lv_istore (lv' := [(4, .int ((0 : Int32))), (3, .int ((0 : Int32))), (2, .int r_1), (0, .ref (h 6)), (1, .int a1)]) hx hb d_S_freeBlocks_12 hl (by decide) rfl (fun ls hl => ?_)
  exact hj_14 N a1 r_1 ((0 : Int32)) ((0 : Int32)) _ _ _ hf hP hD hS (lv_sub hl [3, 4, 2, 1, 0] rfl)
set_option maxHeartbeats 4000000 in
set_option maxRecDepth 100000 in
theorem c_S_freeInodes {l : Launch} {dC : Nat → ClassId} {dI : Nat → Nat → Nat} {N : Nat} {h : Nat → Nat} {cI : ClassId} {cL : ClassId} {NW : Nat} {bk : Int32} {sz : Int32} {wd : Nat → Int64} {mb : Nat → Int32} {gB : Int32} {gI : Int32} {gN : Int32} {iN : Int32} {dr : Int32} {es : Int64} {of : Int64} {od : Int32} {pl : Int64} {hd : Int64} {tk : Nat → Int32} {kn : Nat → Int32} {li : Nat → Int32} {pa : Nat → Int32} {ins : Nat → Int32} {cm : Int32} {fd : Int32} {hr : Int32} {hs : Nat} {a1 : Int32} {r : Int32} (hf : f_S_freeInodes N NW sz wd mb gI a1 = some (r)) : Met l y_S_freeInodes ws_S_freeInodes { frames := 2, cells := 0, slots := 0, locals := 50 } (PcU (dC, dI) clAll [(cI, .int), (cL, .long)] (wC h cI cL NW bk sz wd mb gB gI gN iN dr es of od pl hd tk kn li pa ins cm fd hr) hs [.ref (h 6), .int a1]) (QUi (dC, dI) clAll [(cI, .int), (cL, .long)] (wC h cI cL NW bk sz wd mb gB gI gN iN dr es of od pl hd tk kn li pa ins cm fd hr) (wC h cI cL NW bk sz wd mb gB gI gN iN dr es of od pl hd tk kn li pa ins cm fd hr) hs r) 0 0 (va_A (wC h cI cL NW bk sz wd mb gB gI gN iN dr es of od pl hd tk kn li pa ins cm fd hr) hs) := by
  refine mUi (cc := b_S_freeInodes) (maxL := 4) (by decide) rfl (Nat.le_of_ble_eq_true rfl) ?_
  intro p e s m args below meth c Q hx hb hml hts hown A hA hK hP hD hS hret ls hl
  have htb : ∀ w ∈ TB, w.before args s = true := fun w h => hts w (List.mem_cons_of_mem _ h)
  have hl : lv_has ls 4 [(0, .ref (h 6)), (1, .int a1)] := hl
  have hj_4 : ∀ (k_4 : Nat) (x1 : Int32) (x2 : Int32) (x3 : Int32) (H : Heap) (locs : List Loc) (ls : Array Slot), f_S_freeInodes_4 N NW sz wd mb gI k_4 x1 x2 x3 = some (r) → va_P (dC, dI) clAll (wC h cI cL NW bk sz wd mb gB gI gN iN dr es of od pl hd tk kn li pa ins cm fd hr) H → va_D A (wC h cI cL NW bk sz wd mb gB gI gN iN dr es of od pl hd tk kn li pa ins cm fd hr) → va_S A s.heap H locs → lv_has ls 4 [(0, .ref (h 6)), (1, .int x1), (2, .int x2), (3, .int x3)] → W p l e (headSpec ws_S_freeInodes { frames := 2, cells := 0, slots := 0, locals := 50 }).room s m args below meth c H locs 0 0 Q (F0 m 4 ls []) := by
    intro k_4
    induction k_4 with
    | zero => intro _ _ _ _ _ _ hf; exact absurd hf (by simp [f_S_freeInodes_4])
    | succ k_4 ih_4 =>
      intro x1 x2 x3 H locs ls hf hP hD hS hl
      rw [f_S_freeInodes_4] at hf
      refine lv_iload_n hx hb d_S_freeInodes_4 rfl (lv_at hl 3 rfl) ?_
      refine lv_aload_n hx hb d_S_freeInodes_5 rfl (lv_at hl 0 rfl) ?_
      refine va_get (D := (dC, dI)) (ci := 3) (v := .ref (h 3)) (C := R_S) (T := T_S) (N := 10) hx hb htb in_S hown hK hP 6 rfl rfl 1 (by decide) (htb _ tw_177) (fun _ h9 => h9) rfl d_S_freeInodes_6 ?_
      obtain ⟨r_1, hc_2, hf⟩ := bd1_s hf
      refine ucVi (As := []) (rest := [.int x3]) ⟨hx, hb, hml, hown, htb⟩ hK hP hD hS hA (fun hs => c_L_groupInodes hc_2) (cwV 0 htb (gV tw_348 tw_349 tw_350 tw_71 tw_351) rfl rfl rfl (by decide +kernel) ⟨Nat.le_of_ble_eq_true rfl, Nat.le_of_ble_eq_true rfl⟩) 3 2 rfl rfl rfl rfl rfl hl.1 (Nat.le_of_ble_eq_true rfl) d_S_freeInodes_9 ⟨Nat.zero_le _, Nat.zero_le _⟩ (fun H locs hP hD hS => ?_)
      refine lv_icmp_ge (tgt := 43) hx hb d_S_freeInodes_12 (by decide) (fun c_3 => ?_) (fun c_3 => ?_)
      · have hf := ite_t c_3 hf
        refine lv_iload_n hx hb d_S_freeInodes_43 rfl (lv_at hl 2 rfl) ?_
        cases hf
        exact hret _ _ _ _ hP hD hS d_S_freeInodes_44
      · have hf := ite_f c_3 hf
        refine lv_aload_n hx hb d_S_freeInodes_15 rfl (lv_at hl 0 rfl) ?_
        refine va_get (D := (dC, dI)) (ci := 3) (v := .ref (h 1)) (C := R_S) (T := T_S) (N := 10) hx hb htb in_S hown hK hP 6 rfl rfl 0 (by decide) (htb _ tw_176) (fun _ h9 => h9) rfl d_S_freeInodes_16 ?_
        refine lv_aload_n hx hb d_S_freeInodes_19 rfl (lv_at hl 0 rfl) ?_
        refine va_get (D := (dC, dI)) (ci := 3) (v := .ref (h 3)) (C := R_S) (T := T_S) (N := 10) hx hb htb in_S hown hK hP 6 rfl rfl 1 (by decide) (htb _ tw_177) (fun _ h9 => h9) rfl d_S_freeInodes_20 ?_
        refine lv_iload_n hx hb d_S_freeInodes_23 rfl (lv_at hl 1 rfl) ?_
        obtain ⟨r_4, hc_5, hf⟩ := bd1_s hf
        refine ucVl (As := [.int x1]) (rest := [.ref (h 1)]) ⟨hx, hb, hml, hown, htb⟩ hK hP hD hS hA (fun hs => c_L_inodeMap hc_5) (cwV 1 htb (gV tw_562 tw_563 tw_564 tw_71 tw_565) rfl rfl rfl (by decide +kernel) ⟨Nat.le_of_ble_eq_true rfl, Nat.le_of_ble_eq_true rfl⟩) 3 2 rfl rfl rfl rfl rfl hl.1 (Nat.le_of_ble_eq_true rfl) d_S_freeInodes_24 ⟨Nat.zero_le _, Nat.zero_le _⟩ (fun H locs hP hD hS => ?_)
        refine lv_iload_n hx hb d_S_freeInodes_27 rfl (lv_at hl 3 rfl) ?_
        obtain ⟨r_6, hc_7, hf⟩ := bd1_s hf
        refine ucVi (As := [.long r_4, .int x3]) (rest := []) ⟨hx, hb, hml, hown, htb⟩ hK hP hD hS hA (fun hs => c_D_bit hc_7) (cwV 2 htb (gV tw_550 tw_551 tw_552 tw_69 tw_553) rfl rfl rfl (by decide +kernel) ⟨Nat.le_of_ble_eq_true rfl, Nat.le_of_ble_eq_true rfl⟩) 1 0 rfl rfl rfl rfl rfl hl.1 (Nat.le_of_ble_eq_true rfl) d_S_freeInodes_28 ⟨Nat.zero_le _, Nat.zero_le _⟩ (fun H locs hP hD hS => ?_)
        refine lv_if_ne (tgt := 37) hx hb d_S_freeInodes_31 (by decide) (fun c_8 => ?_) (fun c_8 => ?_)
        · have hf := ite_f c_8 hf
          obtain ⟨v3_9, ev3_9, hf⟩ := lt1_s hf
          refine lv_iinc (v := v3_9) (lv' := [(3, .int v3_9), (0, .ref (h 6)), (1, .int x1), (2, .int x2)]) hx hb d_S_freeInodes_37 hl (k := 3) rfl (by rw [← ev3_9]; rfl) (by decide) rfl (fun ls hl => ?_)
          refine lv_goto (tgt := 4) hx hb d_S_freeInodes_40 (by decide) ?_
          exact ih_4 x1 x2 v3_9 _ _ _ hf hP hD hS (lv_sub hl [1, 2, 3, 0] rfl)
        · have hf := ite_t c_8 hf
          obtain ⟨v2_10, ev2_10, hf⟩ := lt1_s hf
          refine lv_iinc (v := v2_10) (lv' := [(2, .int v2_10), (0, .ref (h 6)), (1, .int x1), (3, .int x3)]) hx hb d_S_freeInodes_34 hl (k := 2) rfl (by rw [← ev2_10]; rfl) (by decide) rfl (fun ls hl => ?_)
          obtain ⟨v3_11, ev3_11, hf⟩ := lt1_s hf
          refine lv_iinc (v := v3_11) (lv' := [(3, .int v3_11), (2, .int v2_10), (0, .ref (h 6)), (1, .int x1)]) hx hb d_S_freeInodes_37 hl (k := 3) rfl (by rw [← ev3_11]; rfl) (by decide) rfl (fun ls hl => ?_)
          refine lv_goto (tgt := 4) hx hb d_S_freeInodes_40 (by decide) ?_
          exact ih_4 x1 v2_10 v3_11 _ _ _ hf hP hD hS (lv_sub hl [2, 3, 1, 0] rfl)
  unfold f_S_freeInodes at hf
  refine lv_iconst (v := 0) hx hb d_S_freeInodes_0 (by decide) ?_
  refine lv_istore_n (lv' := [(2, .int ((0 : Int32))), (0, .ref (h 6)), (1, .int a1)]) hx hb d_S_freeInodes_1 rfl hl (by decide) rfl (fun ls hl => ?_)
  refine lv_iconst (v := 0) hx hb d_S_freeInodes_2 (by decide) ?_
  refine lv_istore_n (lv' := [(3, .int ((0 : Int32))), (2, .int ((0 : Int32))), (0, .ref (h 6)), (1, .int a1)]) hx hb d_S_freeInodes_3 rfl hl (by decide) rfl (fun ls hl => ?_)
  exact hj_4 N a1 ((0 : Int32)) ((0 : Int32)) _ _ _ hf hP hD hS (lv_sub hl [2, 3, 1, 0] rfl)
set_option maxHeartbeats 4000000 in
set_option maxRecDepth 100000 in
theorem c_S_directories {l : Launch} {dC : Nat → ClassId} {dI : Nat → Nat → Nat} {N : Nat} {h : Nat → Nat} {cI : ClassId} {cL : ClassId} {NW : Nat} {bk : Int32} {sz : Int32} {wd : Nat → Int64} {mb : Nat → Int32} {gB : Int32} {gI : Int32} {gN : Int32} {iN : Int32} {dr : Int32} {es : Int64} {of : Int64} {od : Int32} {pl : Int64} {hd : Int64} {tk : Nat → Int32} {kn : Nat → Int32} {li : Nat → Int32} {pa : Nat → Int32} {ins : Nat → Int32} {cm : Int32} {fd : Int32} {hr : Int32} {hs : Nat} {a1 : Int32} {r : Int32} (hf : f_S_directories N NW sz wd mb gI li cm a1 = some (r)) : Met l y_S_directories ws_S_directories { frames := 2, cells := 0, slots := 0, locals := 48 } (PcU (dC, dI) clAll [(cI, .int), (cL, .long)] (wC h cI cL NW bk sz wd mb gB gI gN iN dr es of od pl hd tk kn li pa ins cm fd hr) hs [.ref (h 6), .int a1]) (QUi (dC, dI) clAll [(cI, .int), (cL, .long)] (wC h cI cL NW bk sz wd mb gB gI gN iN dr es of od pl hd tk kn li pa ins cm fd hr) (wC h cI cL NW bk sz wd mb gB gI gN iN dr es of od pl hd tk kn li pa ins cm fd hr) hs r) 0 0 (va_A (wC h cI cL NW bk sz wd mb gB gI gN iN dr es of od pl hd tk kn li pa ins cm fd hr) hs) := by
  refine mUi (cc := b_S_directories) (maxL := 4) (by decide) rfl (Nat.le_of_ble_eq_true rfl) ?_
  intro p e s m args below meth c Q hx hb hml hts hown A hA hK hP hD hS hret ls hl
  have htb : ∀ w ∈ TB, w.before args s = true := fun w h => hts w (List.mem_cons_of_mem _ h)
  have hl : lv_has ls 4 [(0, .ref (h 6)), (1, .int a1)] := hl
  have hj_4 : ∀ (k_4 : Nat) (x1 : Int32) (x2 : Int32) (x3 : Int32) (H : Heap) (locs : List Loc) (ls : Array Slot), f_S_directories_4 N NW sz wd mb gI li cm k_4 x1 x2 x3 = some (r) → va_P (dC, dI) clAll (wC h cI cL NW bk sz wd mb gB gI gN iN dr es of od pl hd tk kn li pa ins cm fd hr) H → va_D A (wC h cI cL NW bk sz wd mb gB gI gN iN dr es of od pl hd tk kn li pa ins cm fd hr) → va_S A s.heap H locs → lv_has ls 4 [(0, .ref (h 6)), (1, .int x1), (2, .int x2), (3, .int x3)] → W p l e (headSpec ws_S_directories { frames := 2, cells := 0, slots := 0, locals := 48 }).room s m args below meth c H locs 0 0 Q (F0 m 4 ls []) := by
    intro k_4
    induction k_4 with
    | zero => intro _ _ _ _ _ _ hf; exact absurd hf (by simp [f_S_directories_4])
    | succ k_4 ih_4 =>
      intro x1 x2 x3 H locs ls hf hP hD hS hl
      rw [f_S_directories_4] at hf
      refine lv_iload_n hx hb d_S_directories_4 rfl (lv_at hl 3 rfl) ?_
      refine lv_aload_n hx hb d_S_directories_5 rfl (lv_at hl 0 rfl) ?_
      refine va_get (D := (dC, dI)) (ci := 3) (v := .int cm) (C := R_S) (T := T_S) (N := 10) hx hb htb in_S hown hK hP 6 rfl rfl 8 (by decide) (htb _ tw_184) (fun _ h9 => h9) rfl d_S_directories_6 ?_
      refine lv_icmp_ge (tgt := 66) hx hb d_S_directories_9 (by decide) (fun c_1 => ?_) (fun c_1 => ?_)
      · have hf := ite_t c_1 hf
        refine lv_iload_n hx hb d_S_directories_66 rfl (lv_at hl 2 rfl) ?_
        cases hf
        exact hret _ _ _ _ hP hD hS d_S_directories_67
      · have hf := ite_f c_1 hf
        refine lv_iload_n hx hb d_S_directories_12 rfl (lv_at hl 3 rfl) ?_
        refine lv_aload_n hx hb d_S_directories_13 rfl (lv_at hl 0 rfl) ?_
        refine va_get (D := (dC, dI)) (ci := 3) (v := .ref (h 9)) (C := R_S) (T := T_S) (N := 10) hx hb htb in_S hown hK hP 6 rfl rfl 5 (by decide) (htb _ tw_181) (fun _ h9 => h9) rfl d_S_directories_14 ?_
        refine va_alen (v := (4096 : Int32)) hx hb hK hP 9 0 rfl rfl rfl d_S_directories_17 ?_
        refine lv_icmp_ge (tgt := 66) hx hb d_S_directories_18 (by decide) (fun c_2 => ?_) (fun c_2 => ?_)
        · have hf := ite_t c_2 hf
          refine lv_iload_n hx hb d_S_directories_66 rfl (lv_at hl 2 rfl) ?_
          cases hf
          exact hret _ _ _ _ hP hD hS d_S_directories_67
        · have hf := ite_f c_2 hf
          refine lv_aload_n hx hb d_S_directories_21 rfl (lv_at hl 0 rfl) ?_
          refine va_get (D := (dC, dI)) (ci := 3) (v := .ref (h 3)) (C := R_S) (T := T_S) (N := 10) hx hb htb in_S hown hK hP 6 rfl rfl 1 (by decide) (htb _ tw_177) (fun _ h9 => h9) rfl d_S_directories_22 ?_
          refine lv_aload_n hx hb d_S_directories_25 rfl (lv_at hl 0 rfl) ?_
          refine va_get (D := (dC, dI)) (ci := 3) (v := .ref (h 9)) (C := R_S) (T := T_S) (N := 10) hx hb htb in_S hown hK hP 6 rfl rfl 5 (by decide) (htb _ tw_181) (fun _ h9 => h9) rfl d_S_directories_26 ?_
          refine lv_iload_n hx hb d_S_directories_29 rfl (lv_at hl 3 rfl) ?_
          obtain ⟨c_3, hf⟩ := gd_s hf
          refine va_iald (i := x3) hx hb hK hP 9 0 rfl rfl c_3 d_S_directories_30 ?_
          obtain ⟨r_4, hc_5, hf⟩ := bd1_s hf
          refine ucVi (As := [.int (li (Int32.toNatClampNeg x3))]) (rest := []) ⟨hx, hb, hml, hown, htb⟩ hK hP hD hS hA (fun hs => c_L_groupOf hc_5) (cwV 1 htb (gV tw_579 tw_374 tw_375 tw_71 tw_376) rfl rfl rfl (by decide +kernel) ⟨Nat.le_of_ble_eq_true rfl, Nat.le_of_ble_eq_true rfl⟩) 3 2 rfl rfl rfl rfl rfl hl.1 (Nat.le_of_ble_eq_true rfl) d_S_directories_31 ⟨Nat.zero_le _, Nat.zero_le _⟩ (fun H locs hP hD hS => ?_)
          refine lv_iload_n hx hb d_S_directories_34 rfl (lv_at hl 1 rfl) ?_
          refine lv_icmp_ne (tgt := 60) hx hb d_S_directories_35 (by decide) (fun c_6 => ?_) (fun c_6 => ?_)
          · have hf := ite_f c_6 hf
            obtain ⟨v3_7, ev3_7, hf⟩ := lt1_s hf
            refine lv_iinc (v := v3_7) (lv' := [(3, .int v3_7), (0, .ref (h 6)), (1, .int x1), (2, .int x2)]) hx hb d_S_directories_60 hl (k := 3) rfl (by rw [← ev3_7]; rfl) (by decide) rfl (fun ls hl => ?_)
            refine lv_goto (tgt := 4) hx hb d_S_directories_63 (by decide) ?_
            exact ih_4 x1 x2 v3_7 _ _ _ hf hP hD hS (lv_sub hl [1, 2, 3, 0] rfl)
          · have hf := ite_t c_6 hf
            refine lv_aload_n hx hb d_S_directories_38 rfl (lv_at hl 0 rfl) ?_
            refine va_get (D := (dC, dI)) (ci := 3) (v := .ref (h 3)) (C := R_S) (T := T_S) (N := 10) hx hb htb in_S hown hK hP 6 rfl rfl 1 (by decide) (htb _ tw_177) (fun _ h9 => h9) rfl d_S_directories_39 ?_
            refine lv_aload_n hx hb d_S_directories_42 rfl (lv_at hl 0 rfl) ?_
            refine va_get (D := (dC, dI)) (ci := 3) (v := .ref (h 9)) (C := R_S) (T := T_S) (N := 10) hx hb htb in_S hown hK hP 6 rfl rfl 5 (by decide) (htb _ tw_181) (fun _ h9 => h9) rfl d_S_directories_43 ?_
            refine lv_iload_n hx hb d_S_directories_46 rfl (lv_at hl 3 rfl) ?_
            obtain ⟨c_8, hf⟩ := gd_s hf
            refine va_iald (i := x3) hx hb hK hP 9 0 rfl rfl c_8 d_S_directories_47 ?_
            obtain ⟨r_9, hc_10, hf⟩ := bd1_s hf
            refine ucVi (As := [.int (li (Int32.toNatClampNeg x3))]) (rest := []) ⟨hx, hb, hml, hown, htb⟩ hK hP hD hS hA (fun hs => c_L_typeOf hc_10) (cwV 1 htb (gV tw_378 tw_379 tw_380 tw_71 tw_381) rfl rfl rfl (by decide +kernel) ⟨Nat.le_of_ble_eq_true rfl, Nat.le_of_ble_eq_true rfl⟩) 3 2 rfl rfl rfl rfl rfl hl.1 (Nat.le_of_ble_eq_true rfl) d_S_directories_48 ⟨Nat.zero_le _, Nat.zero_le _⟩ (fun H locs hP hD hS => ?_)
            refine lv_sipush (v := 16384) hx hb d_S_directories_51 (by decide) ?_
            refine lv_icmp_ne (tgt := 60) hx hb d_S_directories_54 (by decide) (fun c_11 => ?_) (fun c_11 => ?_)
            · have hf := ite_f c_11 hf
              obtain ⟨v3_12, ev3_12, hf⟩ := lt1_s hf
              refine lv_iinc (v := v3_12) (lv' := [(3, .int v3_12), (0, .ref (h 6)), (1, .int x1), (2, .int x2)]) hx hb d_S_directories_60 hl (k := 3) rfl (by rw [← ev3_12]; rfl) (by decide) rfl (fun ls hl => ?_)
              refine lv_goto (tgt := 4) hx hb d_S_directories_63 (by decide) ?_
              exact ih_4 x1 x2 v3_12 _ _ _ hf hP hD hS (lv_sub hl [1, 2, 3, 0] rfl)
            · have hf := ite_t c_11 hf
              obtain ⟨v2_13, ev2_13, hf⟩ := lt1_s hf
              refine lv_iinc (v := v2_13) (lv' := [(2, .int v2_13), (0, .ref (h 6)), (1, .int x1), (3, .int x3)]) hx hb d_S_directories_57 hl (k := 2) rfl (by rw [← ev2_13]; rfl) (by decide) rfl (fun ls hl => ?_)
              obtain ⟨v3_14, ev3_14, hf⟩ := lt1_s hf
              refine lv_iinc (v := v3_14) (lv' := [(3, .int v3_14), (2, .int v2_13), (0, .ref (h 6)), (1, .int x1)]) hx hb d_S_directories_60 hl (k := 3) rfl (by rw [← ev3_14]; rfl) (by decide) rfl (fun ls hl => ?_)
              refine lv_goto (tgt := 4) hx hb d_S_directories_63 (by decide) ?_
              exact ih_4 x1 v2_13 v3_14 _ _ _ hf hP hD hS (lv_sub hl [2, 3, 1, 0] rfl)
  unfold f_S_directories at hf
  refine lv_iconst (v := 0) hx hb d_S_directories_0 (by decide) ?_
  refine lv_istore_n (lv' := [(2, .int ((0 : Int32))), (0, .ref (h 6)), (1, .int a1)]) hx hb d_S_directories_1 rfl hl (by decide) rfl (fun ls hl => ?_)
  refine lv_iconst (v := 0) hx hb d_S_directories_2 (by decide) ?_
  refine lv_istore_n (lv' := [(3, .int ((0 : Int32))), (2, .int ((0 : Int32))), (0, .ref (h 6)), (1, .int a1)]) hx hb d_S_directories_3 rfl hl (by decide) rfl (fun ls hl => ?_)
  exact hj_4 N a1 ((0 : Int32)) ((0 : Int32)) _ _ _ hf hP hD hS (lv_sub hl [2, 3, 1, 0] rfl)
set_option maxHeartbeats 4000000 in
set_option maxRecDepth 100000 in
theorem c_S_mapsStand {l : Launch} {dC : Nat → ClassId} {dI : Nat → Nat → Nat} {N : Nat} {h : Nat → Nat} {cI : ClassId} {cL : ClassId} {NW : Nat} {bk : Int32} {sz : Int32} {wd : Nat → Int64} {mb : Nat → Int32} {gB : Int32} {gI : Int32} {gN : Int32} {iN : Int32} {dr : Int32} {es : Int64} {of : Int64} {od : Int32} {pl : Int64} {hd : Int64} {tk : Nat → Int32} {kn : Nat → Int32} {li : Nat → Int32} {pa : Nat → Int32} {ins : Nat → Int32} {cm : Int32} {fd : Int32} {hr : Int32} {hs : Nat} {r : Int32} (hf : f_S_mapsStand N NW bk sz wd mb gB gI gN tk li cm = some (r)) : Met l y_S_mapsStand ws_S_mapsStand { frames := 3, cells := 0, slots := 0, locals := 74 } (PcU (dC, dI) clAll [(cI, .int), (cL, .long)] (wC h cI cL NW bk sz wd mb gB gI gN iN dr es of od pl hd tk kn li pa ins cm fd hr) hs [.ref (h 6)]) (QUi (dC, dI) clAll [(cI, .int), (cL, .long)] (wC h cI cL NW bk sz wd mb gB gI gN iN dr es of od pl hd tk kn li pa ins cm fd hr) (wC h cI cL NW bk sz wd mb gB gI gN iN dr es of od pl hd tk kn li pa ins cm fd hr) hs r) 0 0 (va_A (wC h cI cL NW bk sz wd mb gB gI gN iN dr es of od pl hd tk kn li pa ins cm fd hr) hs) := by
  refine mUz (cc := b_S_mapsStand) (maxL := 6) (by decide) rfl (Nat.le_of_ble_eq_true rfl) ?_
  intro p e s m args below meth c Q hx hb hml hts hown A hA hK hP hD hS hret ls hl
  have htb : ∀ w ∈ TB, w.before args s = true := fun w h => hts w (List.mem_cons_of_mem _ h)
  have hl : lv_has ls 6 [(0, .ref (h 6))] := hl
  have hj_6 : ∀ (k_6 : Nat) (x1 : Int32) (x2 : Int32) (x3 : Int32) (H : Heap) (locs : List Loc) (ls : Array Slot), f_S_mapsStand_6 N NW bk sz wd mb gB gI gN tk li cm k_6 x1 x2 x3 = some (r) → va_P (dC, dI) clAll (wC h cI cL NW bk sz wd mb gB gI gN iN dr es of od pl hd tk kn li pa ins cm fd hr) H → va_D A (wC h cI cL NW bk sz wd mb gB gI gN iN dr es of od pl hd tk kn li pa ins cm fd hr) → va_S A s.heap H locs → lv_has ls 6 [(0, .ref (h 6)), (1, .int x1), (2, .int x2), (3, .int x3)] → W p l e (headSpec ws_S_mapsStand { frames := 3, cells := 0, slots := 0, locals := 74 }).room s m args below meth c H locs 0 0 Q (F0 m 6 ls []) := by
    intro k_6
    induction k_6 with
    | zero => intro _ _ _ _ _ _ hf; exact absurd hf (by simp [f_S_mapsStand_6])
    | succ k_6 ih_6 =>
      intro x1 x2 x3 H locs ls hf hP hD hS hl
      rw [f_S_mapsStand_6] at hf
      refine lv_iload_n hx hb d_S_mapsStand_6 rfl (lv_at hl 3 rfl) ?_
      refine lv_aload_n hx hb d_S_mapsStand_7 rfl (lv_at hl 0 rfl) ?_
      refine va_get (D := (dC, dI)) (ci := 3) (v := .ref (h 3)) (C := R_S) (T := T_S) (N := 10) hx hb htb in_S hown hK hP 6 rfl rfl 1 (by decide) (htb _ tw_177) (fun _ h9 => h9) rfl d_S_mapsStand_8 ?_
      obtain ⟨r_1, hc_2, hf⟩ := bd1_s hf
      refine ucVi (As := []) (rest := [.int x3]) ⟨hx, hb, hml, hown, htb⟩ hK hP hD hS hA (fun hs => c_L_groups hc_2) (cwV 0 htb (gV tw_322 tw_323 tw_324 tw_71 tw_325) rfl rfl rfl (by decide +kernel) ⟨Nat.le_of_ble_eq_true rfl, Nat.le_of_ble_eq_true rfl⟩) 3 2 rfl rfl rfl rfl rfl hl.1 (Nat.le_of_ble_eq_true rfl) d_S_mapsStand_11 ⟨Nat.zero_le _, Nat.zero_le _⟩ (fun H locs hP hD hS => ?_)
      refine lv_icmp_ge (tgt := 141) hx hb d_S_mapsStand_14 (by decide) (fun c_3 => ?_) (fun c_3 => ?_)
      · have hf := ite_t c_3 hf
        refine lv_aload_n hx hb d_S_mapsStand_141 rfl (lv_at hl 0 rfl) ?_
        refine lv_bipush (v := 12) hx hb d_S_mapsStand_142 (by decide) ?_
        refine lv_iconst (v := 4) hx hb d_S_mapsStand_144 (by decide) ?_
        refine lv_iload_n hx hb d_S_mapsStand_145 rfl (lv_at hl 1 rfl) ?_
        refine lv_i2l hx hb d_S_mapsStand_146 rfl ?_
        obtain ⟨r_4, hc_5, hf⟩ := bd1_s hf
        refine ucVi (As := [.int ((12 : Int32)), .int ((4 : Int32)), .long (Int32.toInt64 x1)]) (rest := []) ⟨hx, hb, hml, hown, htb⟩ hK hP hD hS hA (fun hs => c_S_superblockHas hc_5) (cwV 3 htb (gV tw_304 tw_306 tw_2 tw_73 tw_307) rfl rfl rfl (by decide +kernel) ⟨Nat.le_of_ble_eq_true rfl, Nat.le_of_ble_eq_true rfl⟩) 6 3 rfl rfl rfl rfl rfl hl.1 (Nat.le_of_ble_eq_true rfl) d_S_mapsStand_147 ⟨Nat.zero_le _, Nat.zero_le _⟩ (fun H locs hP hD hS => ?_)
        refine lv_if_eq (tgt := 169) hx hb d_S_mapsStand_150 (by decide) (fun c_6 => ?_) (fun c_6 => ?_)
        · have hf := ite_t c_6 hf
          refine lv_iconst (v := 0) hx hb d_S_mapsStand_169 (by decide) ?_
          cases hf
          exact hret _ _ _ _ (Or.inl rfl) hP hD hS d_S_mapsStand_170
        · have hf := ite_f c_6 hf
          refine lv_aload_n hx hb d_S_mapsStand_153 rfl (lv_at hl 0 rfl) ?_
          refine lv_bipush (v := 16) hx hb d_S_mapsStand_154 (by decide) ?_
          refine lv_iconst (v := 4) hx hb d_S_mapsStand_156 (by decide) ?_
          refine lv_iload_n hx hb d_S_mapsStand_157 rfl (lv_at hl 2 rfl) ?_
          refine lv_i2l hx hb d_S_mapsStand_158 rfl ?_
          obtain ⟨r_7, hc_8, hf⟩ := bd1_s hf
          refine ucVi (As := [.int ((16 : Int32)), .int ((4 : Int32)), .long (Int32.toInt64 x2)]) (rest := []) ⟨hx, hb, hml, hown, htb⟩ hK hP hD hS hA (fun hs => c_S_superblockHas hc_8) (cwV 3 htb (gV tw_304 tw_306 tw_2 tw_73 tw_307) rfl rfl rfl (by decide +kernel) ⟨Nat.le_of_ble_eq_true rfl, Nat.le_of_ble_eq_true rfl⟩) 6 3 rfl rfl rfl rfl rfl hl.1 (Nat.le_of_ble_eq_true rfl) d_S_mapsStand_159 ⟨Nat.zero_le _, Nat.zero_le _⟩ (fun H locs hP hD hS => ?_)
          refine lv_if_eq (tgt := 169) hx hb d_S_mapsStand_162 (by decide) (fun c_9 => ?_) (fun c_9 => ?_)
          · have hf := ite_t c_9 hf
            refine lv_iconst (v := 0) hx hb d_S_mapsStand_169 (by decide) ?_
            cases hf
            exact hret _ _ _ _ (Or.inl rfl) hP hD hS d_S_mapsStand_170
          · have hf := ite_f c_9 hf
            refine lv_iconst (v := 1) hx hb d_S_mapsStand_165 (by decide) ?_
            refine lv_goto (tgt := 170) hx hb d_S_mapsStand_166 (by decide) ?_
            cases hf
            exact hret _ _ _ _ (Or.inr rfl) hP hD hS d_S_mapsStand_170
      · have hf := ite_f c_3 hf
        refine lv_aload_n hx hb d_S_mapsStand_17 rfl (lv_at hl 0 rfl) ?_
        refine lv_iload_n hx hb d_S_mapsStand_18 rfl (lv_at hl 3 rfl) ?_
        obtain ⟨r_10, hc_11, hf⟩ := bd1_s hf
        refine ucVi (As := [.int x3]) (rest := []) ⟨hx, hb, hml, hown, htb⟩ hK hP hD hS hA (fun hs => c_S_blockMapStands hc_11) (cwV 1 htb (gV tw_542 tw_544 tw_21 tw_73 tw_545) rfl rfl rfl (by decide +kernel) ⟨Nat.le_of_ble_eq_true rfl, Nat.le_of_ble_eq_true rfl⟩) 6 3 rfl rfl rfl rfl rfl hl.1 (Nat.le_of_ble_eq_true rfl) d_S_mapsStand_19 ⟨Nat.zero_le _, Nat.zero_le _⟩ (fun H locs hP hD hS => ?_)
        refine lv_if_eq (tgt := 50) hx hb d_S_mapsStand_22 (by decide) (fun c_12 => ?_) (fun c_12 => ?_)
        · have hf := ite_t c_12 hf
          refine lv_iconst (v := 0) hx hb d_S_mapsStand_50 (by decide) ?_
          cases hf
          exact hret _ _ _ _ (Or.inl rfl) hP hD hS d_S_mapsStand_51
        · have hf := ite_f c_12 hf
          refine lv_aload_n hx hb d_S_mapsStand_25 rfl (lv_at hl 0 rfl) ?_
          refine va_get (D := (dC, dI)) (ci := 3) (v := .ref (h 1)) (C := R_S) (T := T_S) (N := 10) hx hb htb in_S hown hK hP 6 rfl rfl 0 (by decide) (htb _ tw_176) (fun _ h9 => h9) rfl d_S_mapsStand_26 ?_
          refine lv_aload_n hx hb d_S_mapsStand_29 rfl (lv_at hl 0 rfl) ?_
          refine va_get (D := (dC, dI)) (ci := 3) (v := .ref (h 3)) (C := R_S) (T := T_S) (N := 10) hx hb htb in_S hown hK hP 6 rfl rfl 1 (by decide) (htb _ tw_177) (fun _ h9 => h9) rfl d_S_mapsStand_30 ?_
          refine lv_iload_n hx hb d_S_mapsStand_33 rfl (lv_at hl 3 rfl) ?_
          obtain ⟨r_13, hc_14, hf⟩ := bd1_s hf
          refine ucVl (As := [.int x3]) (rest := [.ref (h 1)]) ⟨hx, hb, hml, hown, htb⟩ hK hP hD hS hA (fun hs => c_L_inodeMap hc_14) (cwV 1 htb (gV tw_562 tw_563 tw_564 tw_71 tw_565) rfl rfl rfl (by decide +kernel) ⟨Nat.le_of_ble_eq_true rfl, Nat.le_of_ble_eq_true rfl⟩) 3 2 rfl rfl rfl rfl rfl hl.1 (Nat.le_of_ble_eq_true rfl) d_S_mapsStand_34 ⟨Nat.zero_le _, Nat.zero_le _⟩ (fun H locs hP hD hS => ?_)
          refine lv_aload_n hx hb d_S_mapsStand_37 rfl (lv_at hl 0 rfl) ?_
          refine va_get (D := (dC, dI)) (ci := 3) (v := .ref (h 3)) (C := R_S) (T := T_S) (N := 10) hx hb htb in_S hown hK hP 6 rfl rfl 1 (by decide) (htb _ tw_177) (fun _ h9 => h9) rfl d_S_mapsStand_38 ?_
          obtain ⟨r_15, hc_16, hf⟩ := bd1_s hf
          refine ucVi (As := []) (rest := [.long r_13, .ref (h 1)]) ⟨hx, hb, hml, hown, htb⟩ hK hP hD hS hA (fun hs => c_L_groupInodes hc_16) (cwV 0 htb (gV tw_348 tw_349 tw_350 tw_71 tw_351) rfl rfl rfl (by decide +kernel) ⟨Nat.le_of_ble_eq_true rfl, Nat.le_of_ble_eq_true rfl⟩) 3 2 rfl rfl rfl rfl rfl hl.1 (Nat.le_of_ble_eq_true rfl) d_S_mapsStand_41 ⟨Nat.zero_le _, Nat.zero_le _⟩ (fun H locs hP hD hS => ?_)
          obtain ⟨r_17, hc_18, hf⟩ := bd1_s hf
          refine ucVi (As := [.long r_13, .int r_15]) (rest := []) ⟨hx, hb, hml, hown, htb⟩ hK hP hD hS hA (fun hs => c_D_onesFrom hc_18) (cwV 2 htb (gV tw_558 tw_559 tw_560 tw_69 tw_561) rfl rfl rfl (by decide +kernel) ⟨Nat.le_of_ble_eq_true rfl, Nat.le_of_ble_eq_true rfl⟩) 1 0 rfl rfl rfl rfl rfl hl.1 (Nat.le_of_ble_eq_true rfl) d_S_mapsStand_44 ⟨Nat.zero_le _, Nat.zero_le _⟩ (fun H locs hP hD hS => ?_)
          refine lv_if_ne (tgt := 52) hx hb d_S_mapsStand_47 (by decide) (fun c_19 => ?_) (fun c_19 => ?_)
          · have hf := ite_f c_19 hf
            refine lv_aload_n hx hb d_S_mapsStand_52 rfl (lv_at hl 0 rfl) ?_
            refine lv_iload_n hx hb d_S_mapsStand_53 rfl (lv_at hl 3 rfl) ?_
            obtain ⟨r_20, hc_21, hf⟩ := bd1_s hf
            refine ucVi (As := [.int x3]) (rest := []) ⟨hx, hb, hml, hown, htb⟩ hK hP hD hS hA (fun hs => c_S_freeBlocks hc_21) (cwV 1 htb (gV tw_567 tw_569 tw_23 tw_73 tw_570) rfl rfl rfl (by decide +kernel) ⟨Nat.le_of_ble_eq_true rfl, Nat.le_of_ble_eq_true rfl⟩) 6 3 rfl rfl rfl rfl rfl hl.1 (Nat.le_of_ble_eq_true rfl) d_S_mapsStand_54 ⟨Nat.zero_le _, Nat.zero_le _⟩ (fun H locs hP hD hS => ?_)
            refine lv_istore (lv' := [(4, .int r_20), (0, .ref (h 6)), (1, .int x1), (2, .int x2), (3, .int x3)]) hx hb d_S_mapsStand_57 hl (by decide) rfl (fun ls hl => ?_)
            refine lv_aload_n hx hb d_S_mapsStand_59 rfl (lv_at hl 1 rfl) ?_
            refine lv_iload_n hx hb d_S_mapsStand_60 rfl (lv_at hl 4 rfl) ?_
            obtain ⟨r_22, hc_23, hf⟩ := bd1_s hf
            refine ucVi (As := [.int x3]) (rest := []) ⟨hx, hb, hml, hown, htb⟩ hK hP hD hS hA (fun hs => c_S_freeInodes hc_23) (cwV 1 htb (gV tw_571 tw_573 tw_24 tw_73 tw_574) rfl rfl rfl (by decide +kernel) ⟨Nat.le_of_ble_eq_true rfl, Nat.le_of_ble_eq_true rfl⟩) 6 3 rfl rfl rfl rfl rfl hl.1 (Nat.le_of_ble_eq_true rfl) d_S_mapsStand_61 ⟨Nat.zero_le _, Nat.zero_le _⟩ (fun H locs hP hD hS => ?_)
            refine lv_istore (lv' := [(5, .int r_22), (4, .int r_20), (0, .ref (h 6)), (1, .int x1), (2, .int x2), (3, .int x3)]) hx hb d_S_mapsStand_64 hl (by decide) rfl (fun ls hl => ?_)
            refine lv_aload_n hx hb d_S_mapsStand_66 rfl (lv_at hl 2 rfl) ?_
            refine va_get (D := (dC, dI)) (ci := 3) (v := .ref (h 3)) (C := R_S) (T := T_S) (N := 10) hx hb htb in_S hown hK hP 6 rfl rfl 1 (by decide) (htb _ tw_177) (fun _ h9 => h9) rfl d_S_mapsStand_67 ?_
            refine lv_iload_n hx hb d_S_mapsStand_70 rfl (lv_at hl 5 rfl) ?_
            refine lv_bipush (v := 12) hx hb d_S_mapsStand_71 (by decide) ?_
            refine lv_iconst (v := 2) hx hb d_S_mapsStand_73 (by decide) ?_
            obtain ⟨r_24, hc_25, hf⟩ := bd1_s hf
            refine ucVl (As := [.int x3, .int ((12 : Int32)), .int ((2 : Int32))]) (rest := []) ⟨hx, hb, hml, hown, htb⟩ hK hP hD hS hA (fun hs => c_L_described hc_25) (cwV 3 htb (gV tw_352 tw_353 tw_354 tw_71 tw_355) rfl rfl rfl (by decide +kernel) ⟨Nat.le_of_ble_eq_true rfl, Nat.le_of_ble_eq_true rfl⟩) 3 2 rfl rfl rfl rfl rfl hl.1 (Nat.le_of_ble_eq_true rfl) d_S_mapsStand_74 ⟨Nat.zero_le _, Nat.zero_le _⟩ (fun H locs hP hD hS => ?_)
            refine lv_iload hx hb d_S_mapsStand_77 (lv_at hl 1 rfl) ?_
            refine lv_i2l hx hb d_S_mapsStand_79 rfl ?_
            refine lc_ne (tgt := 123) hx hb d_S_mapsStand_80 d_S_mapsStand_81 (by decide) (fun c_26 => ?_) (fun c_26 => ?_)
            · have hf := ite_f c_26 hf
              refine lv_iconst (v := 0) hx hb d_S_mapsStand_123 (by decide) ?_
              cases hf
              exact hret _ _ _ _ (Or.inl rfl) hP hD hS d_S_mapsStand_124
            · have hf := ite_t c_26 hf
              refine lv_aload_n hx hb d_S_mapsStand_84 rfl (lv_at hl 2 rfl) ?_
              refine va_get (D := (dC, dI)) (ci := 3) (v := .ref (h 3)) (C := R_S) (T := T_S) (N := 10) hx hb htb in_S hown hK hP 6 rfl rfl 1 (by decide) (htb _ tw_177) (fun _ h9 => h9) rfl d_S_mapsStand_85 ?_
              refine lv_iload_n hx hb d_S_mapsStand_88 rfl (lv_at hl 5 rfl) ?_
              refine lv_bipush (v := 14) hx hb d_S_mapsStand_89 (by decide) ?_
              refine lv_iconst (v := 2) hx hb d_S_mapsStand_91 (by decide) ?_
              obtain ⟨r_27, hc_28, hf⟩ := bd1_s hf
              refine ucVl (As := [.int x3, .int ((14 : Int32)), .int ((2 : Int32))]) (rest := []) ⟨hx, hb, hml, hown, htb⟩ hK hP hD hS hA (fun hs => c_L_described hc_28) (cwV 3 htb (gV tw_352 tw_353 tw_354 tw_71 tw_355) rfl rfl rfl (by decide +kernel) ⟨Nat.le_of_ble_eq_true rfl, Nat.le_of_ble_eq_true rfl⟩) 3 2 rfl rfl rfl rfl rfl hl.1 (Nat.le_of_ble_eq_true rfl) d_S_mapsStand_92 ⟨Nat.zero_le _, Nat.zero_le _⟩ (fun H locs hP hD hS => ?_)
              refine lv_iload hx hb d_S_mapsStand_95 (lv_at hl 0 rfl) ?_
              refine lv_i2l hx hb d_S_mapsStand_97 rfl ?_
              refine lc_ne (tgt := 123) hx hb d_S_mapsStand_98 d_S_mapsStand_99 (by decide) (fun c_29 => ?_) (fun c_29 => ?_)
              · have hf := ite_f c_29 hf
                refine lv_iconst (v := 0) hx hb d_S_mapsStand_123 (by decide) ?_
                cases hf
                exact hret _ _ _ _ (Or.inl rfl) hP hD hS d_S_mapsStand_124
              · have hf := ite_t c_29 hf
                refine lv_aload_n hx hb d_S_mapsStand_102 rfl (lv_at hl 2 rfl) ?_
                refine va_get (D := (dC, dI)) (ci := 3) (v := .ref (h 3)) (C := R_S) (T := T_S) (N := 10) hx hb htb in_S hown hK hP 6 rfl rfl 1 (by decide) (htb _ tw_177) (fun _ h9 => h9) rfl d_S_mapsStand_103 ?_
                refine lv_iload_n hx hb d_S_mapsStand_106 rfl (lv_at hl 5 rfl) ?_
                refine lv_bipush (v := 16) hx hb d_S_mapsStand_107 (by decide) ?_
                refine lv_iconst (v := 2) hx hb d_S_mapsStand_109 (by decide) ?_
                obtain ⟨r_30, hc_31, hf⟩ := bd1_s hf
                refine ucVl (As := [.int x3, .int ((16 : Int32)), .int ((2 : Int32))]) (rest := []) ⟨hx, hb, hml, hown, htb⟩ hK hP hD hS hA (fun hs => c_L_described hc_31) (cwV 3 htb (gV tw_352 tw_353 tw_354 tw_71 tw_355) rfl rfl rfl (by decide +kernel) ⟨Nat.le_of_ble_eq_true rfl, Nat.le_of_ble_eq_true rfl⟩) 3 2 rfl rfl rfl rfl rfl hl.1 (Nat.le_of_ble_eq_true rfl) d_S_mapsStand_110 ⟨Nat.zero_le _, Nat.zero_le _⟩ (fun H locs hP hD hS => ?_)
                refine lv_aload_n hx hb d_S_mapsStand_113 rfl (lv_at hl 2 rfl) ?_
                refine lv_iload_n hx hb d_S_mapsStand_114 rfl (lv_at hl 5 rfl) ?_
                obtain ⟨r_32, hc_33, hf⟩ := bd1_s hf
                refine ucVi (As := [.int x3]) (rest := [.long r_30]) ⟨hx, hb, hml, hown, htb⟩ hK hP hD hS hA (fun hs => c_S_directories hc_33) (cwV 1 htb (gV tw_575 tw_577 tw_25 tw_73 tw_578) rfl rfl rfl (by decide +kernel) ⟨Nat.le_of_ble_eq_true rfl, Nat.le_of_ble_eq_true rfl⟩) 6 3 rfl rfl rfl rfl rfl hl.1 (Nat.le_of_ble_eq_true rfl) d_S_mapsStand_115 ⟨Nat.zero_le _, Nat.zero_le _⟩ (fun H locs hP hD hS => ?_)
                refine lv_i2l hx hb d_S_mapsStand_118 rfl ?_
                refine lc_eq (tgt := 125) hx hb d_S_mapsStand_119 d_S_mapsStand_120 (by decide) (fun c_34 => ?_) (fun c_34 => ?_)
                · have hf := ite_t c_34 hf
                  refine lv_iload_n hx hb d_S_mapsStand_125 rfl (lv_at hl 3 rfl) ?_
                  refine lv_iload hx hb d_S_mapsStand_126 (lv_at hl 1 rfl) ?_
                  refine lv_iadd hx hb d_S_mapsStand_128 ?_
                  obtain ⟨v1_35, ev1_35, hf⟩ := lt1_s hf
                  refine lv_eqi ev1_35 ?_
                  refine lv_istore_n (lv' := [(1, .int v1_35), (5, .int r_22), (4, .int r_20), (0, .ref (h 6)), (2, .int x2), (3, .int x3)]) hx hb d_S_mapsStand_129 rfl hl (by decide) rfl (fun ls hl => ?_)
                  refine lv_iload_n hx hb d_S_mapsStand_130 rfl (lv_at hl 4 rfl) ?_
                  refine lv_iload hx hb d_S_mapsStand_131 (lv_at hl 1 rfl) ?_
                  refine lv_iadd hx hb d_S_mapsStand_133 ?_
                  obtain ⟨v2_36, ev2_36, hf⟩ := lt1_s hf
                  refine lv_eqi ev2_36 ?_
                  refine lv_istore_n (lv' := [(2, .int v2_36), (1, .int v1_35), (5, .int r_22), (4, .int r_20), (0, .ref (h 6)), (3, .int x3)]) hx hb d_S_mapsStand_134 rfl hl (by decide) rfl (fun ls hl => ?_)
                  obtain ⟨v3_37, ev3_37, hf⟩ := lt1_s hf
                  refine lv_iinc (v := v3_37) (lv' := [(3, .int v3_37), (2, .int v2_36), (1, .int v1_35), (5, .int r_22), (4, .int r_20), (0, .ref (h 6))]) hx hb d_S_mapsStand_135 hl (k := 5) rfl (by rw [← ev3_37]; rfl) (by decide) rfl (fun ls hl => ?_)
                  refine lv_goto (tgt := 6) hx hb d_S_mapsStand_138 (by decide) ?_
                  exact ih_6 v1_35 v2_36 v3_37 _ _ _ hf hP hD hS (lv_sub hl [5, 2, 1, 0] rfl)
                · have hf := ite_f c_34 hf
                  refine lv_iconst (v := 0) hx hb d_S_mapsStand_123 (by decide) ?_
                  cases hf
                  exact hret _ _ _ _ (Or.inl rfl) hP hD hS d_S_mapsStand_124
          · have hf := ite_t c_19 hf
            refine lv_iconst (v := 0) hx hb d_S_mapsStand_50 (by decide) ?_
            cases hf
            exact hret _ _ _ _ (Or.inl rfl) hP hD hS d_S_mapsStand_51
  unfold f_S_mapsStand at hf
  refine lv_iconst (v := 0) hx hb d_S_mapsStand_0 (by decide) ?_
  refine lv_istore_n (lv' := [(1, .int ((0 : Int32))), (0, .ref (h 6))]) hx hb d_S_mapsStand_1 rfl hl (by decide) rfl (fun ls hl => ?_)
  refine lv_iconst (v := 0) hx hb d_S_mapsStand_2 (by decide) ?_
  refine lv_istore_n (lv' := [(2, .int ((0 : Int32))), (1, .int ((0 : Int32))), (0, .ref (h 6))]) hx hb d_S_mapsStand_3 rfl hl (by decide) rfl (fun ls hl => ?_)
  refine lv_iconst (v := 0) hx hb d_S_mapsStand_4 (by decide) ?_
  refine lv_istore_n (lv' := [(3, .int ((0 : Int32))), (2, .int ((0 : Int32))), (1, .int ((0 : Int32))), (0, .ref (h 6))]) hx hb d_S_mapsStand_5 rfl hl (by decide) rfl (fun ls hl => ?_)
  exact hj_6 N ((0 : Int32)) ((0 : Int32)) ((0 : Int32)) _ _ _ hf hP hD hS (lv_sub hl [3, 2, 1, 0] rfl)
set_option maxHeartbeats 4000000 in
set_option maxRecDepth 100000 in
theorem c_S_lateFault {l : Launch} {dC : Nat → ClassId} {dI : Nat → Nat → Nat} {N : Nat} {h : Nat → Nat} {cI : ClassId} {cL : ClassId} {NW : Nat} {bk : Int32} {sz : Int32} {wd : Nat → Int64} {mb : Nat → Int32} {gB : Int32} {gI : Int32} {gN : Int32} {iN : Int32} {dr : Int32} {es : Int64} {of : Int64} {od : Int32} {pl : Int64} {hd : Int64} {tk : Nat → Int32} {kn : Nat → Int32} {li : Nat → Int32} {pa : Nat → Int32} {ins : Nat → Int32} {cm : Int32} {fd : Int32} {hr : Int32} {hs : Nat} {r : Int32} (hf : f_S_lateFault N NW bk sz wd mb gB gI gN iN tk kn li ins cm = some (r)) : Met l y_S_lateFault ws_S_lateFault { frames := 4, cells := 0, slots := 0, locals := 99 } (PcU (dC, dI) clAll [(cI, .int), (cL, .long)] (wC h cI cL NW bk sz wd mb gB gI gN iN dr es of od pl hd tk kn li pa ins cm fd hr) hs [.ref (h 6)]) (QUi (dC, dI) clAll [(cI, .int), (cL, .long)] (wC h cI cL NW bk sz wd mb gB gI gN iN dr es of od pl hd tk kn li pa ins cm fd hr) (wC h cI cL NW bk sz wd mb gB gI gN iN dr es of od pl hd tk kn li pa ins cm fd hr) hs r) 0 0 (va_A (wC h cI cL NW bk sz wd mb gB gI gN iN dr es of od pl hd tk kn li pa ins cm fd hr) hs) := by
  refine mUi (cc := b_S_lateFault) (maxL := 1) (by decide) rfl (Nat.le_of_ble_eq_true rfl) ?_
  intro p e s m args below meth c Q hx hb hml hts hown A hA hK hP hD hS hret ls hl
  have htb : ∀ w ∈ TB, w.before args s = true := fun w h => hts w (List.mem_cons_of_mem _ h)
  have hl : lv_has ls 1 [(0, .ref (h 6))] := hl
  unfold f_S_lateFault at hf
  refine lv_aload_n hx hb d_S_lateFault_0 rfl (lv_at hl 0 rfl) ?_
  obtain ⟨r_1, hc_2, hf⟩ := bd1_s hf
  refine ucVi (As := []) (rest := []) ⟨hx, hb, hml, hown, htb⟩ hK hP hD hS hA (fun hs => c_S_linksStand hc_2) (cwV 0 htb (gV tw_526 tw_528 tw_17 tw_73 tw_529) rfl rfl rfl (by decide +kernel) ⟨Nat.le_of_ble_eq_true rfl, Nat.le_of_ble_eq_true rfl⟩) 6 3 rfl rfl rfl rfl rfl hl.1 (Nat.le_of_ble_eq_true rfl) d_S_lateFault_1 ⟨Nat.zero_le _, Nat.zero_le _⟩ (fun H locs hP hD hS => ?_)
  refine lv_if_ne (tgt := 10) hx hb d_S_lateFault_4 (by decide) (fun c_3 => ?_) (fun c_3 => ?_)
  · have hf := ite_f c_3 hf
    refine lv_aload_n hx hb d_S_lateFault_10 rfl (lv_at hl 0 rfl) ?_
    obtain ⟨r_4, hc_5, hf⟩ := bd1_s hf
    refine ucVi (As := []) (rest := []) ⟨hx, hb, hml, hown, htb⟩ hK hP hD hS hA (fun hs => c_S_inodesStand hc_5) (cwV 0 htb (gV tw_530 tw_532 tw_18 tw_73 tw_533) rfl rfl rfl (by decide +kernel) ⟨Nat.le_of_ble_eq_true rfl, Nat.le_of_ble_eq_true rfl⟩) 6 3 rfl rfl rfl rfl rfl hl.1 (Nat.le_of_ble_eq_true rfl) d_S_lateFault_11 ⟨Nat.zero_le _, Nat.zero_le _⟩ (fun H locs hP hD hS => ?_)
    refine lv_if_ne (tgt := 20) hx hb d_S_lateFault_14 (by decide) (fun c_6 => ?_) (fun c_6 => ?_)
    · have hf := ite_f c_6 hf
      refine lv_aload_n hx hb d_S_lateFault_20 rfl (lv_at hl 0 rfl) ?_
      obtain ⟨r_7, hc_8, hf⟩ := bd1_s hf
      refine ucVi (As := []) (rest := []) ⟨hx, hb, hml, hown, htb⟩ hK hP hD hS hA (fun hs => c_S_mapsStand hc_8) (cwV 0 htb (gV tw_538 tw_540 tw_20 tw_73 tw_541) rfl rfl rfl (by decide +kernel) ⟨Nat.le_of_ble_eq_true rfl, Nat.le_of_ble_eq_true rfl⟩) 6 3 rfl rfl rfl rfl rfl hl.1 (Nat.le_of_ble_eq_true rfl) d_S_lateFault_21 ⟨Nat.zero_le _, Nat.zero_le _⟩ (fun H locs hP hD hS => ?_)
      refine lv_if_eq (tgt := 31) hx hb d_S_lateFault_24 (by decide) (fun c_9 => ?_) (fun c_9 => ?_)
      · have hf := ite_t c_9 hf
        refine lv_bipush (v := 8) hx hb d_S_lateFault_31 (by decide) ?_
        cases hf
        exact hret _ _ _ _ hP hD hS d_S_lateFault_33
      · have hf := ite_f c_9 hf
        refine lv_iconst (v := 0) hx hb d_S_lateFault_27 (by decide) ?_
        refine lv_goto (tgt := 33) hx hb d_S_lateFault_28 (by decide) ?_
        cases hf
        exact hret _ _ _ _ hP hD hS d_S_lateFault_33
    · have hf := ite_t c_6 hf
      refine lv_bipush (v := 7) hx hb d_S_lateFault_17 (by decide) ?_
      cases hf
      exact hret _ _ _ _ hP hD hS d_S_lateFault_19
  · have hf := ite_t c_3 hf
    refine lv_bipush (v := 6) hx hb d_S_lateFault_7 (by decide) ?_
    cases hf
    exact hret _ _ _ _ hP hD hS d_S_lateFault_9
set_option maxHeartbeats 4000000 in
set_option maxRecDepth 100000 in
theorem c_S_firstFault {l : Launch} {dC : Nat → ClassId} {dI : Nat → Nat → Nat} {N : Nat} {h : Nat → Nat} {cI : ClassId} {cL : ClassId} {NW : Nat} {bk : Int32} {sz : Int32} {wd : Nat → Int64} {mb : Nat → Int32} {gB : Int32} {gI : Int32} {gN : Int32} {iN : Int32} {dr : Int32} {es : Int64} {of : Int64} {od : Int32} {pl : Int64} {hd : Int64} {tk : Nat → Int32} {kn : Nat → Int32} {li : Nat → Int32} {pa : Nat → Int32} {ins : Nat → Int32} {cm : Int32} {fd : Int32} {hr : Int32} {hs : Nat} {r : Int32} {mb' : Nat → Int32} {gB' : Int32} {gI' : Int32} {gN' : Int32} {iN' : Int32} {dr' : Int32} {es' : Int64} {of' : Int64} {od' : Int32} {pl' : Int64} {hd' : Int64} {tk' : Nat → Int32} {kn' : Nat → Int32} {li' : Nat → Int32} {pa' : Nat → Int32} {ins' : Nat → Int32} {cm' : Int32} {fd' : Int32} (hf : f_S_firstFault N NW bk sz wd mb gB gI gN iN dr es of od pl hd tk kn li pa ins cm fd = some (r, mb', gB', gI', gN', iN', dr', es', of', od', pl', hd', tk', kn', li', pa', ins', cm', fd')) : Met l y_S_firstFault ws_S_firstFault { frames := 5, cells := 0, slots := 0, locals := 130 } (PcU (dC, dI) clAll [(cI, .int), (cL, .long)] (wC h cI cL NW bk sz wd mb gB gI gN iN dr es of od pl hd tk kn li pa ins cm fd hr) hs [.ref (h 6)]) (QUi (dC, dI) clAll [(cI, .int), (cL, .long)] (wC h cI cL NW bk sz wd mb gB gI gN iN dr es of od pl hd tk kn li pa ins cm fd hr) (wC h cI cL NW bk sz wd mb' gB' gI' gN' iN' dr' es' of' od' pl' hd' tk' kn' li' pa' ins' cm' fd' hr) hs r) 0 0 (va_A (wC h cI cL NW bk sz wd mb gB gI gN iN dr es of od pl hd tk kn li pa ins cm fd hr) hs) := by
  refine mUi (cc := b_S_firstFault) (maxL := 1) (by decide) rfl (Nat.le_of_ble_eq_true rfl) ?_
  intro p e s m args below meth c Q hx hb hml hts hown A hA hK hP hD hS hret ls hl
  have htb : ∀ w ∈ TB, w.before args s = true := fun w h => hts w (List.mem_cons_of_mem _ h)
  have hl : lv_has ls 1 [(0, .ref (h 6))] := hl
  have hj_66 : ∀ (mb : Nat → Int32) (gB : Int32) (gI : Int32) (gN : Int32) (iN : Int32) (dr : Int32) (es : Int64) (of : Int64) (od : Int32) (pl : Int64) (hd : Int64) (tk : Nat → Int32) (kn : Nat → Int32) (li : Nat → Int32) (pa : Nat → Int32) (ins : Nat → Int32) (cm : Int32) (fd : Int32) (H : Heap) (locs : List Loc) (ls : Array Slot), f_S_firstFault_66 N NW bk sz wd mb gB gI gN iN dr es of od pl hd tk kn li pa ins cm fd = some (r, mb', gB', gI', gN', iN', dr', es', of', od', pl', hd', tk', kn', li', pa', ins', cm', fd') → va_P (dC, dI) clAll (wC h cI cL NW bk sz wd mb gB gI gN iN dr es of od pl hd tk kn li pa ins cm fd hr) H → va_D A (wC h cI cL NW bk sz wd mb gB gI gN iN dr es of od pl hd tk kn li pa ins cm fd hr) → va_S A s.heap H locs → lv_has ls 1 [(0, .ref (h 6))] → W p l e (headSpec ws_S_firstFault { frames := 5, cells := 0, slots := 0, locals := 130 }).room s m args below meth c H locs 0 0 Q (F0 m 66 ls []) := by
    intro mb gB gI gN iN dr es of od pl hd tk kn li pa ins cm fd H locs ls hf hP hD hS hl
    unfold f_S_firstFault_66 at hf
    refine lv_aload_n hx hb d_S_firstFault_66 rfl (lv_at hl 0 rfl) ?_
    refine va_get (D := (dC, dI)) (ci := 3) (v := .int fd) (C := R_S) (T := T_S) (N := 10) hx hb htb in_S hown hK hP 6 rfl rfl 9 (by decide) (htb _ tw_185) (fun _ h9 => h9) rfl d_S_firstFault_67 ?_
    refine lv_if_ne (tgt := 81) hx hb d_S_firstFault_70 (by decide) (fun c_1 => ?_) (fun c_1 => ?_)
    · have hf := ite_f c_1 hf
      refine lv_aload_n hx hb d_S_firstFault_81 rfl (lv_at hl 0 rfl) ?_
      refine va_get (D := (dC, dI)) (ci := 3) (v := .int fd) (C := R_S) (T := T_S) (N := 10) hx hb htb in_S hown hK hP 6 rfl rfl 9 (by decide) (htb _ tw_185) (fun _ h9 => h9) rfl d_S_firstFault_82 ?_
      cases hf
      exact hret _ _ _ _ hP hD hS d_S_firstFault_85
    · have hf := ite_t c_1 hf
      refine lv_aload_n hx hb d_S_firstFault_73 rfl (lv_at hl 0 rfl) ?_
      refine lv_aload_n hx hb d_S_firstFault_74 rfl (lv_at hl 0 rfl) ?_
      obtain ⟨r_2, hc_3, hf⟩ := bd1_s hf
      refine ucVi (As := []) (rest := [.ref (h 6)]) ⟨hx, hb, hml, hown, htb⟩ hK hP hD hS hA (fun hs => c_S_lateFault hc_3) (cwV 0 htb (gV tw_522 tw_524 tw_16 tw_73 tw_525) rfl rfl rfl (by decide +kernel) ⟨Nat.le_of_ble_eq_true rfl, Nat.le_of_ble_eq_true rfl⟩) 6 3 rfl rfl rfl rfl rfl hl.1 (Nat.le_of_ble_eq_true rfl) d_S_firstFault_75 ⟨Nat.zero_le _, Nat.zero_le _⟩ (fun H locs hP hD hS => ?_)
      refine va_put (D := (dC, dI)) (ci := 3) (v := .int r_2) (ty := .int) (C := R_S) (T := T_S) (N := 10) hx hb htb in_S ty_S tyok_S nm_S hown hK hP hD hS 6 rfl rfl 9 (by decide) (htb _ tw_185) (fun _ h9 => h9) rfl (by decide +kernel) rfl rfl (Nat.le_of_ble_eq_true rfl) d_S_firstFault_78 (fun H locs hP hD hS => ?_)
      have hP : va_P (dC, dI) clAll (wC h cI cL NW bk sz wd mb gB gI gN iN dr es of od pl hd tk kn li pa ins cm r_2 hr) H := hP
      have hD : va_D A (wC h cI cL NW bk sz wd mb gB gI gN iN dr es of od pl hd tk kn li pa ins cm r_2 hr) := hD
      refine lv_aload_n hx hb d_S_firstFault_81 rfl (lv_at hl 0 rfl) ?_
      refine va_get (D := (dC, dI)) (ci := 3) (v := .int r_2) (C := R_S) (T := T_S) (N := 10) hx hb htb in_S hown hK hP 6 rfl rfl 9 (by decide) (htb _ tw_185) (fun _ h9 => h9) rfl d_S_firstFault_82 ?_
      cases hf
      exact hret _ _ _ _ hP hD hS d_S_firstFault_85
  unfold f_S_firstFault at hf
  refine lv_aload_n hx hb d_S_firstFault_0 rfl (lv_at hl 0 rfl) ?_
  refine va_get (D := (dC, dI)) (ci := 3) (v := .int fd) (C := R_S) (T := T_S) (N := 10) hx hb htb in_S hown hK hP 6 rfl rfl 9 (by decide) (htb _ tw_185) (fun _ h9 => h9) rfl d_S_firstFault_1 ?_
  refine lv_iconst (v := -1) hx hb d_S_firstFault_4 (by decide) ?_
  refine lv_icmp_eq (tgt := 13) hx hb d_S_firstFault_5 (by decide) (fun c_1 => ?_) (fun c_1 => ?_)
  · have hf := ite_t c_1 hf
    refine lv_aload_n hx hb d_S_firstFault_13 rfl (lv_at hl 0 rfl) ?_
    obtain ⟨r_2, gB_3, gI_4, gN_5, iN_6, hc_7, hf⟩ := bd5_s hf
    refine ucVi (As := []) (rest := []) ⟨hx, hb, hml, hown, htb⟩ hK hP hD hS hA (fun hs => c_S_superblockStands hc_7) (cwV 0 htb (gV tw_280 tw_282 tw_1 tw_73 tw_283) rfl rfl rfl (by decide +kernel) ⟨Nat.le_of_ble_eq_true rfl, Nat.le_of_ble_eq_true rfl⟩) 6 3 rfl rfl rfl rfl rfl hl.1 (Nat.le_of_ble_eq_true rfl) d_S_firstFault_14 ⟨Nat.zero_le _, Nat.zero_le _⟩ (fun H locs hP hD hS => ?_)
    refine lv_if_ne (tgt := 28) hx hb d_S_firstFault_17 (by decide) (fun c_8 => ?_) (fun c_8 => ?_)
    · have hf := ite_f c_8 hf
      refine lv_aload_n hx hb d_S_firstFault_28 rfl (lv_at hl 0 rfl) ?_
      obtain ⟨r_9, hc_10, hf⟩ := bd1_s hf
      refine ucVi (As := []) (rest := []) ⟨hx, hb, hml, hown, htb⟩ hK hP hD hS hA (fun hs => c_S_copiesStand hc_10) (cwV 0 htb (gV tw_318 tw_320 tw_3 tw_73 tw_321) rfl rfl rfl (by decide +kernel) ⟨Nat.le_of_ble_eq_true rfl, Nat.le_of_ble_eq_true rfl⟩) 6 3 rfl rfl rfl rfl rfl hl.1 (Nat.le_of_ble_eq_true rfl) d_S_firstFault_29 ⟨Nat.zero_le _, Nat.zero_le _⟩ (fun H locs hP hD hS => ?_)
      refine lv_if_ne (tgt := 43) hx hb d_S_firstFault_32 (by decide) (fun c_11 => ?_) (fun c_11 => ?_)
      · have hf := ite_f c_11 hf
        refine lv_aload_n hx hb d_S_firstFault_43 rfl (lv_at hl 0 rfl) ?_
        obtain ⟨r_12, mb_13, tk_14, hc_15, hf⟩ := bd3_s hf
        refine ucVi (As := []) (rest := []) ⟨hx, hb, hml, hown, htb⟩ hK hP hD hS hA (fun hs => c_S_groupsStand hc_15) (cwV 0 htb (gV tw_341 tw_343 tw_5 tw_73 tw_344) rfl rfl rfl (by decide +kernel) ⟨Nat.le_of_ble_eq_true rfl, Nat.le_of_ble_eq_true rfl⟩) 6 3 rfl rfl rfl rfl rfl hl.1 (Nat.le_of_ble_eq_true rfl) d_S_firstFault_44 ⟨Nat.zero_le _, Nat.zero_le _⟩ (fun H locs hP hD hS => ?_)
        refine lv_if_ne (tgt := 58) hx hb d_S_firstFault_47 (by decide) (fun c_16 => ?_) (fun c_16 => ?_)
        · have hf := ite_f c_16 hf
          refine lv_aload_n hx hb d_S_firstFault_58 rfl (lv_at hl 0 rfl) ?_
          refine lv_aload_n hx hb d_S_firstFault_59 rfl (lv_at hl 0 rfl) ?_
          obtain ⟨r_17, dr_18, es_19, of_20, od_21, pl_22, hd_23, tk_24, kn_25, li_26, pa_27, ins_28, cm_29, hc_30, hf⟩ := bd13_s hf
          refine ucVi (As := []) (rest := [.ref (h 6)]) ⟨hx, hb, hml, hown, htb⟩ hK hP hD hS hA (fun hs => c_S_treeFault hc_30) (cwV 0 htb (gV tw_365 tw_367 tw_7 tw_73 tw_368) rfl rfl rfl (by decide +kernel) ⟨Nat.le_of_ble_eq_true rfl, Nat.le_of_ble_eq_true rfl⟩) 6 3 rfl rfl rfl rfl rfl hl.1 (Nat.le_of_ble_eq_true rfl) d_S_firstFault_60 ⟨Nat.zero_le _, Nat.zero_le _⟩ (fun H locs hP hD hS => ?_)
          refine va_put (D := (dC, dI)) (ci := 3) (v := .int r_17) (ty := .int) (C := R_S) (T := T_S) (N := 10) hx hb htb in_S ty_S tyok_S nm_S hown hK hP hD hS 6 rfl rfl 9 (by decide) (htb _ tw_185) (fun _ h9 => h9) rfl (by decide +kernel) rfl rfl (Nat.le_of_ble_eq_true rfl) d_S_firstFault_63 (fun H locs hP hD hS => ?_)
          have hP : va_P (dC, dI) clAll (wC h cI cL NW bk sz wd mb_13 gB_3 gI_4 gN_5 iN_6 dr_18 es_19 of_20 od_21 pl_22 hd_23 tk_24 kn_25 li_26 pa_27 ins_28 cm_29 r_17 hr) H := hP
          have hD : va_D A (wC h cI cL NW bk sz wd mb_13 gB_3 gI_4 gN_5 iN_6 dr_18 es_19 of_20 od_21 pl_22 hd_23 tk_24 kn_25 li_26 pa_27 ins_28 cm_29 r_17 hr) := hD
          exact hj_66 mb_13 gB_3 gI_4 gN_5 iN_6 dr_18 es_19 of_20 od_21 pl_22 hd_23 tk_24 kn_25 li_26 pa_27 ins_28 cm_29 r_17 _ _ _ hf hP hD hS (lv_sub hl [0] rfl)
        · have hf := ite_t c_16 hf
          refine lv_aload_n hx hb d_S_firstFault_50 rfl (lv_at hl 0 rfl) ?_
          refine lv_iconst (v := 3) hx hb d_S_firstFault_51 (by decide) ?_
          refine va_put (D := (dC, dI)) (ci := 3) (v := .int ((3 : Int32))) (ty := .int) (C := R_S) (T := T_S) (N := 10) hx hb htb in_S ty_S tyok_S nm_S hown hK hP hD hS 6 rfl rfl 9 (by decide) (htb _ tw_185) (fun _ h9 => h9) rfl (by decide +kernel) rfl rfl (Nat.le_of_ble_eq_true rfl) d_S_firstFault_52 (fun H locs hP hD hS => ?_)
          have hP : va_P (dC, dI) clAll (wC h cI cL NW bk sz wd mb_13 gB_3 gI_4 gN_5 iN_6 dr es of od pl hd tk_14 kn li pa ins cm ((3 : Int32)) hr) H := hP
          have hD : va_D A (wC h cI cL NW bk sz wd mb_13 gB_3 gI_4 gN_5 iN_6 dr es of od pl hd tk_14 kn li pa ins cm ((3 : Int32)) hr) := hD
          refine lv_goto (tgt := 66) hx hb d_S_firstFault_55 (by decide) ?_
          exact hj_66 mb_13 gB_3 gI_4 gN_5 iN_6 dr es of od pl hd tk_14 kn li pa ins cm ((3 : Int32)) _ _ _ hf hP hD hS (lv_sub hl [0] rfl)
      · have hf := ite_t c_11 hf
        refine lv_aload_n hx hb d_S_firstFault_35 rfl (lv_at hl 0 rfl) ?_
        refine lv_iconst (v := 2) hx hb d_S_firstFault_36 (by decide) ?_
        refine va_put (D := (dC, dI)) (ci := 3) (v := .int ((2 : Int32))) (ty := .int) (C := R_S) (T := T_S) (N := 10) hx hb htb in_S ty_S tyok_S nm_S hown hK hP hD hS 6 rfl rfl 9 (by decide) (htb _ tw_185) (fun _ h9 => h9) rfl (by decide +kernel) rfl rfl (Nat.le_of_ble_eq_true rfl) d_S_firstFault_37 (fun H locs hP hD hS => ?_)
        have hP : va_P (dC, dI) clAll (wC h cI cL NW bk sz wd mb gB_3 gI_4 gN_5 iN_6 dr es of od pl hd tk kn li pa ins cm ((2 : Int32)) hr) H := hP
        have hD : va_D A (wC h cI cL NW bk sz wd mb gB_3 gI_4 gN_5 iN_6 dr es of od pl hd tk kn li pa ins cm ((2 : Int32)) hr) := hD
        refine lv_goto (tgt := 66) hx hb d_S_firstFault_40 (by decide) ?_
        exact hj_66 mb gB_3 gI_4 gN_5 iN_6 dr es of od pl hd tk kn li pa ins cm ((2 : Int32)) _ _ _ hf hP hD hS (lv_sub hl [0] rfl)
    · have hf := ite_t c_8 hf
      refine lv_aload_n hx hb d_S_firstFault_20 rfl (lv_at hl 0 rfl) ?_
      refine lv_iconst (v := 1) hx hb d_S_firstFault_21 (by decide) ?_
      refine va_put (D := (dC, dI)) (ci := 3) (v := .int ((1 : Int32))) (ty := .int) (C := R_S) (T := T_S) (N := 10) hx hb htb in_S ty_S tyok_S nm_S hown hK hP hD hS 6 rfl rfl 9 (by decide) (htb _ tw_185) (fun _ h9 => h9) rfl (by decide +kernel) rfl rfl (Nat.le_of_ble_eq_true rfl) d_S_firstFault_22 (fun H locs hP hD hS => ?_)
      have hP : va_P (dC, dI) clAll (wC h cI cL NW bk sz wd mb gB_3 gI_4 gN_5 iN_6 dr es of od pl hd tk kn li pa ins cm ((1 : Int32)) hr) H := hP
      have hD : va_D A (wC h cI cL NW bk sz wd mb gB_3 gI_4 gN_5 iN_6 dr es of od pl hd tk kn li pa ins cm ((1 : Int32)) hr) := hD
      refine lv_goto (tgt := 66) hx hb d_S_firstFault_25 (by decide) ?_
      exact hj_66 mb gB_3 gI_4 gN_5 iN_6 dr es of od pl hd tk kn li pa ins cm ((1 : Int32)) _ _ _ hf hP hD hS (lv_sub hl [0] rfl)
  · have hf := ite_f c_1 hf
    refine lv_aload_n hx hb d_S_firstFault_8 rfl (lv_at hl 0 rfl) ?_
    refine va_get (D := (dC, dI)) (ci := 3) (v := .int fd) (C := R_S) (T := T_S) (N := 10) hx hb htb in_S hown hK hP 6 rfl rfl 9 (by decide) (htb _ tw_185) (fun _ h9 => h9) rfl d_S_firstFault_9 ?_
    cases hf
    exact hret _ _ _ _ hP hD hS d_S_firstFault_12
