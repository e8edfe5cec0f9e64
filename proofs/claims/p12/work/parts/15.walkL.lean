set_option maxHeartbeats 4000000 in
set_option maxRecDepth 100000 in
theorem c_L_readGroups {l : Launch} {dC : Nat → ClassId} {dI : Nat → Nat → Nat} {h : Nat → Nat} {cI : ClassId} {cL : ClassId} {NW : Nat} {bk : Int32} {sz : Int32} {wd : Nat → Int64} {mb : Nat → Int32} {gB : Int32} {gI : Int32} {gN : Int32} {iN : Int32} {dr : Int32} {es : Int64} {of : Int64} {od : Int32} {pl : Int64} {hd : Int64} {tk : Nat → Int32} {kn : Nat → Int32} {li : Nat → Int32} {pa : Nat → Int32} {ins : Nat → Int32} {cm : Int32} {fd : Int32} {hr : Int32} {hs : Nat} {r : Int32} {gB' : Int32} {gI' : Int32} {gN' : Int32} {iN' : Int32} (hf : f_L_readGroups NW bk sz wd gB gI gN iN = some (r, gB', gI', gN', iN')) : Met l y_L_readGroups ws_L_readGroups { frames := 1, cells := 0, slots := 0, locals := 27 } (PcU (dC, dI) clAll [(cI, .int), (cL, .long)] (wC h cI cL NW bk sz wd mb gB gI gN iN dr es of od pl hd tk kn li pa ins cm fd hr) hs [.ref (h 3)]) (QUi (dC, dI) clAll [(cI, .int), (cL, .long)] (wC h cI cL NW bk sz wd mb gB gI gN iN dr es of od pl hd tk kn li pa ins cm fd hr) (wC h cI cL NW bk sz wd mb gB' gI' gN' iN' dr es of od pl hd tk kn li pa ins cm fd hr) hs r) 0 0 (va_A (wC h cI cL NW bk sz wd mb gB gI gN iN dr es of od pl hd tk kn li pa ins cm fd hr) hs) := by
  refine mUz (cc := b_L_readGroups) (maxL := 5) (by decide) rfl (Nat.le_of_ble_eq_true rfl) ?_
  intro p e s m args below meth c Q hx hb hml hts hown A hA hK hP hD hS hret ls hl
  have htb : ∀ w ∈ TB, w.before args s = true := fun w h => hts w (List.mem_cons_of_mem _ h)
  have hl : lv_has ls 5 [(0, .ref (h 3))] := hl
  have hj_50 : ∀ (gB : Int32) (gI : Int32) (gN : Int32) (iN : Int32) (x1 : Int64) (x3 : Int64) (H : Heap) (locs : List Loc) (ls : Array Slot), f_L_readGroups_50 NW bk sz wd gB gI gN iN x1 x3 = some (r, gB', gI', gN', iN') → va_P (dC, dI) clAll (wC h cI cL NW bk sz wd mb gB gI gN iN dr es of od pl hd tk kn li pa ins cm fd hr) H → va_D A (wC h cI cL NW bk sz wd mb gB gI gN iN dr es of od pl hd tk kn li pa ins cm fd hr) → va_S A s.heap H locs → lv_has ls 5 [(0, .ref (h 3)), (1, .long x1), (3, .long x3)] → W p l e (headSpec ws_L_readGroups { frames := 1, cells := 0, slots := 0, locals := 27 }).room s m args below meth c H locs 0 0 Q (F0 m 50 ls []) := by
    intro gB gI gN iN x1 x3 H locs ls hf hP hD hS hl
    unfold f_L_readGroups_50 at hf
    refine lv_lload_n hx hb d_L_readGroups_50 rfl (lv_at hl 2 rfl) ?_
    refine lv_ldc2 (v := 8) hx hb hown (htb _ tw_294) d_L_readGroups_51 ?_
    refine lc_lt (tgt := 76) hx hb d_L_readGroups_54 d_L_readGroups_55 (by decide) (fun c_1 => ?_) (fun c_1 => ?_)
    · have hf := ite_t c_1 hf
      refine lv_iconst (v := 0) hx hb d_L_readGroups_76 (by decide) ?_
      cases hf
      exact hret _ _ _ _ (Or.inl rfl) hP hD hS d_L_readGroups_77
    · have hf := ite_f c_1 hf
      refine lv_lload_n hx hb d_L_readGroups_58 rfl (lv_at hl 2 rfl) ?_
      refine lv_ldc2 (v := 8192) hx hb hown (htb _ tw_295) d_L_readGroups_59 ?_
      refine lc_gt (tgt := 76) hx hb d_L_readGroups_62 d_L_readGroups_63 (by decide) (fun c_2 => ?_) (fun c_2 => ?_)
      · have hf := ite_t c_2 hf
        refine lv_iconst (v := 0) hx hb d_L_readGroups_76 (by decide) ?_
        cases hf
        exact hret _ _ _ _ (Or.inl rfl) hP hD hS d_L_readGroups_77
      · have hf := ite_f c_2 hf
        refine lv_lload_n hx hb d_L_readGroups_66 rfl (lv_at hl 2 rfl) ?_
        refine lv_ldc2 (v := 8) hx hb hown (htb _ tw_294) d_L_readGroups_67 ?_
        refine lv_lrem hx hb d_L_readGroups_70 (by decide) ?_
        refine lv_lconst (v := 0) hx hb d_L_readGroups_71 (by decide) ?_
        refine lc_eq (tgt := 78) hx hb d_L_readGroups_72 d_L_readGroups_73 (by decide) (fun c_3 => ?_) (fun c_3 => ?_)
        · have hf := ite_t c_3 hf
          refine lv_aload_n hx hb d_L_readGroups_78 rfl (lv_at hl 0 rfl) ?_
          refine lv_lload_n hx hb d_L_readGroups_79 rfl (lv_at hl 1 rfl) ?_
          refine lv_l2i hx hb d_L_readGroups_80 rfl ?_
          refine va_put (D := (dC, dI)) (ci := 2) (v := .int (Int64.toInt32 x1)) (ty := .int) (C := R_L) (T := T_L) (N := 6) hx hb htb in_L ty_L tyok_L nm_L hown hK hP hD hS 3 rfl rfl 2 (by decide) (htb _ tw_121) (fun _ h9 => h9) rfl (by decide +kernel) rfl rfl (Nat.le_of_ble_eq_true rfl) d_L_readGroups_81 (fun H locs hP hD hS => ?_)
          have hP : va_P (dC, dI) clAll (wC h cI cL NW bk sz wd mb (Int64.toInt32 x1) gI gN iN dr es of od pl hd tk kn li pa ins cm fd hr) H := hP
          have hD : va_D A (wC h cI cL NW bk sz wd mb (Int64.toInt32 x1) gI gN iN dr es of od pl hd tk kn li pa ins cm fd hr) := hD
          refine lv_aload_n hx hb d_L_readGroups_84 rfl (lv_at hl 0 rfl) ?_
          refine lv_lload_n hx hb d_L_readGroups_85 rfl (lv_at hl 2 rfl) ?_
          refine lv_l2i hx hb d_L_readGroups_86 rfl ?_
          refine va_put (D := (dC, dI)) (ci := 2) (v := .int (Int64.toInt32 x3)) (ty := .int) (C := R_L) (T := T_L) (N := 6) hx hb htb in_L ty_L tyok_L nm_L hown hK hP hD hS 3 rfl rfl 3 (by decide) (htb _ tw_122) (fun _ h9 => h9) rfl (by decide +kernel) rfl rfl (Nat.le_of_ble_eq_true rfl) d_L_readGroups_87 (fun H locs hP hD hS => ?_)
          have hP : va_P (dC, dI) clAll (wC h cI cL NW bk sz wd mb (Int64.toInt32 x1) (Int64.toInt32 x3) gN iN dr es of od pl hd tk kn li pa ins cm fd hr) H := hP
          have hD : va_D A (wC h cI cL NW bk sz wd mb (Int64.toInt32 x1) (Int64.toInt32 x3) gN iN dr es of od pl hd tk kn li pa ins cm fd hr) := hD
          refine lv_aload_n hx hb d_L_readGroups_90 rfl (lv_at hl 0 rfl) ?_
          refine lv_aload_n hx hb d_L_readGroups_91 rfl (lv_at hl 0 rfl) ?_
          refine va_get (D := (dC, dI)) (ci := 2) (v := .ref (h 1)) (C := R_L) (T := T_L) (N := 6) hx hb htb in_L hown hK hP 3 rfl rfl 0 (by decide) (htb _ tw_119) (fun _ h9 => h9) rfl d_L_readGroups_92 ?_
          obtain ⟨r_4, hc_5, hf⟩ := bd1_s hf
          refine ucVi (As := []) (rest := [.ref (h 3)]) ⟨hx, hb, hml, hown, htb⟩ hK hP hD hS hA (fun hs => c_D_blocks hc_5) (cwV 0 htb (gV tw_296 tw_297 tw_298 tw_69 tw_299) rfl rfl rfl (by decide +kernel) ⟨Nat.le_of_ble_eq_true rfl, Nat.le_of_ble_eq_true rfl⟩) 1 0 rfl rfl rfl rfl rfl hl.1 (Nat.le_of_ble_eq_true rfl) d_L_readGroups_95 ⟨Nat.zero_le _, Nat.zero_le _⟩ (fun H locs hP hD hS => ?_)
          refine lv_iconst (v := 1) hx hb d_L_readGroups_98 (by decide) ?_
          refine lv_isub hx hb d_L_readGroups_99 ?_
          refine lv_aload_n hx hb d_L_readGroups_100 rfl (lv_at hl 0 rfl) ?_
          refine va_get (D := (dC, dI)) (ci := 2) (v := .int (Int64.toInt32 x1)) (C := R_L) (T := T_L) (N := 6) hx hb htb in_L hown hK hP 3 rfl rfl 2 (by decide) (htb _ tw_121) (fun _ h9 => h9) rfl d_L_readGroups_101 ?_
          refine lv_iadd hx hb d_L_readGroups_104 ?_
          refine lv_iconst (v := 1) hx hb d_L_readGroups_105 (by decide) ?_
          refine lv_isub hx hb d_L_readGroups_106 ?_
          refine lv_aload_n hx hb d_L_readGroups_107 rfl (lv_at hl 0 rfl) ?_
          refine va_get (D := (dC, dI)) (ci := 2) (v := .int (Int64.toInt32 x1)) (C := R_L) (T := T_L) (N := 6) hx hb htb in_L hown hK hP 3 rfl rfl 2 (by decide) (htb _ tw_121) (fun _ h9 => h9) rfl d_L_readGroups_108 ?_
          obtain ⟨c_6, hf⟩ := gd_s hf
          refine lv_idiv hx hb d_L_readGroups_111 c_6 ?_
          refine va_put (D := (dC, dI)) (ci := 2) (v := .int ((((r_4 - ((1 : Int32))) + (Int64.toInt32 x1)) - ((1 : Int32))) / (Int64.toInt32 x1))) (ty := .int) (C := R_L) (T := T_L) (N := 6) hx hb htb in_L ty_L tyok_L nm_L hown hK hP hD hS 3 rfl rfl 4 (by decide) (htb _ tw_123) (fun _ h9 => h9) rfl (by decide +kernel) rfl rfl (Nat.le_of_ble_eq_true rfl) d_L_readGroups_112 (fun H locs hP hD hS => ?_)
          have hP : va_P (dC, dI) clAll (wC h cI cL NW bk sz wd mb (Int64.toInt32 x1) (Int64.toInt32 x3) ((((r_4 - ((1 : Int32))) + (Int64.toInt32 x1)) - ((1 : Int32))) / (Int64.toInt32 x1)) iN dr es of od pl hd tk kn li pa ins cm fd hr) H := hP
          have hD : va_D A (wC h cI cL NW bk sz wd mb (Int64.toInt32 x1) (Int64.toInt32 x3) ((((r_4 - ((1 : Int32))) + (Int64.toInt32 x1)) - ((1 : Int32))) / (Int64.toInt32 x1)) iN dr es of od pl hd tk kn li pa ins cm fd hr) := hD
          refine lv_aload_n hx hb d_L_readGroups_115 rfl (lv_at hl 0 rfl) ?_
          refine lv_aload_n hx hb d_L_readGroups_116 rfl (lv_at hl 0 rfl) ?_
          refine va_get (D := (dC, dI)) (ci := 2) (v := .int ((((r_4 - ((1 : Int32))) + (Int64.toInt32 x1)) - ((1 : Int32))) / (Int64.toInt32 x1))) (C := R_L) (T := T_L) (N := 6) hx hb htb in_L hown hK hP 3 rfl rfl 4 (by decide) (htb _ tw_123) (fun _ h9 => h9) rfl d_L_readGroups_117 ?_
          refine lv_aload_n hx hb d_L_readGroups_120 rfl (lv_at hl 0 rfl) ?_
          refine va_get (D := (dC, dI)) (ci := 2) (v := .int (Int64.toInt32 x3)) (C := R_L) (T := T_L) (N := 6) hx hb htb in_L hown hK hP 3 rfl rfl 3 (by decide) (htb _ tw_122) (fun _ h9 => h9) rfl d_L_readGroups_121 ?_
          refine lv_imul hx hb d_L_readGroups_124 ?_
          refine va_put (D := (dC, dI)) (ci := 2) (v := .int (((((r_4 - ((1 : Int32))) + (Int64.toInt32 x1)) - ((1 : Int32))) / (Int64.toInt32 x1)) * (Int64.toInt32 x3))) (ty := .int) (C := R_L) (T := T_L) (N := 6) hx hb htb in_L ty_L tyok_L nm_L hown hK hP hD hS 3 rfl rfl 5 (by decide) (htb _ tw_124) (fun _ h9 => h9) rfl (by decide +kernel) rfl rfl (Nat.le_of_ble_eq_true rfl) d_L_readGroups_125 (fun H locs hP hD hS => ?_)
          have hP : va_P (dC, dI) clAll (wC h cI cL NW bk sz wd mb (Int64.toInt32 x1) (Int64.toInt32 x3) ((((r_4 - ((1 : Int32))) + (Int64.toInt32 x1)) - ((1 : Int32))) / (Int64.toInt32 x1)) (((((r_4 - ((1 : Int32))) + (Int64.toInt32 x1)) - ((1 : Int32))) / (Int64.toInt32 x1)) * (Int64.toInt32 x3)) dr es of od pl hd tk kn li pa ins cm fd hr) H := hP
          have hD : va_D A (wC h cI cL NW bk sz wd mb (Int64.toInt32 x1) (Int64.toInt32 x3) ((((r_4 - ((1 : Int32))) + (Int64.toInt32 x1)) - ((1 : Int32))) / (Int64.toInt32 x1)) (((((r_4 - ((1 : Int32))) + (Int64.toInt32 x1)) - ((1 : Int32))) / (Int64.toInt32 x1)) * (Int64.toInt32 x3)) dr es of od pl hd tk kn li pa ins cm fd hr) := hD
          refine lv_iconst (v := 1) hx hb d_L_readGroups_128 (by decide) ?_
          cases hf
          exact hret _ _ _ _ (Or.inr rfl) hP hD hS d_L_readGroups_129
        · have hf := ite_f c_3 hf
          refine lv_iconst (v := 0) hx hb d_L_readGroups_76 (by decide) ?_
          cases hf
          exact hret _ _ _ _ (Or.inl rfl) hP hD hS d_L_readGroups_77
  unfold f_L_readGroups at hf
  refine lv_aload_n hx hb d_L_readGroups_0 rfl (lv_at hl 0 rfl) ?_
  refine va_get (D := (dC, dI)) (ci := 2) (v := .ref (h 1)) (C := R_L) (T := T_L) (N := 6) hx hb htb in_L hown hK hP 3 rfl rfl 0 (by decide) (htb _ tw_119) (fun _ h9 => h9) rfl d_L_readGroups_1 ?_
  refine lv_ldc2 (v := 1056) hx hb hown (htb _ tw_288) d_L_readGroups_4 ?_
  refine lv_iconst (v := 4) hx hb d_L_readGroups_7 (by decide) ?_
  obtain ⟨r_1, hc_2, hf⟩ := bd1_s hf
  refine ucVl (As := [.long ((1056 : Int64)), .int ((4 : Int32))]) (rest := []) ⟨hx, hb, hml, hown, htb⟩ hK hP hD hS hA (fun hs => c_D_number hc_2) (cwV 2 htb (gV tw_289 tw_264 tw_265 tw_69 tw_266) rfl rfl rfl (by decide +kernel) ⟨Nat.le_of_ble_eq_true rfl, Nat.le_of_ble_eq_true rfl⟩) 1 0 rfl rfl rfl rfl rfl hl.1 (Nat.le_of_ble_eq_true rfl) d_L_readGroups_8 ⟨Nat.zero_le _, Nat.zero_le _⟩ (fun H locs hP hD hS => ?_)
  refine lv_lstore_n (lv' := [(1, .long r_1), (0, .ref (h 3))]) hx hb d_L_readGroups_11 rfl hl (by decide) rfl (fun ls hl => ?_)
  refine lv_aload_n hx hb d_L_readGroups_12 rfl (lv_at hl 1 rfl) ?_
  refine va_get (D := (dC, dI)) (ci := 2) (v := .ref (h 1)) (C := R_L) (T := T_L) (N := 6) hx hb htb in_L hown hK hP 3 rfl rfl 0 (by decide) (htb _ tw_119) (fun _ h9 => h9) rfl d_L_readGroups_13 ?_
  refine lv_ldc2 (v := 1064) hx hb hown (htb _ tw_290) d_L_readGroups_16 ?_
  refine lv_iconst (v := 4) hx hb d_L_readGroups_19 (by decide) ?_
  obtain ⟨r_3, hc_4, hf⟩ := bd1_s hf
  refine ucVl (As := [.long ((1064 : Int64)), .int ((4 : Int32))]) (rest := []) ⟨hx, hb, hml, hown, htb⟩ hK hP hD hS hA (fun hs => c_D_number hc_4) (cwV 2 htb (gV tw_289 tw_264 tw_265 tw_69 tw_266) rfl rfl rfl (by decide +kernel) ⟨Nat.le_of_ble_eq_true rfl, Nat.le_of_ble_eq_true rfl⟩) 1 0 rfl rfl rfl rfl rfl hl.1 (Nat.le_of_ble_eq_true rfl) d_L_readGroups_20 ⟨Nat.zero_le _, Nat.zero_le _⟩ (fun H locs hP hD hS => ?_)
  refine lv_lstore_n (lv' := [(3, .long r_3), (1, .long r_1), (0, .ref (h 3))]) hx hb d_L_readGroups_23 rfl hl (by decide) rfl (fun ls hl => ?_)
  refine lv_lload_n hx hb d_L_readGroups_24 rfl (lv_at hl 1 rfl) ?_
  refine lv_ldc2 (v := 64) hx hb hown (htb _ tw_291) d_L_readGroups_25 ?_
  refine lc_eq (tgt := 50) hx hb d_L_readGroups_28 d_L_readGroups_29 (by decide) (fun c_5 => ?_) (fun c_5 => ?_)
  · have hf := ite_t c_5 hf
    exact hj_50 gB gI gN iN r_1 r_3 _ _ _ hf hP hD hS (lv_sub hl [2, 1, 0] rfl)
  · have hf := ite_f c_5 hf
    refine lv_lload_n hx hb d_L_readGroups_32 rfl (lv_at hl 1 rfl) ?_
    refine lv_ldc2 (v := 128) hx hb hown (htb _ tw_292) d_L_readGroups_33 ?_
    refine lc_eq (tgt := 50) hx hb d_L_readGroups_36 d_L_readGroups_37 (by decide) (fun c_6 => ?_) (fun c_6 => ?_)
    · have hf := ite_t c_6 hf
      exact hj_50 gB gI gN iN r_1 r_3 _ _ _ hf hP hD hS (lv_sub hl [2, 1, 0] rfl)
    · have hf := ite_f c_6 hf
      refine lv_lload_n hx hb d_L_readGroups_40 rfl (lv_at hl 1 rfl) ?_
      refine lv_ldc2 (v := 256) hx hb hown (htb _ tw_293) d_L_readGroups_41 ?_
      refine lc_eq (tgt := 50) hx hb d_L_readGroups_44 d_L_readGroups_45 (by decide) (fun c_7 => ?_) (fun c_7 => ?_)
      · have hf := ite_t c_7 hf
        exact hj_50 gB gI gN iN r_1 r_3 _ _ _ hf hP hD hS (lv_sub hl [2, 1, 0] rfl)
      · have hf := ite_f c_7 hf
        refine lv_iconst (v := 0) hx hb d_L_readGroups_48 (by decide) ?_
        cases hf
        exact hret _ _ _ _ (Or.inl rfl) hP hD hS d_L_readGroups_49
set_option maxHeartbeats 4000000 in
set_option maxRecDepth 100000 in
theorem c_L_inodes {l : Launch} {dC : Nat → ClassId} {dI : Nat → Nat → Nat} {h : Nat → Nat} {cI : ClassId} {cL : ClassId} {NW : Nat} {bk : Int32} {sz : Int32} {wd : Nat → Int64} {mb : Nat → Int32} {gB : Int32} {gI : Int32} {gN : Int32} {iN : Int32} {dr : Int32} {es : Int64} {of : Int64} {od : Int32} {pl : Int64} {hd : Int64} {tk : Nat → Int32} {kn : Nat → Int32} {li : Nat → Int32} {pa : Nat → Int32} {ins : Nat → Int32} {cm : Int32} {fd : Int32} {hr : Int32} {hs : Nat} {r : Int32} (hf : f_L_inodes NW iN = some (r)) : Met l y_L_inodes ws_L_inodes { frames := 0, cells := 0, slots := 0, locals := 0 } (PcU (dC, dI) clAll [(cI, .int), (cL, .long)] (wC h cI cL NW bk sz wd mb gB gI gN iN dr es of od pl hd tk kn li pa ins cm fd hr) hs [.ref (h 3)]) (QUi (dC, dI) clAll [(cI, .int), (cL, .long)] (wC h cI cL NW bk sz wd mb gB gI gN iN dr es of od pl hd tk kn li pa ins cm fd hr) (wC h cI cL NW bk sz wd mb gB gI gN iN dr es of od pl hd tk kn li pa ins cm fd hr) hs r) 0 0 (va_A (wC h cI cL NW bk sz wd mb gB gI gN iN dr es of od pl hd tk kn li pa ins cm fd hr) hs) := by
  refine mUi (cc := b_L_inodes) (maxL := 1) (by decide) rfl (Nat.le_of_ble_eq_true rfl) ?_
  intro p e s m args below meth c Q hx hb hml hts hown A hA hK hP hD hS hret ls hl
  have htb : ∀ w ∈ TB, w.before args s = true := fun w h => hts w (List.mem_cons_of_mem _ h)
  have hl : lv_has ls 1 [(0, .ref (h 3))] := hl
  unfold f_L_inodes at hf
  refine lv_aload_n hx hb d_L_inodes_0 rfl (lv_at hl 0 rfl) ?_
  refine va_get (D := (dC, dI)) (ci := 2) (v := .int iN) (C := R_L) (T := T_L) (N := 6) hx hb htb in_L hown hK hP 3 rfl rfl 5 (by decide) (htb _ tw_124) (fun _ h9 => h9) rfl d_L_inodes_1 ?_
  cases hf
  exact hret _ _ _ _ hP hD hS d_L_inodes_4
set_option maxHeartbeats 4000000 in
set_option maxRecDepth 100000 in
theorem c_L_groupBlocks {l : Launch} {dC : Nat → ClassId} {dI : Nat → Nat → Nat} {h : Nat → Nat} {cI : ClassId} {cL : ClassId} {NW : Nat} {bk : Int32} {sz : Int32} {wd : Nat → Int64} {mb : Nat → Int32} {gB : Int32} {gI : Int32} {gN : Int32} {iN : Int32} {dr : Int32} {es : Int64} {of : Int64} {od : Int32} {pl : Int64} {hd : Int64} {tk : Nat → Int32} {kn : Nat → Int32} {li : Nat → Int32} {pa : Nat → Int32} {ins : Nat → Int32} {cm : Int32} {fd : Int32} {hr : Int32} {hs : Nat} {r : Int32} (hf : f_L_groupBlocks NW gB = some (r)) : Met l y_L_groupBlocks ws_L_groupBlocks { frames := 0, cells := 0, slots := 0, locals := 0 } (PcU (dC, dI) clAll [(cI, .int), (cL, .long)] (wC h cI cL NW bk sz wd mb gB gI gN iN dr es of od pl hd tk kn li pa ins cm fd hr) hs [.ref (h 3)]) (QUi (dC, dI) clAll [(cI, .int), (cL, .long)] (wC h cI cL NW bk sz wd mb gB gI gN iN dr es of od pl hd tk kn li pa ins cm fd hr) (wC h cI cL NW bk sz wd mb gB gI gN iN dr es of od pl hd tk kn li pa ins cm fd hr) hs r) 0 0 (va_A (wC h cI cL NW bk sz wd mb gB gI gN iN dr es of od pl hd tk kn li pa ins cm fd hr) hs) := by
  refine mUi (cc := b_L_groupBlocks) (maxL := 1) (by decide) rfl (Nat.le_of_ble_eq_true rfl) ?_
  intro p e s m args below meth c Q hx hb hml hts hown A hA hK hP hD hS hret ls hl
  have htb : ∀ w ∈ TB, w.before args s = true := fun w h => hts w (List.mem_cons_of_mem _ h)
  have hl : lv_has ls 1 [(0, .ref (h 3))] := hl
  unfold f_L_groupBlocks at hf
  refine lv_aload_n hx hb d_L_groupBlocks_0 rfl (lv_at hl 0 rfl) ?_
  refine va_get (D := (dC, dI)) (ci := 2) (v := .int gB) (C := R_L) (T := T_L) (N := 6) hx hb htb in_L hown hK hP 3 rfl rfl 2 (by decide) (htb _ tw_121) (fun _ h9 => h9) rfl d_L_groupBlocks_1 ?_
  cases hf
  exact hret _ _ _ _ hP hD hS d_L_groupBlocks_4
set_option maxHeartbeats 4000000 in
set_option maxRecDepth 100000 in
theorem c_L_groups {l : Launch} {dC : Nat → ClassId} {dI : Nat → Nat → Nat} {h : Nat → Nat} {cI : ClassId} {cL : ClassId} {NW : Nat} {bk : Int32} {sz : Int32} {wd : Nat → Int64} {mb : Nat → Int32} {gB : Int32} {gI : Int32} {gN : Int32} {iN : Int32} {dr : Int32} {es : Int64} {of : Int64} {od : Int32} {pl : Int64} {hd : Int64} {tk : Nat → Int32} {kn : Nat → Int32} {li : Nat → Int32} {pa : Nat → Int32} {ins : Nat → Int32} {cm : Int32} {fd : Int32} {hr : Int32} {hs : Nat} {r : Int32} (hf : f_L_groups NW gN = some (r)) : Met l y_L_groups ws_L_groups { frames := 0, cells := 0, slots := 0, locals := 0 } (PcU (dC, dI) clAll [(cI, .int), (cL, .long)] (wC h cI cL NW bk sz wd mb gB gI gN iN dr es of od pl hd tk kn li pa ins cm fd hr) hs [.ref (h 3)]) (QUi (dC, dI) clAll [(cI, .int), (cL, .long)] (wC h cI cL NW bk sz wd mb gB gI gN iN dr es of od pl hd tk kn li pa ins cm fd hr) (wC h cI cL NW bk sz wd mb gB gI gN iN dr es of od pl hd tk kn li pa ins cm fd hr) hs r) 0 0 (va_A (wC h cI cL NW bk sz wd mb gB gI gN iN dr es of od pl hd tk kn li pa ins cm fd hr) hs) := by
  refine mUi (cc := b_L_groups) (maxL := 1) (by decide) rfl (Nat.le_of_ble_eq_true rfl) ?_
  intro p e s m args below meth c Q hx hb hml hts hown A hA hK hP hD hS hret ls hl
  have htb : ∀ w ∈ TB, w.before args s = true := fun w h => hts w (List.mem_cons_of_mem _ h)
  have hl : lv_has ls 1 [(0, .ref (h 3))] := hl
  unfold f_L_groups at hf
  refine lv_aload_n hx hb d_L_groups_0 rfl (lv_at hl 0 rfl) ?_
  refine va_get (D := (dC, dI)) (ci := 2) (v := .int gN) (C := R_L) (T := T_L) (N := 6) hx hb htb in_L hown hK hP 3 rfl rfl 4 (by decide) (htb _ tw_123) (fun _ h9 => h9) rfl d_L_groups_1 ?_
  cases hf
  exact hret _ _ _ _ hP hD hS d_L_groups_4
set_option maxHeartbeats 4000000 in
set_option maxRecDepth 100000 in
theorem c_L_firstBlock {l : Launch} {dC : Nat → ClassId} {dI : Nat → Nat → Nat} {h : Nat → Nat} {cI : ClassId} {cL : ClassId} {NW : Nat} {bk : Int32} {sz : Int32} {wd : Nat → Int64} {mb : Nat → Int32} {gB : Int32} {gI : Int32} {gN : Int32} {iN : Int32} {dr : Int32} {es : Int64} {of : Int64} {od : Int32} {pl : Int64} {hd : Int64} {tk : Nat → Int32} {kn : Nat → Int32} {li : Nat → Int32} {pa : Nat → Int32} {ins : Nat → Int32} {cm : Int32} {fd : Int32} {hr : Int32} {hs : Nat} {a1 : Int32} {r : Int32} (hf : f_L_firstBlock NW gB a1 = some (r)) : Met l y_L_firstBlock ws_L_firstBlock { frames := 0, cells := 0, slots := 0, locals := 0 } (PcU (dC, dI) clAll [(cI, .int), (cL, .long)] (wC h cI cL NW bk sz wd mb gB gI gN iN dr es of od pl hd tk kn li pa ins cm fd hr) hs [.ref (h 3), .int a1]) (QUi (dC, dI) clAll [(cI, .int), (cL, .long)] (wC h cI cL NW bk sz wd mb gB gI gN iN dr es of od pl hd tk kn li pa ins cm fd hr) (wC h cI cL NW bk sz wd mb gB gI gN iN dr es of od pl hd tk kn li pa ins cm fd hr) hs r) 0 0 (va_A (wC h cI cL NW bk sz wd mb gB gI gN iN dr es of od pl hd tk kn li pa ins cm fd hr) hs) := by
  refine mUi (cc := b_L_firstBlock) (maxL := 2) (by decide) rfl (Nat.le_of_ble_eq_true rfl) ?_
  intro p e s m args below meth c Q hx hb hml hts hown A hA hK hP hD hS hret ls hl
  have htb : ∀ w ∈ TB, w.before args s = true := fun w h => hts w (List.mem_cons_of_mem _ h)
  have hl : lv_has ls 2 [(0, .ref (h 3)), (1, .int a1)] := hl
  unfold f_L_firstBlock at hf
  refine lv_iconst (v := 1) hx hb d_L_firstBlock_0 (by decide) ?_
  refine lv_iload_n hx hb d_L_firstBlock_1 rfl (lv_at hl 1 rfl) ?_
  refine lv_aload_n hx hb d_L_firstBlock_2 rfl (lv_at hl 0 rfl) ?_
  refine va_get (D := (dC, dI)) (ci := 2) (v := .int gB) (C := R_L) (T := T_L) (N := 6) hx hb htb in_L hown hK hP 3 rfl rfl 2 (by decide) (htb _ tw_121) (fun _ h9 => h9) rfl d_L_firstBlock_3 ?_
  refine lv_imul hx hb d_L_firstBlock_6 ?_
  refine lv_iadd hx hb d_L_firstBlock_7 ?_
  cases hf
  exact hret _ _ _ _ hP hD hS d_L_firstBlock_8
set_option maxHeartbeats 4000000 in
set_option maxRecDepth 100000 in
theorem c_L_blocksOf {l : Launch} {dC : Nat → ClassId} {dI : Nat → Nat → Nat} {h : Nat → Nat} {cI : ClassId} {cL : ClassId} {NW : Nat} {bk : Int32} {sz : Int32} {wd : Nat → Int64} {mb : Nat → Int32} {gB : Int32} {gI : Int32} {gN : Int32} {iN : Int32} {dr : Int32} {es : Int64} {of : Int64} {od : Int32} {pl : Int64} {hd : Int64} {tk : Nat → Int32} {kn : Nat → Int32} {li : Nat → Int32} {pa : Nat → Int32} {ins : Nat → Int32} {cm : Int32} {fd : Int32} {hr : Int32} {hs : Nat} {a1 : Int32} {r : Int32} (hf : f_L_blocksOf NW bk gB a1 = some (r)) : Met l y_L_blocksOf ws_L_blocksOf { frames := 1, cells := 0, slots := 0, locals := 21 } (PcU (dC, dI) clAll [(cI, .int), (cL, .long)] (wC h cI cL NW bk sz wd mb gB gI gN iN dr es of od pl hd tk kn li pa ins cm fd hr) hs [.ref (h 3), .int a1]) (QUi (dC, dI) clAll [(cI, .int), (cL, .long)] (wC h cI cL NW bk sz wd mb gB gI gN iN dr es of od pl hd tk kn li pa ins cm fd hr) (wC h cI cL NW bk sz wd mb gB gI gN iN dr es of od pl hd tk kn li pa ins cm fd hr) hs r) 0 0 (va_A (wC h cI cL NW bk sz wd mb gB gI gN iN dr es of od pl hd tk kn li pa ins cm fd hr) hs) := by
  refine mUi (cc := b_L_blocksOf) (maxL := 2) (by decide) rfl (Nat.le_of_ble_eq_true rfl) ?_
  intro p e s m args below meth c Q hx hb hml hts hown A hA hK hP hD hS hret ls hl
  have htb : ∀ w ∈ TB, w.before args s = true := fun w h => hts w (List.mem_cons_of_mem _ h)
  have hl : lv_has ls 2 [(0, .ref (h 3)), (1, .int a1)] := hl
  unfold f_L_blocksOf at hf
  refine lv_aload_n hx hb d_L_blocksOf_0 rfl (lv_at hl 0 rfl) ?_
  refine va_get (D := (dC, dI)) (ci := 2) (v := .int gB) (C := R_L) (T := T_L) (N := 6) hx hb htb in_L hown hK hP 3 rfl rfl 2 (by decide) (htb _ tw_121) (fun _ h9 => h9) rfl d_L_blocksOf_1 ?_
  refine lv_aload_n hx hb d_L_blocksOf_4 rfl (lv_at hl 0 rfl) ?_
  refine va_get (D := (dC, dI)) (ci := 2) (v := .ref (h 1)) (C := R_L) (T := T_L) (N := 6) hx hb htb in_L hown hK hP 3 rfl rfl 0 (by decide) (htb _ tw_119) (fun _ h9 => h9) rfl d_L_blocksOf_5 ?_
  obtain ⟨r_1, hc_2, hf⟩ := bd1_s hf
  refine ucVi (As := []) (rest := [.int gB]) ⟨hx, hb, hml, hown, htb⟩ hK hP hD hS hA (fun hs => c_D_blocks hc_2) (cwV 0 htb (gV tw_296 tw_297 tw_298 tw_69 tw_299) rfl rfl rfl (by decide +kernel) ⟨Nat.le_of_ble_eq_true rfl, Nat.le_of_ble_eq_true rfl⟩) 1 0 rfl rfl rfl rfl rfl hl.1 (Nat.le_of_ble_eq_true rfl) d_L_blocksOf_8 ⟨Nat.zero_le _, Nat.zero_le _⟩ (fun H locs hP hD hS => ?_)
  refine lv_aload_n hx hb d_L_blocksOf_11 rfl (lv_at hl 0 rfl) ?_
  refine lv_iload_n hx hb d_L_blocksOf_12 rfl (lv_at hl 1 rfl) ?_
  obtain ⟨r_3, hc_4, hf⟩ := bd1_s hf
  refine ucVi (As := [.int a1]) (rest := [.int r_1, .int gB]) ⟨hx, hb, hml, hown, htb⟩ hK hP hD hS hA (fun hs => c_L_firstBlock hc_4) (cwV 1 htb (gV tw_330 tw_331 tw_332 tw_71 tw_333) rfl rfl rfl (by decide +kernel) ⟨Nat.le_of_ble_eq_true rfl, Nat.le_of_ble_eq_true rfl⟩) 3 2 rfl rfl rfl rfl rfl hl.1 (Nat.le_of_ble_eq_true rfl) d_L_blocksOf_13 ⟨Nat.zero_le _, Nat.zero_le _⟩ (fun H locs hP hD hS => ?_)
  refine lv_isub hx hb d_L_blocksOf_16 ?_
  refine va_mmin hx hb (hml.trans hl.1.symm) hown (htb _ tw_334) (htb _ tw_97) (htb _ tw_70) (htb _ tw_98) (Nat.le_of_ble_eq_true rfl) (Nat.le_of_ble_eq_true rfl) (Nat.zero_le _) (Nat.zero_le _) d_L_blocksOf_17 ?_
  cases hf
  exact hret _ _ _ _ hP hD hS d_L_blocksOf_20
set_option maxHeartbeats 4000000 in
set_option maxRecDepth 100000 in
theorem c_L_groupInodes {l : Launch} {dC : Nat → ClassId} {dI : Nat → Nat → Nat} {h : Nat → Nat} {cI : ClassId} {cL : ClassId} {NW : Nat} {bk : Int32} {sz : Int32} {wd : Nat → Int64} {mb : Nat → Int32} {gB : Int32} {gI : Int32} {gN : Int32} {iN : Int32} {dr : Int32} {es : Int64} {of : Int64} {od : Int32} {pl : Int64} {hd : Int64} {tk : Nat → Int32} {kn : Nat → Int32} {li : Nat → Int32} {pa : Nat → Int32} {ins : Nat → Int32} {cm : Int32} {fd : Int32} {hr : Int32} {hs : Nat} {r : Int32} (hf : f_L_groupInodes NW gI = some (r)) : Met l y_L_groupInodes ws_L_groupInodes { frames := 0, cells := 0, slots := 0, locals := 0 } (PcU (dC, dI) clAll [(cI, .int), (cL, .long)] (wC h cI cL NW bk sz wd mb gB gI gN iN dr es of od pl hd tk kn li pa ins cm fd hr) hs [.ref (h 3)]) (QUi (dC, dI) clAll [(cI, .int), (cL, .long)] (wC h cI cL NW bk sz wd mb gB gI gN iN dr es of od pl hd tk kn li pa ins cm fd hr) (wC h cI cL NW bk sz wd mb gB gI gN iN dr es of od pl hd tk kn li pa ins cm fd hr) hs r) 0 0 (va_A (wC h cI cL NW bk sz wd mb gB gI gN iN dr es of od pl hd tk kn li pa ins cm fd hr) hs) := by
  refine mUi (cc := b_L_groupInodes) (maxL := 1) (by decide) rfl (Nat.le_of_ble_eq_true rfl) ?_
  intro p e s m args below meth c Q hx hb hml hts hown A hA hK hP hD hS hret ls hl
  have htb : ∀ w ∈ TB, w.before args s = true := fun w h => hts w (List.mem_cons_of_mem _ h)
  have hl : lv_has ls 1 [(0, .ref (h 3))] := hl
  unfold f_L_groupInodes at hf
  refine lv_aload_n hx hb d_L_groupInodes_0 rfl (lv_at hl 0 rfl) ?_
  refine va_get (D := (dC, dI)) (ci := 2) (v := .int gI) (C := R_L) (T := T_L) (N := 6) hx hb htb in_L hown hK hP 3 rfl rfl 3 (by decide) (htb _ tw_122) (fun _ h9 => h9) rfl d_L_groupInodes_1 ?_
  cases hf
  exact hret _ _ _ _ hP hD hS d_L_groupInodes_4
set_option maxHeartbeats 4000000 in
set_option maxRecDepth 100000 in
theorem c_L_described {l : Launch} {dC : Nat → ClassId} {dI : Nat → Nat → Nat} {h : Nat → Nat} {cI : ClassId} {cL : ClassId} {NW : Nat} {bk : Int32} {sz : Int32} {wd : Nat → Int64} {mb : Nat → Int32} {gB : Int32} {gI : Int32} {gN : Int32} {iN : Int32} {dr : Int32} {es : Int64} {of : Int64} {od : Int32} {pl : Int64} {hd : Int64} {tk : Nat → Int32} {kn : Nat → Int32} {li : Nat → Int32} {pa : Nat → Int32} {ins : Nat → Int32} {cm : Int32} {fd : Int32} {hr : Int32} {hs : Nat} {a1 : Int32} {a2 : Int32} {a3 : Int32} {r : Int64} (hf : f_L_described NW sz wd a1 a2 a3 = some (r)) : Met l y_L_described ws_L_described { frames := 1, cells := 0, slots := 0, locals := 27 } (PcU (dC, dI) clAll [(cI, .int), (cL, .long)] (wC h cI cL NW bk sz wd mb gB gI gN iN dr es of od pl hd tk kn li pa ins cm fd hr) hs [.ref (h 3), .int a1, .int a2, .int a3]) (QUl (dC, dI) clAll [(cI, .int), (cL, .long)] (wC h cI cL NW bk sz wd mb gB gI gN iN dr es of od pl hd tk kn li pa ins cm fd hr) (wC h cI cL NW bk sz wd mb gB gI gN iN dr es of od pl hd tk kn li pa ins cm fd hr) hs r) 0 0 (va_A (wC h cI cL NW bk sz wd mb gB gI gN iN dr es of od pl hd tk kn li pa ins cm fd hr) hs) := by
  refine mUl (cc := b_L_described) (maxL := 4) (by decide) rfl (Nat.le_of_ble_eq_true rfl) ?_
  intro p e s m args below meth c Q hx hb hml hts hown A hA hK hP hD hS hret ls hl
  have htb : ∀ w ∈ TB, w.before args s = true := fun w h => hts w (List.mem_cons_of_mem _ h)
  have hl : lv_has ls 4 [(0, .ref (h 3)), (1, .int a1), (2, .int a2), (3, .int a3)] := hl
  unfold f_L_described at hf
  refine lv_aload_n hx hb d_L_described_0 rfl (lv_at hl 0 rfl) ?_
  refine va_get (D := (dC, dI)) (ci := 2) (v := .ref (h 1)) (C := R_L) (T := T_L) (N := 6) hx hb htb in_L hown hK hP 3 rfl rfl 0 (by decide) (htb _ tw_119) (fun _ h9 => h9) rfl d_L_described_1 ?_
  refine lv_sipush (v := 2048) hx hb d_L_described_4 (by decide) ?_
  refine lv_bipush (v := 32) hx hb d_L_described_7 (by decide) ?_
  refine lv_iload_n hx hb d_L_described_9 rfl (lv_at hl 1 rfl) ?_
  refine lv_imul hx hb d_L_described_10 ?_
  refine lv_iadd hx hb d_L_described_11 ?_
  refine lv_iload_n hx hb d_L_described_12 rfl (lv_at hl 2 rfl) ?_
  refine lv_iadd hx hb d_L_described_13 ?_
  refine lv_i2l hx hb d_L_described_14 rfl ?_
  refine lv_iload_n hx hb d_L_described_15 rfl (lv_at hl 3 rfl) ?_
  obtain ⟨r_1, hc_2, hf⟩ := bd1_s hf
  refine ucVl (As := [.long (Int32.toInt64 ((((2048 : Int32)) + (((32 : Int32)) * a1)) + a2)), .int a3]) (rest := []) ⟨hx, hb, hml, hown, htb⟩ hK hP hD hS hA (fun hs => c_D_number hc_2) (cwV 2 htb (gV tw_289 tw_264 tw_265 tw_69 tw_266) rfl rfl rfl (by decide +kernel) ⟨Nat.le_of_ble_eq_true rfl, Nat.le_of_ble_eq_true rfl⟩) 1 0 rfl rfl rfl rfl rfl hl.1 (Nat.le_of_ble_eq_true rfl) d_L_described_16 ⟨Nat.zero_le _, Nat.zero_le _⟩ (fun H locs hP hD hS => ?_)
  cases hf
  exact hret _ _ _ _ hP hD hS d_L_described_19
set_option maxHeartbeats 4000000 in
set_option maxRecDepth 100000 in
theorem c_L_setMap {l : Launch} {dC : Nat → ClassId} {dI : Nat → Nat → Nat} {h : Nat → Nat} {cI : ClassId} {cL : ClassId} {NW : Nat} {bk : Int32} {sz : Int32} {wd : Nat → Int64} {mb : Nat → Int32} {gB : Int32} {gI : Int32} {gN : Int32} {iN : Int32} {dr : Int32} {es : Int64} {of : Int64} {od : Int32} {pl : Int64} {hd : Int64} {tk : Nat → Int32} {kn : Nat → Int32} {li : Nat → Int32} {pa : Nat → Int32} {ins : Nat → Int32} {cm : Int32} {fd : Int32} {hr : Int32} {hs : Nat} {a1 : Int32} {a2 : Int32} {mb' : Nat → Int32} (hf : f_L_setMap NW mb a1 a2 = some (mb')) : Met l y_L_setMap ws_L_setMap { frames := 0, cells := 0, slots := 0, locals := 0 } (PcU (dC, dI) clAll [(cI, .int), (cL, .long)] (wC h cI cL NW bk sz wd mb gB gI gN iN dr es of od pl hd tk kn li pa ins cm fd hr) hs [.ref (h 3), .int a1, .int a2]) (QUv (dC, dI) clAll [(cI, .int), (cL, .long)] (wC h cI cL NW bk sz wd mb gB gI gN iN dr es of od pl hd tk kn li pa ins cm fd hr) (wC h cI cL NW bk sz wd mb' gB gI gN iN dr es of od pl hd tk kn li pa ins cm fd hr) hs) 0 0 (va_A (wC h cI cL NW bk sz wd mb gB gI gN iN dr es of od pl hd tk kn li pa ins cm fd hr) hs) := by
  refine mUv (cc := b_L_setMap) (maxL := 3) (by decide) rfl (Nat.le_of_ble_eq_true rfl) ?_
  intro p e s m args below meth c Q hx hb hml hts hown A hA hK hP hD hS hret ls hl
  have htb : ∀ w ∈ TB, w.before args s = true := fun w h => hts w (List.mem_cons_of_mem _ h)
  have hl : lv_has ls 3 [(0, .ref (h 3)), (1, .int a1), (2, .int a2)] := hl
  unfold f_L_setMap at hf
  refine lv_iload_n hx hb d_L_setMap_0 rfl (lv_at hl 1 rfl) ?_
  refine lv_if_lt (tgt := 17) hx hb d_L_setMap_1 (by decide) (fun c_1 => ?_) (fun c_1 => ?_)
  · have hf := ite_t c_1 hf
    cases hf
    exact hret _ _ _ _ hP hD hS d_L_setMap_17
  · have hf := ite_f c_1 hf
    refine lv_iload_n hx hb d_L_setMap_4 rfl (lv_at hl 1 rfl) ?_
    refine lv_bipush (v := 8) hx hb d_L_setMap_5 (by decide) ?_
    refine lv_icmp_ge (tgt := 17) hx hb d_L_setMap_7 (by decide) (fun c_2 => ?_) (fun c_2 => ?_)
    · have hf := ite_t c_2 hf
      cases hf
      exact hret _ _ _ _ hP hD hS d_L_setMap_17
    · have hf := ite_f c_2 hf
      refine lv_aload_n hx hb d_L_setMap_10 rfl (lv_at hl 0 rfl) ?_
      refine va_get (D := (dC, dI)) (ci := 2) (v := .ref (h 4)) (C := R_L) (T := T_L) (N := 6) hx hb htb in_L hown hK hP 3 rfl rfl 1 (by decide) (htb _ tw_120) (fun _ h9 => h9) rfl d_L_setMap_11 ?_
      refine lv_iload_n hx hb d_L_setMap_14 rfl (lv_at hl 1 rfl) ?_
      refine lv_iload_n hx hb d_L_setMap_15 rfl (lv_at hl 2 rfl) ?_
      obtain ⟨c_3, hf⟩ := gd_s hf
      refine va_iast (i := a1) (x := a2) hx hb hK hP hD hS 4 0 rfl rfl c_3 d_L_setMap_16 (fun H locs hP hD hS => ?_)
      obtain ⟨mb_4, emb_4, hf⟩ := lt1_s hf
      have hP : va_P (dC, dI) clAll (wC h cI cL NW bk sz wd mb_4 gB gI gN iN dr es of od pl hd tk kn li pa ins cm fd hr) H := emb_4 ▸ hP
      have hD : va_D A (wC h cI cL NW bk sz wd mb_4 gB gI gN iN dr es of od pl hd tk kn li pa ins cm fd hr) := emb_4 ▸ hD
      cases hf
      exact hret _ _ _ _ hP hD hS d_L_setMap_17
set_option maxHeartbeats 4000000 in
set_option maxRecDepth 100000 in
theorem c_L_groupOf {l : Launch} {dC : Nat → ClassId} {dI : Nat → Nat → Nat} {h : Nat → Nat} {cI : ClassId} {cL : ClassId} {NW : Nat} {bk : Int32} {sz : Int32} {wd : Nat → Int64} {mb : Nat → Int32} {gB : Int32} {gI : Int32} {gN : Int32} {iN : Int32} {dr : Int32} {es : Int64} {of : Int64} {od : Int32} {pl : Int64} {hd : Int64} {tk : Nat → Int32} {kn : Nat → Int32} {li : Nat → Int32} {pa : Nat → Int32} {ins : Nat → Int32} {cm : Int32} {fd : Int32} {hr : Int32} {hs : Nat} {a1 : Int32} {r : Int32} (hf : f_L_groupOf NW gI a1 = some (r)) : Met l y_L_groupOf ws_L_groupOf { frames := 0, cells := 0, slots := 0, locals := 0 } (PcU (dC, dI) clAll [(cI, .int), (cL, .long)] (wC h cI cL NW bk sz wd mb gB gI gN iN dr es of od pl hd tk kn li pa ins cm fd hr) hs [.ref (h 3), .int a1]) (QUi (dC, dI) clAll [(cI, .int), (cL, .long)] (wC h cI cL NW bk sz wd mb gB gI gN iN dr es of od pl hd tk kn li pa ins cm fd hr) (wC h cI cL NW bk sz wd mb gB gI gN iN dr es of od pl hd tk kn li pa ins cm fd hr) hs r) 0 0 (va_A (wC h cI cL NW bk sz wd mb gB gI gN iN dr es of od pl hd tk kn li pa ins cm fd hr) hs) := by
  refine mUi (cc := b_L_groupOf) (maxL := 2) (by decide) rfl (Nat.le_of_ble_eq_true rfl) ?_
  intro p e s m args below meth c Q hx hb hml hts hown A hA hK hP hD hS hret ls hl
  have htb : ∀ w ∈ TB, w.before args s = true := fun w h => hts w (List.mem_cons_of_mem _ h)
  have hl : lv_has ls 2 [(0, .ref (h 3)), (1, .int a1)] := hl
  unfold f_L_groupOf at hf
  refine lv_iload_n hx hb d_L_groupOf_0 rfl (lv_at hl 1 rfl) ?_
  refine lv_iconst (v := 1) hx hb d_L_groupOf_1 (by decide) ?_
  refine lv_icmp_lt (tgt := 23) hx hb d_L_groupOf_2 (by decide) (fun c_1 => ?_) (fun c_1 => ?_)
  · have hf := ite_t c_1 hf
    refine lv_iconst (v := -1) hx hb d_L_groupOf_23 (by decide) ?_
    cases hf
    exact hret _ _ _ _ hP hD hS d_L_groupOf_24
  · have hf := ite_f c_1 hf
    refine lv_aload_n hx hb d_L_groupOf_5 rfl (lv_at hl 0 rfl) ?_
    refine va_get (D := (dC, dI)) (ci := 2) (v := .int gI) (C := R_L) (T := T_L) (N := 6) hx hb htb in_L hown hK hP 3 rfl rfl 3 (by decide) (htb _ tw_122) (fun _ h9 => h9) rfl d_L_groupOf_6 ?_
    refine lv_if_le (tgt := 23) hx hb d_L_groupOf_9 (by decide) (fun c_2 => ?_) (fun c_2 => ?_)
    · have hf := ite_t c_2 hf
      refine lv_iconst (v := -1) hx hb d_L_groupOf_23 (by decide) ?_
      cases hf
      exact hret _ _ _ _ hP hD hS d_L_groupOf_24
    · have hf := ite_f c_2 hf
      refine lv_iload_n hx hb d_L_groupOf_12 rfl (lv_at hl 1 rfl) ?_
      refine lv_iconst (v := 1) hx hb d_L_groupOf_13 (by decide) ?_
      refine lv_isub hx hb d_L_groupOf_14 ?_
      refine lv_aload_n hx hb d_L_groupOf_15 rfl (lv_at hl 0 rfl) ?_
      refine va_get (D := (dC, dI)) (ci := 2) (v := .int gI) (C := R_L) (T := T_L) (N := 6) hx hb htb in_L hown hK hP 3 rfl rfl 3 (by decide) (htb _ tw_122) (fun _ h9 => h9) rfl d_L_groupOf_16 ?_
      obtain ⟨c_3, hf⟩ := gd_s hf
      refine lv_idiv hx hb d_L_groupOf_19 c_3 ?_
      refine lv_goto (tgt := 24) hx hb d_L_groupOf_20 (by decide) ?_
      cases hf
      exact hret _ _ _ _ hP hD hS d_L_groupOf_24
set_option maxHeartbeats 4000000 in
set_option maxRecDepth 100000 in
theorem c_L_isUsed {l : Launch} {dC : Nat → ClassId} {dI : Nat → Nat → Nat} {h : Nat → Nat} {cI : ClassId} {cL : ClassId} {NW : Nat} {bk : Int32} {sz : Int32} {wd : Nat → Int64} {mb : Nat → Int32} {gB : Int32} {gI : Int32} {gN : Int32} {iN : Int32} {dr : Int32} {es : Int64} {of : Int64} {od : Int32} {pl : Int64} {hd : Int64} {tk : Nat → Int32} {kn : Nat → Int32} {li : Nat → Int32} {pa : Nat → Int32} {ins : Nat → Int32} {cm : Int32} {fd : Int32} {hr : Int32} {hs : Nat} {a1 : Int32} {r : Int32} (hf : f_L_isUsed NW sz wd mb gI a1 = some (r)) : Met l y_L_isUsed ws_L_isUsed { frames := 1, cells := 0, slots := 0, locals := 27 } (PcU (dC, dI) clAll [(cI, .int), (cL, .long)] (wC h cI cL NW bk sz wd mb gB gI gN iN dr es of od pl hd tk kn li pa ins cm fd hr) hs [.ref (h 3), .int a1]) (QUi (dC, dI) clAll [(cI, .int), (cL, .long)] (wC h cI cL NW bk sz wd mb gB gI gN iN dr es of od pl hd tk kn li pa ins cm fd hr) (wC h cI cL NW bk sz wd mb gB gI gN iN dr es of od pl hd tk kn li pa ins cm fd hr) hs r) 0 0 (va_A (wC h cI cL NW bk sz wd mb gB gI gN iN dr es of od pl hd tk kn li pa ins cm fd hr) hs) := by
  refine mUz (cc := b_L_isUsed) (maxL := 4) (by decide) rfl (Nat.le_of_ble_eq_true rfl) ?_
  intro p e s m args below meth c Q hx hb hml hts hown A hA hK hP hD hS hret ls hl
  have htb : ∀ w ∈ TB, w.before args s = true := fun w h => hts w (List.mem_cons_of_mem _ h)
  have hl : lv_has ls 4 [(0, .ref (h 3)), (1, .int a1)] := hl
  unfold f_L_isUsed at hf
  refine lv_aload_n hx hb d_L_isUsed_0 rfl (lv_at hl 0 rfl) ?_
  refine lv_iload_n hx hb d_L_isUsed_1 rfl (lv_at hl 1 rfl) ?_
  obtain ⟨r_1, hc_2, hf⟩ := bd1_s hf
  refine ucVi (As := [.int a1]) (rest := []) ⟨hx, hb, hml, hown, htb⟩ hK hP hD hS hA (fun hs => c_L_groupOf hc_2) (cwV 1 htb (gV tw_373 tw_374 tw_375 tw_71 tw_376) rfl rfl rfl (by decide +kernel) ⟨Nat.le_of_ble_eq_true rfl, Nat.le_of_ble_eq_true rfl⟩) 3 2 rfl rfl rfl rfl rfl hl.1 (Nat.le_of_ble_eq_true rfl) d_L_isUsed_2 ⟨Nat.zero_le _, Nat.zero_le _⟩ (fun H locs hP hD hS => ?_)
  refine lv_istore_n (lv' := [(2, .int r_1), (0, .ref (h 3)), (1, .int a1)]) hx hb d_L_isUsed_5 rfl hl (by decide) rfl (fun ls hl => ?_)
  refine lv_iload_n hx hb d_L_isUsed_6 rfl (lv_at hl 0 rfl) ?_
  refine lv_if_lt (tgt := 16) hx hb d_L_isUsed_7 (by decide) (fun c_3 => ?_) (fun c_3 => ?_)
  · have hf := ite_t c_3 hf
    refine lv_iconst (v := 0) hx hb d_L_isUsed_16 (by decide) ?_
    cases hf
    exact hret _ _ _ _ (Or.inl rfl) hP hD hS d_L_isUsed_17
  · have hf := ite_f c_3 hf
    refine lv_iload_n hx hb d_L_isUsed_10 rfl (lv_at hl 0 rfl) ?_
    refine lv_bipush (v := 8) hx hb d_L_isUsed_11 (by decide) ?_
    refine lv_icmp_lt (tgt := 18) hx hb d_L_isUsed_13 (by decide) (fun c_4 => ?_) (fun c_4 => ?_)
    · have hf := ite_t c_4 hf
      refine lv_iload_n hx hb d_L_isUsed_18 rfl (lv_at hl 2 rfl) ?_
      refine lv_iconst (v := 1) hx hb d_L_isUsed_19 (by decide) ?_
      refine lv_isub hx hb d_L_isUsed_20 ?_
      refine lv_iload_n hx hb d_L_isUsed_21 rfl (lv_at hl 0 rfl) ?_
      refine lv_aload_n hx hb d_L_isUsed_22 rfl (lv_at hl 1 rfl) ?_
      refine va_get (D := (dC, dI)) (ci := 2) (v := .int gI) (C := R_L) (T := T_L) (N := 6) hx hb htb in_L hown hK hP 3 rfl rfl 3 (by decide) (htb _ tw_122) (fun _ h9 => h9) rfl d_L_isUsed_23 ?_
      refine lv_imul hx hb d_L_isUsed_26 ?_
      refine lv_isub hx hb d_L_isUsed_27 ?_
      obtain ⟨v3_5, ev3_5, hf⟩ := lt1_s hf
      refine lv_eqi ev3_5 ?_
      refine lv_istore_n (lv' := [(3, .int v3_5), (2, .int r_1), (0, .ref (h 3)), (1, .int a1)]) hx hb d_L_isUsed_28 rfl hl (by decide) rfl (fun ls hl => ?_)
      refine lv_aload_n hx hb d_L_isUsed_29 rfl (lv_at hl 2 rfl) ?_
      refine va_get (D := (dC, dI)) (ci := 2) (v := .ref (h 1)) (C := R_L) (T := T_L) (N := 6) hx hb htb in_L hown hK hP 3 rfl rfl 0 (by decide) (htb _ tw_119) (fun _ h9 => h9) rfl d_L_isUsed_30 ?_
      refine lv_ldc2 (v := 1024) hx hb hown (htb _ tw_377) d_L_isUsed_33 ?_
      refine lv_aload_n hx hb d_L_isUsed_36 rfl (lv_at hl 2 rfl) ?_
      refine va_get (D := (dC, dI)) (ci := 2) (v := .ref (h 4)) (C := R_L) (T := T_L) (N := 6) hx hb htb in_L hown hK hP 3 rfl rfl 1 (by decide) (htb _ tw_120) (fun _ h9 => h9) rfl d_L_isUsed_37 ?_
      refine lv_iload_n hx hb d_L_isUsed_40 rfl (lv_at hl 1 rfl) ?_
      obtain ⟨c_6, hf⟩ := gd_s hf
      refine va_iald (i := r_1) hx hb hK hP 4 0 rfl rfl c_6 d_L_isUsed_41 ?_
      refine lv_iconst (v := 1) hx hb d_L_isUsed_42 (by decide) ?_
      refine lv_iadd hx hb d_L_isUsed_43 ?_
      refine lv_i2l hx hb d_L_isUsed_44 rfl ?_
      refine lv_lmul hx hb d_L_isUsed_45 ?_
      refine lv_iload_n hx hb d_L_isUsed_46 rfl (lv_at hl 0 rfl) ?_
      refine lv_bipush (v := 8) hx hb d_L_isUsed_47 (by decide) ?_
      refine lv_idiv hx hb d_L_isUsed_49 (by decide) ?_
      refine lv_i2l hx hb d_L_isUsed_50 rfl ?_
      refine lv_ladd hx hb d_L_isUsed_51 ?_
      refine lv_iconst (v := 1) hx hb d_L_isUsed_52 (by decide) ?_
      obtain ⟨r_7, hc_8, hf⟩ := bd1_s hf
      refine ucVl (As := [.long ((((1024 : Int64)) * (Int32.toInt64 ((mb (Int32.toNatClampNeg r_1)) + ((1 : Int32))))) + (Int32.toInt64 (v3_5 / ((8 : Int32))))), .int ((1 : Int32))]) (rest := []) ⟨hx, hb, hml, hown, htb⟩ hK hP hD hS hA (fun hs => c_D_number hc_8) (cwV 2 htb (gV tw_289 tw_264 tw_265 tw_69 tw_266) rfl rfl rfl (by decide +kernel) ⟨Nat.le_of_ble_eq_true rfl, Nat.le_of_ble_eq_true rfl⟩) 1 0 rfl rfl rfl rfl rfl hl.1 (Nat.le_of_ble_eq_true rfl) d_L_isUsed_53 ⟨Nat.zero_le _, Nat.zero_le _⟩ (fun H locs hP hD hS => ?_)
      refine lv_iload_n hx hb d_L_isUsed_56 rfl (lv_at hl 0 rfl) ?_
      refine lv_bipush (v := 8) hx hb d_L_isUsed_57 (by decide) ?_
      refine lv_irem hx hb d_L_isUsed_59 (by decide) ?_
      refine lv_lshr hx hb d_L_isUsed_60 rfl ?_
      refine lv_lconst (v := 1) hx hb d_L_isUsed_61 (by decide) ?_
      refine lv_land hx hb d_L_isUsed_62 ?_
      refine lv_lconst (v := 0) hx hb d_L_isUsed_63 (by decide) ?_
      refine lc_eq (tgt := 72) hx hb d_L_isUsed_64 d_L_isUsed_65 (by decide) (fun c_9 => ?_) (fun c_9 => ?_)
      · have hf := ite_t c_9 hf
        refine lv_iconst (v := 0) hx hb d_L_isUsed_72 (by decide) ?_
        cases hf
        exact hret _ _ _ _ (Or.inl rfl) hP hD hS d_L_isUsed_73
      · have hf := ite_f c_9 hf
        refine lv_iconst (v := 1) hx hb d_L_isUsed_68 (by decide) ?_
        refine lv_goto (tgt := 73) hx hb d_L_isUsed_69 (by decide) ?_
        cases hf
        exact hret _ _ _ _ (Or.inr rfl) hP hD hS d_L_isUsed_73
    · have hf := ite_f c_4 hf
      refine lv_iconst (v := 0) hx hb d_L_isUsed_16 (by decide) ?_
      cases hf
      exact hret _ _ _ _ (Or.inl rfl) hP hD hS d_L_isUsed_17
set_option maxHeartbeats 4000000 in
set_option maxRecDepth 100000 in
theorem c_L_inodePlace {l : Launch} {dC : Nat → ClassId} {dI : Nat → Nat → Nat} {h : Nat → Nat} {cI : ClassId} {cL : ClassId} {NW : Nat} {bk : Int32} {sz : Int32} {wd : Nat → Int64} {mb : Nat → Int32} {gB : Int32} {gI : Int32} {gN : Int32} {iN : Int32} {dr : Int32} {es : Int64} {of : Int64} {od : Int32} {pl : Int64} {hd : Int64} {tk : Nat → Int32} {kn : Nat → Int32} {li : Nat → Int32} {pa : Nat → Int32} {ins : Nat → Int32} {cm : Int32} {fd : Int32} {hr : Int32} {hs : Nat} {a1 : Int32} {r : Int64} (hf : f_L_inodePlace NW mb gI a1 = some (r)) : Met l y_L_inodePlace ws_L_inodePlace { frames := 0, cells := 0, slots := 0, locals := 0 } (PcU (dC, dI) clAll [(cI, .int), (cL, .long)] (wC h cI cL NW bk sz wd mb gB gI gN iN dr es of od pl hd tk kn li pa ins cm fd hr) hs [.ref (h 3), .int a1]) (QUl (dC, dI) clAll [(cI, .int), (cL, .long)] (wC h cI cL NW bk sz wd mb gB gI gN iN dr es of od pl hd tk kn li pa ins cm fd hr) (wC h cI cL NW bk sz wd mb gB gI gN iN dr es of od pl hd tk kn li pa ins cm fd hr) hs r) 0 0 (va_A (wC h cI cL NW bk sz wd mb gB gI gN iN dr es of od pl hd tk kn li pa ins cm fd hr) hs) := by
  refine mUl (cc := b_L_inodePlace) (maxL := 3) (by decide) rfl (Nat.le_of_ble_eq_true rfl) ?_
  intro p e s m args below meth c Q hx hb hml hts hown A hA hK hP hD hS hret ls hl
  have htb : ∀ w ∈ TB, w.before args s = true := fun w h => hts w (List.mem_cons_of_mem _ h)
  have hl : lv_has ls 3 [(0, .ref (h 3)), (1, .int a1)] := hl
  unfold f_L_inodePlace at hf
  refine lv_iload_n hx hb d_L_inodePlace_0 rfl (lv_at hl 1 rfl) ?_
  refine lv_iconst (v := 1) hx hb d_L_inodePlace_1 (by decide) ?_
  refine lv_icmp_lt (tgt := 13) hx hb d_L_inodePlace_2 (by decide) (fun c_1 => ?_) (fun c_1 => ?_)
  · have hf := ite_t c_1 hf
    refine lv_ldc2 (v := -1024) hx hb hown (htb _ tw_386) d_L_inodePlace_13 ?_
    cases hf
    exact hret _ _ _ _ hP hD hS d_L_inodePlace_16
  · have hf := ite_f c_1 hf
    refine lv_aload_n hx hb d_L_inodePlace_5 rfl (lv_at hl 0 rfl) ?_
    refine va_get (D := (dC, dI)) (ci := 2) (v := .int gI) (C := R_L) (T := T_L) (N := 6) hx hb htb in_L hown hK hP 3 rfl rfl 3 (by decide) (htb _ tw_122) (fun _ h9 => h9) rfl d_L_inodePlace_6 ?_
    refine lv_iconst (v := 1) hx hb d_L_inodePlace_9 (by decide) ?_
    refine lv_icmp_ge (tgt := 17) hx hb d_L_inodePlace_10 (by decide) (fun c_2 => ?_) (fun c_2 => ?_)
    · have hf := ite_t c_2 hf
      refine lv_iload_n hx hb d_L_inodePlace_17 rfl (lv_at hl 1 rfl) ?_
      refine lv_iconst (v := 1) hx hb d_L_inodePlace_18 (by decide) ?_
      refine lv_isub hx hb d_L_inodePlace_19 ?_
      refine lv_aload_n hx hb d_L_inodePlace_20 rfl (lv_at hl 0 rfl) ?_
      refine va_get (D := (dC, dI)) (ci := 2) (v := .int gI) (C := R_L) (T := T_L) (N := 6) hx hb htb in_L hown hK hP 3 rfl rfl 3 (by decide) (htb _ tw_122) (fun _ h9 => h9) rfl d_L_inodePlace_21 ?_
      obtain ⟨c_3, hf⟩ := gd_s hf
      refine lv_idiv hx hb d_L_inodePlace_24 c_3 ?_
      obtain ⟨v2_4, ev2_4, hf⟩ := lt1_s hf
      refine lv_eqi ev2_4 ?_
      refine lv_istore_n (lv' := [(2, .int v2_4), (0, .ref (h 3)), (1, .int a1)]) hx hb d_L_inodePlace_25 rfl hl (by decide) rfl (fun ls hl => ?_)
      refine lv_iload_n hx hb d_L_inodePlace_26 rfl (lv_at hl 0 rfl) ?_
      refine lv_bipush (v := 8) hx hb d_L_inodePlace_27 (by decide) ?_
      refine lv_icmp_lt (tgt := 36) hx hb d_L_inodePlace_29 (by decide) (fun c_5 => ?_) (fun c_5 => ?_)
      · have hf := ite_t c_5 hf
        refine lv_ldc2 (v := 1024) hx hb hown (htb _ tw_377) d_L_inodePlace_36 ?_
        refine lv_aload_n hx hb d_L_inodePlace_39 rfl (lv_at hl 1 rfl) ?_
        refine va_get (D := (dC, dI)) (ci := 2) (v := .ref (h 4)) (C := R_L) (T := T_L) (N := 6) hx hb htb in_L hown hK hP 3 rfl rfl 1 (by decide) (htb _ tw_120) (fun _ h9 => h9) rfl d_L_inodePlace_40 ?_
        refine lv_iload_n hx hb d_L_inodePlace_43 rfl (lv_at hl 0 rfl) ?_
        obtain ⟨c_6, hf⟩ := gd_s hf
        refine va_iald (i := v2_4) hx hb hK hP 4 0 rfl rfl c_6 d_L_inodePlace_44 ?_
        refine lv_iconst (v := 2) hx hb d_L_inodePlace_45 (by decide) ?_
        refine lv_iadd hx hb d_L_inodePlace_46 ?_
        refine lv_i2l hx hb d_L_inodePlace_47 rfl ?_
        refine lv_lmul hx hb d_L_inodePlace_48 ?_
        refine lv_sipush (v := 128) hx hb d_L_inodePlace_49 (by decide) ?_
        refine lv_iload_n hx hb d_L_inodePlace_52 rfl (lv_at hl 2 rfl) ?_
        refine lv_iconst (v := 1) hx hb d_L_inodePlace_53 (by decide) ?_
        refine lv_isub hx hb d_L_inodePlace_54 ?_
        refine lv_iload_n hx hb d_L_inodePlace_55 rfl (lv_at hl 0 rfl) ?_
        refine lv_aload_n hx hb d_L_inodePlace_56 rfl (lv_at hl 1 rfl) ?_
        refine va_get (D := (dC, dI)) (ci := 2) (v := .int gI) (C := R_L) (T := T_L) (N := 6) hx hb htb in_L hown hK hP 3 rfl rfl 3 (by decide) (htb _ tw_122) (fun _ h9 => h9) rfl d_L_inodePlace_57 ?_
        refine lv_imul hx hb d_L_inodePlace_60 ?_
        refine lv_isub hx hb d_L_inodePlace_61 ?_
        refine lv_imul hx hb d_L_inodePlace_62 ?_
        refine lv_i2l hx hb d_L_inodePlace_63 rfl ?_
        refine lv_ladd hx hb d_L_inodePlace_64 ?_
        cases hf
        exact hret _ _ _ _ hP hD hS d_L_inodePlace_65
      · have hf := ite_f c_5 hf
        refine lv_ldc2 (v := -1024) hx hb hown (htb _ tw_386) d_L_inodePlace_32 ?_
        cases hf
        exact hret _ _ _ _ hP hD hS d_L_inodePlace_35
    · have hf := ite_f c_2 hf
      refine lv_ldc2 (v := -1024) hx hb hown (htb _ tw_386) d_L_inodePlace_13 ?_
      cases hf
      exact hret _ _ _ _ hP hD hS d_L_inodePlace_16
set_option maxHeartbeats 4000000 in
set_option maxRecDepth 100000 in
theorem c_L_typeOf {l : Launch} {dC : Nat → ClassId} {dI : Nat → Nat → Nat} {h : Nat → Nat} {cI : ClassId} {cL : ClassId} {NW : Nat} {bk : Int32} {sz : Int32} {wd : Nat → Int64} {mb : Nat → Int32} {gB : Int32} {gI : Int32} {gN : Int32} {iN : Int32} {dr : Int32} {es : Int64} {of : Int64} {od : Int32} {pl : Int64} {hd : Int64} {tk : Nat → Int32} {kn : Nat → Int32} {li : Nat → Int32} {pa : Nat → Int32} {ins : Nat → Int32} {cm : Int32} {fd : Int32} {hr : Int32} {hs : Nat} {a1 : Int32} {r : Int32} (hf : f_L_typeOf NW sz wd mb gI a1 = some (r)) : Met l y_L_typeOf ws_L_typeOf { frames := 1, cells := 0, slots := 0, locals := 27 } (PcU (dC, dI) clAll [(cI, .int), (cL, .long)] (wC h cI cL NW bk sz wd mb gB gI gN iN dr es of od pl hd tk kn li pa ins cm fd hr) hs [.ref (h 3), .int a1]) (QUi (dC, dI) clAll [(cI, .int), (cL, .long)] (wC h cI cL NW bk sz wd mb gB gI gN iN dr es of od pl hd tk kn li pa ins cm fd hr) (wC h cI cL NW bk sz wd mb gB gI gN iN dr es of od pl hd tk kn li pa ins cm fd hr) hs r) 0 0 (va_A (wC h cI cL NW bk sz wd mb gB gI gN iN dr es of od pl hd tk kn li pa ins cm fd hr) hs) := by
  refine mUi (cc := b_L_typeOf) (maxL := 2) (by decide) rfl (Nat.le_of_ble_eq_true rfl) ?_
  intro p e s m args below meth c Q hx hb hml hts hown A hA hK hP hD hS hret ls hl
  have htb : ∀ w ∈ TB, w.before args s = true := fun w h => hts w (List.mem_cons_of_mem _ h)
  have hl : lv_has ls 2 [(0, .ref (h 3)), (1, .int a1)] := hl
  unfold f_L_typeOf at hf
  refine lv_aload_n hx hb d_L_typeOf_0 rfl (lv_at hl 0 rfl) ?_
  refine va_get (D := (dC, dI)) (ci := 2) (v := .ref (h 1)) (C := R_L) (T := T_L) (N := 6) hx hb htb in_L hown hK hP 3 rfl rfl 0 (by decide) (htb _ tw_119) (fun _ h9 => h9) rfl d_L_typeOf_1 ?_
  refine lv_aload_n hx hb d_L_typeOf_4 rfl (lv_at hl 0 rfl) ?_
  refine lv_iload_n hx hb d_L_typeOf_5 rfl (lv_at hl 1 rfl) ?_
  obtain ⟨r_1, hc_2, hf⟩ := bd1_s hf
  refine ucVl (As := [.int a1]) (rest := [.ref (h 1)]) ⟨hx, hb, hml, hown, htb⟩ hK hP hD hS hA (fun hs => c_L_inodePlace hc_2) (cwV 1 htb (gV tw_382 tw_383 tw_384 tw_71 tw_385) rfl rfl rfl (by decide +kernel) ⟨Nat.le_of_ble_eq_true rfl, Nat.le_of_ble_eq_true rfl⟩) 3 2 rfl rfl rfl rfl rfl hl.1 (Nat.le_of_ble_eq_true rfl) d_L_typeOf_6 ⟨Nat.zero_le _, Nat.zero_le _⟩ (fun H locs hP hD hS => ?_)
  refine lv_iconst (v := 2) hx hb d_L_typeOf_9 (by decide) ?_
  obtain ⟨r_3, hc_4, hf⟩ := bd1_s hf
  refine ucVl (As := [.long r_1, .int ((2 : Int32))]) (rest := []) ⟨hx, hb, hml, hown, htb⟩ hK hP hD hS hA (fun hs => c_D_number hc_4) (cwV 2 htb (gV tw_289 tw_264 tw_265 tw_69 tw_266) rfl rfl rfl (by decide +kernel) ⟨Nat.le_of_ble_eq_true rfl, Nat.le_of_ble_eq_true rfl⟩) 1 0 rfl rfl rfl rfl rfl hl.1 (Nat.le_of_ble_eq_true rfl) d_L_typeOf_10 ⟨Nat.zero_le _, Nat.zero_le _⟩ (fun H locs hP hD hS => ?_)
  refine lv_l2i hx hb d_L_typeOf_13 rfl ?_
  refine lv_ldc (v := 61440) hx hb hown (htb _ tw_387) d_L_typeOf_14 ?_
  refine lv_iand hx hb d_L_typeOf_16 ?_
  cases hf
  exact hret _ _ _ _ hP hD hS d_L_typeOf_17
set_option maxHeartbeats 4000000 in
set_option maxRecDepth 100000 in
theorem c_L_sizeOf {l : Launch} {dC : Nat → ClassId} {dI : Nat → Nat → Nat} {h : Nat → Nat} {cI : ClassId} {cL : ClassId} {NW : Nat} {bk : Int32} {sz : Int32} {wd : Nat → Int64} {mb : Nat → Int32} {gB : Int32} {gI : Int32} {gN : Int32} {iN : Int32} {dr : Int32} {es : Int64} {of : Int64} {od : Int32} {pl : Int64} {hd : Int64} {tk : Nat → Int32} {kn : Nat → Int32} {li : Nat → Int32} {pa : Nat → Int32} {ins : Nat → Int32} {cm : Int32} {fd : Int32} {hr : Int32} {hs : Nat} {a1 : Int32} {r : Int64} (hf : f_L_sizeOf NW sz wd mb gI a1 = some (r)) : Met l y_L_sizeOf ws_L_sizeOf { frames := 1, cells := 0, slots := 0, locals := 27 } (PcU (dC, dI) clAll [(cI, .int), (cL, .long)] (wC h cI cL NW bk sz wd mb gB gI gN iN dr es of od pl hd tk kn li pa ins cm fd hr) hs [.ref (h 3), .int a1]) (QUl (dC, dI) clAll [(cI, .int), (cL, .long)] (wC h cI cL NW bk sz wd mb gB gI gN iN dr es of od pl hd tk kn li pa ins cm fd hr) (wC h cI cL NW bk sz wd mb gB gI gN iN dr es of od pl hd tk kn li pa ins cm fd hr) hs r) 0 0 (va_A (wC h cI cL NW bk sz wd mb gB gI gN iN dr es of od pl hd tk kn li pa ins cm fd hr) hs) := by
  refine mUl (cc := b_L_sizeOf) (maxL := 2) (by decide) rfl (Nat.le_of_ble_eq_true rfl) ?_
  intro p e s m args below meth c Q hx hb hml hts hown A hA hK hP hD hS hret ls hl
  have htb : ∀ w ∈ TB, w.before args s = true := fun w h => hts w (List.mem_cons_of_mem _ h)
  have hl : lv_has ls 2 [(0, .ref (h 3)), (1, .int a1)] := hl
  unfold f_L_sizeOf at hf
  refine lv_aload_n hx hb d_L_sizeOf_0 rfl (lv_at hl 0 rfl) ?_
  refine va_get (D := (dC, dI)) (ci := 2) (v := .ref (h 1)) (C := R_L) (T := T_L) (N := 6) hx hb htb in_L hown hK hP 3 rfl rfl 0 (by decide) (htb _ tw_119) (fun _ h9 => h9) rfl d_L_sizeOf_1 ?_
  refine lv_aload_n hx hb d_L_sizeOf_4 rfl (lv_at hl 0 rfl) ?_
  refine lv_iload_n hx hb d_L_sizeOf_5 rfl (lv_at hl 1 rfl) ?_
  obtain ⟨r_1, hc_2, hf⟩ := bd1_s hf
  refine ucVl (As := [.int a1]) (rest := [.ref (h 1)]) ⟨hx, hb, hml, hown, htb⟩ hK hP hD hS hA (fun hs => c_L_inodePlace hc_2) (cwV 1 htb (gV tw_382 tw_383 tw_384 tw_71 tw_385) rfl rfl rfl (by decide +kernel) ⟨Nat.le_of_ble_eq_true rfl, Nat.le_of_ble_eq_true rfl⟩) 3 2 rfl rfl rfl rfl rfl hl.1 (Nat.le_of_ble_eq_true rfl) d_L_sizeOf_6 ⟨Nat.zero_le _, Nat.zero_le _⟩ (fun H locs hP hD hS => ?_)
  refine lv_ldc2 (v := 4) hx hb hown (htb _ tw_396) d_L_sizeOf_9 ?_
  refine lv_ladd hx hb d_L_sizeOf_12 ?_
  refine lv_iconst (v := 4) hx hb d_L_sizeOf_13 (by decide) ?_
  obtain ⟨r_3, hc_4, hf⟩ := bd1_s hf
  refine ucVl (As := [.long (r_1 + ((4 : Int64))), .int ((4 : Int32))]) (rest := []) ⟨hx, hb, hml, hown, htb⟩ hK hP hD hS hA (fun hs => c_D_number hc_4) (cwV 2 htb (gV tw_289 tw_264 tw_265 tw_69 tw_266) rfl rfl rfl (by decide +kernel) ⟨Nat.le_of_ble_eq_true rfl, Nat.le_of_ble_eq_true rfl⟩) 1 0 rfl rfl rfl rfl rfl hl.1 (Nat.le_of_ble_eq_true rfl) d_L_sizeOf_14 ⟨Nat.zero_le _, Nat.zero_le _⟩ (fun H locs hP hD hS => ?_)
  cases hf
  exact hret _ _ _ _ hP hD hS d_L_sizeOf_17
set_option maxHeartbeats 4000000 in
set_option maxRecDepth 100000 in
theorem c_L_blocksFor {l : Launch} {dC : Nat → ClassId} {dI : Nat → Nat → Nat} {h : Nat → Nat} {cI : ClassId} {cL : ClassId} {NW : Nat} {bk : Int32} {sz : Int32} {wd : Nat → Int64} {mb : Nat → Int32} {gB : Int32} {gI : Int32} {gN : Int32} {iN : Int32} {dr : Int32} {es : Int64} {of : Int64} {od : Int32} {pl : Int64} {hd : Int64} {tk : Nat → Int32} {kn : Nat → Int32} {li : Nat → Int32} {pa : Nat → Int32} {ins : Nat → Int32} {cm : Int32} {fd : Int32} {hr : Int32} {hs : Nat} {a1 : Int64} {r : Int32} (hf : f_L_blocksFor NW a1 = some (r)) : Met l y_L_blocksFor ws_L_blocksFor { frames := 0, cells := 0, slots := 0, locals := 0 } (PcU (dC, dI) clAll [(cI, .int), (cL, .long)] (wC h cI cL NW bk sz wd mb gB gI gN iN dr es of od pl hd tk kn li pa ins cm fd hr) hs [.ref (h 3), .long a1]) (QUi (dC, dI) clAll [(cI, .int), (cL, .long)] (wC h cI cL NW bk sz wd mb gB gI gN iN dr es of od pl hd tk kn li pa ins cm fd hr) (wC h cI cL NW bk sz wd mb gB gI gN iN dr es of od pl hd tk kn li pa ins cm fd hr) hs r) 0 0 (va_A (wC h cI cL NW bk sz wd mb gB gI gN iN dr es of od pl hd tk kn li pa ins cm fd hr) hs) := by
  refine mUi (cc := b_L_blocksFor) (maxL := 3) (by decide) rfl (Nat.le_of_ble_eq_true rfl) ?_
  intro p e s m args below meth c Q hx hb hml hts hown A hA hK hP hD hS hret ls hl
  have htb : ∀ w ∈ TB, w.before args s = true := fun w h => hts w (List.mem_cons_of_mem _ h)
  have hl : lv_has ls 3 [(0, .ref (h 3)), (1, .long a1)] := hl
  unfold f_L_blocksFor at hf
  refine lv_lload_n hx hb d_L_blocksFor_0 rfl (lv_at hl 1 rfl) ?_
  refine lv_ldc2 (v := 1024) hx hb hown (htb _ tw_377) d_L_blocksFor_1 ?_
  refine lv_ladd hx hb d_L_blocksFor_4 ?_
  refine lv_lconst (v := 1) hx hb d_L_blocksFor_5 (by decide) ?_
  refine lv_lsub hx hb d_L_blocksFor_6 ?_
  refine lv_ldc2 (v := 1024) hx hb hown (htb _ tw_377) d_L_blocksFor_7 ?_
  refine lv_ldiv hx hb d_L_blocksFor_10 (by decide) ?_
  refine lv_l2i hx hb d_L_blocksFor_11 rfl ?_
  cases hf
  exact hret _ _ _ _ hP hD hS d_L_blocksFor_12
set_option maxHeartbeats 4000000 in
set_option maxRecDepth 100000 in
theorem c_L_field {l : Launch} {dC : Nat → ClassId} {dI : Nat → Nat → Nat} {h : Nat → Nat} {cI : ClassId} {cL : ClassId} {NW : Nat} {bk : Int32} {sz : Int32} {wd : Nat → Int64} {mb : Nat → Int32} {gB : Int32} {gI : Int32} {gN : Int32} {iN : Int32} {dr : Int32} {es : Int64} {of : Int64} {od : Int32} {pl : Int64} {hd : Int64} {tk : Nat → Int32} {kn : Nat → Int32} {li : Nat → Int32} {pa : Nat → Int32} {ins : Nat → Int32} {cm : Int32} {fd : Int32} {hr : Int32} {hs : Nat} {a1 : Int32} {a2 : Int32} {a3 : Int32} {r : Int64} (hf : f_L_field NW sz wd mb gI a1 a2 a3 = some (r)) : Met l y_L_field ws_L_field { frames := 1, cells := 0, slots := 0, locals := 27 } (PcU (dC, dI) clAll [(cI, .int), (cL, .long)] (wC h cI cL NW bk sz wd mb gB gI gN iN dr es of od pl hd tk kn li pa ins cm fd hr) hs [.ref (h 3), .int a1, .int a2, .int a3]) (QUl (dC, dI) clAll [(cI, .int), (cL, .long)] (wC h cI cL NW bk sz wd mb gB gI gN iN dr es of od pl hd tk kn li pa ins cm fd hr) (wC h cI cL NW bk sz wd mb gB gI gN iN dr es of od pl hd tk kn li pa ins cm fd hr) hs r) 0 0 (va_A (wC h cI cL NW bk sz wd mb gB gI gN iN dr es of od pl hd tk kn li pa ins cm fd hr) hs) := by
  refine mUl (cc := b_L_field) (maxL := 4) (by decide) rfl (Nat.le_of_ble_eq_true rfl) ?_
  intro p e s m args below meth c Q hx hb hml hts hown A hA hK hP hD hS hret ls hl
  have htb : ∀ w ∈ TB, w.before args s = true := fun w h => hts w (List.mem_cons_of_mem _ h)
  have hl : lv_has ls 4 [(0, .ref (h 3)), (1, .int a1), (2, .int a2), (3, .int a3)] := hl
  unfold f_L_field at hf
  refine lv_aload_n hx hb d_L_field_0 rfl (lv_at hl 0 rfl) ?_
  refine va_get (D := (dC, dI)) (ci := 2) (v := .ref (h 1)) (C := R_L) (T := T_L) (N := 6) hx hb htb in_L hown hK hP 3 rfl rfl 0 (by decide) (htb _ tw_119) (fun _ h9 => h9) rfl d_L_field_1 ?_
  refine lv_aload_n hx hb d_L_field_4 rfl (lv_at hl 0 rfl) ?_
  refine lv_iload_n hx hb d_L_field_5 rfl (lv_at hl 1 rfl) ?_
  obtain ⟨r_1, hc_2, hf⟩ := bd1_s hf
  refine ucVl (As := [.int a1]) (rest := [.ref (h 1)]) ⟨hx, hb, hml, hown, htb⟩ hK hP hD hS hA (fun hs => c_L_inodePlace hc_2) (cwV 1 htb (gV tw_382 tw_383 tw_384 tw_71 tw_385) rfl rfl rfl (by decide +kernel) ⟨Nat.le_of_ble_eq_true rfl, Nat.le_of_ble_eq_true rfl⟩) 3 2 rfl rfl rfl rfl rfl hl.1 (Nat.le_of_ble_eq_true rfl) d_L_field_6 ⟨Nat.zero_le _, Nat.zero_le _⟩ (fun H locs hP hD hS => ?_)
  refine lv_iload_n hx hb d_L_field_9 rfl (lv_at hl 2 rfl) ?_
  refine lv_i2l hx hb d_L_field_10 rfl ?_
  refine lv_ladd hx hb d_L_field_11 ?_
  refine lv_iload_n hx hb d_L_field_12 rfl (lv_at hl 3 rfl) ?_
  obtain ⟨r_3, hc_4, hf⟩ := bd1_s hf
  refine ucVl (As := [.long (r_1 + (Int32.toInt64 a2)), .int a3]) (rest := []) ⟨hx, hb, hml, hown, htb⟩ hK hP hD hS hA (fun hs => c_D_number hc_4) (cwV 2 htb (gV tw_289 tw_264 tw_265 tw_69 tw_266) rfl rfl rfl (by decide +kernel) ⟨Nat.le_of_ble_eq_true rfl, Nat.le_of_ble_eq_true rfl⟩) 1 0 rfl rfl rfl rfl rfl hl.1 (Nat.le_of_ble_eq_true rfl) d_L_field_13 ⟨Nat.zero_le _, Nat.zero_le _⟩ (fun H locs hP hD hS => ?_)
  cases hf
  exact hret _ _ _ _ hP hD hS d_L_field_16
set_option maxHeartbeats 4000000 in
set_option maxRecDepth 100000 in
theorem c_L_blockOf {l : Launch} {dC : Nat → ClassId} {dI : Nat → Nat → Nat} {h : Nat → Nat} {cI : ClassId} {cL : ClassId} {NW : Nat} {bk : Int32} {sz : Int32} {wd : Nat → Int64} {mb : Nat → Int32} {gB : Int32} {gI : Int32} {gN : Int32} {iN : Int32} {dr : Int32} {es : Int64} {of : Int64} {od : Int32} {pl : Int64} {hd : Int64} {tk : Nat → Int32} {kn : Nat → Int32} {li : Nat → Int32} {pa : Nat → Int32} {ins : Nat → Int32} {cm : Int32} {fd : Int32} {hr : Int32} {hs : Nat} {a1 : Int32} {a2 : Int32} {r : Int64} (hf : f_L_blockOf NW sz wd mb gI a1 a2 = some (r)) : Met l y_L_blockOf ws_L_blockOf { frames := 1, cells := 0, slots := 0, locals := 27 } (PcU (dC, dI) clAll [(cI, .int), (cL, .long)] (wC h cI cL NW bk sz wd mb gB gI gN iN dr es of od pl hd tk kn li pa ins cm fd hr) hs [.ref (h 3), .int a1, .int a2]) (QUl (dC, dI) clAll [(cI, .int), (cL, .long)] (wC h cI cL NW bk sz wd mb gB gI gN iN dr es of od pl hd tk kn li pa ins cm fd hr) (wC h cI cL NW bk sz wd mb gB gI gN iN dr es of od pl hd tk kn li pa ins cm fd hr) hs r) 0 0 (va_A (wC h cI cL NW bk sz wd mb gB gI gN iN dr es of od pl hd tk kn li pa ins cm fd hr) hs) := by
  refine mUl (cc := b_L_blockOf) (maxL := 10) (by decide) rfl (Nat.le_of_ble_eq_true rfl) ?_
  intro p e s m args below meth c Q hx hb hml hts hown A hA hK hP hD hS hret ls hl
  have htb : ∀ w ∈ TB, w.before args s = true := fun w h => hts w (List.mem_cons_of_mem _ h)
  have hl : lv_has ls 10 [(0, .ref (h 3)), (1, .int a1), (2, .int a2)] := hl
  unfold f_L_blockOf at hf
  refine lv_aload_n hx hb d_L_blockOf_0 rfl (lv_at hl 0 rfl) ?_
  refine lv_iload_n hx hb d_L_blockOf_1 rfl (lv_at hl 1 rfl) ?_
  obtain ⟨r_1, hc_2, hf⟩ := bd1_s hf
  refine ucVl (As := [.int a1]) (rest := []) ⟨hx, hb, hml, hown, htb⟩ hK hP hD hS hA (fun hs => c_L_inodePlace hc_2) (cwV 1 htb (gV tw_382 tw_383 tw_384 tw_71 tw_385) rfl rfl rfl (by decide +kernel) ⟨Nat.le_of_ble_eq_true rfl, Nat.le_of_ble_eq_true rfl⟩) 3 2 rfl rfl rfl rfl rfl hl.1 (Nat.le_of_ble_eq_true rfl) d_L_blockOf_2 ⟨Nat.zero_le _, Nat.zero_le _⟩ (fun H locs hP hD hS => ?_)
  refine lv_lstore_n (lv' := [(3, .long r_1), (0, .ref (h 3)), (1, .int a1), (2, .int a2)]) hx hb d_L_blockOf_5 rfl hl (by decide) rfl (fun ls hl => ?_)
  refine lv_iload_n hx hb d_L_blockOf_6 rfl (lv_at hl 3 rfl) ?_
  refine lv_bipush (v := 12) hx hb d_L_blockOf_7 (by decide) ?_
  refine lv_icmp_ge (tgt := 31) hx hb d_L_blockOf_9 (by decide) (fun c_3 => ?_) (fun c_3 => ?_)
  · have hf := ite_t c_3 hf
    refine lv_iload_n hx hb d_L_blockOf_31 rfl (lv_at hl 3 rfl) ?_
    refine lv_sipush (v := 268) hx hb d_L_blockOf_32 (by decide) ?_
    refine lv_icmp_ge (tgt := 72) hx hb d_L_blockOf_35 (by decide) (fun c_4 => ?_) (fun c_4 => ?_)
    · have hf := ite_t c_4 hf
      refine lv_iload_n hx hb d_L_blockOf_72 rfl (lv_at hl 3 rfl) ?_
      refine lv_sipush (v := 268) hx hb d_L_blockOf_73 (by decide) ?_
      refine lv_isub hx hb d_L_blockOf_76 ?_
      obtain ⟨v5_5, ev5_5, hf⟩ := lt1_s hf
      refine lv_eqi ev5_5 ?_
      refine lv_istore (lv' := [(5, .int v5_5), (3, .long r_1), (0, .ref (h 3)), (1, .int a1), (2, .int a2)]) hx hb d_L_blockOf_77 hl (by decide) rfl (fun ls hl => ?_)
      refine lv_ldc2 (v := 1024) hx hb hown (htb _ tw_377) d_L_blockOf_79 ?_
      refine lv_aload_n hx hb d_L_blockOf_82 rfl (lv_at hl 2 rfl) ?_
      refine va_get (D := (dC, dI)) (ci := 2) (v := .ref (h 1)) (C := R_L) (T := T_L) (N := 6) hx hb htb in_L hown hK hP 3 rfl rfl 0 (by decide) (htb _ tw_119) (fun _ h9 => h9) rfl d_L_blockOf_83 ?_
      refine lv_lload_n hx hb d_L_blockOf_86 rfl (lv_at hl 1 rfl) ?_
      refine lv_ldc2 (v := 92) hx hb hown (htb _ tw_424) d_L_blockOf_87 ?_
      refine lv_ladd hx hb d_L_blockOf_90 ?_
      refine lv_iconst (v := 4) hx hb d_L_blockOf_91 (by decide) ?_
      obtain ⟨r_6, hc_7, hf⟩ := bd1_s hf
      refine ucVl (As := [.long (r_1 + ((92 : Int64))), .int ((4 : Int32))]) (rest := [.long ((1024 : Int64))]) ⟨hx, hb, hml, hown, htb⟩ hK hP hD hS hA (fun hs => c_D_number hc_7) (cwV 2 htb (gV tw_289 tw_264 tw_265 tw_69 tw_266) rfl rfl rfl (by decide +kernel) ⟨Nat.le_of_ble_eq_true rfl, Nat.le_of_ble_eq_true rfl⟩) 1 0 rfl rfl rfl rfl rfl hl.1 (Nat.le_of_ble_eq_true rfl) d_L_blockOf_92 ⟨Nat.zero_le _, Nat.zero_le _⟩ (fun H locs hP hD hS => ?_)
      refine lv_lmul hx hb d_L_blockOf_95 ?_
      obtain ⟨v6_8, ev6_8, hf⟩ := lt1_s hf
      refine lv_eql ev6_8 ?_
      refine lv_lstore (lv' := [(6, .long v6_8), (5, .int v5_5), (3, .long r_1), (0, .ref (h 3)), (1, .int a1), (2, .int a2)]) hx hb d_L_blockOf_96 hl (by decide) rfl (fun ls hl => ?_)
      refine lv_ldc2 (v := 1024) hx hb hown (htb _ tw_377) d_L_blockOf_98 ?_
      refine lv_aload_n hx hb d_L_blockOf_101 rfl (lv_at hl 3 rfl) ?_
      refine va_get (D := (dC, dI)) (ci := 2) (v := .ref (h 1)) (C := R_L) (T := T_L) (N := 6) hx hb htb in_L hown hK hP 3 rfl rfl 0 (by decide) (htb _ tw_119) (fun _ h9 => h9) rfl d_L_blockOf_102 ?_
      refine lv_lload hx hb d_L_blockOf_105 (lv_at hl 0 rfl) ?_
      refine lv_iconst (v := 4) hx hb d_L_blockOf_107 (by decide) ?_
      refine lv_iload hx hb d_L_blockOf_108 (lv_at hl 1 rfl) ?_
      refine lv_sipush (v := 256) hx hb d_L_blockOf_110 (by decide) ?_
      refine lv_idiv hx hb d_L_blockOf_113 (by decide) ?_
      refine lv_imul hx hb d_L_blockOf_114 ?_
      refine lv_i2l hx hb d_L_blockOf_115 rfl ?_
      refine lv_ladd hx hb d_L_blockOf_116 ?_
      refine lv_iconst (v := 4) hx hb d_L_blockOf_117 (by decide) ?_
      obtain ⟨r_9, hc_10, hf⟩ := bd1_s hf
      refine ucVl (As := [.long (v6_8 + (Int32.toInt64 (((4 : Int32)) * (v5_5 / ((256 : Int32)))))), .int ((4 : Int32))]) (rest := [.long ((1024 : Int64))]) ⟨hx, hb, hml, hown, htb⟩ hK hP hD hS hA (fun hs => c_D_number hc_10) (cwV 2 htb (gV tw_289 tw_264 tw_265 tw_69 tw_266) rfl rfl rfl (by decide +kernel) ⟨Nat.le_of_ble_eq_true rfl, Nat.le_of_ble_eq_true rfl⟩) 1 0 rfl rfl rfl rfl rfl hl.1 (Nat.le_of_ble_eq_true rfl) d_L_blockOf_118 ⟨Nat.zero_le _, Nat.zero_le _⟩ (fun H locs hP hD hS => ?_)
      refine lv_lmul hx hb d_L_blockOf_121 ?_
      obtain ⟨v8_11, ev8_11, hf⟩ := lt1_s hf
      refine lv_eql ev8_11 ?_
      refine lv_lstore (lv' := [(8, .long v8_11), (6, .long v6_8), (5, .int v5_5), (3, .long r_1), (0, .ref (h 3)), (1, .int a1), (2, .int a2)]) hx hb d_L_blockOf_122 hl (by decide) rfl (fun ls hl => ?_)
      refine lv_aload_n hx hb d_L_blockOf_124 rfl (lv_at hl 4 rfl) ?_
      refine va_get (D := (dC, dI)) (ci := 2) (v := .ref (h 1)) (C := R_L) (T := T_L) (N := 6) hx hb htb in_L hown hK hP 3 rfl rfl 0 (by decide) (htb _ tw_119) (fun _ h9 => h9) rfl d_L_blockOf_125 ?_
      refine lv_lload hx hb d_L_blockOf_128 (lv_at hl 0 rfl) ?_
      refine lv_iconst (v := 4) hx hb d_L_blockOf_130 (by decide) ?_
      refine lv_iload hx hb d_L_blockOf_131 (lv_at hl 2 rfl) ?_
      refine lv_sipush (v := 256) hx hb d_L_blockOf_133 (by decide) ?_
      refine lv_irem hx hb d_L_blockOf_136 (by decide) ?_
      refine lv_imul hx hb d_L_blockOf_137 ?_
      refine lv_i2l hx hb d_L_blockOf_138 rfl ?_
      refine lv_ladd hx hb d_L_blockOf_139 ?_
      refine lv_iconst (v := 4) hx hb d_L_blockOf_140 (by decide) ?_
      obtain ⟨r_12, hc_13, hf⟩ := bd1_s hf
      refine ucVl (As := [.long (v8_11 + (Int32.toInt64 (((4 : Int32)) * (v5_5 - v5_5 / ((256 : Int32)) * ((256 : Int32)))))), .int ((4 : Int32))]) (rest := []) ⟨hx, hb, hml, hown, htb⟩ hK hP hD hS hA (fun hs => c_D_number hc_13) (cwV 2 htb (gV tw_289 tw_264 tw_265 tw_69 tw_266) rfl rfl rfl (by decide +kernel) ⟨Nat.le_of_ble_eq_true rfl, Nat.le_of_ble_eq_true rfl⟩) 1 0 rfl rfl rfl rfl rfl hl.1 (Nat.le_of_ble_eq_true rfl) d_L_blockOf_141 ⟨Nat.zero_le _, Nat.zero_le _⟩ (fun H locs hP hD hS => ?_)
      cases hf
      exact hret _ _ _ _ hP hD hS d_L_blockOf_144
    · have hf := ite_f c_4 hf
      refine lv_aload_n hx hb d_L_blockOf_38 rfl (lv_at hl 1 rfl) ?_
      refine va_get (D := (dC, dI)) (ci := 2) (v := .ref (h 1)) (C := R_L) (T := T_L) (N := 6) hx hb htb in_L hown hK hP 3 rfl rfl 0 (by decide) (htb _ tw_119) (fun _ h9 => h9) rfl d_L_blockOf_39 ?_
      refine lv_ldc2 (v := 1024) hx hb hown (htb _ tw_377) d_L_blockOf_42 ?_
      refine lv_aload_n hx hb d_L_blockOf_45 rfl (lv_at hl 1 rfl) ?_
      refine va_get (D := (dC, dI)) (ci := 2) (v := .ref (h 1)) (C := R_L) (T := T_L) (N := 6) hx hb htb in_L hown hK hP 3 rfl rfl 0 (by decide) (htb _ tw_119) (fun _ h9 => h9) rfl d_L_blockOf_46 ?_
      refine lv_lload_n hx hb d_L_blockOf_49 rfl (lv_at hl 0 rfl) ?_
      refine lv_ldc2 (v := 88) hx hb hown (htb _ tw_423) d_L_blockOf_50 ?_
      refine lv_ladd hx hb d_L_blockOf_53 ?_
      refine lv_iconst (v := 4) hx hb d_L_blockOf_54 (by decide) ?_
      obtain ⟨r_14, hc_15, hf⟩ := bd1_s hf
      refine ucVl (As := [.long (r_1 + ((88 : Int64))), .int ((4 : Int32))]) (rest := [.long ((1024 : Int64)), .ref (h 1)]) ⟨hx, hb, hml, hown, htb⟩ hK hP hD hS hA (fun hs => c_D_number hc_15) (cwV 2 htb (gV tw_289 tw_264 tw_265 tw_69 tw_266) rfl rfl rfl (by decide +kernel) ⟨Nat.le_of_ble_eq_true rfl, Nat.le_of_ble_eq_true rfl⟩) 1 0 rfl rfl rfl rfl rfl hl.1 (Nat.le_of_ble_eq_true rfl) d_L_blockOf_55 ⟨Nat.zero_le _, Nat.zero_le _⟩ (fun H locs hP hD hS => ?_)
      refine lv_lmul hx hb d_L_blockOf_58 ?_
      refine lv_iconst (v := 4) hx hb d_L_blockOf_59 (by decide) ?_
      refine lv_iload_n hx hb d_L_blockOf_60 rfl (lv_at hl 3 rfl) ?_
      refine lv_bipush (v := 12) hx hb d_L_blockOf_61 (by decide) ?_
      refine lv_isub hx hb d_L_blockOf_63 ?_
      refine lv_imul hx hb d_L_blockOf_64 ?_
      refine lv_i2l hx hb d_L_blockOf_65 rfl ?_
      refine lv_ladd hx hb d_L_blockOf_66 ?_
      refine lv_iconst (v := 4) hx hb d_L_blockOf_67 (by decide) ?_
      obtain ⟨r_16, hc_17, hf⟩ := bd1_s hf
      refine ucVl (As := [.long ((((1024 : Int64)) * r_14) + (Int32.toInt64 (((4 : Int32)) * (a2 - ((12 : Int32)))))), .int ((4 : Int32))]) (rest := []) ⟨hx, hb, hml, hown, htb⟩ hK hP hD hS hA (fun hs => c_D_number hc_17) (cwV 2 htb (gV tw_289 tw_264 tw_265 tw_69 tw_266) rfl rfl rfl (by decide +kernel) ⟨Nat.le_of_ble_eq_true rfl, Nat.le_of_ble_eq_true rfl⟩) 1 0 rfl rfl rfl rfl rfl hl.1 (Nat.le_of_ble_eq_true rfl) d_L_blockOf_68 ⟨Nat.zero_le _, Nat.zero_le _⟩ (fun H locs hP hD hS => ?_)
      cases hf
      exact hret _ _ _ _ hP hD hS d_L_blockOf_71
  · have hf := ite_f c_3 hf
    refine lv_aload_n hx hb d_L_blockOf_12 rfl (lv_at hl 1 rfl) ?_
    refine va_get (D := (dC, dI)) (ci := 2) (v := .ref (h 1)) (C := R_L) (T := T_L) (N := 6) hx hb htb in_L hown hK hP 3 rfl rfl 0 (by decide) (htb _ tw_119) (fun _ h9 => h9) rfl d_L_blockOf_13 ?_
    refine lv_lload_n hx hb d_L_blockOf_16 rfl (lv_at hl 0 rfl) ?_
    refine lv_ldc2 (v := 40) hx hb hown (htb _ tw_422) d_L_blockOf_17 ?_
    refine lv_ladd hx hb d_L_blockOf_20 ?_
    refine lv_iconst (v := 4) hx hb d_L_blockOf_21 (by decide) ?_
    refine lv_iload_n hx hb d_L_blockOf_22 rfl (lv_at hl 3 rfl) ?_
    refine lv_imul hx hb d_L_blockOf_23 ?_
    refine lv_i2l hx hb d_L_blockOf_24 rfl ?_
    refine lv_ladd hx hb d_L_blockOf_25 ?_
    refine lv_iconst (v := 4) hx hb d_L_blockOf_26 (by decide) ?_
    obtain ⟨r_18, hc_19, hf⟩ := bd1_s hf
    refine ucVl (As := [.long ((r_1 + ((40 : Int64))) + (Int32.toInt64 (((4 : Int32)) * a2))), .int ((4 : Int32))]) (rest := []) ⟨hx, hb, hml, hown, htb⟩ hK hP hD hS hA (fun hs => c_D_number hc_19) (cwV 2 htb (gV tw_289 tw_264 tw_265 tw_69 tw_266) rfl rfl rfl (by decide +kernel) ⟨Nat.le_of_ble_eq_true rfl, Nat.le_of_ble_eq_true rfl⟩) 1 0 rfl rfl rfl rfl rfl hl.1 (Nat.le_of_ble_eq_true rfl) d_L_blockOf_27 ⟨Nat.zero_le _, Nat.zero_le _⟩ (fun H locs hP hD hS => ?_)
    cases hf
    exact hret _ _ _ _ hP hD hS d_L_blockOf_30
set_option maxHeartbeats 4000000 in
set_option maxRecDepth 100000 in
theorem c_L_isInode {l : Launch} {dC : Nat → ClassId} {dI : Nat → Nat → Nat} {h : Nat → Nat} {cI : ClassId} {cL : ClassId} {NW : Nat} {bk : Int32} {sz : Int32} {wd : Nat → Int64} {mb : Nat → Int32} {gB : Int32} {gI : Int32} {gN : Int32} {iN : Int32} {dr : Int32} {es : Int64} {of : Int64} {od : Int32} {pl : Int64} {hd : Int64} {tk : Nat → Int32} {kn : Nat → Int32} {li : Nat → Int32} {pa : Nat → Int32} {ins : Nat → Int32} {cm : Int32} {fd : Int32} {hr : Int32} {hs : Nat} {a1 : Int64} {r : Int32} (hf : f_L_isInode NW iN a1 = some (r)) : Met l y_L_isInode ws_L_isInode { frames := 0, cells := 0, slots := 0, locals := 0 } (PcU (dC, dI) clAll [(cI, .int), (cL, .long)] (wC h cI cL NW bk sz wd mb gB gI gN iN dr es of od pl hd tk kn li pa ins cm fd hr) hs [.ref (h 3), .long a1]) (QUi (dC, dI) clAll [(cI, .int), (cL, .long)] (wC h cI cL NW bk sz wd mb gB gI gN iN dr es of od pl hd tk kn li pa ins cm fd hr) (wC h cI cL NW bk sz wd mb gB gI gN iN dr es of od pl hd tk kn li pa ins cm fd hr) hs r) 0 0 (va_A (wC h cI cL NW bk sz wd mb gB gI gN iN dr es of od pl hd tk kn li pa ins cm fd hr) hs) := by
  refine mUz (cc := b_L_isInode) (maxL := 3) (by decide) rfl (Nat.le_of_ble_eq_true rfl) ?_
  intro p e s m args below meth c Q hx hb hml hts hown A hA hK hP hD hS hret ls hl
  have htb : ∀ w ∈ TB, w.before args s = true := fun w h => hts w (List.mem_cons_of_mem _ h)
  have hl : lv_has ls 3 [(0, .ref (h 3)), (1, .long a1)] := hl
  unfold f_L_isInode at hf
  refine lv_lload_n hx hb d_L_isInode_0 rfl (lv_at hl 1 rfl) ?_
  refine lv_lconst (v := 1) hx hb d_L_isInode_1 (by decide) ?_
  refine lc_lt (tgt := 20) hx hb d_L_isInode_2 d_L_isInode_3 (by decide) (fun c_1 => ?_) (fun c_1 => ?_)
  · have hf := ite_t c_1 hf
    refine lv_iconst (v := 0) hx hb d_L_isInode_20 (by decide) ?_
    cases hf
    exact hret _ _ _ _ (Or.inl rfl) hP hD hS d_L_isInode_21
  · have hf := ite_f c_1 hf
    refine lv_lload_n hx hb d_L_isInode_6 rfl (lv_at hl 1 rfl) ?_
    refine lv_aload_n hx hb d_L_isInode_7 rfl (lv_at hl 0 rfl) ?_
    refine va_get (D := (dC, dI)) (ci := 2) (v := .int iN) (C := R_L) (T := T_L) (N := 6) hx hb htb in_L hown hK hP 3 rfl rfl 5 (by decide) (htb _ tw_124) (fun _ h9 => h9) rfl d_L_isInode_8 ?_
    refine lv_i2l hx hb d_L_isInode_11 rfl ?_
    refine lc_gt (tgt := 20) hx hb d_L_isInode_12 d_L_isInode_13 (by decide) (fun c_2 => ?_) (fun c_2 => ?_)
    · have hf := ite_t c_2 hf
      refine lv_iconst (v := 0) hx hb d_L_isInode_20 (by decide) ?_
      cases hf
      exact hret _ _ _ _ (Or.inl rfl) hP hD hS d_L_isInode_21
    · have hf := ite_f c_2 hf
      refine lv_iconst (v := 1) hx hb d_L_isInode_16 (by decide) ?_
      refine lv_goto (tgt := 21) hx hb d_L_isInode_17 (by decide) ?_
      cases hf
      exact hret _ _ _ _ (Or.inr rfl) hP hD hS d_L_isInode_21
set_option maxHeartbeats 4000000 in
set_option maxRecDepth 100000 in
theorem c_L_blockMap {l : Launch} {dC : Nat → ClassId} {dI : Nat → Nat → Nat} {h : Nat → Nat} {cI : ClassId} {cL : ClassId} {NW : Nat} {bk : Int32} {sz : Int32} {wd : Nat → Int64} {mb : Nat → Int32} {gB : Int32} {gI : Int32} {gN : Int32} {iN : Int32} {dr : Int32} {es : Int64} {of : Int64} {od : Int32} {pl : Int64} {hd : Int64} {tk : Nat → Int32} {kn : Nat → Int32} {li : Nat → Int32} {pa : Nat → Int32} {ins : Nat → Int32} {cm : Int32} {fd : Int32} {hr : Int32} {hs : Nat} {a1 : Int32} {r : Int64} (hf : f_L_blockMap NW mb a1 = some (r)) : Met l y_L_blockMap ws_L_blockMap { frames := 0, cells := 0, slots := 0, locals := 0 } (PcU (dC, dI) clAll [(cI, .int), (cL, .long)] (wC h cI cL NW bk sz wd mb gB gI gN iN dr es of od pl hd tk kn li pa ins cm fd hr) hs [.ref (h 3), .int a1]) (QUl (dC, dI) clAll [(cI, .int), (cL, .long)] (wC h cI cL NW bk sz wd mb gB gI gN iN dr es of od pl hd tk kn li pa ins cm fd hr) (wC h cI cL NW bk sz wd mb gB gI gN iN dr es of od pl hd tk kn li pa ins cm fd hr) hs r) 0 0 (va_A (wC h cI cL NW bk sz wd mb gB gI gN iN dr es of od pl hd tk kn li pa ins cm fd hr) hs) := by
  refine mUl (cc := b_L_blockMap) (maxL := 2) (by decide) rfl (Nat.le_of_ble_eq_true rfl) ?_
  intro p e s m args below meth c Q hx hb hml hts hown A hA hK hP hD hS hret ls hl
  have htb : ∀ w ∈ TB, w.before args s = true := fun w h => hts w (List.mem_cons_of_mem _ h)
  have hl : lv_has ls 2 [(0, .ref (h 3)), (1, .int a1)] := hl
  unfold f_L_blockMap at hf
  refine lv_iload_n hx hb d_L_blockMap_0 rfl (lv_at hl 1 rfl) ?_
  refine lv_if_lt (tgt := 24) hx hb d_L_blockMap_1 (by decide) (fun c_1 => ?_) (fun c_1 => ?_)
  · have hf := ite_t c_1 hf
    refine lv_ldc2 (v := -1024) hx hb hown (htb _ tw_386) d_L_blockMap_24 ?_
    cases hf
    exact hret _ _ _ _ hP hD hS d_L_blockMap_27
  · have hf := ite_f c_1 hf
    refine lv_iload_n hx hb d_L_blockMap_4 rfl (lv_at hl 1 rfl) ?_
    refine lv_bipush (v := 8) hx hb d_L_blockMap_5 (by decide) ?_
    refine lv_icmp_ge (tgt := 24) hx hb d_L_blockMap_7 (by decide) (fun c_2 => ?_) (fun c_2 => ?_)
    · have hf := ite_t c_2 hf
      refine lv_ldc2 (v := -1024) hx hb hown (htb _ tw_386) d_L_blockMap_24 ?_
      cases hf
      exact hret _ _ _ _ hP hD hS d_L_blockMap_27
    · have hf := ite_f c_2 hf
      refine lv_ldc2 (v := 1024) hx hb hown (htb _ tw_377) d_L_blockMap_10 ?_
      refine lv_aload_n hx hb d_L_blockMap_13 rfl (lv_at hl 0 rfl) ?_
      refine va_get (D := (dC, dI)) (ci := 2) (v := .ref (h 4)) (C := R_L) (T := T_L) (N := 6) hx hb htb in_L hown hK hP 3 rfl rfl 1 (by decide) (htb _ tw_120) (fun _ h9 => h9) rfl d_L_blockMap_14 ?_
      refine lv_iload_n hx hb d_L_blockMap_17 rfl (lv_at hl 1 rfl) ?_
      obtain ⟨c_3, hf⟩ := gd_s hf
      refine va_iald (i := a1) hx hb hK hP 4 0 rfl rfl c_3 d_L_blockMap_18 ?_
      refine lv_i2l hx hb d_L_blockMap_19 rfl ?_
      refine lv_lmul hx hb d_L_blockMap_20 ?_
      refine lv_goto (tgt := 27) hx hb d_L_blockMap_21 (by decide) ?_
      cases hf
      exact hret _ _ _ _ hP hD hS d_L_blockMap_27
set_option maxHeartbeats 4000000 in
set_option maxRecDepth 100000 in
theorem c_L_inodeMap {l : Launch} {dC : Nat → ClassId} {dI : Nat → Nat → Nat} {h : Nat → Nat} {cI : ClassId} {cL : ClassId} {NW : Nat} {bk : Int32} {sz : Int32} {wd : Nat → Int64} {mb : Nat → Int32} {gB : Int32} {gI : Int32} {gN : Int32} {iN : Int32} {dr : Int32} {es : Int64} {of : Int64} {od : Int32} {pl : Int64} {hd : Int64} {tk : Nat → Int32} {kn : Nat → Int32} {li : Nat → Int32} {pa : Nat → Int32} {ins : Nat → Int32} {cm : Int32} {fd : Int32} {hr : Int32} {hs : Nat} {a1 : Int32} {r : Int64} (hf : f_L_inodeMap NW mb a1 = some (r)) : Met l y_L_inodeMap ws_L_inodeMap { frames := 1, cells := 0, slots := 0, locals := 21 } (PcU (dC, dI) clAll [(cI, .int), (cL, .long)] (wC h cI cL NW bk sz wd mb gB gI gN iN dr es of od pl hd tk kn li pa ins cm fd hr) hs [.ref (h 3), .int a1]) (QUl (dC, dI) clAll [(cI, .int), (cL, .long)] (wC h cI cL NW bk sz wd mb gB gI gN iN dr es of od pl hd tk kn li pa ins cm fd hr) (wC h cI cL NW bk sz wd mb gB gI gN iN dr es of od pl hd tk kn li pa ins cm fd hr) hs r) 0 0 (va_A (wC h cI cL NW bk sz wd mb gB gI gN iN dr es of od pl hd tk kn li pa ins cm fd hr) hs) := by
  refine mUl (cc := b_L_inodeMap) (maxL := 2) (by decide) rfl (Nat.le_of_ble_eq_true rfl) ?_
  intro p e s m args below meth c Q hx hb hml hts hown A hA hK hP hD hS hret ls hl
  have htb : ∀ w ∈ TB, w.before args s = true := fun w h => hts w (List.mem_cons_of_mem _ h)
  have hl : lv_has ls 2 [(0, .ref (h 3)), (1, .int a1)] := hl
  unfold f_L_inodeMap at hf
  refine lv_aload_n hx hb d_L_inodeMap_0 rfl (lv_at hl 0 rfl) ?_
  refine lv_iload_n hx hb d_L_inodeMap_1 rfl (lv_at hl 1 rfl) ?_
  obtain ⟨r_1, hc_2, hf⟩ := bd1_s hf
  refine ucVl (As := [.int a1]) (rest := []) ⟨hx, hb, hml, hown, htb⟩ hK hP hD hS hA (fun hs => c_L_blockMap hc_2) (cwV 1 htb (gV tw_566 tw_547 tw_548 tw_71 tw_549) rfl rfl rfl (by decide +kernel) ⟨Nat.le_of_ble_eq_true rfl, Nat.le_of_ble_eq_true rfl⟩) 3 2 rfl rfl rfl rfl rfl hl.1 (Nat.le_of_ble_eq_true rfl) d_L_inodeMap_2 ⟨Nat.zero_le _, Nat.zero_le _⟩ (fun H locs hP hD hS => ?_)
  refine lv_ldc2 (v := 1024) hx hb hown (htb _ tw_377) d_L_inodeMap_5 ?_
  refine lv_ladd hx hb d_L_inodeMap_8 ?_
  cases hf
  exact hret _ _ _ _ hP hD hS d_L_inodeMap_9
