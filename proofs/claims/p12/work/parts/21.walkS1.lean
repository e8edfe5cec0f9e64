set_option maxHeartbeats 4000000 in
set_option maxRecDepth 100000 in
theorem c_J_fill7 {l : Launch} {dC : Nat → ClassId} {dI : Nat → Nat → Nat} {N : Nat} {h : Nat → Nat} {cI : ClassId} {cL : ClassId} {NW : Nat} {bk : Int32} {sz : Int32} {wd : Nat → Int64} {mb : Nat → Int32} {gB : Int32} {gI : Int32} {gN : Int32} {iN : Int32} {dr : Int32} {es : Int64} {of : Int64} {od : Int32} {pl : Int64} {hd : Int64} {tk : Nat → Int32} {kn : Nat → Int32} {li : Nat → Int32} {pa : Nat → Int32} {ins : Nat → Int32} {cm : Int32} {fd : Int32} {hr : Int32} {hs : Nat} {a1 : Int32} {tk' : Nat → Int32} (hf : f_J_fill7 N NW tk a1 = some (tk')) : Met l y_J_fill ws_J_fill { frames := 0, cells := 0, slots := 0, locals := 0 } (PcU (dC, dI) clAll [(cI, .int), (cL, .long)] (wC h cI cL NW bk sz wd mb gB gI gN iN dr es of od pl hd tk kn li pa ins cm fd hr) hs [.ref (h 7), .int a1]) (QUv (dC, dI) clAll [(cI, .int), (cL, .long)] (wC h cI cL NW bk sz wd mb gB gI gN iN dr es of od pl hd tk kn li pa ins cm fd hr) (wC h cI cL NW bk sz wd mb gB gI gN iN dr es of od pl hd tk' kn li pa ins cm fd hr) hs) 0 0 (va_A (wC h cI cL NW bk sz wd mb gB gI gN iN dr es of od pl hd tk kn li pa ins cm fd hr) hs) := by
  refine mUv (cc := b_J_fill) (maxL := 4) (by decide) rfl (Nat.le_of_ble_eq_true rfl) ?_
  intro p e s m args below meth c Q hx hb hml hts hown A hA hK hP hD hS hret ls hl
  have htb : ∀ w ∈ TB, w.before args s = true := fun w h => hts w (List.mem_cons_of_mem _ h)
  have hl : lv_has ls 4 [(0, .ref (h 7)), (1, .int a1)] := hl
  have hj_5 : ∀ (k_5 : Nat) (tk : Nat → Int32) (x1 : Int32) (x2 : Int32) (x3 : Int32) (H : Heap) (locs : List Loc) (ls : Array Slot), f_J_fill7_5 N NW k_5 tk x1 x2 x3 = some (tk') → va_P (dC, dI) clAll (wC h cI cL NW bk sz wd mb gB gI gN iN dr es of od pl hd tk kn li pa ins cm fd hr) H → va_D A (wC h cI cL NW bk sz wd mb gB gI gN iN dr es of od pl hd tk kn li pa ins cm fd hr) → va_S A s.heap H locs → lv_has ls 4 [(0, .ref (h 7)), (1, .int x1), (2, .int x2), (3, .int x3)] → W p l e (headSpec ws_J_fill { frames := 0, cells := 0, slots := 0, locals := 0 }).room s m args below meth c H locs 0 0 Q (F0 m 5 ls []) := by
    intro k_5
    induction k_5 with
    | zero => intro _ _ _ _ _ _ _ hf; exact absurd hf (by simp [f_J_fill7_5])
    | succ k_5 ih_5 =>
      intro tk x1 x2 x3 H locs ls hf hP hD hS hl
      rw [f_J_fill7_5] at hf
      refine lv_iload_n hx hb d_J_fill_5 rfl (lv_at hl 2 rfl) ?_
      refine lv_iload_n hx hb d_J_fill_6 rfl (lv_at hl 3 rfl) ?_
      refine lv_icmp_ge (tgt := 20) hx hb d_J_fill_7 (by decide) (fun c_1 => ?_) (fun c_1 => ?_)
      · have hf := ite_t c_1 hf
        cases hf
        exact hret _ _ _ _ hP hD hS d_J_fill_20
      · have hf := ite_f c_1 hf
        refine lv_aload_n hx hb d_J_fill_10 rfl (lv_at hl 0 rfl) ?_
        refine lv_iload_n hx hb d_J_fill_11 rfl (lv_at hl 2 rfl) ?_
        refine lv_iload_n hx hb d_J_fill_12 rfl (lv_at hl 1 rfl) ?_
        obtain ⟨c_2, hf⟩ := gd_s hf
        refine va_iast (i := x2) (x := x1) hx hb hK hP hD hS 7 0 rfl rfl c_2 d_J_fill_13 (fun H locs hP hD hS => ?_)
        obtain ⟨tk_3, etk_3, hf⟩ := lt1_s hf
        have hP : va_P (dC, dI) clAll (wC h cI cL NW bk sz wd mb gB gI gN iN dr es of od pl hd tk_3 kn li pa ins cm fd hr) H := etk_3 ▸ hP
        have hD : va_D A (wC h cI cL NW bk sz wd mb gB gI gN iN dr es of od pl hd tk_3 kn li pa ins cm fd hr) := etk_3 ▸ hD
        obtain ⟨v2_4, ev2_4, hf⟩ := lt1_s hf
        refine lv_iinc (v := v2_4) (lv' := [(2, .int v2_4), (0, .ref (h 7)), (1, .int x1), (3, .int x3)]) hx hb d_J_fill_14 hl (k := 2) rfl (by rw [← ev2_4]; rfl) (by decide) rfl (fun ls hl => ?_)
        refine lv_goto (tgt := 5) hx hb d_J_fill_17 (by decide) ?_
        exact ih_5 tk_3 x1 v2_4 x3 _ _ _ hf hP hD hS (lv_sub hl [1, 2, 0, 3] rfl)
  unfold f_J_fill7 at hf
  refine lv_iconst (v := 0) hx hb d_J_fill_0 (by decide) ?_
  refine lv_istore_n (lv' := [(2, .int ((0 : Int32))), (0, .ref (h 7)), (1, .int a1)]) hx hb d_J_fill_1 rfl hl (by decide) rfl (fun ls hl => ?_)
  refine lv_aload_n hx hb d_J_fill_2 rfl (lv_at hl 1 rfl) ?_
  refine va_alen (v := (512 : Int32)) hx hb hK hP 7 0 rfl rfl rfl d_J_fill_3 ?_
  refine lv_istore_n (lv' := [(3, .int ((512 : Int32))), (2, .int ((0 : Int32))), (0, .ref (h 7)), (1, .int a1)]) hx hb d_J_fill_4 rfl hl (by decide) rfl (fun ls hl => ?_)
  exact hj_5 N tk a1 ((0 : Int32)) ((512 : Int32)) _ _ _ hf hP hD hS (lv_sub hl [2, 3, 1, 0] rfl)
set_option maxHeartbeats 4000000 in
set_option maxRecDepth 100000 in
theorem c_J_fill8 {l : Launch} {dC : Nat → ClassId} {dI : Nat → Nat → Nat} {N : Nat} {h : Nat → Nat} {cI : ClassId} {cL : ClassId} {NW : Nat} {bk : Int32} {sz : Int32} {wd : Nat → Int64} {mb : Nat → Int32} {gB : Int32} {gI : Int32} {gN : Int32} {iN : Int32} {dr : Int32} {es : Int64} {of : Int64} {od : Int32} {pl : Int64} {hd : Int64} {tk : Nat → Int32} {kn : Nat → Int32} {li : Nat → Int32} {pa : Nat → Int32} {ins : Nat → Int32} {cm : Int32} {fd : Int32} {hr : Int32} {hs : Nat} {a1 : Int32} {kn' : Nat → Int32} (hf : f_J_fill8 N NW kn a1 = some (kn')) : Met l y_J_fill ws_J_fill { frames := 0, cells := 0, slots := 0, locals := 0 } (PcU (dC, dI) clAll [(cI, .int), (cL, .long)] (wC h cI cL NW bk sz wd mb gB gI gN iN dr es of od pl hd tk kn li pa ins cm fd hr) hs [.ref (h 8), .int a1]) (QUv (dC, dI) clAll [(cI, .int), (cL, .long)] (wC h cI cL NW bk sz wd mb gB gI gN iN dr es of od pl hd tk kn li pa ins cm fd hr) (wC h cI cL NW bk sz wd mb gB gI gN iN dr es of od pl hd tk kn' li pa ins cm fd hr) hs) 0 0 (va_A (wC h cI cL NW bk sz wd mb gB gI gN iN dr es of od pl hd tk kn li pa ins cm fd hr) hs) := by
  refine mUv (cc := b_J_fill) (maxL := 4) (by decide) rfl (Nat.le_of_ble_eq_true rfl) ?_
  intro p e s m args below meth c Q hx hb hml hts hown A hA hK hP hD hS hret ls hl
  have htb : ∀ w ∈ TB, w.before args s = true := fun w h => hts w (List.mem_cons_of_mem _ h)
  have hl : lv_has ls 4 [(0, .ref (h 8)), (1, .int a1)] := hl
  have hj_5 : ∀ (k_5 : Nat) (kn : Nat → Int32) (x1 : Int32) (x2 : Int32) (x3 : Int32) (H : Heap) (locs : List Loc) (ls : Array Slot), f_J_fill8_5 N NW k_5 kn x1 x2 x3 = some (kn') → va_P (dC, dI) clAll (wC h cI cL NW bk sz wd mb gB gI gN iN dr es of od pl hd tk kn li pa ins cm fd hr) H → va_D A (wC h cI cL NW bk sz wd mb gB gI gN iN dr es of od pl hd tk kn li pa ins cm fd hr) → va_S A s.heap H locs → lv_has ls 4 [(0, .ref (h 8)), (1, .int x1), (2, .int x2), (3, .int x3)] → W p l e (headSpec ws_J_fill { frames := 0, cells := 0, slots := 0, locals := 0 }).room s m args below meth c H locs 0 0 Q (F0 m 5 ls []) := by
    intro k_5
    induction k_5 with
    | zero => intro _ _ _ _ _ _ _ hf; exact absurd hf (by simp [f_J_fill8_5])
    | succ k_5 ih_5 =>
      intro kn x1 x2 x3 H locs ls hf hP hD hS hl
      rw [f_J_fill8_5] at hf
      refine lv_iload_n hx hb d_J_fill_5 rfl (lv_at hl 2 rfl) ?_
      refine lv_iload_n hx hb d_J_fill_6 rfl (lv_at hl 3 rfl) ?_
      refine lv_icmp_ge (tgt := 20) hx hb d_J_fill_7 (by decide) (fun c_1 => ?_) (fun c_1 => ?_)
      · have hf := ite_t c_1 hf
        cases hf
        exact hret _ _ _ _ hP hD hS d_J_fill_20
      · have hf := ite_f c_1 hf
        refine lv_aload_n hx hb d_J_fill_10 rfl (lv_at hl 0 rfl) ?_
        refine lv_iload_n hx hb d_J_fill_11 rfl (lv_at hl 2 rfl) ?_
        refine lv_iload_n hx hb d_J_fill_12 rfl (lv_at hl 1 rfl) ?_
        obtain ⟨c_2, hf⟩ := gd_s hf
        refine va_iast (i := x2) (x := x1) hx hb hK hP hD hS 8 0 rfl rfl c_2 d_J_fill_13 (fun H locs hP hD hS => ?_)
        obtain ⟨kn_3, ekn_3, hf⟩ := lt1_s hf
        have hP : va_P (dC, dI) clAll (wC h cI cL NW bk sz wd mb gB gI gN iN dr es of od pl hd tk kn_3 li pa ins cm fd hr) H := ekn_3 ▸ hP
        have hD : va_D A (wC h cI cL NW bk sz wd mb gB gI gN iN dr es of od pl hd tk kn_3 li pa ins cm fd hr) := ekn_3 ▸ hD
        obtain ⟨v2_4, ev2_4, hf⟩ := lt1_s hf
        refine lv_iinc (v := v2_4) (lv' := [(2, .int v2_4), (0, .ref (h 8)), (1, .int x1), (3, .int x3)]) hx hb d_J_fill_14 hl (k := 2) rfl (by rw [← ev2_4]; rfl) (by decide) rfl (fun ls hl => ?_)
        refine lv_goto (tgt := 5) hx hb d_J_fill_17 (by decide) ?_
        exact ih_5 kn_3 x1 v2_4 x3 _ _ _ hf hP hD hS (lv_sub hl [1, 2, 0, 3] rfl)
  unfold f_J_fill8 at hf
  refine lv_iconst (v := 0) hx hb d_J_fill_0 (by decide) ?_
  refine lv_istore_n (lv' := [(2, .int ((0 : Int32))), (0, .ref (h 8)), (1, .int a1)]) hx hb d_J_fill_1 rfl hl (by decide) rfl (fun ls hl => ?_)
  refine lv_aload_n hx hb d_J_fill_2 rfl (lv_at hl 1 rfl) ?_
  refine va_alen (v := (4097 : Int32)) hx hb hK hP 8 0 rfl rfl rfl d_J_fill_3 ?_
  refine lv_istore_n (lv' := [(3, .int ((4097 : Int32))), (2, .int ((0 : Int32))), (0, .ref (h 8)), (1, .int a1)]) hx hb d_J_fill_4 rfl hl (by decide) rfl (fun ls hl => ?_)
  exact hj_5 N kn a1 ((0 : Int32)) ((4097 : Int32)) _ _ _ hf hP hD hS (lv_sub hl [2, 3, 1, 0] rfl)
set_option maxHeartbeats 4000000 in
set_option maxRecDepth 100000 in
theorem c_S_forget {l : Launch} {dC : Nat → ClassId} {dI : Nat → Nat → Nat} {h : Nat → Nat} {cI : ClassId} {cL : ClassId} {NW : Nat} {bk : Int32} {sz : Int32} {wd : Nat → Int64} {mb : Nat → Int32} {gB : Int32} {gI : Int32} {gN : Int32} {iN : Int32} {dr : Int32} {es : Int64} {of : Int64} {od : Int32} {pl : Int64} {hd : Int64} {tk : Nat → Int32} {kn : Nat → Int32} {li : Nat → Int32} {pa : Nat → Int32} {ins : Nat → Int32} {cm : Int32} {fd : Int32} {hr : Int32} {hs : Nat} {fd' : Int32} (hf : f_S_forget NW fd = some (fd')) : Met l y_S_forget ws_S_forget { frames := 0, cells := 0, slots := 0, locals := 0 } (PcU (dC, dI) clAll [(cI, .int), (cL, .long)] (wC h cI cL NW bk sz wd mb gB gI gN iN dr es of od pl hd tk kn li pa ins cm fd hr) hs [.ref (h 6)]) (QUv (dC, dI) clAll [(cI, .int), (cL, .long)] (wC h cI cL NW bk sz wd mb gB gI gN iN dr es of od pl hd tk kn li pa ins cm fd hr) (wC h cI cL NW bk sz wd mb gB gI gN iN dr es of od pl hd tk kn li pa ins cm fd' hr) hs) 0 0 (va_A (wC h cI cL NW bk sz wd mb gB gI gN iN dr es of od pl hd tk kn li pa ins cm fd hr) hs) := by
  refine mUv (cc := b_S_forget) (maxL := 1) (by decide) rfl (Nat.le_of_ble_eq_true rfl) ?_
  intro p e s m args below meth c Q hx hb hml hts hown A hA hK hP hD hS hret ls hl
  have htb : ∀ w ∈ TB, w.before args s = true := fun w h => hts w (List.mem_cons_of_mem _ h)
  have hl : lv_has ls 1 [(0, .ref (h 6))] := hl
  unfold f_S_forget at hf
  refine lv_aload_n hx hb d_S_forget_0 rfl (lv_at hl 0 rfl) ?_
  refine lv_iconst (v := -1) hx hb d_S_forget_1 (by decide) ?_
  refine va_put (D := (dC, dI)) (ci := 3) (v := .int ((-1 : Int32))) (ty := .int) (C := R_S) (T := T_S) (N := 10) hx hb htb in_S ty_S tyok_S nm_S hown hK hP hD hS 6 rfl rfl 9 (by decide) (htb _ tw_185) (fun _ h9 => h9) rfl (by decide +kernel) rfl rfl (Nat.le_of_ble_eq_true rfl) d_S_forget_2 (fun H locs hP hD hS => ?_)
  have hP : va_P (dC, dI) clAll (wC h cI cL NW bk sz wd mb gB gI gN iN dr es of od pl hd tk kn li pa ins cm ((-1 : Int32)) hr) H := hP
  have hD : va_D A (wC h cI cL NW bk sz wd mb gB gI gN iN dr es of od pl hd tk kn li pa ins cm ((-1 : Int32)) hr) := hD
  cases hf
  exact hret _ _ _ _ hP hD hS d_S_forget_5
set_option maxHeartbeats 4000000 in
set_option maxRecDepth 100000 in
theorem c_S_superblockHas {l : Launch} {dC : Nat → ClassId} {dI : Nat → Nat → Nat} {h : Nat → Nat} {cI : ClassId} {cL : ClassId} {NW : Nat} {bk : Int32} {sz : Int32} {wd : Nat → Int64} {mb : Nat → Int32} {gB : Int32} {gI : Int32} {gN : Int32} {iN : Int32} {dr : Int32} {es : Int64} {of : Int64} {od : Int32} {pl : Int64} {hd : Int64} {tk : Nat → Int32} {kn : Nat → Int32} {li : Nat → Int32} {pa : Nat → Int32} {ins : Nat → Int32} {cm : Int32} {fd : Int32} {hr : Int32} {hs : Nat} {a1 : Int32} {a2 : Int32} {a3 : Int64} {r : Int32} (hf : f_S_superblockHas NW sz wd a1 a2 a3 = some (r)) : Met l y_S_superblockHas ws_S_superblockHas { frames := 1, cells := 0, slots := 0, locals := 27 } (PcU (dC, dI) clAll [(cI, .int), (cL, .long)] (wC h cI cL NW bk sz wd mb gB gI gN iN dr es of od pl hd tk kn li pa ins cm fd hr) hs [.ref (h 6), .int a1, .int a2, .long a3]) (QUi (dC, dI) clAll [(cI, .int), (cL, .long)] (wC h cI cL NW bk sz wd mb gB gI gN iN dr es of od pl hd tk kn li pa ins cm fd hr) (wC h cI cL NW bk sz wd mb gB gI gN iN dr es of od pl hd tk kn li pa ins cm fd hr) hs r) 0 0 (va_A (wC h cI cL NW bk sz wd mb gB gI gN iN dr es of od pl hd tk kn li pa ins cm fd hr) hs) := by
  refine mUz (cc := b_S_superblockHas) (maxL := 5) (by decide) rfl (Nat.le_of_ble_eq_true rfl) ?_
  intro p e s m args below meth c Q hx hb hml hts hown A hA hK hP hD hS hret ls hl
  have htb : ∀ w ∈ TB, w.before args s = true := fun w h => hts w (List.mem_cons_of_mem _ h)
  have hl : lv_has ls 5 [(0, .ref (h 6)), (1, .int a1), (2, .int a2), (3, .long a3)] := hl
  unfold f_S_superblockHas at hf
  refine lv_aload_n hx hb d_S_superblockHas_0 rfl (lv_at hl 0 rfl) ?_
  refine va_get (D := (dC, dI)) (ci := 3) (v := .ref (h 1)) (C := R_S) (T := T_S) (N := 10) hx hb htb in_S hown hK hP 6 rfl rfl 0 (by decide) (htb _ tw_176) (fun _ h9 => h9) rfl d_S_superblockHas_1 ?_
  refine lv_sipush (v := 1024) hx hb d_S_superblockHas_4 (by decide) ?_
  refine lv_iload_n hx hb d_S_superblockHas_7 rfl (lv_at hl 1 rfl) ?_
  refine lv_iadd hx hb d_S_superblockHas_8 ?_
  refine lv_i2l hx hb d_S_superblockHas_9 rfl ?_
  refine lv_iload_n hx hb d_S_superblockHas_10 rfl (lv_at hl 2 rfl) ?_
  obtain ⟨r_1, hc_2, hf⟩ := bd1_s hf
  refine ucVl (As := [.long (Int32.toInt64 (((1024 : Int32)) + a1)), .int a2]) (rest := []) ⟨hx, hb, hml, hown, htb⟩ hK hP hD hS hA (fun hs => c_D_number hc_2) (cwV 2 htb (gV tw_308 tw_264 tw_265 tw_69 tw_266) rfl rfl rfl (by decide +kernel) ⟨Nat.le_of_ble_eq_true rfl, Nat.le_of_ble_eq_true rfl⟩) 1 0 rfl rfl rfl rfl rfl hl.1 (Nat.le_of_ble_eq_true rfl) d_S_superblockHas_11 ⟨Nat.zero_le _, Nat.zero_le _⟩ (fun H locs hP hD hS => ?_)
  refine lv_lload_n hx hb d_S_superblockHas_14 rfl (lv_at hl 3 rfl) ?_
  refine lc_ne (tgt := 23) hx hb d_S_superblockHas_15 d_S_superblockHas_16 (by decide) (fun c_3 => ?_) (fun c_3 => ?_)
  · have hf := ite_f c_3 hf
    refine lv_iconst (v := 0) hx hb d_S_superblockHas_23 (by decide) ?_
    cases hf
    exact hret _ _ _ _ (Or.inl rfl) hP hD hS d_S_superblockHas_24
  · have hf := ite_t c_3 hf
    refine lv_iconst (v := 1) hx hb d_S_superblockHas_19 (by decide) ?_
    refine lv_goto (tgt := 24) hx hb d_S_superblockHas_20 (by decide) ?_
    cases hf
    exact hret _ _ _ _ (Or.inr rfl) hP hD hS d_S_superblockHas_24
set_option maxHeartbeats 4000000 in
set_option maxRecDepth 100000 in
theorem c_S_superblockStands {l : Launch} {dC : Nat → ClassId} {dI : Nat → Nat → Nat} {h : Nat → Nat} {cI : ClassId} {cL : ClassId} {NW : Nat} {bk : Int32} {sz : Int32} {wd : Nat → Int64} {mb : Nat → Int32} {gB : Int32} {gI : Int32} {gN : Int32} {iN : Int32} {dr : Int32} {es : Int64} {of : Int64} {od : Int32} {pl : Int64} {hd : Int64} {tk : Nat → Int32} {kn : Nat → Int32} {li : Nat → Int32} {pa : Nat → Int32} {ins : Nat → Int32} {cm : Int32} {fd : Int32} {hr : Int32} {hs : Nat} {r : Int32} {gB' : Int32} {gI' : Int32} {gN' : Int32} {iN' : Int32} (hf : f_S_superblockStands NW bk sz wd gB gI gN iN = some (r, gB', gI', gN', iN')) : Met l y_S_superblockStands ws_S_superblockStands { frames := 2, cells := 0, slots := 0, locals := 51 } (PcU (dC, dI) clAll [(cI, .int), (cL, .long)] (wC h cI cL NW bk sz wd mb gB gI gN iN dr es of od pl hd tk kn li pa ins cm fd hr) hs [.ref (h 6)]) (QUi (dC, dI) clAll [(cI, .int), (cL, .long)] (wC h cI cL NW bk sz wd mb gB gI gN iN dr es of od pl hd tk kn li pa ins cm fd hr) (wC h cI cL NW bk sz wd mb gB' gI' gN' iN' dr es of od pl hd tk kn li pa ins cm fd hr) hs r) 0 0 (va_A (wC h cI cL NW bk sz wd mb gB gI gN iN dr es of od pl hd tk kn li pa ins cm fd hr) hs) := by
  refine mUz (cc := b_S_superblockStands) (maxL := 1) (by decide) rfl (Nat.le_of_ble_eq_true rfl) ?_
  intro p e s m args below meth c Q hx hb hml hts hown A hA hK hP hD hS hret ls hl
  have htb : ∀ w ∈ TB, w.before args s = true := fun w h => hts w (List.mem_cons_of_mem _ h)
  have hl : lv_has ls 1 [(0, .ref (h 6))] := hl
  unfold f_S_superblockStands at hf
  refine lv_aload_n hx hb d_S_superblockStands_0 rfl (lv_at hl 0 rfl) ?_
  refine va_get (D := (dC, dI)) (ci := 3) (v := .ref (h 3)) (C := R_S) (T := T_S) (N := 10) hx hb htb in_S hown hK hP 6 rfl rfl 1 (by decide) (htb _ tw_177) (fun _ h9 => h9) rfl d_S_superblockStands_1 ?_
  obtain ⟨r_1, gB_2, gI_3, gN_4, iN_5, hc_6, hf⟩ := bd5_s hf
  refine ucVi (As := []) (rest := []) ⟨hx, hb, hml, hown, htb⟩ hK hP hD hS hA (fun hs => c_L_readGroups hc_6) (cwV 0 htb (gV tw_284 tw_285 tw_286 tw_71 tw_287) rfl rfl rfl (by decide +kernel) ⟨Nat.le_of_ble_eq_true rfl, Nat.le_of_ble_eq_true rfl⟩) 3 2 rfl rfl rfl rfl rfl hl.1 (Nat.le_of_ble_eq_true rfl) d_S_superblockStands_4 ⟨Nat.zero_le _, Nat.zero_le _⟩ (fun H locs hP hD hS => ?_)
  refine lv_if_eq (tgt := 173) hx hb d_S_superblockStands_7 (by decide) (fun c_7 => ?_) (fun c_7 => ?_)
  · have hf := ite_t c_7 hf
    refine lv_iconst (v := 0) hx hb d_S_superblockStands_173 (by decide) ?_
    cases hf
    exact hret _ _ _ _ (Or.inl rfl) hP hD hS d_S_superblockStands_174
  · have hf := ite_f c_7 hf
    refine lv_aload_n hx hb d_S_superblockStands_10 rfl (lv_at hl 0 rfl) ?_
    refine lv_iconst (v := 0) hx hb d_S_superblockStands_11 (by decide) ?_
    refine lv_iconst (v := 4) hx hb d_S_superblockStands_12 (by decide) ?_
    refine lv_aload_n hx hb d_S_superblockStands_13 rfl (lv_at hl 0 rfl) ?_
    refine va_get (D := (dC, dI)) (ci := 3) (v := .ref (h 3)) (C := R_S) (T := T_S) (N := 10) hx hb htb in_S hown hK hP 6 rfl rfl 1 (by decide) (htb _ tw_177) (fun _ h9 => h9) rfl d_S_superblockStands_14 ?_
    obtain ⟨r_8, hc_9, hf⟩ := bd1_s hf
    refine ucVi (As := []) (rest := [.int ((4 : Int32)), .int ((0 : Int32)), .ref (h 6)]) ⟨hx, hb, hml, hown, htb⟩ hK hP hD hS hA (fun hs => c_L_inodes hc_9) (cwV 0 htb (gV tw_300 tw_301 tw_302 tw_71 tw_303) rfl rfl rfl (by decide +kernel) ⟨Nat.le_of_ble_eq_true rfl, Nat.le_of_ble_eq_true rfl⟩) 3 2 rfl rfl rfl rfl rfl hl.1 (Nat.le_of_ble_eq_true rfl) d_S_superblockStands_17 ⟨Nat.zero_le _, Nat.zero_le _⟩ (fun H locs hP hD hS => ?_)
    refine lv_i2l hx hb d_S_superblockStands_20 rfl ?_
    obtain ⟨r_10, hc_11, hf⟩ := bd1_s hf
    refine ucVi (As := [.int ((0 : Int32)), .int ((4 : Int32)), .long (Int32.toInt64 r_8)]) (rest := []) ⟨hx, hb, hml, hown, htb⟩ hK hP hD hS hA (fun hs => c_S_superblockHas hc_11) (cwV 3 htb (gV tw_304 tw_306 tw_2 tw_73 tw_307) rfl rfl rfl (by decide +kernel) ⟨Nat.le_of_ble_eq_true rfl, Nat.le_of_ble_eq_true rfl⟩) 6 3 rfl rfl rfl rfl rfl hl.1 (Nat.le_of_ble_eq_true rfl) d_S_superblockStands_21 ⟨Nat.zero_le _, Nat.zero_le _⟩ (fun H locs hP hD hS => ?_)
    refine lv_if_eq (tgt := 173) hx hb d_S_superblockStands_24 (by decide) (fun c_12 => ?_) (fun c_12 => ?_)
    · have hf := ite_t c_12 hf
      refine lv_iconst (v := 0) hx hb d_S_superblockStands_173 (by decide) ?_
      cases hf
      exact hret _ _ _ _ (Or.inl rfl) hP hD hS d_S_superblockStands_174
    · have hf := ite_f c_12 hf
      refine lv_aload_n hx hb d_S_superblockStands_27 rfl (lv_at hl 0 rfl) ?_
      refine lv_iconst (v := 4) hx hb d_S_superblockStands_28 (by decide) ?_
      refine lv_iconst (v := 4) hx hb d_S_superblockStands_29 (by decide) ?_
      refine lv_aload_n hx hb d_S_superblockStands_30 rfl (lv_at hl 0 rfl) ?_
      refine va_get (D := (dC, dI)) (ci := 3) (v := .ref (h 1)) (C := R_S) (T := T_S) (N := 10) hx hb htb in_S hown hK hP 6 rfl rfl 0 (by decide) (htb _ tw_176) (fun _ h9 => h9) rfl d_S_superblockStands_31 ?_
      obtain ⟨r_13, hc_14, hf⟩ := bd1_s hf
      refine ucVi (As := []) (rest := [.int ((4 : Int32)), .int ((4 : Int32)), .ref (h 6)]) ⟨hx, hb, hml, hown, htb⟩ hK hP hD hS hA (fun hs => c_D_blocks hc_14) (cwV 0 htb (gV tw_309 tw_297 tw_298 tw_69 tw_299) rfl rfl rfl (by decide +kernel) ⟨Nat.le_of_ble_eq_true rfl, Nat.le_of_ble_eq_true rfl⟩) 1 0 rfl rfl rfl rfl rfl hl.1 (Nat.le_of_ble_eq_true rfl) d_S_superblockStands_34 ⟨Nat.zero_le _, Nat.zero_le _⟩ (fun H locs hP hD hS => ?_)
      refine lv_i2l hx hb d_S_superblockStands_37 rfl ?_
      obtain ⟨r_15, hc_16, hf⟩ := bd1_s hf
      refine ucVi (As := [.int ((4 : Int32)), .int ((4 : Int32)), .long (Int32.toInt64 r_13)]) (rest := []) ⟨hx, hb, hml, hown, htb⟩ hK hP hD hS hA (fun hs => c_S_superblockHas hc_16) (cwV 3 htb (gV tw_304 tw_306 tw_2 tw_73 tw_307) rfl rfl rfl (by decide +kernel) ⟨Nat.le_of_ble_eq_true rfl, Nat.le_of_ble_eq_true rfl⟩) 6 3 rfl rfl rfl rfl rfl hl.1 (Nat.le_of_ble_eq_true rfl) d_S_superblockStands_38 ⟨Nat.zero_le _, Nat.zero_le _⟩ (fun H locs hP hD hS => ?_)
      refine lv_if_eq (tgt := 173) hx hb d_S_superblockStands_41 (by decide) (fun c_17 => ?_) (fun c_17 => ?_)
      · have hf := ite_t c_17 hf
        refine lv_iconst (v := 0) hx hb d_S_superblockStands_173 (by decide) ?_
        cases hf
        exact hret _ _ _ _ (Or.inl rfl) hP hD hS d_S_superblockStands_174
      · have hf := ite_f c_17 hf
        refine lv_aload_n hx hb d_S_superblockStands_44 rfl (lv_at hl 0 rfl) ?_
        refine lv_bipush (v := 20) hx hb d_S_superblockStands_45 (by decide) ?_
        refine lv_iconst (v := 4) hx hb d_S_superblockStands_47 (by decide) ?_
        refine lv_lconst (v := 1) hx hb d_S_superblockStands_48 (by decide) ?_
        obtain ⟨r_18, hc_19, hf⟩ := bd1_s hf
        refine ucVi (As := [.int ((20 : Int32)), .int ((4 : Int32)), .long ((1 : Int64))]) (rest := []) ⟨hx, hb, hml, hown, htb⟩ hK hP hD hS hA (fun hs => c_S_superblockHas hc_19) (cwV 3 htb (gV tw_304 tw_306 tw_2 tw_73 tw_307) rfl rfl rfl (by decide +kernel) ⟨Nat.le_of_ble_eq_true rfl, Nat.le_of_ble_eq_true rfl⟩) 6 3 rfl rfl rfl rfl rfl hl.1 (Nat.le_of_ble_eq_true rfl) d_S_superblockStands_49 ⟨Nat.zero_le _, Nat.zero_le _⟩ (fun H locs hP hD hS => ?_)
        refine lv_if_eq (tgt := 173) hx hb d_S_superblockStands_52 (by decide) (fun c_20 => ?_) (fun c_20 => ?_)
        · have hf := ite_t c_20 hf
          refine lv_iconst (v := 0) hx hb d_S_superblockStands_173 (by decide) ?_
          cases hf
          exact hret _ _ _ _ (Or.inl rfl) hP hD hS d_S_superblockStands_174
        · have hf := ite_f c_20 hf
          refine lv_aload_n hx hb d_S_superblockStands_55 rfl (lv_at hl 0 rfl) ?_
          refine lv_bipush (v := 24) hx hb d_S_superblockStands_56 (by decide) ?_
          refine lv_iconst (v := 4) hx hb d_S_superblockStands_58 (by decide) ?_
          refine lv_lconst (v := 0) hx hb d_S_superblockStands_59 (by decide) ?_
          obtain ⟨r_21, hc_22, hf⟩ := bd1_s hf
          refine ucVi (As := [.int ((24 : Int32)), .int ((4 : Int32)), .long ((0 : Int64))]) (rest := []) ⟨hx, hb, hml, hown, htb⟩ hK hP hD hS hA (fun hs => c_S_superblockHas hc_22) (cwV 3 htb (gV tw_304 tw_306 tw_2 tw_73 tw_307) rfl rfl rfl (by decide +kernel) ⟨Nat.le_of_ble_eq_true rfl, Nat.le_of_ble_eq_true rfl⟩) 6 3 rfl rfl rfl rfl rfl hl.1 (Nat.le_of_ble_eq_true rfl) d_S_superblockStands_60 ⟨Nat.zero_le _, Nat.zero_le _⟩ (fun H locs hP hD hS => ?_)
          refine lv_if_eq (tgt := 173) hx hb d_S_superblockStands_63 (by decide) (fun c_23 => ?_) (fun c_23 => ?_)
          · have hf := ite_t c_23 hf
            refine lv_iconst (v := 0) hx hb d_S_superblockStands_173 (by decide) ?_
            cases hf
            exact hret _ _ _ _ (Or.inl rfl) hP hD hS d_S_superblockStands_174
          · have hf := ite_f c_23 hf
            refine lv_aload_n hx hb d_S_superblockStands_66 rfl (lv_at hl 0 rfl) ?_
            refine lv_bipush (v := 36) hx hb d_S_superblockStands_67 (by decide) ?_
            refine lv_iconst (v := 4) hx hb d_S_superblockStands_69 (by decide) ?_
            refine lv_aload_n hx hb d_S_superblockStands_70 rfl (lv_at hl 0 rfl) ?_
            refine va_get (D := (dC, dI)) (ci := 3) (v := .ref (h 3)) (C := R_S) (T := T_S) (N := 10) hx hb htb in_S hown hK hP 6 rfl rfl 1 (by decide) (htb _ tw_177) (fun _ h9 => h9) rfl d_S_superblockStands_71 ?_
            obtain ⟨r_24, hc_25, hf⟩ := bd1_s hf
            refine ucVi (As := []) (rest := [.int ((4 : Int32)), .int ((36 : Int32)), .ref (h 6)]) ⟨hx, hb, hml, hown, htb⟩ hK hP hD hS hA (fun hs => c_L_groupBlocks hc_25) (cwV 0 htb (gV tw_310 tw_311 tw_312 tw_71 tw_313) rfl rfl rfl (by decide +kernel) ⟨Nat.le_of_ble_eq_true rfl, Nat.le_of_ble_eq_true rfl⟩) 3 2 rfl rfl rfl rfl rfl hl.1 (Nat.le_of_ble_eq_true rfl) d_S_superblockStands_74 ⟨Nat.zero_le _, Nat.zero_le _⟩ (fun H locs hP hD hS => ?_)
            refine lv_i2l hx hb d_S_superblockStands_77 rfl ?_
            obtain ⟨r_26, hc_27, hf⟩ := bd1_s hf
            refine ucVi (As := [.int ((36 : Int32)), .int ((4 : Int32)), .long (Int32.toInt64 r_24)]) (rest := []) ⟨hx, hb, hml, hown, htb⟩ hK hP hD hS hA (fun hs => c_S_superblockHas hc_27) (cwV 3 htb (gV tw_304 tw_306 tw_2 tw_73 tw_307) rfl rfl rfl (by decide +kernel) ⟨Nat.le_of_ble_eq_true rfl, Nat.le_of_ble_eq_true rfl⟩) 6 3 rfl rfl rfl rfl rfl hl.1 (Nat.le_of_ble_eq_true rfl) d_S_superblockStands_78 ⟨Nat.zero_le _, Nat.zero_le _⟩ (fun H locs hP hD hS => ?_)
            refine lv_if_eq (tgt := 173) hx hb d_S_superblockStands_81 (by decide) (fun c_28 => ?_) (fun c_28 => ?_)
            · have hf := ite_t c_28 hf
              refine lv_iconst (v := 0) hx hb d_S_superblockStands_173 (by decide) ?_
              cases hf
              exact hret _ _ _ _ (Or.inl rfl) hP hD hS d_S_superblockStands_174
            · have hf := ite_f c_28 hf
              refine lv_aload_n hx hb d_S_superblockStands_84 rfl (lv_at hl 0 rfl) ?_
              refine lv_bipush (v := 56) hx hb d_S_superblockStands_85 (by decide) ?_
              refine lv_iconst (v := 2) hx hb d_S_superblockStands_87 (by decide) ?_
              refine lv_ldc2 (v := 61267) hx hb hown (htb _ tw_314) d_S_superblockStands_88 ?_
              obtain ⟨r_29, hc_30, hf⟩ := bd1_s hf
              refine ucVi (As := [.int ((56 : Int32)), .int ((2 : Int32)), .long ((61267 : Int64))]) (rest := []) ⟨hx, hb, hml, hown, htb⟩ hK hP hD hS hA (fun hs => c_S_superblockHas hc_30) (cwV 3 htb (gV tw_304 tw_306 tw_2 tw_73 tw_307) rfl rfl rfl (by decide +kernel) ⟨Nat.le_of_ble_eq_true rfl, Nat.le_of_ble_eq_true rfl⟩) 6 3 rfl rfl rfl rfl rfl hl.1 (Nat.le_of_ble_eq_true rfl) d_S_superblockStands_91 ⟨Nat.zero_le _, Nat.zero_le _⟩ (fun H locs hP hD hS => ?_)
              refine lv_if_eq (tgt := 173) hx hb d_S_superblockStands_94 (by decide) (fun c_31 => ?_) (fun c_31 => ?_)
              · have hf := ite_t c_31 hf
                refine lv_iconst (v := 0) hx hb d_S_superblockStands_173 (by decide) ?_
                cases hf
                exact hret _ _ _ _ (Or.inl rfl) hP hD hS d_S_superblockStands_174
              · have hf := ite_f c_31 hf
                refine lv_aload_n hx hb d_S_superblockStands_97 rfl (lv_at hl 0 rfl) ?_
                refine lv_bipush (v := 58) hx hb d_S_superblockStands_98 (by decide) ?_
                refine lv_iconst (v := 2) hx hb d_S_superblockStands_100 (by decide) ?_
                refine lv_lconst (v := 1) hx hb d_S_superblockStands_101 (by decide) ?_
                obtain ⟨r_32, hc_33, hf⟩ := bd1_s hf
                refine ucVi (As := [.int ((58 : Int32)), .int ((2 : Int32)), .long ((1 : Int64))]) (rest := []) ⟨hx, hb, hml, hown, htb⟩ hK hP hD hS hA (fun hs => c_S_superblockHas hc_33) (cwV 3 htb (gV tw_304 tw_306 tw_2 tw_73 tw_307) rfl rfl rfl (by decide +kernel) ⟨Nat.le_of_ble_eq_true rfl, Nat.le_of_ble_eq_true rfl⟩) 6 3 rfl rfl rfl rfl rfl hl.1 (Nat.le_of_ble_eq_true rfl) d_S_superblockStands_102 ⟨Nat.zero_le _, Nat.zero_le _⟩ (fun H locs hP hD hS => ?_)
                refine lv_if_eq (tgt := 173) hx hb d_S_superblockStands_105 (by decide) (fun c_34 => ?_) (fun c_34 => ?_)
                · have hf := ite_t c_34 hf
                  refine lv_iconst (v := 0) hx hb d_S_superblockStands_173 (by decide) ?_
                  cases hf
                  exact hret _ _ _ _ (Or.inl rfl) hP hD hS d_S_superblockStands_174
                · have hf := ite_f c_34 hf
                  refine lv_aload_n hx hb d_S_superblockStands_108 rfl (lv_at hl 0 rfl) ?_
                  refine lv_bipush (v := 76) hx hb d_S_superblockStands_109 (by decide) ?_
                  refine lv_iconst (v := 4) hx hb d_S_superblockStands_111 (by decide) ?_
                  refine lv_lconst (v := 1) hx hb d_S_superblockStands_112 (by decide) ?_
                  obtain ⟨r_35, hc_36, hf⟩ := bd1_s hf
                  refine ucVi (As := [.int ((76 : Int32)), .int ((4 : Int32)), .long ((1 : Int64))]) (rest := []) ⟨hx, hb, hml, hown, htb⟩ hK hP hD hS hA (fun hs => c_S_superblockHas hc_36) (cwV 3 htb (gV tw_304 tw_306 tw_2 tw_73 tw_307) rfl rfl rfl (by decide +kernel) ⟨Nat.le_of_ble_eq_true rfl, Nat.le_of_ble_eq_true rfl⟩) 6 3 rfl rfl rfl rfl rfl hl.1 (Nat.le_of_ble_eq_true rfl) d_S_superblockStands_113 ⟨Nat.zero_le _, Nat.zero_le _⟩ (fun H locs hP hD hS => ?_)
                  refine lv_if_eq (tgt := 173) hx hb d_S_superblockStands_116 (by decide) (fun c_37 => ?_) (fun c_37 => ?_)
                  · have hf := ite_t c_37 hf
                    refine lv_iconst (v := 0) hx hb d_S_superblockStands_173 (by decide) ?_
                    cases hf
                    exact hret _ _ _ _ (Or.inl rfl) hP hD hS d_S_superblockStands_174
                  · have hf := ite_f c_37 hf
                    refine lv_aload_n hx hb d_S_superblockStands_119 rfl (lv_at hl 0 rfl) ?_
                    refine lv_bipush (v := 84) hx hb d_S_superblockStands_120 (by decide) ?_
                    refine lv_iconst (v := 4) hx hb d_S_superblockStands_122 (by decide) ?_
                    refine lv_ldc2 (v := 11) hx hb hown (htb _ tw_315) d_S_superblockStands_123 ?_
                    obtain ⟨r_38, hc_39, hf⟩ := bd1_s hf
                    refine ucVi (As := [.int ((84 : Int32)), .int ((4 : Int32)), .long ((11 : Int64))]) (rest := []) ⟨hx, hb, hml, hown, htb⟩ hK hP hD hS hA (fun hs => c_S_superblockHas hc_39) (cwV 3 htb (gV tw_304 tw_306 tw_2 tw_73 tw_307) rfl rfl rfl (by decide +kernel) ⟨Nat.le_of_ble_eq_true rfl, Nat.le_of_ble_eq_true rfl⟩) 6 3 rfl rfl rfl rfl rfl hl.1 (Nat.le_of_ble_eq_true rfl) d_S_superblockStands_126 ⟨Nat.zero_le _, Nat.zero_le _⟩ (fun H locs hP hD hS => ?_)
                    refine lv_if_eq (tgt := 173) hx hb d_S_superblockStands_129 (by decide) (fun c_40 => ?_) (fun c_40 => ?_)
                    · have hf := ite_t c_40 hf
                      refine lv_iconst (v := 0) hx hb d_S_superblockStands_173 (by decide) ?_
                      cases hf
                      exact hret _ _ _ _ (Or.inl rfl) hP hD hS d_S_superblockStands_174
                    · have hf := ite_f c_40 hf
                      refine lv_aload_n hx hb d_S_superblockStands_132 rfl (lv_at hl 0 rfl) ?_
                      refine lv_bipush (v := 88) hx hb d_S_superblockStands_133 (by decide) ?_
                      refine lv_iconst (v := 2) hx hb d_S_superblockStands_135 (by decide) ?_
                      refine lv_ldc2 (v := 128) hx hb hown (htb _ tw_316) d_S_superblockStands_136 ?_
                      obtain ⟨r_41, hc_42, hf⟩ := bd1_s hf
                      refine ucVi (As := [.int ((88 : Int32)), .int ((2 : Int32)), .long ((128 : Int64))]) (rest := []) ⟨hx, hb, hml, hown, htb⟩ hK hP hD hS hA (fun hs => c_S_superblockHas hc_42) (cwV 3 htb (gV tw_304 tw_306 tw_2 tw_73 tw_307) rfl rfl rfl (by decide +kernel) ⟨Nat.le_of_ble_eq_true rfl, Nat.le_of_ble_eq_true rfl⟩) 6 3 rfl rfl rfl rfl rfl hl.1 (Nat.le_of_ble_eq_true rfl) d_S_superblockStands_139 ⟨Nat.zero_le _, Nat.zero_le _⟩ (fun H locs hP hD hS => ?_)
                      refine lv_if_eq (tgt := 173) hx hb d_S_superblockStands_142 (by decide) (fun c_43 => ?_) (fun c_43 => ?_)
                      · have hf := ite_t c_43 hf
                        refine lv_iconst (v := 0) hx hb d_S_superblockStands_173 (by decide) ?_
                        cases hf
                        exact hret _ _ _ _ (Or.inl rfl) hP hD hS d_S_superblockStands_174
                      · have hf := ite_f c_43 hf
                        refine lv_aload_n hx hb d_S_superblockStands_145 rfl (lv_at hl 0 rfl) ?_
                        refine lv_bipush (v := 90) hx hb d_S_superblockStands_146 (by decide) ?_
                        refine lv_iconst (v := 2) hx hb d_S_superblockStands_148 (by decide) ?_
                        refine lv_lconst (v := 0) hx hb d_S_superblockStands_149 (by decide) ?_
                        obtain ⟨r_44, hc_45, hf⟩ := bd1_s hf
                        refine ucVi (As := [.int ((90 : Int32)), .int ((2 : Int32)), .long ((0 : Int64))]) (rest := []) ⟨hx, hb, hml, hown, htb⟩ hK hP hD hS hA (fun hs => c_S_superblockHas hc_45) (cwV 3 htb (gV tw_304 tw_306 tw_2 tw_73 tw_307) rfl rfl rfl (by decide +kernel) ⟨Nat.le_of_ble_eq_true rfl, Nat.le_of_ble_eq_true rfl⟩) 6 3 rfl rfl rfl rfl rfl hl.1 (Nat.le_of_ble_eq_true rfl) d_S_superblockStands_150 ⟨Nat.zero_le _, Nat.zero_le _⟩ (fun H locs hP hD hS => ?_)
                        refine lv_if_eq (tgt := 173) hx hb d_S_superblockStands_153 (by decide) (fun c_46 => ?_) (fun c_46 => ?_)
                        · have hf := ite_t c_46 hf
                          refine lv_iconst (v := 0) hx hb d_S_superblockStands_173 (by decide) ?_
                          cases hf
                          exact hret _ _ _ _ (Or.inl rfl) hP hD hS d_S_superblockStands_174
                        · have hf := ite_f c_46 hf
                          refine lv_aload_n hx hb d_S_superblockStands_156 rfl (lv_at hl 0 rfl) ?_
                          refine lv_bipush (v := 96) hx hb d_S_superblockStands_157 (by decide) ?_
                          refine lv_iconst (v := 4) hx hb d_S_superblockStands_159 (by decide) ?_
                          refine lv_ldc2 (v := 2) hx hb hown (htb _ tw_317) d_S_superblockStands_160 ?_
                          obtain ⟨r_47, hc_48, hf⟩ := bd1_s hf
                          refine ucVi (As := [.int ((96 : Int32)), .int ((4 : Int32)), .long ((2 : Int64))]) (rest := []) ⟨hx, hb, hml, hown, htb⟩ hK hP hD hS hA (fun hs => c_S_superblockHas hc_48) (cwV 3 htb (gV tw_304 tw_306 tw_2 tw_73 tw_307) rfl rfl rfl (by decide +kernel) ⟨Nat.le_of_ble_eq_true rfl, Nat.le_of_ble_eq_true rfl⟩) 6 3 rfl rfl rfl rfl rfl hl.1 (Nat.le_of_ble_eq_true rfl) d_S_superblockStands_163 ⟨Nat.zero_le _, Nat.zero_le _⟩ (fun H locs hP hD hS => ?_)
                          refine lv_if_eq (tgt := 173) hx hb d_S_superblockStands_166 (by decide) (fun c_49 => ?_) (fun c_49 => ?_)
                          · have hf := ite_t c_49 hf
                            refine lv_iconst (v := 0) hx hb d_S_superblockStands_173 (by decide) ?_
                            cases hf
                            exact hret _ _ _ _ (Or.inl rfl) hP hD hS d_S_superblockStands_174
                          · have hf := ite_f c_49 hf
                            refine lv_iconst (v := 1) hx hb d_S_superblockStands_169 (by decide) ?_
                            refine lv_goto (tgt := 174) hx hb d_S_superblockStands_170 (by decide) ?_
                            cases hf
                            exact hret _ _ _ _ (Or.inr rfl) hP hD hS d_S_superblockStands_174
set_option maxHeartbeats 4000000 in
set_option maxRecDepth 100000 in
theorem c_S_hasCopies {l : Launch} {dC : Nat → ClassId} {dI : Nat → Nat → Nat} {N : Nat} {h : Nat → Nat} {cI : ClassId} {cL : ClassId} {NW : Nat} {bk : Int32} {sz : Int32} {wd : Nat → Int64} {mb : Nat → Int32} {gB : Int32} {gI : Int32} {gN : Int32} {iN : Int32} {dr : Int32} {es : Int64} {of : Int64} {od : Int32} {pl : Int64} {hd : Int64} {tk : Nat → Int32} {kn : Nat → Int32} {li : Nat → Int32} {pa : Nat → Int32} {ins : Nat → Int32} {cm : Int32} {fd : Int32} {hr : Int32} {hs : Nat} {a1 : Int32} {r : Int32} (hf : f_S_hasCopies N NW sz wd gB a1 = some (r)) : Met l y_S_hasCopies ws_S_hasCopies { frames := 1, cells := 0, slots := 0, locals := 27 } (PcU (dC, dI) clAll [(cI, .int), (cL, .long)] (wC h cI cL NW bk sz wd mb gB gI gN iN dr es of od pl hd tk kn li pa ins cm fd hr) hs [.ref (h 6), .int a1]) (QUi (dC, dI) clAll [(cI, .int), (cL, .long)] (wC h cI cL NW bk sz wd mb gB gI gN iN dr es of od pl hd tk kn li pa ins cm fd hr) (wC h cI cL NW bk sz wd mb gB gI gN iN dr es of od pl hd tk kn li pa ins cm fd hr) hs r) 0 0 (va_A (wC h cI cL NW bk sz wd mb gB gI gN iN dr es of od pl hd tk kn li pa ins cm fd hr) hs) := by
  refine mUz (cc := b_S_hasCopies) (maxL := 7) (by decide) rfl (Nat.le_of_ble_eq_true rfl) ?_
  intro p e s m args below meth c Q hx hb hml hts hown A hA hK hP hD hS hret ls hl
  have htb : ∀ w ∈ TB, w.before args s = true := fun w h => hts w (List.mem_cons_of_mem _ h)
  have hl : lv_has ls 7 [(0, .ref (h 6)), (1, .int a1)] := hl
  have hj_17 : ∀ (k_17 : Nat) (x1 : Int32) (x2 : Int64) (x4 : Int32) (H : Heap) (locs : List Loc) (ls : Array Slot), f_S_hasCopies_17 N NW sz wd gB k_17 x1 x2 x4 = some (r) → va_P (dC, dI) clAll (wC h cI cL NW bk sz wd mb gB gI gN iN dr es of od pl hd tk kn li pa ins cm fd hr) H → va_D A (wC h cI cL NW bk sz wd mb gB gI gN iN dr es of od pl hd tk kn li pa ins cm fd hr) → va_S A s.heap H locs → lv_has ls 7 [(0, .ref (h 6)), (1, .int x1), (2, .long x2), (4, .int x4)] → W p l e (headSpec ws_S_hasCopies { frames := 1, cells := 0, slots := 0, locals := 27 }).room s m args below meth c H locs 0 0 Q (F0 m 17 ls []) := by
    intro k_17
    induction k_17 with
    | zero => intro _ _ _ _ _ _ hf; exact absurd hf (by simp [f_S_hasCopies_17])
    | succ k_17 ih_17 =>
      have hj_60 : ∀ (x1 : Int32) (x2 : Int64) (x4 : Int32) (x5 : Int64) (H : Heap) (locs : List Loc) (ls : Array Slot), f_S_hasCopies_60 N NW sz wd gB (f_S_hasCopies_17 N NW sz wd gB k_17) x1 x2 x4 x5 = some (r) → va_P (dC, dI) clAll (wC h cI cL NW bk sz wd mb gB gI gN iN dr es of od pl hd tk kn li pa ins cm fd hr) H → va_D A (wC h cI cL NW bk sz wd mb gB gI gN iN dr es of od pl hd tk kn li pa ins cm fd hr) → va_S A s.heap H locs → lv_has ls 7 [(0, .ref (h 6)), (1, .int x1), (2, .long x2), (4, .int x4), (5, .long x5)] → W p l e (headSpec ws_S_hasCopies { frames := 1, cells := 0, slots := 0, locals := 27 }).room s m args below meth c H locs 0 0 Q (F0 m 60 ls []) := by
        intro x1 x2 x4 x5 H locs ls hf hP hD hS hl
        unfold f_S_hasCopies_60 at hf
        refine lv_aload_n hx hb d_S_hasCopies_60 rfl (lv_at hl 0 rfl) ?_
        refine va_get (D := (dC, dI)) (ci := 3) (v := .ref (h 1)) (C := R_S) (T := T_S) (N := 10) hx hb htb in_S hown hK hP 6 rfl rfl 0 (by decide) (htb _ tw_176) (fun _ h9 => h9) rfl d_S_hasCopies_61 ?_
        refine lv_lload_n hx hb d_S_hasCopies_64 rfl (lv_at hl 2 rfl) ?_
        refine lv_iload hx hb d_S_hasCopies_65 (lv_at hl 3 rfl) ?_
        refine lv_i2l hx hb d_S_hasCopies_67 rfl ?_
        refine lv_ladd hx hb d_S_hasCopies_68 ?_
        refine lv_bipush (v := 8) hx hb d_S_hasCopies_69 (by decide) ?_
        obtain ⟨r_1, hc_2, hf⟩ := bd1_s hf
        refine ucVl (As := [.long (x2 + (Int32.toInt64 x4)), .int ((8 : Int32))]) (rest := []) ⟨hx, hb, hml, hown, htb⟩ hK hP hD hS hA (fun hs => c_D_number hc_2) (cwV 2 htb (gV tw_308 tw_264 tw_265 tw_69 tw_266) rfl rfl rfl (by decide +kernel) ⟨Nat.le_of_ble_eq_true rfl, Nat.le_of_ble_eq_true rfl⟩) 1 0 rfl rfl rfl rfl rfl hl.1 (Nat.le_of_ble_eq_true rfl) d_S_hasCopies_71 ⟨Nat.zero_le _, Nat.zero_le _⟩ (fun H locs hP hD hS => ?_)
        refine lv_lload hx hb d_S_hasCopies_74 (lv_at hl 4 rfl) ?_
        refine lc_eq (tgt := 82) hx hb d_S_hasCopies_76 d_S_hasCopies_77 (by decide) (fun c_3 => ?_) (fun c_3 => ?_)
        · have hf := ite_t c_3 hf
          obtain ⟨v4_4, ev4_4, hf⟩ := lt1_s hf
          refine lv_iinc (v := v4_4) (lv' := [(4, .int v4_4), (0, .ref (h 6)), (1, .int x1), (2, .long x2), (5, .long x5)]) hx hb d_S_hasCopies_82 hl (k := 3) rfl (by rw [← ev4_4]; rfl) (by decide) rfl (fun ls hl => ?_)
          refine lv_goto (tgt := 17) hx hb d_S_hasCopies_85 (by decide) ?_
          exact ih_17 x1 x2 v4_4 _ _ _ hf hP hD hS (lv_sub hl [1, 2, 3, 0] rfl)
        · have hf := ite_f c_3 hf
          refine lv_iconst (v := 0) hx hb d_S_hasCopies_80 (by decide) ?_
          cases hf
          exact hret _ _ _ _ (Or.inl rfl) hP hD hS d_S_hasCopies_81
      intro x1 x2 x4 H locs ls hf hP hD hS hl
      rw [f_S_hasCopies_17] at hf
      refine lv_iload hx hb d_S_hasCopies_17 (lv_at hl 3 rfl) ?_
      refine lv_sipush (v := 2048) hx hb d_S_hasCopies_19 (by decide) ?_
      refine lv_icmp_ge (tgt := 88) hx hb d_S_hasCopies_22 (by decide) (fun c_1 => ?_) (fun c_1 => ?_)
      · have hf := ite_t c_1 hf
        refine lv_iconst (v := 1) hx hb d_S_hasCopies_88 (by decide) ?_
        cases hf
        exact hret _ _ _ _ (Or.inr rfl) hP hD hS d_S_hasCopies_89
      · have hf := ite_f c_1 hf
        refine lv_aload_n hx hb d_S_hasCopies_25 rfl (lv_at hl 0 rfl) ?_
        refine va_get (D := (dC, dI)) (ci := 3) (v := .ref (h 1)) (C := R_S) (T := T_S) (N := 10) hx hb htb in_S hown hK hP 6 rfl rfl 0 (by decide) (htb _ tw_176) (fun _ h9 => h9) rfl d_S_hasCopies_26 ?_
        refine lv_sipush (v := 1024) hx hb d_S_hasCopies_29 (by decide) ?_
        refine lv_iload hx hb d_S_hasCopies_32 (lv_at hl 3 rfl) ?_
        refine lv_iadd hx hb d_S_hasCopies_34 ?_
        refine lv_i2l hx hb d_S_hasCopies_35 rfl ?_
        refine lv_bipush (v := 8) hx hb d_S_hasCopies_36 (by decide) ?_
        obtain ⟨r_2, hc_3, hf⟩ := bd1_s hf
        refine ucVl (As := [.long (Int32.toInt64 (((1024 : Int32)) + x4)), .int ((8 : Int32))]) (rest := []) ⟨hx, hb, hml, hown, htb⟩ hK hP hD hS hA (fun hs => c_D_number hc_3) (cwV 2 htb (gV tw_308 tw_264 tw_265 tw_69 tw_266) rfl rfl rfl (by decide +kernel) ⟨Nat.le_of_ble_eq_true rfl, Nat.le_of_ble_eq_true rfl⟩) 1 0 rfl rfl rfl rfl rfl hl.1 (Nat.le_of_ble_eq_true rfl) d_S_hasCopies_38 ⟨Nat.zero_le _, Nat.zero_le _⟩ (fun H locs hP hD hS => ?_)
        refine lv_lstore (lv' := [(5, .long r_2), (0, .ref (h 6)), (1, .int x1), (2, .long x2), (4, .int x4)]) hx hb d_S_hasCopies_41 hl (by decide) rfl (fun ls hl => ?_)
        refine lv_iload hx hb d_S_hasCopies_43 (lv_at hl 4 rfl) ?_
        refine lv_bipush (v := 88) hx hb d_S_hasCopies_45 (by decide) ?_
        refine lv_icmp_ne (tgt := 60) hx hb d_S_hasCopies_47 (by decide) (fun c_4 => ?_) (fun c_4 => ?_)
        · have hf := ite_f c_4 hf
          exact hj_60 x1 x2 x4 r_2 _ _ _ hf hP hD hS (lv_sub hl [1, 2, 3, 4, 0] rfl)
        · have hf := ite_t c_4 hf
          refine lv_lload hx hb d_S_hasCopies_50 (lv_at hl 0 rfl) ?_
          refine lv_iload_n hx hb d_S_hasCopies_52 rfl (lv_at hl 2 rfl) ?_
          refine lv_i2l hx hb d_S_hasCopies_53 rfl ?_
          refine lv_bipush (v := 16) hx hb d_S_hasCopies_54 (by decide) ?_
          refine lv_lshl hx hb d_S_hasCopies_56 rfl ?_
          refine lv_lor hx hb d_S_hasCopies_57 ?_
          obtain ⟨v5_5, ev5_5, hf⟩ := lt1_s hf
          refine lv_eql ev5_5 ?_
          refine lv_lstore (lv' := [(5, .long v5_5), (0, .ref (h 6)), (1, .int x1), (2, .long x2), (4, .int x4)]) hx hb d_S_hasCopies_58 hl (by decide) rfl (fun ls hl => ?_)
          exact hj_60 x1 x2 x4 v5_5 _ _ _ hf hP hD hS (lv_sub hl [1, 2, 3, 4, 0] rfl)
  unfold f_S_hasCopies at hf
  refine lv_ldc2 (v := 1024) hx hb hown (htb _ tw_339) d_S_hasCopies_0 ?_
  refine lv_aload_n hx hb d_S_hasCopies_3 rfl (lv_at hl 0 rfl) ?_
  refine va_get (D := (dC, dI)) (ci := 3) (v := .ref (h 3)) (C := R_S) (T := T_S) (N := 10) hx hb htb in_S hown hK hP 6 rfl rfl 1 (by decide) (htb _ tw_177) (fun _ h9 => h9) rfl d_S_hasCopies_4 ?_
  refine lv_iload_n hx hb d_S_hasCopies_7 rfl (lv_at hl 1 rfl) ?_
  obtain ⟨r_1, hc_2, hf⟩ := bd1_s hf
  refine ucVi (As := [.int a1]) (rest := [.long ((1024 : Int64))]) ⟨hx, hb, hml, hown, htb⟩ hK hP hD hS hA (fun hs => c_L_firstBlock hc_2) (cwV 1 htb (gV tw_340 tw_331 tw_332 tw_71 tw_333) rfl rfl rfl (by decide +kernel) ⟨Nat.le_of_ble_eq_true rfl, Nat.le_of_ble_eq_true rfl⟩) 3 2 rfl rfl rfl rfl rfl hl.1 (Nat.le_of_ble_eq_true rfl) d_S_hasCopies_8 ⟨Nat.zero_le _, Nat.zero_le _⟩ (fun H locs hP hD hS => ?_)
  refine lv_i2l hx hb d_S_hasCopies_11 rfl ?_
  refine lv_lmul hx hb d_S_hasCopies_12 ?_
  obtain ⟨v2_3, ev2_3, hf⟩ := lt1_s hf
  refine lv_eql ev2_3 ?_
  refine lv_lstore_n (lv' := [(2, .long v2_3), (0, .ref (h 6)), (1, .int a1)]) hx hb d_S_hasCopies_13 rfl hl (by decide) rfl (fun ls hl => ?_)
  refine lv_iconst (v := 0) hx hb d_S_hasCopies_14 (by decide) ?_
  refine lv_istore (lv' := [(4, .int ((0 : Int32))), (2, .long v2_3), (0, .ref (h 6)), (1, .int a1)]) hx hb d_S_hasCopies_15 hl (by decide) rfl (fun ls hl => ?_)
  exact hj_17 N a1 v2_3 ((0 : Int32)) _ _ _ hf hP hD hS (lv_sub hl [2, 3, 1, 0] rfl)
set_option maxHeartbeats 4000000 in
set_option maxRecDepth 100000 in
theorem c_S_copiesStand {l : Launch} {dC : Nat → ClassId} {dI : Nat → Nat → Nat} {N : Nat} {h : Nat → Nat} {cI : ClassId} {cL : ClassId} {NW : Nat} {bk : Int32} {sz : Int32} {wd : Nat → Int64} {mb : Nat → Int32} {gB : Int32} {gI : Int32} {gN : Int32} {iN : Int32} {dr : Int32} {es : Int64} {of : Int64} {od : Int32} {pl : Int64} {hd : Int64} {tk : Nat → Int32} {kn : Nat → Int32} {li : Nat → Int32} {pa : Nat → Int32} {ins : Nat → Int32} {cm : Int32} {fd : Int32} {hr : Int32} {hs : Nat} {r : Int32} (hf : f_S_copiesStand N NW bk sz wd gB gN = some (r)) : Met l y_S_copiesStand ws_S_copiesStand { frames := 2, cells := 0, slots := 0, locals := 53 } (PcU (dC, dI) clAll [(cI, .int), (cL, .long)] (wC h cI cL NW bk sz wd mb gB gI gN iN dr es of od pl hd tk kn li pa ins cm fd hr) hs [.ref (h 6)]) (QUi (dC, dI) clAll [(cI, .int), (cL, .long)] (wC h cI cL NW bk sz wd mb gB gI gN iN dr es of od pl hd tk kn li pa ins cm fd hr) (wC h cI cL NW bk sz wd mb gB gI gN iN dr es of od pl hd tk kn li pa ins cm fd hr) hs r) 0 0 (va_A (wC h cI cL NW bk sz wd mb gB gI gN iN dr es of od pl hd tk kn li pa ins cm fd hr) hs) := by
  refine mUz (cc := b_S_copiesStand) (maxL := 2) (by decide) rfl (Nat.le_of_ble_eq_true rfl) ?_
  intro p e s m args below meth c Q hx hb hml hts hown A hA hK hP hD hS hret ls hl
  have htb : ∀ w ∈ TB, w.before args s = true := fun w h => hts w (List.mem_cons_of_mem _ h)
  have hl : lv_has ls 2 [(0, .ref (h 6))] := hl
  have hj_2 : ∀ (k_2 : Nat) (x1 : Int32) (H : Heap) (locs : List Loc) (ls : Array Slot), f_S_copiesStand_2 N NW bk sz wd gB gN k_2 x1 = some (r) → va_P (dC, dI) clAll (wC h cI cL NW bk sz wd mb gB gI gN iN dr es of od pl hd tk kn li pa ins cm fd hr) H → va_D A (wC h cI cL NW bk sz wd mb gB gI gN iN dr es of od pl hd tk kn li pa ins cm fd hr) → va_S A s.heap H locs → lv_has ls 2 [(0, .ref (h 6)), (1, .int x1)] → W p l e (headSpec ws_S_copiesStand { frames := 2, cells := 0, slots := 0, locals := 53 }).room s m args below meth c H locs 0 0 Q (F0 m 2 ls []) := by
    intro k_2
    induction k_2 with
    | zero => intro _ _ _ _ hf; exact absurd hf (by simp [f_S_copiesStand_2])
    | succ k_2 ih_2 =>
      intro x1 H locs ls hf hP hD hS hl
      rw [f_S_copiesStand_2] at hf
      refine lv_iload_n hx hb d_S_copiesStand_2 rfl (lv_at hl 1 rfl) ?_
      refine lv_aload_n hx hb d_S_copiesStand_3 rfl (lv_at hl 0 rfl) ?_
      refine va_get (D := (dC, dI)) (ci := 3) (v := .ref (h 3)) (C := R_S) (T := T_S) (N := 10) hx hb htb in_S hown hK hP 6 rfl rfl 1 (by decide) (htb _ tw_177) (fun _ h9 => h9) rfl d_S_copiesStand_4 ?_
      obtain ⟨r_1, hc_2, hf⟩ := bd1_s hf
      refine ucVi (As := []) (rest := [.int x1]) ⟨hx, hb, hml, hown, htb⟩ hK hP hD hS hA (fun hs => c_L_groups hc_2) (cwV 0 htb (gV tw_322 tw_323 tw_324 tw_71 tw_325) rfl rfl rfl (by decide +kernel) ⟨Nat.le_of_ble_eq_true rfl, Nat.le_of_ble_eq_true rfl⟩) 3 2 rfl rfl rfl rfl rfl hl.1 (Nat.le_of_ble_eq_true rfl) d_S_copiesStand_7 ⟨Nat.zero_le _, Nat.zero_le _⟩ (fun H locs hP hD hS => ?_)
      refine lv_icmp_ge (tgt := 41) hx hb d_S_copiesStand_10 (by decide) (fun c_3 => ?_) (fun c_3 => ?_)
      · have hf := ite_t c_3 hf
        refine lv_iconst (v := 1) hx hb d_S_copiesStand_41 (by decide) ?_
        cases hf
        exact hret _ _ _ _ (Or.inr rfl) hP hD hS d_S_copiesStand_42
      · have hf := ite_f c_3 hf
        refine lv_aload_n hx hb d_S_copiesStand_13 rfl (lv_at hl 0 rfl) ?_
        refine va_get (D := (dC, dI)) (ci := 3) (v := .ref (h 3)) (C := R_S) (T := T_S) (N := 10) hx hb htb in_S hown hK hP 6 rfl rfl 1 (by decide) (htb _ tw_177) (fun _ h9 => h9) rfl d_S_copiesStand_14 ?_
        refine lv_iload_n hx hb d_S_copiesStand_17 rfl (lv_at hl 1 rfl) ?_
        obtain ⟨r_4, hc_5, hf⟩ := bd1_s hf
        refine ucVi (As := [.int x1]) (rest := []) ⟨hx, hb, hml, hown, htb⟩ hK hP hD hS hA (fun hs => c_L_blocksOf hc_5) (cwV 1 htb (gV tw_326 tw_327 tw_328 tw_71 tw_329) rfl rfl rfl (by decide +kernel) ⟨Nat.le_of_ble_eq_true rfl, Nat.le_of_ble_eq_true rfl⟩) 3 2 rfl rfl rfl rfl rfl hl.1 (Nat.le_of_ble_eq_true rfl) d_S_copiesStand_18 ⟨Nat.zero_le _, Nat.zero_le _⟩ (fun H locs hP hD hS => ?_)
        refine lv_iconst (v := 2) hx hb d_S_copiesStand_21 (by decide) ?_
        refine lv_icmp_lt (tgt := 33) hx hb d_S_copiesStand_22 (by decide) (fun c_6 => ?_) (fun c_6 => ?_)
        · have hf := ite_t c_6 hf
          refine lv_iconst (v := 0) hx hb d_S_copiesStand_33 (by decide) ?_
          cases hf
          exact hret _ _ _ _ (Or.inl rfl) hP hD hS d_S_copiesStand_34
        · have hf := ite_f c_6 hf
          refine lv_aload_n hx hb d_S_copiesStand_25 rfl (lv_at hl 0 rfl) ?_
          refine lv_iload_n hx hb d_S_copiesStand_26 rfl (lv_at hl 1 rfl) ?_
          obtain ⟨r_7, hc_8, hf⟩ := bd1_s hf
          refine ucVi (As := [.int x1]) (rest := []) ⟨hx, hb, hml, hown, htb⟩ hK hP hD hS hA (fun hs => c_S_hasCopies hc_8) (cwV 1 htb (gV tw_335 tw_337 tw_4 tw_73 tw_338) rfl rfl rfl (by decide +kernel) ⟨Nat.le_of_ble_eq_true rfl, Nat.le_of_ble_eq_true rfl⟩) 6 3 rfl rfl rfl rfl rfl hl.1 (Nat.le_of_ble_eq_true rfl) d_S_copiesStand_27 ⟨Nat.zero_le _, Nat.zero_le _⟩ (fun H locs hP hD hS => ?_)
          refine lv_if_ne (tgt := 35) hx hb d_S_copiesStand_30 (by decide) (fun c_9 => ?_) (fun c_9 => ?_)
          · have hf := ite_f c_9 hf
            obtain ⟨v1_10, ev1_10, hf⟩ := lt1_s hf
            refine lv_iinc (v := v1_10) (lv' := [(1, .int v1_10), (0, .ref (h 6))]) hx hb d_S_copiesStand_35 hl (k := 1) rfl (by rw [← ev1_10]; rfl) (by decide) rfl (fun ls hl => ?_)
            refine lv_goto (tgt := 2) hx hb d_S_copiesStand_38 (by decide) ?_
            exact ih_2 v1_10 _ _ _ hf hP hD hS (lv_sub hl [1, 0] rfl)
          · have hf := ite_t c_9 hf
            refine lv_iconst (v := 0) hx hb d_S_copiesStand_33 (by decide) ?_
            cases hf
            exact hret _ _ _ _ (Or.inl rfl) hP hD hS d_S_copiesStand_34
  unfold f_S_copiesStand at hf
  refine lv_iconst (v := 1) hx hb d_S_copiesStand_0 (by decide) ?_
  refine lv_istore_n (lv' := [(1, .int ((1 : Int32))), (0, .ref (h 6))]) hx hb d_S_copiesStand_1 rfl hl (by decide) rfl (fun ls hl => ?_)
  exact hj_2 N ((1 : Int32)) _ _ _ hf hP hD hS (lv_sub hl [1, 0] rfl)
set_option maxHeartbeats 4000000 in
set_option maxRecDepth 100000 in
theorem c_S_fix {l : Launch} {dC : Nat → ClassId} {dI : Nat → Nat → Nat} {N : Nat} {h : Nat → Nat} {cI : ClassId} {cL : ClassId} {NW : Nat} {bk : Int32} {sz : Int32} {wd : Nat → Int64} {mb : Nat → Int32} {gB : Int32} {gI : Int32} {gN : Int32} {iN : Int32} {dr : Int32} {es : Int64} {of : Int64} {od : Int32} {pl : Int64} {hd : Int64} {tk : Nat → Int32} {kn : Nat → Int32} {li : Nat → Int32} {pa : Nat → Int32} {ins : Nat → Int32} {cm : Int32} {fd : Int32} {hr : Int32} {hs : Nat} {a1 : Int32} {a2 : Int32} {tk' : Nat → Int32} (hf : f_S_fix N NW tk a1 a2 = some (tk')) : Met l y_S_fix ws_S_fix { frames := 1, cells := 0, slots := 0, locals := 21 } (PcU (dC, dI) clAll [(cI, .int), (cL, .long)] (wC h cI cL NW bk sz wd mb gB gI gN iN dr es of od pl hd tk kn li pa ins cm fd hr) hs [.ref (h 6), .int a1, .int a2]) (QUv (dC, dI) clAll [(cI, .int), (cL, .long)] (wC h cI cL NW bk sz wd mb gB gI gN iN dr es of od pl hd tk kn li pa ins cm fd hr) (wC h cI cL NW bk sz wd mb gB gI gN iN dr es of od pl hd tk' kn li pa ins cm fd hr) hs) 0 0 (va_A (wC h cI cL NW bk sz wd mb gB gI gN iN dr es of od pl hd tk kn li pa ins cm fd hr) hs) := by
  refine mUv (cc := b_S_fix) (maxL := 4) (by decide) rfl (Nat.le_of_ble_eq_true rfl) ?_
  intro p e s m args below meth c Q hx hb hml hts hown A hA hK hP hD hS hret ls hl
  have htb : ∀ w ∈ TB, w.before args s = true := fun w h => hts w (List.mem_cons_of_mem _ h)
  have hl : lv_has ls 4 [(0, .ref (h 6)), (1, .int a1), (2, .int a2)] := hl
  have hj_6 : ∀ (k_6 : Nat) (tk : Nat → Int32) (x1 : Int32) (x2 : Int32) (x3 : Int32) (H : Heap) (locs : List Loc) (ls : Array Slot), f_S_fix_6 N NW k_6 tk x1 x2 x3 = some (tk') → va_P (dC, dI) clAll (wC h cI cL NW bk sz wd mb gB gI gN iN dr es of od pl hd tk kn li pa ins cm fd hr) H → va_D A (wC h cI cL NW bk sz wd mb gB gI gN iN dr es of od pl hd tk kn li pa ins cm fd hr) → va_S A s.heap H locs → lv_has ls 4 [(0, .ref (h 6)), (1, .int x1), (2, .int x2), (3, .int x3)] → W p l e (headSpec ws_S_fix { frames := 1, cells := 0, slots := 0, locals := 21 }).room s m args below meth c H locs 0 0 Q (F0 m 6 ls []) := by
    intro k_6
    induction k_6 with
    | zero => intro _ _ _ _ _ _ _ hf; exact absurd hf (by simp [f_S_fix_6])
    | succ k_6 ih_6 =>
      intro tk x1 x2 x3 H locs ls hf hP hD hS hl
      rw [f_S_fix_6] at hf
      refine lv_iload_n hx hb d_S_fix_6 rfl (lv_at hl 3 rfl) ?_
      refine lv_iload_n hx hb d_S_fix_7 rfl (lv_at hl 1 rfl) ?_
      refine lv_iload_n hx hb d_S_fix_8 rfl (lv_at hl 2 rfl) ?_
      refine lv_iadd hx hb d_S_fix_9 ?_
      refine lv_icmp_ge (tgt := 35) hx hb d_S_fix_10 (by decide) (fun c_1 => ?_) (fun c_1 => ?_)
      · have hf := ite_t c_1 hf
        cases hf
        exact hret _ _ _ _ hP hD hS d_S_fix_35
      · have hf := ite_f c_1 hf
        refine lv_iload_n hx hb d_S_fix_13 rfl (lv_at hl 3 rfl) ?_
        refine lv_aload_n hx hb d_S_fix_14 rfl (lv_at hl 0 rfl) ?_
        refine va_get (D := (dC, dI)) (ci := 3) (v := .ref (h 7)) (C := R_S) (T := T_S) (N := 10) hx hb htb in_S hown hK hP 6 rfl rfl 3 (by decide) (htb _ tw_179) (fun _ h9 => h9) rfl d_S_fix_15 ?_
        refine va_alen (v := (512 : Int32)) hx hb hK hP 7 0 rfl rfl rfl d_S_fix_18 ?_
        refine lv_icmp_ge (tgt := 35) hx hb d_S_fix_19 (by decide) (fun c_2 => ?_) (fun c_2 => ?_)
        · have hf := ite_t c_2 hf
          cases hf
          exact hret _ _ _ _ hP hD hS d_S_fix_35
        · have hf := ite_f c_2 hf
          refine lv_aload_n hx hb d_S_fix_22 rfl (lv_at hl 0 rfl) ?_
          refine va_get (D := (dC, dI)) (ci := 3) (v := .ref (h 7)) (C := R_S) (T := T_S) (N := 10) hx hb htb in_S hown hK hP 6 rfl rfl 3 (by decide) (htb _ tw_179) (fun _ h9 => h9) rfl d_S_fix_23 ?_
          refine lv_iload_n hx hb d_S_fix_26 rfl (lv_at hl 3 rfl) ?_
          refine lv_iconst (v := 1) hx hb d_S_fix_27 (by decide) ?_
          obtain ⟨c_3, hf⟩ := gd_s hf
          refine va_iast (i := x3) (x := (1 : Int32)) hx hb hK hP hD hS 7 0 rfl rfl c_3 d_S_fix_28 (fun H locs hP hD hS => ?_)
          obtain ⟨tk_4, etk_4, hf⟩ := lt1_s hf
          have hP : va_P (dC, dI) clAll (wC h cI cL NW bk sz wd mb gB gI gN iN dr es of od pl hd tk_4 kn li pa ins cm fd hr) H := etk_4 ▸ hP
          have hD : va_D A (wC h cI cL NW bk sz wd mb gB gI gN iN dr es of od pl hd tk_4 kn li pa ins cm fd hr) := etk_4 ▸ hD
          obtain ⟨v3_5, ev3_5, hf⟩ := lt1_s hf
          refine lv_iinc (v := v3_5) (lv' := [(3, .int v3_5), (0, .ref (h 6)), (1, .int x1), (2, .int x2)]) hx hb d_S_fix_29 hl (k := 3) rfl (by rw [← ev3_5]; rfl) (by decide) rfl (fun ls hl => ?_)
          refine lv_goto (tgt := 6) hx hb d_S_fix_32 (by decide) ?_
          exact ih_6 tk_4 x1 x2 v3_5 _ _ _ hf hP hD hS (lv_sub hl [1, 2, 3, 0] rfl)
  unfold f_S_fix at hf
  refine lv_iload_n hx hb d_S_fix_0 rfl (lv_at hl 1 rfl) ?_
  refine lv_iconst (v := 0) hx hb d_S_fix_1 (by decide) ?_
  refine va_mmax hx hb (hml.trans hl.1.symm) hown (htb _ tw_364) (htb _ tw_100) (htb _ tw_70) (htb _ tw_101) (Nat.le_of_ble_eq_true rfl) (Nat.le_of_ble_eq_true rfl) (Nat.zero_le _) (Nat.zero_le _) d_S_fix_2 ?_
  obtain ⟨v3_1, ev3_1, hf⟩ := lt1_s hf
  refine lv_eqi ev3_1 ?_
  refine lv_istore_n (lv' := [(3, .int v3_1), (0, .ref (h 6)), (1, .int a1), (2, .int a2)]) hx hb d_S_fix_5 rfl hl (by decide) rfl (fun ls hl => ?_)
  exact hj_6 N tk a1 a2 v3_1 _ _ _ hf hP hD hS (lv_sub hl [1, 2, 3, 0] rfl)
set_option maxHeartbeats 4000000 in
set_option maxRecDepth 100000 in
theorem c_S_groupsStand {l : Launch} {dC : Nat → ClassId} {dI : Nat → Nat → Nat} {N : Nat} {h : Nat → Nat} {cI : ClassId} {cL : ClassId} {NW : Nat} {bk : Int32} {sz : Int32} {wd : Nat → Int64} {mb : Nat → Int32} {gB : Int32} {gI : Int32} {gN : Int32} {iN : Int32} {dr : Int32} {es : Int64} {of : Int64} {od : Int32} {pl : Int64} {hd : Int64} {tk : Nat → Int32} {kn : Nat → Int32} {li : Nat → Int32} {pa : Nat → Int32} {ins : Nat → Int32} {cm : Int32} {fd : Int32} {hr : Int32} {hs : Nat} {r : Int32} {mb' : Nat → Int32} {tk' : Nat → Int32} (hf : f_S_groupsStand N NW bk sz wd mb gB gI gN tk = some (r, mb', tk')) : Met l y_S_groupsStand ws_S_groupsStand { frames := 2, cells := 0, slots := 0, locals := 50 } (PcU (dC, dI) clAll [(cI, .int), (cL, .long)] (wC h cI cL NW bk sz wd mb gB gI gN iN dr es of od pl hd tk kn li pa ins cm fd hr) hs [.ref (h 6)]) (QUi (dC, dI) clAll [(cI, .int), (cL, .long)] (wC h cI cL NW bk sz wd mb gB gI gN iN dr es of od pl hd tk kn li pa ins cm fd hr) (wC h cI cL NW bk sz wd mb' gB gI gN iN dr es of od pl hd tk' kn li pa ins cm fd hr) hs r) 0 0 (va_A (wC h cI cL NW bk sz wd mb gB gI gN iN dr es of od pl hd tk kn li pa ins cm fd hr) hs) := by
  refine mUz (cc := b_S_groupsStand) (maxL := 7) (by decide) rfl (Nat.le_of_ble_eq_true rfl) ?_
  intro p e s m args below meth c Q hx hb hml hts hown A hA hK hP hD hS hret ls hl
  have htb : ∀ w ∈ TB, w.before args s = true := fun w h => hts w (List.mem_cons_of_mem _ h)
  have hl : lv_has ls 7 [(0, .ref (h 6))] := hl
  have hj_10 : ∀ (k_10 : Nat) (mb : Nat → Int32) (tk : Nat → Int32) (x1 : Int32) (H : Heap) (locs : List Loc) (ls : Array Slot), f_S_groupsStand_10 N NW bk sz wd gB gI gN k_10 mb tk x1 = some (r, mb', tk') → va_P (dC, dI) clAll (wC h cI cL NW bk sz wd mb gB gI gN iN dr es of od pl hd tk kn li pa ins cm fd hr) H → va_D A (wC h cI cL NW bk sz wd mb gB gI gN iN dr es of od pl hd tk kn li pa ins cm fd hr) → va_S A s.heap H locs → lv_has ls 7 [(0, .ref (h 6)), (1, .int x1)] → W p l e (headSpec ws_S_groupsStand { frames := 2, cells := 0, slots := 0, locals := 50 }).room s m args below meth c H locs 0 0 Q (F0 m 10 ls []) := by
    intro k_10
    induction k_10 with
    | zero => intro _ _ _ _ _ _ hf; exact absurd hf (by simp [f_S_groupsStand_10])
    | succ k_10 ih_10 =>
      intro mb tk x1 H locs ls hf hP hD hS hl
      rw [f_S_groupsStand_10] at hf
      refine lv_iload_n hx hb d_S_groupsStand_10 rfl (lv_at hl 1 rfl) ?_
      refine lv_aload_n hx hb d_S_groupsStand_11 rfl (lv_at hl 0 rfl) ?_
      refine va_get (D := (dC, dI)) (ci := 3) (v := .ref (h 3)) (C := R_S) (T := T_S) (N := 10) hx hb htb in_S hown hK hP 6 rfl rfl 1 (by decide) (htb _ tw_177) (fun _ h9 => h9) rfl d_S_groupsStand_12 ?_
      obtain ⟨r_1, hc_2, hf⟩ := bd1_s hf
      refine ucVi (As := []) (rest := [.int x1]) ⟨hx, hb, hml, hown, htb⟩ hK hP hD hS hA (fun hs => c_L_groups hc_2) (cwV 0 htb (gV tw_322 tw_323 tw_324 tw_71 tw_325) rfl rfl rfl (by decide +kernel) ⟨Nat.le_of_ble_eq_true rfl, Nat.le_of_ble_eq_true rfl⟩) 3 2 rfl rfl rfl rfl rfl hl.1 (Nat.le_of_ble_eq_true rfl) d_S_groupsStand_15 ⟨Nat.zero_le _, Nat.zero_le _⟩ (fun H locs hP hD hS => ?_)
      refine lv_icmp_ge (tgt := 168) hx hb d_S_groupsStand_18 (by decide) (fun c_3 => ?_) (fun c_3 => ?_)
      · have hf := ite_t c_3 hf
        refine lv_iconst (v := 1) hx hb d_S_groupsStand_168 (by decide) ?_
        cases hf
        exact hret _ _ _ _ (Or.inr rfl) hP hD hS d_S_groupsStand_169
      · have hf := ite_f c_3 hf
        refine lv_aload_n hx hb d_S_groupsStand_21 rfl (lv_at hl 0 rfl) ?_
        refine va_get (D := (dC, dI)) (ci := 3) (v := .ref (h 3)) (C := R_S) (T := T_S) (N := 10) hx hb htb in_S hown hK hP 6 rfl rfl 1 (by decide) (htb _ tw_177) (fun _ h9 => h9) rfl d_S_groupsStand_22 ?_
        refine lv_iload_n hx hb d_S_groupsStand_25 rfl (lv_at hl 1 rfl) ?_
        obtain ⟨r_4, hc_5, hf⟩ := bd1_s hf
        refine ucVi (As := [.int x1]) (rest := []) ⟨hx, hb, hml, hown, htb⟩ hK hP hD hS hA (fun hs => c_L_firstBlock hc_5) (cwV 1 htb (gV tw_340 tw_331 tw_332 tw_71 tw_333) rfl rfl rfl (by decide +kernel) ⟨Nat.le_of_ble_eq_true rfl, Nat.le_of_ble_eq_true rfl⟩) 3 2 rfl rfl rfl rfl rfl hl.1 (Nat.le_of_ble_eq_true rfl) d_S_groupsStand_26 ⟨Nat.zero_le _, Nat.zero_le _⟩ (fun H locs hP hD hS => ?_)
        refine lv_istore_n (lv' := [(2, .int r_4), (0, .ref (h 6)), (1, .int x1)]) hx hb d_S_groupsStand_29 rfl hl (by decide) rfl (fun ls hl => ?_)
        refine lv_iload_n hx hb d_S_groupsStand_30 rfl (lv_at hl 0 rfl) ?_
        refine lv_aload_n hx hb d_S_groupsStand_31 rfl (lv_at hl 1 rfl) ?_
        refine va_get (D := (dC, dI)) (ci := 3) (v := .ref (h 3)) (C := R_S) (T := T_S) (N := 10) hx hb htb in_S hown hK hP 6 rfl rfl 1 (by decide) (htb _ tw_177) (fun _ h9 => h9) rfl d_S_groupsStand_32 ?_
        refine lv_iload_n hx hb d_S_groupsStand_35 rfl (lv_at hl 2 rfl) ?_
        obtain ⟨r_6, hc_7, hf⟩ := bd1_s hf
        refine ucVi (As := [.int x1]) (rest := [.int r_4]) ⟨hx, hb, hml, hown, htb⟩ hK hP hD hS hA (fun hs => c_L_blocksOf hc_7) (cwV 1 htb (gV tw_326 tw_327 tw_328 tw_71 tw_329) rfl rfl rfl (by decide +kernel) ⟨Nat.le_of_ble_eq_true rfl, Nat.le_of_ble_eq_true rfl⟩) 3 2 rfl rfl rfl rfl rfl hl.1 (Nat.le_of_ble_eq_true rfl) d_S_groupsStand_36 ⟨Nat.zero_le _, Nat.zero_le _⟩ (fun H locs hP hD hS => ?_)
        refine lv_iadd hx hb d_S_groupsStand_39 ?_
        obtain ⟨v3_8, ev3_8, hf⟩ := lt1_s hf
        refine lv_eqi ev3_8 ?_
        refine lv_istore_n (lv' := [(3, .int v3_8), (2, .int r_4), (0, .ref (h 6)), (1, .int x1)]) hx hb d_S_groupsStand_40 rfl hl (by decide) rfl (fun ls hl => ?_)
        refine lv_aload_n hx hb d_S_groupsStand_41 rfl (lv_at hl 2 rfl) ?_
        refine va_get (D := (dC, dI)) (ci := 3) (v := .ref (h 3)) (C := R_S) (T := T_S) (N := 10) hx hb htb in_S hown hK hP 6 rfl rfl 1 (by decide) (htb _ tw_177) (fun _ h9 => h9) rfl d_S_groupsStand_42 ?_
        obtain ⟨r_9, hc_10, hf⟩ := bd1_s hf
        refine ucVi (As := []) (rest := []) ⟨hx, hb, hml, hown, htb⟩ hK hP hD hS hA (fun hs => c_L_groupInodes hc_10) (cwV 0 htb (gV tw_348 tw_349 tw_350 tw_71 tw_351) rfl rfl rfl (by decide +kernel) ⟨Nat.le_of_ble_eq_true rfl, Nat.le_of_ble_eq_true rfl⟩) 3 2 rfl rfl rfl rfl rfl hl.1 (Nat.le_of_ble_eq_true rfl) d_S_groupsStand_45 ⟨Nat.zero_le _, Nat.zero_le _⟩ (fun H locs hP hD hS => ?_)
        refine lv_bipush (v := 8) hx hb d_S_groupsStand_48 (by decide) ?_
        refine lv_idiv hx hb d_S_groupsStand_50 (by decide) ?_
        obtain ⟨v4_11, ev4_11, hf⟩ := lt1_s hf
        refine lv_eqi ev4_11 ?_
        refine lv_istore (lv' := [(4, .int v4_11), (3, .int v3_8), (2, .int r_4), (0, .ref (h 6)), (1, .int x1)]) hx hb d_S_groupsStand_51 hl (by decide) rfl (fun ls hl => ?_)
        refine lv_aload_n hx hb d_S_groupsStand_53 rfl (lv_at hl 3 rfl) ?_
        refine va_get (D := (dC, dI)) (ci := 3) (v := .ref (h 3)) (C := R_S) (T := T_S) (N := 10) hx hb htb in_S hown hK hP 6 rfl rfl 1 (by decide) (htb _ tw_177) (fun _ h9 => h9) rfl d_S_groupsStand_54 ?_
        refine lv_iload_n hx hb d_S_groupsStand_57 rfl (lv_at hl 4 rfl) ?_
        refine lv_iconst (v := 0) hx hb d_S_groupsStand_58 (by decide) ?_
        refine lv_iconst (v := 4) hx hb d_S_groupsStand_59 (by decide) ?_
        obtain ⟨r_12, hc_13, hf⟩ := bd1_s hf
        refine ucVl (As := [.int x1, .int ((0 : Int32)), .int ((4 : Int32))]) (rest := []) ⟨hx, hb, hml, hown, htb⟩ hK hP hD hS hA (fun hs => c_L_described hc_13) (cwV 3 htb (gV tw_352 tw_353 tw_354 tw_71 tw_355) rfl rfl rfl (by decide +kernel) ⟨Nat.le_of_ble_eq_true rfl, Nat.le_of_ble_eq_true rfl⟩) 3 2 rfl rfl rfl rfl rfl hl.1 (Nat.le_of_ble_eq_true rfl) d_S_groupsStand_60 ⟨Nat.zero_le _, Nat.zero_le _⟩ (fun H locs hP hD hS => ?_)
        refine lv_lstore (lv' := [(5, .long r_12), (4, .int v4_11), (3, .int v3_8), (2, .int r_4), (0, .ref (h 6)), (1, .int x1)]) hx hb d_S_groupsStand_63 hl (by decide) rfl (fun ls hl => ?_)
        refine lv_lload hx hb d_S_groupsStand_65 (lv_at hl 0 rfl) ?_
        refine lv_iload_n hx hb d_S_groupsStand_67 rfl (lv_at hl 3 rfl) ?_
        refine lv_iconst (v := 2) hx hb d_S_groupsStand_68 (by decide) ?_
        refine lv_iadd hx hb d_S_groupsStand_69 ?_
        refine lv_i2l hx hb d_S_groupsStand_70 rfl ?_
        refine lc_lt (tgt := 91) hx hb d_S_groupsStand_71 d_S_groupsStand_72 (by decide) (fun c_14 => ?_) (fun c_14 => ?_)
        · have hf := ite_t c_14 hf
          refine lv_iconst (v := 0) hx hb d_S_groupsStand_91 (by decide) ?_
          cases hf
          exact hret _ _ _ _ (Or.inl rfl) hP hD hS d_S_groupsStand_92
        · have hf := ite_f c_14 hf
          refine lv_lload hx hb d_S_groupsStand_75 (lv_at hl 0 rfl) ?_
          refine lv_ldc2 (v := 2) hx hb hown (htb _ tw_317) d_S_groupsStand_77 ?_
          refine lv_ladd hx hb d_S_groupsStand_80 ?_
          refine lv_iload hx hb d_S_groupsStand_81 (lv_at hl 1 rfl) ?_
          refine lv_i2l hx hb d_S_groupsStand_83 rfl ?_
          refine lv_ladd hx hb d_S_groupsStand_84 ?_
          refine lv_iload_n hx hb d_S_groupsStand_85 rfl (lv_at hl 2 rfl) ?_
          refine lv_i2l hx hb d_S_groupsStand_86 rfl ?_
          refine lc_le (tgt := 93) hx hb d_S_groupsStand_87 d_S_groupsStand_88 (by decide) (fun c_15 => ?_) (fun c_15 => ?_)
          · have hf := ite_t c_15 hf
            refine lv_aload_n hx hb d_S_groupsStand_93 rfl (lv_at hl 4 rfl) ?_
            refine va_get (D := (dC, dI)) (ci := 3) (v := .ref (h 3)) (C := R_S) (T := T_S) (N := 10) hx hb htb in_S hown hK hP 6 rfl rfl 1 (by decide) (htb _ tw_177) (fun _ h9 => h9) rfl d_S_groupsStand_94 ?_
            refine lv_iload_n hx hb d_S_groupsStand_97 rfl (lv_at hl 5 rfl) ?_
            refine lv_iconst (v := 4) hx hb d_S_groupsStand_98 (by decide) ?_
            refine lv_iconst (v := 4) hx hb d_S_groupsStand_99 (by decide) ?_
            obtain ⟨r_16, hc_17, hf⟩ := bd1_s hf
            refine ucVl (As := [.int x1, .int ((4 : Int32)), .int ((4 : Int32))]) (rest := []) ⟨hx, hb, hml, hown, htb⟩ hK hP hD hS hA (fun hs => c_L_described hc_17) (cwV 3 htb (gV tw_352 tw_353 tw_354 tw_71 tw_355) rfl rfl rfl (by decide +kernel) ⟨Nat.le_of_ble_eq_true rfl, Nat.le_of_ble_eq_true rfl⟩) 3 2 rfl rfl rfl rfl rfl hl.1 (Nat.le_of_ble_eq_true rfl) d_S_groupsStand_100 ⟨Nat.zero_le _, Nat.zero_le _⟩ (fun H locs hP hD hS => ?_)
            refine lv_lload hx hb d_S_groupsStand_103 (lv_at hl 0 rfl) ?_
            refine lv_lconst (v := 1) hx hb d_S_groupsStand_105 (by decide) ?_
            refine lv_ladd hx hb d_S_groupsStand_106 ?_
            refine lc_ne (tgt := 132) hx hb d_S_groupsStand_107 d_S_groupsStand_108 (by decide) (fun c_18 => ?_) (fun c_18 => ?_)
            · have hf := ite_f c_18 hf
              refine lv_iconst (v := 0) hx hb d_S_groupsStand_132 (by decide) ?_
              cases hf
              exact hret _ _ _ _ (Or.inl rfl) hP hD hS d_S_groupsStand_133
            · have hf := ite_t c_18 hf
              refine lv_aload_n hx hb d_S_groupsStand_111 rfl (lv_at hl 4 rfl) ?_
              refine va_get (D := (dC, dI)) (ci := 3) (v := .ref (h 3)) (C := R_S) (T := T_S) (N := 10) hx hb htb in_S hown hK hP 6 rfl rfl 1 (by decide) (htb _ tw_177) (fun _ h9 => h9) rfl d_S_groupsStand_112 ?_
              refine lv_iload_n hx hb d_S_groupsStand_115 rfl (lv_at hl 5 rfl) ?_
              refine lv_bipush (v := 8) hx hb d_S_groupsStand_116 (by decide) ?_
              refine lv_iconst (v := 4) hx hb d_S_groupsStand_118 (by decide) ?_
              obtain ⟨r_19, hc_20, hf⟩ := bd1_s hf
              refine ucVl (As := [.int x1, .int ((8 : Int32)), .int ((4 : Int32))]) (rest := []) ⟨hx, hb, hml, hown, htb⟩ hK hP hD hS hA (fun hs => c_L_described hc_20) (cwV 3 htb (gV tw_352 tw_353 tw_354 tw_71 tw_355) rfl rfl rfl (by decide +kernel) ⟨Nat.le_of_ble_eq_true rfl, Nat.le_of_ble_eq_true rfl⟩) 3 2 rfl rfl rfl rfl rfl hl.1 (Nat.le_of_ble_eq_true rfl) d_S_groupsStand_119 ⟨Nat.zero_le _, Nat.zero_le _⟩ (fun H locs hP hD hS => ?_)
              refine lv_lload hx hb d_S_groupsStand_122 (lv_at hl 0 rfl) ?_
              refine lv_ldc2 (v := 2) hx hb hown (htb _ tw_317) d_S_groupsStand_124 ?_
              refine lv_ladd hx hb d_S_groupsStand_127 ?_
              refine lc_eq (tgt := 134) hx hb d_S_groupsStand_128 d_S_groupsStand_129 (by decide) (fun c_21 => ?_) (fun c_21 => ?_)
              · have hf := ite_t c_21 hf
                refine lv_aload_n hx hb d_S_groupsStand_134 rfl (lv_at hl 4 rfl) ?_
                refine va_get (D := (dC, dI)) (ci := 3) (v := .ref (h 3)) (C := R_S) (T := T_S) (N := 10) hx hb htb in_S hown hK hP 6 rfl rfl 1 (by decide) (htb _ tw_177) (fun _ h9 => h9) rfl d_S_groupsStand_135 ?_
                refine lv_iload_n hx hb d_S_groupsStand_138 rfl (lv_at hl 5 rfl) ?_
                refine lv_lload hx hb d_S_groupsStand_139 (lv_at hl 0 rfl) ?_
                refine lv_l2i hx hb d_S_groupsStand_141 rfl ?_
                obtain ⟨mb_22, hc_23, hf⟩ := bd1_s hf
                refine ucVv (As := [.int x1, .int (Int64.toInt32 r_12)]) (rest := []) ⟨hx, hb, hml, hown, htb⟩ hK hP hD hS hA (fun hs => c_L_setMap hc_23) (cwV 2 htb (gV tw_356 tw_357 tw_358 tw_71 tw_359) rfl rfl rfl (by decide +kernel) ⟨Nat.le_of_ble_eq_true rfl, Nat.le_of_ble_eq_true rfl⟩) 3 2 rfl rfl rfl rfl rfl hl.1 (Nat.le_of_ble_eq_true rfl) d_S_groupsStand_142 ⟨Nat.zero_le _, Nat.zero_le _⟩ (fun H locs hP hD hS => ?_)
                refine lv_aload_n hx hb d_S_groupsStand_145 rfl (lv_at hl 4 rfl) ?_
                refine lv_iload_n hx hb d_S_groupsStand_146 rfl (lv_at hl 3 rfl) ?_
                refine lv_iconst (v := 2) hx hb d_S_groupsStand_147 (by decide) ?_
                obtain ⟨tk_24, hc_25, hf⟩ := bd1_s hf
                refine ucVv (As := [.int r_4, .int ((2 : Int32))]) (rest := []) ⟨hx, hb, hml, hown, htb⟩ hK hP hD hS hA (fun hs => c_S_fix hc_25) (cwV 2 htb (gV tw_360 tw_362 tw_6 tw_73 tw_363) rfl rfl rfl (by decide +kernel) ⟨Nat.le_of_ble_eq_true rfl, Nat.le_of_ble_eq_true rfl⟩) 6 3 rfl rfl rfl rfl rfl hl.1 (Nat.le_of_ble_eq_true rfl) d_S_groupsStand_148 ⟨Nat.zero_le _, Nat.zero_le _⟩ (fun H locs hP hD hS => ?_)
                refine lv_aload_n hx hb d_S_groupsStand_151 rfl (lv_at hl 4 rfl) ?_
                refine lv_lload hx hb d_S_groupsStand_152 (lv_at hl 0 rfl) ?_
                refine lv_l2i hx hb d_S_groupsStand_154 rfl ?_
                refine lv_iconst (v := 2) hx hb d_S_groupsStand_155 (by decide) ?_
                refine lv_iload hx hb d_S_groupsStand_156 (lv_at hl 1 rfl) ?_
                refine lv_iadd hx hb d_S_groupsStand_158 ?_
                obtain ⟨tk_26, hc_27, hf⟩ := bd1_s hf
                refine ucVv (As := [.int (Int64.toInt32 r_12), .int (((2 : Int32)) + v4_11)]) (rest := []) ⟨hx, hb, hml, hown, htb⟩ hK hP hD hS hA (fun hs => c_S_fix hc_27) (cwV 2 htb (gV tw_360 tw_362 tw_6 tw_73 tw_363) rfl rfl rfl (by decide +kernel) ⟨Nat.le_of_ble_eq_true rfl, Nat.le_of_ble_eq_true rfl⟩) 6 3 rfl rfl rfl rfl rfl hl.1 (Nat.le_of_ble_eq_true rfl) d_S_groupsStand_159 ⟨Nat.zero_le _, Nat.zero_le _⟩ (fun H locs hP hD hS => ?_)
                obtain ⟨v1_28, ev1_28, hf⟩ := lt1_s hf
                refine lv_iinc (v := v1_28) (lv' := [(1, .int v1_28), (5, .long r_12), (4, .int v4_11), (3, .int v3_8), (2, .int r_4), (0, .ref (h 6))]) hx hb d_S_groupsStand_162 hl (k := 5) rfl (by rw [← ev1_28]; rfl) (by decide) rfl (fun ls hl => ?_)
                refine lv_goto (tgt := 10) hx hb d_S_groupsStand_165 (by decide) ?_
                exact ih_10 mb_22 tk_26 v1_28 _ _ _ hf hP hD hS (lv_sub hl [5, 0] rfl)
              · have hf := ite_f c_21 hf
                refine lv_iconst (v := 0) hx hb d_S_groupsStand_132 (by decide) ?_
                cases hf
                exact hret _ _ _ _ (Or.inl rfl) hP hD hS d_S_groupsStand_133
          · have hf := ite_f c_15 hf
            refine lv_iconst (v := 0) hx hb d_S_groupsStand_91 (by decide) ?_
            cases hf
            exact hret _ _ _ _ (Or.inl rfl) hP hD hS d_S_groupsStand_92
  unfold f_S_groupsStand at hf
  refine lv_aload_n hx hb d_S_groupsStand_0 rfl (lv_at hl 0 rfl) ?_
  refine va_get (D := (dC, dI)) (ci := 3) (v := .ref (h 7)) (C := R_S) (T := T_S) (N := 10) hx hb htb in_S hown hK hP 6 rfl rfl 3 (by decide) (htb _ tw_179) (fun _ h9 => h9) rfl d_S_groupsStand_1 ?_
  refine lv_iconst (v := 0) hx hb d_S_groupsStand_4 (by decide) ?_
  obtain ⟨tk_1, hc_2, hf⟩ := bd1_s hf
  refine ucSv (As := [.ref (h 7), .int ((0 : Int32))]) (rest := []) ⟨hx, hb, hml, hown, htb⟩ hK hP hD hS hA (fun hs => c_J_fill7 hc_2) (va_cwS 2 htb (gS tw_345 tw_346 tw_75 tw_347) rfl rfl rfl (by decide +kernel) ⟨Nat.le_of_ble_eq_true rfl, Nat.le_of_ble_eq_true rfl⟩) rfl rfl hl.1 (Nat.le_of_ble_eq_true rfl) d_S_groupsStand_5 ⟨Nat.zero_le _, Nat.zero_le _⟩ (fun H locs hP hD hS => ?_)
  refine lv_iconst (v := 0) hx hb d_S_groupsStand_8 (by decide) ?_
  refine lv_istore_n (lv' := [(1, .int ((0 : Int32))), (0, .ref (h 6))]) hx hb d_S_groupsStand_9 rfl hl (by decide) rfl (fun ls hl => ?_)
  exact hj_10 N mb tk_1 ((0 : Int32)) _ _ _ hf hP hD hS (lv_sub hl [1, 0] rfl)
set_option maxHeartbeats 4000000 in
set_option maxRecDepth 100000 in
theorem c_S_spareAreZero {l : Launch} {dC : Nat → ClassId} {dI : Nat → Nat → Nat} {N : Nat} {h : Nat → Nat} {cI : ClassId} {cL : ClassId} {NW : Nat} {bk : Int32} {sz : Int32} {wd : Nat → Int64} {mb : Nat → Int32} {gB : Int32} {gI : Int32} {gN : Int32} {iN : Int32} {dr : Int32} {es : Int64} {of : Int64} {od : Int32} {pl : Int64} {hd : Int64} {tk : Nat → Int32} {kn : Nat → Int32} {li : Nat → Int32} {pa : Nat → Int32} {ins : Nat → Int32} {cm : Int32} {fd : Int32} {hr : Int32} {hs : Nat} {a1 : Int32} {a2 : Int32} {r : Int32} (hf : f_S_spareAreZero N NW sz wd mb gI a1 a2 = some (r)) : Met l y_S_spareAreZero ws_S_spareAreZero { frames := 1, cells := 0, slots := 0, locals := 27 } (PcU (dC, dI) clAll [(cI, .int), (cL, .long)] (wC h cI cL NW bk sz wd mb gB gI gN iN dr es of od pl hd tk kn li pa ins cm fd hr) hs [.ref (h 6), .int a1, .int a2]) (QUi (dC, dI) clAll [(cI, .int), (cL, .long)] (wC h cI cL NW bk sz wd mb gB gI gN iN dr es of od pl hd tk kn li pa ins cm fd hr) (wC h cI cL NW bk sz wd mb gB gI gN iN dr es of od pl hd tk kn li pa ins cm fd hr) hs r) 0 0 (va_A (wC h cI cL NW bk sz wd mb gB gI gN iN dr es of od pl hd tk kn li pa ins cm fd hr) hs) := by
  refine mUz (cc := b_S_spareAreZero) (maxL := 6) (by decide) rfl (Nat.le_of_ble_eq_true rfl) ?_
  intro p e s m args below meth c Q hx hb hml hts hown A hA hK hP hD hS hret ls hl
  have htb : ∀ w ∈ TB, w.before args s = true := fun w h => hts w (List.mem_cons_of_mem _ h)
  have hl : lv_has ls 6 [(0, .ref (h 6)), (1, .int a1), (2, .int a2)] := hl
  have hj_100 : ∀ (x3 : Int64) (H : Heap) (locs : List Loc) (ls : Array Slot), f_S_spareAreZero_100 N NW sz wd mb gI x3 = some (r) → va_P (dC, dI) clAll (wC h cI cL NW bk sz wd mb gB gI gN iN dr es of od pl hd tk kn li pa ins cm fd hr) H → va_D A (wC h cI cL NW bk sz wd mb gB gI gN iN dr es of od pl hd tk kn li pa ins cm fd hr) → va_S A s.heap H locs → lv_has ls 6 [(0, .ref (h 6)), (3, .long x3)] → W p l e (headSpec ws_S_spareAreZero { frames := 1, cells := 0, slots := 0, locals := 27 }).room s m args below meth c H locs 0 0 Q (F0 m 100 ls []) := by
    intro x3 H locs ls hf hP hD hS hl
    unfold f_S_spareAreZero_100 at hf
    refine lv_aload_n hx hb d_S_spareAreZero_100 rfl (lv_at hl 0 rfl) ?_
    refine va_get (D := (dC, dI)) (ci := 3) (v := .ref (h 1)) (C := R_S) (T := T_S) (N := 10) hx hb htb in_S hown hK hP 6 rfl rfl 0 (by decide) (htb _ tw_176) (fun _ h9 => h9) rfl d_S_spareAreZero_101 ?_
    refine lv_lload_n hx hb d_S_spareAreZero_104 rfl (lv_at hl 1 rfl) ?_
    refine lv_ldc2 (v := 96) hx hb hown (htb _ tw_413) d_S_spareAreZero_105 ?_
    refine lv_ladd hx hb d_S_spareAreZero_108 ?_
    refine lv_iconst (v := 4) hx hb d_S_spareAreZero_109 (by decide) ?_
    obtain ⟨r_1, hc_2, hf⟩ := bd1_s hf
    refine ucVl (As := [.long (x3 + ((96 : Int64))), .int ((4 : Int32))]) (rest := []) ⟨hx, hb, hml, hown, htb⟩ hK hP hD hS hA (fun hs => c_D_number hc_2) (cwV 2 htb (gV tw_308 tw_264 tw_265 tw_69 tw_266) rfl rfl rfl (by decide +kernel) ⟨Nat.le_of_ble_eq_true rfl, Nat.le_of_ble_eq_true rfl⟩) 1 0 rfl rfl rfl rfl rfl hl.1 (Nat.le_of_ble_eq_true rfl) d_S_spareAreZero_110 ⟨Nat.zero_le _, Nat.zero_le _⟩ (fun H locs hP hD hS => ?_)
    refine lv_lconst (v := 0) hx hb d_S_spareAreZero_113 (by decide) ?_
    refine lc_ne (tgt := 122) hx hb d_S_spareAreZero_114 d_S_spareAreZero_115 (by decide) (fun c_3 => ?_) (fun c_3 => ?_)
    · have hf := ite_f c_3 hf
      refine lv_iconst (v := 0) hx hb d_S_spareAreZero_122 (by decide) ?_
      cases hf
      exact hret _ _ _ _ (Or.inl rfl) hP hD hS d_S_spareAreZero_123
    · have hf := ite_t c_3 hf
      refine lv_iconst (v := 1) hx hb d_S_spareAreZero_118 (by decide) ?_
      refine lv_goto (tgt := 123) hx hb d_S_spareAreZero_119 (by decide) ?_
      cases hf
      exact hret _ _ _ _ (Or.inr rfl) hP hD hS d_S_spareAreZero_123
  have hj_75 : ∀ (x2 : Int32) (x3 : Int64) (H : Heap) (locs : List Loc) (ls : Array Slot), f_S_spareAreZero_75 N NW sz wd mb gI x2 x3 = some (r) → va_P (dC, dI) clAll (wC h cI cL NW bk sz wd mb gB gI gN iN dr es of od pl hd tk kn li pa ins cm fd hr) H → va_D A (wC h cI cL NW bk sz wd mb gB gI gN iN dr es of od pl hd tk kn li pa ins cm fd hr) → va_S A s.heap H locs → lv_has ls 6 [(0, .ref (h 6)), (2, .int x2), (3, .long x3)] → W p l e (headSpec ws_S_spareAreZero { frames := 1, cells := 0, slots := 0, locals := 27 }).room s m args below meth c H locs 0 0 Q (F0 m 75 ls []) := by
    intro x2 x3 H locs ls hf hP hD hS hl
    unfold f_S_spareAreZero_75 at hf
    refine lv_iload_n hx hb d_S_spareAreZero_75 rfl (lv_at hl 1 rfl) ?_
    refine lv_sipush (v := 268) hx hb d_S_spareAreZero_76 (by decide) ?_
    refine lv_icmp_gt (tgt := 100) hx hb d_S_spareAreZero_79 (by decide) (fun c_1 => ?_) (fun c_1 => ?_)
    · have hf := ite_t c_1 hf
      exact hj_100 x3 _ _ _ hf hP hD hS (lv_sub hl [0, 2] rfl)
    · have hf := ite_f c_1 hf
      refine lv_aload_n hx hb d_S_spareAreZero_82 rfl (lv_at hl 0 rfl) ?_
      refine va_get (D := (dC, dI)) (ci := 3) (v := .ref (h 1)) (C := R_S) (T := T_S) (N := 10) hx hb htb in_S hown hK hP 6 rfl rfl 0 (by decide) (htb _ tw_176) (fun _ h9 => h9) rfl d_S_spareAreZero_83 ?_
      refine lv_lload_n hx hb d_S_spareAreZero_86 rfl (lv_at hl 2 rfl) ?_
      refine lv_ldc2 (v := 92) hx hb hown (htb _ tw_412) d_S_spareAreZero_87 ?_
      refine lv_ladd hx hb d_S_spareAreZero_90 ?_
      refine lv_iconst (v := 4) hx hb d_S_spareAreZero_91 (by decide) ?_
      obtain ⟨r_2, hc_3, hf⟩ := bd1_s hf
      refine ucVl (As := [.long (x3 + ((92 : Int64))), .int ((4 : Int32))]) (rest := []) ⟨hx, hb, hml, hown, htb⟩ hK hP hD hS hA (fun hs => c_D_number hc_3) (cwV 2 htb (gV tw_308 tw_264 tw_265 tw_69 tw_266) rfl rfl rfl (by decide +kernel) ⟨Nat.le_of_ble_eq_true rfl, Nat.le_of_ble_eq_true rfl⟩) 1 0 rfl rfl rfl rfl rfl hl.1 (Nat.le_of_ble_eq_true rfl) d_S_spareAreZero_92 ⟨Nat.zero_le _, Nat.zero_le _⟩ (fun H locs hP hD hS => ?_)
      refine lv_lconst (v := 0) hx hb d_S_spareAreZero_95 (by decide) ?_
      refine lc_ne (tgt := 122) hx hb d_S_spareAreZero_96 d_S_spareAreZero_97 (by decide) (fun c_4 => ?_) (fun c_4 => ?_)
      · have hf := ite_f c_4 hf
        refine lv_iconst (v := 0) hx hb d_S_spareAreZero_122 (by decide) ?_
        cases hf
        exact hret _ _ _ _ (Or.inl rfl) hP hD hS d_S_spareAreZero_123
      · have hf := ite_t c_4 hf
        exact hj_100 x3 _ _ _ hf hP hD hS (lv_sub hl [0, 2] rfl)
  have hj_12 : ∀ (k_12 : Nat) (x2 : Int32) (x3 : Int64) (x5 : Int32) (H : Heap) (locs : List Loc) (ls : Array Slot), f_S_spareAreZero_12 N NW sz wd mb gI k_12 x2 x3 x5 = some (r) → va_P (dC, dI) clAll (wC h cI cL NW bk sz wd mb gB gI gN iN dr es of od pl hd tk kn li pa ins cm fd hr) H → va_D A (wC h cI cL NW bk sz wd mb gB gI gN iN dr es of od pl hd tk kn li pa ins cm fd hr) → va_S A s.heap H locs → lv_has ls 6 [(0, .ref (h 6)), (2, .int x2), (3, .long x3), (5, .int x5)] → W p l e (headSpec ws_S_spareAreZero { frames := 1, cells := 0, slots := 0, locals := 27 }).room s m args below meth c H locs 0 0 Q (F0 m 12 ls []) := by
    intro k_12
    induction k_12 with
    | zero => intro _ _ _ _ _ _ hf; exact absurd hf (by simp [f_S_spareAreZero_12])
    | succ k_12 ih_12 =>
      intro x2 x3 x5 H locs ls hf hP hD hS hl
      rw [f_S_spareAreZero_12] at hf
      refine lv_iload hx hb d_S_spareAreZero_12 (lv_at hl 3 rfl) ?_
      refine lv_bipush (v := 12) hx hb d_S_spareAreZero_14 (by decide) ?_
      refine lv_icmp_ge (tgt := 51) hx hb d_S_spareAreZero_16 (by decide) (fun c_1 => ?_) (fun c_1 => ?_)
      · have hf := ite_t c_1 hf
        refine lv_iload_n hx hb d_S_spareAreZero_51 rfl (lv_at hl 1 rfl) ?_
        refine lv_bipush (v := 12) hx hb d_S_spareAreZero_52 (by decide) ?_
        refine lv_icmp_gt (tgt := 75) hx hb d_S_spareAreZero_54 (by decide) (fun c_2 => ?_) (fun c_2 => ?_)
        · have hf := ite_t c_2 hf
          exact hj_75 x2 x3 _ _ _ hf hP hD hS (lv_sub hl [0, 1, 2] rfl)
        · have hf := ite_f c_2 hf
          refine lv_aload_n hx hb d_S_spareAreZero_57 rfl (lv_at hl 0 rfl) ?_
          refine va_get (D := (dC, dI)) (ci := 3) (v := .ref (h 1)) (C := R_S) (T := T_S) (N := 10) hx hb htb in_S hown hK hP 6 rfl rfl 0 (by decide) (htb _ tw_176) (fun _ h9 => h9) rfl d_S_spareAreZero_58 ?_
          refine lv_lload_n hx hb d_S_spareAreZero_61 rfl (lv_at hl 2 rfl) ?_
          refine lv_ldc2 (v := 88) hx hb hown (htb _ tw_411) d_S_spareAreZero_62 ?_
          refine lv_ladd hx hb d_S_spareAreZero_65 ?_
          refine lv_iconst (v := 4) hx hb d_S_spareAreZero_66 (by decide) ?_
          obtain ⟨r_3, hc_4, hf⟩ := bd1_s hf
          refine ucVl (As := [.long (x3 + ((88 : Int64))), .int ((4 : Int32))]) (rest := []) ⟨hx, hb, hml, hown, htb⟩ hK hP hD hS hA (fun hs => c_D_number hc_4) (cwV 2 htb (gV tw_308 tw_264 tw_265 tw_69 tw_266) rfl rfl rfl (by decide +kernel) ⟨Nat.le_of_ble_eq_true rfl, Nat.le_of_ble_eq_true rfl⟩) 1 0 rfl rfl rfl rfl rfl hl.1 (Nat.le_of_ble_eq_true rfl) d_S_spareAreZero_67 ⟨Nat.zero_le _, Nat.zero_le _⟩ (fun H locs hP hD hS => ?_)
          refine lv_lconst (v := 0) hx hb d_S_spareAreZero_70 (by decide) ?_
          refine lc_ne (tgt := 122) hx hb d_S_spareAreZero_71 d_S_spareAreZero_72 (by decide) (fun c_5 => ?_) (fun c_5 => ?_)
          · have hf := ite_f c_5 hf
            refine lv_iconst (v := 0) hx hb d_S_spareAreZero_122 (by decide) ?_
            cases hf
            exact hret _ _ _ _ (Or.inl rfl) hP hD hS d_S_spareAreZero_123
          · have hf := ite_t c_5 hf
            exact hj_75 x2 x3 _ _ _ hf hP hD hS (lv_sub hl [0, 1, 2] rfl)
      · have hf := ite_f c_1 hf
        refine lv_aload_n hx hb d_S_spareAreZero_19 rfl (lv_at hl 0 rfl) ?_
        refine va_get (D := (dC, dI)) (ci := 3) (v := .ref (h 1)) (C := R_S) (T := T_S) (N := 10) hx hb htb in_S hown hK hP 6 rfl rfl 0 (by decide) (htb _ tw_176) (fun _ h9 => h9) rfl d_S_spareAreZero_20 ?_
        refine lv_lload_n hx hb d_S_spareAreZero_23 rfl (lv_at hl 2 rfl) ?_
        refine lv_ldc2 (v := 40) hx hb hown (htb _ tw_410) d_S_spareAreZero_24 ?_
        refine lv_ladd hx hb d_S_spareAreZero_27 ?_
        refine lv_iconst (v := 4) hx hb d_S_spareAreZero_28 (by decide) ?_
        refine lv_iload hx hb d_S_spareAreZero_29 (lv_at hl 3 rfl) ?_
        refine lv_imul hx hb d_S_spareAreZero_31 ?_
        refine lv_i2l hx hb d_S_spareAreZero_32 rfl ?_
        refine lv_ladd hx hb d_S_spareAreZero_33 ?_
        refine lv_iconst (v := 4) hx hb d_S_spareAreZero_34 (by decide) ?_
        obtain ⟨r_6, hc_7, hf⟩ := bd1_s hf
        refine ucVl (As := [.long ((x3 + ((40 : Int64))) + (Int32.toInt64 (((4 : Int32)) * x5))), .int ((4 : Int32))]) (rest := []) ⟨hx, hb, hml, hown, htb⟩ hK hP hD hS hA (fun hs => c_D_number hc_7) (cwV 2 htb (gV tw_308 tw_264 tw_265 tw_69 tw_266) rfl rfl rfl (by decide +kernel) ⟨Nat.le_of_ble_eq_true rfl, Nat.le_of_ble_eq_true rfl⟩) 1 0 rfl rfl rfl rfl rfl hl.1 (Nat.le_of_ble_eq_true rfl) d_S_spareAreZero_35 ⟨Nat.zero_le _, Nat.zero_le _⟩ (fun H locs hP hD hS => ?_)
        refine lv_lconst (v := 0) hx hb d_S_spareAreZero_38 (by decide) ?_
        refine lc_eq (tgt := 45) hx hb d_S_spareAreZero_39 d_S_spareAreZero_40 (by decide) (fun c_8 => ?_) (fun c_8 => ?_)
        · have hf := ite_t c_8 hf
          obtain ⟨v5_9, ev5_9, hf⟩ := lt1_s hf
          refine lv_iinc (v := v5_9) (lv' := [(5, .int v5_9), (0, .ref (h 6)), (2, .int x2), (3, .long x3)]) hx hb d_S_spareAreZero_45 hl (k := 3) rfl (by rw [← ev5_9]; rfl) (by decide) rfl (fun ls hl => ?_)
          refine lv_goto (tgt := 12) hx hb d_S_spareAreZero_48 (by decide) ?_
          exact ih_12 x2 x3 v5_9 _ _ _ hf hP hD hS (lv_sub hl [1, 2, 3, 0] rfl)
        · have hf := ite_f c_8 hf
          refine lv_iconst (v := 0) hx hb d_S_spareAreZero_43 (by decide) ?_
          cases hf
          exact hret _ _ _ _ (Or.inl rfl) hP hD hS d_S_spareAreZero_44
  unfold f_S_spareAreZero at hf
  refine lv_aload_n hx hb d_S_spareAreZero_0 rfl (lv_at hl 0 rfl) ?_
  refine va_get (D := (dC, dI)) (ci := 3) (v := .ref (h 3)) (C := R_S) (T := T_S) (N := 10) hx hb htb in_S hown hK hP 6 rfl rfl 1 (by decide) (htb _ tw_177) (fun _ h9 => h9) rfl d_S_spareAreZero_1 ?_
  refine lv_iload_n hx hb d_S_spareAreZero_4 rfl (lv_at hl 1 rfl) ?_
  obtain ⟨r_1, hc_2, hf⟩ := bd1_s hf
  refine ucVl (As := [.int a1]) (rest := []) ⟨hx, hb, hml, hown, htb⟩ hK hP hD hS hA (fun hs => c_L_inodePlace hc_2) (cwV 1 htb (gV tw_409 tw_383 tw_384 tw_71 tw_385) rfl rfl rfl (by decide +kernel) ⟨Nat.le_of_ble_eq_true rfl, Nat.le_of_ble_eq_true rfl⟩) 3 2 rfl rfl rfl rfl rfl hl.1 (Nat.le_of_ble_eq_true rfl) d_S_spareAreZero_5 ⟨Nat.zero_le _, Nat.zero_le _⟩ (fun H locs hP hD hS => ?_)
  refine lv_lstore_n (lv' := [(3, .long r_1), (0, .ref (h 6)), (1, .int a1), (2, .int a2)]) hx hb d_S_spareAreZero_8 rfl hl (by decide) rfl (fun ls hl => ?_)
  refine lv_iload_n hx hb d_S_spareAreZero_9 rfl (lv_at hl 3 rfl) ?_
  refine lv_istore (lv' := [(5, .int a2), (3, .long r_1), (0, .ref (h 6)), (1, .int a1), (2, .int a2)]) hx hb d_S_spareAreZero_10 hl (by decide) rfl (fun ls hl => ?_)
  exact hj_12 N a2 r_1 a2 _ _ _ hf hP hD hS (lv_sub hl [2, 4, 1, 0] rfl)
set_option maxHeartbeats 4000000 in
set_option maxRecDepth 100000 in
theorem c_S_take {l : Launch} {dC : Nat → ClassId} {dI : Nat → Nat → Nat} {h : Nat → Nat} {cI : ClassId} {cL : ClassId} {NW : Nat} {bk : Int32} {sz : Int32} {wd : Nat → Int64} {mb : Nat → Int32} {gB : Int32} {gI : Int32} {gN : Int32} {iN : Int32} {dr : Int32} {es : Int64} {of : Int64} {od : Int32} {pl : Int64} {hd : Int64} {tk : Nat → Int32} {kn : Nat → Int32} {li : Nat → Int32} {pa : Nat → Int32} {ins : Nat → Int32} {cm : Int32} {fd : Int32} {hr : Int32} {hs : Nat} {a1 : Int64} {r : Int32} {tk' : Nat → Int32} (hf : f_S_take NW bk tk a1 = some (r, tk')) : Met l y_S_take ws_S_take { frames := 1, cells := 0, slots := 0, locals := 20 } (PcU (dC, dI) clAll [(cI, .int), (cL, .long)] (wC h cI cL NW bk sz wd mb gB gI gN iN dr es of od pl hd tk kn li pa ins cm fd hr) hs [.ref (h 6), .long a1]) (QUi (dC, dI) clAll [(cI, .int), (cL, .long)] (wC h cI cL NW bk sz wd mb gB gI gN iN dr es of od pl hd tk kn li pa ins cm fd hr) (wC h cI cL NW bk sz wd mb gB gI gN iN dr es of od pl hd tk' kn li pa ins cm fd hr) hs r) 0 0 (va_A (wC h cI cL NW bk sz wd mb gB gI gN iN dr es of od pl hd tk kn li pa ins cm fd hr) hs) := by
  refine mUz (cc := b_S_take) (maxL := 4) (by decide) rfl (Nat.le_of_ble_eq_true rfl) ?_
  intro p e s m args below meth c Q hx hb hml hts hown A hA hK hP hD hS hret ls hl
  have htb : ∀ w ∈ TB, w.before args s = true := fun w h => hts w (List.mem_cons_of_mem _ h)
  have hl : lv_has ls 4 [(0, .ref (h 6)), (1, .long a1)] := hl
  unfold f_S_take at hf
  refine lv_lload_n hx hb d_S_take_0 rfl (lv_at hl 1 rfl) ?_
  refine lv_lconst (v := 1) hx hb d_S_take_1 (by decide) ?_
  refine lc_lt (tgt := 30) hx hb d_S_take_2 d_S_take_3 (by decide) (fun c_1 => ?_) (fun c_1 => ?_)
  · have hf := ite_t c_1 hf
    refine lv_iconst (v := 0) hx hb d_S_take_30 (by decide) ?_
    cases hf
    exact hret _ _ _ _ (Or.inl rfl) hP hD hS d_S_take_31
  · have hf := ite_f c_1 hf
    refine lv_lload_n hx hb d_S_take_6 rfl (lv_at hl 1 rfl) ?_
    refine lv_aload_n hx hb d_S_take_7 rfl (lv_at hl 0 rfl) ?_
    refine va_get (D := (dC, dI)) (ci := 3) (v := .ref (h 1)) (C := R_S) (T := T_S) (N := 10) hx hb htb in_S hown hK hP 6 rfl rfl 0 (by decide) (htb _ tw_176) (fun _ h9 => h9) rfl d_S_take_8 ?_
    obtain ⟨r_2, hc_3, hf⟩ := bd1_s hf
    refine ucVi (As := []) (rest := [.long a1]) ⟨hx, hb, hml, hown, htb⟩ hK hP hD hS hA (fun hs => c_D_blocks hc_3) (cwV 0 htb (gV tw_309 tw_297 tw_298 tw_69 tw_299) rfl rfl rfl (by decide +kernel) ⟨Nat.le_of_ble_eq_true rfl, Nat.le_of_ble_eq_true rfl⟩) 1 0 rfl rfl rfl rfl rfl hl.1 (Nat.le_of_ble_eq_true rfl) d_S_take_11 ⟨Nat.zero_le _, Nat.zero_le _⟩ (fun H locs hP hD hS => ?_)
    refine lv_i2l hx hb d_S_take_14 rfl ?_
    refine lc_ge (tgt := 30) hx hb d_S_take_15 d_S_take_16 (by decide) (fun c_4 => ?_) (fun c_4 => ?_)
    · have hf := ite_t c_4 hf
      refine lv_iconst (v := 0) hx hb d_S_take_30 (by decide) ?_
      cases hf
      exact hret _ _ _ _ (Or.inl rfl) hP hD hS d_S_take_31
    · have hf := ite_f c_4 hf
      refine lv_lload_n hx hb d_S_take_19 rfl (lv_at hl 1 rfl) ?_
      refine lv_aload_n hx hb d_S_take_20 rfl (lv_at hl 0 rfl) ?_
      refine va_get (D := (dC, dI)) (ci := 3) (v := .ref (h 7)) (C := R_S) (T := T_S) (N := 10) hx hb htb in_S hown hK hP 6 rfl rfl 3 (by decide) (htb _ tw_179) (fun _ h9 => h9) rfl d_S_take_21 ?_
      refine va_alen (v := (512 : Int32)) hx hb hK hP 7 0 rfl rfl rfl d_S_take_24 ?_
      refine lv_i2l hx hb d_S_take_25 rfl ?_
      refine lc_lt (tgt := 32) hx hb d_S_take_26 d_S_take_27 (by decide) (fun c_5 => ?_) (fun c_5 => ?_)
      · have hf := ite_t c_5 hf
        refine lv_lload_n hx hb d_S_take_32 rfl (lv_at hl 1 rfl) ?_
        refine lv_l2i hx hb d_S_take_33 rfl ?_
        obtain ⟨v3_6, ev3_6, hf⟩ := lt1_s hf
        refine lv_eqi ev3_6 ?_
        refine lv_istore_n (lv' := [(3, .int v3_6), (0, .ref (h 6)), (1, .long a1)]) hx hb d_S_take_34 rfl hl (by decide) rfl (fun ls hl => ?_)
        refine lv_aload_n hx hb d_S_take_35 rfl (lv_at hl 1 rfl) ?_
        refine va_get (D := (dC, dI)) (ci := 3) (v := .ref (h 7)) (C := R_S) (T := T_S) (N := 10) hx hb htb in_S hown hK hP 6 rfl rfl 3 (by decide) (htb _ tw_179) (fun _ h9 => h9) rfl d_S_take_36 ?_
        refine lv_iload_n hx hb d_S_take_39 rfl (lv_at hl 0 rfl) ?_
        obtain ⟨c_7, hf⟩ := gd_s hf
        refine va_iald (i := v3_6) hx hb hK hP 7 0 rfl rfl c_7 d_S_take_40 ?_
        refine lv_if_eq (tgt := 46) hx hb d_S_take_41 (by decide) (fun c_8 => ?_) (fun c_8 => ?_)
        · have hf := ite_t c_8 hf
          refine lv_aload_n hx hb d_S_take_46 rfl (lv_at hl 1 rfl) ?_
          refine va_get (D := (dC, dI)) (ci := 3) (v := .ref (h 7)) (C := R_S) (T := T_S) (N := 10) hx hb htb in_S hown hK hP 6 rfl rfl 3 (by decide) (htb _ tw_179) (fun _ h9 => h9) rfl d_S_take_47 ?_
          refine lv_iload_n hx hb d_S_take_50 rfl (lv_at hl 0 rfl) ?_
          refine lv_iconst (v := 1) hx hb d_S_take_51 (by decide) ?_
          obtain ⟨c_9, hf⟩ := gd_s hf
          refine va_iast (i := v3_6) (x := (1 : Int32)) hx hb hK hP hD hS 7 0 rfl rfl c_9 d_S_take_52 (fun H locs hP hD hS => ?_)
          obtain ⟨tk_10, etk_10, hf⟩ := lt1_s hf
          have hP : va_P (dC, dI) clAll (wC h cI cL NW bk sz wd mb gB gI gN iN dr es of od pl hd tk_10 kn li pa ins cm fd hr) H := etk_10 ▸ hP
          have hD : va_D A (wC h cI cL NW bk sz wd mb gB gI gN iN dr es of od pl hd tk_10 kn li pa ins cm fd hr) := etk_10 ▸ hD
          refine lv_iconst (v := 1) hx hb d_S_take_53 (by decide) ?_
          cases hf
          exact hret _ _ _ _ (Or.inr rfl) hP hD hS d_S_take_54
        · have hf := ite_f c_8 hf
          refine lv_iconst (v := 0) hx hb d_S_take_44 (by decide) ?_
          cases hf
          exact hret _ _ _ _ (Or.inl rfl) hP hD hS d_S_take_45
      · have hf := ite_f c_5 hf
        refine lv_iconst (v := 0) hx hb d_S_take_30 (by decide) ?_
        cases hf
        exact hret _ _ _ _ (Or.inl rfl) hP hD hS d_S_take_31
set_option maxHeartbeats 4000000 in
set_option maxRecDepth 100000 in
theorem c_S_takeWhole {l : Launch} {dC : Nat → ClassId} {dI : Nat → Nat → Nat} {N : Nat} {h : Nat → Nat} {cI : ClassId} {cL : ClassId} {NW : Nat} {bk : Int32} {sz : Int32} {wd : Nat → Int64} {mb : Nat → Int32} {gB : Int32} {gI : Int32} {gN : Int32} {iN : Int32} {dr : Int32} {es : Int64} {of : Int64} {od : Int32} {pl : Int64} {hd : Int64} {tk : Nat → Int32} {kn : Nat → Int32} {li : Nat → Int32} {pa : Nat → Int32} {ins : Nat → Int32} {cm : Int32} {fd : Int32} {hr : Int32} {hs : Nat} {a1 : Int32} {r : Int32} {tk' : Nat → Int32} (hf : f_S_takeWhole N NW bk sz wd mb gI tk a1 = some (r, tk')) : Met l y_S_takeWhole ws_S_takeWhole { frames := 2, cells := 0, slots := 0, locals := 56 } (PcU (dC, dI) clAll [(cI, .int), (cL, .long)] (wC h cI cL NW bk sz wd mb gB gI gN iN dr es of od pl hd tk kn li pa ins cm fd hr) hs [.ref (h 6), .int a1]) (QUi (dC, dI) clAll [(cI, .int), (cL, .long)] (wC h cI cL NW bk sz wd mb gB gI gN iN dr es of od pl hd tk kn li pa ins cm fd hr) (wC h cI cL NW bk sz wd mb gB gI gN iN dr es of od pl hd tk' kn li pa ins cm fd hr) hs r) 0 0 (va_A (wC h cI cL NW bk sz wd mb gB gI gN iN dr es of od pl hd tk kn li pa ins cm fd hr) hs) := by
  refine mUz (cc := b_S_takeWhole) (maxL := 10) (by decide) rfl (Nat.le_of_ble_eq_true rfl) ?_
  intro p e s m args below meth c Q hx hb hml hts hown A hA hK hP hD hS hret ls hl
  have htb : ∀ w ∈ TB, w.before args s = true := fun w h => hts w (List.mem_cons_of_mem _ h)
  have hl : lv_has ls 10 [(0, .ref (h 6)), (1, .int a1)] := hl
  have hj_241 : ∀ (k_241 : Nat) (tk : Nat → Int32) (x1 : Int32) (x4 : Int32) (x9 : Int32) (H : Heap) (locs : List Loc) (ls : Array Slot), f_S_takeWhole_241 N NW bk sz wd mb gI k_241 tk x1 x4 x9 = some (r, tk') → va_P (dC, dI) clAll (wC h cI cL NW bk sz wd mb gB gI gN iN dr es of od pl hd tk kn li pa ins cm fd hr) H → va_D A (wC h cI cL NW bk sz wd mb gB gI gN iN dr es of od pl hd tk kn li pa ins cm fd hr) → va_S A s.heap H locs → lv_has ls 10 [(0, .ref (h 6)), (1, .int x1), (4, .int x4), (9, .int x9)] → W p l e (headSpec ws_S_takeWhole { frames := 2, cells := 0, slots := 0, locals := 56 }).room s m args below meth c H locs 0 0 Q (F0 m 241 ls []) := by
    intro k_241
    induction k_241 with
    | zero => intro _ _ _ _ _ _ _ hf; exact absurd hf (by simp [f_S_takeWhole_241])
    | succ k_241 ih_241 =>
      intro tk x1 x4 x9 H locs ls hf hP hD hS hl
      rw [f_S_takeWhole_241] at hf
      refine lv_iload hx hb d_S_takeWhole_241 (lv_at hl 3 rfl) ?_
      refine lv_iload hx hb d_S_takeWhole_243 (lv_at hl 2 rfl) ?_
      refine lv_icmp_ge (tgt := 273) hx hb d_S_takeWhole_245 (by decide) (fun c_1 => ?_) (fun c_1 => ?_)
      · have hf := ite_t c_1 hf
        refine lv_iconst (v := 1) hx hb d_S_takeWhole_273 (by decide) ?_
        cases hf
        exact hret _ _ _ _ (Or.inr rfl) hP hD hS d_S_takeWhole_274
      · have hf := ite_f c_1 hf
        refine lv_aload_n hx hb d_S_takeWhole_248 rfl (lv_at hl 0 rfl) ?_
        refine lv_aload_n hx hb d_S_takeWhole_249 rfl (lv_at hl 0 rfl) ?_
        refine va_get (D := (dC, dI)) (ci := 3) (v := .ref (h 3)) (C := R_S) (T := T_S) (N := 10) hx hb htb in_S hown hK hP 6 rfl rfl 1 (by decide) (htb _ tw_177) (fun _ h9 => h9) rfl d_S_takeWhole_250 ?_
        refine lv_iload_n hx hb d_S_takeWhole_253 rfl (lv_at hl 1 rfl) ?_
        refine lv_iload hx hb d_S_takeWhole_254 (lv_at hl 3 rfl) ?_
        obtain ⟨r_2, hc_3, hf⟩ := bd1_s hf
        refine ucVl (As := [.int x1, .int x9]) (rest := [.ref (h 6)]) ⟨hx, hb, hml, hown, htb⟩ hK hP hD hS hA (fun hs => c_L_blockOf hc_3) (cwV 2 htb (gV tw_418 tw_419 tw_420 tw_71 tw_421) rfl rfl rfl (by decide +kernel) ⟨Nat.le_of_ble_eq_true rfl, Nat.le_of_ble_eq_true rfl⟩) 3 2 rfl rfl rfl rfl rfl hl.1 (Nat.le_of_ble_eq_true rfl) d_S_takeWhole_256 ⟨Nat.zero_le _, Nat.zero_le _⟩ (fun H locs hP hD hS => ?_)
        obtain ⟨r_4, tk_5, hc_6, hf⟩ := bd2_s hf
        refine ucVi (As := [.long r_2]) (rest := []) ⟨hx, hb, hml, hown, htb⟩ hK hP hD hS hA (fun hs => c_S_take hc_6) (cwV 1 htb (gV tw_414 tw_416 tw_10 tw_73 tw_417) rfl rfl rfl (by decide +kernel) ⟨Nat.le_of_ble_eq_true rfl, Nat.le_of_ble_eq_true rfl⟩) 6 3 rfl rfl rfl rfl rfl hl.1 (Nat.le_of_ble_eq_true rfl) d_S_takeWhole_259 ⟨Nat.zero_le _, Nat.zero_le _⟩ (fun H locs hP hD hS => ?_)
        refine lv_if_ne (tgt := 267) hx hb d_S_takeWhole_262 (by decide) (fun c_7 => ?_) (fun c_7 => ?_)
        · have hf := ite_f c_7 hf
          obtain ⟨v9_8, ev9_8, hf⟩ := lt1_s hf
          refine lv_iinc (v := v9_8) (lv' := [(9, .int v9_8), (0, .ref (h 6)), (1, .int x1), (4, .int x4)]) hx hb d_S_takeWhole_267 hl (k := 3) rfl (by rw [← ev9_8]; rfl) (by decide) rfl (fun ls hl => ?_)
          refine lv_goto (tgt := 241) hx hb d_S_takeWhole_270 (by decide) ?_
          exact ih_241 tk_5 x1 x4 v9_8 _ _ _ hf hP hD hS (lv_sub hl [1, 2, 3, 0] rfl)
        · have hf := ite_t c_7 hf
          refine lv_iconst (v := 0) hx hb d_S_takeWhole_265 (by decide) ?_
          cases hf
          exact hret _ _ _ _ (Or.inl rfl) hP hD hS d_S_takeWhole_266
  have hj_196 : ∀ (k_196 : Nat) (tk : Nat → Int32) (x1 : Int32) (x4 : Int32) (x5 : Int32) (x7 : Int64) (x9 : Int32) (H : Heap) (locs : List Loc) (ls : Array Slot), f_S_takeWhole_196 N NW bk sz wd mb gI k_196 tk x1 x4 x5 x7 x9 = some (r, tk') → va_P (dC, dI) clAll (wC h cI cL NW bk sz wd mb gB gI gN iN dr es of od pl hd tk kn li pa ins cm fd hr) H → va_D A (wC h cI cL NW bk sz wd mb gB gI gN iN dr es of od pl hd tk kn li pa ins cm fd hr) → va_S A s.heap H locs → lv_has ls 10 [(0, .ref (h 6)), (1, .int x1), (4, .int x4), (5, .int x5), (7, .long x7), (9, .int x9)] → W p l e (headSpec ws_S_takeWhole { frames := 2, cells := 0, slots := 0, locals := 56 }).room s m args below meth c H locs 0 0 Q (F0 m 196 ls []) := by
    intro k_196
    induction k_196 with
    | zero => intro _ _ _ _ _ _ _ _ _ hf; exact absurd hf (by simp [f_S_takeWhole_196])
    | succ k_196 ih_196 =>
      intro tk x1 x4 x5 x7 x9 H locs ls hf hP hD hS hl
      rw [f_S_takeWhole_196] at hf
      refine lv_iload hx hb d_S_takeWhole_196 (lv_at hl 5 rfl) ?_
      refine lv_iload hx hb d_S_takeWhole_198 (lv_at hl 3 rfl) ?_
      refine lv_icmp_ge (tgt := 238) hx hb d_S_takeWhole_200 (by decide) (fun c_1 => ?_) (fun c_1 => ?_)
      · have hf := ite_t c_1 hf
        refine lv_iconst (v := 0) hx hb d_S_takeWhole_238 (by decide) ?_
        refine lv_istore (lv' := [(9, .int ((0 : Int32))), (0, .ref (h 6)), (1, .int x1), (4, .int x4), (5, .int x5), (7, .long x7)]) hx hb d_S_takeWhole_239 hl (by decide) rfl (fun ls hl => ?_)
        exact hj_241 N tk x1 x4 ((0 : Int32)) _ _ _ hf hP hD hS (lv_sub hl [1, 2, 3, 0] rfl)
      · have hf := ite_f c_1 hf
        refine lv_aload_n hx hb d_S_takeWhole_203 rfl (lv_at hl 0 rfl) ?_
        refine lv_aload_n hx hb d_S_takeWhole_204 rfl (lv_at hl 0 rfl) ?_
        refine va_get (D := (dC, dI)) (ci := 3) (v := .ref (h 1)) (C := R_S) (T := T_S) (N := 10) hx hb htb in_S hown hK hP 6 rfl rfl 0 (by decide) (htb _ tw_176) (fun _ h9 => h9) rfl d_S_takeWhole_205 ?_
        refine lv_ldc2 (v := 1024) hx hb hown (htb _ tw_339) d_S_takeWhole_208 ?_
        refine lv_lload hx hb d_S_takeWhole_211 (lv_at hl 4 rfl) ?_
        refine lv_lmul hx hb d_S_takeWhole_213 ?_
        refine lv_iconst (v := 4) hx hb d_S_takeWhole_214 (by decide) ?_
        refine lv_iload hx hb d_S_takeWhole_215 (lv_at hl 5 rfl) ?_
        refine lv_imul hx hb d_S_takeWhole_217 ?_
        refine lv_i2l hx hb d_S_takeWhole_218 rfl ?_
        refine lv_ladd hx hb d_S_takeWhole_219 ?_
        refine lv_iconst (v := 4) hx hb d_S_takeWhole_220 (by decide) ?_
        obtain ⟨r_2, hc_3, hf⟩ := bd1_s hf
        refine ucVl (As := [.long ((((1024 : Int64)) * x7) + (Int32.toInt64 (((4 : Int32)) * x9))), .int ((4 : Int32))]) (rest := [.ref (h 6)]) ⟨hx, hb, hml, hown, htb⟩ hK hP hD hS hA (fun hs => c_D_number hc_3) (cwV 2 htb (gV tw_308 tw_264 tw_265 tw_69 tw_266) rfl rfl rfl (by decide +kernel) ⟨Nat.le_of_ble_eq_true rfl, Nat.le_of_ble_eq_true rfl⟩) 1 0 rfl rfl rfl rfl rfl hl.1 (Nat.le_of_ble_eq_true rfl) d_S_takeWhole_221 ⟨Nat.zero_le _, Nat.zero_le _⟩ (fun H locs hP hD hS => ?_)
        obtain ⟨r_4, tk_5, hc_6, hf⟩ := bd2_s hf
        refine ucVi (As := [.long r_2]) (rest := []) ⟨hx, hb, hml, hown, htb⟩ hK hP hD hS hA (fun hs => c_S_take hc_6) (cwV 1 htb (gV tw_414 tw_416 tw_10 tw_73 tw_417) rfl rfl rfl (by decide +kernel) ⟨Nat.le_of_ble_eq_true rfl, Nat.le_of_ble_eq_true rfl⟩) 6 3 rfl rfl rfl rfl rfl hl.1 (Nat.le_of_ble_eq_true rfl) d_S_takeWhole_224 ⟨Nat.zero_le _, Nat.zero_le _⟩ (fun H locs hP hD hS => ?_)
        refine lv_if_ne (tgt := 232) hx hb d_S_takeWhole_227 (by decide) (fun c_7 => ?_) (fun c_7 => ?_)
        · have hf := ite_f c_7 hf
          obtain ⟨v9_8, ev9_8, hf⟩ := lt1_s hf
          refine lv_iinc (v := v9_8) (lv' := [(9, .int v9_8), (0, .ref (h 6)), (1, .int x1), (4, .int x4), (5, .int x5), (7, .long x7)]) hx hb d_S_takeWhole_232 hl (k := 5) rfl (by rw [← ev9_8]; rfl) (by decide) rfl (fun ls hl => ?_)
          refine lv_goto (tgt := 196) hx hb d_S_takeWhole_235 (by decide) ?_
          exact ih_196 tk_5 x1 x4 x5 x7 v9_8 _ _ _ hf hP hD hS (lv_sub hl [1, 2, 3, 4, 5, 0] rfl)
        · have hf := ite_t c_7 hf
          refine lv_iconst (v := 0) hx hb d_S_takeWhole_230 (by decide) ?_
          cases hf
          exact hret _ _ _ _ (Or.inl rfl) hP hD hS d_S_takeWhole_231
  have hj_161 : ∀ (tk : Nat → Int32) (x1 : Int32) (x4 : Int32) (x5 : Int32) (H : Heap) (locs : List Loc) (ls : Array Slot), f_S_takeWhole_161 N NW bk sz wd mb gI tk x1 x4 x5 = some (r, tk') → va_P (dC, dI) clAll (wC h cI cL NW bk sz wd mb gB gI gN iN dr es of od pl hd tk kn li pa ins cm fd hr) H → va_D A (wC h cI cL NW bk sz wd mb gB gI gN iN dr es of od pl hd tk kn li pa ins cm fd hr) → va_S A s.heap H locs → lv_has ls 10 [(0, .ref (h 6)), (1, .int x1), (4, .int x4), (5, .int x5)] → W p l e (headSpec ws_S_takeWhole { frames := 2, cells := 0, slots := 0, locals := 56 }).room s m args below meth c H locs 0 0 Q (F0 m 161 ls []) := by
    intro tk x1 x4 x5 H locs ls hf hP hD hS hl
    unfold f_S_takeWhole_161 at hf
    refine lv_aload_n hx hb d_S_takeWhole_161 rfl (lv_at hl 0 rfl) ?_
    refine va_get (D := (dC, dI)) (ci := 3) (v := .ref (h 3)) (C := R_S) (T := T_S) (N := 10) hx hb htb in_S hown hK hP 6 rfl rfl 1 (by decide) (htb _ tw_177) (fun _ h9 => h9) rfl d_S_takeWhole_162 ?_
    refine lv_iload_n hx hb d_S_takeWhole_165 rfl (lv_at hl 1 rfl) ?_
    refine lv_bipush (v := 92) hx hb d_S_takeWhole_166 (by decide) ?_
    refine lv_iconst (v := 4) hx hb d_S_takeWhole_168 (by decide) ?_
    obtain ⟨r_1, hc_2, hf⟩ := bd1_s hf
    refine ucVl (As := [.int x1, .int ((92 : Int32)), .int ((4 : Int32))]) (rest := []) ⟨hx, hb, hml, hown, htb⟩ hK hP hD hS hA (fun hs => c_L_field hc_2) (cwV 3 htb (gV tw_401 tw_402 tw_403 tw_71 tw_404) rfl rfl rfl (by decide +kernel) ⟨Nat.le_of_ble_eq_true rfl, Nat.le_of_ble_eq_true rfl⟩) 3 2 rfl rfl rfl rfl rfl hl.1 (Nat.le_of_ble_eq_true rfl) d_S_takeWhole_169 ⟨Nat.zero_le _, Nat.zero_le _⟩ (fun H locs hP hD hS => ?_)
    refine lv_lstore (lv' := [(7, .long r_1), (0, .ref (h 6)), (1, .int x1), (4, .int x4), (5, .int x5)]) hx hb d_S_takeWhole_172 hl (by decide) rfl (fun ls hl => ?_)
    refine lv_iload hx hb d_S_takeWhole_174 (lv_at hl 3 rfl) ?_
    refine lv_sipush (v := 268) hx hb d_S_takeWhole_176 (by decide) ?_
    refine lv_icmp_le (tgt := 193) hx hb d_S_takeWhole_179 (by decide) (fun c_3 => ?_) (fun c_3 => ?_)
    · have hf := ite_t c_3 hf
      refine lv_iconst (v := 0) hx hb d_S_takeWhole_193 (by decide) ?_
      refine lv_istore (lv' := [(9, .int ((0 : Int32))), (7, .long r_1), (0, .ref (h 6)), (1, .int x1), (4, .int x4), (5, .int x5)]) hx hb d_S_takeWhole_194 hl (by decide) rfl (fun ls hl => ?_)
      exact hj_196 N tk x1 x4 x5 r_1 ((0 : Int32)) _ _ _ hf hP hD hS (lv_sub hl [2, 3, 4, 5, 1, 0] rfl)
    · have hf := ite_f c_3 hf
      refine lv_aload_n hx hb d_S_takeWhole_182 rfl (lv_at hl 1 rfl) ?_
      refine lv_lload hx hb d_S_takeWhole_183 (lv_at hl 0 rfl) ?_
      obtain ⟨r_4, tk_5, hc_6, hf⟩ := bd2_s hf
      refine ucVi (As := [.long r_1]) (rest := []) ⟨hx, hb, hml, hown, htb⟩ hK hP hD hS hA (fun hs => c_S_take hc_6) (cwV 1 htb (gV tw_414 tw_416 tw_10 tw_73 tw_417) rfl rfl rfl (by decide +kernel) ⟨Nat.le_of_ble_eq_true rfl, Nat.le_of_ble_eq_true rfl⟩) 6 3 rfl rfl rfl rfl rfl hl.1 (Nat.le_of_ble_eq_true rfl) d_S_takeWhole_185 ⟨Nat.zero_le _, Nat.zero_le _⟩ (fun H locs hP hD hS => ?_)
      refine lv_if_ne (tgt := 193) hx hb d_S_takeWhole_188 (by decide) (fun c_7 => ?_) (fun c_7 => ?_)
      · have hf := ite_f c_7 hf
        refine lv_iconst (v := 0) hx hb d_S_takeWhole_193 (by decide) ?_
        refine lv_istore (lv' := [(9, .int ((0 : Int32))), (7, .long r_1), (0, .ref (h 6)), (1, .int x1), (4, .int x4), (5, .int x5)]) hx hb d_S_takeWhole_194 hl (by decide) rfl (fun ls hl => ?_)
        exact hj_196 N tk_5 x1 x4 x5 r_1 ((0 : Int32)) _ _ _ hf hP hD hS (lv_sub hl [2, 3, 4, 5, 1, 0] rfl)
      · have hf := ite_t c_7 hf
        refine lv_iconst (v := 0) hx hb d_S_takeWhole_191 (by decide) ?_
        cases hf
        exact hret _ _ _ _ (Or.inl rfl) hP hD hS d_S_takeWhole_192
  have hj_93 : ∀ (tk : Nat → Int32) (x1 : Int32) (x4 : Int32) (x5 : Int32) (s0 : Int32) (s1 : Int32) (H : Heap) (locs : List Loc) (ls : Array Slot), f_S_takeWhole_93 N NW bk sz wd mb gI tk x1 x4 x5 s0 s1 = some (r, tk') → va_P (dC, dI) clAll (wC h cI cL NW bk sz wd mb gB gI gN iN dr es of od pl hd tk kn li pa ins cm fd hr) H → va_D A (wC h cI cL NW bk sz wd mb gB gI gN iN dr es of od pl hd tk kn li pa ins cm fd hr) → va_S A s.heap H locs → lv_has ls 10 [(0, .ref (h 6)), (1, .int x1), (4, .int x4), (5, .int x5)] → W p l e (headSpec ws_S_takeWhole { frames := 2, cells := 0, slots := 0, locals := 56 }).room s m args below meth c H locs 0 0 Q (F0 m 93 ls [.int s1, .int s0]) := by
    intro tk x1 x4 x5 s0 s1 H locs ls hf hP hD hS hl
    unfold f_S_takeWhole_93 at hf
    refine lv_iadd hx hb d_S_takeWhole_93 ?_
    refine lv_iload hx hb d_S_takeWhole_94 (lv_at hl 3 rfl) ?_
    refine lv_iadd hx hb d_S_takeWhole_96 ?_
    obtain ⟨v6_1, ev6_1, hf⟩ := lt1_s hf
    refine lv_eqi ev6_1 ?_
    refine lv_istore (lv' := [(6, .int v6_1), (0, .ref (h 6)), (1, .int x1), (4, .int x4), (5, .int x5)]) hx hb d_S_takeWhole_97 hl (by decide) rfl (fun ls hl => ?_)
    refine lv_aload_n hx hb d_S_takeWhole_99 rfl (lv_at hl 1 rfl) ?_
    refine va_get (D := (dC, dI)) (ci := 3) (v := .ref (h 3)) (C := R_S) (T := T_S) (N := 10) hx hb htb in_S hown hK hP 6 rfl rfl 1 (by decide) (htb _ tw_177) (fun _ h9 => h9) rfl d_S_takeWhole_100 ?_
    refine lv_iload_n hx hb d_S_takeWhole_103 rfl (lv_at hl 2 rfl) ?_
    refine lv_bipush (v := 28) hx hb d_S_takeWhole_104 (by decide) ?_
    refine lv_iconst (v := 4) hx hb d_S_takeWhole_106 (by decide) ?_
    obtain ⟨r_2, hc_3, hf⟩ := bd1_s hf
    refine ucVl (As := [.int x1, .int ((28 : Int32)), .int ((4 : Int32))]) (rest := []) ⟨hx, hb, hml, hown, htb⟩ hK hP hD hS hA (fun hs => c_L_field hc_3) (cwV 3 htb (gV tw_401 tw_402 tw_403 tw_71 tw_404) rfl rfl rfl (by decide +kernel) ⟨Nat.le_of_ble_eq_true rfl, Nat.le_of_ble_eq_true rfl⟩) 3 2 rfl rfl rfl rfl rfl hl.1 (Nat.le_of_ble_eq_true rfl) d_S_takeWhole_107 ⟨Nat.zero_le _, Nat.zero_le _⟩ (fun H locs hP hD hS => ?_)
    refine lv_iconst (v := 2) hx hb d_S_takeWhole_110 (by decide) ?_
    refine lv_iload hx hb d_S_takeWhole_111 (lv_at hl 3 rfl) ?_
    refine lv_iload hx hb d_S_takeWhole_113 (lv_at hl 0 rfl) ?_
    refine lv_iadd hx hb d_S_takeWhole_115 ?_
    refine lv_imul hx hb d_S_takeWhole_116 ?_
    refine lv_i2l hx hb d_S_takeWhole_117 rfl ?_
    refine lc_ne (tgt := 132) hx hb d_S_takeWhole_118 d_S_takeWhole_119 (by decide) (fun c_4 => ?_) (fun c_4 => ?_)
    · have hf := ite_f c_4 hf
      refine lv_iconst (v := 0) hx hb d_S_takeWhole_132 (by decide) ?_
      cases hf
      exact hret _ _ _ _ (Or.inl rfl) hP hD hS d_S_takeWhole_133
    · have hf := ite_t c_4 hf
      refine lv_aload_n hx hb d_S_takeWhole_122 rfl (lv_at hl 1 rfl) ?_
      refine lv_iload_n hx hb d_S_takeWhole_123 rfl (lv_at hl 2 rfl) ?_
      refine lv_iload hx hb d_S_takeWhole_124 (lv_at hl 3 rfl) ?_
      obtain ⟨r_5, hc_6, hf⟩ := bd1_s hf
      refine ucVi (As := [.int x1, .int x4]) (rest := []) ⟨hx, hb, hml, hown, htb⟩ hK hP hD hS hA (fun hs => c_S_spareAreZero hc_6) (cwV 2 htb (gV tw_405 tw_407 tw_9 tw_73 tw_408) rfl rfl rfl (by decide +kernel) ⟨Nat.le_of_ble_eq_true rfl, Nat.le_of_ble_eq_true rfl⟩) 6 3 rfl rfl rfl rfl rfl hl.1 (Nat.le_of_ble_eq_true rfl) d_S_takeWhole_126 ⟨Nat.zero_le _, Nat.zero_le _⟩ (fun H locs hP hD hS => ?_)
      refine lv_if_ne (tgt := 134) hx hb d_S_takeWhole_129 (by decide) (fun c_7 => ?_) (fun c_7 => ?_)
      · have hf := ite_f c_7 hf
        refine lv_iload hx hb d_S_takeWhole_134 (lv_at hl 3 rfl) ?_
        refine lv_bipush (v := 12) hx hb d_S_takeWhole_136 (by decide) ?_
        refine lv_icmp_le (tgt := 161) hx hb d_S_takeWhole_138 (by decide) (fun c_8 => ?_) (fun c_8 => ?_)
        · have hf := ite_t c_8 hf
          exact hj_161 tk x1 x4 x5 _ _ _ hf hP hD hS (lv_sub hl [1, 2, 3, 4] rfl)
        · have hf := ite_f c_8 hf
          refine lv_aload_n hx hb d_S_takeWhole_141 rfl (lv_at hl 1 rfl) ?_
          refine lv_aload_n hx hb d_S_takeWhole_142 rfl (lv_at hl 1 rfl) ?_
          refine va_get (D := (dC, dI)) (ci := 3) (v := .ref (h 3)) (C := R_S) (T := T_S) (N := 10) hx hb htb in_S hown hK hP 6 rfl rfl 1 (by decide) (htb _ tw_177) (fun _ h9 => h9) rfl d_S_takeWhole_143 ?_
          refine lv_iload_n hx hb d_S_takeWhole_146 rfl (lv_at hl 2 rfl) ?_
          refine lv_bipush (v := 88) hx hb d_S_takeWhole_147 (by decide) ?_
          refine lv_iconst (v := 4) hx hb d_S_takeWhole_149 (by decide) ?_
          obtain ⟨r_9, hc_10, hf⟩ := bd1_s hf
          refine ucVl (As := [.int x1, .int ((88 : Int32)), .int ((4 : Int32))]) (rest := [.ref (h 6)]) ⟨hx, hb, hml, hown, htb⟩ hK hP hD hS hA (fun hs => c_L_field hc_10) (cwV 3 htb (gV tw_401 tw_402 tw_403 tw_71 tw_404) rfl rfl rfl (by decide +kernel) ⟨Nat.le_of_ble_eq_true rfl, Nat.le_of_ble_eq_true rfl⟩) 3 2 rfl rfl rfl rfl rfl hl.1 (Nat.le_of_ble_eq_true rfl) d_S_takeWhole_150 ⟨Nat.zero_le _, Nat.zero_le _⟩ (fun H locs hP hD hS => ?_)
          obtain ⟨r_11, tk_12, hc_13, hf⟩ := bd2_s hf
          refine ucVi (As := [.long r_9]) (rest := []) ⟨hx, hb, hml, hown, htb⟩ hK hP hD hS hA (fun hs => c_S_take hc_13) (cwV 1 htb (gV tw_414 tw_416 tw_10 tw_73 tw_417) rfl rfl rfl (by decide +kernel) ⟨Nat.le_of_ble_eq_true rfl, Nat.le_of_ble_eq_true rfl⟩) 6 3 rfl rfl rfl rfl rfl hl.1 (Nat.le_of_ble_eq_true rfl) d_S_takeWhole_153 ⟨Nat.zero_le _, Nat.zero_le _⟩ (fun H locs hP hD hS => ?_)
          refine lv_if_ne (tgt := 161) hx hb d_S_takeWhole_156 (by decide) (fun c_14 => ?_) (fun c_14 => ?_)
          · have hf := ite_f c_14 hf
            exact hj_161 tk_12 x1 x4 x5 _ _ _ hf hP hD hS (lv_sub hl [1, 2, 3, 4] rfl)
          · have hf := ite_t c_14 hf
            refine lv_iconst (v := 0) hx hb d_S_takeWhole_159 (by decide) ?_
            cases hf
            exact hret _ _ _ _ (Or.inl rfl) hP hD hS d_S_takeWhole_160
      · have hf := ite_t c_7 hf
        refine lv_iconst (v := 0) hx hb d_S_takeWhole_132 (by decide) ?_
        cases hf
        exact hret _ _ _ _ (Or.inl rfl) hP hD hS d_S_takeWhole_133
  have hj_80 : ∀ (tk : Nat → Int32) (x1 : Int32) (x4 : Int32) (x5 : Int32) (s0 : Int32) (H : Heap) (locs : List Loc) (ls : Array Slot), f_S_takeWhole_80 N NW bk sz wd mb gI tk x1 x4 x5 s0 = some (r, tk') → va_P (dC, dI) clAll (wC h cI cL NW bk sz wd mb gB gI gN iN dr es of od pl hd tk kn li pa ins cm fd hr) H → va_D A (wC h cI cL NW bk sz wd mb gB gI gN iN dr es of od pl hd tk kn li pa ins cm fd hr) → va_S A s.heap H locs → lv_has ls 10 [(0, .ref (h 6)), (1, .int x1), (4, .int x4), (5, .int x5)] → W p l e (headSpec ws_S_takeWhole { frames := 2, cells := 0, slots := 0, locals := 56 }).room s m args below meth c H locs 0 0 Q (F0 m 80 ls [.int s0]) := by
    intro tk x1 x4 x5 s0 H locs ls hf hP hD hS hl
    unfold f_S_takeWhole_80 at hf
    refine lv_iload hx hb d_S_takeWhole_80 (lv_at hl 2 rfl) ?_
    refine lv_sipush (v := 268) hx hb d_S_takeWhole_82 (by decide) ?_
    refine lv_icmp_le (tgt := 92) hx hb d_S_takeWhole_85 (by decide) (fun c_1 => ?_) (fun c_1 => ?_)
    · have hf := ite_t c_1 hf
      refine lv_iconst (v := 0) hx hb d_S_takeWhole_92 (by decide) ?_
      exact hj_93 tk x1 x4 x5 s0 ((0 : Int32)) _ _ _ hf hP hD hS (lv_sub hl [0, 1, 2, 3] rfl)
    · have hf := ite_f c_1 hf
      refine lv_iconst (v := 1) hx hb d_S_takeWhole_88 (by decide) ?_
      refine lv_goto (tgt := 93) hx hb d_S_takeWhole_89 (by decide) ?_
      exact hj_93 tk x1 x4 x5 s0 ((1 : Int32)) _ _ _ hf hP hD hS (lv_sub hl [0, 1, 2, 3] rfl)
  have hj_66 : ∀ (tk : Nat → Int32) (x1 : Int32) (x4 : Int32) (s0 : Int32) (H : Heap) (locs : List Loc) (ls : Array Slot), f_S_takeWhole_66 N NW bk sz wd mb gI tk x1 x4 s0 = some (r, tk') → va_P (dC, dI) clAll (wC h cI cL NW bk sz wd mb gB gI gN iN dr es of od pl hd tk kn li pa ins cm fd hr) H → va_D A (wC h cI cL NW bk sz wd mb gB gI gN iN dr es of od pl hd tk kn li pa ins cm fd hr) → va_S A s.heap H locs → lv_has ls 10 [(0, .ref (h 6)), (1, .int x1), (4, .int x4)] → W p l e (headSpec ws_S_takeWhole { frames := 2, cells := 0, slots := 0, locals := 56 }).room s m args below meth c H locs 0 0 Q (F0 m 66 ls [.int s0]) := by
    intro tk x1 x4 s0 H locs ls hf hP hD hS hl
    unfold f_S_takeWhole_66 at hf
    refine lv_istore (lv' := [(5, .int s0), (0, .ref (h 6)), (1, .int x1), (4, .int x4)]) hx hb d_S_takeWhole_66 hl (by decide) rfl (fun ls hl => ?_)
    refine lv_iload hx hb d_S_takeWhole_68 (lv_at hl 3 rfl) ?_
    refine lv_bipush (v := 12) hx hb d_S_takeWhole_70 (by decide) ?_
    refine lv_icmp_le (tgt := 79) hx hb d_S_takeWhole_72 (by decide) (fun c_1 => ?_) (fun c_1 => ?_)
    · have hf := ite_t c_1 hf
      refine lv_iconst (v := 0) hx hb d_S_takeWhole_79 (by decide) ?_
      exact hj_80 tk x1 x4 s0 ((0 : Int32)) _ _ _ hf hP hD hS (lv_sub hl [1, 2, 3, 0] rfl)
    · have hf := ite_f c_1 hf
      refine lv_iconst (v := 1) hx hb d_S_takeWhole_75 (by decide) ?_
      refine lv_goto (tgt := 80) hx hb d_S_takeWhole_76 (by decide) ?_
      exact hj_80 tk x1 x4 s0 ((1 : Int32)) _ _ _ hf hP hD hS (lv_sub hl [1, 2, 3, 0] rfl)
  unfold f_S_takeWhole at hf
  refine lv_aload_n hx hb d_S_takeWhole_0 rfl (lv_at hl 0 rfl) ?_
  refine va_get (D := (dC, dI)) (ci := 3) (v := .ref (h 3)) (C := R_S) (T := T_S) (N := 10) hx hb htb in_S hown hK hP 6 rfl rfl 1 (by decide) (htb _ tw_177) (fun _ h9 => h9) rfl d_S_takeWhole_1 ?_
  refine lv_iload_n hx hb d_S_takeWhole_4 rfl (lv_at hl 1 rfl) ?_
  obtain ⟨r_1, hc_2, hf⟩ := bd1_s hf
  refine ucVl (As := [.int a1]) (rest := []) ⟨hx, hb, hml, hown, htb⟩ hK hP hD hS hA (fun hs => c_L_sizeOf hc_2) (cwV 1 htb (gV tw_392 tw_393 tw_394 tw_71 tw_395) rfl rfl rfl (by decide +kernel) ⟨Nat.le_of_ble_eq_true rfl, Nat.le_of_ble_eq_true rfl⟩) 3 2 rfl rfl rfl rfl rfl hl.1 (Nat.le_of_ble_eq_true rfl) d_S_takeWhole_5 ⟨Nat.zero_le _, Nat.zero_le _⟩ (fun H locs hP hD hS => ?_)
  refine lv_lstore_n (lv' := [(2, .long r_1), (0, .ref (h 6)), (1, .int a1)]) hx hb d_S_takeWhole_8 rfl hl (by decide) rfl (fun ls hl => ?_)
  refine lv_lload_n hx hb d_S_takeWhole_9 rfl (lv_at hl 0 rfl) ?_
  refine lv_ldc2 (v := 1024) hx hb hown (htb _ tw_339) d_S_takeWhole_10 ?_
  refine lv_aload_n hx hb d_S_takeWhole_13 rfl (lv_at hl 1 rfl) ?_
  refine va_get (D := (dC, dI)) (ci := 3) (v := .ref (h 1)) (C := R_S) (T := T_S) (N := 10) hx hb htb in_S hown hK hP 6 rfl rfl 0 (by decide) (htb _ tw_176) (fun _ h9 => h9) rfl d_S_takeWhole_14 ?_
  obtain ⟨r_3, hc_4, hf⟩ := bd1_s hf
  refine ucVi (As := []) (rest := [.long ((1024 : Int64)), .long r_1]) ⟨hx, hb, hml, hown, htb⟩ hK hP hD hS hA (fun hs => c_D_blocks hc_4) (cwV 0 htb (gV tw_309 tw_297 tw_298 tw_69 tw_299) rfl rfl rfl (by decide +kernel) ⟨Nat.le_of_ble_eq_true rfl, Nat.le_of_ble_eq_true rfl⟩) 1 0 rfl rfl rfl rfl rfl hl.1 (Nat.le_of_ble_eq_true rfl) d_S_takeWhole_17 ⟨Nat.zero_le _, Nat.zero_le _⟩ (fun H locs hP hD hS => ?_)
  refine lv_i2l hx hb d_S_takeWhole_20 rfl ?_
  refine lv_lmul hx hb d_S_takeWhole_21 ?_
  refine lc_le (tgt := 28) hx hb d_S_takeWhole_22 d_S_takeWhole_23 (by decide) (fun c_5 => ?_) (fun c_5 => ?_)
  · have hf := ite_t c_5 hf
    refine lv_aload_n hx hb d_S_takeWhole_28 rfl (lv_at hl 1 rfl) ?_
    refine va_get (D := (dC, dI)) (ci := 3) (v := .ref (h 3)) (C := R_S) (T := T_S) (N := 10) hx hb htb in_S hown hK hP 6 rfl rfl 1 (by decide) (htb _ tw_177) (fun _ h9 => h9) rfl d_S_takeWhole_29 ?_
    refine lv_lload_n hx hb d_S_takeWhole_32 rfl (lv_at hl 0 rfl) ?_
    obtain ⟨r_6, hc_7, hf⟩ := bd1_s hf
    refine ucVi (As := [.long r_1]) (rest := []) ⟨hx, hb, hml, hown, htb⟩ hK hP hD hS hA (fun hs => c_L_blocksFor hc_7) (cwV 1 htb (gV tw_397 tw_398 tw_399 tw_71 tw_400) rfl rfl rfl (by decide +kernel) ⟨Nat.le_of_ble_eq_true rfl, Nat.le_of_ble_eq_true rfl⟩) 3 2 rfl rfl rfl rfl rfl hl.1 (Nat.le_of_ble_eq_true rfl) d_S_takeWhole_33 ⟨Nat.zero_le _, Nat.zero_le _⟩ (fun H locs hP hD hS => ?_)
    refine lv_istore (lv' := [(4, .int r_6), (2, .long r_1), (0, .ref (h 6)), (1, .int a1)]) hx hb d_S_takeWhole_36 hl (by decide) rfl (fun ls hl => ?_)
    refine lv_iload hx hb d_S_takeWhole_38 (lv_at hl 0 rfl) ?_
    refine lv_sipush (v := 268) hx hb d_S_takeWhole_40 (by decide) ?_
    refine lv_icmp_le (tgt := 65) hx hb d_S_takeWhole_43 (by decide) (fun c_8 => ?_) (fun c_8 => ?_)
    · have hf := ite_t c_8 hf
      refine lv_iconst (v := 0) hx hb d_S_takeWhole_65 (by decide) ?_
      exact hj_66 tk a1 r_6 ((0 : Int32)) _ _ _ hf hP hD hS (lv_sub hl [2, 3, 0] rfl)
    · have hf := ite_f c_8 hf
      refine lv_iload hx hb d_S_takeWhole_46 (lv_at hl 0 rfl) ?_
      refine lv_sipush (v := 268) hx hb d_S_takeWhole_48 (by decide) ?_
      refine lv_isub hx hb d_S_takeWhole_51 ?_
      refine lv_sipush (v := 256) hx hb d_S_takeWhole_52 (by decide) ?_
      refine lv_iadd hx hb d_S_takeWhole_55 ?_
      refine lv_iconst (v := 1) hx hb d_S_takeWhole_56 (by decide) ?_
      refine lv_isub hx hb d_S_takeWhole_57 ?_
      refine lv_sipush (v := 256) hx hb d_S_takeWhole_58 (by decide) ?_
      refine lv_idiv hx hb d_S_takeWhole_61 (by decide) ?_
      refine lv_goto (tgt := 66) hx hb d_S_takeWhole_62 (by decide) ?_
      exact hj_66 tk a1 r_6 ((((r_6 - ((268 : Int32))) + ((256 : Int32))) - ((1 : Int32))) / ((256 : Int32))) _ _ _ hf hP hD hS (lv_sub hl [2, 3, 0] rfl)
  · have hf := ite_f c_5 hf
    refine lv_iconst (v := 0) hx hb d_S_takeWhole_26 (by decide) ?_
    cases hf
    exact hret _ _ _ _ (Or.inl rfl) hP hD hS d_S_takeWhole_27
set_option maxHeartbeats 4000000 in
set_option maxRecDepth 100000 in
theorem c_S_standInLine {l : Launch} {dC : Nat → ClassId} {dI : Nat → Nat → Nat} {h : Nat → Nat} {cI : ClassId} {cL : ClassId} {NW : Nat} {bk : Int32} {sz : Int32} {wd : Nat → Int64} {mb : Nat → Int32} {gB : Int32} {gI : Int32} {gN : Int32} {iN : Int32} {dr : Int32} {es : Int64} {of : Int64} {od : Int32} {pl : Int64} {hd : Int64} {tk : Nat → Int32} {kn : Nat → Int32} {li : Nat → Int32} {pa : Nat → Int32} {ins : Nat → Int32} {cm : Int32} {fd : Int32} {hr : Int32} {hs : Nat} {a1 : Int32} {a2 : Int32} {kn' : Nat → Int32} {li' : Nat → Int32} {pa' : Nat → Int32} {ins' : Nat → Int32} {cm' : Int32} (hf : f_S_standInLine NW kn li pa ins cm a1 a2 = some (kn', li', pa', ins', cm')) : Met l y_S_standInLine ws_S_standInLine { frames := 0, cells := 0, slots := 0, locals := 0 } (PcU (dC, dI) clAll [(cI, .int), (cL, .long)] (wC h cI cL NW bk sz wd mb gB gI gN iN dr es of od pl hd tk kn li pa ins cm fd hr) hs [.ref (h 6), .int a1, .int a2]) (QUv (dC, dI) clAll [(cI, .int), (cL, .long)] (wC h cI cL NW bk sz wd mb gB gI gN iN dr es of od pl hd tk kn li pa ins cm fd hr) (wC h cI cL NW bk sz wd mb gB gI gN iN dr es of od pl hd tk kn' li' pa' ins' cm' fd hr) hs) 0 0 (va_A (wC h cI cL NW bk sz wd mb gB gI gN iN dr es of od pl hd tk kn li pa ins cm fd hr) hs) := by
  refine mUv (cc := b_S_standInLine) (maxL := 3) (by decide) rfl (Nat.le_of_ble_eq_true rfl) ?_
  intro p e s m args below meth c Q hx hb hml hts hown A hA hK hP hD hS hret ls hl
  have htb : ∀ w ∈ TB, w.before args s = true := fun w h => hts w (List.mem_cons_of_mem _ h)
  have hl : lv_has ls 3 [(0, .ref (h 6)), (1, .int a1), (2, .int a2)] := hl
  unfold f_S_standInLine at hf
  refine lv_iload_n hx hb d_S_standInLine_0 rfl (lv_at hl 1 rfl) ?_
  refine lv_iconst (v := 1) hx hb d_S_standInLine_1 (by decide) ?_
  refine lv_icmp_lt (tgt := 33) hx hb d_S_standInLine_2 (by decide) (fun c_1 => ?_) (fun c_1 => ?_)
  · have hf := ite_t c_1 hf
    cases hf
    exact hret _ _ _ _ hP hD hS d_S_standInLine_33
  · have hf := ite_f c_1 hf
    refine lv_iload_n hx hb d_S_standInLine_5 rfl (lv_at hl 1 rfl) ?_
    refine lv_aload_n hx hb d_S_standInLine_6 rfl (lv_at hl 0 rfl) ?_
    refine va_get (D := (dC, dI)) (ci := 3) (v := .ref (h 8)) (C := R_S) (T := T_S) (N := 10) hx hb htb in_S hown hK hP 6 rfl rfl 4 (by decide) (htb _ tw_180) (fun _ h9 => h9) rfl d_S_standInLine_7 ?_
    refine va_alen (v := (4097 : Int32)) hx hb hK hP 8 0 rfl rfl rfl d_S_standInLine_10 ?_
    refine lv_icmp_ge (tgt := 33) hx hb d_S_standInLine_11 (by decide) (fun c_2 => ?_) (fun c_2 => ?_)
    · have hf := ite_t c_2 hf
      cases hf
      exact hret _ _ _ _ hP hD hS d_S_standInLine_33
    · have hf := ite_f c_2 hf
      refine lv_aload_n hx hb d_S_standInLine_14 rfl (lv_at hl 0 rfl) ?_
      refine va_get (D := (dC, dI)) (ci := 3) (v := .int cm) (C := R_S) (T := T_S) (N := 10) hx hb htb in_S hown hK hP 6 rfl rfl 8 (by decide) (htb _ tw_184) (fun _ h9 => h9) rfl d_S_standInLine_15 ?_
      refine lv_if_lt (tgt := 33) hx hb d_S_standInLine_18 (by decide) (fun c_3 => ?_) (fun c_3 => ?_)
      · have hf := ite_t c_3 hf
        cases hf
        exact hret _ _ _ _ hP hD hS d_S_standInLine_33
      · have hf := ite_f c_3 hf
        refine lv_aload_n hx hb d_S_standInLine_21 rfl (lv_at hl 0 rfl) ?_
        refine va_get (D := (dC, dI)) (ci := 3) (v := .int cm) (C := R_S) (T := T_S) (N := 10) hx hb htb in_S hown hK hP 6 rfl rfl 8 (by decide) (htb _ tw_184) (fun _ h9 => h9) rfl d_S_standInLine_22 ?_
        refine lv_aload_n hx hb d_S_standInLine_25 rfl (lv_at hl 0 rfl) ?_
        refine va_get (D := (dC, dI)) (ci := 3) (v := .ref (h 9)) (C := R_S) (T := T_S) (N := 10) hx hb htb in_S hown hK hP 6 rfl rfl 5 (by decide) (htb _ tw_181) (fun _ h9 => h9) rfl d_S_standInLine_26 ?_
        refine va_alen (v := (4096 : Int32)) hx hb hK hP 9 0 rfl rfl rfl d_S_standInLine_29 ?_
        refine lv_icmp_lt (tgt := 34) hx hb d_S_standInLine_30 (by decide) (fun c_4 => ?_) (fun c_4 => ?_)
        · have hf := ite_t c_4 hf
          refine lv_aload_n hx hb d_S_standInLine_34 rfl (lv_at hl 0 rfl) ?_
          refine va_get (D := (dC, dI)) (ci := 3) (v := .ref (h 8)) (C := R_S) (T := T_S) (N := 10) hx hb htb in_S hown hK hP 6 rfl rfl 4 (by decide) (htb _ tw_180) (fun _ h9 => h9) rfl d_S_standInLine_35 ?_
          refine lv_iload_n hx hb d_S_standInLine_38 rfl (lv_at hl 1 rfl) ?_
          refine lv_iconst (v := 1) hx hb d_S_standInLine_39 (by decide) ?_
          obtain ⟨c_5, hf⟩ := gd_s hf
          refine va_iast (i := a1) (x := (1 : Int32)) hx hb hK hP hD hS 8 0 rfl rfl c_5 d_S_standInLine_40 (fun H locs hP hD hS => ?_)
          obtain ⟨kn_6, ekn_6, hf⟩ := lt1_s hf
          have hP : va_P (dC, dI) clAll (wC h cI cL NW bk sz wd mb gB gI gN iN dr es of od pl hd tk kn_6 li pa ins cm fd hr) H := ekn_6 ▸ hP
          have hD : va_D A (wC h cI cL NW bk sz wd mb gB gI gN iN dr es of od pl hd tk kn_6 li pa ins cm fd hr) := ekn_6 ▸ hD
          refine lv_aload_n hx hb d_S_standInLine_41 rfl (lv_at hl 0 rfl) ?_
          refine va_get (D := (dC, dI)) (ci := 3) (v := .ref (h 9)) (C := R_S) (T := T_S) (N := 10) hx hb htb in_S hown hK hP 6 rfl rfl 5 (by decide) (htb _ tw_181) (fun _ h9 => h9) rfl d_S_standInLine_42 ?_
          refine lv_aload_n hx hb d_S_standInLine_45 rfl (lv_at hl 0 rfl) ?_
          refine va_get (D := (dC, dI)) (ci := 3) (v := .int cm) (C := R_S) (T := T_S) (N := 10) hx hb htb in_S hown hK hP 6 rfl rfl 8 (by decide) (htb _ tw_184) (fun _ h9 => h9) rfl d_S_standInLine_46 ?_
          refine lv_iload_n hx hb d_S_standInLine_49 rfl (lv_at hl 1 rfl) ?_
          obtain ⟨c_7, hf⟩ := gd_s hf
          refine va_iast (i := cm) (x := a1) hx hb hK hP hD hS 9 0 rfl rfl c_7 d_S_standInLine_50 (fun H locs hP hD hS => ?_)
          obtain ⟨li_8, eli_8, hf⟩ := lt1_s hf
          have hP : va_P (dC, dI) clAll (wC h cI cL NW bk sz wd mb gB gI gN iN dr es of od pl hd tk kn_6 li_8 pa ins cm fd hr) H := eli_8 ▸ hP
          have hD : va_D A (wC h cI cL NW bk sz wd mb gB gI gN iN dr es of od pl hd tk kn_6 li_8 pa ins cm fd hr) := eli_8 ▸ hD
          refine lv_aload_n hx hb d_S_standInLine_51 rfl (lv_at hl 0 rfl) ?_
          refine va_get (D := (dC, dI)) (ci := 3) (v := .ref (h 10)) (C := R_S) (T := T_S) (N := 10) hx hb htb in_S hown hK hP 6 rfl rfl 6 (by decide) (htb _ tw_182) (fun _ h9 => h9) rfl d_S_standInLine_52 ?_
          refine lv_aload_n hx hb d_S_standInLine_55 rfl (lv_at hl 0 rfl) ?_
          refine va_get (D := (dC, dI)) (ci := 3) (v := .int cm) (C := R_S) (T := T_S) (N := 10) hx hb htb in_S hown hK hP 6 rfl rfl 8 (by decide) (htb _ tw_184) (fun _ h9 => h9) rfl d_S_standInLine_56 ?_
          refine lv_iload_n hx hb d_S_standInLine_59 rfl (lv_at hl 2 rfl) ?_
          obtain ⟨c_9, hf⟩ := gd_s hf
          refine va_iast (i := cm) (x := a2) hx hb hK hP hD hS 10 0 rfl rfl c_9 d_S_standInLine_60 (fun H locs hP hD hS => ?_)
          obtain ⟨pa_10, epa_10, hf⟩ := lt1_s hf
          have hP : va_P (dC, dI) clAll (wC h cI cL NW bk sz wd mb gB gI gN iN dr es of od pl hd tk kn_6 li_8 pa_10 ins cm fd hr) H := epa_10 ▸ hP
          have hD : va_D A (wC h cI cL NW bk sz wd mb gB gI gN iN dr es of od pl hd tk kn_6 li_8 pa_10 ins cm fd hr) := epa_10 ▸ hD
          refine lv_aload_n hx hb d_S_standInLine_61 rfl (lv_at hl 0 rfl) ?_
          refine va_get (D := (dC, dI)) (ci := 3) (v := .ref (h 11)) (C := R_S) (T := T_S) (N := 10) hx hb htb in_S hown hK hP 6 rfl rfl 7 (by decide) (htb _ tw_183) (fun _ h9 => h9) rfl d_S_standInLine_62 ?_
          refine lv_aload_n hx hb d_S_standInLine_65 rfl (lv_at hl 0 rfl) ?_
          refine va_get (D := (dC, dI)) (ci := 3) (v := .int cm) (C := R_S) (T := T_S) (N := 10) hx hb htb in_S hown hK hP 6 rfl rfl 8 (by decide) (htb _ tw_184) (fun _ h9 => h9) rfl d_S_standInLine_66 ?_
          refine lv_iconst (v := 0) hx hb d_S_standInLine_69 (by decide) ?_
          obtain ⟨c_11, hf⟩ := gd_s hf
          refine va_iast (i := cm) (x := (0 : Int32)) hx hb hK hP hD hS 11 0 rfl rfl c_11 d_S_standInLine_70 (fun H locs hP hD hS => ?_)
          obtain ⟨ins_12, eins_12, hf⟩ := lt1_s hf
          have hP : va_P (dC, dI) clAll (wC h cI cL NW bk sz wd mb gB gI gN iN dr es of od pl hd tk kn_6 li_8 pa_10 ins_12 cm fd hr) H := eins_12 ▸ hP
          have hD : va_D A (wC h cI cL NW bk sz wd mb gB gI gN iN dr es of od pl hd tk kn_6 li_8 pa_10 ins_12 cm fd hr) := eins_12 ▸ hD
          refine lv_aload_n hx hb d_S_standInLine_71 rfl (lv_at hl 0 rfl) ?_
          refine lv_dup hx hb d_S_standInLine_72 rfl ?_
          refine va_get (D := (dC, dI)) (ci := 3) (v := .int cm) (C := R_S) (T := T_S) (N := 10) hx hb htb in_S hown hK hP 6 rfl rfl 8 (by decide) (htb _ tw_184) (fun _ h9 => h9) rfl d_S_standInLine_73 ?_
          refine lv_iconst (v := 1) hx hb d_S_standInLine_76 (by decide) ?_
          refine lv_iadd hx hb d_S_standInLine_77 ?_
          refine va_put (D := (dC, dI)) (ci := 3) (v := .int (cm + ((1 : Int32)))) (ty := .int) (C := R_S) (T := T_S) (N := 10) hx hb htb in_S ty_S tyok_S nm_S hown hK hP hD hS 6 rfl rfl 8 (by decide) (htb _ tw_184) (fun _ h9 => h9) rfl (by decide +kernel) rfl rfl (Nat.le_of_ble_eq_true rfl) d_S_standInLine_78 (fun H locs hP hD hS => ?_)
          have hP : va_P (dC, dI) clAll (wC h cI cL NW bk sz wd mb gB gI gN iN dr es of od pl hd tk kn_6 li_8 pa_10 ins_12 (cm + ((1 : Int32))) fd hr) H := hP
          have hD : va_D A (wC h cI cL NW bk sz wd mb gB gI gN iN dr es of od pl hd tk kn_6 li_8 pa_10 ins_12 (cm + ((1 : Int32))) fd hr) := hD
          cases hf
          exact hret _ _ _ _ hP hD hS d_S_standInLine_81
        · have hf := ite_f c_4 hf
          cases hf
          exact hret _ _ _ _ hP hD hS d_S_standInLine_33
set_option maxHeartbeats 4000000 in
set_option maxRecDepth 100000 in
theorem c_S_entryStands {l : Launch} {dC : Nat → ClassId} {dI : Nat → Nat → Nat} {N : Nat} {h : Nat → Nat} {cI : ClassId} {cL : ClassId} {NW : Nat} {bk : Int32} {sz : Int32} {wd : Nat → Int64} {mb : Nat → Int32} {gB : Int32} {gI : Int32} {gN : Int32} {iN : Int32} {dr : Int32} {es : Int64} {of : Int64} {od : Int32} {pl : Int64} {hd : Int64} {tk : Nat → Int32} {kn : Nat → Int32} {li : Nat → Int32} {pa : Nat → Int32} {ins : Nat → Int32} {cm : Int32} {fd : Int32} {hr : Int32} {hs : Nat} {a1 : Int32} {a2 : Int32} {r : Int32} (hf : f_S_entryStands N NW sz wd mb gI iN od pl hd a1 a2 = some (r)) : Met l y_S_entryStands ws_S_entryStands { frames := 2, cells := 0, slots := 0, locals := 51 } (PcU (dC, dI) clAll [(cI, .int), (cL, .long)] (wC h cI cL NW bk sz wd mb gB gI gN iN dr es of od pl hd tk kn li pa ins cm fd hr) hs [.ref (h 6), .int a1, .int a2]) (QUi (dC, dI) clAll [(cI, .int), (cL, .long)] (wC h cI cL NW bk sz wd mb gB gI gN iN dr es of od pl hd tk kn li pa ins cm fd hr) (wC h cI cL NW bk sz wd mb gB gI gN iN dr es of od pl hd tk kn li pa ins cm fd hr) hs r) 0 0 (va_A (wC h cI cL NW bk sz wd mb gB gI gN iN dr es of od pl hd tk kn li pa ins cm fd hr) hs) := by
  refine mUz (cc := b_S_entryStands) (maxL := 5) (by decide) rfl (Nat.le_of_ble_eq_true rfl) ?_
  intro p e s m args below meth c Q hx hb hml hts hown A hA hK hP hD hS hret ls hl
  have htb : ∀ w ∈ TB, w.before args s = true := fun w h => hts w (List.mem_cons_of_mem _ h)
  have hl : lv_has ls 5 [(0, .ref (h 6)), (1, .int a1), (2, .int a2)] := hl
  have hj_177 : ∀ (x4 : Int32) (H : Heap) (locs : List Loc) (ls : Array Slot), f_S_entryStands_177 N NW sz wd mb gI iN od pl hd x4 = some (r) → va_P (dC, dI) clAll (wC h cI cL NW bk sz wd mb gB gI gN iN dr es of od pl hd tk kn li pa ins cm fd hr) H → va_D A (wC h cI cL NW bk sz wd mb gB gI gN iN dr es of od pl hd tk kn li pa ins cm fd hr) → va_S A s.heap H locs → lv_has ls 5 [(0, .ref (h 6)), (4, .int x4)] → W p l e (headSpec ws_S_entryStands { frames := 2, cells := 0, slots := 0, locals := 51 }).room s m args below meth c H locs 0 0 Q (F0 m 177 ls []) := by
    intro x4 H locs ls hf hP hD hS hl
    unfold f_S_entryStands_177 at hf
    refine lv_iload hx hb d_S_entryStands_177 (lv_at hl 1 rfl) ?_
    refine lv_ldc (v := 32768) hx hb hown (htb _ tw_504) d_S_entryStands_179 ?_
    refine lv_icmp_ne (tgt := 199) hx hb d_S_entryStands_181 (by decide) (fun c_1 => ?_) (fun c_1 => ?_)
    · have hf := ite_f c_1 hf
      refine lv_iconst (v := 0) hx hb d_S_entryStands_199 (by decide) ?_
      cases hf
      exact hret _ _ _ _ (Or.inl rfl) hP hD hS d_S_entryStands_200
    · have hf := ite_t c_1 hf
      refine lv_aload_n hx hb d_S_entryStands_184 rfl (lv_at hl 0 rfl) ?_
      refine va_get (D := (dC, dI)) (ci := 3) (v := .ref (h 5)) (C := R_S) (T := T_S) (N := 10) hx hb htb in_S hown hK hP 6 rfl rfl 2 (by decide) (htb _ tw_178) (fun _ h9 => h9) rfl d_S_entryStands_185 ?_
      obtain ⟨r_2, hc_3, hf⟩ := bd1_s hf
      refine ucVi (As := []) (rest := []) ⟨hx, hb, hml, hown, htb⟩ hK hP hD hS hA (fun hs => c_E_mark hc_3) (cwV 0 htb (gV tw_495 tw_496 tw_497 tw_72 tw_498) rfl rfl rfl (by decide +kernel) ⟨Nat.le_of_ble_eq_true rfl, Nat.le_of_ble_eq_true rfl⟩) 5 1 rfl rfl rfl rfl rfl hl.1 (Nat.le_of_ble_eq_true rfl) d_S_entryStands_188 ⟨Nat.zero_le _, Nat.zero_le _⟩ (fun H locs hP hD hS => ?_)
      refine lv_iconst (v := 1) hx hb d_S_entryStands_191 (by decide) ?_
      refine lv_icmp_ne (tgt := 199) hx hb d_S_entryStands_192 (by decide) (fun c_4 => ?_) (fun c_4 => ?_)
      · have hf := ite_f c_4 hf
        refine lv_iconst (v := 0) hx hb d_S_entryStands_199 (by decide) ?_
        cases hf
        exact hret _ _ _ _ (Or.inl rfl) hP hD hS d_S_entryStands_200
      · have hf := ite_t c_4 hf
        refine lv_iconst (v := 1) hx hb d_S_entryStands_195 (by decide) ?_
        refine lv_goto (tgt := 200) hx hb d_S_entryStands_196 (by decide) ?_
        cases hf
        exact hret _ _ _ _ (Or.inr rfl) hP hD hS d_S_entryStands_200
  unfold f_S_entryStands at hf
  refine lv_aload_n hx hb d_S_entryStands_0 rfl (lv_at hl 0 rfl) ?_
  refine va_get (D := (dC, dI)) (ci := 3) (v := .ref (h 5)) (C := R_S) (T := T_S) (N := 10) hx hb htb in_S hown hK hP 6 rfl rfl 2 (by decide) (htb _ tw_178) (fun _ h9 => h9) rfl d_S_entryStands_1 ?_
  obtain ⟨r_1, hc_2, hf⟩ := bd1_s hf
  refine ucVi (As := []) (rest := []) ⟨hx, hb, hml, hown, htb⟩ hK hP hD hS hA (fun hs => c_E_hasInode hc_2) (cwV 0 htb (gV tw_464 tw_465 tw_466 tw_72 tw_467) rfl rfl rfl (by decide +kernel) ⟨Nat.le_of_ble_eq_true rfl, Nat.le_of_ble_eq_true rfl⟩) 5 1 rfl rfl rfl rfl rfl hl.1 (Nat.le_of_ble_eq_true rfl) d_S_entryStands_4 ⟨Nat.zero_le _, Nat.zero_le _⟩ (fun H locs hP hD hS => ?_)
  refine lv_if_eq (tgt := 20) hx hb d_S_entryStands_7 (by decide) (fun c_3 => ?_) (fun c_3 => ?_)
  · have hf := ite_t c_3 hf
    refine lv_iconst (v := 0) hx hb d_S_entryStands_20 (by decide) ?_
    cases hf
    exact hret _ _ _ _ (Or.inl rfl) hP hD hS d_S_entryStands_21
  · have hf := ite_f c_3 hf
    refine lv_aload_n hx hb d_S_entryStands_10 rfl (lv_at hl 0 rfl) ?_
    refine va_get (D := (dC, dI)) (ci := 3) (v := .ref (h 5)) (C := R_S) (T := T_S) (N := 10) hx hb htb in_S hown hK hP 6 rfl rfl 2 (by decide) (htb _ tw_178) (fun _ h9 => h9) rfl d_S_entryStands_11 ?_
    obtain ⟨r_4, hc_5, hf⟩ := bd1_s hf
    refine ucVi (As := []) (rest := []) ⟨hx, hb, hml, hown, htb⟩ hK hP hD hS hA (fun hs => c_E_hasName hc_5) (cwV 0 htb (gV tw_472 tw_473 tw_474 tw_72 tw_475) rfl rfl rfl (by decide +kernel) ⟨Nat.le_of_ble_eq_true rfl, Nat.le_of_ble_eq_true rfl⟩) 5 1 rfl rfl rfl rfl rfl hl.1 (Nat.le_of_ble_eq_true rfl) d_S_entryStands_14 ⟨Nat.zero_le _, Nat.zero_le _⟩ (fun H locs hP hD hS => ?_)
    refine lv_if_ne (tgt := 22) hx hb d_S_entryStands_17 (by decide) (fun c_6 => ?_) (fun c_6 => ?_)
    · have hf := ite_f c_6 hf
      refine lv_aload_n hx hb d_S_entryStands_22 rfl (lv_at hl 0 rfl) ?_
      refine va_get (D := (dC, dI)) (ci := 3) (v := .ref (h 5)) (C := R_S) (T := T_S) (N := 10) hx hb htb in_S hown hK hP 6 rfl rfl 2 (by decide) (htb _ tw_178) (fun _ h9 => h9) rfl d_S_entryStands_23 ?_
      obtain ⟨r_7, hc_8, hf⟩ := bd1_s hf
      refine ucVi (As := []) (rest := []) ⟨hx, hb, hml, hown, htb⟩ hK hP hD hS hA (fun hs => c_E_inode hc_8) (cwV 0 htb (gV tw_482 tw_483 tw_484 tw_72 tw_485) rfl rfl rfl (by decide +kernel) ⟨Nat.le_of_ble_eq_true rfl, Nat.le_of_ble_eq_true rfl⟩) 5 1 rfl rfl rfl rfl rfl hl.1 (Nat.le_of_ble_eq_true rfl) d_S_entryStands_26 ⟨Nat.zero_le _, Nat.zero_le _⟩ (fun H locs hP hD hS => ?_)
      refine lv_istore_n (lv' := [(3, .int r_7), (0, .ref (h 6)), (1, .int a1), (2, .int a2)]) hx hb d_S_entryStands_29 rfl hl (by decide) rfl (fun ls hl => ?_)
      refine lv_aload_n hx hb d_S_entryStands_30 rfl (lv_at hl 1 rfl) ?_
      refine va_get (D := (dC, dI)) (ci := 3) (v := .ref (h 5)) (C := R_S) (T := T_S) (N := 10) hx hb htb in_S hown hK hP 6 rfl rfl 2 (by decide) (htb _ tw_178) (fun _ h9 => h9) rfl d_S_entryStands_31 ?_
      obtain ⟨r_9, hc_10, hf⟩ := bd1_s hf
      refine ucVi (As := []) (rest := []) ⟨hx, hb, hml, hown, htb⟩ hK hP hD hS hA (fun hs => c_E_order hc_10) (cwV 0 htb (gV tw_486 tw_487 tw_488 tw_72 tw_489) rfl rfl rfl (by decide +kernel) ⟨Nat.le_of_ble_eq_true rfl, Nat.le_of_ble_eq_true rfl⟩) 5 1 rfl rfl rfl rfl rfl hl.1 (Nat.le_of_ble_eq_true rfl) d_S_entryStands_34 ⟨Nat.zero_le _, Nat.zero_le _⟩ (fun H locs hP hD hS => ?_)
      refine lv_if_ne (tgt := 72) hx hb d_S_entryStands_37 (by decide) (fun c_11 => ?_) (fun c_11 => ?_)
      · have hf := ite_f c_11 hf
        refine lv_aload_n hx hb d_S_entryStands_72 rfl (lv_at hl 1 rfl) ?_
        refine va_get (D := (dC, dI)) (ci := 3) (v := .ref (h 5)) (C := R_S) (T := T_S) (N := 10) hx hb htb in_S hown hK hP 6 rfl rfl 2 (by decide) (htb _ tw_178) (fun _ h9 => h9) rfl d_S_entryStands_73 ?_
        obtain ⟨r_12, hc_13, hf⟩ := bd1_s hf
        refine ucVi (As := []) (rest := []) ⟨hx, hb, hml, hown, htb⟩ hK hP hD hS hA (fun hs => c_E_order hc_13) (cwV 0 htb (gV tw_486 tw_487 tw_488 tw_72 tw_489) rfl rfl rfl (by decide +kernel) ⟨Nat.le_of_ble_eq_true rfl, Nat.le_of_ble_eq_true rfl⟩) 5 1 rfl rfl rfl rfl rfl hl.1 (Nat.le_of_ble_eq_true rfl) d_S_entryStands_76 ⟨Nat.zero_le _, Nat.zero_le _⟩ (fun H locs hP hD hS => ?_)
        refine lv_iconst (v := 1) hx hb d_S_entryStands_79 (by decide) ?_
        refine lv_icmp_ne (tgt := 115) hx hb d_S_entryStands_80 (by decide) (fun c_14 => ?_) (fun c_14 => ?_)
        · have hf := ite_f c_14 hf
          refine lv_aload_n hx hb d_S_entryStands_115 rfl (lv_at hl 1 rfl) ?_
          refine va_get (D := (dC, dI)) (ci := 3) (v := .ref (h 5)) (C := R_S) (T := T_S) (N := 10) hx hb htb in_S hown hK hP 6 rfl rfl 2 (by decide) (htb _ tw_178) (fun _ h9 => h9) rfl d_S_entryStands_116 ?_
          obtain ⟨r_15, hc_16, hf⟩ := bd1_s hf
          refine ucVi (As := []) (rest := []) ⟨hx, hb, hml, hown, htb⟩ hK hP hD hS hA (fun hs => c_E_isOneDot hc_16) (cwV 0 htb (gV tw_490 tw_491 tw_492 tw_72 tw_493) rfl rfl rfl (by decide +kernel) ⟨Nat.le_of_ble_eq_true rfl, Nat.le_of_ble_eq_true rfl⟩) 5 1 rfl rfl rfl rfl rfl hl.1 (Nat.le_of_ble_eq_true rfl) d_S_entryStands_119 ⟨Nat.zero_le _, Nat.zero_le _⟩ (fun H locs hP hD hS => ?_)
          refine lv_if_ne (tgt := 146) hx hb d_S_entryStands_122 (by decide) (fun c_17 => ?_) (fun c_17 => ?_)
          · have hf := ite_f c_17 hf
            refine lv_iconst (v := 0) hx hb d_S_entryStands_146 (by decide) ?_
            cases hf
            exact hret _ _ _ _ (Or.inl rfl) hP hD hS d_S_entryStands_147
          · have hf := ite_t c_17 hf
            refine lv_aload_n hx hb d_S_entryStands_125 rfl (lv_at hl 1 rfl) ?_
            refine va_get (D := (dC, dI)) (ci := 3) (v := .ref (h 5)) (C := R_S) (T := T_S) (N := 10) hx hb htb in_S hown hK hP 6 rfl rfl 2 (by decide) (htb _ tw_178) (fun _ h9 => h9) rfl d_S_entryStands_126 ?_
            obtain ⟨r_18, hc_19, hf⟩ := bd1_s hf
            refine ucVi (As := []) (rest := []) ⟨hx, hb, hml, hown, htb⟩ hK hP hD hS hA (fun hs => c_E_isTwoDots hc_19) (cwV 0 htb (gV tw_499 tw_500 tw_501 tw_72 tw_502) rfl rfl rfl (by decide +kernel) ⟨Nat.le_of_ble_eq_true rfl, Nat.le_of_ble_eq_true rfl⟩) 5 1 rfl rfl rfl rfl rfl hl.1 (Nat.le_of_ble_eq_true rfl) d_S_entryStands_129 ⟨Nat.zero_le _, Nat.zero_le _⟩ (fun H locs hP hD hS => ?_)
            refine lv_if_ne (tgt := 146) hx hb d_S_entryStands_132 (by decide) (fun c_20 => ?_) (fun c_20 => ?_)
            · have hf := ite_f c_20 hf
              refine lv_iconst (v := 0) hx hb d_S_entryStands_146 (by decide) ?_
              cases hf
              exact hret _ _ _ _ (Or.inl rfl) hP hD hS d_S_entryStands_147
            · have hf := ite_t c_20 hf
              refine lv_aload_n hx hb d_S_entryStands_135 rfl (lv_at hl 1 rfl) ?_
              refine va_get (D := (dC, dI)) (ci := 3) (v := .ref (h 3)) (C := R_S) (T := T_S) (N := 10) hx hb htb in_S hown hK hP 6 rfl rfl 1 (by decide) (htb _ tw_177) (fun _ h9 => h9) rfl d_S_entryStands_136 ?_
              refine lv_iload_n hx hb d_S_entryStands_139 rfl (lv_at hl 0 rfl) ?_
              obtain ⟨r_21, hc_22, hf⟩ := bd1_s hf
              refine ucVi (As := [.int r_7]) (rest := []) ⟨hx, hb, hml, hown, htb⟩ hK hP hD hS hA (fun hs => c_L_isUsed hc_22) (cwV 1 htb (gV tw_369 tw_370 tw_371 tw_71 tw_372) rfl rfl rfl (by decide +kernel) ⟨Nat.le_of_ble_eq_true rfl, Nat.le_of_ble_eq_true rfl⟩) 3 2 rfl rfl rfl rfl rfl hl.1 (Nat.le_of_ble_eq_true rfl) d_S_entryStands_140 ⟨Nat.zero_le _, Nat.zero_le _⟩ (fun H locs hP hD hS => ?_)
              refine lv_if_ne (tgt := 148) hx hb d_S_entryStands_143 (by decide) (fun c_23 => ?_) (fun c_23 => ?_)
              · have hf := ite_f c_23 hf
                refine lv_aload_n hx hb d_S_entryStands_148 rfl (lv_at hl 1 rfl) ?_
                refine va_get (D := (dC, dI)) (ci := 3) (v := .ref (h 3)) (C := R_S) (T := T_S) (N := 10) hx hb htb in_S hown hK hP 6 rfl rfl 1 (by decide) (htb _ tw_177) (fun _ h9 => h9) rfl d_S_entryStands_149 ?_
                refine lv_iload_n hx hb d_S_entryStands_152 rfl (lv_at hl 0 rfl) ?_
                obtain ⟨r_24, hc_25, hf⟩ := bd1_s hf
                refine ucVi (As := [.int r_7]) (rest := []) ⟨hx, hb, hml, hown, htb⟩ hK hP hD hS hA (fun hs => c_L_typeOf hc_25) (cwV 1 htb (gV tw_378 tw_379 tw_380 tw_71 tw_381) rfl rfl rfl (by decide +kernel) ⟨Nat.le_of_ble_eq_true rfl, Nat.le_of_ble_eq_true rfl⟩) 3 2 rfl rfl rfl rfl rfl hl.1 (Nat.le_of_ble_eq_true rfl) d_S_entryStands_153 ⟨Nat.zero_le _, Nat.zero_le _⟩ (fun H locs hP hD hS => ?_)
                refine lv_istore (lv' := [(4, .int r_24), (3, .int r_7), (0, .ref (h 6)), (1, .int a1), (2, .int a2)]) hx hb d_S_entryStands_156 hl (by decide) rfl (fun ls hl => ?_)
                refine lv_iload hx hb d_S_entryStands_158 (lv_at hl 0 rfl) ?_
                refine lv_sipush (v := 16384) hx hb d_S_entryStands_160 (by decide) ?_
                refine lv_icmp_ne (tgt := 177) hx hb d_S_entryStands_163 (by decide) (fun c_26 => ?_) (fun c_26 => ?_)
                · have hf := ite_f c_26 hf
                  exact hj_177 r_24 _ _ _ hf hP hD hS (lv_sub hl [2, 0] rfl)
                · have hf := ite_t c_26 hf
                  refine lv_aload_n hx hb d_S_entryStands_166 rfl (lv_at hl 2 rfl) ?_
                  refine va_get (D := (dC, dI)) (ci := 3) (v := .ref (h 5)) (C := R_S) (T := T_S) (N := 10) hx hb htb in_S hown hK hP 6 rfl rfl 2 (by decide) (htb _ tw_178) (fun _ h9 => h9) rfl d_S_entryStands_167 ?_
                  obtain ⟨r_27, hc_28, hf⟩ := bd1_s hf
                  refine ucVi (As := []) (rest := []) ⟨hx, hb, hml, hown, htb⟩ hK hP hD hS hA (fun hs => c_E_mark hc_28) (cwV 0 htb (gV tw_495 tw_496 tw_497 tw_72 tw_498) rfl rfl rfl (by decide +kernel) ⟨Nat.le_of_ble_eq_true rfl, Nat.le_of_ble_eq_true rfl⟩) 5 1 rfl rfl rfl rfl rfl hl.1 (Nat.le_of_ble_eq_true rfl) d_S_entryStands_170 ⟨Nat.zero_le _, Nat.zero_le _⟩ (fun H locs hP hD hS => ?_)
                  refine lv_iconst (v := 2) hx hb d_S_entryStands_173 (by decide) ?_
                  refine lv_icmp_eq (tgt := 195) hx hb d_S_entryStands_174 (by decide) (fun c_29 => ?_) (fun c_29 => ?_)
                  · have hf := ite_t c_29 hf
                    refine lv_iconst (v := 1) hx hb d_S_entryStands_195 (by decide) ?_
                    refine lv_goto (tgt := 200) hx hb d_S_entryStands_196 (by decide) ?_
                    cases hf
                    exact hret _ _ _ _ (Or.inr rfl) hP hD hS d_S_entryStands_200
                  · have hf := ite_f c_29 hf
                    exact hj_177 r_24 _ _ _ hf hP hD hS (lv_sub hl [2, 0] rfl)
              · have hf := ite_t c_23 hf
                refine lv_iconst (v := 0) hx hb d_S_entryStands_146 (by decide) ?_
                cases hf
                exact hret _ _ _ _ (Or.inl rfl) hP hD hS d_S_entryStands_147
        · have hf := ite_t c_14 hf
          refine lv_aload_n hx hb d_S_entryStands_83 rfl (lv_at hl 1 rfl) ?_
          refine va_get (D := (dC, dI)) (ci := 3) (v := .ref (h 5)) (C := R_S) (T := T_S) (N := 10) hx hb htb in_S hown hK hP 6 rfl rfl 2 (by decide) (htb _ tw_178) (fun _ h9 => h9) rfl d_S_entryStands_84 ?_
          obtain ⟨r_30, hc_31, hf⟩ := bd1_s hf
          refine ucVi (As := []) (rest := []) ⟨hx, hb, hml, hown, htb⟩ hK hP hD hS hA (fun hs => c_E_isTwoDots hc_31) (cwV 0 htb (gV tw_499 tw_500 tw_501 tw_72 tw_502) rfl rfl rfl (by decide +kernel) ⟨Nat.le_of_ble_eq_true rfl, Nat.le_of_ble_eq_true rfl⟩) 5 1 rfl rfl rfl rfl rfl hl.1 (Nat.le_of_ble_eq_true rfl) d_S_entryStands_87 ⟨Nat.zero_le _, Nat.zero_le _⟩ (fun H locs hP hD hS => ?_)
          refine lv_if_eq (tgt := 113) hx hb d_S_entryStands_90 (by decide) (fun c_32 => ?_) (fun c_32 => ?_)
          · have hf := ite_t c_32 hf
            refine lv_iconst (v := 0) hx hb d_S_entryStands_113 (by decide) ?_
            cases hf
            exact hret _ _ _ _ (Or.inl rfl) hP hD hS d_S_entryStands_114
          · have hf := ite_f c_32 hf
            refine lv_iload_n hx hb d_S_entryStands_93 rfl (lv_at hl 0 rfl) ?_
            refine lv_iload_n hx hb d_S_entryStands_94 rfl (lv_at hl 3 rfl) ?_
            refine lv_icmp_ne (tgt := 113) hx hb d_S_entryStands_95 (by decide) (fun c_33 => ?_) (fun c_33 => ?_)
            · have hf := ite_f c_33 hf
              refine lv_iconst (v := 0) hx hb d_S_entryStands_113 (by decide) ?_
              cases hf
              exact hret _ _ _ _ (Or.inl rfl) hP hD hS d_S_entryStands_114
            · have hf := ite_t c_33 hf
              refine lv_aload_n hx hb d_S_entryStands_98 rfl (lv_at hl 1 rfl) ?_
              refine va_get (D := (dC, dI)) (ci := 3) (v := .ref (h 5)) (C := R_S) (T := T_S) (N := 10) hx hb htb in_S hown hK hP 6 rfl rfl 2 (by decide) (htb _ tw_178) (fun _ h9 => h9) rfl d_S_entryStands_99 ?_
              obtain ⟨r_34, hc_35, hf⟩ := bd1_s hf
              refine ucVi (As := []) (rest := []) ⟨hx, hb, hml, hown, htb⟩ hK hP hD hS hA (fun hs => c_E_mark hc_35) (cwV 0 htb (gV tw_495 tw_496 tw_497 tw_72 tw_498) rfl rfl rfl (by decide +kernel) ⟨Nat.le_of_ble_eq_true rfl, Nat.le_of_ble_eq_true rfl⟩) 5 1 rfl rfl rfl rfl rfl hl.1 (Nat.le_of_ble_eq_true rfl) d_S_entryStands_102 ⟨Nat.zero_le _, Nat.zero_le _⟩ (fun H locs hP hD hS => ?_)
              refine lv_iconst (v := 2) hx hb d_S_entryStands_105 (by decide) ?_
              refine lv_icmp_ne (tgt := 113) hx hb d_S_entryStands_106 (by decide) (fun c_36 => ?_) (fun c_36 => ?_)
              · have hf := ite_f c_36 hf
                refine lv_iconst (v := 0) hx hb d_S_entryStands_113 (by decide) ?_
                cases hf
                exact hret _ _ _ _ (Or.inl rfl) hP hD hS d_S_entryStands_114
              · have hf := ite_t c_36 hf
                refine lv_iconst (v := 1) hx hb d_S_entryStands_109 (by decide) ?_
                refine lv_goto (tgt := 114) hx hb d_S_entryStands_110 (by decide) ?_
                cases hf
                exact hret _ _ _ _ (Or.inr rfl) hP hD hS d_S_entryStands_114
      · have hf := ite_t c_11 hf
        refine lv_aload_n hx hb d_S_entryStands_40 rfl (lv_at hl 1 rfl) ?_
        refine va_get (D := (dC, dI)) (ci := 3) (v := .ref (h 5)) (C := R_S) (T := T_S) (N := 10) hx hb htb in_S hown hK hP 6 rfl rfl 2 (by decide) (htb _ tw_178) (fun _ h9 => h9) rfl d_S_entryStands_41 ?_
        obtain ⟨r_37, hc_38, hf⟩ := bd1_s hf
        refine ucVi (As := []) (rest := []) ⟨hx, hb, hml, hown, htb⟩ hK hP hD hS hA (fun hs => c_E_isOneDot hc_38) (cwV 0 htb (gV tw_490 tw_491 tw_492 tw_72 tw_493) rfl rfl rfl (by decide +kernel) ⟨Nat.le_of_ble_eq_true rfl, Nat.le_of_ble_eq_true rfl⟩) 5 1 rfl rfl rfl rfl rfl hl.1 (Nat.le_of_ble_eq_true rfl) d_S_entryStands_44 ⟨Nat.zero_le _, Nat.zero_le _⟩ (fun H locs hP hD hS => ?_)
        refine lv_if_eq (tgt := 70) hx hb d_S_entryStands_47 (by decide) (fun c_39 => ?_) (fun c_39 => ?_)
        · have hf := ite_t c_39 hf
          refine lv_iconst (v := 0) hx hb d_S_entryStands_70 (by decide) ?_
          cases hf
          exact hret _ _ _ _ (Or.inl rfl) hP hD hS d_S_entryStands_71
        · have hf := ite_f c_39 hf
          refine lv_iload_n hx hb d_S_entryStands_50 rfl (lv_at hl 0 rfl) ?_
          refine lv_iload_n hx hb d_S_entryStands_51 rfl (lv_at hl 2 rfl) ?_
          refine lv_icmp_ne (tgt := 70) hx hb d_S_entryStands_52 (by decide) (fun c_40 => ?_) (fun c_40 => ?_)
          · have hf := ite_f c_40 hf
            refine lv_iconst (v := 0) hx hb d_S_entryStands_70 (by decide) ?_
            cases hf
            exact hret _ _ _ _ (Or.inl rfl) hP hD hS d_S_entryStands_71
          · have hf := ite_t c_40 hf
            refine lv_aload_n hx hb d_S_entryStands_55 rfl (lv_at hl 1 rfl) ?_
            refine va_get (D := (dC, dI)) (ci := 3) (v := .ref (h 5)) (C := R_S) (T := T_S) (N := 10) hx hb htb in_S hown hK hP 6 rfl rfl 2 (by decide) (htb _ tw_178) (fun _ h9 => h9) rfl d_S_entryStands_56 ?_
            obtain ⟨r_41, hc_42, hf⟩ := bd1_s hf
            refine ucVi (As := []) (rest := []) ⟨hx, hb, hml, hown, htb⟩ hK hP hD hS hA (fun hs => c_E_mark hc_42) (cwV 0 htb (gV tw_495 tw_496 tw_497 tw_72 tw_498) rfl rfl rfl (by decide +kernel) ⟨Nat.le_of_ble_eq_true rfl, Nat.le_of_ble_eq_true rfl⟩) 5 1 rfl rfl rfl rfl rfl hl.1 (Nat.le_of_ble_eq_true rfl) d_S_entryStands_59 ⟨Nat.zero_le _, Nat.zero_le _⟩ (fun H locs hP hD hS => ?_)
            refine lv_iconst (v := 2) hx hb d_S_entryStands_62 (by decide) ?_
            refine lv_icmp_ne (tgt := 70) hx hb d_S_entryStands_63 (by decide) (fun c_43 => ?_) (fun c_43 => ?_)
            · have hf := ite_f c_43 hf
              refine lv_iconst (v := 0) hx hb d_S_entryStands_70 (by decide) ?_
              cases hf
              exact hret _ _ _ _ (Or.inl rfl) hP hD hS d_S_entryStands_71
            · have hf := ite_t c_43 hf
              refine lv_iconst (v := 1) hx hb d_S_entryStands_66 (by decide) ?_
              refine lv_goto (tgt := 71) hx hb d_S_entryStands_67 (by decide) ?_
              cases hf
              exact hret _ _ _ _ (Or.inr rfl) hP hD hS d_S_entryStands_71
    · have hf := ite_t c_6 hf
      refine lv_iconst (v := 0) hx hb d_S_entryStands_20 (by decide) ?_
      cases hf
      exact hret _ _ _ _ (Or.inl rfl) hP hD hS d_S_entryStands_21
set_option maxHeartbeats 4000000 in
set_option maxRecDepth 100000 in
theorem c_S_entriesStand {l : Launch} {dC : Nat → ClassId} {dI : Nat → Nat → Nat} {N : Nat} {h : Nat → Nat} {cI : ClassId} {cL : ClassId} {NW : Nat} {bk : Int32} {sz : Int32} {wd : Nat → Int64} {mb : Nat → Int32} {gB : Int32} {gI : Int32} {gN : Int32} {iN : Int32} {dr : Int32} {es : Int64} {of : Int64} {od : Int32} {pl : Int64} {hd : Int64} {tk : Nat → Int32} {kn : Nat → Int32} {li : Nat → Int32} {pa : Nat → Int32} {ins : Nat → Int32} {cm : Int32} {fd : Int32} {hr : Int32} {hs : Nat} {a1 : Int32} {a2 : Int32} {r : Int32} {dr' : Int32} {es' : Int64} {of' : Int64} {od' : Int32} {pl' : Int64} {hd' : Int64} (hf : f_S_entriesStand N NW sz wd mb gI iN dr es of od pl hd a1 a2 = some (r, dr', es', of', od', pl', hd')) : Met l y_S_entriesStand ws_S_entriesStand { frames := 3, cells := 0, slots := 0, locals := 77 } (PcU (dC, dI) clAll [(cI, .int), (cL, .long)] (wC h cI cL NW bk sz wd mb gB gI gN iN dr es of od pl hd tk kn li pa ins cm fd hr) hs [.ref (h 6), .int a1, .int a2]) (QUi (dC, dI) clAll [(cI, .int), (cL, .long)] (wC h cI cL NW bk sz wd mb gB gI gN iN dr es of od pl hd tk kn li pa ins cm fd hr) (wC h cI cL NW bk sz wd mb gB gI gN iN dr' es' of' od' pl' hd' tk kn li pa ins cm fd hr) hs r) 0 0 (va_A (wC h cI cL NW bk sz wd mb gB gI gN iN dr es of od pl hd tk kn li pa ins cm fd hr) hs) := by
  refine mUz (cc := b_S_entriesStand) (maxL := 6) (by decide) rfl (Nat.le_of_ble_eq_true rfl) ?_
  intro p e s m args below meth c Q hx hb hml hts hown A hA hK hP hD hS hret ls hl
  have htb : ∀ w ∈ TB, w.before args s = true := fun w h => hts w (List.mem_cons_of_mem _ h)
  have hl : lv_has ls 6 [(0, .ref (h 6)), (1, .int a1), (2, .int a2)] := hl
  have hj_101 : ∀ (dr : Int32) (es : Int64) (of : Int64) (od : Int32) (pl : Int64) (hd : Int64) (H : Heap) (locs : List Loc) (ls : Array Slot), f_S_entriesStand_101 N NW sz wd mb gI iN dr es of od pl hd = some (r, dr', es', of', od', pl', hd') → va_P (dC, dI) clAll (wC h cI cL NW bk sz wd mb gB gI gN iN dr es of od pl hd tk kn li pa ins cm fd hr) H → va_D A (wC h cI cL NW bk sz wd mb gB gI gN iN dr es of od pl hd tk kn li pa ins cm fd hr) → va_S A s.heap H locs → lv_has ls 6 [(0, .ref (h 6))] → W p l e (headSpec ws_S_entriesStand { frames := 3, cells := 0, slots := 0, locals := 77 }).room s m args below meth c H locs 0 0 Q (F0 m 101 ls []) := by
    intro dr es of od pl hd H locs ls hf hP hD hS hl
    unfold f_S_entriesStand_101 at hf
    refine lv_aload_n hx hb d_S_entriesStand_101 rfl (lv_at hl 0 rfl) ?_
    refine va_get (D := (dC, dI)) (ci := 3) (v := .ref (h 5)) (C := R_S) (T := T_S) (N := 10) hx hb htb in_S hown hK hP 6 rfl rfl 2 (by decide) (htb _ tw_178) (fun _ h9 => h9) rfl d_S_entriesStand_102 ?_
    obtain ⟨r_1, hc_2, hf⟩ := bd1_s hf
    refine ucVi (As := []) (rest := []) ⟨hx, hb, hml, hown, htb⟩ hK hP hD hS hA (fun hs => c_E_order hc_2) (cwV 0 htb (gV tw_486 tw_487 tw_488 tw_72 tw_489) rfl rfl rfl (by decide +kernel) ⟨Nat.le_of_ble_eq_true rfl, Nat.le_of_ble_eq_true rfl⟩) 5 1 rfl rfl rfl rfl rfl hl.1 (Nat.le_of_ble_eq_true rfl) d_S_entriesStand_105 ⟨Nat.zero_le _, Nat.zero_le _⟩ (fun H locs hP hD hS => ?_)
    refine lv_iconst (v := 2) hx hb d_S_entriesStand_108 (by decide) ?_
    refine lv_icmp_lt (tgt := 116) hx hb d_S_entriesStand_109 (by decide) (fun c_3 => ?_) (fun c_3 => ?_)
    · have hf := ite_t c_3 hf
      refine lv_iconst (v := 0) hx hb d_S_entriesStand_116 (by decide) ?_
      cases hf
      exact hret _ _ _ _ (Or.inl rfl) hP hD hS d_S_entriesStand_117
    · have hf := ite_f c_3 hf
      refine lv_iconst (v := 1) hx hb d_S_entriesStand_112 (by decide) ?_
      refine lv_goto (tgt := 117) hx hb d_S_entriesStand_113 (by decide) ?_
      cases hf
      exact hret _ _ _ _ (Or.inr rfl) hP hD hS d_S_entriesStand_117
  have hj_38 : ∀ (k_38 : Nat) (dr : Int32) (es : Int64) (of : Int64) (od : Int32) (pl : Int64) (hd : Int64) (x1 : Int32) (x2 : Int32) (x5 : Int32) (H : Heap) (locs : List Loc) (ls : Array Slot), f_S_entriesStand_38 N NW sz wd mb gI iN k_38 dr es of od pl hd x1 x2 x5 = some (r, dr', es', of', od', pl', hd') → va_P (dC, dI) clAll (wC h cI cL NW bk sz wd mb gB gI gN iN dr es of od pl hd tk kn li pa ins cm fd hr) H → va_D A (wC h cI cL NW bk sz wd mb gB gI gN iN dr es of od pl hd tk kn li pa ins cm fd hr) → va_S A s.heap H locs → lv_has ls 6 [(0, .ref (h 6)), (1, .int x1), (2, .int x2), (5, .int x5)] → W p l e (headSpec ws_S_entriesStand { frames := 3, cells := 0, slots := 0, locals := 77 }).room s m args below meth c H locs 0 0 Q (F0 m 38 ls []) := by
    intro k_38
    induction k_38 with
    | zero => intro _ _ _ _ _ _ _ _ _ _ _ _ hf; exact absurd hf (by simp [f_S_entriesStand_38])
    | succ k_38 ih_38 =>
      have hj_88 : ∀ (dr : Int32) (es : Int64) (of : Int64) (od : Int32) (pl : Int64) (hd : Int64) (x1 : Int32) (x2 : Int32) (x5 : Int32) (H : Heap) (locs : List Loc) (ls : Array Slot), f_S_entriesStand_88 N NW sz wd mb gI iN (f_S_entriesStand_38 N NW sz wd mb gI iN k_38) dr es of od pl hd x1 x2 x5 = some (r, dr', es', of', od', pl', hd') → va_P (dC, dI) clAll (wC h cI cL NW bk sz wd mb gB gI gN iN dr es of od pl hd tk kn li pa ins cm fd hr) H → va_D A (wC h cI cL NW bk sz wd mb gB gI gN iN dr es of od pl hd tk kn li pa ins cm fd hr) → va_S A s.heap H locs → lv_has ls 6 [(0, .ref (h 6)), (1, .int x1), (2, .int x2), (5, .int x5)] → W p l e (headSpec ws_S_entriesStand { frames := 3, cells := 0, slots := 0, locals := 77 }).room s m args below meth c H locs 0 0 Q (F0 m 88 ls []) := by
        intro dr es of od pl hd x1 x2 x5 H locs ls hf hP hD hS hl
        unfold f_S_entriesStand_88 at hf
        refine lv_aload_n hx hb d_S_entriesStand_88 rfl (lv_at hl 0 rfl) ?_
        refine va_get (D := (dC, dI)) (ci := 3) (v := .ref (h 5)) (C := R_S) (T := T_S) (N := 10) hx hb htb in_S hown hK hP 6 rfl rfl 2 (by decide) (htb _ tw_178) (fun _ h9 => h9) rfl d_S_entriesStand_89 ?_
        obtain ⟨of_1, od_2, pl_3, hd_4, hc_5, hf⟩ := bd4_s hf
        refine ucVv (As := []) (rest := []) ⟨hx, hb, hml, hown, htb⟩ hK hP hD hS hA (fun hs => c_E_advance hc_5) (cwV 0 htb (gV tw_505 tw_506 tw_507 tw_72 tw_508) rfl rfl rfl (by decide +kernel) ⟨Nat.le_of_ble_eq_true rfl, Nat.le_of_ble_eq_true rfl⟩) 5 1 rfl rfl rfl rfl rfl hl.1 (Nat.le_of_ble_eq_true rfl) d_S_entriesStand_92 ⟨Nat.zero_le _, Nat.zero_le _⟩ (fun H locs hP hD hS => ?_)
        obtain ⟨v5_6, ev5_6, hf⟩ := lt1_s hf
        refine lv_iinc (v := v5_6) (lv' := [(5, .int v5_6), (0, .ref (h 6)), (1, .int x1), (2, .int x2)]) hx hb d_S_entriesStand_95 hl (k := 3) rfl (by rw [← ev5_6]; rfl) (by decide) rfl (fun ls hl => ?_)
        refine lv_goto (tgt := 38) hx hb d_S_entriesStand_98 (by decide) ?_
        exact ih_38 dr es of_1 od_2 pl_3 hd_4 x1 x2 v5_6 _ _ _ hf hP hD hS (lv_sub hl [1, 2, 3, 0] rfl)
      intro dr es of od pl hd x1 x2 x5 H locs ls hf hP hD hS hl
      rw [f_S_entriesStand_38] at hf
      refine lv_iload hx hb d_S_entriesStand_38 (lv_at hl 3 rfl) ?_
      refine lv_ldc (v := 43691) hx hb hown (htb _ tw_441) d_S_entriesStand_40 ?_
      refine lv_icmp_ge (tgt := 101) hx hb d_S_entriesStand_42 (by decide) (fun c_1 => ?_) (fun c_1 => ?_)
      · have hf := ite_t c_1 hf
        exact hj_101 dr es of od pl hd _ _ _ hf hP hD hS (lv_sub hl [0] rfl)
      · have hf := ite_f c_1 hf
        refine lv_aload_n hx hb d_S_entriesStand_45 rfl (lv_at hl 0 rfl) ?_
        refine va_get (D := (dC, dI)) (ci := 3) (v := .ref (h 5)) (C := R_S) (T := T_S) (N := 10) hx hb htb in_S hown hK hP 6 rfl rfl 2 (by decide) (htb _ tw_178) (fun _ h9 => h9) rfl d_S_entriesStand_46 ?_
        obtain ⟨r_2, hc_3, hf⟩ := bd1_s hf
        refine ucVi (As := []) (rest := []) ⟨hx, hb, hml, hown, htb⟩ hK hP hD hS hA (fun hs => c_E_isOn hc_3) (cwV 0 htb (gV tw_442 tw_443 tw_444 tw_72 tw_445) rfl rfl rfl (by decide +kernel) ⟨Nat.le_of_ble_eq_true rfl, Nat.le_of_ble_eq_true rfl⟩) 5 1 rfl rfl rfl rfl rfl hl.1 (Nat.le_of_ble_eq_true rfl) d_S_entriesStand_49 ⟨Nat.zero_le _, Nat.zero_le _⟩ (fun H locs hP hD hS => ?_)
        refine lv_if_eq (tgt := 101) hx hb d_S_entriesStand_52 (by decide) (fun c_4 => ?_) (fun c_4 => ?_)
        · have hf := ite_t c_4 hf
          exact hj_101 dr es of od pl hd _ _ _ hf hP hD hS (lv_sub hl [0] rfl)
        · have hf := ite_f c_4 hf
          refine lv_aload_n hx hb d_S_entriesStand_55 rfl (lv_at hl 0 rfl) ?_
          refine va_get (D := (dC, dI)) (ci := 3) (v := .ref (h 5)) (C := R_S) (T := T_S) (N := 10) hx hb htb in_S hown hK hP 6 rfl rfl 2 (by decide) (htb _ tw_178) (fun _ h9 => h9) rfl d_S_entriesStand_56 ?_
          obtain ⟨r_5, hc_6, hf⟩ := bd1_s hf
          refine ucVi (As := []) (rest := []) ⟨hx, hb, hml, hown, htb⟩ hK hP hD hS hA (fun hs => c_E_fits hc_6) (cwV 0 htb (gV tw_446 tw_447 tw_448 tw_72 tw_449) rfl rfl rfl (by decide +kernel) ⟨Nat.le_of_ble_eq_true rfl, Nat.le_of_ble_eq_true rfl⟩) 5 1 rfl rfl rfl rfl rfl hl.1 (Nat.le_of_ble_eq_true rfl) d_S_entriesStand_59 ⟨Nat.zero_le _, Nat.zero_le _⟩ (fun H locs hP hD hS => ?_)
          refine lv_if_ne (tgt := 67) hx hb d_S_entriesStand_62 (by decide) (fun c_7 => ?_) (fun c_7 => ?_)
          · have hf := ite_f c_7 hf
            refine lv_aload_n hx hb d_S_entriesStand_67 rfl (lv_at hl 0 rfl) ?_
            refine va_get (D := (dC, dI)) (ci := 3) (v := .ref (h 5)) (C := R_S) (T := T_S) (N := 10) hx hb htb in_S hown hK hP 6 rfl rfl 2 (by decide) (htb _ tw_178) (fun _ h9 => h9) rfl d_S_entriesStand_68 ?_
            obtain ⟨r_8, hc_9, hf⟩ := bd1_s hf
            refine ucVi (As := []) (rest := []) ⟨hx, hb, hml, hown, htb⟩ hK hP hD hS hA (fun hs => c_E_isEmpty hc_9) (cwV 0 htb (gV tw_455 tw_456 tw_457 tw_72 tw_458) rfl rfl rfl (by decide +kernel) ⟨Nat.le_of_ble_eq_true rfl, Nat.le_of_ble_eq_true rfl⟩) 5 1 rfl rfl rfl rfl rfl hl.1 (Nat.le_of_ble_eq_true rfl) d_S_entriesStand_71 ⟨Nat.zero_le _, Nat.zero_le _⟩ (fun H locs hP hD hS => ?_)
            refine lv_if_ne (tgt := 88) hx hb d_S_entriesStand_74 (by decide) (fun c_10 => ?_) (fun c_10 => ?_)
            · have hf := ite_f c_10 hf
              exact hj_88 dr es of od pl hd x1 x2 x5 _ _ _ hf hP hD hS (lv_sub hl [0, 1, 2, 3] rfl)
            · have hf := ite_t c_10 hf
              refine lv_aload_n hx hb d_S_entriesStand_77 rfl (lv_at hl 0 rfl) ?_
              refine lv_iload_n hx hb d_S_entriesStand_78 rfl (lv_at hl 1 rfl) ?_
              refine lv_iload_n hx hb d_S_entriesStand_79 rfl (lv_at hl 2 rfl) ?_
              obtain ⟨r_11, hc_12, hf⟩ := bd1_s hf
              refine ucVi (As := [.int x1, .int x2]) (rest := []) ⟨hx, hb, hml, hown, htb⟩ hK hP hD hS hA (fun hs => c_S_entryStands hc_12) (cwV 2 htb (gV tw_460 tw_462 tw_13 tw_73 tw_463) rfl rfl rfl (by decide +kernel) ⟨Nat.le_of_ble_eq_true rfl, Nat.le_of_ble_eq_true rfl⟩) 6 3 rfl rfl rfl rfl rfl hl.1 (Nat.le_of_ble_eq_true rfl) d_S_entriesStand_80 ⟨Nat.zero_le _, Nat.zero_le _⟩ (fun H locs hP hD hS => ?_)
              refine lv_if_ne (tgt := 88) hx hb d_S_entriesStand_83 (by decide) (fun c_13 => ?_) (fun c_13 => ?_)
              · have hf := ite_f c_13 hf
                exact hj_88 dr es of od pl hd x1 x2 x5 _ _ _ hf hP hD hS (lv_sub hl [0, 1, 2, 3] rfl)
              · have hf := ite_t c_13 hf
                refine lv_iconst (v := 0) hx hb d_S_entriesStand_86 (by decide) ?_
                cases hf
                exact hret _ _ _ _ (Or.inl rfl) hP hD hS d_S_entriesStand_87
          · have hf := ite_t c_7 hf
            refine lv_iconst (v := 0) hx hb d_S_entriesStand_65 (by decide) ?_
            cases hf
            exact hret _ _ _ _ (Or.inl rfl) hP hD hS d_S_entriesStand_66
  unfold f_S_entriesStand at hf
  refine lv_aload_n hx hb d_S_entriesStand_0 rfl (lv_at hl 0 rfl) ?_
  refine va_get (D := (dC, dI)) (ci := 3) (v := .ref (h 3)) (C := R_S) (T := T_S) (N := 10) hx hb htb in_S hown hK hP 6 rfl rfl 1 (by decide) (htb _ tw_177) (fun _ h9 => h9) rfl d_S_entriesStand_1 ?_
  refine lv_iload_n hx hb d_S_entriesStand_4 rfl (lv_at hl 1 rfl) ?_
  obtain ⟨r_1, hc_2, hf⟩ := bd1_s hf
  refine ucVl (As := [.int a1]) (rest := []) ⟨hx, hb, hml, hown, htb⟩ hK hP hD hS hA (fun hs => c_L_sizeOf hc_2) (cwV 1 htb (gV tw_392 tw_393 tw_394 tw_71 tw_395) rfl rfl rfl (by decide +kernel) ⟨Nat.le_of_ble_eq_true rfl, Nat.le_of_ble_eq_true rfl⟩) 3 2 rfl rfl rfl rfl rfl hl.1 (Nat.le_of_ble_eq_true rfl) d_S_entriesStand_5 ⟨Nat.zero_le _, Nat.zero_le _⟩ (fun H locs hP hD hS => ?_)
  refine lv_lstore_n (lv' := [(3, .long r_1), (0, .ref (h 6)), (1, .int a1), (2, .int a2)]) hx hb d_S_entriesStand_8 rfl hl (by decide) rfl (fun ls hl => ?_)
  refine lv_lload_n hx hb d_S_entriesStand_9 rfl (lv_at hl 0 rfl) ?_
  refine lv_lconst (v := 0) hx hb d_S_entriesStand_10 (by decide) ?_
  refine lc_eq (tgt := 25) hx hb d_S_entriesStand_11 d_S_entriesStand_12 (by decide) (fun c_3 => ?_) (fun c_3 => ?_)
  · have hf := ite_t c_3 hf
    refine lv_iconst (v := 0) hx hb d_S_entriesStand_25 (by decide) ?_
    cases hf
    exact hret _ _ _ _ (Or.inl rfl) hP hD hS d_S_entriesStand_26
  · have hf := ite_f c_3 hf
    refine lv_lload_n hx hb d_S_entriesStand_15 rfl (lv_at hl 0 rfl) ?_
    refine lv_ldc2 (v := 1024) hx hb hown (htb _ tw_339) d_S_entriesStand_16 ?_
    refine lv_lrem hx hb d_S_entriesStand_19 (by decide) ?_
    refine lv_lconst (v := 0) hx hb d_S_entriesStand_20 (by decide) ?_
    refine lc_eq (tgt := 27) hx hb d_S_entriesStand_21 d_S_entriesStand_22 (by decide) (fun c_4 => ?_) (fun c_4 => ?_)
    · have hf := ite_t c_4 hf
      refine lv_aload_n hx hb d_S_entriesStand_27 rfl (lv_at hl 1 rfl) ?_
      refine va_get (D := (dC, dI)) (ci := 3) (v := .ref (h 5)) (C := R_S) (T := T_S) (N := 10) hx hb htb in_S hown hK hP 6 rfl rfl 2 (by decide) (htb _ tw_178) (fun _ h9 => h9) rfl d_S_entriesStand_28 ?_
      refine lv_iload_n hx hb d_S_entriesStand_31 rfl (lv_at hl 2 rfl) ?_
      obtain ⟨dr_5, es_6, of_7, od_8, pl_9, hd_10, hc_11, hf⟩ := bd6_s hf
      refine ucVv (As := [.int a1]) (rest := []) ⟨hx, hb, hml, hown, htb⟩ hK hP hD hS hA (fun hs => c_E_start hc_11) (cwV 1 htb (gV tw_433 tw_434 tw_435 tw_72 tw_436) rfl rfl rfl (by decide +kernel) ⟨Nat.le_of_ble_eq_true rfl, Nat.le_of_ble_eq_true rfl⟩) 5 1 rfl rfl rfl rfl rfl hl.1 (Nat.le_of_ble_eq_true rfl) d_S_entriesStand_32 ⟨Nat.zero_le _, Nat.zero_le _⟩ (fun H locs hP hD hS => ?_)
      refine lv_iconst (v := 0) hx hb d_S_entriesStand_35 (by decide) ?_
      refine lv_istore (lv' := [(5, .int ((0 : Int32))), (3, .long r_1), (0, .ref (h 6)), (1, .int a1), (2, .int a2)]) hx hb d_S_entriesStand_36 hl (by decide) rfl (fun ls hl => ?_)
      exact hj_38 N dr_5 es_6 of_7 od_8 pl_9 hd_10 a1 a2 ((0 : Int32)) _ _ _ hf hP hD hS (lv_sub hl [2, 3, 4, 0] rfl)
    · have hf := ite_f c_4 hf
      refine lv_iconst (v := 0) hx hb d_S_entriesStand_25 (by decide) ?_
      cases hf
      exact hret _ _ _ _ (Or.inl rfl) hP hD hS d_S_entriesStand_26
