set_option maxHeartbeats 4000000 in
set_option maxRecDepth 100000 in
theorem c_M_inodeAt {l : Launch} {dC : Nat → ClassId} {dI : Nat → Nat → Nat} {h : Nat → Nat} {cI : ClassId} {cB : ClassId} {cZ : ClassId} {th : Int32} {nb : Int32} {dk : Nat → Int32} {lk : Int32} {fa : Int32} {pp : Int32} {gg : Int32} {jj : Int32} {qq : Int32} {mp : Nat → Int32} {fx : Nat → Int32} {tn : Nat → Int32} {mn : Int32} {oq : Nat → Int32} {pq : Nat → Int32} {fo : Nat → Int32} {ca : Nat → Int32} {hr : Int32} {fd : Int32} {hs : Nat} {a1 : Int32} {r : Int32} (hf : f_M_inodeAt gg mp a1 = some (r)) : Met l y_M_inodeAt ws_M_inodeAt { frames := 0, cells := 0, slots := 0, locals := 0 } (PcU (dC, dI) clAll [(cI, .int), (cB, .byte), (cZ, .boolean)] (wM h cI cB cZ th nb dk lk fa pp gg jj qq mp fx tn mn oq pq fo ca hr fd) hs [.ref (h 0), .int a1]) (QUi (dC, dI) clAll [(cI, .int), (cB, .byte), (cZ, .boolean)] (wM h cI cB cZ th nb dk lk fa pp gg jj qq mp fx tn mn oq pq fo ca hr fd) (wM h cI cB cZ th nb dk lk fa pp gg jj qq mp fx tn mn oq pq fo ca hr fd) hs r) 0 0 (va_A (wM h cI cB cZ th nb dk lk fa pp gg jj qq mp fx tn mn oq pq fo ca hr fd) hs) := by
  refine mUi (cc := b_M_inodeAt) (maxL := 2) (by decide) rfl (Nat.le_of_ble_eq_true rfl) ?_
  intro p e s m args below meth c Q hx hb hml hts hown A hA hK hP hD hS hret ls hl
  have htb : ∀ w ∈ TB, w.before args s = true := fun w h => hts w (List.mem_cons_of_mem _ h)
  have hl : lv_has ls 2 [(0, .ref (h 0)), (1, .int a1)] := hl
  unfold f_M_inodeAt at hf
  refine lv_sipush (v := 1024) hx hb d_M_inodeAt_0 (by decide) ?_
  refine lv_aload_n hx hb d_M_inodeAt_3 rfl (lv_at hl 0 rfl) ?_
  refine va_get (D := (dC, dI)) (ci := 5) (v := .ref (h 2)) (C := R_M) (T := T_M) (N := 19) hx hb htb in_M hown hK hP 0 rfl rfl 9 (by decide) (htb _ tw_775) (fun _ h9 => h9) rfl d_M_inodeAt_4 ?_
  refine lv_iload_n hx hb d_M_inodeAt_7 rfl (lv_at hl 1 rfl) ?_
  refine lv_iconst (v := 1) hx hb d_M_inodeAt_8 (by decide) ?_
  refine lv_isub hx hb d_M_inodeAt_9 ?_
  refine lv_aload_n hx hb d_M_inodeAt_10 rfl (lv_at hl 0 rfl) ?_
  refine va_get (D := (dC, dI)) (ci := 5) (v := .int gg) (C := R_M) (T := T_M) (N := 19) hx hb htb in_M hown hK hP 0 rfl rfl 6 (by decide) (htb _ tw_772) (fun _ h9 => h9) rfl d_M_inodeAt_11 ?_
  obtain ⟨c_1, hf⟩ := gd_s hf
  refine lv_idiv hx hb d_M_inodeAt_14 c_1 ?_
  obtain ⟨c_2, hf⟩ := gd_s hf
  refine va_iald (i := (a1 - ((1 : Int32))) / gg) hx hb hK hP 2 0 rfl rfl c_2 d_M_inodeAt_15 ?_
  refine lv_iconst (v := 2) hx hb d_M_inodeAt_16 (by decide) ?_
  refine lv_iadd hx hb d_M_inodeAt_17 ?_
  refine lv_imul hx hb d_M_inodeAt_18 ?_
  refine lv_sipush (v := 128) hx hb d_M_inodeAt_19 (by decide) ?_
  refine lv_iload_n hx hb d_M_inodeAt_22 rfl (lv_at hl 1 rfl) ?_
  refine lv_iconst (v := 1) hx hb d_M_inodeAt_23 (by decide) ?_
  refine lv_isub hx hb d_M_inodeAt_24 ?_
  refine lv_aload_n hx hb d_M_inodeAt_25 rfl (lv_at hl 0 rfl) ?_
  refine va_get (D := (dC, dI)) (ci := 5) (v := .int gg) (C := R_M) (T := T_M) (N := 19) hx hb htb in_M hown hK hP 0 rfl rfl 6 (by decide) (htb _ tw_772) (fun _ h9 => h9) rfl d_M_inodeAt_26 ?_
  obtain ⟨c_3, hf⟩ := gd_s hf
  refine lv_irem hx hb d_M_inodeAt_29 c_3 ?_
  refine lv_imul hx hb d_M_inodeAt_30 ?_
  refine lv_iadd hx hb d_M_inodeAt_31 ?_
  cases hf
  exact hret _ _ _ _ hP hD hS d_M_inodeAt_32
set_option maxHeartbeats 4000000 in
set_option maxRecDepth 100000 in
theorem c_M_bit {l : Launch} {dC : Nat → ClassId} {dI : Nat → Nat → Nat} {h : Nat → Nat} {cI : ClassId} {cB : ClassId} {cZ : ClassId} {th : Int32} {nb : Int32} {dk : Nat → Int32} {lk : Int32} {fa : Int32} {pp : Int32} {gg : Int32} {jj : Int32} {qq : Int32} {mp : Nat → Int32} {fx : Nat → Int32} {tn : Nat → Int32} {mn : Int32} {oq : Nat → Int32} {pq : Nat → Int32} {fo : Nat → Int32} {ca : Nat → Int32} {hr : Int32} {fd : Int32} {hs : Nat} {a1 : Int32} {a2 : Int32} {r : Int32} (hf : f_M_bit dk a1 a2 = some (r)) : Met l y_M_bit ws_M_bit { frames := 1, cells := 0, slots := 0, locals := 21 } (PcU (dC, dI) clAll [(cI, .int), (cB, .byte), (cZ, .boolean)] (wM h cI cB cZ th nb dk lk fa pp gg jj qq mp fx tn mn oq pq fo ca hr fd) hs [.ref (h 0), .int a1, .int a2]) (QUi (dC, dI) clAll [(cI, .int), (cB, .byte), (cZ, .boolean)] (wM h cI cB cZ th nb dk lk fa pp gg jj qq mp fx tn mn oq pq fo ca hr fd) (wM h cI cB cZ th nb dk lk fa pp gg jj qq mp fx tn mn oq pq fo ca hr fd) hs r) 0 0 (va_A (wM h cI cB cZ th nb dk lk fa pp gg jj qq mp fx tn mn oq pq fo ca hr fd) hs) := by
  refine mUz (cc := b_M_bit) (maxL := 3) (by decide) rfl (Nat.le_of_ble_eq_true rfl) ?_
  intro p e s m args below meth c Q hx hb hml hts hown A hA hK hP hD hS hret ls hl
  have htb : ∀ w ∈ TB, w.before args s = true := fun w h => hts w (List.mem_cons_of_mem _ h)
  have hl : lv_has ls 3 [(0, .ref (h 0)), (1, .int a1), (2, .int a2)] := hl
  unfold f_M_bit at hf
  refine lv_aload_n hx hb d_M_bit_0 rfl (lv_at hl 0 rfl) ?_
  refine lv_sipush (v := 1024) hx hb d_M_bit_1 (by decide) ?_
  refine lv_iload_n hx hb d_M_bit_4 rfl (lv_at hl 1 rfl) ?_
  refine lv_imul hx hb d_M_bit_5 ?_
  refine lv_iload_n hx hb d_M_bit_6 rfl (lv_at hl 2 rfl) ?_
  refine lv_bipush (v := 8) hx hb d_M_bit_7 (by decide) ?_
  refine lv_idiv hx hb d_M_bit_9 (by decide) ?_
  refine lv_iadd hx hb d_M_bit_10 ?_
  obtain ⟨r_1, hc_2, hf⟩ := bd1_s hf
  refine ucVi (As := [.int ((((1024 : Int32)) * a1) + (a2 / ((8 : Int32))))]) (rest := []) ⟨hx, hb, hml, hown, htb⟩ hK hP hD hS hA (fun hs => c_M_one hc_2) (cwV 1 htb (gV tw_854 tw_856 tw_32 tw_74 tw_857) rfl rfl rfl (by decide +kernel) ⟨Nat.le_of_ble_eq_true rfl, Nat.le_of_ble_eq_true rfl⟩) 0 5 rfl rfl rfl rfl rfl hl.1 (Nat.le_of_ble_eq_true rfl) d_M_bit_11 ⟨Nat.zero_le _, Nat.zero_le _⟩ (fun H locs hP hD hS => ?_)
  refine lv_iload_n hx hb d_M_bit_14 rfl (lv_at hl 2 rfl) ?_
  refine lv_bipush (v := 8) hx hb d_M_bit_15 (by decide) ?_
  refine lv_irem hx hb d_M_bit_17 (by decide) ?_
  refine lv_ishr hx hb d_M_bit_18 ?_
  refine lv_iconst (v := 1) hx hb d_M_bit_19 (by decide) ?_
  refine lv_iand hx hb d_M_bit_20 ?_
  refine lv_iconst (v := 1) hx hb d_M_bit_21 (by decide) ?_
  refine lv_icmp_ne (tgt := 29) hx hb d_M_bit_22 (by decide) (fun c_3 => ?_) (fun c_3 => ?_)
  · have hf := ite_f c_3 hf
    refine lv_iconst (v := 0) hx hb d_M_bit_29 (by decide) ?_
    cases hf
    exact hret _ _ _ _ (Or.inl rfl) hP hD hS d_M_bit_30
  · have hf := ite_t c_3 hf
    refine lv_iconst (v := 1) hx hb d_M_bit_25 (by decide) ?_
    refine lv_goto (tgt := 30) hx hb d_M_bit_26 (by decide) ?_
    cases hf
    exact hret _ _ _ _ (Or.inr rfl) hP hD hS d_M_bit_30
set_option maxHeartbeats 4000000 in
set_option maxRecDepth 100000 in
theorem c_M_isUsed {l : Launch} {dC : Nat → ClassId} {dI : Nat → Nat → Nat} {h : Nat → Nat} {cI : ClassId} {cB : ClassId} {cZ : ClassId} {th : Int32} {nb : Int32} {dk : Nat → Int32} {lk : Int32} {fa : Int32} {pp : Int32} {gg : Int32} {jj : Int32} {qq : Int32} {mp : Nat → Int32} {fx : Nat → Int32} {tn : Nat → Int32} {mn : Int32} {oq : Nat → Int32} {pq : Nat → Int32} {fo : Nat → Int32} {ca : Nat → Int32} {hr : Int32} {fd : Int32} {hs : Nat} {a1 : Int32} {r : Int32} (hf : f_M_isUsed dk gg mp a1 = some (r)) : Met l y_M_isUsed ws_M_isUsed { frames := 2, cells := 0, slots := 0, locals := 43 } (PcU (dC, dI) clAll [(cI, .int), (cB, .byte), (cZ, .boolean)] (wM h cI cB cZ th nb dk lk fa pp gg jj qq mp fx tn mn oq pq fo ca hr fd) hs [.ref (h 0), .int a1]) (QUi (dC, dI) clAll [(cI, .int), (cB, .byte), (cZ, .boolean)] (wM h cI cB cZ th nb dk lk fa pp gg jj qq mp fx tn mn oq pq fo ca hr fd) (wM h cI cB cZ th nb dk lk fa pp gg jj qq mp fx tn mn oq pq fo ca hr fd) hs r) 0 0 (va_A (wM h cI cB cZ th nb dk lk fa pp gg jj qq mp fx tn mn oq pq fo ca hr fd) hs) := by
  refine mUz (cc := b_M_isUsed) (maxL := 2) (by decide) rfl (Nat.le_of_ble_eq_true rfl) ?_
  intro p e s m args below meth c Q hx hb hml hts hown A hA hK hP hD hS hret ls hl
  have htb : ∀ w ∈ TB, w.before args s = true := fun w h => hts w (List.mem_cons_of_mem _ h)
  have hl : lv_has ls 2 [(0, .ref (h 0)), (1, .int a1)] := hl
  unfold f_M_isUsed at hf
  refine lv_aload_n hx hb d_M_isUsed_0 rfl (lv_at hl 0 rfl) ?_
  refine lv_aload_n hx hb d_M_isUsed_1 rfl (lv_at hl 0 rfl) ?_
  refine va_get (D := (dC, dI)) (ci := 5) (v := .ref (h 2)) (C := R_M) (T := T_M) (N := 19) hx hb htb in_M hown hK hP 0 rfl rfl 9 (by decide) (htb _ tw_775) (fun _ h9 => h9) rfl d_M_isUsed_2 ?_
  refine lv_iload_n hx hb d_M_isUsed_5 rfl (lv_at hl 1 rfl) ?_
  refine lv_iconst (v := 1) hx hb d_M_isUsed_6 (by decide) ?_
  refine lv_isub hx hb d_M_isUsed_7 ?_
  refine lv_aload_n hx hb d_M_isUsed_8 rfl (lv_at hl 0 rfl) ?_
  refine va_get (D := (dC, dI)) (ci := 5) (v := .int gg) (C := R_M) (T := T_M) (N := 19) hx hb htb in_M hown hK hP 0 rfl rfl 6 (by decide) (htb _ tw_772) (fun _ h9 => h9) rfl d_M_isUsed_9 ?_
  obtain ⟨c_1, hf⟩ := gd_s hf
  refine lv_idiv hx hb d_M_isUsed_12 c_1 ?_
  obtain ⟨c_2, hf⟩ := gd_s hf
  refine va_iald (i := (a1 - ((1 : Int32))) / gg) hx hb hK hP 2 0 rfl rfl c_2 d_M_isUsed_13 ?_
  refine lv_iconst (v := 1) hx hb d_M_isUsed_14 (by decide) ?_
  refine lv_iadd hx hb d_M_isUsed_15 ?_
  refine lv_iload_n hx hb d_M_isUsed_16 rfl (lv_at hl 1 rfl) ?_
  refine lv_iconst (v := 1) hx hb d_M_isUsed_17 (by decide) ?_
  refine lv_isub hx hb d_M_isUsed_18 ?_
  refine lv_aload_n hx hb d_M_isUsed_19 rfl (lv_at hl 0 rfl) ?_
  refine va_get (D := (dC, dI)) (ci := 5) (v := .int gg) (C := R_M) (T := T_M) (N := 19) hx hb htb in_M hown hK hP 0 rfl rfl 6 (by decide) (htb _ tw_772) (fun _ h9 => h9) rfl d_M_isUsed_20 ?_
  obtain ⟨c_3, hf⟩ := gd_s hf
  refine lv_irem hx hb d_M_isUsed_23 c_3 ?_
  obtain ⟨r_4, hc_5, hf⟩ := bd1_s hf
  refine ucVi (As := [.int ((mp (Int32.toNatClampNeg ((a1 - ((1 : Int32))) / gg))) + ((1 : Int32))), .int ((a1 - ((1 : Int32))) - (a1 - ((1 : Int32))) / gg * gg)]) (rest := []) ⟨hx, hb, hml, hown, htb⟩ hK hP hD hS hA (fun hs => c_M_bit hc_5) (cwV 2 htb (gV tw_919 tw_921 tw_45 tw_74 tw_922) rfl rfl rfl (by decide +kernel) ⟨Nat.le_of_ble_eq_true rfl, Nat.le_of_ble_eq_true rfl⟩) 0 5 rfl rfl rfl rfl rfl hl.1 (Nat.le_of_ble_eq_true rfl) d_M_isUsed_24 ⟨Nat.zero_le _, Nat.zero_le _⟩ (fun H locs hP hD hS => ?_)
  obtain ⟨c_6, hf⟩ := gp_s hf
  cases hf
  exact hret _ _ _ _ c_6 hP hD hS d_M_isUsed_27
set_option maxHeartbeats 4000000 in
set_option maxRecDepth 100000 in
theorem c_M_typeOf {l : Launch} {dC : Nat → ClassId} {dI : Nat → Nat → Nat} {h : Nat → Nat} {cI : ClassId} {cB : ClassId} {cZ : ClassId} {th : Int32} {nb : Int32} {dk : Nat → Int32} {lk : Int32} {fa : Int32} {pp : Int32} {gg : Int32} {jj : Int32} {qq : Int32} {mp : Nat → Int32} {fx : Nat → Int32} {tn : Nat → Int32} {mn : Int32} {oq : Nat → Int32} {pq : Nat → Int32} {fo : Nat → Int32} {ca : Nat → Int32} {hr : Int32} {fd : Int32} {hs : Nat} {a1 : Int32} {r : Int32} (hf : f_M_typeOf dk gg mp a1 = some (r)) : Met l y_M_typeOf ws_M_typeOf { frames := 2, cells := 0, slots := 0, locals := 42 } (PcU (dC, dI) clAll [(cI, .int), (cB, .byte), (cZ, .boolean)] (wM h cI cB cZ th nb dk lk fa pp gg jj qq mp fx tn mn oq pq fo ca hr fd) hs [.ref (h 0), .int a1]) (QUi (dC, dI) clAll [(cI, .int), (cB, .byte), (cZ, .boolean)] (wM h cI cB cZ th nb dk lk fa pp gg jj qq mp fx tn mn oq pq fo ca hr fd) (wM h cI cB cZ th nb dk lk fa pp gg jj qq mp fx tn mn oq pq fo ca hr fd) hs r) 0 0 (va_A (wM h cI cB cZ th nb dk lk fa pp gg jj qq mp fx tn mn oq pq fo ca hr fd) hs) := by
  refine mUi (cc := b_M_typeOf) (maxL := 2) (by decide) rfl (Nat.le_of_ble_eq_true rfl) ?_
  intro p e s m args below meth c Q hx hb hml hts hown A hA hK hP hD hS hret ls hl
  have htb : ∀ w ∈ TB, w.before args s = true := fun w h => hts w (List.mem_cons_of_mem _ h)
  have hl : lv_has ls 2 [(0, .ref (h 0)), (1, .int a1)] := hl
  unfold f_M_typeOf at hf
  refine lv_aload_n hx hb d_M_typeOf_0 rfl (lv_at hl 0 rfl) ?_
  refine lv_aload_n hx hb d_M_typeOf_1 rfl (lv_at hl 0 rfl) ?_
  refine lv_iload_n hx hb d_M_typeOf_2 rfl (lv_at hl 1 rfl) ?_
  obtain ⟨r_1, hc_2, hf⟩ := bd1_s hf
  refine ucVi (As := [.int a1]) (rest := [.ref (h 0)]) ⟨hx, hb, hml, hown, htb⟩ hK hP hD hS hA (fun hs => c_M_inodeAt hc_2) (cwV 1 htb (gV tw_927 tw_929 tw_47 tw_74 tw_930) rfl rfl rfl (by decide +kernel) ⟨Nat.le_of_ble_eq_true rfl, Nat.le_of_ble_eq_true rfl⟩) 0 5 rfl rfl rfl rfl rfl hl.1 (Nat.le_of_ble_eq_true rfl) d_M_typeOf_3 ⟨Nat.zero_le _, Nat.zero_le _⟩ (fun H locs hP hD hS => ?_)
  obtain ⟨r_3, hc_4, hf⟩ := bd1_s hf
  refine ucVi (As := [.int r_1]) (rest := []) ⟨hx, hb, hml, hown, htb⟩ hK hP hD hS hA (fun hs => c_M_two hc_4) (cwV 1 htb (gV tw_878 tw_880 tw_37 tw_74 tw_881) rfl rfl rfl (by decide +kernel) ⟨Nat.le_of_ble_eq_true rfl, Nat.le_of_ble_eq_true rfl⟩) 0 5 rfl rfl rfl rfl rfl hl.1 (Nat.le_of_ble_eq_true rfl) d_M_typeOf_6 ⟨Nat.zero_le _, Nat.zero_le _⟩ (fun H locs hP hD hS => ?_)
  refine lv_ldc (v := 61440) hx hb hown (htb _ tw_931) d_M_typeOf_9 ?_
  refine lv_iand hx hb d_M_typeOf_11 ?_
  cases hf
  exact hret _ _ _ _ hP hD hS d_M_typeOf_12
set_option maxHeartbeats 4000000 in
set_option maxRecDepth 100000 in
theorem c_M_sizeOfInode {l : Launch} {dC : Nat → ClassId} {dI : Nat → Nat → Nat} {h : Nat → Nat} {cI : ClassId} {cB : ClassId} {cZ : ClassId} {th : Int32} {nb : Int32} {dk : Nat → Int32} {lk : Int32} {fa : Int32} {pp : Int32} {gg : Int32} {jj : Int32} {qq : Int32} {mp : Nat → Int32} {fx : Nat → Int32} {tn : Nat → Int32} {mn : Int32} {oq : Nat → Int32} {pq : Nat → Int32} {fo : Nat → Int32} {ca : Nat → Int32} {hr : Int32} {fd : Int32} {hs : Nat} {a1 : Int32} {r : Int64} (hf : f_M_sizeOfInode dk gg mp a1 = some (r)) : Met l y_M_sizeOfInode ws_M_sizeOfInode { frames := 3, cells := 0, slots := 0, locals := 63 } (PcU (dC, dI) clAll [(cI, .int), (cB, .byte), (cZ, .boolean)] (wM h cI cB cZ th nb dk lk fa pp gg jj qq mp fx tn mn oq pq fo ca hr fd) hs [.ref (h 0), .int a1]) (QUl (dC, dI) clAll [(cI, .int), (cB, .byte), (cZ, .boolean)] (wM h cI cB cZ th nb dk lk fa pp gg jj qq mp fx tn mn oq pq fo ca hr fd) (wM h cI cB cZ th nb dk lk fa pp gg jj qq mp fx tn mn oq pq fo ca hr fd) hs r) 0 0 (va_A (wM h cI cB cZ th nb dk lk fa pp gg jj qq mp fx tn mn oq pq fo ca hr fd) hs) := by
  refine mUl (cc := b_M_sizeOfInode) (maxL := 2) (by decide) rfl (Nat.le_of_ble_eq_true rfl) ?_
  intro p e s m args below meth c Q hx hb hml hts hown A hA hK hP hD hS hret ls hl
  have htb : ∀ w ∈ TB, w.before args s = true := fun w h => hts w (List.mem_cons_of_mem _ h)
  have hl : lv_has ls 2 [(0, .ref (h 0)), (1, .int a1)] := hl
  unfold f_M_sizeOfInode at hf
  refine lv_aload_n hx hb d_M_sizeOfInode_0 rfl (lv_at hl 0 rfl) ?_
  refine lv_aload_n hx hb d_M_sizeOfInode_1 rfl (lv_at hl 0 rfl) ?_
  refine lv_iload_n hx hb d_M_sizeOfInode_2 rfl (lv_at hl 1 rfl) ?_
  obtain ⟨r_1, hc_2, hf⟩ := bd1_s hf
  refine ucVi (As := [.int a1]) (rest := [.ref (h 0)]) ⟨hx, hb, hml, hown, htb⟩ hK hP hD hS hA (fun hs => c_M_inodeAt hc_2) (cwV 1 htb (gV tw_927 tw_929 tw_47 tw_74 tw_930) rfl rfl rfl (by decide +kernel) ⟨Nat.le_of_ble_eq_true rfl, Nat.le_of_ble_eq_true rfl⟩) 0 5 rfl rfl rfl rfl rfl hl.1 (Nat.le_of_ble_eq_true rfl) d_M_sizeOfInode_3 ⟨Nat.zero_le _, Nat.zero_le _⟩ (fun H locs hP hD hS => ?_)
  refine lv_iconst (v := 4) hx hb d_M_sizeOfInode_6 (by decide) ?_
  refine lv_iadd hx hb d_M_sizeOfInode_7 ?_
  obtain ⟨r_3, hc_4, hf⟩ := bd1_s hf
  refine ucVl (As := [.int (r_1 + ((4 : Int32)))]) (rest := []) ⟨hx, hb, hml, hown, htb⟩ hK hP hD hS hA (fun hs => c_M_four hc_4) (cwV 1 htb (gV tw_874 tw_876 tw_36 tw_74 tw_877) rfl rfl rfl (by decide +kernel) ⟨Nat.le_of_ble_eq_true rfl, Nat.le_of_ble_eq_true rfl⟩) 0 5 rfl rfl rfl rfl rfl hl.1 (Nat.le_of_ble_eq_true rfl) d_M_sizeOfInode_8 ⟨Nat.zero_le _, Nat.zero_le _⟩ (fun H locs hP hD hS => ?_)
  cases hf
  exact hret _ _ _ _ hP hD hS d_M_sizeOfInode_11
set_option maxHeartbeats 4000000 in
set_option maxRecDepth 100000 in
theorem c_M_pointer {l : Launch} {dC : Nat → ClassId} {dI : Nat → Nat → Nat} {h : Nat → Nat} {cI : ClassId} {cB : ClassId} {cZ : ClassId} {th : Int32} {nb : Int32} {dk : Nat → Int32} {lk : Int32} {fa : Int32} {pp : Int32} {gg : Int32} {jj : Int32} {qq : Int32} {mp : Nat → Int32} {fx : Nat → Int32} {tn : Nat → Int32} {mn : Int32} {oq : Nat → Int32} {pq : Nat → Int32} {fo : Nat → Int32} {ca : Nat → Int32} {hr : Int32} {fd : Int32} {hs : Nat} {a1 : Int32} {a2 : Int32} {r : Int64} (hf : f_M_pointer dk gg mp a1 a2 = some (r)) : Met l y_M_pointer ws_M_pointer { frames := 3, cells := 0, slots := 0, locals := 63 } (PcU (dC, dI) clAll [(cI, .int), (cB, .byte), (cZ, .boolean)] (wM h cI cB cZ th nb dk lk fa pp gg jj qq mp fx tn mn oq pq fo ca hr fd) hs [.ref (h 0), .int a1, .int a2]) (QUl (dC, dI) clAll [(cI, .int), (cB, .byte), (cZ, .boolean)] (wM h cI cB cZ th nb dk lk fa pp gg jj qq mp fx tn mn oq pq fo ca hr fd) (wM h cI cB cZ th nb dk lk fa pp gg jj qq mp fx tn mn oq pq fo ca hr fd) hs r) 0 0 (va_A (wM h cI cB cZ th nb dk lk fa pp gg jj qq mp fx tn mn oq pq fo ca hr fd) hs) := by
  refine mUl (cc := b_M_pointer) (maxL := 3) (by decide) rfl (Nat.le_of_ble_eq_true rfl) ?_
  intro p e s m args below meth c Q hx hb hml hts hown A hA hK hP hD hS hret ls hl
  have htb : ∀ w ∈ TB, w.before args s = true := fun w h => hts w (List.mem_cons_of_mem _ h)
  have hl : lv_has ls 3 [(0, .ref (h 0)), (1, .int a1), (2, .int a2)] := hl
  unfold f_M_pointer at hf
  refine lv_aload_n hx hb d_M_pointer_0 rfl (lv_at hl 0 rfl) ?_
  refine lv_aload_n hx hb d_M_pointer_1 rfl (lv_at hl 0 rfl) ?_
  refine lv_iload_n hx hb d_M_pointer_2 rfl (lv_at hl 1 rfl) ?_
  obtain ⟨r_1, hc_2, hf⟩ := bd1_s hf
  refine ucVi (As := [.int a1]) (rest := [.ref (h 0)]) ⟨hx, hb, hml, hown, htb⟩ hK hP hD hS hA (fun hs => c_M_inodeAt hc_2) (cwV 1 htb (gV tw_927 tw_929 tw_47 tw_74 tw_930) rfl rfl rfl (by decide +kernel) ⟨Nat.le_of_ble_eq_true rfl, Nat.le_of_ble_eq_true rfl⟩) 0 5 rfl rfl rfl rfl rfl hl.1 (Nat.le_of_ble_eq_true rfl) d_M_pointer_3 ⟨Nat.zero_le _, Nat.zero_le _⟩ (fun H locs hP hD hS => ?_)
  refine lv_bipush (v := 40) hx hb d_M_pointer_6 (by decide) ?_
  refine lv_iadd hx hb d_M_pointer_8 ?_
  refine lv_iconst (v := 4) hx hb d_M_pointer_9 (by decide) ?_
  refine lv_iload_n hx hb d_M_pointer_10 rfl (lv_at hl 2 rfl) ?_
  refine lv_imul hx hb d_M_pointer_11 ?_
  refine lv_iadd hx hb d_M_pointer_12 ?_
  obtain ⟨r_3, hc_4, hf⟩ := bd1_s hf
  refine ucVl (As := [.int ((r_1 + ((40 : Int32))) + (((4 : Int32)) * a2))]) (rest := []) ⟨hx, hb, hml, hown, htb⟩ hK hP hD hS hA (fun hs => c_M_four hc_4) (cwV 1 htb (gV tw_874 tw_876 tw_36 tw_74 tw_877) rfl rfl rfl (by decide +kernel) ⟨Nat.le_of_ble_eq_true rfl, Nat.le_of_ble_eq_true rfl⟩) 0 5 rfl rfl rfl rfl rfl hl.1 (Nat.le_of_ble_eq_true rfl) d_M_pointer_13 ⟨Nat.zero_le _, Nat.zero_le _⟩ (fun H locs hP hD hS => ?_)
  cases hf
  exact hret _ _ _ _ hP hD hS d_M_pointer_16
set_option maxHeartbeats 4000000 in
set_option maxRecDepth 100000 in
theorem c_M_parts {l : Launch} {dC : Nat → ClassId} {dI : Nat → Nat → Nat} {h : Nat → Nat} {cI : ClassId} {cB : ClassId} {cZ : ClassId} {th : Int32} {nb : Int32} {dk : Nat → Int32} {lk : Int32} {fa : Int32} {pp : Int32} {gg : Int32} {jj : Int32} {qq : Int32} {mp : Nat → Int32} {fx : Nat → Int32} {tn : Nat → Int32} {mn : Int32} {oq : Nat → Int32} {pq : Nat → Int32} {fo : Nat → Int32} {ca : Nat → Int32} {hr : Int32} {fd : Int32} {hs : Nat} {a0 : Int32} {a1 : Int32} {r : Int32} (hf : f_M_parts a0 a1 = some (r)) : Met l y_M_parts ws_M_parts { frames := 0, cells := 0, slots := 0, locals := 0 } (PcU (dC, dI) clAll [(cI, .int), (cB, .byte), (cZ, .boolean)] (wM h cI cB cZ th nb dk lk fa pp gg jj qq mp fx tn mn oq pq fo ca hr fd) hs [.int a0, .int a1]) (QUi (dC, dI) clAll [(cI, .int), (cB, .byte), (cZ, .boolean)] (wM h cI cB cZ th nb dk lk fa pp gg jj qq mp fx tn mn oq pq fo ca hr fd) (wM h cI cB cZ th nb dk lk fa pp gg jj qq mp fx tn mn oq pq fo ca hr fd) hs r) 0 0 (va_A (wM h cI cB cZ th nb dk lk fa pp gg jj qq mp fx tn mn oq pq fo ca hr fd) hs) := by
  refine mUi (cc := b_M_parts) (maxL := 2) (by decide) rfl (Nat.le_of_ble_eq_true rfl) ?_
  intro p e s m args below meth c Q hx hb hml hts hown A hA hK hP hD hS hret ls hl
  have htb : ∀ w ∈ TB, w.before args s = true := fun w h => hts w (List.mem_cons_of_mem _ h)
  have hl : lv_has ls 2 [(0, .int a0), (1, .int a1)] := hl
  unfold f_M_parts at hf
  refine lv_iload_n hx hb d_M_parts_0 rfl (lv_at hl 0 rfl) ?_
  refine lv_iload_n hx hb d_M_parts_1 rfl (lv_at hl 1 rfl) ?_
  refine lv_iadd hx hb d_M_parts_2 ?_
  refine lv_iconst (v := 1) hx hb d_M_parts_3 (by decide) ?_
  refine lv_isub hx hb d_M_parts_4 ?_
  refine lv_iload_n hx hb d_M_parts_5 rfl (lv_at hl 1 rfl) ?_
  obtain ⟨c_1, hf⟩ := gd_s hf
  refine lv_idiv hx hb d_M_parts_6 c_1 ?_
  cases hf
  exact hret _ _ _ _ hP hD hS d_M_parts_7
set_option maxHeartbeats 4000000 in
set_option maxRecDepth 100000 in
theorem c_M_takes {l : Launch} {dC : Nat → ClassId} {dI : Nat → Nat → Nat} {h : Nat → Nat} {cI : ClassId} {cB : ClassId} {cZ : ClassId} {th : Int32} {nb : Int32} {dk : Nat → Int32} {lk : Int32} {fa : Int32} {pp : Int32} {gg : Int32} {jj : Int32} {qq : Int32} {mp : Nat → Int32} {fx : Nat → Int32} {tn : Nat → Int32} {mn : Int32} {oq : Nat → Int32} {pq : Nat → Int32} {fo : Nat → Int32} {ca : Nat → Int32} {hr : Int32} {fd : Int32} {hs : Nat} {a1 : Int64} {r : Int32} {tn' : Nat → Int32} (hf : f_M_takes nb fx tn a1 = some (r, tn')) : Met l y_M_takes ws_M_takes { frames := 0, cells := 0, slots := 0, locals := 0 } (PcU (dC, dI) clAll [(cI, .int), (cB, .byte), (cZ, .boolean)] (wM h cI cB cZ th nb dk lk fa pp gg jj qq mp fx tn mn oq pq fo ca hr fd) hs [.ref (h 0), .long a1]) (QUi (dC, dI) clAll [(cI, .int), (cB, .byte), (cZ, .boolean)] (wM h cI cB cZ th nb dk lk fa pp gg jj qq mp fx tn mn oq pq fo ca hr fd) (wM h cI cB cZ th nb dk lk fa pp gg jj qq mp fx tn' mn oq pq fo ca hr fd) hs r) 0 0 (va_A (wM h cI cB cZ th nb dk lk fa pp gg jj qq mp fx tn mn oq pq fo ca hr fd) hs) := by
  refine mUz (cc := b_M_takes) (maxL := 3) (by decide) rfl (Nat.le_of_ble_eq_true rfl) ?_
  intro p e s m args below meth c Q hx hb hml hts hown A hA hK hP hD hS hret ls hl
  have htb : ∀ w ∈ TB, w.before args s = true := fun w h => hts w (List.mem_cons_of_mem _ h)
  have hl : lv_has ls 3 [(0, .ref (h 0)), (1, .long a1)] := hl
  unfold f_M_takes at hf
  refine lv_lload_n hx hb d_M_takes_0 rfl (lv_at hl 1 rfl) ?_
  refine lv_lconst (v := 1) hx hb d_M_takes_1 (by decide) ?_
  refine lc_lt (tgt := 36) hx hb d_M_takes_2 d_M_takes_3 (by decide) (fun c_1 => ?_) (fun c_1 => ?_)
  · have hf := ite_t c_1 hf
    refine lv_iconst (v := 0) hx hb d_M_takes_36 (by decide) ?_
    cases hf
    exact hret _ _ _ _ (Or.inl rfl) hP hD hS d_M_takes_37
  · have hf := ite_f c_1 hf
    refine lv_lload_n hx hb d_M_takes_6 rfl (lv_at hl 1 rfl) ?_
    refine lv_aload_n hx hb d_M_takes_7 rfl (lv_at hl 0 rfl) ?_
    refine va_get (D := (dC, dI)) (ci := 5) (v := .int nb) (C := R_M) (T := T_M) (N := 19) hx hb htb in_M hown hK hP 0 rfl rfl 1 (by decide) (htb _ tw_767) (fun _ h9 => h9) rfl d_M_takes_8 ?_
    refine lv_i2l hx hb d_M_takes_11 rfl ?_
    refine lc_ge (tgt := 36) hx hb d_M_takes_12 d_M_takes_13 (by decide) (fun c_2 => ?_) (fun c_2 => ?_)
    · have hf := ite_t c_2 hf
      refine lv_iconst (v := 0) hx hb d_M_takes_36 (by decide) ?_
      cases hf
      exact hret _ _ _ _ (Or.inl rfl) hP hD hS d_M_takes_37
    · have hf := ite_f c_2 hf
      refine lv_aload_n hx hb d_M_takes_16 rfl (lv_at hl 0 rfl) ?_
      refine va_get (D := (dC, dI)) (ci := 5) (v := .ref (h 3)) (C := R_M) (T := T_M) (N := 19) hx hb htb in_M hown hK hP 0 rfl rfl 10 (by decide) (htb _ tw_776) (fun _ h9 => h9) rfl d_M_takes_17 ?_
      refine lv_lload_n hx hb d_M_takes_20 rfl (lv_at hl 1 rfl) ?_
      refine lv_l2i hx hb d_M_takes_21 rfl ?_
      obtain ⟨c_3, hf⟩ := gd_s hf
      refine va_zald (i := Int64.toInt32 a1) hx hb hK hP 3 2 rfl rfl c_3 d_M_takes_22 ?_
      refine lv_if_ne (tgt := 36) hx hb d_M_takes_23 (by decide) (fun c_4 => ?_) (fun c_4 => ?_)
      · have hf := ite_f c_4 hf
        refine lv_iconst (v := 0) hx hb d_M_takes_36 (by decide) ?_
        cases hf
        exact hret _ _ _ _ (Or.inl rfl) hP hD hS d_M_takes_37
      · have hf := ite_t c_4 hf
        refine lv_aload_n hx hb d_M_takes_26 rfl (lv_at hl 0 rfl) ?_
        refine va_get (D := (dC, dI)) (ci := 5) (v := .ref (h 4)) (C := R_M) (T := T_M) (N := 19) hx hb htb in_M hown hK hP 0 rfl rfl 11 (by decide) (htb _ tw_777) (fun _ h9 => h9) rfl d_M_takes_27 ?_
        refine lv_lload_n hx hb d_M_takes_30 rfl (lv_at hl 1 rfl) ?_
        refine lv_l2i hx hb d_M_takes_31 rfl ?_
        obtain ⟨c_5, hf⟩ := gd_s hf
        refine va_zald (i := Int64.toInt32 a1) hx hb hK hP 4 2 rfl rfl c_5 d_M_takes_32 ?_
        refine lv_if_eq (tgt := 38) hx hb d_M_takes_33 (by decide) (fun c_6 => ?_) (fun c_6 => ?_)
        · have hf := ite_t c_6 hf
          refine lv_aload_n hx hb d_M_takes_38 rfl (lv_at hl 0 rfl) ?_
          refine va_get (D := (dC, dI)) (ci := 5) (v := .ref (h 4)) (C := R_M) (T := T_M) (N := 19) hx hb htb in_M hown hK hP 0 rfl rfl 11 (by decide) (htb _ tw_777) (fun _ h9 => h9) rfl d_M_takes_39 ?_
          refine lv_lload_n hx hb d_M_takes_42 rfl (lv_at hl 1 rfl) ?_
          refine lv_l2i hx hb d_M_takes_43 rfl ?_
          refine lv_iconst (v := 1) hx hb d_M_takes_44 (by decide) ?_
          obtain ⟨c_7, hf⟩ := gd_s hf
          refine va_zast (i := Int64.toInt32 a1) (x := (1 : Int32)) hx hb hK hP hD hS 4 2 rfl rfl c_7 d_M_takes_45 (fun H locs hP hD hS => ?_)
          obtain ⟨tn_8, etn_8, hf⟩ := lt1_s hf
          have hP : va_P (dC, dI) clAll (wM h cI cB cZ th nb dk lk fa pp gg jj qq mp fx tn_8 mn oq pq fo ca hr fd) H := etn_8 ▸ hP
          have hD : va_D A (wM h cI cB cZ th nb dk lk fa pp gg jj qq mp fx tn_8 mn oq pq fo ca hr fd) := etn_8 ▸ hD
          refine lv_iconst (v := 1) hx hb d_M_takes_46 (by decide) ?_
          cases hf
          exact hret _ _ _ _ (Or.inr rfl) hP hD hS d_M_takes_47
        · have hf := ite_f c_6 hf
          refine lv_iconst (v := 0) hx hb d_M_takes_36 (by decide) ?_
          cases hf
          exact hret _ _ _ _ (Or.inl rfl) hP hD hS d_M_takes_37
set_option maxHeartbeats 4000000 in
set_option maxRecDepth 100000 in
theorem c_M_blockOf {l : Launch} {dC : Nat → ClassId} {dI : Nat → Nat → Nat} {h : Nat → Nat} {cI : ClassId} {cB : ClassId} {cZ : ClassId} {th : Int32} {nb : Int32} {dk : Nat → Int32} {lk : Int32} {fa : Int32} {pp : Int32} {gg : Int32} {jj : Int32} {qq : Int32} {mp : Nat → Int32} {fx : Nat → Int32} {tn : Nat → Int32} {mn : Int32} {oq : Nat → Int32} {pq : Nat → Int32} {fo : Nat → Int32} {ca : Nat → Int32} {hr : Int32} {fd : Int32} {hs : Nat} {a1 : Int32} {a2 : Int32} {r : Int64} (hf : f_M_blockOf dk gg mp a1 a2 = some (r)) : Met l y_M_blockOf ws_M_blockOf { frames := 4, cells := 0, slots := 0, locals := 85 } (PcU (dC, dI) clAll [(cI, .int), (cB, .byte), (cZ, .boolean)] (wM h cI cB cZ th nb dk lk fa pp gg jj qq mp fx tn mn oq pq fo ca hr fd) hs [.ref (h 0), .int a1, .int a2]) (QUl (dC, dI) clAll [(cI, .int), (cB, .byte), (cZ, .boolean)] (wM h cI cB cZ th nb dk lk fa pp gg jj qq mp fx tn mn oq pq fo ca hr fd) (wM h cI cB cZ th nb dk lk fa pp gg jj qq mp fx tn mn oq pq fo ca hr fd) hs r) 0 0 (va_A (wM h cI cB cZ th nb dk lk fa pp gg jj qq mp fx tn mn oq pq fo ca hr fd) hs) := by
  refine mUl (cc := b_M_blockOf) (maxL := 4) (by decide) rfl (Nat.le_of_ble_eq_true rfl) ?_
  intro p e s m args below meth c Q hx hb hml hts hown A hA hK hP hD hS hret ls hl
  have htb : ∀ w ∈ TB, w.before args s = true := fun w h => hts w (List.mem_cons_of_mem _ h)
  have hl : lv_has ls 4 [(0, .ref (h 0)), (1, .int a1), (2, .int a2)] := hl
  unfold f_M_blockOf at hf
  refine lv_iload_n hx hb d_M_blockOf_0 rfl (lv_at hl 2 rfl) ?_
  refine lv_bipush (v := 12) hx hb d_M_blockOf_1 (by decide) ?_
  refine lv_icmp_ge (tgt := 13) hx hb d_M_blockOf_3 (by decide) (fun c_1 => ?_) (fun c_1 => ?_)
  · have hf := ite_t c_1 hf
    refine lv_iload_n hx hb d_M_blockOf_13 rfl (lv_at hl 2 rfl) ?_
    refine lv_sipush (v := 268) hx hb d_M_blockOf_14 (by decide) ?_
    refine lv_icmp_ge (tgt := 44) hx hb d_M_blockOf_17 (by decide) (fun c_2 => ?_) (fun c_2 => ?_)
    · have hf := ite_t c_2 hf
      refine lv_aload_n hx hb d_M_blockOf_44 rfl (lv_at hl 0 rfl) ?_
      refine lv_sipush (v := 1024) hx hb d_M_blockOf_45 (by decide) ?_
      refine lv_aload_n hx hb d_M_blockOf_48 rfl (lv_at hl 0 rfl) ?_
      refine lv_iload_n hx hb d_M_blockOf_49 rfl (lv_at hl 1 rfl) ?_
      refine lv_bipush (v := 13) hx hb d_M_blockOf_50 (by decide) ?_
      obtain ⟨r_3, hc_4, hf⟩ := bd1_s hf
      refine ucVl (As := [.int a1, .int ((13 : Int32))]) (rest := [.int ((1024 : Int32)), .ref (h 0)]) ⟨hx, hb, hml, hown, htb⟩ hK hP hD hS hA (fun hs => c_M_pointer hc_4) (cwV 2 htb (gV tw_943 tw_945 tw_50 tw_74 tw_946) rfl rfl rfl (by decide +kernel) ⟨Nat.le_of_ble_eq_true rfl, Nat.le_of_ble_eq_true rfl⟩) 0 5 rfl rfl rfl rfl rfl hl.1 (Nat.le_of_ble_eq_true rfl) d_M_blockOf_52 ⟨Nat.zero_le _, Nat.zero_le _⟩ (fun H locs hP hD hS => ?_)
      refine lv_l2i hx hb d_M_blockOf_55 rfl ?_
      refine lv_imul hx hb d_M_blockOf_56 ?_
      refine lv_iconst (v := 4) hx hb d_M_blockOf_57 (by decide) ?_
      refine lv_iload_n hx hb d_M_blockOf_58 rfl (lv_at hl 2 rfl) ?_
      refine lv_sipush (v := 268) hx hb d_M_blockOf_59 (by decide) ?_
      refine lv_isub hx hb d_M_blockOf_62 ?_
      refine lv_sipush (v := 256) hx hb d_M_blockOf_63 (by decide) ?_
      refine lv_idiv hx hb d_M_blockOf_66 (by decide) ?_
      refine lv_imul hx hb d_M_blockOf_67 ?_
      refine lv_iadd hx hb d_M_blockOf_68 ?_
      obtain ⟨r_5, hc_6, hf⟩ := bd1_s hf
      refine ucVl (As := [.int ((((1024 : Int32)) * (Int64.toInt32 r_3)) + (((4 : Int32)) * ((a2 - ((268 : Int32))) / ((256 : Int32)))))]) (rest := []) ⟨hx, hb, hml, hown, htb⟩ hK hP hD hS hA (fun hs => c_M_four hc_6) (cwV 1 htb (gV tw_874 tw_876 tw_36 tw_74 tw_877) rfl rfl rfl (by decide +kernel) ⟨Nat.le_of_ble_eq_true rfl, Nat.le_of_ble_eq_true rfl⟩) 0 5 rfl rfl rfl rfl rfl hl.1 (Nat.le_of_ble_eq_true rfl) d_M_blockOf_69 ⟨Nat.zero_le _, Nat.zero_le _⟩ (fun H locs hP hD hS => ?_)
      refine lv_l2i hx hb d_M_blockOf_72 rfl ?_
      obtain ⟨v3_7, ev3_7, hf⟩ := lt1_s hf
      refine lv_eqi ev3_7 ?_
      refine lv_istore_n (lv' := [(3, .int v3_7), (0, .ref (h 0)), (1, .int a1), (2, .int a2)]) hx hb d_M_blockOf_73 rfl hl (by decide) rfl (fun ls hl => ?_)
      refine lv_aload_n hx hb d_M_blockOf_74 rfl (lv_at hl 1 rfl) ?_
      refine lv_sipush (v := 1024) hx hb d_M_blockOf_75 (by decide) ?_
      refine lv_iload_n hx hb d_M_blockOf_78 rfl (lv_at hl 0 rfl) ?_
      refine lv_imul hx hb d_M_blockOf_79 ?_
      refine lv_iconst (v := 4) hx hb d_M_blockOf_80 (by decide) ?_
      refine lv_iload_n hx hb d_M_blockOf_81 rfl (lv_at hl 3 rfl) ?_
      refine lv_sipush (v := 268) hx hb d_M_blockOf_82 (by decide) ?_
      refine lv_isub hx hb d_M_blockOf_85 ?_
      refine lv_sipush (v := 256) hx hb d_M_blockOf_86 (by decide) ?_
      refine lv_irem hx hb d_M_blockOf_89 (by decide) ?_
      refine lv_imul hx hb d_M_blockOf_90 ?_
      refine lv_iadd hx hb d_M_blockOf_91 ?_
      obtain ⟨r_8, hc_9, hf⟩ := bd1_s hf
      refine ucVl (As := [.int ((((1024 : Int32)) * v3_7) + (((4 : Int32)) * ((a2 - ((268 : Int32))) - (a2 - ((268 : Int32))) / ((256 : Int32)) * ((256 : Int32)))))]) (rest := []) ⟨hx, hb, hml, hown, htb⟩ hK hP hD hS hA (fun hs => c_M_four hc_9) (cwV 1 htb (gV tw_874 tw_876 tw_36 tw_74 tw_877) rfl rfl rfl (by decide +kernel) ⟨Nat.le_of_ble_eq_true rfl, Nat.le_of_ble_eq_true rfl⟩) 0 5 rfl rfl rfl rfl rfl hl.1 (Nat.le_of_ble_eq_true rfl) d_M_blockOf_92 ⟨Nat.zero_le _, Nat.zero_le _⟩ (fun H locs hP hD hS => ?_)
      cases hf
      exact hret _ _ _ _ hP hD hS d_M_blockOf_95
    · have hf := ite_f c_2 hf
      refine lv_aload_n hx hb d_M_blockOf_20 rfl (lv_at hl 0 rfl) ?_
      refine lv_sipush (v := 1024) hx hb d_M_blockOf_21 (by decide) ?_
      refine lv_aload_n hx hb d_M_blockOf_24 rfl (lv_at hl 0 rfl) ?_
      refine lv_iload_n hx hb d_M_blockOf_25 rfl (lv_at hl 1 rfl) ?_
      refine lv_bipush (v := 12) hx hb d_M_blockOf_26 (by decide) ?_
      obtain ⟨r_10, hc_11, hf⟩ := bd1_s hf
      refine ucVl (As := [.int a1, .int ((12 : Int32))]) (rest := [.int ((1024 : Int32)), .ref (h 0)]) ⟨hx, hb, hml, hown, htb⟩ hK hP hD hS hA (fun hs => c_M_pointer hc_11) (cwV 2 htb (gV tw_943 tw_945 tw_50 tw_74 tw_946) rfl rfl rfl (by decide +kernel) ⟨Nat.le_of_ble_eq_true rfl, Nat.le_of_ble_eq_true rfl⟩) 0 5 rfl rfl rfl rfl rfl hl.1 (Nat.le_of_ble_eq_true rfl) d_M_blockOf_28 ⟨Nat.zero_le _, Nat.zero_le _⟩ (fun H locs hP hD hS => ?_)
      refine lv_l2i hx hb d_M_blockOf_31 rfl ?_
      refine lv_imul hx hb d_M_blockOf_32 ?_
      refine lv_iconst (v := 4) hx hb d_M_blockOf_33 (by decide) ?_
      refine lv_iload_n hx hb d_M_blockOf_34 rfl (lv_at hl 2 rfl) ?_
      refine lv_bipush (v := 12) hx hb d_M_blockOf_35 (by decide) ?_
      refine lv_isub hx hb d_M_blockOf_37 ?_
      refine lv_imul hx hb d_M_blockOf_38 ?_
      refine lv_iadd hx hb d_M_blockOf_39 ?_
      obtain ⟨r_12, hc_13, hf⟩ := bd1_s hf
      refine ucVl (As := [.int ((((1024 : Int32)) * (Int64.toInt32 r_10)) + (((4 : Int32)) * (a2 - ((12 : Int32)))))]) (rest := []) ⟨hx, hb, hml, hown, htb⟩ hK hP hD hS hA (fun hs => c_M_four hc_13) (cwV 1 htb (gV tw_874 tw_876 tw_36 tw_74 tw_877) rfl rfl rfl (by decide +kernel) ⟨Nat.le_of_ble_eq_true rfl, Nat.le_of_ble_eq_true rfl⟩) 0 5 rfl rfl rfl rfl rfl hl.1 (Nat.le_of_ble_eq_true rfl) d_M_blockOf_40 ⟨Nat.zero_le _, Nat.zero_le _⟩ (fun H locs hP hD hS => ?_)
      cases hf
      exact hret _ _ _ _ hP hD hS d_M_blockOf_43
  · have hf := ite_f c_1 hf
    refine lv_aload_n hx hb d_M_blockOf_6 rfl (lv_at hl 0 rfl) ?_
    refine lv_iload_n hx hb d_M_blockOf_7 rfl (lv_at hl 1 rfl) ?_
    refine lv_iload_n hx hb d_M_blockOf_8 rfl (lv_at hl 2 rfl) ?_
    obtain ⟨r_14, hc_15, hf⟩ := bd1_s hf
    refine ucVl (As := [.int a1, .int a2]) (rest := []) ⟨hx, hb, hml, hown, htb⟩ hK hP hD hS hA (fun hs => c_M_pointer hc_15) (cwV 2 htb (gV tw_943 tw_945 tw_50 tw_74 tw_946) rfl rfl rfl (by decide +kernel) ⟨Nat.le_of_ble_eq_true rfl, Nat.le_of_ble_eq_true rfl⟩) 0 5 rfl rfl rfl rfl rfl hl.1 (Nat.le_of_ble_eq_true rfl) d_M_blockOf_9 ⟨Nat.zero_le _, Nat.zero_le _⟩ (fun H locs hP hD hS => ?_)
    cases hf
    exact hret _ _ _ _ hP hD hS d_M_blockOf_12
set_option maxHeartbeats 4000000 in
set_option maxRecDepth 100000 in
theorem c_M_isWhole {l : Launch} {dC : Nat → ClassId} {dI : Nat → Nat → Nat} {N : Nat} {h : Nat → Nat} {cI : ClassId} {cB : ClassId} {cZ : ClassId} {th : Int32} {nb : Int32} {dk : Nat → Int32} {lk : Int32} {fa : Int32} {pp : Int32} {gg : Int32} {jj : Int32} {qq : Int32} {mp : Nat → Int32} {fx : Nat → Int32} {tn : Nat → Int32} {mn : Int32} {oq : Nat → Int32} {pq : Nat → Int32} {fo : Nat → Int32} {ca : Nat → Int32} {hr : Int32} {fd : Int32} {hs : Nat} {a1 : Int32} {r : Int32} {tn' : Nat → Int32} (hf : f_M_isWhole N nb dk gg mp fx tn a1 = some (r, tn')) : Met l y_M_isWhole ws_M_isWhole { frames := 5, cells := 0, slots := 0, locals := 108 } (PcU (dC, dI) clAll [(cI, .int), (cB, .byte), (cZ, .boolean)] (wM h cI cB cZ th nb dk lk fa pp gg jj qq mp fx tn mn oq pq fo ca hr fd) hs [.ref (h 0), .int a1]) (QUi (dC, dI) clAll [(cI, .int), (cB, .byte), (cZ, .boolean)] (wM h cI cB cZ th nb dk lk fa pp gg jj qq mp fx tn mn oq pq fo ca hr fd) (wM h cI cB cZ th nb dk lk fa pp gg jj qq mp fx tn' mn oq pq fo ca hr fd) hs r) 0 0 (va_A (wM h cI cB cZ th nb dk lk fa pp gg jj qq mp fx tn mn oq pq fo ca hr fd) hs) := by
  refine mUz (cc := b_M_isWhole) (maxL := 7) (by decide) rfl (Nat.le_of_ble_eq_true rfl) ?_
  intro p e s m args below meth c Q hx hb hml hts hown A hA hK hP hD hS hret ls hl
  have htb : ∀ w ∈ TB, w.before args s = true := fun w h => hts w (List.mem_cons_of_mem _ h)
  have hl : lv_has ls 7 [(0, .ref (h 0)), (1, .int a1)] := hl
  have hj_313 : ∀ (k_313 : Nat) (tn : Nat → Int32) (x1 : Int32) (x2 : Int32) (x5 : Int32) (x6 : Int32) (H : Heap) (locs : List Loc) (ls : Array Slot), f_M_isWhole_313 N nb dk gg mp fx k_313 tn x1 x2 x5 x6 = some (r, tn') → va_P (dC, dI) clAll (wM h cI cB cZ th nb dk lk fa pp gg jj qq mp fx tn mn oq pq fo ca hr fd) H → va_D A (wM h cI cB cZ th nb dk lk fa pp gg jj qq mp fx tn mn oq pq fo ca hr fd) → va_S A s.heap H locs → lv_has ls 7 [(0, .ref (h 0)), (1, .int x1), (2, .int x2), (5, .int x5), (6, .int x6)] → W p l e (headSpec ws_M_isWhole { frames := 5, cells := 0, slots := 0, locals := 108 }).room s m args below meth c H locs 0 0 Q (F0 m 313 ls []) := by
    intro k_313
    induction k_313 with
    | zero => intro _ _ _ _ _ _ _ _ hf; exact absurd hf (by simp [f_M_isWhole_313])
    | succ k_313 ih_313 =>
      intro tn x1 x2 x5 x6 H locs ls hf hP hD hS hl
      rw [f_M_isWhole_313] at hf
      refine lv_iload hx hb d_M_isWhole_313 (lv_at hl 4 rfl) ?_
      refine lv_iload_n hx hb d_M_isWhole_315 rfl (lv_at hl 2 rfl) ?_
      refine lv_icmp_ge (tgt := 343) hx hb d_M_isWhole_316 (by decide) (fun c_1 => ?_) (fun c_1 => ?_)
      · have hf := ite_t c_1 hf
        refine lv_iload hx hb d_M_isWhole_343 (lv_at hl 3 rfl) ?_
        obtain ⟨c_2, hf⟩ := gp_s hf
        cases hf
        exact hret _ _ _ _ c_2 hP hD hS d_M_isWhole_345
      · have hf := ite_f c_1 hf
        refine lv_iload hx hb d_M_isWhole_319 (lv_at hl 3 rfl) ?_
        refine lv_if_eq (tgt := 343) hx hb d_M_isWhole_321 (by decide) (fun c_3 => ?_) (fun c_3 => ?_)
        · have hf := ite_t c_3 hf
          refine lv_iload hx hb d_M_isWhole_343 (lv_at hl 3 rfl) ?_
          obtain ⟨c_4, hf⟩ := gp_s hf
          cases hf
          exact hret _ _ _ _ c_4 hP hD hS d_M_isWhole_345
        · have hf := ite_f c_3 hf
          refine lv_aload_n hx hb d_M_isWhole_324 rfl (lv_at hl 0 rfl) ?_
          refine lv_aload_n hx hb d_M_isWhole_325 rfl (lv_at hl 0 rfl) ?_
          refine lv_iload_n hx hb d_M_isWhole_326 rfl (lv_at hl 1 rfl) ?_
          refine lv_iload hx hb d_M_isWhole_327 (lv_at hl 4 rfl) ?_
          obtain ⟨r_5, hc_6, hf⟩ := bd1_s hf
          refine ucVl (As := [.int x1, .int x6]) (rest := [.ref (h 0)]) ⟨hx, hb, hml, hown, htb⟩ hK hP hD hS hA (fun hs => c_M_blockOf hc_6) (cwV 2 htb (gV tw_951 tw_953 tw_52 tw_74 tw_954) rfl rfl rfl (by decide +kernel) ⟨Nat.le_of_ble_eq_true rfl, Nat.le_of_ble_eq_true rfl⟩) 0 5 rfl rfl rfl rfl rfl hl.1 (Nat.le_of_ble_eq_true rfl) d_M_isWhole_329 ⟨Nat.zero_le _, Nat.zero_le _⟩ (fun H locs hP hD hS => ?_)
          obtain ⟨r_7, tn_8, hc_9, hf⟩ := bd2_s hf
          refine ucVi (As := [.long r_5]) (rest := []) ⟨hx, hb, hml, hown, htb⟩ hK hP hD hS hA (fun hs => c_M_takes hc_9) (cwV 1 htb (gV tw_947 tw_949 tw_51 tw_74 tw_950) rfl rfl rfl (by decide +kernel) ⟨Nat.le_of_ble_eq_true rfl, Nat.le_of_ble_eq_true rfl⟩) 0 5 rfl rfl rfl rfl rfl hl.1 (Nat.le_of_ble_eq_true rfl) d_M_isWhole_332 ⟨Nat.zero_le _, Nat.zero_le _⟩ (fun H locs hP hD hS => ?_)
          refine lv_istore (lv' := [(5, .int r_7), (0, .ref (h 0)), (1, .int x1), (2, .int x2), (6, .int x6)]) hx hb d_M_isWhole_335 hl (by decide) rfl (fun ls hl => ?_)
          obtain ⟨v6_10, ev6_10, hf⟩ := lt1_s hf
          refine lv_iinc (v := v6_10) (lv' := [(6, .int v6_10), (5, .int r_7), (0, .ref (h 0)), (1, .int x1), (2, .int x2)]) hx hb d_M_isWhole_337 hl (k := 4) rfl (by rw [← ev6_10]; rfl) (by decide) rfl (fun ls hl => ?_)
          refine lv_goto (tgt := 313) hx hb d_M_isWhole_340 (by decide) ?_
          exact ih_313 tn_8 x1 x2 r_7 v6_10 _ _ _ hf hP hD hS (lv_sub hl [2, 3, 4, 1, 0] rfl)
  have hj_266 : ∀ (k_266 : Nat) (tn : Nat → Int32) (x1 : Int32) (x2 : Int32) (x3 : Int32) (x5 : Int32) (x6 : Int32) (H : Heap) (locs : List Loc) (ls : Array Slot), f_M_isWhole_266 N nb dk gg mp fx k_266 tn x1 x2 x3 x5 x6 = some (r, tn') → va_P (dC, dI) clAll (wM h cI cB cZ th nb dk lk fa pp gg jj qq mp fx tn mn oq pq fo ca hr fd) H → va_D A (wM h cI cB cZ th nb dk lk fa pp gg jj qq mp fx tn mn oq pq fo ca hr fd) → va_S A s.heap H locs → lv_has ls 7 [(0, .ref (h 0)), (1, .int x1), (2, .int x2), (3, .int x3), (5, .int x5), (6, .int x6)] → W p l e (headSpec ws_M_isWhole { frames := 5, cells := 0, slots := 0, locals := 108 }).room s m args below meth c H locs 0 0 Q (F0 m 266 ls []) := by
    intro k_266
    induction k_266 with
    | zero => intro _ _ _ _ _ _ _ _ _ hf; exact absurd hf (by simp [f_M_isWhole_266])
    | succ k_266 ih_266 =>
      intro tn x1 x2 x3 x5 x6 H locs ls hf hP hD hS hl
      rw [f_M_isWhole_266] at hf
      refine lv_iload hx hb d_M_isWhole_266 (lv_at hl 5 rfl) ?_
      refine lv_iload_n hx hb d_M_isWhole_268 rfl (lv_at hl 3 rfl) ?_
      refine lv_icmp_ge (tgt := 310) hx hb d_M_isWhole_269 (by decide) (fun c_1 => ?_) (fun c_1 => ?_)
      · have hf := ite_t c_1 hf
        refine lv_iconst (v := 0) hx hb d_M_isWhole_310 (by decide) ?_
        refine lv_istore (lv' := [(6, .int ((0 : Int32))), (0, .ref (h 0)), (1, .int x1), (2, .int x2), (3, .int x3), (5, .int x5)]) hx hb d_M_isWhole_311 hl (by decide) rfl (fun ls hl => ?_)
        exact hj_313 N tn x1 x2 x5 ((0 : Int32)) _ _ _ hf hP hD hS (lv_sub hl [1, 2, 3, 5, 0] rfl)
      · have hf := ite_f c_1 hf
        refine lv_iload hx hb d_M_isWhole_272 (lv_at hl 4 rfl) ?_
        refine lv_if_eq (tgt := 310) hx hb d_M_isWhole_274 (by decide) (fun c_2 => ?_) (fun c_2 => ?_)
        · have hf := ite_t c_2 hf
          refine lv_iconst (v := 0) hx hb d_M_isWhole_310 (by decide) ?_
          refine lv_istore (lv' := [(6, .int ((0 : Int32))), (0, .ref (h 0)), (1, .int x1), (2, .int x2), (3, .int x3), (5, .int x5)]) hx hb d_M_isWhole_311 hl (by decide) rfl (fun ls hl => ?_)
          exact hj_313 N tn x1 x2 x5 ((0 : Int32)) _ _ _ hf hP hD hS (lv_sub hl [1, 2, 3, 5, 0] rfl)
        · have hf := ite_f c_2 hf
          refine lv_aload_n hx hb d_M_isWhole_277 rfl (lv_at hl 0 rfl) ?_
          refine lv_aload_n hx hb d_M_isWhole_278 rfl (lv_at hl 0 rfl) ?_
          refine lv_sipush (v := 1024) hx hb d_M_isWhole_279 (by decide) ?_
          refine lv_aload_n hx hb d_M_isWhole_282 rfl (lv_at hl 0 rfl) ?_
          refine lv_iload_n hx hb d_M_isWhole_283 rfl (lv_at hl 1 rfl) ?_
          refine lv_bipush (v := 13) hx hb d_M_isWhole_284 (by decide) ?_
          obtain ⟨r_3, hc_4, hf⟩ := bd1_s hf
          refine ucVl (As := [.int x1, .int ((13 : Int32))]) (rest := [.int ((1024 : Int32)), .ref (h 0), .ref (h 0)]) ⟨hx, hb, hml, hown, htb⟩ hK hP hD hS hA (fun hs => c_M_pointer hc_4) (cwV 2 htb (gV tw_943 tw_945 tw_50 tw_74 tw_946) rfl rfl rfl (by decide +kernel) ⟨Nat.le_of_ble_eq_true rfl, Nat.le_of_ble_eq_true rfl⟩) 0 5 rfl rfl rfl rfl rfl hl.1 (Nat.le_of_ble_eq_true rfl) d_M_isWhole_286 ⟨Nat.zero_le _, Nat.zero_le _⟩ (fun H locs hP hD hS => ?_)
          refine lv_l2i hx hb d_M_isWhole_289 rfl ?_
          refine lv_imul hx hb d_M_isWhole_290 ?_
          refine lv_iconst (v := 4) hx hb d_M_isWhole_291 (by decide) ?_
          refine lv_iload hx hb d_M_isWhole_292 (lv_at hl 5 rfl) ?_
          refine lv_imul hx hb d_M_isWhole_294 ?_
          refine lv_iadd hx hb d_M_isWhole_295 ?_
          obtain ⟨r_5, hc_6, hf⟩ := bd1_s hf
          refine ucVl (As := [.int ((((1024 : Int32)) * (Int64.toInt32 r_3)) + (((4 : Int32)) * x6))]) (rest := [.ref (h 0)]) ⟨hx, hb, hml, hown, htb⟩ hK hP hD hS hA (fun hs => c_M_four hc_6) (cwV 1 htb (gV tw_874 tw_876 tw_36 tw_74 tw_877) rfl rfl rfl (by decide +kernel) ⟨Nat.le_of_ble_eq_true rfl, Nat.le_of_ble_eq_true rfl⟩) 0 5 rfl rfl rfl rfl rfl hl.1 (Nat.le_of_ble_eq_true rfl) d_M_isWhole_296 ⟨Nat.zero_le _, Nat.zero_le _⟩ (fun H locs hP hD hS => ?_)
          obtain ⟨r_7, tn_8, hc_9, hf⟩ := bd2_s hf
          refine ucVi (As := [.long r_5]) (rest := []) ⟨hx, hb, hml, hown, htb⟩ hK hP hD hS hA (fun hs => c_M_takes hc_9) (cwV 1 htb (gV tw_947 tw_949 tw_51 tw_74 tw_950) rfl rfl rfl (by decide +kernel) ⟨Nat.le_of_ble_eq_true rfl, Nat.le_of_ble_eq_true rfl⟩) 0 5 rfl rfl rfl rfl rfl hl.1 (Nat.le_of_ble_eq_true rfl) d_M_isWhole_299 ⟨Nat.zero_le _, Nat.zero_le _⟩ (fun H locs hP hD hS => ?_)
          refine lv_istore (lv' := [(5, .int r_7), (0, .ref (h 0)), (1, .int x1), (2, .int x2), (3, .int x3), (6, .int x6)]) hx hb d_M_isWhole_302 hl (by decide) rfl (fun ls hl => ?_)
          obtain ⟨v6_10, ev6_10, hf⟩ := lt1_s hf
          refine lv_iinc (v := v6_10) (lv' := [(6, .int v6_10), (5, .int r_7), (0, .ref (h 0)), (1, .int x1), (2, .int x2), (3, .int x3)]) hx hb d_M_isWhole_304 hl (k := 5) rfl (by rw [← ev6_10]; rfl) (by decide) rfl (fun ls hl => ?_)
          refine lv_goto (tgt := 266) hx hb d_M_isWhole_307 (by decide) ?_
          exact ih_266 tn_8 x1 x2 x3 r_7 v6_10 _ _ _ hf hP hD hS (lv_sub hl [2, 3, 4, 5, 1, 0] rfl)
  have hj_213 : ∀ (tn : Nat → Int32) (x1 : Int32) (x2 : Int32) (x3 : Int32) (s0 : Int32) (H : Heap) (locs : List Loc) (ls : Array Slot), f_M_isWhole_213 N nb dk gg mp fx tn x1 x2 x3 s0 = some (r, tn') → va_P (dC, dI) clAll (wM h cI cB cZ th nb dk lk fa pp gg jj qq mp fx tn mn oq pq fo ca hr fd) H → va_D A (wM h cI cB cZ th nb dk lk fa pp gg jj qq mp fx tn mn oq pq fo ca hr fd) → va_S A s.heap H locs → lv_has ls 7 [(0, .ref (h 0)), (1, .int x1), (2, .int x2), (3, .int x3)] → W p l e (headSpec ws_M_isWhole { frames := 5, cells := 0, slots := 0, locals := 108 }).room s m args below meth c H locs 0 0 Q (F0 m 213 ls [.int s0]) := by
    intro tn x1 x2 x3 s0 H locs ls hf hP hD hS hl
    unfold f_M_isWhole_213 at hf
    refine lv_istore (lv' := [(5, .int s0), (0, .ref (h 0)), (1, .int x1), (2, .int x2), (3, .int x3)]) hx hb d_M_isWhole_213 hl (by decide) rfl (fun ls hl => ?_)
    refine lv_iload hx hb d_M_isWhole_215 (lv_at hl 0 rfl) ?_
    refine lv_if_eq (tgt := 260) hx hb d_M_isWhole_217 (by decide) (fun c_1 => ?_) (fun c_1 => ?_)
    · have hf := ite_t c_1 hf
      refine lv_iconst (v := 0) hx hb d_M_isWhole_260 (by decide) ?_
      refine lv_istore (lv' := [(5, .int ((0 : Int32))), (0, .ref (h 0)), (1, .int x1), (2, .int x2), (3, .int x3)]) hx hb d_M_isWhole_261 hl (by decide) rfl (fun ls hl => ?_)
      refine lv_iconst (v := 0) hx hb d_M_isWhole_263 (by decide) ?_
      refine lv_istore (lv' := [(6, .int ((0 : Int32))), (5, .int ((0 : Int32))), (0, .ref (h 0)), (1, .int x1), (2, .int x2), (3, .int x3)]) hx hb d_M_isWhole_264 hl (by decide) rfl (fun ls hl => ?_)
      exact hj_266 N tn x1 x2 x3 ((0 : Int32)) ((0 : Int32)) _ _ _ hf hP hD hS (lv_sub hl [2, 3, 4, 5, 1, 0] rfl)
    · have hf := ite_f c_1 hf
      refine lv_iload_n hx hb d_M_isWhole_220 rfl (lv_at hl 3 rfl) ?_
      refine lv_sipush (v := 268) hx hb d_M_isWhole_221 (by decide) ?_
      refine lv_icmp_le (tgt := 244) hx hb d_M_isWhole_224 (by decide) (fun c_2 => ?_) (fun c_2 => ?_)
      · have hf := ite_t c_2 hf
        refine lv_aload_n hx hb d_M_isWhole_244 rfl (lv_at hl 1 rfl) ?_
        refine lv_iload_n hx hb d_M_isWhole_245 rfl (lv_at hl 2 rfl) ?_
        refine lv_bipush (v := 13) hx hb d_M_isWhole_246 (by decide) ?_
        obtain ⟨r_3, hc_4, hf⟩ := bd1_s hf
        refine ucVl (As := [.int x1, .int ((13 : Int32))]) (rest := []) ⟨hx, hb, hml, hown, htb⟩ hK hP hD hS hA (fun hs => c_M_pointer hc_4) (cwV 2 htb (gV tw_943 tw_945 tw_50 tw_74 tw_946) rfl rfl rfl (by decide +kernel) ⟨Nat.le_of_ble_eq_true rfl, Nat.le_of_ble_eq_true rfl⟩) 0 5 rfl rfl rfl rfl rfl hl.1 (Nat.le_of_ble_eq_true rfl) d_M_isWhole_248 ⟨Nat.zero_le _, Nat.zero_le _⟩ (fun H locs hP hD hS => ?_)
        refine lv_lconst (v := 0) hx hb d_M_isWhole_251 (by decide) ?_
        refine lc_ne (tgt := 260) hx hb d_M_isWhole_252 d_M_isWhole_253 (by decide) (fun c_5 => ?_) (fun c_5 => ?_)
        · have hf := ite_f c_5 hf
          refine lv_iconst (v := 0) hx hb d_M_isWhole_260 (by decide) ?_
          refine lv_istore (lv' := [(5, .int ((0 : Int32))), (0, .ref (h 0)), (1, .int x1), (2, .int x2), (3, .int x3)]) hx hb d_M_isWhole_261 hl (by decide) rfl (fun ls hl => ?_)
          refine lv_iconst (v := 0) hx hb d_M_isWhole_263 (by decide) ?_
          refine lv_istore (lv' := [(6, .int ((0 : Int32))), (5, .int ((0 : Int32))), (0, .ref (h 0)), (1, .int x1), (2, .int x2), (3, .int x3)]) hx hb d_M_isWhole_264 hl (by decide) rfl (fun ls hl => ?_)
          exact hj_266 N tn x1 x2 x3 ((0 : Int32)) ((0 : Int32)) _ _ _ hf hP hD hS (lv_sub hl [2, 3, 4, 5, 1, 0] rfl)
        · have hf := ite_t c_5 hf
          refine lv_iconst (v := 1) hx hb d_M_isWhole_256 (by decide) ?_
          refine lv_goto (tgt := 261) hx hb d_M_isWhole_257 (by decide) ?_
          refine lv_istore (lv' := [(5, .int ((1 : Int32))), (0, .ref (h 0)), (1, .int x1), (2, .int x2), (3, .int x3)]) hx hb d_M_isWhole_261 hl (by decide) rfl (fun ls hl => ?_)
          refine lv_iconst (v := 0) hx hb d_M_isWhole_263 (by decide) ?_
          refine lv_istore (lv' := [(6, .int ((0 : Int32))), (5, .int ((1 : Int32))), (0, .ref (h 0)), (1, .int x1), (2, .int x2), (3, .int x3)]) hx hb d_M_isWhole_264 hl (by decide) rfl (fun ls hl => ?_)
          exact hj_266 N tn x1 x2 x3 ((1 : Int32)) ((0 : Int32)) _ _ _ hf hP hD hS (lv_sub hl [2, 3, 4, 5, 1, 0] rfl)
      · have hf := ite_f c_2 hf
        refine lv_aload_n hx hb d_M_isWhole_227 rfl (lv_at hl 1 rfl) ?_
        refine lv_aload_n hx hb d_M_isWhole_228 rfl (lv_at hl 1 rfl) ?_
        refine lv_iload_n hx hb d_M_isWhole_229 rfl (lv_at hl 2 rfl) ?_
        refine lv_bipush (v := 13) hx hb d_M_isWhole_230 (by decide) ?_
        obtain ⟨r_6, hc_7, hf⟩ := bd1_s hf
        refine ucVl (As := [.int x1, .int ((13 : Int32))]) (rest := [.ref (h 0)]) ⟨hx, hb, hml, hown, htb⟩ hK hP hD hS hA (fun hs => c_M_pointer hc_7) (cwV 2 htb (gV tw_943 tw_945 tw_50 tw_74 tw_946) rfl rfl rfl (by decide +kernel) ⟨Nat.le_of_ble_eq_true rfl, Nat.le_of_ble_eq_true rfl⟩) 0 5 rfl rfl rfl rfl rfl hl.1 (Nat.le_of_ble_eq_true rfl) d_M_isWhole_232 ⟨Nat.zero_le _, Nat.zero_le _⟩ (fun H locs hP hD hS => ?_)
        obtain ⟨r_8, tn_9, hc_10, hf⟩ := bd2_s hf
        refine ucVi (As := [.long r_6]) (rest := []) ⟨hx, hb, hml, hown, htb⟩ hK hP hD hS hA (fun hs => c_M_takes hc_10) (cwV 1 htb (gV tw_947 tw_949 tw_51 tw_74 tw_950) rfl rfl rfl (by decide +kernel) ⟨Nat.le_of_ble_eq_true rfl, Nat.le_of_ble_eq_true rfl⟩) 0 5 rfl rfl rfl rfl rfl hl.1 (Nat.le_of_ble_eq_true rfl) d_M_isWhole_235 ⟨Nat.zero_le _, Nat.zero_le _⟩ (fun H locs hP hD hS => ?_)
        refine lv_if_eq (tgt := 260) hx hb d_M_isWhole_238 (by decide) (fun c_11 => ?_) (fun c_11 => ?_)
        · have hf := ite_t c_11 hf
          refine lv_iconst (v := 0) hx hb d_M_isWhole_260 (by decide) ?_
          refine lv_istore (lv' := [(5, .int ((0 : Int32))), (0, .ref (h 0)), (1, .int x1), (2, .int x2), (3, .int x3)]) hx hb d_M_isWhole_261 hl (by decide) rfl (fun ls hl => ?_)
          refine lv_iconst (v := 0) hx hb d_M_isWhole_263 (by decide) ?_
          refine lv_istore (lv' := [(6, .int ((0 : Int32))), (5, .int ((0 : Int32))), (0, .ref (h 0)), (1, .int x1), (2, .int x2), (3, .int x3)]) hx hb d_M_isWhole_264 hl (by decide) rfl (fun ls hl => ?_)
          exact hj_266 N tn_9 x1 x2 x3 ((0 : Int32)) ((0 : Int32)) _ _ _ hf hP hD hS (lv_sub hl [2, 3, 4, 5, 1, 0] rfl)
        · have hf := ite_f c_11 hf
          refine lv_goto (tgt := 256) hx hb d_M_isWhole_241 (by decide) ?_
          refine lv_iconst (v := 1) hx hb d_M_isWhole_256 (by decide) ?_
          refine lv_goto (tgt := 261) hx hb d_M_isWhole_257 (by decide) ?_
          refine lv_istore (lv' := [(5, .int ((1 : Int32))), (0, .ref (h 0)), (1, .int x1), (2, .int x2), (3, .int x3)]) hx hb d_M_isWhole_261 hl (by decide) rfl (fun ls hl => ?_)
          refine lv_iconst (v := 0) hx hb d_M_isWhole_263 (by decide) ?_
          refine lv_istore (lv' := [(6, .int ((0 : Int32))), (5, .int ((1 : Int32))), (0, .ref (h 0)), (1, .int x1), (2, .int x2), (3, .int x3)]) hx hb d_M_isWhole_264 hl (by decide) rfl (fun ls hl => ?_)
          exact hj_266 N tn_9 x1 x2 x3 ((1 : Int32)) ((0 : Int32)) _ _ _ hf hP hD hS (lv_sub hl [2, 3, 4, 5, 1, 0] rfl)
  have hj_212 : ∀ (tn : Nat → Int32) (x1 : Int32) (x2 : Int32) (x3 : Int32) (H : Heap) (locs : List Loc) (ls : Array Slot), f_M_isWhole_212 N nb dk gg mp fx tn x1 x2 x3 = some (r, tn') → va_P (dC, dI) clAll (wM h cI cB cZ th nb dk lk fa pp gg jj qq mp fx tn mn oq pq fo ca hr fd) H → va_D A (wM h cI cB cZ th nb dk lk fa pp gg jj qq mp fx tn mn oq pq fo ca hr fd) → va_S A s.heap H locs → lv_has ls 7 [(0, .ref (h 0)), (1, .int x1), (2, .int x2), (3, .int x3)] → W p l e (headSpec ws_M_isWhole { frames := 5, cells := 0, slots := 0, locals := 108 }).room s m args below meth c H locs 0 0 Q (F0 m 212 ls []) := by
    intro tn x1 x2 x3 H locs ls hf hP hD hS hl
    unfold f_M_isWhole_212 at hf
    refine lv_iconst (v := 0) hx hb d_M_isWhole_212 (by decide) ?_
    exact hj_213 tn x1 x2 x3 ((0 : Int32)) _ _ _ hf hP hD hS (lv_sub hl [0, 1, 2, 3] rfl)
  have hj_208 : ∀ (tn : Nat → Int32) (x1 : Int32) (x2 : Int32) (x3 : Int32) (H : Heap) (locs : List Loc) (ls : Array Slot), f_M_isWhole_208 N nb dk gg mp fx tn x1 x2 x3 = some (r, tn') → va_P (dC, dI) clAll (wM h cI cB cZ th nb dk lk fa pp gg jj qq mp fx tn mn oq pq fo ca hr fd) H → va_D A (wM h cI cB cZ th nb dk lk fa pp gg jj qq mp fx tn mn oq pq fo ca hr fd) → va_S A s.heap H locs → lv_has ls 7 [(0, .ref (h 0)), (1, .int x1), (2, .int x2), (3, .int x3)] → W p l e (headSpec ws_M_isWhole { frames := 5, cells := 0, slots := 0, locals := 108 }).room s m args below meth c H locs 0 0 Q (F0 m 208 ls []) := by
    intro tn x1 x2 x3 H locs ls hf hP hD hS hl
    unfold f_M_isWhole_208 at hf
    refine lv_iconst (v := 1) hx hb d_M_isWhole_208 (by decide) ?_
    refine lv_goto (tgt := 213) hx hb d_M_isWhole_209 (by decide) ?_
    exact hj_213 tn x1 x2 x3 ((1 : Int32)) _ _ _ hf hP hD hS (lv_sub hl [0, 1, 2, 3] rfl)
  have hj_131 : ∀ (k_131 : Nat) (tn : Nat → Int32) (x1 : Int32) (x2 : Int32) (x3 : Int32) (x5 : Int32) (x6 : Int32) (H : Heap) (locs : List Loc) (ls : Array Slot), f_M_isWhole_131 N nb dk gg mp fx k_131 tn x1 x2 x3 x5 x6 = some (r, tn') → va_P (dC, dI) clAll (wM h cI cB cZ th nb dk lk fa pp gg jj qq mp fx tn mn oq pq fo ca hr fd) H → va_D A (wM h cI cB cZ th nb dk lk fa pp gg jj qq mp fx tn mn oq pq fo ca hr fd) → va_S A s.heap H locs → lv_has ls 7 [(0, .ref (h 0)), (1, .int x1), (2, .int x2), (3, .int x3), (5, .int x5), (6, .int x6)] → W p l e (headSpec ws_M_isWhole { frames := 5, cells := 0, slots := 0, locals := 108 }).room s m args below meth c H locs 0 0 Q (F0 m 131 ls []) := by
    intro k_131
    induction k_131 with
    | zero => intro _ _ _ _ _ _ _ _ _ hf; exact absurd hf (by simp [f_M_isWhole_131])
    | succ k_131 ih_131 =>
      intro tn x1 x2 x3 x5 x6 H locs ls hf hP hD hS hl
      rw [f_M_isWhole_131] at hf
      refine lv_iload hx hb d_M_isWhole_131 (lv_at hl 5 rfl) ?_
      refine lv_bipush (v := 12) hx hb d_M_isWhole_133 (by decide) ?_
      refine lv_icmp_ge (tgt := 168) hx hb d_M_isWhole_135 (by decide) (fun c_1 => ?_) (fun c_1 => ?_)
      · have hf := ite_t c_1 hf
        refine lv_iload hx hb d_M_isWhole_168 (lv_at hl 4 rfl) ?_
        refine lv_if_eq (tgt := 212) hx hb d_M_isWhole_170 (by decide) (fun c_2 => ?_) (fun c_2 => ?_)
        · have hf := ite_t c_2 hf
          exact hj_212 tn x1 x2 x3 _ _ _ hf hP hD hS (lv_sub hl [0, 1, 2, 3] rfl)
        · have hf := ite_f c_2 hf
          refine lv_iload_n hx hb d_M_isWhole_173 rfl (lv_at hl 2 rfl) ?_
          refine lv_bipush (v := 12) hx hb d_M_isWhole_174 (by decide) ?_
          refine lv_icmp_le (tgt := 196) hx hb d_M_isWhole_176 (by decide) (fun c_3 => ?_) (fun c_3 => ?_)
          · have hf := ite_t c_3 hf
            refine lv_aload_n hx hb d_M_isWhole_196 rfl (lv_at hl 0 rfl) ?_
            refine lv_iload_n hx hb d_M_isWhole_197 rfl (lv_at hl 1 rfl) ?_
            refine lv_bipush (v := 12) hx hb d_M_isWhole_198 (by decide) ?_
            obtain ⟨r_4, hc_5, hf⟩ := bd1_s hf
            refine ucVl (As := [.int x1, .int ((12 : Int32))]) (rest := []) ⟨hx, hb, hml, hown, htb⟩ hK hP hD hS hA (fun hs => c_M_pointer hc_5) (cwV 2 htb (gV tw_943 tw_945 tw_50 tw_74 tw_946) rfl rfl rfl (by decide +kernel) ⟨Nat.le_of_ble_eq_true rfl, Nat.le_of_ble_eq_true rfl⟩) 0 5 rfl rfl rfl rfl rfl hl.1 (Nat.le_of_ble_eq_true rfl) d_M_isWhole_200 ⟨Nat.zero_le _, Nat.zero_le _⟩ (fun H locs hP hD hS => ?_)
            refine lv_lconst (v := 0) hx hb d_M_isWhole_203 (by decide) ?_
            refine lc_ne (tgt := 212) hx hb d_M_isWhole_204 d_M_isWhole_205 (by decide) (fun c_6 => ?_) (fun c_6 => ?_)
            · have hf := ite_f c_6 hf
              exact hj_212 tn x1 x2 x3 _ _ _ hf hP hD hS (lv_sub hl [0, 1, 2, 3] rfl)
            · have hf := ite_t c_6 hf
              exact hj_208 tn x1 x2 x3 _ _ _ hf hP hD hS (lv_sub hl [0, 1, 2, 3] rfl)
          · have hf := ite_f c_3 hf
            refine lv_aload_n hx hb d_M_isWhole_179 rfl (lv_at hl 0 rfl) ?_
            refine lv_aload_n hx hb d_M_isWhole_180 rfl (lv_at hl 0 rfl) ?_
            refine lv_iload_n hx hb d_M_isWhole_181 rfl (lv_at hl 1 rfl) ?_
            refine lv_bipush (v := 12) hx hb d_M_isWhole_182 (by decide) ?_
            obtain ⟨r_7, hc_8, hf⟩ := bd1_s hf
            refine ucVl (As := [.int x1, .int ((12 : Int32))]) (rest := [.ref (h 0)]) ⟨hx, hb, hml, hown, htb⟩ hK hP hD hS hA (fun hs => c_M_pointer hc_8) (cwV 2 htb (gV tw_943 tw_945 tw_50 tw_74 tw_946) rfl rfl rfl (by decide +kernel) ⟨Nat.le_of_ble_eq_true rfl, Nat.le_of_ble_eq_true rfl⟩) 0 5 rfl rfl rfl rfl rfl hl.1 (Nat.le_of_ble_eq_true rfl) d_M_isWhole_184 ⟨Nat.zero_le _, Nat.zero_le _⟩ (fun H locs hP hD hS => ?_)
            obtain ⟨r_9, tn_10, hc_11, hf⟩ := bd2_s hf
            refine ucVi (As := [.long r_7]) (rest := []) ⟨hx, hb, hml, hown, htb⟩ hK hP hD hS hA (fun hs => c_M_takes hc_11) (cwV 1 htb (gV tw_947 tw_949 tw_51 tw_74 tw_950) rfl rfl rfl (by decide +kernel) ⟨Nat.le_of_ble_eq_true rfl, Nat.le_of_ble_eq_true rfl⟩) 0 5 rfl rfl rfl rfl rfl hl.1 (Nat.le_of_ble_eq_true rfl) d_M_isWhole_187 ⟨Nat.zero_le _, Nat.zero_le _⟩ (fun H locs hP hD hS => ?_)
            refine lv_if_eq (tgt := 212) hx hb d_M_isWhole_190 (by decide) (fun c_12 => ?_) (fun c_12 => ?_)
            · have hf := ite_t c_12 hf
              exact hj_212 tn_10 x1 x2 x3 _ _ _ hf hP hD hS (lv_sub hl [0, 1, 2, 3] rfl)
            · have hf := ite_f c_12 hf
              refine lv_goto (tgt := 208) hx hb d_M_isWhole_193 (by decide) ?_
              exact hj_208 tn_10 x1 x2 x3 _ _ _ hf hP hD hS (lv_sub hl [0, 1, 2, 3] rfl)
      · have hf := ite_f c_1 hf
        refine lv_iload hx hb d_M_isWhole_138 (lv_at hl 4 rfl) ?_
        refine lv_if_eq (tgt := 159) hx hb d_M_isWhole_140 (by decide) (fun c_13 => ?_) (fun c_13 => ?_)
        · have hf := ite_t c_13 hf
          refine lv_iconst (v := 0) hx hb d_M_isWhole_159 (by decide) ?_
          refine lv_istore (lv' := [(5, .int ((0 : Int32))), (0, .ref (h 0)), (1, .int x1), (2, .int x2), (3, .int x3), (6, .int x6)]) hx hb d_M_isWhole_160 hl (by decide) rfl (fun ls hl => ?_)
          obtain ⟨v6_14, ev6_14, hf⟩ := lt1_s hf
          refine lv_iinc (v := v6_14) (lv' := [(6, .int v6_14), (5, .int ((0 : Int32))), (0, .ref (h 0)), (1, .int x1), (2, .int x2), (3, .int x3)]) hx hb d_M_isWhole_162 hl (k := 5) rfl (by rw [← ev6_14]; rfl) (by decide) rfl (fun ls hl => ?_)
          refine lv_goto (tgt := 131) hx hb d_M_isWhole_165 (by decide) ?_
          exact ih_131 tn x1 x2 x3 ((0 : Int32)) v6_14 _ _ _ hf hP hD hS (lv_sub hl [2, 3, 4, 5, 1, 0] rfl)
        · have hf := ite_f c_13 hf
          refine lv_aload_n hx hb d_M_isWhole_143 rfl (lv_at hl 0 rfl) ?_
          refine lv_iload_n hx hb d_M_isWhole_144 rfl (lv_at hl 1 rfl) ?_
          refine lv_iload hx hb d_M_isWhole_145 (lv_at hl 5 rfl) ?_
          obtain ⟨r_15, hc_16, hf⟩ := bd1_s hf
          refine ucVl (As := [.int x1, .int x6]) (rest := []) ⟨hx, hb, hml, hown, htb⟩ hK hP hD hS hA (fun hs => c_M_pointer hc_16) (cwV 2 htb (gV tw_943 tw_945 tw_50 tw_74 tw_946) rfl rfl rfl (by decide +kernel) ⟨Nat.le_of_ble_eq_true rfl, Nat.le_of_ble_eq_true rfl⟩) 0 5 rfl rfl rfl rfl rfl hl.1 (Nat.le_of_ble_eq_true rfl) d_M_isWhole_147 ⟨Nat.zero_le _, Nat.zero_le _⟩ (fun H locs hP hD hS => ?_)
          refine lv_lconst (v := 0) hx hb d_M_isWhole_150 (by decide) ?_
          refine lc_ne (tgt := 159) hx hb d_M_isWhole_151 d_M_isWhole_152 (by decide) (fun c_17 => ?_) (fun c_17 => ?_)
          · have hf := ite_f c_17 hf
            refine lv_iconst (v := 0) hx hb d_M_isWhole_159 (by decide) ?_
            refine lv_istore (lv' := [(5, .int ((0 : Int32))), (0, .ref (h 0)), (1, .int x1), (2, .int x2), (3, .int x3), (6, .int x6)]) hx hb d_M_isWhole_160 hl (by decide) rfl (fun ls hl => ?_)
            obtain ⟨v6_18, ev6_18, hf⟩ := lt1_s hf
            refine lv_iinc (v := v6_18) (lv' := [(6, .int v6_18), (5, .int ((0 : Int32))), (0, .ref (h 0)), (1, .int x1), (2, .int x2), (3, .int x3)]) hx hb d_M_isWhole_162 hl (k := 5) rfl (by rw [← ev6_18]; rfl) (by decide) rfl (fun ls hl => ?_)
            refine lv_goto (tgt := 131) hx hb d_M_isWhole_165 (by decide) ?_
            exact ih_131 tn x1 x2 x3 ((0 : Int32)) v6_18 _ _ _ hf hP hD hS (lv_sub hl [2, 3, 4, 5, 1, 0] rfl)
          · have hf := ite_t c_17 hf
            refine lv_iconst (v := 1) hx hb d_M_isWhole_155 (by decide) ?_
            refine lv_goto (tgt := 160) hx hb d_M_isWhole_156 (by decide) ?_
            refine lv_istore (lv' := [(5, .int ((1 : Int32))), (0, .ref (h 0)), (1, .int x1), (2, .int x2), (3, .int x3), (6, .int x6)]) hx hb d_M_isWhole_160 hl (by decide) rfl (fun ls hl => ?_)
            obtain ⟨v6_19, ev6_19, hf⟩ := lt1_s hf
            refine lv_iinc (v := v6_19) (lv' := [(6, .int v6_19), (5, .int ((1 : Int32))), (0, .ref (h 0)), (1, .int x1), (2, .int x2), (3, .int x3)]) hx hb d_M_isWhole_162 hl (k := 5) rfl (by rw [← ev6_19]; rfl) (by decide) rfl (fun ls hl => ?_)
            refine lv_goto (tgt := 131) hx hb d_M_isWhole_165 (by decide) ?_
            exact ih_131 tn x1 x2 x3 ((1 : Int32)) v6_19 _ _ _ hf hP hD hS (lv_sub hl [2, 3, 4, 5, 1, 0] rfl)
  have hj_79 : ∀ (tn : Nat → Int32) (x1 : Int32) (x2 : Int32) (x3 : Int32) (s0 : Int32) (s1 : Int32) (H : Heap) (locs : List Loc) (ls : Array Slot), f_M_isWhole_79 N nb dk gg mp fx tn x1 x2 x3 s0 s1 = some (r, tn') → va_P (dC, dI) clAll (wM h cI cB cZ th nb dk lk fa pp gg jj qq mp fx tn mn oq pq fo ca hr fd) H → va_D A (wM h cI cB cZ th nb dk lk fa pp gg jj qq mp fx tn mn oq pq fo ca hr fd) → va_S A s.heap H locs → lv_has ls 7 [(0, .ref (h 0)), (1, .int x1), (2, .int x2), (3, .int x3)] → W p l e (headSpec ws_M_isWhole { frames := 5, cells := 0, slots := 0, locals := 108 }).room s m args below meth c H locs 0 0 Q (F0 m 79 ls [.int s1, .int s0]) := by
    intro tn x1 x2 x3 s0 s1 H locs ls hf hP hD hS hl
    unfold f_M_isWhole_79 at hf
    refine lv_iadd hx hb d_M_isWhole_79 ?_
    refine lv_iload_n hx hb d_M_isWhole_80 rfl (lv_at hl 3 rfl) ?_
    refine lv_iadd hx hb d_M_isWhole_81 ?_
    obtain ⟨v4_1, ev4_1, hf⟩ := lt1_s hf
    refine lv_eqi ev4_1 ?_
    refine lv_istore (lv' := [(4, .int v4_1), (0, .ref (h 0)), (1, .int x1), (2, .int x2), (3, .int x3)]) hx hb d_M_isWhole_82 hl (by decide) rfl (fun ls hl => ?_)
    refine lv_aload_n hx hb d_M_isWhole_84 rfl (lv_at hl 1 rfl) ?_
    refine lv_aload_n hx hb d_M_isWhole_85 rfl (lv_at hl 1 rfl) ?_
    refine lv_iload_n hx hb d_M_isWhole_86 rfl (lv_at hl 2 rfl) ?_
    obtain ⟨r_2, hc_3, hf⟩ := bd1_s hf
    refine ucVi (As := [.int x1]) (rest := [.ref (h 0)]) ⟨hx, hb, hml, hown, htb⟩ hK hP hD hS hA (fun hs => c_M_inodeAt hc_3) (cwV 1 htb (gV tw_927 tw_929 tw_47 tw_74 tw_930) rfl rfl rfl (by decide +kernel) ⟨Nat.le_of_ble_eq_true rfl, Nat.le_of_ble_eq_true rfl⟩) 0 5 rfl rfl rfl rfl rfl hl.1 (Nat.le_of_ble_eq_true rfl) d_M_isWhole_87 ⟨Nat.zero_le _, Nat.zero_le _⟩ (fun H locs hP hD hS => ?_)
    refine lv_bipush (v := 28) hx hb d_M_isWhole_90 (by decide) ?_
    refine lv_iadd hx hb d_M_isWhole_92 ?_
    obtain ⟨r_4, hc_5, hf⟩ := bd1_s hf
    refine ucVl (As := [.int (r_2 + ((28 : Int32)))]) (rest := []) ⟨hx, hb, hml, hown, htb⟩ hK hP hD hS hA (fun hs => c_M_four hc_5) (cwV 1 htb (gV tw_874 tw_876 tw_36 tw_74 tw_877) rfl rfl rfl (by decide +kernel) ⟨Nat.le_of_ble_eq_true rfl, Nat.le_of_ble_eq_true rfl⟩) 0 5 rfl rfl rfl rfl rfl hl.1 (Nat.le_of_ble_eq_true rfl) d_M_isWhole_93 ⟨Nat.zero_le _, Nat.zero_le _⟩ (fun H locs hP hD hS => ?_)
    refine lv_ldc2 (v := 2) hx hb hown (htb _ tw_890) d_M_isWhole_96 ?_
    refine lv_iload_n hx hb d_M_isWhole_99 rfl (lv_at hl 3 rfl) ?_
    refine lv_iload hx hb d_M_isWhole_100 (lv_at hl 0 rfl) ?_
    refine lv_iadd hx hb d_M_isWhole_102 ?_
    refine lv_i2l hx hb d_M_isWhole_103 rfl ?_
    refine lv_lmul hx hb d_M_isWhole_104 ?_
    refine lc_ne (tgt := 125) hx hb d_M_isWhole_105 d_M_isWhole_106 (by decide) (fun c_6 => ?_) (fun c_6 => ?_)
    · have hf := ite_f c_6 hf
      refine lv_iconst (v := 0) hx hb d_M_isWhole_125 (by decide) ?_
      refine lv_istore (lv' := [(5, .int ((0 : Int32))), (4, .int v4_1), (0, .ref (h 0)), (1, .int x1), (2, .int x2), (3, .int x3)]) hx hb d_M_isWhole_126 hl (by decide) rfl (fun ls hl => ?_)
      refine lv_iload_n hx hb d_M_isWhole_128 rfl (lv_at hl 4 rfl) ?_
      refine lv_istore (lv' := [(6, .int x2), (5, .int ((0 : Int32))), (4, .int v4_1), (0, .ref (h 0)), (1, .int x1), (2, .int x2), (3, .int x3)]) hx hb d_M_isWhole_129 hl (by decide) rfl (fun ls hl => ?_)
      exact hj_131 N tn x1 x2 x3 ((0 : Int32)) x2 _ _ _ hf hP hD hS (lv_sub hl [3, 4, 5, 6, 1, 0] rfl)
    · have hf := ite_t c_6 hf
      refine lv_aload_n hx hb d_M_isWhole_109 rfl (lv_at hl 1 rfl) ?_
      refine lv_iload_n hx hb d_M_isWhole_110 rfl (lv_at hl 2 rfl) ?_
      refine lv_bipush (v := 14) hx hb d_M_isWhole_111 (by decide) ?_
      obtain ⟨r_7, hc_8, hf⟩ := bd1_s hf
      refine ucVl (As := [.int x1, .int ((14 : Int32))]) (rest := []) ⟨hx, hb, hml, hown, htb⟩ hK hP hD hS hA (fun hs => c_M_pointer hc_8) (cwV 2 htb (gV tw_943 tw_945 tw_50 tw_74 tw_946) rfl rfl rfl (by decide +kernel) ⟨Nat.le_of_ble_eq_true rfl, Nat.le_of_ble_eq_true rfl⟩) 0 5 rfl rfl rfl rfl rfl hl.1 (Nat.le_of_ble_eq_true rfl) d_M_isWhole_113 ⟨Nat.zero_le _, Nat.zero_le _⟩ (fun H locs hP hD hS => ?_)
      refine lv_lconst (v := 0) hx hb d_M_isWhole_116 (by decide) ?_
      refine lc_ne (tgt := 125) hx hb d_M_isWhole_117 d_M_isWhole_118 (by decide) (fun c_9 => ?_) (fun c_9 => ?_)
      · have hf := ite_f c_9 hf
        refine lv_iconst (v := 0) hx hb d_M_isWhole_125 (by decide) ?_
        refine lv_istore (lv' := [(5, .int ((0 : Int32))), (4, .int v4_1), (0, .ref (h 0)), (1, .int x1), (2, .int x2), (3, .int x3)]) hx hb d_M_isWhole_126 hl (by decide) rfl (fun ls hl => ?_)
        refine lv_iload_n hx hb d_M_isWhole_128 rfl (lv_at hl 4 rfl) ?_
        refine lv_istore (lv' := [(6, .int x2), (5, .int ((0 : Int32))), (4, .int v4_1), (0, .ref (h 0)), (1, .int x1), (2, .int x2), (3, .int x3)]) hx hb d_M_isWhole_129 hl (by decide) rfl (fun ls hl => ?_)
        exact hj_131 N tn x1 x2 x3 ((0 : Int32)) x2 _ _ _ hf hP hD hS (lv_sub hl [3, 4, 5, 6, 1, 0] rfl)
      · have hf := ite_t c_9 hf
        refine lv_iconst (v := 1) hx hb d_M_isWhole_121 (by decide) ?_
        refine lv_goto (tgt := 126) hx hb d_M_isWhole_122 (by decide) ?_
        refine lv_istore (lv' := [(5, .int ((1 : Int32))), (4, .int v4_1), (0, .ref (h 0)), (1, .int x1), (2, .int x2), (3, .int x3)]) hx hb d_M_isWhole_126 hl (by decide) rfl (fun ls hl => ?_)
        refine lv_iload_n hx hb d_M_isWhole_128 rfl (lv_at hl 4 rfl) ?_
        refine lv_istore (lv' := [(6, .int x2), (5, .int ((1 : Int32))), (4, .int v4_1), (0, .ref (h 0)), (1, .int x1), (2, .int x2), (3, .int x3)]) hx hb d_M_isWhole_129 hl (by decide) rfl (fun ls hl => ?_)
        exact hj_131 N tn x1 x2 x3 ((1 : Int32)) x2 _ _ _ hf hP hD hS (lv_sub hl [3, 4, 5, 6, 1, 0] rfl)
  have hj_67 : ∀ (tn : Nat → Int32) (x1 : Int32) (x2 : Int32) (x3 : Int32) (s0 : Int32) (H : Heap) (locs : List Loc) (ls : Array Slot), f_M_isWhole_67 N nb dk gg mp fx tn x1 x2 x3 s0 = some (r, tn') → va_P (dC, dI) clAll (wM h cI cB cZ th nb dk lk fa pp gg jj qq mp fx tn mn oq pq fo ca hr fd) H → va_D A (wM h cI cB cZ th nb dk lk fa pp gg jj qq mp fx tn mn oq pq fo ca hr fd) → va_S A s.heap H locs → lv_has ls 7 [(0, .ref (h 0)), (1, .int x1), (2, .int x2), (3, .int x3)] → W p l e (headSpec ws_M_isWhole { frames := 5, cells := 0, slots := 0, locals := 108 }).room s m args below meth c H locs 0 0 Q (F0 m 67 ls [.int s0]) := by
    intro tn x1 x2 x3 s0 H locs ls hf hP hD hS hl
    unfold f_M_isWhole_67 at hf
    refine lv_iload_n hx hb d_M_isWhole_67 rfl (lv_at hl 2 rfl) ?_
    refine lv_sipush (v := 268) hx hb d_M_isWhole_68 (by decide) ?_
    refine lv_icmp_le (tgt := 78) hx hb d_M_isWhole_71 (by decide) (fun c_1 => ?_) (fun c_1 => ?_)
    · have hf := ite_t c_1 hf
      refine lv_iconst (v := 0) hx hb d_M_isWhole_78 (by decide) ?_
      exact hj_79 tn x1 x2 x3 s0 ((0 : Int32)) _ _ _ hf hP hD hS (lv_sub hl [0, 1, 2, 3] rfl)
    · have hf := ite_f c_1 hf
      refine lv_iconst (v := 1) hx hb d_M_isWhole_74 (by decide) ?_
      refine lv_goto (tgt := 79) hx hb d_M_isWhole_75 (by decide) ?_
      exact hj_79 tn x1 x2 x3 s0 ((1 : Int32)) _ _ _ hf hP hD hS (lv_sub hl [0, 1, 2, 3] rfl)
  have hj_55 : ∀ (tn : Nat → Int32) (x1 : Int32) (x2 : Int32) (s0 : Int32) (H : Heap) (locs : List Loc) (ls : Array Slot), f_M_isWhole_55 N nb dk gg mp fx tn x1 x2 s0 = some (r, tn') → va_P (dC, dI) clAll (wM h cI cB cZ th nb dk lk fa pp gg jj qq mp fx tn mn oq pq fo ca hr fd) H → va_D A (wM h cI cB cZ th nb dk lk fa pp gg jj qq mp fx tn mn oq pq fo ca hr fd) → va_S A s.heap H locs → lv_has ls 7 [(0, .ref (h 0)), (1, .int x1), (2, .int x2)] → W p l e (headSpec ws_M_isWhole { frames := 5, cells := 0, slots := 0, locals := 108 }).room s m args below meth c H locs 0 0 Q (F0 m 55 ls [.int s0]) := by
    intro tn x1 x2 s0 H locs ls hf hP hD hS hl
    unfold f_M_isWhole_55 at hf
    refine lv_istore_n (lv' := [(3, .int s0), (0, .ref (h 0)), (1, .int x1), (2, .int x2)]) hx hb d_M_isWhole_55 rfl hl (by decide) rfl (fun ls hl => ?_)
    refine lv_iload_n hx hb d_M_isWhole_56 rfl (lv_at hl 3 rfl) ?_
    refine lv_bipush (v := 12) hx hb d_M_isWhole_57 (by decide) ?_
    refine lv_icmp_le (tgt := 66) hx hb d_M_isWhole_59 (by decide) (fun c_1 => ?_) (fun c_1 => ?_)
    · have hf := ite_t c_1 hf
      refine lv_iconst (v := 0) hx hb d_M_isWhole_66 (by decide) ?_
      exact hj_67 tn x1 x2 s0 ((0 : Int32)) _ _ _ hf hP hD hS (lv_sub hl [1, 2, 3, 0] rfl)
    · have hf := ite_f c_1 hf
      refine lv_iconst (v := 1) hx hb d_M_isWhole_62 (by decide) ?_
      refine lv_goto (tgt := 67) hx hb d_M_isWhole_63 (by decide) ?_
      exact hj_67 tn x1 x2 s0 ((1 : Int32)) _ _ _ hf hP hD hS (lv_sub hl [1, 2, 3, 0] rfl)
  unfold f_M_isWhole at hf
  refine lv_aload_n hx hb d_M_isWhole_0 rfl (lv_at hl 0 rfl) ?_
  refine lv_iload_n hx hb d_M_isWhole_1 rfl (lv_at hl 1 rfl) ?_
  obtain ⟨r_1, hc_2, hf⟩ := bd1_s hf
  refine ucVl (As := [.int a1]) (rest := []) ⟨hx, hb, hml, hown, htb⟩ hK hP hD hS hA (fun hs => c_M_sizeOfInode hc_2) (cwV 1 htb (gV tw_936 tw_938 tw_49 tw_74 tw_939) rfl rfl rfl (by decide +kernel) ⟨Nat.le_of_ble_eq_true rfl, Nat.le_of_ble_eq_true rfl⟩) 0 5 rfl rfl rfl rfl rfl hl.1 (Nat.le_of_ble_eq_true rfl) d_M_isWhole_2 ⟨Nat.zero_le _, Nat.zero_le _⟩ (fun H locs hP hD hS => ?_)
  refine lv_ldc2 (v := 1024) hx hb hown (htb _ tw_837) d_M_isWhole_5 ?_
  refine lv_aload_n hx hb d_M_isWhole_8 rfl (lv_at hl 0 rfl) ?_
  refine va_get (D := (dC, dI)) (ci := 5) (v := .int nb) (C := R_M) (T := T_M) (N := 19) hx hb htb in_M hown hK hP 0 rfl rfl 1 (by decide) (htb _ tw_767) (fun _ h9 => h9) rfl d_M_isWhole_9 ?_
  refine lv_i2l hx hb d_M_isWhole_12 rfl ?_
  refine lv_lmul hx hb d_M_isWhole_13 ?_
  refine lc_le (tgt := 20) hx hb d_M_isWhole_14 d_M_isWhole_15 (by decide) (fun c_3 => ?_) (fun c_3 => ?_)
  · have hf := ite_t c_3 hf
    refine lv_aload_n hx hb d_M_isWhole_20 rfl (lv_at hl 0 rfl) ?_
    refine lv_iload_n hx hb d_M_isWhole_21 rfl (lv_at hl 1 rfl) ?_
    obtain ⟨r_4, hc_5, hf⟩ := bd1_s hf
    refine ucVl (As := [.int a1]) (rest := []) ⟨hx, hb, hml, hown, htb⟩ hK hP hD hS hA (fun hs => c_M_sizeOfInode hc_5) (cwV 1 htb (gV tw_936 tw_938 tw_49 tw_74 tw_939) rfl rfl rfl (by decide +kernel) ⟨Nat.le_of_ble_eq_true rfl, Nat.le_of_ble_eq_true rfl⟩) 0 5 rfl rfl rfl rfl rfl hl.1 (Nat.le_of_ble_eq_true rfl) d_M_isWhole_22 ⟨Nat.zero_le _, Nat.zero_le _⟩ (fun H locs hP hD hS => ?_)
    refine lv_l2i hx hb d_M_isWhole_25 rfl ?_
    refine lv_sipush (v := 1024) hx hb d_M_isWhole_26 (by decide) ?_
    obtain ⟨r_6, hc_7, hf⟩ := bd1_s hf
    refine ucSi (As := [.int (Int64.toInt32 r_4), .int ((1024 : Int32))]) (rest := []) ⟨hx, hb, hml, hown, htb⟩ hK hP hD hS hA (fun hs => c_M_parts hc_7) (va_cwS 2 htb (gS tw_940 tw_941 tw_74 tw_942) rfl rfl rfl (by decide +kernel) ⟨Nat.le_of_ble_eq_true rfl, Nat.le_of_ble_eq_true rfl⟩) rfl rfl hl.1 (Nat.le_of_ble_eq_true rfl) d_M_isWhole_29 ⟨Nat.zero_le _, Nat.zero_le _⟩ (fun H locs hP hD hS => ?_)
    refine lv_istore_n (lv' := [(2, .int r_6), (0, .ref (h 0)), (1, .int a1)]) hx hb d_M_isWhole_32 rfl hl (by decide) rfl (fun ls hl => ?_)
    refine lv_iload_n hx hb d_M_isWhole_33 rfl (lv_at hl 0 rfl) ?_
    refine lv_sipush (v := 268) hx hb d_M_isWhole_34 (by decide) ?_
    refine lv_icmp_le (tgt := 54) hx hb d_M_isWhole_37 (by decide) (fun c_8 => ?_) (fun c_8 => ?_)
    · have hf := ite_t c_8 hf
      refine lv_iconst (v := 0) hx hb d_M_isWhole_54 (by decide) ?_
      exact hj_55 tn a1 r_6 ((0 : Int32)) _ _ _ hf hP hD hS (lv_sub hl [1, 2, 0] rfl)
    · have hf := ite_f c_8 hf
      refine lv_iload_n hx hb d_M_isWhole_40 rfl (lv_at hl 0 rfl) ?_
      refine lv_sipush (v := 268) hx hb d_M_isWhole_41 (by decide) ?_
      refine lv_isub hx hb d_M_isWhole_44 ?_
      refine lv_sipush (v := 256) hx hb d_M_isWhole_45 (by decide) ?_
      obtain ⟨r_9, hc_10, hf⟩ := bd1_s hf
      refine ucSi (As := [.int (r_6 - ((268 : Int32))), .int ((256 : Int32))]) (rest := []) ⟨hx, hb, hml, hown, htb⟩ hK hP hD hS hA (fun hs => c_M_parts hc_10) (va_cwS 2 htb (gS tw_940 tw_941 tw_74 tw_942) rfl rfl rfl (by decide +kernel) ⟨Nat.le_of_ble_eq_true rfl, Nat.le_of_ble_eq_true rfl⟩) rfl rfl hl.1 (Nat.le_of_ble_eq_true rfl) d_M_isWhole_48 ⟨Nat.zero_le _, Nat.zero_le _⟩ (fun H locs hP hD hS => ?_)
      refine lv_goto (tgt := 55) hx hb d_M_isWhole_51 (by decide) ?_
      exact hj_55 tn a1 r_6 r_9 _ _ _ hf hP hD hS (lv_sub hl [1, 2, 0] rfl)
  · have hf := ite_f c_3 hf
    refine lv_iconst (v := 0) hx hb d_M_isWhole_18 (by decide) ?_
    cases hf
    exact hret _ _ _ _ (Or.inl rfl) hP hD hS d_M_isWhole_19
set_option maxHeartbeats 4000000 in
set_option maxRecDepth 100000 in
theorem c_M_lengthAt {l : Launch} {dC : Nat → ClassId} {dI : Nat → Nat → Nat} {h : Nat → Nat} {cI : ClassId} {cB : ClassId} {cZ : ClassId} {th : Int32} {nb : Int32} {dk : Nat → Int32} {lk : Int32} {fa : Int32} {pp : Int32} {gg : Int32} {jj : Int32} {qq : Int32} {mp : Nat → Int32} {fx : Nat → Int32} {tn : Nat → Int32} {mn : Int32} {oq : Nat → Int32} {pq : Nat → Int32} {fo : Nat → Int32} {ca : Nat → Int32} {hr : Int32} {fd : Int32} {hs : Nat} {a1 : Int32} {r : Int32} (hf : f_M_lengthAt dk a1 = some (r)) : Met l y_M_lengthAt ws_M_lengthAt { frames := 2, cells := 0, slots := 0, locals := 42 } (PcU (dC, dI) clAll [(cI, .int), (cB, .byte), (cZ, .boolean)] (wM h cI cB cZ th nb dk lk fa pp gg jj qq mp fx tn mn oq pq fo ca hr fd) hs [.ref (h 0), .int a1]) (QUi (dC, dI) clAll [(cI, .int), (cB, .byte), (cZ, .boolean)] (wM h cI cB cZ th nb dk lk fa pp gg jj qq mp fx tn mn oq pq fo ca hr fd) (wM h cI cB cZ th nb dk lk fa pp gg jj qq mp fx tn mn oq pq fo ca hr fd) hs r) 0 0 (va_A (wM h cI cB cZ th nb dk lk fa pp gg jj qq mp fx tn mn oq pq fo ca hr fd) hs) := by
  refine mUi (cc := b_M_lengthAt) (maxL := 2) (by decide) rfl (Nat.le_of_ble_eq_true rfl) ?_
  intro p e s m args below meth c Q hx hb hml hts hown A hA hK hP hD hS hret ls hl
  have htb : ∀ w ∈ TB, w.before args s = true := fun w h => hts w (List.mem_cons_of_mem _ h)
  have hl : lv_has ls 2 [(0, .ref (h 0)), (1, .int a1)] := hl
  unfold f_M_lengthAt at hf
  refine lv_aload_n hx hb d_M_lengthAt_0 rfl (lv_at hl 0 rfl) ?_
  refine lv_iload_n hx hb d_M_lengthAt_1 rfl (lv_at hl 1 rfl) ?_
  refine lv_iconst (v := 4) hx hb d_M_lengthAt_2 (by decide) ?_
  refine lv_iadd hx hb d_M_lengthAt_3 ?_
  obtain ⟨r_1, hc_2, hf⟩ := bd1_s hf
  refine ucVi (As := [.int (a1 + ((4 : Int32)))]) (rest := []) ⟨hx, hb, hml, hown, htb⟩ hK hP hD hS hA (fun hs => c_M_two hc_2) (cwV 1 htb (gV tw_878 tw_880 tw_37 tw_74 tw_881) rfl rfl rfl (by decide +kernel) ⟨Nat.le_of_ble_eq_true rfl, Nat.le_of_ble_eq_true rfl⟩) 0 5 rfl rfl rfl rfl rfl hl.1 (Nat.le_of_ble_eq_true rfl) d_M_lengthAt_4 ⟨Nat.zero_le _, Nat.zero_le _⟩ (fun H locs hP hD hS => ?_)
  cases hf
  exact hret _ _ _ _ hP hD hS d_M_lengthAt_7
set_option maxHeartbeats 4000000 in
set_option maxRecDepth 100000 in
theorem c_M_nameSize {l : Launch} {dC : Nat → ClassId} {dI : Nat → Nat → Nat} {h : Nat → Nat} {cI : ClassId} {cB : ClassId} {cZ : ClassId} {th : Int32} {nb : Int32} {dk : Nat → Int32} {lk : Int32} {fa : Int32} {pp : Int32} {gg : Int32} {jj : Int32} {qq : Int32} {mp : Nat → Int32} {fx : Nat → Int32} {tn : Nat → Int32} {mn : Int32} {oq : Nat → Int32} {pq : Nat → Int32} {fo : Nat → Int32} {ca : Nat → Int32} {hr : Int32} {fd : Int32} {hs : Nat} {a1 : Int32} {r : Int32} (hf : f_M_nameSize dk a1 = some (r)) : Met l y_M_nameSize ws_M_nameSize { frames := 1, cells := 0, slots := 0, locals := 21 } (PcU (dC, dI) clAll [(cI, .int), (cB, .byte), (cZ, .boolean)] (wM h cI cB cZ th nb dk lk fa pp gg jj qq mp fx tn mn oq pq fo ca hr fd) hs [.ref (h 0), .int a1]) (QUi (dC, dI) clAll [(cI, .int), (cB, .byte), (cZ, .boolean)] (wM h cI cB cZ th nb dk lk fa pp gg jj qq mp fx tn mn oq pq fo ca hr fd) (wM h cI cB cZ th nb dk lk fa pp gg jj qq mp fx tn mn oq pq fo ca hr fd) hs r) 0 0 (va_A (wM h cI cB cZ th nb dk lk fa pp gg jj qq mp fx tn mn oq pq fo ca hr fd) hs) := by
  refine mUi (cc := b_M_nameSize) (maxL := 2) (by decide) rfl (Nat.le_of_ble_eq_true rfl) ?_
  intro p e s m args below meth c Q hx hb hml hts hown A hA hK hP hD hS hret ls hl
  have htb : ∀ w ∈ TB, w.before args s = true := fun w h => hts w (List.mem_cons_of_mem _ h)
  have hl : lv_has ls 2 [(0, .ref (h 0)), (1, .int a1)] := hl
  unfold f_M_nameSize at hf
  refine lv_aload_n hx hb d_M_nameSize_0 rfl (lv_at hl 0 rfl) ?_
  refine lv_iload_n hx hb d_M_nameSize_1 rfl (lv_at hl 1 rfl) ?_
  refine lv_bipush (v := 6) hx hb d_M_nameSize_2 (by decide) ?_
  refine lv_iadd hx hb d_M_nameSize_4 ?_
  obtain ⟨r_1, hc_2, hf⟩ := bd1_s hf
  refine ucVi (As := [.int (a1 + ((6 : Int32)))]) (rest := []) ⟨hx, hb, hml, hown, htb⟩ hK hP hD hS hA (fun hs => c_M_one hc_2) (cwV 1 htb (gV tw_854 tw_856 tw_32 tw_74 tw_857) rfl rfl rfl (by decide +kernel) ⟨Nat.le_of_ble_eq_true rfl, Nat.le_of_ble_eq_true rfl⟩) 0 5 rfl rfl rfl rfl rfl hl.1 (Nat.le_of_ble_eq_true rfl) d_M_nameSize_5 ⟨Nat.zero_le _, Nat.zero_le _⟩ (fun H locs hP hD hS => ?_)
  cases hf
  exact hret _ _ _ _ hP hD hS d_M_nameSize_8
set_option maxHeartbeats 4000000 in
set_option maxRecDepth 100000 in
theorem c_M_isDots {l : Launch} {dC : Nat → ClassId} {dI : Nat → Nat → Nat} {N : Nat} {h : Nat → Nat} {cI : ClassId} {cB : ClassId} {cZ : ClassId} {th : Int32} {nb : Int32} {dk : Nat → Int32} {lk : Int32} {fa : Int32} {pp : Int32} {gg : Int32} {jj : Int32} {qq : Int32} {mp : Nat → Int32} {fx : Nat → Int32} {tn : Nat → Int32} {mn : Int32} {oq : Nat → Int32} {pq : Nat → Int32} {fo : Nat → Int32} {ca : Nat → Int32} {hr : Int32} {fd : Int32} {hs : Nat} {a1 : Int32} {a2 : Int32} {r : Int32} (hf : f_M_isDots N dk a1 a2 = some (r)) : Met l y_M_isDots ws_M_isDots { frames := 2, cells := 0, slots := 0, locals := 42 } (PcU (dC, dI) clAll [(cI, .int), (cB, .byte), (cZ, .boolean)] (wM h cI cB cZ th nb dk lk fa pp gg jj qq mp fx tn mn oq pq fo ca hr fd) hs [.ref (h 0), .int a1, .int a2]) (QUi (dC, dI) clAll [(cI, .int), (cB, .byte), (cZ, .boolean)] (wM h cI cB cZ th nb dk lk fa pp gg jj qq mp fx tn mn oq pq fo ca hr fd) (wM h cI cB cZ th nb dk lk fa pp gg jj qq mp fx tn mn oq pq fo ca hr fd) hs r) 0 0 (va_A (wM h cI cB cZ th nb dk lk fa pp gg jj qq mp fx tn mn oq pq fo ca hr fd) hs) := by
  refine mUz (cc := b_M_isDots) (maxL := 5) (by decide) rfl (Nat.le_of_ble_eq_true rfl) ?_
  intro p e s m args below meth c Q hx hb hml hts hown A hA hK hP hD hS hret ls hl
  have htb : ∀ w ∈ TB, w.before args s = true := fun w h => hts w (List.mem_cons_of_mem _ h)
  have hl : lv_has ls 5 [(0, .ref (h 0)), (1, .int a1), (2, .int a2)] := hl
  have hj_18 : ∀ (k_18 : Nat) (x1 : Int32) (x2 : Int32) (x3 : Int32) (x4 : Int32) (H : Heap) (locs : List Loc) (ls : Array Slot), f_M_isDots_18 N dk k_18 x1 x2 x3 x4 = some (r) → va_P (dC, dI) clAll (wM h cI cB cZ th nb dk lk fa pp gg jj qq mp fx tn mn oq pq fo ca hr fd) H → va_D A (wM h cI cB cZ th nb dk lk fa pp gg jj qq mp fx tn mn oq pq fo ca hr fd) → va_S A s.heap H locs → lv_has ls 5 [(0, .ref (h 0)), (1, .int x1), (2, .int x2), (3, .int x3), (4, .int x4)] → W p l e (headSpec ws_M_isDots { frames := 2, cells := 0, slots := 0, locals := 42 }).room s m args below meth c H locs 0 0 Q (F0 m 18 ls []) := by
    intro k_18
    induction k_18 with
    | zero => intro _ _ _ _ _ _ _ hf; exact absurd hf (by simp [f_M_isDots_18])
    | succ k_18 ih_18 =>
      intro x1 x2 x3 x4 H locs ls hf hP hD hS hl
      rw [f_M_isDots_18] at hf
      refine lv_iload hx hb d_M_isDots_18 (lv_at hl 4 rfl) ?_
      refine lv_iload_n hx hb d_M_isDots_20 rfl (lv_at hl 2 rfl) ?_
      refine lv_icmp_ge (tgt := 56) hx hb d_M_isDots_21 (by decide) (fun c_1 => ?_) (fun c_1 => ?_)
      · have hf := ite_t c_1 hf
        refine lv_iload_n hx hb d_M_isDots_56 rfl (lv_at hl 3 rfl) ?_
        obtain ⟨c_2, hf⟩ := gp_s hf
        cases hf
        exact hret _ _ _ _ c_2 hP hD hS d_M_isDots_57
      · have hf := ite_f c_1 hf
        refine lv_iload_n hx hb d_M_isDots_24 rfl (lv_at hl 3 rfl) ?_
        refine lv_if_eq (tgt := 56) hx hb d_M_isDots_25 (by decide) (fun c_3 => ?_) (fun c_3 => ?_)
        · have hf := ite_t c_3 hf
          refine lv_iload_n hx hb d_M_isDots_56 rfl (lv_at hl 3 rfl) ?_
          obtain ⟨c_4, hf⟩ := gp_s hf
          cases hf
          exact hret _ _ _ _ c_4 hP hD hS d_M_isDots_57
        · have hf := ite_f c_3 hf
          refine lv_aload_n hx hb d_M_isDots_28 rfl (lv_at hl 0 rfl) ?_
          refine lv_iload_n hx hb d_M_isDots_29 rfl (lv_at hl 1 rfl) ?_
          refine lv_bipush (v := 8) hx hb d_M_isDots_30 (by decide) ?_
          refine lv_iadd hx hb d_M_isDots_32 ?_
          refine lv_iload hx hb d_M_isDots_33 (lv_at hl 4 rfl) ?_
          refine lv_iadd hx hb d_M_isDots_35 ?_
          obtain ⟨r_5, hc_6, hf⟩ := bd1_s hf
          refine ucVi (As := [.int ((x1 + ((8 : Int32))) + x4)]) (rest := []) ⟨hx, hb, hml, hown, htb⟩ hK hP hD hS hA (fun hs => c_M_one hc_6) (cwV 1 htb (gV tw_854 tw_856 tw_32 tw_74 tw_857) rfl rfl rfl (by decide +kernel) ⟨Nat.le_of_ble_eq_true rfl, Nat.le_of_ble_eq_true rfl⟩) 0 5 rfl rfl rfl rfl rfl hl.1 (Nat.le_of_ble_eq_true rfl) d_M_isDots_36 ⟨Nat.zero_le _, Nat.zero_le _⟩ (fun H locs hP hD hS => ?_)
          refine lv_bipush (v := 46) hx hb d_M_isDots_39 (by decide) ?_
          refine lv_icmp_ne (tgt := 48) hx hb d_M_isDots_41 (by decide) (fun c_7 => ?_) (fun c_7 => ?_)
          · have hf := ite_f c_7 hf
            refine lv_iconst (v := 0) hx hb d_M_isDots_48 (by decide) ?_
            refine lv_istore_n (lv' := [(3, .int ((0 : Int32))), (0, .ref (h 0)), (1, .int x1), (2, .int x2), (4, .int x4)]) hx hb d_M_isDots_49 rfl hl (by decide) rfl (fun ls hl => ?_)
            obtain ⟨v4_8, ev4_8, hf⟩ := lt1_s hf
            refine lv_iinc (v := v4_8) (lv' := [(4, .int v4_8), (3, .int ((0 : Int32))), (0, .ref (h 0)), (1, .int x1), (2, .int x2)]) hx hb d_M_isDots_50 hl (k := 4) rfl (by rw [← ev4_8]; rfl) (by decide) rfl (fun ls hl => ?_)
            refine lv_goto (tgt := 18) hx hb d_M_isDots_53 (by decide) ?_
            exact ih_18 x1 x2 ((0 : Int32)) v4_8 _ _ _ hf hP hD hS (lv_sub hl [2, 3, 4, 1, 0] rfl)
          · have hf := ite_t c_7 hf
            refine lv_iconst (v := 1) hx hb d_M_isDots_44 (by decide) ?_
            refine lv_goto (tgt := 49) hx hb d_M_isDots_45 (by decide) ?_
            refine lv_istore_n (lv' := [(3, .int ((1 : Int32))), (0, .ref (h 0)), (1, .int x1), (2, .int x2), (4, .int x4)]) hx hb d_M_isDots_49 rfl hl (by decide) rfl (fun ls hl => ?_)
            obtain ⟨v4_9, ev4_9, hf⟩ := lt1_s hf
            refine lv_iinc (v := v4_9) (lv' := [(4, .int v4_9), (3, .int ((1 : Int32))), (0, .ref (h 0)), (1, .int x1), (2, .int x2)]) hx hb d_M_isDots_50 hl (k := 4) rfl (by rw [← ev4_9]; rfl) (by decide) rfl (fun ls hl => ?_)
            refine lv_goto (tgt := 18) hx hb d_M_isDots_53 (by decide) ?_
            exact ih_18 x1 x2 ((1 : Int32)) v4_9 _ _ _ hf hP hD hS (lv_sub hl [2, 3, 4, 1, 0] rfl)
  unfold f_M_isDots at hf
  refine lv_aload_n hx hb d_M_isDots_0 rfl (lv_at hl 0 rfl) ?_
  refine lv_iload_n hx hb d_M_isDots_1 rfl (lv_at hl 1 rfl) ?_
  obtain ⟨r_1, hc_2, hf⟩ := bd1_s hf
  refine ucVi (As := [.int a1]) (rest := []) ⟨hx, hb, hml, hown, htb⟩ hK hP hD hS hA (fun hs => c_M_nameSize hc_2) (cwV 1 htb (gV tw_971 tw_973 tw_57 tw_74 tw_974) rfl rfl rfl (by decide +kernel) ⟨Nat.le_of_ble_eq_true rfl, Nat.le_of_ble_eq_true rfl⟩) 0 5 rfl rfl rfl rfl rfl hl.1 (Nat.le_of_ble_eq_true rfl) d_M_isDots_2 ⟨Nat.zero_le _, Nat.zero_le _⟩ (fun H locs hP hD hS => ?_)
  refine lv_iload_n hx hb d_M_isDots_5 rfl (lv_at hl 2 rfl) ?_
  refine lv_icmp_ne (tgt := 13) hx hb d_M_isDots_6 (by decide) (fun c_3 => ?_) (fun c_3 => ?_)
  · have hf := ite_f c_3 hf
    refine lv_iconst (v := 0) hx hb d_M_isDots_13 (by decide) ?_
    refine lv_istore_n (lv' := [(3, .int ((0 : Int32))), (0, .ref (h 0)), (1, .int a1), (2, .int a2)]) hx hb d_M_isDots_14 rfl hl (by decide) rfl (fun ls hl => ?_)
    refine lv_iconst (v := 0) hx hb d_M_isDots_15 (by decide) ?_
    refine lv_istore (lv' := [(4, .int ((0 : Int32))), (3, .int ((0 : Int32))), (0, .ref (h 0)), (1, .int a1), (2, .int a2)]) hx hb d_M_isDots_16 hl (by decide) rfl (fun ls hl => ?_)
    exact hj_18 N a1 a2 ((0 : Int32)) ((0 : Int32)) _ _ _ hf hP hD hS (lv_sub hl [2, 3, 4, 1, 0] rfl)
  · have hf := ite_t c_3 hf
    refine lv_iconst (v := 1) hx hb d_M_isDots_9 (by decide) ?_
    refine lv_goto (tgt := 14) hx hb d_M_isDots_10 (by decide) ?_
    refine lv_istore_n (lv' := [(3, .int ((1 : Int32))), (0, .ref (h 0)), (1, .int a1), (2, .int a2)]) hx hb d_M_isDots_14 rfl hl (by decide) rfl (fun ls hl => ?_)
    refine lv_iconst (v := 0) hx hb d_M_isDots_15 (by decide) ?_
    refine lv_istore (lv' := [(4, .int ((0 : Int32))), (3, .int ((1 : Int32))), (0, .ref (h 0)), (1, .int a1), (2, .int a2)]) hx hb d_M_isDots_16 hl (by decide) rfl (fun ls hl => ?_)
    exact hj_18 N a1 a2 ((1 : Int32)) ((0 : Int32)) _ _ _ hf hP hD hS (lv_sub hl [2, 3, 4, 1, 0] rfl)
set_option maxHeartbeats 4000000 in
set_option maxRecDepth 100000 in
theorem c_M_isEntry {l : Launch} {dC : Nat → ClassId} {dI : Nat → Nat → Nat} {N : Nat} {h : Nat → Nat} {cI : ClassId} {cB : ClassId} {cZ : ClassId} {th : Int32} {nb : Int32} {dk : Nat → Int32} {lk : Int32} {fa : Int32} {pp : Int32} {gg : Int32} {jj : Int32} {qq : Int32} {mp : Nat → Int32} {fx : Nat → Int32} {tn : Nat → Int32} {mn : Int32} {oq : Nat → Int32} {pq : Nat → Int32} {fo : Nat → Int32} {ca : Nat → Int32} {hr : Int32} {fd : Int32} {hs : Nat} {a1 : Int32} {a2 : Int32} {a3 : Int32} {a4 : Int32} {r : Int32} (hf : f_M_isEntry N dk gg qq mp pq a1 a2 a3 a4 = some (r)) : Met l y_M_isEntry ws_M_isEntry { frames := 3, cells := 0, slots := 0, locals := 66 } (PcU (dC, dI) clAll [(cI, .int), (cB, .byte), (cZ, .boolean)] (wM h cI cB cZ th nb dk lk fa pp gg jj qq mp fx tn mn oq pq fo ca hr fd) hs [.ref (h 0), .int a1, .int a2, .int a3, .int a4]) (QUi (dC, dI) clAll [(cI, .int), (cB, .byte), (cZ, .boolean)] (wM h cI cB cZ th nb dk lk fa pp gg jj qq mp fx tn mn oq pq fo ca hr fd) (wM h cI cB cZ th nb dk lk fa pp gg jj qq mp fx tn mn oq pq fo ca hr fd) hs r) 0 0 (va_A (wM h cI cB cZ th nb dk lk fa pp gg jj qq mp fx tn mn oq pq fo ca hr fd) hs) := by
  refine mUz (cc := b_M_isEntry) (maxL := 11) (by decide) rfl (Nat.le_of_ble_eq_true rfl) ?_
  intro p e s m args below meth c Q hx hb hml hts hown A hA hK hP hD hS hret ls hl
  have htb : ∀ w ∈ TB, w.before args s = true := fun w h => hts w (List.mem_cons_of_mem _ h)
  have hl : lv_has ls 11 [(0, .ref (h 0)), (1, .int a1), (2, .int a2), (3, .int a3), (4, .int a4)] := hl
  have hj_282 : ∀ (s0 : Int32) (s1 : Int32) (H : Heap) (locs : List Loc) (ls : Array Slot), f_M_isEntry_282 N dk gg qq mp pq s0 s1 = some (r) → va_P (dC, dI) clAll (wM h cI cB cZ th nb dk lk fa pp gg jj qq mp fx tn mn oq pq fo ca hr fd) H → va_D A (wM h cI cB cZ th nb dk lk fa pp gg jj qq mp fx tn mn oq pq fo ca hr fd) → va_S A s.heap H locs → lv_has ls 11 [] → W p l e (headSpec ws_M_isEntry { frames := 3, cells := 0, slots := 0, locals := 66 }).room s m args below meth c H locs 0 0 Q (F0 m 282 ls [.int s1, .int s0]) := by
    intro s0 s1 H locs ls hf hP hD hS hl
    unfold f_M_isEntry_282 at hf
    refine lv_icmp_ne (tgt := 289) hx hb d_M_isEntry_282 (by decide) (fun c_1 => ?_) (fun c_1 => ?_)
    · have hf := ite_f c_1 hf
      refine lv_iconst (v := 0) hx hb d_M_isEntry_289 (by decide) ?_
      cases hf
      exact hret _ _ _ _ (Or.inl rfl) hP hD hS d_M_isEntry_290
    · have hf := ite_t c_1 hf
      refine lv_iconst (v := 1) hx hb d_M_isEntry_285 (by decide) ?_
      refine lv_goto (tgt := 290) hx hb d_M_isEntry_286 (by decide) ?_
      cases hf
      exact hret _ _ _ _ (Or.inr rfl) hP hD hS d_M_isEntry_290
  have hj_261 : ∀ (x2 : Int32) (x10 : Int32) (H : Heap) (locs : List Loc) (ls : Array Slot), f_M_isEntry_261 N dk gg qq mp pq x2 x10 = some (r) → va_P (dC, dI) clAll (wM h cI cB cZ th nb dk lk fa pp gg jj qq mp fx tn mn oq pq fo ca hr fd) H → va_D A (wM h cI cB cZ th nb dk lk fa pp gg jj qq mp fx tn mn oq pq fo ca hr fd) → va_S A s.heap H locs → lv_has ls 11 [(0, .ref (h 0)), (2, .int x2), (10, .int x10)] → W p l e (headSpec ws_M_isEntry { frames := 3, cells := 0, slots := 0, locals := 66 }).room s m args below meth c H locs 0 0 Q (F0 m 261 ls []) := by
    intro x2 x10 H locs ls hf hP hD hS hl
    unfold f_M_isEntry_261 at hf
    refine lv_aload_n hx hb d_M_isEntry_261 rfl (lv_at hl 0 rfl) ?_
    refine lv_iload_n hx hb d_M_isEntry_262 rfl (lv_at hl 1 rfl) ?_
    refine lv_bipush (v := 7) hx hb d_M_isEntry_263 (by decide) ?_
    refine lv_iadd hx hb d_M_isEntry_265 ?_
    obtain ⟨r_1, hc_2, hf⟩ := bd1_s hf
    refine ucVi (As := [.int (x2 + ((7 : Int32)))]) (rest := []) ⟨hx, hb, hml, hown, htb⟩ hK hP hD hS hA (fun hs => c_M_one hc_2) (cwV 1 htb (gV tw_854 tw_856 tw_32 tw_74 tw_857) rfl rfl rfl (by decide +kernel) ⟨Nat.le_of_ble_eq_true rfl, Nat.le_of_ble_eq_true rfl⟩) 0 5 rfl rfl rfl rfl rfl hl.1 (Nat.le_of_ble_eq_true rfl) d_M_isEntry_266 ⟨Nat.zero_le _, Nat.zero_le _⟩ (fun H locs hP hD hS => ?_)
    refine lv_iload hx hb d_M_isEntry_269 (lv_at hl 2 rfl) ?_
    refine lv_sipush (v := 16384) hx hb d_M_isEntry_271 (by decide) ?_
    refine lv_icmp_ne (tgt := 281) hx hb d_M_isEntry_274 (by decide) (fun c_3 => ?_) (fun c_3 => ?_)
    · have hf := ite_f c_3 hf
      refine lv_iconst (v := 1) hx hb d_M_isEntry_281 (by decide) ?_
      exact hj_282 r_1 ((1 : Int32)) _ _ _ hf hP hD hS (lv_sub hl [] rfl)
    · have hf := ite_t c_3 hf
      refine lv_iconst (v := 2) hx hb d_M_isEntry_277 (by decide) ?_
      refine lv_goto (tgt := 282) hx hb d_M_isEntry_278 (by decide) ?_
      exact hj_282 r_1 ((2 : Int32)) _ _ _ hf hP hD hS (lv_sub hl [] rfl)
  have hj_190 : ∀ (x2 : Int32) (s0 : Int32) (s1 : Int32) (H : Heap) (locs : List Loc) (ls : Array Slot), f_M_isEntry_190 N dk gg qq mp pq x2 s0 s1 = some (r) → va_P (dC, dI) clAll (wM h cI cB cZ th nb dk lk fa pp gg jj qq mp fx tn mn oq pq fo ca hr fd) H → va_D A (wM h cI cB cZ th nb dk lk fa pp gg jj qq mp fx tn mn oq pq fo ca hr fd) → va_S A s.heap H locs → lv_has ls 11 [(0, .ref (h 0)), (2, .int x2)] → W p l e (headSpec ws_M_isEntry { frames := 3, cells := 0, slots := 0, locals := 66 }).room s m args below meth c H locs 0 0 Q (F0 m 190 ls [.int s1, .int s0]) := by
    intro x2 s0 s1 H locs ls hf hP hD hS hl
    unfold f_M_isEntry_190 at hf
    refine lv_icmp_ne (tgt := 209) hx hb d_M_isEntry_190 (by decide) (fun c_1 => ?_) (fun c_1 => ?_)
    · have hf := ite_f c_1 hf
      refine lv_iconst (v := 0) hx hb d_M_isEntry_209 (by decide) ?_
      cases hf
      exact hret _ _ _ _ (Or.inl rfl) hP hD hS d_M_isEntry_210
    · have hf := ite_t c_1 hf
      refine lv_aload_n hx hb d_M_isEntry_193 rfl (lv_at hl 0 rfl) ?_
      refine lv_iload_n hx hb d_M_isEntry_194 rfl (lv_at hl 1 rfl) ?_
      refine lv_bipush (v := 7) hx hb d_M_isEntry_195 (by decide) ?_
      refine lv_iadd hx hb d_M_isEntry_197 ?_
      obtain ⟨r_2, hc_3, hf⟩ := bd1_s hf
      refine ucVi (As := [.int (x2 + ((7 : Int32)))]) (rest := []) ⟨hx, hb, hml, hown, htb⟩ hK hP hD hS hA (fun hs => c_M_one hc_3) (cwV 1 htb (gV tw_854 tw_856 tw_32 tw_74 tw_857) rfl rfl rfl (by decide +kernel) ⟨Nat.le_of_ble_eq_true rfl, Nat.le_of_ble_eq_true rfl⟩) 0 5 rfl rfl rfl rfl rfl hl.1 (Nat.le_of_ble_eq_true rfl) d_M_isEntry_198 ⟨Nat.zero_le _, Nat.zero_le _⟩ (fun H locs hP hD hS => ?_)
      refine lv_iconst (v := 2) hx hb d_M_isEntry_201 (by decide) ?_
      refine lv_icmp_ne (tgt := 209) hx hb d_M_isEntry_202 (by decide) (fun c_4 => ?_) (fun c_4 => ?_)
      · have hf := ite_f c_4 hf
        refine lv_iconst (v := 0) hx hb d_M_isEntry_209 (by decide) ?_
        cases hf
        exact hret _ _ _ _ (Or.inl rfl) hP hD hS d_M_isEntry_210
      · have hf := ite_t c_4 hf
        refine lv_iconst (v := 1) hx hb d_M_isEntry_205 (by decide) ?_
        refine lv_goto (tgt := 210) hx hb d_M_isEntry_206 (by decide) ?_
        cases hf
        exact hret _ _ _ _ (Or.inr rfl) hP hD hS d_M_isEntry_210
  have hj_108 : ∀ (k_108 : Nat) (x1 : Int32) (x2 : Int32) (x3 : Int32) (x6 : Int64) (x8 : Int32) (x9 : Int32) (H : Heap) (locs : List Loc) (ls : Array Slot), f_M_isEntry_108 N dk gg qq mp pq k_108 x1 x2 x3 x6 x8 x9 = some (r) → va_P (dC, dI) clAll (wM h cI cB cZ th nb dk lk fa pp gg jj qq mp fx tn mn oq pq fo ca hr fd) H → va_D A (wM h cI cB cZ th nb dk lk fa pp gg jj qq mp fx tn mn oq pq fo ca hr fd) → va_S A s.heap H locs → lv_has ls 11 [(0, .ref (h 0)), (1, .int x1), (2, .int x2), (3, .int x3), (6, .long x6), (8, .int x8), (9, .int x9)] → W p l e (headSpec ws_M_isEntry { frames := 3, cells := 0, slots := 0, locals := 66 }).room s m args below meth c H locs 0 0 Q (F0 m 108 ls []) := by
    intro k_108
    induction k_108 with
    | zero => intro _ _ _ _ _ _ _ _ _ hf; exact absurd hf (by simp [f_M_isEntry_108])
    | succ k_108 ih_108 =>
      intro x1 x2 x3 x6 x8 x9 H locs ls hf hP hD hS hl
      rw [f_M_isEntry_108] at hf
      refine lv_iload hx hb d_M_isEntry_108 (lv_at hl 6 rfl) ?_
      refine lv_iload hx hb d_M_isEntry_110 (lv_at hl 5 rfl) ?_
      refine lv_icmp_ge (tgt := 153) hx hb d_M_isEntry_112 (by decide) (fun c_1 => ?_) (fun c_1 => ?_)
      · have hf := ite_t c_1 hf
        refine lv_lload hx hb d_M_isEntry_153 (lv_at hl 4 rfl) ?_
        refine lv_l2i hx hb d_M_isEntry_155 rfl ?_
        obtain ⟨v9_2, ev9_2, hf⟩ := lt1_s hf
        refine lv_eqi ev9_2 ?_
        refine lv_istore (lv' := [(9, .int v9_2), (0, .ref (h 0)), (1, .int x1), (2, .int x2), (3, .int x3), (6, .long x6), (8, .int x8)]) hx hb d_M_isEntry_156 hl (by decide) rfl (fun ls hl => ?_)
        refine lv_iload_n hx hb d_M_isEntry_158 rfl (lv_at hl 4 rfl) ?_
        refine lv_iconst (v := 2) hx hb d_M_isEntry_159 (by decide) ?_
        refine lv_icmp_ge (tgt := 211) hx hb d_M_isEntry_160 (by decide) (fun c_3 => ?_) (fun c_3 => ?_)
        · have hf := ite_t c_3 hf
          refine lv_aload_n hx hb d_M_isEntry_211 rfl (lv_at hl 1 rfl) ?_
          refine lv_iload hx hb d_M_isEntry_212 (lv_at hl 0 rfl) ?_
          obtain ⟨r_4, hc_5, hf⟩ := bd1_s hf
          refine ucVi (As := [.int v9_2]) (rest := []) ⟨hx, hb, hml, hown, htb⟩ hK hP hD hS hA (fun hs => c_M_typeOf hc_5) (cwV 1 htb (gV tw_923 tw_925 tw_46 tw_74 tw_926) rfl rfl rfl (by decide +kernel) ⟨Nat.le_of_ble_eq_true rfl, Nat.le_of_ble_eq_true rfl⟩) 0 5 rfl rfl rfl rfl rfl hl.1 (Nat.le_of_ble_eq_true rfl) d_M_isEntry_214 ⟨Nat.zero_le _, Nat.zero_le _⟩ (fun H locs hP hD hS => ?_)
          refine lv_istore (lv' := [(10, .int r_4), (9, .int v9_2), (0, .ref (h 0)), (1, .int x1), (2, .int x2), (3, .int x3), (6, .long x6), (8, .int x8)]) hx hb d_M_isEntry_217 hl (by decide) rfl (fun ls hl => ?_)
          refine lv_aload_n hx hb d_M_isEntry_219 rfl (lv_at hl 2 rfl) ?_
          refine lv_iload_n hx hb d_M_isEntry_220 rfl (lv_at hl 4 rfl) ?_
          refine lv_iconst (v := 1) hx hb d_M_isEntry_221 (by decide) ?_
          obtain ⟨r_6, hc_7, hf⟩ := bd1_s hf
          refine ucVi (As := [.int x2, .int ((1 : Int32))]) (rest := []) ⟨hx, hb, hml, hown, htb⟩ hK hP hD hS hA (fun hs => c_M_isDots hc_7) (cwV 2 htb (gV tw_975 tw_977 tw_58 tw_74 tw_978) rfl rfl rfl (by decide +kernel) ⟨Nat.le_of_ble_eq_true rfl, Nat.le_of_ble_eq_true rfl⟩) 0 5 rfl rfl rfl rfl rfl hl.1 (Nat.le_of_ble_eq_true rfl) d_M_isEntry_222 ⟨Nat.zero_le _, Nat.zero_le _⟩ (fun H locs hP hD hS => ?_)
          refine lv_if_ne (tgt := 289) hx hb d_M_isEntry_225 (by decide) (fun c_8 => ?_) (fun c_8 => ?_)
          · have hf := ite_f c_8 hf
            refine lv_iconst (v := 0) hx hb d_M_isEntry_289 (by decide) ?_
            cases hf
            exact hret _ _ _ _ (Or.inl rfl) hP hD hS d_M_isEntry_290
          · have hf := ite_t c_8 hf
            refine lv_aload_n hx hb d_M_isEntry_228 rfl (lv_at hl 2 rfl) ?_
            refine lv_iload_n hx hb d_M_isEntry_229 rfl (lv_at hl 4 rfl) ?_
            refine lv_iconst (v := 2) hx hb d_M_isEntry_230 (by decide) ?_
            obtain ⟨r_9, hc_10, hf⟩ := bd1_s hf
            refine ucVi (As := [.int x2, .int ((2 : Int32))]) (rest := []) ⟨hx, hb, hml, hown, htb⟩ hK hP hD hS hA (fun hs => c_M_isDots hc_10) (cwV 2 htb (gV tw_975 tw_977 tw_58 tw_74 tw_978) rfl rfl rfl (by decide +kernel) ⟨Nat.le_of_ble_eq_true rfl, Nat.le_of_ble_eq_true rfl⟩) 0 5 rfl rfl rfl rfl rfl hl.1 (Nat.le_of_ble_eq_true rfl) d_M_isEntry_231 ⟨Nat.zero_le _, Nat.zero_le _⟩ (fun H locs hP hD hS => ?_)
            refine lv_if_ne (tgt := 289) hx hb d_M_isEntry_234 (by decide) (fun c_11 => ?_) (fun c_11 => ?_)
            · have hf := ite_f c_11 hf
              refine lv_iconst (v := 0) hx hb d_M_isEntry_289 (by decide) ?_
              cases hf
              exact hret _ _ _ _ (Or.inl rfl) hP hD hS d_M_isEntry_290
            · have hf := ite_t c_11 hf
              refine lv_aload_n hx hb d_M_isEntry_237 rfl (lv_at hl 2 rfl) ?_
              refine lv_iload hx hb d_M_isEntry_238 (lv_at hl 1 rfl) ?_
              obtain ⟨r_12, hc_13, hf⟩ := bd1_s hf
              refine ucVi (As := [.int v9_2]) (rest := []) ⟨hx, hb, hml, hown, htb⟩ hK hP hD hS hA (fun hs => c_M_isUsed hc_13) (cwV 1 htb (gV tw_915 tw_917 tw_44 tw_74 tw_918) rfl rfl rfl (by decide +kernel) ⟨Nat.le_of_ble_eq_true rfl, Nat.le_of_ble_eq_true rfl⟩) 0 5 rfl rfl rfl rfl rfl hl.1 (Nat.le_of_ble_eq_true rfl) d_M_isEntry_240 ⟨Nat.zero_le _, Nat.zero_le _⟩ (fun H locs hP hD hS => ?_)
              refine lv_if_eq (tgt := 289) hx hb d_M_isEntry_243 (by decide) (fun c_14 => ?_) (fun c_14 => ?_)
              · have hf := ite_t c_14 hf
                refine lv_iconst (v := 0) hx hb d_M_isEntry_289 (by decide) ?_
                cases hf
                exact hret _ _ _ _ (Or.inl rfl) hP hD hS d_M_isEntry_290
              · have hf := ite_f c_14 hf
                refine lv_iload hx hb d_M_isEntry_246 (lv_at hl 0 rfl) ?_
                refine lv_sipush (v := 16384) hx hb d_M_isEntry_248 (by decide) ?_
                refine lv_icmp_eq (tgt := 261) hx hb d_M_isEntry_251 (by decide) (fun c_15 => ?_) (fun c_15 => ?_)
                · have hf := ite_t c_15 hf
                  exact hj_261 x2 r_4 _ _ _ hf hP hD hS (lv_sub hl [2, 4, 0] rfl)
                · have hf := ite_f c_15 hf
                  refine lv_iload hx hb d_M_isEntry_254 (lv_at hl 0 rfl) ?_
                  refine lv_ldc (v := 32768) hx hb hown (htb _ tw_979) d_M_isEntry_256 ?_
                  refine lv_icmp_ne (tgt := 289) hx hb d_M_isEntry_258 (by decide) (fun c_16 => ?_) (fun c_16 => ?_)
                  · have hf := ite_f c_16 hf
                    refine lv_iconst (v := 0) hx hb d_M_isEntry_289 (by decide) ?_
                    cases hf
                    exact hret _ _ _ _ (Or.inl rfl) hP hD hS d_M_isEntry_290
                  · have hf := ite_t c_16 hf
                    exact hj_261 x2 r_4 _ _ _ hf hP hD hS (lv_sub hl [2, 4, 0] rfl)
        · have hf := ite_f c_3 hf
          refine lv_aload_n hx hb d_M_isEntry_163 rfl (lv_at hl 1 rfl) ?_
          refine lv_iload_n hx hb d_M_isEntry_164 rfl (lv_at hl 3 rfl) ?_
          refine lv_iload_n hx hb d_M_isEntry_165 rfl (lv_at hl 4 rfl) ?_
          refine lv_iconst (v := 1) hx hb d_M_isEntry_166 (by decide) ?_
          refine lv_iadd hx hb d_M_isEntry_167 ?_
          obtain ⟨r_17, hc_18, hf⟩ := bd1_s hf
          refine ucVi (As := [.int x2, .int (x3 + ((1 : Int32)))]) (rest := []) ⟨hx, hb, hml, hown, htb⟩ hK hP hD hS hA (fun hs => c_M_isDots hc_18) (cwV 2 htb (gV tw_975 tw_977 tw_58 tw_74 tw_978) rfl rfl rfl (by decide +kernel) ⟨Nat.le_of_ble_eq_true rfl, Nat.le_of_ble_eq_true rfl⟩) 0 5 rfl rfl rfl rfl rfl hl.1 (Nat.le_of_ble_eq_true rfl) d_M_isEntry_168 ⟨Nat.zero_le _, Nat.zero_le _⟩ (fun H locs hP hD hS => ?_)
          refine lv_if_eq (tgt := 209) hx hb d_M_isEntry_171 (by decide) (fun c_19 => ?_) (fun c_19 => ?_)
          · have hf := ite_t c_19 hf
            refine lv_iconst (v := 0) hx hb d_M_isEntry_209 (by decide) ?_
            cases hf
            exact hret _ _ _ _ (Or.inl rfl) hP hD hS d_M_isEntry_210
          · have hf := ite_f c_19 hf
            refine lv_iload hx hb d_M_isEntry_174 (lv_at hl 0 rfl) ?_
            refine lv_iload_n hx hb d_M_isEntry_176 rfl (lv_at hl 4 rfl) ?_
            refine lv_if_ne (tgt := 184) hx hb d_M_isEntry_177 (by decide) (fun c_20 => ?_) (fun c_20 => ?_)
            · have hf := ite_f c_20 hf
              refine lv_aload_n hx hb d_M_isEntry_184 rfl (lv_at hl 1 rfl) ?_
              refine va_get (D := (dC, dI)) (ci := 5) (v := .ref (h 6)) (C := R_M) (T := T_M) (N := 19) hx hb htb in_M hown hK hP 0 rfl rfl 14 (by decide) (htb _ tw_780) (fun _ h9 => h9) rfl d_M_isEntry_185 ?_
              refine lv_iload_n hx hb d_M_isEntry_188 rfl (lv_at hl 2 rfl) ?_
              obtain ⟨c_21, hf⟩ := gd_s hf
              refine va_iald (i := x1) hx hb hK hP 6 0 rfl rfl c_21 d_M_isEntry_189 ?_
              exact hj_190 x2 v9_2 (pq (Int32.toNatClampNeg x1)) _ _ _ hf hP hD hS (lv_sub hl [1, 3] rfl)
            · have hf := ite_t c_20 hf
              refine lv_iload_n hx hb d_M_isEntry_180 rfl (lv_at hl 2 rfl) ?_
              refine lv_goto (tgt := 190) hx hb d_M_isEntry_181 (by decide) ?_
              exact hj_190 x2 v9_2 x1 _ _ _ hf hP hD hS (lv_sub hl [1, 3] rfl)
      · have hf := ite_f c_1 hf
        refine lv_aload_n hx hb d_M_isEntry_115 rfl (lv_at hl 0 rfl) ?_
        refine lv_iload_n hx hb d_M_isEntry_116 rfl (lv_at hl 2 rfl) ?_
        refine lv_bipush (v := 8) hx hb d_M_isEntry_117 (by decide) ?_
        refine lv_iadd hx hb d_M_isEntry_119 ?_
        refine lv_iload hx hb d_M_isEntry_120 (lv_at hl 6 rfl) ?_
        refine lv_iadd hx hb d_M_isEntry_122 ?_
        obtain ⟨r_22, hc_23, hf⟩ := bd1_s hf
        refine ucVi (As := [.int ((x2 + ((8 : Int32))) + x9)]) (rest := []) ⟨hx, hb, hml, hown, htb⟩ hK hP hD hS hA (fun hs => c_M_one hc_23) (cwV 1 htb (gV tw_854 tw_856 tw_32 tw_74 tw_857) rfl rfl rfl (by decide +kernel) ⟨Nat.le_of_ble_eq_true rfl, Nat.le_of_ble_eq_true rfl⟩) 0 5 rfl rfl rfl rfl rfl hl.1 (Nat.le_of_ble_eq_true rfl) d_M_isEntry_123 ⟨Nat.zero_le _, Nat.zero_le _⟩ (fun H locs hP hD hS => ?_)
        refine lv_if_eq (tgt := 145) hx hb d_M_isEntry_126 (by decide) (fun c_24 => ?_) (fun c_24 => ?_)
        · have hf := ite_t c_24 hf
          refine lv_iconst (v := 0) hx hb d_M_isEntry_145 (by decide) ?_
          cases hf
          exact hret _ _ _ _ (Or.inl rfl) hP hD hS d_M_isEntry_146
        · have hf := ite_f c_24 hf
          refine lv_aload_n hx hb d_M_isEntry_129 rfl (lv_at hl 0 rfl) ?_
          refine lv_iload_n hx hb d_M_isEntry_130 rfl (lv_at hl 2 rfl) ?_
          refine lv_bipush (v := 8) hx hb d_M_isEntry_131 (by decide) ?_
          refine lv_iadd hx hb d_M_isEntry_133 ?_
          refine lv_iload hx hb d_M_isEntry_134 (lv_at hl 6 rfl) ?_
          refine lv_iadd hx hb d_M_isEntry_136 ?_
          obtain ⟨r_25, hc_26, hf⟩ := bd1_s hf
          refine ucVi (As := [.int ((x2 + ((8 : Int32))) + x9)]) (rest := []) ⟨hx, hb, hml, hown, htb⟩ hK hP hD hS hA (fun hs => c_M_one hc_26) (cwV 1 htb (gV tw_854 tw_856 tw_32 tw_74 tw_857) rfl rfl rfl (by decide +kernel) ⟨Nat.le_of_ble_eq_true rfl, Nat.le_of_ble_eq_true rfl⟩) 0 5 rfl rfl rfl rfl rfl hl.1 (Nat.le_of_ble_eq_true rfl) d_M_isEntry_137 ⟨Nat.zero_le _, Nat.zero_le _⟩ (fun H locs hP hD hS => ?_)
          refine lv_bipush (v := 47) hx hb d_M_isEntry_140 (by decide) ?_
          refine lv_icmp_ne (tgt := 147) hx hb d_M_isEntry_142 (by decide) (fun c_27 => ?_) (fun c_27 => ?_)
          · have hf := ite_f c_27 hf
            obtain ⟨v9_28, ev9_28, hf⟩ := lt1_s hf
            refine lv_iinc (v := v9_28) (lv' := [(9, .int v9_28), (0, .ref (h 0)), (1, .int x1), (2, .int x2), (3, .int x3), (6, .long x6), (8, .int x8)]) hx hb d_M_isEntry_147 hl (k := 6) rfl (by rw [← ev9_28]; rfl) (by decide) rfl (fun ls hl => ?_)
            refine lv_goto (tgt := 108) hx hb d_M_isEntry_150 (by decide) ?_
            exact ih_108 x1 x2 x3 x6 x8 v9_28 _ _ _ hf hP hD hS (lv_sub hl [1, 2, 3, 4, 5, 6, 0] rfl)
          · have hf := ite_t c_27 hf
            refine lv_iconst (v := 0) hx hb d_M_isEntry_145 (by decide) ?_
            cases hf
            exact hret _ _ _ _ (Or.inl rfl) hP hD hS d_M_isEntry_146
  have hj_58 : ∀ (x1 : Int32) (x2 : Int32) (x3 : Int32) (x5 : Int32) (x6 : Int64) (x8 : Int32) (H : Heap) (locs : List Loc) (ls : Array Slot), f_M_isEntry_58 N dk gg qq mp pq x1 x2 x3 x5 x6 x8 = some (r) → va_P (dC, dI) clAll (wM h cI cB cZ th nb dk lk fa pp gg jj qq mp fx tn mn oq pq fo ca hr fd) H → va_D A (wM h cI cB cZ th nb dk lk fa pp gg jj qq mp fx tn mn oq pq fo ca hr fd) → va_S A s.heap H locs → lv_has ls 11 [(0, .ref (h 0)), (1, .int x1), (2, .int x2), (3, .int x3), (5, .int x5), (6, .long x6), (8, .int x8)] → W p l e (headSpec ws_M_isEntry { frames := 3, cells := 0, slots := 0, locals := 66 }).room s m args below meth c H locs 0 0 Q (F0 m 58 ls []) := by
    intro x1 x2 x3 x5 x6 x8 H locs ls hf hP hD hS hl
    unfold f_M_isEntry_58 at hf
    refine lv_iload hx hb d_M_isEntry_58 (lv_at hl 4 rfl) ?_
    refine lv_bipush (v := 8) hx hb d_M_isEntry_60 (by decide) ?_
    refine lv_iload hx hb d_M_isEntry_62 (lv_at hl 6 rfl) ?_
    refine lv_iconst (v := 4) hx hb d_M_isEntry_64 (by decide) ?_
    obtain ⟨r_1, hc_2, hf⟩ := bd1_s hf
    refine ucSi (As := [.int x8, .int ((4 : Int32))]) (rest := [.int ((8 : Int32)), .int x5]) ⟨hx, hb, hml, hown, htb⟩ hK hP hD hS hA (fun hs => c_M_parts hc_2) (va_cwS 2 htb (gS tw_940 tw_941 tw_74 tw_942) rfl rfl rfl (by decide +kernel) ⟨Nat.le_of_ble_eq_true rfl, Nat.le_of_ble_eq_true rfl⟩) rfl rfl hl.1 (Nat.le_of_ble_eq_true rfl) d_M_isEntry_65 ⟨Nat.zero_le _, Nat.zero_le _⟩ (fun H locs hP hD hS => ?_)
    refine lv_iconst (v := 4) hx hb d_M_isEntry_68 (by decide) ?_
    refine lv_imul hx hb d_M_isEntry_69 ?_
    refine lv_iadd hx hb d_M_isEntry_70 ?_
    refine lv_icmp_lt (tgt := 103) hx hb d_M_isEntry_71 (by decide) (fun c_3 => ?_) (fun c_3 => ?_)
    · have hf := ite_t c_3 hf
      refine lv_iconst (v := 0) hx hb d_M_isEntry_103 (by decide) ?_
      cases hf
      exact hret _ _ _ _ (Or.inl rfl) hP hD hS d_M_isEntry_104
    · have hf := ite_f c_3 hf
      refine lv_lload hx hb d_M_isEntry_74 (lv_at hl 5 rfl) ?_
      refine lv_lconst (v := 1) hx hb d_M_isEntry_76 (by decide) ?_
      refine lc_lt (tgt := 103) hx hb d_M_isEntry_77 d_M_isEntry_78 (by decide) (fun c_4 => ?_) (fun c_4 => ?_)
      · have hf := ite_t c_4 hf
        refine lv_iconst (v := 0) hx hb d_M_isEntry_103 (by decide) ?_
        cases hf
        exact hret _ _ _ _ (Or.inl rfl) hP hD hS d_M_isEntry_104
      · have hf := ite_f c_4 hf
        refine lv_lload hx hb d_M_isEntry_81 (lv_at hl 5 rfl) ?_
        refine lv_aload_n hx hb d_M_isEntry_83 rfl (lv_at hl 0 rfl) ?_
        refine va_get (D := (dC, dI)) (ci := 5) (v := .int qq) (C := R_M) (T := T_M) (N := 19) hx hb htb in_M hown hK hP 0 rfl rfl 8 (by decide) (htb _ tw_774) (fun _ h9 => h9) rfl d_M_isEntry_84 ?_
        refine lv_i2l hx hb d_M_isEntry_87 rfl ?_
        refine lv_aload_n hx hb d_M_isEntry_88 rfl (lv_at hl 0 rfl) ?_
        refine va_get (D := (dC, dI)) (ci := 5) (v := .int gg) (C := R_M) (T := T_M) (N := 19) hx hb htb in_M hown hK hP 0 rfl rfl 6 (by decide) (htb _ tw_772) (fun _ h9 => h9) rfl d_M_isEntry_89 ?_
        refine lv_i2l hx hb d_M_isEntry_92 rfl ?_
        refine lv_lmul hx hb d_M_isEntry_93 ?_
        refine lc_gt (tgt := 103) hx hb d_M_isEntry_94 d_M_isEntry_95 (by decide) (fun c_5 => ?_) (fun c_5 => ?_)
        · have hf := ite_t c_5 hf
          refine lv_iconst (v := 0) hx hb d_M_isEntry_103 (by decide) ?_
          cases hf
          exact hret _ _ _ _ (Or.inl rfl) hP hD hS d_M_isEntry_104
        · have hf := ite_f c_5 hf
          refine lv_iload hx hb d_M_isEntry_98 (lv_at hl 6 rfl) ?_
          refine lv_if_ne (tgt := 105) hx hb d_M_isEntry_100 (by decide) (fun c_6 => ?_) (fun c_6 => ?_)
          · have hf := ite_f c_6 hf
            refine lv_iconst (v := 0) hx hb d_M_isEntry_105 (by decide) ?_
            refine lv_istore (lv' := [(9, .int ((0 : Int32))), (0, .ref (h 0)), (1, .int x1), (2, .int x2), (3, .int x3), (5, .int x5), (6, .long x6), (8, .int x8)]) hx hb d_M_isEntry_106 hl (by decide) rfl (fun ls hl => ?_)
            exact hj_108 N x1 x2 x3 x6 x8 ((0 : Int32)) _ _ _ hf hP hD hS (lv_sub hl [1, 2, 3, 4, 6, 7, 0] rfl)
          · have hf := ite_t c_6 hf
            refine lv_iconst (v := 0) hx hb d_M_isEntry_103 (by decide) ?_
            cases hf
            exact hret _ _ _ _ (Or.inl rfl) hP hD hS d_M_isEntry_104
  unfold f_M_isEntry at hf
  refine lv_aload_n hx hb d_M_isEntry_0 rfl (lv_at hl 0 rfl) ?_
  refine lv_iload_n hx hb d_M_isEntry_1 rfl (lv_at hl 2 rfl) ?_
  obtain ⟨r_1, hc_2, hf⟩ := bd1_s hf
  refine ucVi (As := [.int a2]) (rest := []) ⟨hx, hb, hml, hown, htb⟩ hK hP hD hS hA (fun hs => c_M_lengthAt hc_2) (cwV 1 htb (gV tw_967 tw_969 tw_56 tw_74 tw_970) rfl rfl rfl (by decide +kernel) ⟨Nat.le_of_ble_eq_true rfl, Nat.le_of_ble_eq_true rfl⟩) 0 5 rfl rfl rfl rfl rfl hl.1 (Nat.le_of_ble_eq_true rfl) d_M_isEntry_2 ⟨Nat.zero_le _, Nat.zero_le _⟩ (fun H locs hP hD hS => ?_)
  refine lv_istore (lv' := [(5, .int r_1), (0, .ref (h 0)), (1, .int a1), (2, .int a2), (3, .int a3), (4, .int a4)]) hx hb d_M_isEntry_5 hl (by decide) rfl (fun ls hl => ?_)
  refine lv_aload_n hx hb d_M_isEntry_7 rfl (lv_at hl 1 rfl) ?_
  refine lv_iload_n hx hb d_M_isEntry_8 rfl (lv_at hl 3 rfl) ?_
  obtain ⟨r_3, hc_4, hf⟩ := bd1_s hf
  refine ucVl (As := [.int a2]) (rest := []) ⟨hx, hb, hml, hown, htb⟩ hK hP hD hS hA (fun hs => c_M_four hc_4) (cwV 1 htb (gV tw_874 tw_876 tw_36 tw_74 tw_877) rfl rfl rfl (by decide +kernel) ⟨Nat.le_of_ble_eq_true rfl, Nat.le_of_ble_eq_true rfl⟩) 0 5 rfl rfl rfl rfl rfl hl.1 (Nat.le_of_ble_eq_true rfl) d_M_isEntry_9 ⟨Nat.zero_le _, Nat.zero_le _⟩ (fun H locs hP hD hS => ?_)
  refine lv_lstore (lv' := [(6, .long r_3), (5, .int r_1), (0, .ref (h 0)), (1, .int a1), (2, .int a2), (3, .int a3), (4, .int a4)]) hx hb d_M_isEntry_12 hl (by decide) rfl (fun ls hl => ?_)
  refine lv_aload_n hx hb d_M_isEntry_14 rfl (lv_at hl 2 rfl) ?_
  refine lv_iload_n hx hb d_M_isEntry_15 rfl (lv_at hl 4 rfl) ?_
  obtain ⟨r_5, hc_6, hf⟩ := bd1_s hf
  refine ucVi (As := [.int a2]) (rest := []) ⟨hx, hb, hml, hown, htb⟩ hK hP hD hS hA (fun hs => c_M_nameSize hc_6) (cwV 1 htb (gV tw_971 tw_973 tw_57 tw_74 tw_974) rfl rfl rfl (by decide +kernel) ⟨Nat.le_of_ble_eq_true rfl, Nat.le_of_ble_eq_true rfl⟩) 0 5 rfl rfl rfl rfl rfl hl.1 (Nat.le_of_ble_eq_true rfl) d_M_isEntry_16 ⟨Nat.zero_le _, Nat.zero_le _⟩ (fun H locs hP hD hS => ?_)
  refine lv_istore (lv' := [(8, .int r_5), (6, .long r_3), (5, .int r_1), (0, .ref (h 0)), (1, .int a1), (2, .int a2), (3, .int a3), (4, .int a4)]) hx hb d_M_isEntry_19 hl (by decide) rfl (fun ls hl => ?_)
  refine lv_iload hx hb d_M_isEntry_21 (lv_at hl 2 rfl) ?_
  refine lv_bipush (v := 12) hx hb d_M_isEntry_23 (by decide) ?_
  refine lv_icmp_lt (tgt := 42) hx hb d_M_isEntry_25 (by decide) (fun c_7 => ?_) (fun c_7 => ?_)
  · have hf := ite_t c_7 hf
    refine lv_iconst (v := 0) hx hb d_M_isEntry_42 (by decide) ?_
    cases hf
    exact hret _ _ _ _ (Or.inl rfl) hP hD hS d_M_isEntry_43
  · have hf := ite_f c_7 hf
    refine lv_iload hx hb d_M_isEntry_28 (lv_at hl 2 rfl) ?_
    refine lv_iconst (v := 4) hx hb d_M_isEntry_30 (by decide) ?_
    refine lv_irem hx hb d_M_isEntry_31 (by decide) ?_
    refine lv_if_ne (tgt := 42) hx hb d_M_isEntry_32 (by decide) (fun c_8 => ?_) (fun c_8 => ?_)
    · have hf := ite_f c_8 hf
      refine lv_iconst (v := 0) hx hb d_M_isEntry_42 (by decide) ?_
      cases hf
      exact hret _ _ _ _ (Or.inl rfl) hP hD hS d_M_isEntry_43
    · have hf := ite_t c_8 hf
      refine lv_iload hx hb d_M_isEntry_35 (lv_at hl 2 rfl) ?_
      refine lv_iload hx hb d_M_isEntry_37 (lv_at hl 7 rfl) ?_
      refine lv_icmp_le (tgt := 44) hx hb d_M_isEntry_39 (by decide) (fun c_9 => ?_) (fun c_9 => ?_)
      · have hf := ite_t c_9 hf
        refine lv_iload_n hx hb d_M_isEntry_44 rfl (lv_at hl 6 rfl) ?_
        refine lv_iconst (v := 1) hx hb d_M_isEntry_45 (by decide) ?_
        refine lv_icmp_le (tgt := 58) hx hb d_M_isEntry_46 (by decide) (fun c_10 => ?_) (fun c_10 => ?_)
        · have hf := ite_t c_10 hf
          exact hj_58 a1 a2 a3 r_1 r_3 r_5 _ _ _ hf hP hD hS (lv_sub hl [3, 4, 5, 6, 2, 1, 0] rfl)
        · have hf := ite_f c_10 hf
          refine lv_lload hx hb d_M_isEntry_49 (lv_at hl 1 rfl) ?_
          refine lv_lconst (v := 0) hx hb d_M_isEntry_51 (by decide) ?_
          refine lc_ne (tgt := 58) hx hb d_M_isEntry_52 d_M_isEntry_53 (by decide) (fun c_11 => ?_) (fun c_11 => ?_)
          · have hf := ite_f c_11 hf
            exact hj_58 a1 a2 a3 r_1 r_3 r_5 _ _ _ hf hP hD hS (lv_sub hl [3, 4, 5, 6, 2, 1, 0] rfl)
          · have hf := ite_t c_11 hf
            refine lv_iconst (v := 1) hx hb d_M_isEntry_56 (by decide) ?_
            cases hf
            exact hret _ _ _ _ (Or.inr rfl) hP hD hS d_M_isEntry_57
      · have hf := ite_f c_9 hf
        refine lv_iconst (v := 0) hx hb d_M_isEntry_42 (by decide) ?_
        cases hf
        exact hret _ _ _ _ (Or.inl rfl) hP hD hS d_M_isEntry_43
