set_option maxHeartbeats 4000000 in
set_option maxRecDepth 100000 in
theorem c_D_holds {l : Launch} {dC : Nat → ClassId} {dI : Nat → Nat → Nat} {h : Nat → Nat} {cI : ClassId} {cL : ClassId} {NW : Nat} {bk : Int32} {sz : Int32} {wd : Nat → Int64} {mb : Nat → Int32} {gB : Int32} {gI : Int32} {gN : Int32} {iN : Int32} {dr : Int32} {es : Int64} {of : Int64} {od : Int32} {pl : Int64} {hd : Int64} {tk : Nat → Int32} {kn : Nat → Int32} {li : Nat → Int32} {pa : Nat → Int32} {ins : Nat → Int32} {cm : Int32} {fd : Int32} {hr : Int32} {hs : Nat} {a1 : Int64} {a3 : Int32} {r : Int32} (hf : f_D_holds NW sz a1 a3 = some (r)) : Met l y_D_holds ws_D_holds { frames := 0, cells := 0, slots := 0, locals := 0 } (PcU (dC, dI) clAll [(cI, .int), (cL, .long)] (wC h cI cL NW bk sz wd mb gB gI gN iN dr es of od pl hd tk kn li pa ins cm fd hr) hs [.ref (h 1), .long a1, .int a3]) (QUi (dC, dI) clAll [(cI, .int), (cL, .long)] (wC h cI cL NW bk sz wd mb gB gI gN iN dr es of od pl hd tk kn li pa ins cm fd hr) (wC h cI cL NW bk sz wd mb gB gI gN iN dr es of od pl hd tk kn li pa ins cm fd hr) hs r) 0 0 (va_A (wC h cI cL NW bk sz wd mb gB gI gN iN dr es of od pl hd tk kn li pa ins cm fd hr) hs) := by
  refine mUz (cc := b_D_holds) (maxL := 4) (by decide) rfl (Nat.le_of_ble_eq_true rfl) ?_
  intro p e s m args below meth c Q hx hb hml hts hown A hA hK hP hD hS hret ls hl
  have htb : ∀ w ∈ TB, w.before args s = true := fun w h => hts w (List.mem_cons_of_mem _ h)
  have hl : lv_has ls 4 [(0, .ref (h 1)), (1, .long a1), (3, .int a3)] := hl
  unfold f_D_holds at hf
  refine lv_iload_n hx hb d_D_holds_0 rfl (lv_at hl 2 rfl) ?_
  refine lv_if_eq (tgt := 26) hx hb d_D_holds_1 (by decide) (fun c_1 => ?_) (fun c_1 => ?_)
  · have hf := ite_t c_1 hf
    refine lv_iconst (v := 1) hx hb d_D_holds_26 (by decide) ?_
    refine lv_goto (tgt := 31) hx hb d_D_holds_27 (by decide) ?_
    cases hf
    exact hret _ _ _ _ (Or.inr rfl) hP hD hS d_D_holds_31
  · have hf := ite_f c_1 hf
    refine lv_iload_n hx hb d_D_holds_4 rfl (lv_at hl 2 rfl) ?_
    refine lv_if_le (tgt := 30) hx hb d_D_holds_5 (by decide) (fun c_2 => ?_) (fun c_2 => ?_)
    · have hf := ite_t c_2 hf
      refine lv_iconst (v := 0) hx hb d_D_holds_30 (by decide) ?_
      cases hf
      exact hret _ _ _ _ (Or.inl rfl) hP hD hS d_D_holds_31
    · have hf := ite_f c_2 hf
      refine lv_lload_n hx hb d_D_holds_8 rfl (lv_at hl 1 rfl) ?_
      refine lv_lconst (v := 0) hx hb d_D_holds_9 (by decide) ?_
      refine lc_lt (tgt := 30) hx hb d_D_holds_10 d_D_holds_11 (by decide) (fun c_3 => ?_) (fun c_3 => ?_)
      · have hf := ite_t c_3 hf
        refine lv_iconst (v := 0) hx hb d_D_holds_30 (by decide) ?_
        cases hf
        exact hret _ _ _ _ (Or.inl rfl) hP hD hS d_D_holds_31
      · have hf := ite_f c_3 hf
        refine lv_lload_n hx hb d_D_holds_14 rfl (lv_at hl 1 rfl) ?_
        refine lv_aload_n hx hb d_D_holds_15 rfl (lv_at hl 0 rfl) ?_
        refine va_get (D := (dC, dI)) (ci := 0) (v := .int sz) (C := R_D) (T := T_D) (N := 3) hx hb htb in_D hown hK hP 1 rfl rfl 1 (by decide) (htb _ tw_103) (fun _ h9 => h9) rfl d_D_holds_16 ?_
        refine lv_iload_n hx hb d_D_holds_19 rfl (lv_at hl 2 rfl) ?_
        refine lv_isub hx hb d_D_holds_20 ?_
        refine lv_i2l hx hb d_D_holds_21 rfl ?_
        refine lc_gt (tgt := 30) hx hb d_D_holds_22 d_D_holds_23 (by decide) (fun c_4 => ?_) (fun c_4 => ?_)
        · have hf := ite_t c_4 hf
          refine lv_iconst (v := 0) hx hb d_D_holds_30 (by decide) ?_
          cases hf
          exact hret _ _ _ _ (Or.inl rfl) hP hD hS d_D_holds_31
        · have hf := ite_f c_4 hf
          refine lv_iconst (v := 1) hx hb d_D_holds_26 (by decide) ?_
          refine lv_goto (tgt := 31) hx hb d_D_holds_27 (by decide) ?_
          cases hf
          exact hret _ _ _ _ (Or.inr rfl) hP hD hS d_D_holds_31
set_option maxHeartbeats 4000000 in
set_option maxRecDepth 100000 in
theorem c_D_set {l : Launch} {dC : Nat → ClassId} {dI : Nat → Nat → Nat} {h : Nat → Nat} {cI : ClassId} {cL : ClassId} {NW : Nat} {bk : Int32} {sz : Int32} {wd : Nat → Int64} {mb : Nat → Int32} {gB : Int32} {gI : Int32} {gN : Int32} {iN : Int32} {dr : Int32} {es : Int64} {of : Int64} {od : Int32} {pl : Int64} {hd : Int64} {tk : Nat → Int32} {kn : Nat → Int32} {li : Nat → Int32} {pa : Nat → Int32} {ins : Nat → Int32} {cm : Int32} {fd : Int32} {hr : Int32} {hs : Nat} {a1 : Int64} {a3 : Int32} {a4 : Int64} {wd' : Nat → Int64} (hf : f_D_set NW sz wd a1 a3 a4 = some (wd')) : Met l y_D_set ws_D_set { frames := 0, cells := 0, slots := 0, locals := 0 } (PcU (dC, dI) clAll [(cI, .int), (cL, .long)] (wC h cI cL NW bk sz wd mb gB gI gN iN dr es of od pl hd tk kn li pa ins cm fd hr) hs [.ref (h 1), .long a1, .int a3, .long a4]) (QUv (dC, dI) clAll [(cI, .int), (cL, .long)] (wC h cI cL NW bk sz wd mb gB gI gN iN dr es of od pl hd tk kn li pa ins cm fd hr) (wC h cI cL NW bk sz wd' mb gB gI gN iN dr es of od pl hd tk kn li pa ins cm fd hr) hs) 0 0 (va_A (wC h cI cL NW bk sz wd mb gB gI gN iN dr es of od pl hd tk kn li pa ins cm fd hr) hs) := by
  refine mUv (cc := b_D_set) (maxL := 12) (by decide) rfl (Nat.le_of_ble_eq_true rfl) ?_
  intro p e s m args below meth c Q hx hb hml hts hown A hA hK hP hD hS hret ls hl
  have htb : ∀ w ∈ TB, w.before args s = true := fun w h => hts w (List.mem_cons_of_mem _ h)
  have hl : lv_has ls 12 [(0, .ref (h 1)), (1, .long a1), (3, .int a3), (4, .long a4)] := hl
  unfold f_D_set at hf
  refine lv_iload_n hx hb d_D_set_0 rfl (lv_at hl 2 rfl) ?_
  refine lv_iconst (v := 1) hx hb d_D_set_1 (by decide) ?_
  refine lv_icmp_lt (tgt := 29) hx hb d_D_set_2 (by decide) (fun c_1 => ?_) (fun c_1 => ?_)
  · have hf := ite_t c_1 hf
    cases hf
    exact hret _ _ _ _ hP hD hS d_D_set_29
  · have hf := ite_f c_1 hf
    refine lv_iload_n hx hb d_D_set_5 rfl (lv_at hl 2 rfl) ?_
    refine lv_bipush (v := 8) hx hb d_D_set_6 (by decide) ?_
    refine lv_icmp_gt (tgt := 29) hx hb d_D_set_8 (by decide) (fun c_2 => ?_) (fun c_2 => ?_)
    · have hf := ite_t c_2 hf
      cases hf
      exact hret _ _ _ _ hP hD hS d_D_set_29
    · have hf := ite_f c_2 hf
      refine lv_lload_n hx hb d_D_set_11 rfl (lv_at hl 1 rfl) ?_
      refine lv_lconst (v := 0) hx hb d_D_set_12 (by decide) ?_
      refine lc_lt (tgt := 29) hx hb d_D_set_13 d_D_set_14 (by decide) (fun c_3 => ?_) (fun c_3 => ?_)
      · have hf := ite_t c_3 hf
        cases hf
        exact hret _ _ _ _ hP hD hS d_D_set_29
      · have hf := ite_f c_3 hf
        refine lv_lload_n hx hb d_D_set_17 rfl (lv_at hl 1 rfl) ?_
        refine lv_aload_n hx hb d_D_set_18 rfl (lv_at hl 0 rfl) ?_
        refine va_get (D := (dC, dI)) (ci := 0) (v := .int sz) (C := R_D) (T := T_D) (N := 3) hx hb htb in_D hown hK hP 1 rfl rfl 1 (by decide) (htb _ tw_103) (fun _ h9 => h9) rfl d_D_set_19 ?_
        refine lv_iload_n hx hb d_D_set_22 rfl (lv_at hl 2 rfl) ?_
        refine lv_isub hx hb d_D_set_23 ?_
        refine lv_i2l hx hb d_D_set_24 rfl ?_
        refine lc_le (tgt := 30) hx hb d_D_set_25 d_D_set_26 (by decide) (fun c_4 => ?_) (fun c_4 => ?_)
        · have hf := ite_t c_4 hf
          refine lv_lload_n hx hb d_D_set_30 rfl (lv_at hl 1 rfl) ?_
          refine lv_iconst (v := 3) hx hb d_D_set_31 (by decide) ?_
          refine lv_lshr hx hb d_D_set_32 rfl ?_
          refine lv_l2i hx hb d_D_set_33 rfl ?_
          obtain ⟨v6_5, ev6_5, hf⟩ := lt1_s hf
          refine lv_eqi ev6_5 ?_
          refine lv_istore (lv' := [(6, .int v6_5), (0, .ref (h 1)), (1, .long a1), (3, .int a3), (4, .long a4)]) hx hb d_D_set_34 hl (by decide) rfl (fun ls hl => ?_)
          refine lv_lload_n hx hb d_D_set_36 rfl (lv_at hl 2 rfl) ?_
          refine lv_ldc2 (v := 7) hx hb hown (htb _ tw_235) d_D_set_37 ?_
          refine lv_land hx hb d_D_set_40 ?_
          refine lv_l2i hx hb d_D_set_41 rfl ?_
          refine lv_iconst (v := 3) hx hb d_D_set_42 (by decide) ?_
          refine lv_ishl hx hb d_D_set_43 ?_
          obtain ⟨v7_6, ev7_6, hf⟩ := lt1_s hf
          refine lv_eqi ev7_6 ?_
          refine lv_istore (lv' := [(7, .int v7_6), (6, .int v6_5), (0, .ref (h 1)), (1, .long a1), (3, .int a3), (4, .long a4)]) hx hb d_D_set_44 hl (by decide) rfl (fun ls hl => ?_)
          refine lv_ldc2 (v := -1) hx hb hown (htb _ tw_236) d_D_set_46 ?_
          refine lv_bipush (v := 64) hx hb d_D_set_49 (by decide) ?_
          refine lv_bipush (v := 8) hx hb d_D_set_51 (by decide) ?_
          refine lv_iload_n hx hb d_D_set_53 rfl (lv_at hl 4 rfl) ?_
          refine lv_imul hx hb d_D_set_54 ?_
          refine lv_isub hx hb d_D_set_55 ?_
          refine lv_lushr hx hb d_D_set_56 rfl ?_
          obtain ⟨v8_7, ev8_7, hf⟩ := lt1_s hf
          refine lv_eql ev8_7 ?_
          refine lv_lstore (lv' := [(8, .long v8_7), (7, .int v7_6), (6, .int v6_5), (0, .ref (h 1)), (1, .long a1), (3, .int a3), (4, .long a4)]) hx hb d_D_set_57 hl (by decide) rfl (fun ls hl => ?_)
          refine lv_lload hx hb d_D_set_59 (lv_at hl 6 rfl) ?_
          refine lv_lload hx hb d_D_set_61 (lv_at hl 0 rfl) ?_
          refine lv_land hx hb d_D_set_63 ?_
          obtain ⟨v10_8, ev10_8, hf⟩ := lt1_s hf
          refine lv_eql ev10_8 ?_
          refine lv_lstore (lv' := [(10, .long v10_8), (8, .long v8_7), (7, .int v7_6), (6, .int v6_5), (0, .ref (h 1)), (1, .long a1), (3, .int a3), (4, .long a4)]) hx hb d_D_set_64 hl (by decide) rfl (fun ls hl => ?_)
          refine lv_aload_n hx hb d_D_set_66 rfl (lv_at hl 4 rfl) ?_
          refine va_get (D := (dC, dI)) (ci := 0) (v := .ref (h 2)) (C := R_D) (T := T_D) (N := 3) hx hb htb in_D hown hK hP 1 rfl rfl 2 (by decide) (htb _ tw_104) (fun _ h9 => h9) rfl d_D_set_67 ?_
          refine lv_iload hx hb d_D_set_70 (lv_at hl 3 rfl) ?_
          refine lv_aload_n hx hb d_D_set_72 rfl (lv_at hl 4 rfl) ?_
          refine va_get (D := (dC, dI)) (ci := 0) (v := .ref (h 2)) (C := R_D) (T := T_D) (N := 3) hx hb htb in_D hown hK hP 1 rfl rfl 2 (by decide) (htb _ tw_104) (fun _ h9 => h9) rfl d_D_set_73 ?_
          refine lv_iload hx hb d_D_set_76 (lv_at hl 3 rfl) ?_
          obtain ⟨c_9, hf⟩ := gd_s hf
          refine va_lald (i := v6_5) hx hb hK hP 2 1 rfl rfl c_9 d_D_set_78 ?_
          refine lv_lload hx hb d_D_set_79 (lv_at hl 1 rfl) ?_
          refine lv_iload hx hb d_D_set_81 (lv_at hl 2 rfl) ?_
          refine lv_lshl hx hb d_D_set_83 rfl ?_
          refine lv_ldc2 (v := -1) hx hb hown (htb _ tw_236) d_D_set_84 ?_
          refine lv_lxor hx hb d_D_set_87 ?_
          refine lv_land hx hb d_D_set_88 ?_
          refine lv_lload hx hb d_D_set_89 (lv_at hl 0 rfl) ?_
          refine lv_iload hx hb d_D_set_91 (lv_at hl 2 rfl) ?_
          refine lv_lshl hx hb d_D_set_93 rfl ?_
          refine lv_lor hx hb d_D_set_94 ?_
          obtain ⟨c_10, hf⟩ := gd_s hf
          refine va_last (i := v6_5) (x := ((wd (Int32.toNatClampNeg v6_5)) &&& ((v8_7 <<< ((Int32.toInt64 v7_6) &&& 63)) ^^^ ((-1 : Int64)))) ||| (v10_8 <<< ((Int32.toInt64 v7_6) &&& 63))) hx hb hK hP hD hS 2 1 rfl rfl c_10 d_D_set_95 (fun H locs hP hD hS => ?_)
          obtain ⟨wd_11, ewd_11, hf⟩ := lt1_s hf
          have hP : va_P (dC, dI) clAll (wC h cI cL NW bk sz wd_11 mb gB gI gN iN dr es of od pl hd tk kn li pa ins cm fd hr) H := ewd_11 ▸ hP
          have hD : va_D A (wC h cI cL NW bk sz wd_11 mb gB gI gN iN dr es of od pl hd tk kn li pa ins cm fd hr) := ewd_11 ▸ hD
          refine lv_iload hx hb d_D_set_96 (lv_at hl 2 rfl) ?_
          refine lv_bipush (v := 8) hx hb d_D_set_98 (by decide) ?_
          refine lv_iload_n hx hb d_D_set_100 rfl (lv_at hl 6 rfl) ?_
          refine lv_imul hx hb d_D_set_101 ?_
          refine lv_iadd hx hb d_D_set_102 ?_
          refine lv_bipush (v := 64) hx hb d_D_set_103 (by decide) ?_
          refine lv_icmp_le (tgt := 148) hx hb d_D_set_105 (by decide) (fun c_12 => ?_) (fun c_12 => ?_)
          · have hf := ite_t c_12 hf
            cases hf
            exact hret _ _ _ _ hP hD hS d_D_set_148
          · have hf := ite_f c_12 hf
            refine lv_aload_n hx hb d_D_set_108 rfl (lv_at hl 4 rfl) ?_
            refine va_get (D := (dC, dI)) (ci := 0) (v := .ref (h 2)) (C := R_D) (T := T_D) (N := 3) hx hb htb in_D hown hK hP 1 rfl rfl 2 (by decide) (htb _ tw_104) (fun _ h9 => h9) rfl d_D_set_109 ?_
            refine lv_iload hx hb d_D_set_112 (lv_at hl 3 rfl) ?_
            refine lv_iconst (v := 1) hx hb d_D_set_114 (by decide) ?_
            refine lv_iadd hx hb d_D_set_115 ?_
            refine lv_aload_n hx hb d_D_set_116 rfl (lv_at hl 4 rfl) ?_
            refine va_get (D := (dC, dI)) (ci := 0) (v := .ref (h 2)) (C := R_D) (T := T_D) (N := 3) hx hb htb in_D hown hK hP 1 rfl rfl 2 (by decide) (htb _ tw_104) (fun _ h9 => h9) rfl d_D_set_117 ?_
            refine lv_iload hx hb d_D_set_120 (lv_at hl 3 rfl) ?_
            refine lv_iconst (v := 1) hx hb d_D_set_122 (by decide) ?_
            refine lv_iadd hx hb d_D_set_123 ?_
            obtain ⟨c_13, hf⟩ := gd_s hf
            refine va_lald (i := v6_5 + ((1 : Int32))) hx hb hK hP 2 1 rfl rfl c_13 d_D_set_124 ?_
            refine lv_lload hx hb d_D_set_125 (lv_at hl 1 rfl) ?_
            refine lv_bipush (v := 64) hx hb d_D_set_127 (by decide) ?_
            refine lv_iload hx hb d_D_set_129 (lv_at hl 2 rfl) ?_
            refine lv_isub hx hb d_D_set_131 ?_
            refine lv_lushr hx hb d_D_set_132 rfl ?_
            refine lv_ldc2 (v := -1) hx hb hown (htb _ tw_236) d_D_set_133 ?_
            refine lv_lxor hx hb d_D_set_136 ?_
            refine lv_land hx hb d_D_set_137 ?_
            refine lv_lload hx hb d_D_set_138 (lv_at hl 0 rfl) ?_
            refine lv_bipush (v := 64) hx hb d_D_set_140 (by decide) ?_
            refine lv_iload hx hb d_D_set_142 (lv_at hl 2 rfl) ?_
            refine lv_isub hx hb d_D_set_144 ?_
            refine lv_lushr hx hb d_D_set_145 rfl ?_
            refine lv_lor hx hb d_D_set_146 ?_
            obtain ⟨c_14, hf⟩ := gd_s hf
            refine va_last (i := v6_5 + ((1 : Int32))) (x := ((wd_11 (Int32.toNatClampNeg (v6_5 + ((1 : Int32))))) &&& ((UInt64.toInt64 ((Int64.toUInt64 v8_7) >>> ((Int64.toUInt64 (Int32.toInt64 (((64 : Int32)) - v7_6))) &&& Int64.toUInt64 63))) ^^^ ((-1 : Int64)))) ||| (UInt64.toInt64 ((Int64.toUInt64 v10_8) >>> ((Int64.toUInt64 (Int32.toInt64 (((64 : Int32)) - v7_6))) &&& Int64.toUInt64 63)))) hx hb hK hP hD hS 2 1 rfl rfl c_14 d_D_set_147 (fun H locs hP hD hS => ?_)
            obtain ⟨wd_15, ewd_15, hf⟩ := lt1_s hf
            have hP : va_P (dC, dI) clAll (wC h cI cL NW bk sz wd_15 mb gB gI gN iN dr es of od pl hd tk kn li pa ins cm fd hr) H := ewd_15 ▸ hP
            have hD : va_D A (wC h cI cL NW bk sz wd_15 mb gB gI gN iN dr es of od pl hd tk kn li pa ins cm fd hr) := ewd_15 ▸ hD
            cases hf
            exact hret _ _ _ _ hP hD hS d_D_set_148
        · have hf := ite_f c_4 hf
          cases hf
          exact hret _ _ _ _ hP hD hS d_D_set_29
set_option maxHeartbeats 4000000 in
set_option maxRecDepth 100000 in
theorem c_D_spread {l : Launch} {dC : Nat → ClassId} {dI : Nat → Nat → Nat} {N : Nat} {h : Nat → Nat} {cI : ClassId} {cL : ClassId} {NW : Nat} {bk : Int32} {sz : Int32} {wd : Nat → Int64} {mb : Nat → Int32} {gB : Int32} {gI : Int32} {gN : Int32} {iN : Int32} {dr : Int32} {es : Int64} {of : Int64} {od : Int32} {pl : Int64} {hd : Int64} {tk : Nat → Int32} {kn : Nat → Int32} {li : Nat → Int32} {pa : Nat → Int32} {ins : Nat → Int32} {cm : Int32} {fd : Int32} {hr : Int32} {hs : Nat} {a1 : Int32} {a2 : Int32} {a3 : Int32} {wd' : Nat → Int64} (hf : f_D_spread N NW sz wd a1 a2 a3 = some (wd')) : Met l y_D_spread ws_D_spread { frames := 1, cells := 0, slots := 0, locals := 31 } (PcU (dC, dI) clAll [(cI, .int), (cL, .long)] (wC h cI cL NW bk sz wd mb gB gI gN iN dr es of od pl hd tk kn li pa ins cm fd hr) hs [.ref (h 1), .int a1, .int a2, .int a3]) (QUv (dC, dI) clAll [(cI, .int), (cL, .long)] (wC h cI cL NW bk sz wd mb gB gI gN iN dr es of od pl hd tk kn li pa ins cm fd hr) (wC h cI cL NW bk sz wd' mb gB gI gN iN dr es of od pl hd tk kn li pa ins cm fd hr) hs) 0 0 (va_A (wC h cI cL NW bk sz wd mb gB gI gN iN dr es of od pl hd tk kn li pa ins cm fd hr) hs) := by
  refine mUv (cc := b_D_spread) (maxL := 7) (by decide) rfl (Nat.le_of_ble_eq_true rfl) ?_
  intro p e s m args below meth c Q hx hb hml hts hown A hA hK hP hD hS hret ls hl
  have htb : ∀ w ∈ TB, w.before args s = true := fun w h => hts w (List.mem_cons_of_mem _ h)
  have hl : lv_has ls 7 [(0, .ref (h 1)), (1, .int a1), (2, .int a2), (3, .int a3)] := hl
  have hj_15 : ∀ (k_15 : Nat) (wd : Nat → Int64) (x1 : Int32) (x2 : Int32) (x4 : Int64) (x6 : Int32) (H : Heap) (locs : List Loc) (ls : Array Slot), f_D_spread_15 N NW sz k_15 wd x1 x2 x4 x6 = some (wd') → va_P (dC, dI) clAll (wC h cI cL NW bk sz wd mb gB gI gN iN dr es of od pl hd tk kn li pa ins cm fd hr) H → va_D A (wC h cI cL NW bk sz wd mb gB gI gN iN dr es of od pl hd tk kn li pa ins cm fd hr) → va_S A s.heap H locs → lv_has ls 7 [(0, .ref (h 1)), (1, .int x1), (2, .int x2), (4, .long x4), (6, .int x6)] → W p l e (headSpec ws_D_spread { frames := 1, cells := 0, slots := 0, locals := 31 }).room s m args below meth c H locs 0 0 Q (F0 m 15 ls []) := by
    intro k_15
    induction k_15 with
    | zero => intro _ _ _ _ _ _ _ _ hf; exact absurd hf (by simp [f_D_spread_15])
    | succ k_15 ih_15 =>
      intro wd x1 x2 x4 x6 H locs ls hf hP hD hS hl
      rw [f_D_spread_15] at hf
      refine lv_iload hx hb d_D_spread_15 (lv_at hl 4 rfl) ?_
      refine lv_iload_n hx hb d_D_spread_17 rfl (lv_at hl 2 rfl) ?_
      refine lv_bipush (v := 8) hx hb d_D_spread_18 (by decide) ?_
      refine lv_isub hx hb d_D_spread_20 ?_
      refine lv_icmp_gt (tgt := 43) hx hb d_D_spread_21 (by decide) (fun c_1 => ?_) (fun c_1 => ?_)
      · have hf := ite_t c_1 hf
        refine lv_aload_n hx hb d_D_spread_43 rfl (lv_at hl 0 rfl) ?_
        refine lv_iload_n hx hb d_D_spread_44 rfl (lv_at hl 1 rfl) ?_
        refine lv_iload hx hb d_D_spread_45 (lv_at hl 4 rfl) ?_
        refine lv_iadd hx hb d_D_spread_47 ?_
        refine lv_i2l hx hb d_D_spread_48 rfl ?_
        refine lv_iload_n hx hb d_D_spread_49 rfl (lv_at hl 2 rfl) ?_
        refine lv_iload hx hb d_D_spread_50 (lv_at hl 4 rfl) ?_
        refine lv_isub hx hb d_D_spread_52 ?_
        refine lv_lload hx hb d_D_spread_53 (lv_at hl 3 rfl) ?_
        obtain ⟨wd_2, hc_3, hf⟩ := bd1_s hf
        refine ucVv (As := [.long (Int32.toInt64 (x1 + x6)), .int (x2 - x6), .long x4]) (rest := []) ⟨hx, hb, hml, hown, htb⟩ hK hP hD hS hA (fun hs => c_D_set hc_3) (cwV 3 htb (gV tw_254 tw_232 tw_233 tw_69 tw_234) rfl rfl rfl (by decide +kernel) ⟨Nat.le_of_ble_eq_true rfl, Nat.le_of_ble_eq_true rfl⟩) 1 0 rfl rfl rfl rfl rfl hl.1 (Nat.le_of_ble_eq_true rfl) d_D_spread_55 ⟨Nat.zero_le _, Nat.zero_le _⟩ (fun H locs hP hD hS => ?_)
        cases hf
        exact hret _ _ _ _ hP hD hS d_D_spread_58
      · have hf := ite_f c_1 hf
        refine lv_aload_n hx hb d_D_spread_24 rfl (lv_at hl 0 rfl) ?_
        refine lv_iload_n hx hb d_D_spread_25 rfl (lv_at hl 1 rfl) ?_
        refine lv_iload hx hb d_D_spread_26 (lv_at hl 4 rfl) ?_
        refine lv_iadd hx hb d_D_spread_28 ?_
        refine lv_i2l hx hb d_D_spread_29 rfl ?_
        refine lv_bipush (v := 8) hx hb d_D_spread_30 (by decide) ?_
        refine lv_lload hx hb d_D_spread_32 (lv_at hl 3 rfl) ?_
        obtain ⟨wd_4, hc_5, hf⟩ := bd1_s hf
        refine ucVv (As := [.long (Int32.toInt64 (x1 + x6)), .int ((8 : Int32)), .long x4]) (rest := []) ⟨hx, hb, hml, hown, htb⟩ hK hP hD hS hA (fun hs => c_D_set hc_5) (cwV 3 htb (gV tw_254 tw_232 tw_233 tw_69 tw_234) rfl rfl rfl (by decide +kernel) ⟨Nat.le_of_ble_eq_true rfl, Nat.le_of_ble_eq_true rfl⟩) 1 0 rfl rfl rfl rfl rfl hl.1 (Nat.le_of_ble_eq_true rfl) d_D_spread_34 ⟨Nat.zero_le _, Nat.zero_le _⟩ (fun H locs hP hD hS => ?_)
        obtain ⟨v6_6, ev6_6, hf⟩ := lt1_s hf
        refine lv_iinc (v := v6_6) (lv' := [(6, .int v6_6), (0, .ref (h 1)), (1, .int x1), (2, .int x2), (4, .long x4)]) hx hb d_D_spread_37 hl (k := 4) rfl (by rw [← ev6_6]; rfl) (by decide) rfl (fun ls hl => ?_)
        refine lv_goto (tgt := 15) hx hb d_D_spread_40 (by decide) ?_
        exact ih_15 wd_4 x1 x2 x4 v6_6 _ _ _ hf hP hD hS (lv_sub hl [1, 2, 3, 4, 0] rfl)
  unfold f_D_spread at hf
  refine lv_iload_n hx hb d_D_spread_0 rfl (lv_at hl 3 rfl) ?_
  refine lv_sipush (v := 255) hx hb d_D_spread_1 (by decide) ?_
  refine lv_iand hx hb d_D_spread_4 ?_
  refine lv_i2l hx hb d_D_spread_5 rfl ?_
  refine lv_ldc2 (v := 72340172838076673) hx hb hown (htb _ tw_253) d_D_spread_6 ?_
  refine lv_lmul hx hb d_D_spread_9 ?_
  obtain ⟨v4_1, ev4_1, hf⟩ := lt1_s hf
  refine lv_eql ev4_1 ?_
  refine lv_lstore (lv' := [(4, .long v4_1), (0, .ref (h 1)), (1, .int a1), (2, .int a2), (3, .int a3)]) hx hb d_D_spread_10 hl (by decide) rfl (fun ls hl => ?_)
  refine lv_iconst (v := 0) hx hb d_D_spread_12 (by decide) ?_
  refine lv_istore (lv' := [(6, .int ((0 : Int32))), (4, .long v4_1), (0, .ref (h 1)), (1, .int a1), (2, .int a2), (3, .int a3)]) hx hb d_D_spread_13 hl (by decide) rfl (fun ls hl => ?_)
  exact hj_15 N wd a1 a2 v4_1 ((0 : Int32)) _ _ _ hf hP hD hS (lv_sub hl [2, 3, 4, 1, 0] rfl)
set_option maxHeartbeats 4000000 in
set_option maxRecDepth 100000 in
theorem c_D_number {l : Launch} {dC : Nat → ClassId} {dI : Nat → Nat → Nat} {h : Nat → Nat} {cI : ClassId} {cL : ClassId} {NW : Nat} {bk : Int32} {sz : Int32} {wd : Nat → Int64} {mb : Nat → Int32} {gB : Int32} {gI : Int32} {gN : Int32} {iN : Int32} {dr : Int32} {es : Int64} {of : Int64} {od : Int32} {pl : Int64} {hd : Int64} {tk : Nat → Int32} {kn : Nat → Int32} {li : Nat → Int32} {pa : Nat → Int32} {ins : Nat → Int32} {cm : Int32} {fd : Int32} {hr : Int32} {hs : Nat} {a1 : Int64} {a3 : Int32} {r : Int64} (hf : f_D_number NW sz wd a1 a3 = some (r)) : Met l y_D_number ws_D_number { frames := 0, cells := 0, slots := 0, locals := 0 } (PcU (dC, dI) clAll [(cI, .int), (cL, .long)] (wC h cI cL NW bk sz wd mb gB gI gN iN dr es of od pl hd tk kn li pa ins cm fd hr) hs [.ref (h 1), .long a1, .int a3]) (QUl (dC, dI) clAll [(cI, .int), (cL, .long)] (wC h cI cL NW bk sz wd mb gB gI gN iN dr es of od pl hd tk kn li pa ins cm fd hr) (wC h cI cL NW bk sz wd mb gB gI gN iN dr es of od pl hd tk kn li pa ins cm fd hr) hs r) 0 0 (va_A (wC h cI cL NW bk sz wd mb gB gI gN iN dr es of od pl hd tk kn li pa ins cm fd hr) hs) := by
  refine mUl (cc := b_D_number) (maxL := 8) (by decide) rfl (Nat.le_of_ble_eq_true rfl) ?_
  intro p e s m args below meth c Q hx hb hml hts hown A hA hK hP hD hS hret ls hl
  have htb : ∀ w ∈ TB, w.before args s = true := fun w h => hts w (List.mem_cons_of_mem _ h)
  have hl : lv_has ls 8 [(0, .ref (h 1)), (1, .long a1), (3, .int a3)] := hl
  have hj_91 : ∀ (x3 : Int32) (x6 : Int64) (H : Heap) (locs : List Loc) (ls : Array Slot), f_D_number_91 NW sz wd x3 x6 = some (r) → va_P (dC, dI) clAll (wC h cI cL NW bk sz wd mb gB gI gN iN dr es of od pl hd tk kn li pa ins cm fd hr) H → va_D A (wC h cI cL NW bk sz wd mb gB gI gN iN dr es of od pl hd tk kn li pa ins cm fd hr) → va_S A s.heap H locs → lv_has ls 8 [(3, .int x3), (6, .long x6)] → W p l e (headSpec ws_D_number { frames := 0, cells := 0, slots := 0, locals := 0 }).room s m args below meth c H locs 0 0 Q (F0 m 91 ls []) := by
    intro x3 x6 H locs ls hf hP hD hS hl
    unfold f_D_number_91 at hf
    refine lv_lload hx hb d_D_number_91 (lv_at hl 1 rfl) ?_
    refine lv_ldc2 (v := -1) hx hb hown (htb _ tw_236) d_D_number_93 ?_
    refine lv_bipush (v := 64) hx hb d_D_number_96 (by decide) ?_
    refine lv_bipush (v := 8) hx hb d_D_number_98 (by decide) ?_
    refine lv_iload_n hx hb d_D_number_100 rfl (lv_at hl 0 rfl) ?_
    refine lv_imul hx hb d_D_number_101 ?_
    refine lv_isub hx hb d_D_number_102 ?_
    refine lv_lushr hx hb d_D_number_103 rfl ?_
    refine lv_land hx hb d_D_number_104 ?_
    cases hf
    exact hret _ _ _ _ hP hD hS d_D_number_105
  unfold f_D_number at hf
  refine lv_iload_n hx hb d_D_number_0 rfl (lv_at hl 2 rfl) ?_
  refine lv_iconst (v := 1) hx hb d_D_number_1 (by decide) ?_
  refine lv_icmp_lt (tgt := 29) hx hb d_D_number_2 (by decide) (fun c_1 => ?_) (fun c_1 => ?_)
  · have hf := ite_t c_1 hf
    refine lv_lconst (v := 0) hx hb d_D_number_29 (by decide) ?_
    cases hf
    exact hret _ _ _ _ hP hD hS d_D_number_30
  · have hf := ite_f c_1 hf
    refine lv_iload_n hx hb d_D_number_5 rfl (lv_at hl 2 rfl) ?_
    refine lv_bipush (v := 8) hx hb d_D_number_6 (by decide) ?_
    refine lv_icmp_gt (tgt := 29) hx hb d_D_number_8 (by decide) (fun c_2 => ?_) (fun c_2 => ?_)
    · have hf := ite_t c_2 hf
      refine lv_lconst (v := 0) hx hb d_D_number_29 (by decide) ?_
      cases hf
      exact hret _ _ _ _ hP hD hS d_D_number_30
    · have hf := ite_f c_2 hf
      refine lv_lload_n hx hb d_D_number_11 rfl (lv_at hl 1 rfl) ?_
      refine lv_lconst (v := 0) hx hb d_D_number_12 (by decide) ?_
      refine lc_lt (tgt := 29) hx hb d_D_number_13 d_D_number_14 (by decide) (fun c_3 => ?_) (fun c_3 => ?_)
      · have hf := ite_t c_3 hf
        refine lv_lconst (v := 0) hx hb d_D_number_29 (by decide) ?_
        cases hf
        exact hret _ _ _ _ hP hD hS d_D_number_30
      · have hf := ite_f c_3 hf
        refine lv_lload_n hx hb d_D_number_17 rfl (lv_at hl 1 rfl) ?_
        refine lv_aload_n hx hb d_D_number_18 rfl (lv_at hl 0 rfl) ?_
        refine va_get (D := (dC, dI)) (ci := 0) (v := .int sz) (C := R_D) (T := T_D) (N := 3) hx hb htb in_D hown hK hP 1 rfl rfl 1 (by decide) (htb _ tw_103) (fun _ h9 => h9) rfl d_D_number_19 ?_
        refine lv_iload_n hx hb d_D_number_22 rfl (lv_at hl 2 rfl) ?_
        refine lv_isub hx hb d_D_number_23 ?_
        refine lv_i2l hx hb d_D_number_24 rfl ?_
        refine lc_le (tgt := 31) hx hb d_D_number_25 d_D_number_26 (by decide) (fun c_4 => ?_) (fun c_4 => ?_)
        · have hf := ite_t c_4 hf
          refine lv_lload_n hx hb d_D_number_31 rfl (lv_at hl 1 rfl) ?_
          refine lv_iconst (v := 3) hx hb d_D_number_32 (by decide) ?_
          refine lv_lshr hx hb d_D_number_33 rfl ?_
          refine lv_l2i hx hb d_D_number_34 rfl ?_
          obtain ⟨v4_5, ev4_5, hf⟩ := lt1_s hf
          refine lv_eqi ev4_5 ?_
          refine lv_istore (lv' := [(4, .int v4_5), (0, .ref (h 1)), (1, .long a1), (3, .int a3)]) hx hb d_D_number_35 hl (by decide) rfl (fun ls hl => ?_)
          refine lv_lload_n hx hb d_D_number_37 rfl (lv_at hl 2 rfl) ?_
          refine lv_ldc2 (v := 7) hx hb hown (htb _ tw_235) d_D_number_38 ?_
          refine lv_land hx hb d_D_number_41 ?_
          refine lv_l2i hx hb d_D_number_42 rfl ?_
          refine lv_iconst (v := 3) hx hb d_D_number_43 (by decide) ?_
          refine lv_ishl hx hb d_D_number_44 ?_
          obtain ⟨v5_6, ev5_6, hf⟩ := lt1_s hf
          refine lv_eqi ev5_6 ?_
          refine lv_istore (lv' := [(5, .int v5_6), (4, .int v4_5), (0, .ref (h 1)), (1, .long a1), (3, .int a3)]) hx hb d_D_number_45 hl (by decide) rfl (fun ls hl => ?_)
          refine lv_aload_n hx hb d_D_number_47 rfl (lv_at hl 2 rfl) ?_
          refine va_get (D := (dC, dI)) (ci := 0) (v := .ref (h 2)) (C := R_D) (T := T_D) (N := 3) hx hb htb in_D hown hK hP 1 rfl rfl 2 (by decide) (htb _ tw_104) (fun _ h9 => h9) rfl d_D_number_48 ?_
          refine lv_iload hx hb d_D_number_51 (lv_at hl 1 rfl) ?_
          obtain ⟨c_7, hf⟩ := gd_s hf
          refine va_lald (i := v4_5) hx hb hK hP 2 1 rfl rfl c_7 d_D_number_53 ?_
          refine lv_iload hx hb d_D_number_54 (lv_at hl 0 rfl) ?_
          refine lv_lushr hx hb d_D_number_56 rfl ?_
          obtain ⟨v6_8, ev6_8, hf⟩ := lt1_s hf
          refine lv_eql ev6_8 ?_
          refine lv_lstore (lv' := [(6, .long v6_8), (5, .int v5_6), (4, .int v4_5), (0, .ref (h 1)), (1, .long a1), (3, .int a3)]) hx hb d_D_number_57 hl (by decide) rfl (fun ls hl => ?_)
          refine lv_iload hx hb d_D_number_59 (lv_at hl 1 rfl) ?_
          refine lv_bipush (v := 8) hx hb d_D_number_61 (by decide) ?_
          refine lv_iload_n hx hb d_D_number_63 rfl (lv_at hl 5 rfl) ?_
          refine lv_imul hx hb d_D_number_64 ?_
          refine lv_iadd hx hb d_D_number_65 ?_
          refine lv_bipush (v := 64) hx hb d_D_number_66 (by decide) ?_
          refine lv_icmp_le (tgt := 91) hx hb d_D_number_68 (by decide) (fun c_9 => ?_) (fun c_9 => ?_)
          · have hf := ite_t c_9 hf
            exact hj_91 a3 v6_8 _ _ _ hf hP hD hS (lv_sub hl [5, 0] rfl)
          · have hf := ite_f c_9 hf
            refine lv_lload hx hb d_D_number_71 (lv_at hl 0 rfl) ?_
            refine lv_aload_n hx hb d_D_number_73 rfl (lv_at hl 3 rfl) ?_
            refine va_get (D := (dC, dI)) (ci := 0) (v := .ref (h 2)) (C := R_D) (T := T_D) (N := 3) hx hb htb in_D hown hK hP 1 rfl rfl 2 (by decide) (htb _ tw_104) (fun _ h9 => h9) rfl d_D_number_74 ?_
            refine lv_iload hx hb d_D_number_77 (lv_at hl 2 rfl) ?_
            refine lv_iconst (v := 1) hx hb d_D_number_79 (by decide) ?_
            refine lv_iadd hx hb d_D_number_80 ?_
            obtain ⟨c_10, hf⟩ := gd_s hf
            refine va_lald (i := v4_5 + ((1 : Int32))) hx hb hK hP 2 1 rfl rfl c_10 d_D_number_81 ?_
            refine lv_bipush (v := 64) hx hb d_D_number_82 (by decide) ?_
            refine lv_iload hx hb d_D_number_84 (lv_at hl 1 rfl) ?_
            refine lv_isub hx hb d_D_number_86 ?_
            refine lv_lshl hx hb d_D_number_87 rfl ?_
            refine lv_lor hx hb d_D_number_88 ?_
            obtain ⟨v6_11, ev6_11, hf⟩ := lt1_s hf
            refine lv_eql ev6_11 ?_
            refine lv_lstore (lv' := [(6, .long v6_11), (5, .int v5_6), (4, .int v4_5), (0, .ref (h 1)), (1, .long a1), (3, .int a3)]) hx hb d_D_number_89 hl (by decide) rfl (fun ls hl => ?_)
            exact hj_91 a3 v6_11 _ _ _ hf hP hD hS (lv_sub hl [5, 0] rfl)
        · have hf := ite_f c_4 hf
          refine lv_lconst (v := 0) hx hb d_D_number_29 (by decide) ?_
          cases hf
          exact hret _ _ _ _ hP hD hS d_D_number_30
set_option maxHeartbeats 4000000 in
set_option maxRecDepth 100000 in
theorem c_D_move {l : Launch} {dC : Nat → ClassId} {dI : Nat → Nat → Nat} {N : Nat} {h : Nat → Nat} {cI : ClassId} {cL : ClassId} {NW : Nat} {bk : Int32} {sz : Int32} {wd : Nat → Int64} {mb : Nat → Int32} {gB : Int32} {gI : Int32} {gN : Int32} {iN : Int32} {dr : Int32} {es : Int64} {of : Int64} {od : Int32} {pl : Int64} {hd : Int64} {tk : Nat → Int32} {kn : Nat → Int32} {li : Nat → Int32} {pa : Nat → Int32} {ins : Nat → Int32} {cm : Int32} {fd : Int32} {hr : Int32} {hs : Nat} {a1 : Int32} {a2 : Int32} {a3 : Int32} {wd' : Nat → Int64} (hf : f_D_move N NW sz wd a1 a2 a3 = some (wd')) : Met l y_D_move ws_D_move { frames := 1, cells := 0, slots := 0, locals := 31 } (PcU (dC, dI) clAll [(cI, .int), (cL, .long)] (wC h cI cL NW bk sz wd mb gB gI gN iN dr es of od pl hd tk kn li pa ins cm fd hr) hs [.ref (h 1), .int a1, .int a2, .int a3]) (QUv (dC, dI) clAll [(cI, .int), (cL, .long)] (wC h cI cL NW bk sz wd mb gB gI gN iN dr es of od pl hd tk kn li pa ins cm fd hr) (wC h cI cL NW bk sz wd' mb gB gI gN iN dr es of od pl hd tk kn li pa ins cm fd hr) hs) 0 0 (va_A (wC h cI cL NW bk sz wd mb gB gI gN iN dr es of od pl hd tk kn li pa ins cm fd hr) hs) := by
  refine mUv (cc := b_D_move) (maxL := 5) (by decide) rfl (Nat.le_of_ble_eq_true rfl) ?_
  intro p e s m args below meth c Q hx hb hml hts hown A hA hK hP hD hS hret ls hl
  have htb : ∀ w ∈ TB, w.before args s = true := fun w h => hts w (List.mem_cons_of_mem _ h)
  have hl : lv_has ls 5 [(0, .ref (h 1)), (1, .int a1), (2, .int a2), (3, .int a3)] := hl
  have hj_77 : ∀ (k_77 : Nat) (wd : Nat → Int64) (x1 : Int32) (x2 : Int32) (x4 : Int32) (H : Heap) (locs : List Loc) (ls : Array Slot), f_D_move_77 N NW sz k_77 wd x1 x2 x4 = some (wd') → va_P (dC, dI) clAll (wC h cI cL NW bk sz wd mb gB gI gN iN dr es of od pl hd tk kn li pa ins cm fd hr) H → va_D A (wC h cI cL NW bk sz wd mb gB gI gN iN dr es of od pl hd tk kn li pa ins cm fd hr) → va_S A s.heap H locs → lv_has ls 5 [(0, .ref (h 1)), (1, .int x1), (2, .int x2), (4, .int x4)] → W p l e (headSpec ws_D_move { frames := 1, cells := 0, slots := 0, locals := 31 }).room s m args below meth c H locs 0 0 Q (F0 m 77 ls []) := by
    intro k_77
    induction k_77 with
    | zero => intro _ _ _ _ _ _ _ hf; exact absurd hf (by simp [f_D_move_77])
    | succ k_77 ih_77 =>
      intro wd x1 x2 x4 H locs ls hf hP hD hS hl
      rw [f_D_move_77] at hf
      refine lv_iload hx hb d_D_move_77 (lv_at hl 3 rfl) ?_
      refine lv_bipush (v := 8) hx hb d_D_move_79 (by decide) ?_
      refine lv_icmp_lt (tgt := 118) hx hb d_D_move_81 (by decide) (fun c_1 => ?_) (fun c_1 => ?_)
      · have hf := ite_t c_1 hf
        refine lv_aload_n hx hb d_D_move_118 rfl (lv_at hl 0 rfl) ?_
        refine lv_iload_n hx hb d_D_move_119 rfl (lv_at hl 2 rfl) ?_
        refine lv_i2l hx hb d_D_move_120 rfl ?_
        refine lv_iload hx hb d_D_move_121 (lv_at hl 3 rfl) ?_
        refine lv_aload_n hx hb d_D_move_123 rfl (lv_at hl 0 rfl) ?_
        refine lv_iload_n hx hb d_D_move_124 rfl (lv_at hl 1 rfl) ?_
        refine lv_i2l hx hb d_D_move_125 rfl ?_
        refine lv_iload hx hb d_D_move_126 (lv_at hl 3 rfl) ?_
        obtain ⟨r_2, hc_3, hf⟩ := bd1_s hf
        refine ucVl (As := [.long (Int32.toInt64 x1), .int x4]) (rest := [.int x4, .long (Int32.toInt64 x2), .ref (h 1)]) ⟨hx, hb, hml, hown, htb⟩ hK hP hD hS hA (fun hs => c_D_number hc_3) (cwV 2 htb (gV tw_263 tw_264 tw_265 tw_69 tw_266) rfl rfl rfl (by decide +kernel) ⟨Nat.le_of_ble_eq_true rfl, Nat.le_of_ble_eq_true rfl⟩) 1 0 rfl rfl rfl rfl rfl hl.1 (Nat.le_of_ble_eq_true rfl) d_D_move_128 ⟨Nat.zero_le _, Nat.zero_le _⟩ (fun H locs hP hD hS => ?_)
        obtain ⟨wd_4, hc_5, hf⟩ := bd1_s hf
        refine ucVv (As := [.long (Int32.toInt64 x2), .int x4, .long r_2]) (rest := []) ⟨hx, hb, hml, hown, htb⟩ hK hP hD hS hA (fun hs => c_D_set hc_5) (cwV 3 htb (gV tw_254 tw_232 tw_233 tw_69 tw_234) rfl rfl rfl (by decide +kernel) ⟨Nat.le_of_ble_eq_true rfl, Nat.le_of_ble_eq_true rfl⟩) 1 0 rfl rfl rfl rfl rfl hl.1 (Nat.le_of_ble_eq_true rfl) d_D_move_131 ⟨Nat.zero_le _, Nat.zero_le _⟩ (fun H locs hP hD hS => ?_)
        cases hf
        exact hret _ _ _ _ hP hD hS d_D_move_134
      · have hf := ite_f c_1 hf
        refine lv_aload_n hx hb d_D_move_84 rfl (lv_at hl 0 rfl) ?_
        refine lv_iload_n hx hb d_D_move_85 rfl (lv_at hl 2 rfl) ?_
        refine lv_iload hx hb d_D_move_86 (lv_at hl 3 rfl) ?_
        refine lv_iadd hx hb d_D_move_88 ?_
        refine lv_bipush (v := 8) hx hb d_D_move_89 (by decide) ?_
        refine lv_isub hx hb d_D_move_91 ?_
        refine lv_i2l hx hb d_D_move_92 rfl ?_
        refine lv_bipush (v := 8) hx hb d_D_move_93 (by decide) ?_
        refine lv_aload_n hx hb d_D_move_95 rfl (lv_at hl 0 rfl) ?_
        refine lv_iload_n hx hb d_D_move_96 rfl (lv_at hl 1 rfl) ?_
        refine lv_iload hx hb d_D_move_97 (lv_at hl 3 rfl) ?_
        refine lv_iadd hx hb d_D_move_99 ?_
        refine lv_bipush (v := 8) hx hb d_D_move_100 (by decide) ?_
        refine lv_isub hx hb d_D_move_102 ?_
        refine lv_i2l hx hb d_D_move_103 rfl ?_
        refine lv_bipush (v := 8) hx hb d_D_move_104 (by decide) ?_
        obtain ⟨r_6, hc_7, hf⟩ := bd1_s hf
        refine ucVl (As := [.long (Int32.toInt64 ((x1 + x4) - ((8 : Int32)))), .int ((8 : Int32))]) (rest := [.int ((8 : Int32)), .long (Int32.toInt64 ((x2 + x4) - ((8 : Int32)))), .ref (h 1)]) ⟨hx, hb, hml, hown, htb⟩ hK hP hD hS hA (fun hs => c_D_number hc_7) (cwV 2 htb (gV tw_263 tw_264 tw_265 tw_69 tw_266) rfl rfl rfl (by decide +kernel) ⟨Nat.le_of_ble_eq_true rfl, Nat.le_of_ble_eq_true rfl⟩) 1 0 rfl rfl rfl rfl rfl hl.1 (Nat.le_of_ble_eq_true rfl) d_D_move_106 ⟨Nat.zero_le _, Nat.zero_le _⟩ (fun H locs hP hD hS => ?_)
        obtain ⟨wd_8, hc_9, hf⟩ := bd1_s hf
        refine ucVv (As := [.long (Int32.toInt64 ((x2 + x4) - ((8 : Int32)))), .int ((8 : Int32)), .long r_6]) (rest := []) ⟨hx, hb, hml, hown, htb⟩ hK hP hD hS hA (fun hs => c_D_set hc_9) (cwV 3 htb (gV tw_254 tw_232 tw_233 tw_69 tw_234) rfl rfl rfl (by decide +kernel) ⟨Nat.le_of_ble_eq_true rfl, Nat.le_of_ble_eq_true rfl⟩) 1 0 rfl rfl rfl rfl rfl hl.1 (Nat.le_of_ble_eq_true rfl) d_D_move_109 ⟨Nat.zero_le _, Nat.zero_le _⟩ (fun H locs hP hD hS => ?_)
        obtain ⟨v4_10, ev4_10, hf⟩ := lt1_s hf
        refine lv_iinc (v := v4_10) (lv' := [(4, .int v4_10), (0, .ref (h 1)), (1, .int x1), (2, .int x2)]) hx hb d_D_move_112 hl (k := 3) rfl (by rw [← ev4_10]; rfl) (by decide) rfl (fun ls hl => ?_)
        refine lv_goto (tgt := 77) hx hb d_D_move_115 (by decide) ?_
        exact ih_77 wd_8 x1 x2 v4_10 _ _ _ hf hP hD hS (lv_sub hl [1, 2, 3, 0] rfl)
  have hj_8 : ∀ (k_8 : Nat) (wd : Nat → Int64) (x1 : Int32) (x2 : Int32) (x3 : Int32) (x4 : Int32) (H : Heap) (locs : List Loc) (ls : Array Slot), f_D_move_8 N NW sz k_8 wd x1 x2 x3 x4 = some (wd') → va_P (dC, dI) clAll (wC h cI cL NW bk sz wd mb gB gI gN iN dr es of od pl hd tk kn li pa ins cm fd hr) H → va_D A (wC h cI cL NW bk sz wd mb gB gI gN iN dr es of od pl hd tk kn li pa ins cm fd hr) → va_S A s.heap H locs → lv_has ls 5 [(0, .ref (h 1)), (1, .int x1), (2, .int x2), (3, .int x3), (4, .int x4)] → W p l e (headSpec ws_D_move { frames := 1, cells := 0, slots := 0, locals := 31 }).room s m args below meth c H locs 0 0 Q (F0 m 8 ls []) := by
    intro k_8
    induction k_8 with
    | zero => intro _ _ _ _ _ _ _ _ hf; exact absurd hf (by simp [f_D_move_8])
    | succ k_8 ih_8 =>
      intro wd x1 x2 x3 x4 H locs ls hf hP hD hS hl
      rw [f_D_move_8] at hf
      refine lv_iload hx hb d_D_move_8 (lv_at hl 4 rfl) ?_
      refine lv_iload_n hx hb d_D_move_10 rfl (lv_at hl 3 rfl) ?_
      refine lv_bipush (v := 8) hx hb d_D_move_11 (by decide) ?_
      refine lv_isub hx hb d_D_move_13 ?_
      refine lv_icmp_gt (tgt := 45) hx hb d_D_move_14 (by decide) (fun c_1 => ?_) (fun c_1 => ?_)
      · have hf := ite_t c_1 hf
        refine lv_aload_n hx hb d_D_move_45 rfl (lv_at hl 0 rfl) ?_
        refine lv_iload_n hx hb d_D_move_46 rfl (lv_at hl 2 rfl) ?_
        refine lv_iload hx hb d_D_move_47 (lv_at hl 4 rfl) ?_
        refine lv_iadd hx hb d_D_move_49 ?_
        refine lv_i2l hx hb d_D_move_50 rfl ?_
        refine lv_iload_n hx hb d_D_move_51 rfl (lv_at hl 3 rfl) ?_
        refine lv_iload hx hb d_D_move_52 (lv_at hl 4 rfl) ?_
        refine lv_isub hx hb d_D_move_54 ?_
        refine lv_aload_n hx hb d_D_move_55 rfl (lv_at hl 0 rfl) ?_
        refine lv_iload_n hx hb d_D_move_56 rfl (lv_at hl 1 rfl) ?_
        refine lv_iload hx hb d_D_move_57 (lv_at hl 4 rfl) ?_
        refine lv_iadd hx hb d_D_move_59 ?_
        refine lv_i2l hx hb d_D_move_60 rfl ?_
        refine lv_iload_n hx hb d_D_move_61 rfl (lv_at hl 3 rfl) ?_
        refine lv_iload hx hb d_D_move_62 (lv_at hl 4 rfl) ?_
        refine lv_isub hx hb d_D_move_64 ?_
        obtain ⟨r_2, hc_3, hf⟩ := bd1_s hf
        refine ucVl (As := [.long (Int32.toInt64 (x1 + x4)), .int (x3 - x4)]) (rest := [.int (x3 - x4), .long (Int32.toInt64 (x2 + x4)), .ref (h 1)]) ⟨hx, hb, hml, hown, htb⟩ hK hP hD hS hA (fun hs => c_D_number hc_3) (cwV 2 htb (gV tw_263 tw_264 tw_265 tw_69 tw_266) rfl rfl rfl (by decide +kernel) ⟨Nat.le_of_ble_eq_true rfl, Nat.le_of_ble_eq_true rfl⟩) 1 0 rfl rfl rfl rfl rfl hl.1 (Nat.le_of_ble_eq_true rfl) d_D_move_65 ⟨Nat.zero_le _, Nat.zero_le _⟩ (fun H locs hP hD hS => ?_)
        obtain ⟨wd_4, hc_5, hf⟩ := bd1_s hf
        refine ucVv (As := [.long (Int32.toInt64 (x2 + x4)), .int (x3 - x4), .long r_2]) (rest := []) ⟨hx, hb, hml, hown, htb⟩ hK hP hD hS hA (fun hs => c_D_set hc_5) (cwV 3 htb (gV tw_254 tw_232 tw_233 tw_69 tw_234) rfl rfl rfl (by decide +kernel) ⟨Nat.le_of_ble_eq_true rfl, Nat.le_of_ble_eq_true rfl⟩) 1 0 rfl rfl rfl rfl rfl hl.1 (Nat.le_of_ble_eq_true rfl) d_D_move_68 ⟨Nat.zero_le _, Nat.zero_le _⟩ (fun H locs hP hD hS => ?_)
        refine lv_goto (tgt := 134) hx hb d_D_move_71 (by decide) ?_
        cases hf
        exact hret _ _ _ _ hP hD hS d_D_move_134
      · have hf := ite_f c_1 hf
        refine lv_aload_n hx hb d_D_move_17 rfl (lv_at hl 0 rfl) ?_
        refine lv_iload_n hx hb d_D_move_18 rfl (lv_at hl 2 rfl) ?_
        refine lv_iload hx hb d_D_move_19 (lv_at hl 4 rfl) ?_
        refine lv_iadd hx hb d_D_move_21 ?_
        refine lv_i2l hx hb d_D_move_22 rfl ?_
        refine lv_bipush (v := 8) hx hb d_D_move_23 (by decide) ?_
        refine lv_aload_n hx hb d_D_move_25 rfl (lv_at hl 0 rfl) ?_
        refine lv_iload_n hx hb d_D_move_26 rfl (lv_at hl 1 rfl) ?_
        refine lv_iload hx hb d_D_move_27 (lv_at hl 4 rfl) ?_
        refine lv_iadd hx hb d_D_move_29 ?_
        refine lv_i2l hx hb d_D_move_30 rfl ?_
        refine lv_bipush (v := 8) hx hb d_D_move_31 (by decide) ?_
        obtain ⟨r_6, hc_7, hf⟩ := bd1_s hf
        refine ucVl (As := [.long (Int32.toInt64 (x1 + x4)), .int ((8 : Int32))]) (rest := [.int ((8 : Int32)), .long (Int32.toInt64 (x2 + x4)), .ref (h 1)]) ⟨hx, hb, hml, hown, htb⟩ hK hP hD hS hA (fun hs => c_D_number hc_7) (cwV 2 htb (gV tw_263 tw_264 tw_265 tw_69 tw_266) rfl rfl rfl (by decide +kernel) ⟨Nat.le_of_ble_eq_true rfl, Nat.le_of_ble_eq_true rfl⟩) 1 0 rfl rfl rfl rfl rfl hl.1 (Nat.le_of_ble_eq_true rfl) d_D_move_33 ⟨Nat.zero_le _, Nat.zero_le _⟩ (fun H locs hP hD hS => ?_)
        obtain ⟨wd_8, hc_9, hf⟩ := bd1_s hf
        refine ucVv (As := [.long (Int32.toInt64 (x2 + x4)), .int ((8 : Int32)), .long r_6]) (rest := []) ⟨hx, hb, hml, hown, htb⟩ hK hP hD hS hA (fun hs => c_D_set hc_9) (cwV 3 htb (gV tw_254 tw_232 tw_233 tw_69 tw_234) rfl rfl rfl (by decide +kernel) ⟨Nat.le_of_ble_eq_true rfl, Nat.le_of_ble_eq_true rfl⟩) 1 0 rfl rfl rfl rfl rfl hl.1 (Nat.le_of_ble_eq_true rfl) d_D_move_36 ⟨Nat.zero_le _, Nat.zero_le _⟩ (fun H locs hP hD hS => ?_)
        obtain ⟨v4_10, ev4_10, hf⟩ := lt1_s hf
        refine lv_iinc (v := v4_10) (lv' := [(4, .int v4_10), (0, .ref (h 1)), (1, .int x1), (2, .int x2), (3, .int x3)]) hx hb d_D_move_39 hl (k := 4) rfl (by rw [← ev4_10]; rfl) (by decide) rfl (fun ls hl => ?_)
        refine lv_goto (tgt := 8) hx hb d_D_move_42 (by decide) ?_
        exact ih_8 wd_8 x1 x2 x3 v4_10 _ _ _ hf hP hD hS (lv_sub hl [1, 2, 3, 4, 0] rfl)
  unfold f_D_move at hf
  refine lv_iload_n hx hb d_D_move_0 rfl (lv_at hl 2 rfl) ?_
  refine lv_iload_n hx hb d_D_move_1 rfl (lv_at hl 1 rfl) ?_
  refine lv_icmp_gt (tgt := 74) hx hb d_D_move_2 (by decide) (fun c_1 => ?_) (fun c_1 => ?_)
  · have hf := ite_t c_1 hf
    refine lv_iload_n hx hb d_D_move_74 rfl (lv_at hl 3 rfl) ?_
    refine lv_istore (lv' := [(4, .int a3), (0, .ref (h 1)), (1, .int a1), (2, .int a2), (3, .int a3)]) hx hb d_D_move_75 hl (by decide) rfl (fun ls hl => ?_)
    exact hj_77 N wd a1 a2 a3 _ _ _ hf hP hD hS (lv_sub hl [1, 2, 3, 0] rfl)
  · have hf := ite_f c_1 hf
    refine lv_iconst (v := 0) hx hb d_D_move_5 (by decide) ?_
    refine lv_istore (lv' := [(4, .int ((0 : Int32))), (0, .ref (h 1)), (1, .int a1), (2, .int a2), (3, .int a3)]) hx hb d_D_move_6 hl (by decide) rfl (fun ls hl => ?_)
    exact hj_8 N wd a1 a2 a3 ((0 : Int32)) _ _ _ hf hP hD hS (lv_sub hl [1, 2, 3, 4, 0] rfl)
set_option maxHeartbeats 4000000 in
set_option maxRecDepth 100000 in
theorem c_D_blocks {l : Launch} {dC : Nat → ClassId} {dI : Nat → Nat → Nat} {h : Nat → Nat} {cI : ClassId} {cL : ClassId} {NW : Nat} {bk : Int32} {sz : Int32} {wd : Nat → Int64} {mb : Nat → Int32} {gB : Int32} {gI : Int32} {gN : Int32} {iN : Int32} {dr : Int32} {es : Int64} {of : Int64} {od : Int32} {pl : Int64} {hd : Int64} {tk : Nat → Int32} {kn : Nat → Int32} {li : Nat → Int32} {pa : Nat → Int32} {ins : Nat → Int32} {cm : Int32} {fd : Int32} {hr : Int32} {hs : Nat} {r : Int32} (hf : f_D_blocks NW bk = some (r)) : Met l y_D_blocks ws_D_blocks { frames := 0, cells := 0, slots := 0, locals := 0 } (PcU (dC, dI) clAll [(cI, .int), (cL, .long)] (wC h cI cL NW bk sz wd mb gB gI gN iN dr es of od pl hd tk kn li pa ins cm fd hr) hs [.ref (h 1)]) (QUi (dC, dI) clAll [(cI, .int), (cL, .long)] (wC h cI cL NW bk sz wd mb gB gI gN iN dr es of od pl hd tk kn li pa ins cm fd hr) (wC h cI cL NW bk sz wd mb gB gI gN iN dr es of od pl hd tk kn li pa ins cm fd hr) hs r) 0 0 (va_A (wC h cI cL NW bk sz wd mb gB gI gN iN dr es of od pl hd tk kn li pa ins cm fd hr) hs) := by
  refine mUi (cc := b_D_blocks) (maxL := 1) (by decide) rfl (Nat.le_of_ble_eq_true rfl) ?_
  intro p e s m args below meth c Q hx hb hml hts hown A hA hK hP hD hS hret ls hl
  have htb : ∀ w ∈ TB, w.before args s = true := fun w h => hts w (List.mem_cons_of_mem _ h)
  have hl : lv_has ls 1 [(0, .ref (h 1))] := hl
  unfold f_D_blocks at hf
  refine lv_aload_n hx hb d_D_blocks_0 rfl (lv_at hl 0 rfl) ?_
  refine va_get (D := (dC, dI)) (ci := 0) (v := .int bk) (C := R_D) (T := T_D) (N := 3) hx hb htb in_D hown hK hP 1 rfl rfl 0 (by decide) (htb _ tw_102) (fun _ h9 => h9) rfl d_D_blocks_1 ?_
  cases hf
  exact hret _ _ _ _ hP hD hS d_D_blocks_4
set_option maxHeartbeats 4000000 in
set_option maxRecDepth 100000 in
theorem c_D_bit {l : Launch} {dC : Nat → ClassId} {dI : Nat → Nat → Nat} {h : Nat → Nat} {cI : ClassId} {cL : ClassId} {NW : Nat} {bk : Int32} {sz : Int32} {wd : Nat → Int64} {mb : Nat → Int32} {gB : Int32} {gI : Int32} {gN : Int32} {iN : Int32} {dr : Int32} {es : Int64} {of : Int64} {od : Int32} {pl : Int64} {hd : Int64} {tk : Nat → Int32} {kn : Nat → Int32} {li : Nat → Int32} {pa : Nat → Int32} {ins : Nat → Int32} {cm : Int32} {fd : Int32} {hr : Int32} {hs : Nat} {a1 : Int64} {a3 : Int32} {r : Int32} (hf : f_D_bit NW sz wd a1 a3 = some (r)) : Met l y_D_bit ws_D_bit { frames := 1, cells := 0, slots := 0, locals := 27 } (PcU (dC, dI) clAll [(cI, .int), (cL, .long)] (wC h cI cL NW bk sz wd mb gB gI gN iN dr es of od pl hd tk kn li pa ins cm fd hr) hs [.ref (h 1), .long a1, .int a3]) (QUi (dC, dI) clAll [(cI, .int), (cL, .long)] (wC h cI cL NW bk sz wd mb gB gI gN iN dr es of od pl hd tk kn li pa ins cm fd hr) (wC h cI cL NW bk sz wd mb gB gI gN iN dr es of od pl hd tk kn li pa ins cm fd hr) hs r) 0 0 (va_A (wC h cI cL NW bk sz wd mb gB gI gN iN dr es of od pl hd tk kn li pa ins cm fd hr) hs) := by
  refine mUz (cc := b_D_bit) (maxL := 4) (by decide) rfl (Nat.le_of_ble_eq_true rfl) ?_
  intro p e s m args below meth c Q hx hb hml hts hown A hA hK hP hD hS hret ls hl
  have htb : ∀ w ∈ TB, w.before args s = true := fun w h => hts w (List.mem_cons_of_mem _ h)
  have hl : lv_has ls 4 [(0, .ref (h 1)), (1, .long a1), (3, .int a3)] := hl
  unfold f_D_bit at hf
  refine lv_aload_n hx hb d_D_bit_0 rfl (lv_at hl 0 rfl) ?_
  refine lv_lload_n hx hb d_D_bit_1 rfl (lv_at hl 1 rfl) ?_
  refine lv_iload_n hx hb d_D_bit_2 rfl (lv_at hl 2 rfl) ?_
  refine lv_bipush (v := 8) hx hb d_D_bit_3 (by decide) ?_
  refine lv_idiv hx hb d_D_bit_5 (by decide) ?_
  refine lv_i2l hx hb d_D_bit_6 rfl ?_
  refine lv_ladd hx hb d_D_bit_7 ?_
  refine lv_iconst (v := 1) hx hb d_D_bit_8 (by decide) ?_
  obtain ⟨r_1, hc_2, hf⟩ := bd1_s hf
  refine ucVl (As := [.long (a1 + (Int32.toInt64 (a3 / ((8 : Int32))))), .int ((1 : Int32))]) (rest := []) ⟨hx, hb, hml, hown, htb⟩ hK hP hD hS hA (fun hs => c_D_number hc_2) (cwV 2 htb (gV tw_263 tw_264 tw_265 tw_69 tw_266) rfl rfl rfl (by decide +kernel) ⟨Nat.le_of_ble_eq_true rfl, Nat.le_of_ble_eq_true rfl⟩) 1 0 rfl rfl rfl rfl rfl hl.1 (Nat.le_of_ble_eq_true rfl) d_D_bit_9 ⟨Nat.zero_le _, Nat.zero_le _⟩ (fun H locs hP hD hS => ?_)
  refine lv_iload_n hx hb d_D_bit_12 rfl (lv_at hl 2 rfl) ?_
  refine lv_bipush (v := 8) hx hb d_D_bit_13 (by decide) ?_
  refine lv_irem hx hb d_D_bit_15 (by decide) ?_
  refine lv_lshr hx hb d_D_bit_16 rfl ?_
  refine lv_lconst (v := 1) hx hb d_D_bit_17 (by decide) ?_
  refine lv_land hx hb d_D_bit_18 ?_
  refine lv_lconst (v := 0) hx hb d_D_bit_19 (by decide) ?_
  refine lc_eq (tgt := 28) hx hb d_D_bit_20 d_D_bit_21 (by decide) (fun c_3 => ?_) (fun c_3 => ?_)
  · have hf := ite_t c_3 hf
    refine lv_iconst (v := 0) hx hb d_D_bit_28 (by decide) ?_
    cases hf
    exact hret _ _ _ _ (Or.inl rfl) hP hD hS d_D_bit_29
  · have hf := ite_f c_3 hf
    refine lv_iconst (v := 1) hx hb d_D_bit_24 (by decide) ?_
    refine lv_goto (tgt := 29) hx hb d_D_bit_25 (by decide) ?_
    cases hf
    exact hret _ _ _ _ (Or.inr rfl) hP hD hS d_D_bit_29
set_option maxHeartbeats 4000000 in
set_option maxRecDepth 100000 in
theorem c_D_onesFrom {l : Launch} {dC : Nat → ClassId} {dI : Nat → Nat → Nat} {N : Nat} {h : Nat → Nat} {cI : ClassId} {cL : ClassId} {NW : Nat} {bk : Int32} {sz : Int32} {wd : Nat → Int64} {mb : Nat → Int32} {gB : Int32} {gI : Int32} {gN : Int32} {iN : Int32} {dr : Int32} {es : Int64} {of : Int64} {od : Int32} {pl : Int64} {hd : Int64} {tk : Nat → Int32} {kn : Nat → Int32} {li : Nat → Int32} {pa : Nat → Int32} {ins : Nat → Int32} {cm : Int32} {fd : Int32} {hr : Int32} {hs : Nat} {a1 : Int64} {a3 : Int32} {r : Int32} (hf : f_D_onesFrom N NW sz wd a1 a3 = some (r)) : Met l y_D_onesFrom ws_D_onesFrom { frames := 1, cells := 0, slots := 0, locals := 27 } (PcU (dC, dI) clAll [(cI, .int), (cL, .long)] (wC h cI cL NW bk sz wd mb gB gI gN iN dr es of od pl hd tk kn li pa ins cm fd hr) hs [.ref (h 1), .long a1, .int a3]) (QUi (dC, dI) clAll [(cI, .int), (cL, .long)] (wC h cI cL NW bk sz wd mb gB gI gN iN dr es of od pl hd tk kn li pa ins cm fd hr) (wC h cI cL NW bk sz wd mb gB gI gN iN dr es of od pl hd tk kn li pa ins cm fd hr) hs r) 0 0 (va_A (wC h cI cL NW bk sz wd mb gB gI gN iN dr es of od pl hd tk kn li pa ins cm fd hr) hs) := by
  refine mUz (cc := b_D_onesFrom) (maxL := 5) (by decide) rfl (Nat.le_of_ble_eq_true rfl) ?_
  intro p e s m args below meth c Q hx hb hml hts hown A hA hK hP hD hS hret ls hl
  have htb : ∀ w ∈ TB, w.before args s = true := fun w h => hts w (List.mem_cons_of_mem _ h)
  have hl : lv_has ls 5 [(0, .ref (h 1)), (1, .long a1), (3, .int a3)] := hl
  have hj_53 : ∀ (k_53 : Nat) (x1 : Int64) (x4 : Int32) (H : Heap) (locs : List Loc) (ls : Array Slot), f_D_onesFrom_53 N NW sz wd k_53 x1 x4 = some (r) → va_P (dC, dI) clAll (wC h cI cL NW bk sz wd mb gB gI gN iN dr es of od pl hd tk kn li pa ins cm fd hr) H → va_D A (wC h cI cL NW bk sz wd mb gB gI gN iN dr es of od pl hd tk kn li pa ins cm fd hr) → va_S A s.heap H locs → lv_has ls 5 [(0, .ref (h 1)), (1, .long x1), (4, .int x4)] → W p l e (headSpec ws_D_onesFrom { frames := 1, cells := 0, slots := 0, locals := 27 }).room s m args below meth c H locs 0 0 Q (F0 m 53 ls []) := by
    intro k_53
    induction k_53 with
    | zero => intro _ _ _ _ _ hf; exact absurd hf (by simp [f_D_onesFrom_53])
    | succ k_53 ih_53 =>
      intro x1 x4 H locs ls hf hP hD hS hl
      rw [f_D_onesFrom_53] at hf
      refine lv_iload hx hb d_D_onesFrom_53 (lv_at hl 2 rfl) ?_
      refine lv_sipush (v := 8192) hx hb d_D_onesFrom_55 (by decide) ?_
      refine lv_icmp_ge (tgt := 90) hx hb d_D_onesFrom_58 (by decide) (fun c_1 => ?_) (fun c_1 => ?_)
      · have hf := ite_t c_1 hf
        refine lv_iconst (v := 1) hx hb d_D_onesFrom_90 (by decide) ?_
        cases hf
        exact hret _ _ _ _ (Or.inr rfl) hP hD hS d_D_onesFrom_91
      · have hf := ite_f c_1 hf
        refine lv_aload_n hx hb d_D_onesFrom_61 rfl (lv_at hl 0 rfl) ?_
        refine lv_lload_n hx hb d_D_onesFrom_62 rfl (lv_at hl 1 rfl) ?_
        refine lv_iload hx hb d_D_onesFrom_63 (lv_at hl 2 rfl) ?_
        refine lv_bipush (v := 8) hx hb d_D_onesFrom_65 (by decide) ?_
        refine lv_idiv hx hb d_D_onesFrom_67 (by decide) ?_
        refine lv_i2l hx hb d_D_onesFrom_68 rfl ?_
        refine lv_ladd hx hb d_D_onesFrom_69 ?_
        refine lv_bipush (v := 8) hx hb d_D_onesFrom_70 (by decide) ?_
        obtain ⟨r_2, hc_3, hf⟩ := bd1_s hf
        refine ucVl (As := [.long (x1 + (Int32.toInt64 (x4 / ((8 : Int32))))), .int ((8 : Int32))]) (rest := []) ⟨hx, hb, hml, hown, htb⟩ hK hP hD hS hA (fun hs => c_D_number hc_3) (cwV 2 htb (gV tw_263 tw_264 tw_265 tw_69 tw_266) rfl rfl rfl (by decide +kernel) ⟨Nat.le_of_ble_eq_true rfl, Nat.le_of_ble_eq_true rfl⟩) 1 0 rfl rfl rfl rfl rfl hl.1 (Nat.le_of_ble_eq_true rfl) d_D_onesFrom_72 ⟨Nat.zero_le _, Nat.zero_le _⟩ (fun H locs hP hD hS => ?_)
        refine lv_ldc2 (v := -1) hx hb hown (htb _ tw_236) d_D_onesFrom_75 ?_
        refine lc_eq (tgt := 84) hx hb d_D_onesFrom_78 d_D_onesFrom_79 (by decide) (fun c_4 => ?_) (fun c_4 => ?_)
        · have hf := ite_t c_4 hf
          obtain ⟨v4_5, ev4_5, hf⟩ := lt1_s hf
          refine lv_iinc (v := v4_5) (lv' := [(4, .int v4_5), (0, .ref (h 1)), (1, .long x1)]) hx hb d_D_onesFrom_84 hl (k := 2) rfl (by rw [← ev4_5]; rfl) (by decide) rfl (fun ls hl => ?_)
          refine lv_goto (tgt := 53) hx hb d_D_onesFrom_87 (by decide) ?_
          exact ih_53 x1 v4_5 _ _ _ hf hP hD hS (lv_sub hl [1, 2, 0] rfl)
        · have hf := ite_f c_4 hf
          refine lv_iconst (v := 0) hx hb d_D_onesFrom_82 (by decide) ?_
          cases hf
          exact hret _ _ _ _ (Or.inl rfl) hP hD hS d_D_onesFrom_83
  have hj_3 : ∀ (k_3 : Nat) (x1 : Int64) (x4 : Int32) (H : Heap) (locs : List Loc) (ls : Array Slot), f_D_onesFrom_3 N NW sz wd k_3 x1 x4 = some (r) → va_P (dC, dI) clAll (wC h cI cL NW bk sz wd mb gB gI gN iN dr es of od pl hd tk kn li pa ins cm fd hr) H → va_D A (wC h cI cL NW bk sz wd mb gB gI gN iN dr es of od pl hd tk kn li pa ins cm fd hr) → va_S A s.heap H locs → lv_has ls 5 [(0, .ref (h 1)), (1, .long x1), (4, .int x4)] → W p l e (headSpec ws_D_onesFrom { frames := 1, cells := 0, slots := 0, locals := 27 }).room s m args below meth c H locs 0 0 Q (F0 m 3 ls []) := by
    intro k_3
    induction k_3 with
    | zero => intro _ _ _ _ _ hf; exact absurd hf (by simp [f_D_onesFrom_3])
    | succ k_3 ih_3 =>
      intro x1 x4 H locs ls hf hP hD hS hl
      rw [f_D_onesFrom_3] at hf
      refine lv_iload hx hb d_D_onesFrom_3 (lv_at hl 2 rfl) ?_
      refine lv_sipush (v := 8192) hx hb d_D_onesFrom_5 (by decide) ?_
      refine lv_icmp_ge (tgt := 53) hx hb d_D_onesFrom_8 (by decide) (fun c_1 => ?_) (fun c_1 => ?_)
      · have hf := ite_t c_1 hf
        exact hj_53 N x1 x4 _ _ _ hf hP hD hS (lv_sub hl [0, 1, 2] rfl)
      · have hf := ite_f c_1 hf
        refine lv_iload hx hb d_D_onesFrom_11 (lv_at hl 2 rfl) ?_
        refine lv_bipush (v := 64) hx hb d_D_onesFrom_13 (by decide) ?_
        refine lv_irem hx hb d_D_onesFrom_15 (by decide) ?_
        refine lv_if_eq (tgt := 53) hx hb d_D_onesFrom_16 (by decide) (fun c_2 => ?_) (fun c_2 => ?_)
        · have hf := ite_t c_2 hf
          exact hj_53 N x1 x4 _ _ _ hf hP hD hS (lv_sub hl [0, 1, 2] rfl)
        · have hf := ite_f c_2 hf
          refine lv_aload_n hx hb d_D_onesFrom_19 rfl (lv_at hl 0 rfl) ?_
          refine lv_lload_n hx hb d_D_onesFrom_20 rfl (lv_at hl 1 rfl) ?_
          refine lv_iload hx hb d_D_onesFrom_21 (lv_at hl 2 rfl) ?_
          refine lv_bipush (v := 8) hx hb d_D_onesFrom_23 (by decide) ?_
          refine lv_idiv hx hb d_D_onesFrom_25 (by decide) ?_
          refine lv_i2l hx hb d_D_onesFrom_26 rfl ?_
          refine lv_ladd hx hb d_D_onesFrom_27 ?_
          refine lv_iconst (v := 1) hx hb d_D_onesFrom_28 (by decide) ?_
          obtain ⟨r_3, hc_4, hf⟩ := bd1_s hf
          refine ucVl (As := [.long (x1 + (Int32.toInt64 (x4 / ((8 : Int32))))), .int ((1 : Int32))]) (rest := []) ⟨hx, hb, hml, hown, htb⟩ hK hP hD hS hA (fun hs => c_D_number hc_4) (cwV 2 htb (gV tw_263 tw_264 tw_265 tw_69 tw_266) rfl rfl rfl (by decide +kernel) ⟨Nat.le_of_ble_eq_true rfl, Nat.le_of_ble_eq_true rfl⟩) 1 0 rfl rfl rfl rfl rfl hl.1 (Nat.le_of_ble_eq_true rfl) d_D_onesFrom_29 ⟨Nat.zero_le _, Nat.zero_le _⟩ (fun H locs hP hD hS => ?_)
          refine lv_iload hx hb d_D_onesFrom_32 (lv_at hl 2 rfl) ?_
          refine lv_bipush (v := 8) hx hb d_D_onesFrom_34 (by decide) ?_
          refine lv_irem hx hb d_D_onesFrom_36 (by decide) ?_
          refine lv_lshr hx hb d_D_onesFrom_37 rfl ?_
          refine lv_lconst (v := 1) hx hb d_D_onesFrom_38 (by decide) ?_
          refine lv_land hx hb d_D_onesFrom_39 ?_
          refine lv_lconst (v := 0) hx hb d_D_onesFrom_40 (by decide) ?_
          refine lc_ne (tgt := 47) hx hb d_D_onesFrom_41 d_D_onesFrom_42 (by decide) (fun c_5 => ?_) (fun c_5 => ?_)
          · have hf := ite_f c_5 hf
            obtain ⟨v4_6, ev4_6, hf⟩ := lt1_s hf
            refine lv_iinc (v := v4_6) (lv' := [(4, .int v4_6), (0, .ref (h 1)), (1, .long x1)]) hx hb d_D_onesFrom_47 hl (k := 2) rfl (by rw [← ev4_6]; rfl) (by decide) rfl (fun ls hl => ?_)
            refine lv_goto (tgt := 3) hx hb d_D_onesFrom_50 (by decide) ?_
            exact ih_3 x1 v4_6 _ _ _ hf hP hD hS (lv_sub hl [1, 2, 0] rfl)
          · have hf := ite_t c_5 hf
            refine lv_iconst (v := 0) hx hb d_D_onesFrom_45 (by decide) ?_
            cases hf
            exact hret _ _ _ _ (Or.inl rfl) hP hD hS d_D_onesFrom_46
  unfold f_D_onesFrom at hf
  refine lv_iload_n hx hb d_D_onesFrom_0 rfl (lv_at hl 2 rfl) ?_
  refine lv_istore (lv' := [(4, .int a3), (0, .ref (h 1)), (1, .long a1), (3, .int a3)]) hx hb d_D_onesFrom_1 hl (by decide) rfl (fun ls hl => ?_)
  exact hj_3 N a1 a3 _ _ _ hf hP hD hS (lv_sub hl [1, 2, 0] rfl)
