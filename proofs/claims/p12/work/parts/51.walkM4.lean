set_option maxHeartbeats 4000000 in
set_option maxRecDepth 100000 in
theorem c_M_firstFault {l : Launch} {dC : Nat → ClassId} {dI : Nat → Nat → Nat} {N : Nat} {h : Nat → Nat} {cI : ClassId} {cB : ClassId} {cZ : ClassId} {th : Int32} {nb : Int32} {dk : Nat → Int32} {lk : Int32} {fa : Int32} {pp : Int32} {gg : Int32} {jj : Int32} {qq : Int32} {mp : Nat → Int32} {fx : Nat → Int32} {tn : Nat → Int32} {mn : Int32} {oq : Nat → Int32} {pq : Nat → Int32} {fo : Nat → Int32} {ca : Nat → Int32} {hr : Int32} {fd : Int32} {hs : Nat} {r : Int32} {pp' : Int32} {gg' : Int32} {jj' : Int32} {qq' : Int32} {mp' : Nat → Int32} {fx' : Nat → Int32} {tn' : Nat → Int32} {mn' : Int32} {oq' : Nat → Int32} {pq' : Nat → Int32} {fo' : Nat → Int32} {ca' : Nat → Int32} {fd' : Int32} (hf : f_M_firstFault N nb dk pp gg jj qq mp fx tn mn oq pq fo ca fd = some (r, pp', gg', jj', qq', mp', fx', tn', mn', oq', pq', fo', ca', fd')) : Met l y_M_firstFault ws_M_firstFault { frames := 7, cells := 0, slots := 0, locals := 159 } (PcU (dC, dI) clAll [(cI, .int), (cB, .byte), (cZ, .boolean)] (wM h cI cB cZ th nb dk lk fa pp gg jj qq mp fx tn mn oq pq fo ca hr fd) hs [.ref (h 0)]) (QUi (dC, dI) clAll [(cI, .int), (cB, .byte), (cZ, .boolean)] (wM h cI cB cZ th nb dk lk fa pp gg jj qq mp fx tn mn oq pq fo ca hr fd) (wM h cI cB cZ th nb dk lk fa pp' gg' jj' qq' mp' fx' tn' mn' oq' pq' fo' ca' hr fd') hs r) 0 0 (va_A (wM h cI cB cZ th nb dk lk fa pp gg jj qq mp fx tn mn oq pq fo ca hr fd) hs) := by
  refine mUi (cc := b_M_firstFault) (maxL := 2) (by decide) rfl (Nat.le_of_ble_eq_true rfl) ?_
  intro p e s m args below meth c Q hx hb hml hts hown A hA hK hP hD hS hret ls hl
  have htb : ∀ w ∈ TB, w.before args s = true := fun w h => hts w (List.mem_cons_of_mem _ h)
  have hl : lv_has ls 2 [(0, .ref (h 0))] := hl
  have hj_2 : ∀ (k_2 : Nat) (pp : Int32) (gg : Int32) (jj : Int32) (qq : Int32) (mp : Nat → Int32) (fx : Nat → Int32) (tn : Nat → Int32) (mn : Int32) (oq : Nat → Int32) (pq : Nat → Int32) (fo : Nat → Int32) (ca : Nat → Int32) (fd : Int32) (x1 : Int32) (H : Heap) (locs : List Loc) (ls : Array Slot), f_M_firstFault_2 N nb dk k_2 pp gg jj qq mp fx tn mn oq pq fo ca fd x1 = some (r, pp', gg', jj', qq', mp', fx', tn', mn', oq', pq', fo', ca', fd') → va_P (dC, dI) clAll (wM h cI cB cZ th nb dk lk fa pp gg jj qq mp fx tn mn oq pq fo ca hr fd) H → va_D A (wM h cI cB cZ th nb dk lk fa pp gg jj qq mp fx tn mn oq pq fo ca hr fd) → va_S A s.heap H locs → lv_has ls 2 [(0, .ref (h 0)), (1, .int x1)] → W p l e (headSpec ws_M_firstFault { frames := 7, cells := 0, slots := 0, locals := 159 }).room s m args below meth c H locs 0 0 Q (F0 m 2 ls []) := by
    intro k_2
    induction k_2 with
    | zero => intro _ _ _ _ _ _ _ _ _ _ _ _ _ _ _ _ _ hf; exact absurd hf (by simp [f_M_firstFault_2])
    | succ k_2 ih_2 =>
      intro pp gg jj qq mp fx tn mn oq pq fo ca fd x1 H locs ls hf hP hD hS hl
      rw [f_M_firstFault_2] at hf
      refine lv_iload_n hx hb d_M_firstFault_2 rfl (lv_at hl 1 rfl) ?_
      refine lv_sipush (v := 512) hx hb d_M_firstFault_3 (by decide) ?_
      refine lv_icmp_ge (tgt := 29) hx hb d_M_firstFault_6 (by decide) (fun c_1 => ?_) (fun c_1 => ?_)
      · have hf := ite_t c_1 hf
        refine lv_aload_n hx hb d_M_firstFault_29 rfl (lv_at hl 0 rfl) ?_
        obtain ⟨r_2, pp_3, gg_4, jj_5, qq_6, hc_7, hf⟩ := bd5_s hf
        refine ucVi (As := []) (rest := []) ⟨hx, hb, hml, hown, htb⟩ hK hP hD hS hA (fun hs => c_M_badHead hc_7) (cwV 0 htb (gV tw_870 tw_872 tw_35 tw_74 tw_873) rfl rfl rfl (by decide +kernel) ⟨Nat.le_of_ble_eq_true rfl, Nat.le_of_ble_eq_true rfl⟩) 0 5 rfl rfl rfl rfl rfl hl.1 (Nat.le_of_ble_eq_true rfl) d_M_firstFault_30 ⟨Nat.zero_le _, Nat.zero_le _⟩ (fun H locs hP hD hS => ?_)
        refine lv_if_eq (tgt := 38) hx hb d_M_firstFault_33 (by decide) (fun c_8 => ?_) (fun c_8 => ?_)
        · have hf := ite_t c_8 hf
          refine lv_aload_n hx hb d_M_firstFault_38 rfl (lv_at hl 0 rfl) ?_
          obtain ⟨r_9, hc_10, hf⟩ := bd1_s hf
          refine ucVi (As := []) (rest := []) ⟨hx, hb, hml, hown, htb⟩ hK hP hD hS hA (fun hs => c_M_badCopies hc_10) (cwV 0 htb (gV tw_891 tw_893 tw_38 tw_74 tw_894) rfl rfl rfl (by decide +kernel) ⟨Nat.le_of_ble_eq_true rfl, Nat.le_of_ble_eq_true rfl⟩) 0 5 rfl rfl rfl rfl rfl hl.1 (Nat.le_of_ble_eq_true rfl) d_M_firstFault_39 ⟨Nat.zero_le _, Nat.zero_le _⟩ (fun H locs hP hD hS => ?_)
          refine lv_if_eq (tgt := 47) hx hb d_M_firstFault_42 (by decide) (fun c_11 => ?_) (fun c_11 => ?_)
          · have hf := ite_t c_11 hf
            refine lv_aload_n hx hb d_M_firstFault_47 rfl (lv_at hl 0 rfl) ?_
            obtain ⟨r_12, mp_13, fx_14, hc_15, hf⟩ := bd3_s hf
            refine ucVi (As := []) (rest := []) ⟨hx, hb, hml, hown, htb⟩ hK hP hD hS hA (fun hs => c_M_badMaps hc_15) (cwV 0 htb (gV tw_903 tw_905 tw_41 tw_74 tw_906) rfl rfl rfl (by decide +kernel) ⟨Nat.le_of_ble_eq_true rfl, Nat.le_of_ble_eq_true rfl⟩) 0 5 rfl rfl rfl rfl rfl hl.1 (Nat.le_of_ble_eq_true rfl) d_M_firstFault_48 ⟨Nat.zero_le _, Nat.zero_le _⟩ (fun H locs hP hD hS => ?_)
            refine lv_if_eq (tgt := 56) hx hb d_M_firstFault_51 (by decide) (fun c_16 => ?_) (fun c_16 => ?_)
            · have hf := ite_t c_16 hf
              refine lv_aload_n hx hb d_M_firstFault_56 rfl (lv_at hl 0 rfl) ?_
              obtain ⟨r_17, tn_18, mn_19, oq_20, pq_21, fo_22, ca_23, fd_24, hc_25, hf⟩ := bd8_s hf
              refine ucVi (As := []) (rest := []) ⟨hx, hb, hml, hown, htb⟩ hK hP hD hS hA (fun hs => c_M_tree hc_25) (cwV 0 htb (gV tw_911 tw_913 tw_43 tw_74 tw_914) rfl rfl rfl (by decide +kernel) ⟨Nat.le_of_ble_eq_true rfl, Nat.le_of_ble_eq_true rfl⟩) 0 5 rfl rfl rfl rfl rfl hl.1 (Nat.le_of_ble_eq_true rfl) d_M_firstFault_57 ⟨Nat.zero_le _, Nat.zero_le _⟩ (fun H locs hP hD hS => ?_)
              refine lv_istore_n (lv' := [(1, .int r_17), (0, .ref (h 0))]) hx hb d_M_firstFault_60 rfl hl (by decide) rfl (fun ls hl => ?_)
              refine lv_iload_n hx hb d_M_firstFault_61 rfl (lv_at hl 0 rfl) ?_
              refine lv_if_le (tgt := 67) hx hb d_M_firstFault_62 (by decide) (fun c_26 => ?_) (fun c_26 => ?_)
              · have hf := ite_t c_26 hf
                refine lv_aload_n hx hb d_M_firstFault_67 rfl (lv_at hl 1 rfl) ?_
                obtain ⟨r_27, hc_28, hf⟩ := bd1_s hf
                refine ucVi (As := []) (rest := []) ⟨hx, hb, hml, hown, htb⟩ hK hP hD hS hA (fun hs => c_M_badLinks hc_28) (cwV 0 htb (gV tw_984 tw_986 tw_60 tw_74 tw_987) rfl rfl rfl (by decide +kernel) ⟨Nat.le_of_ble_eq_true rfl, Nat.le_of_ble_eq_true rfl⟩) 0 5 rfl rfl rfl rfl rfl hl.1 (Nat.le_of_ble_eq_true rfl) d_M_firstFault_68 ⟨Nat.zero_le _, Nat.zero_le _⟩ (fun H locs hP hD hS => ?_)
                refine lv_if_eq (tgt := 79) hx hb d_M_firstFault_71 (by decide) (fun c_29 => ?_) (fun c_29 => ?_)
                · have hf := ite_t c_29 hf
                  refine lv_aload_n hx hb d_M_firstFault_79 rfl (lv_at hl 1 rfl) ?_
                  obtain ⟨r_30, hc_31, hf⟩ := bd1_s hf
                  refine ucVi (As := []) (rest := []) ⟨hx, hb, hml, hown, htb⟩ hK hP hD hS hA (fun hs => c_M_badInodes hc_31) (cwV 0 htb (gV tw_988 tw_990 tw_61 tw_74 tw_991) rfl rfl rfl (by decide +kernel) ⟨Nat.le_of_ble_eq_true rfl, Nat.le_of_ble_eq_true rfl⟩) 0 5 rfl rfl rfl rfl rfl hl.1 (Nat.le_of_ble_eq_true rfl) d_M_firstFault_80 ⟨Nat.zero_le _, Nat.zero_le _⟩ (fun H locs hP hD hS => ?_)
                  refine lv_if_eq (tgt := 91) hx hb d_M_firstFault_83 (by decide) (fun c_32 => ?_) (fun c_32 => ?_)
                  · have hf := ite_t c_32 hf
                    refine lv_aload_n hx hb d_M_firstFault_91 rfl (lv_at hl 1 rfl) ?_
                    obtain ⟨r_33, hc_34, hf⟩ := bd1_s hf
                    refine ucVi (As := []) (rest := []) ⟨hx, hb, hml, hown, htb⟩ hK hP hD hS hA (fun hs => c_M_badCounts hc_34) (cwV 0 htb (gV tw_992 tw_994 tw_62 tw_74 tw_995) rfl rfl rfl (by decide +kernel) ⟨Nat.le_of_ble_eq_true rfl, Nat.le_of_ble_eq_true rfl⟩) 0 5 rfl rfl rfl rfl rfl hl.1 (Nat.le_of_ble_eq_true rfl) d_M_firstFault_92 ⟨Nat.zero_le _, Nat.zero_le _⟩ (fun H locs hP hD hS => ?_)
                    refine lv_if_eq (tgt := 103) hx hb d_M_firstFault_95 (by decide) (fun c_35 => ?_) (fun c_35 => ?_)
                    · have hf := ite_t c_35 hf
                      refine lv_iconst (v := 0) hx hb d_M_firstFault_103 (by decide) ?_
                      cases hf
                      exact hret _ _ _ _ hP hD hS d_M_firstFault_104
                    · have hf := ite_f c_35 hf
                      refine lv_bipush (v := 8) hx hb d_M_firstFault_98 (by decide) ?_
                      refine lv_goto (tgt := 104) hx hb d_M_firstFault_100 (by decide) ?_
                      cases hf
                      exact hret _ _ _ _ hP hD hS d_M_firstFault_104
                  · have hf := ite_f c_32 hf
                    refine lv_bipush (v := 7) hx hb d_M_firstFault_86 (by decide) ?_
                    refine lv_goto (tgt := 104) hx hb d_M_firstFault_88 (by decide) ?_
                    cases hf
                    exact hret _ _ _ _ hP hD hS d_M_firstFault_104
                · have hf := ite_f c_29 hf
                  refine lv_bipush (v := 6) hx hb d_M_firstFault_74 (by decide) ?_
                  refine lv_goto (tgt := 104) hx hb d_M_firstFault_76 (by decide) ?_
                  cases hf
                  exact hret _ _ _ _ hP hD hS d_M_firstFault_104
              · have hf := ite_f c_26 hf
                refine lv_iload_n hx hb d_M_firstFault_65 rfl (lv_at hl 0 rfl) ?_
                cases hf
                exact hret _ _ _ _ hP hD hS d_M_firstFault_66
            · have hf := ite_f c_16 hf
              refine lv_iconst (v := 3) hx hb d_M_firstFault_54 (by decide) ?_
              cases hf
              exact hret _ _ _ _ hP hD hS d_M_firstFault_55
          · have hf := ite_f c_11 hf
            refine lv_iconst (v := 2) hx hb d_M_firstFault_45 (by decide) ?_
            cases hf
            exact hret _ _ _ _ hP hD hS d_M_firstFault_46
        · have hf := ite_f c_8 hf
          refine lv_iconst (v := 1) hx hb d_M_firstFault_36 (by decide) ?_
          cases hf
          exact hret _ _ _ _ hP hD hS d_M_firstFault_37
      · have hf := ite_f c_1 hf
        refine lv_aload_n hx hb d_M_firstFault_9 rfl (lv_at hl 0 rfl) ?_
        refine va_get (D := (dC, dI)) (ci := 5) (v := .ref (h 3)) (C := R_M) (T := T_M) (N := 19) hx hb htb in_M hown hK hP 0 rfl rfl 10 (by decide) (htb _ tw_776) (fun _ h9 => h9) rfl d_M_firstFault_10 ?_
        refine lv_iload_n hx hb d_M_firstFault_13 rfl (lv_at hl 1 rfl) ?_
        refine lv_iconst (v := 0) hx hb d_M_firstFault_14 (by decide) ?_
        obtain ⟨c_36, hf⟩ := gd_s hf
        refine va_zast (i := x1) (x := (0 : Int32)) hx hb hK hP hD hS 3 2 rfl rfl c_36 d_M_firstFault_15 (fun H locs hP hD hS => ?_)
        obtain ⟨fx_37, efx_37, hf⟩ := lt1_s hf
        have hP : va_P (dC, dI) clAll (wM h cI cB cZ th nb dk lk fa pp gg jj qq mp fx_37 tn mn oq pq fo ca hr fd) H := efx_37 ▸ hP
        have hD : va_D A (wM h cI cB cZ th nb dk lk fa pp gg jj qq mp fx_37 tn mn oq pq fo ca hr fd) := efx_37 ▸ hD
        refine lv_aload_n hx hb d_M_firstFault_16 rfl (lv_at hl 0 rfl) ?_
        refine va_get (D := (dC, dI)) (ci := 5) (v := .ref (h 4)) (C := R_M) (T := T_M) (N := 19) hx hb htb in_M hown hK hP 0 rfl rfl 11 (by decide) (htb _ tw_777) (fun _ h9 => h9) rfl d_M_firstFault_17 ?_
        refine lv_iload_n hx hb d_M_firstFault_20 rfl (lv_at hl 1 rfl) ?_
        refine lv_iconst (v := 0) hx hb d_M_firstFault_21 (by decide) ?_
        obtain ⟨c_38, hf⟩ := gd_s hf
        refine va_zast (i := x1) (x := (0 : Int32)) hx hb hK hP hD hS 4 2 rfl rfl c_38 d_M_firstFault_22 (fun H locs hP hD hS => ?_)
        obtain ⟨tn_39, etn_39, hf⟩ := lt1_s hf
        have hP : va_P (dC, dI) clAll (wM h cI cB cZ th nb dk lk fa pp gg jj qq mp fx_37 tn_39 mn oq pq fo ca hr fd) H := etn_39 ▸ hP
        have hD : va_D A (wM h cI cB cZ th nb dk lk fa pp gg jj qq mp fx_37 tn_39 mn oq pq fo ca hr fd) := etn_39 ▸ hD
        obtain ⟨v1_40, ev1_40, hf⟩ := lt1_s hf
        refine lv_iinc (v := v1_40) (lv' := [(1, .int v1_40), (0, .ref (h 0))]) hx hb d_M_firstFault_23 hl (k := 1) rfl (by rw [← ev1_40]; rfl) (by decide) rfl (fun ls hl => ?_)
        refine lv_goto (tgt := 2) hx hb d_M_firstFault_26 (by decide) ?_
        exact ih_2 pp gg jj qq mp fx_37 tn_39 mn oq pq fo ca fd v1_40 _ _ _ hf hP hD hS (lv_sub hl [1, 0] rfl)
  unfold f_M_firstFault at hf
  refine lv_iconst (v := 0) hx hb d_M_firstFault_0 (by decide) ?_
  refine lv_istore_n (lv' := [(1, .int ((0 : Int32))), (0, .ref (h 0))]) hx hb d_M_firstFault_1 rfl hl (by decide) rfl (fun ls hl => ?_)
  exact hj_2 N pp gg jj qq mp fx tn mn oq pq fo ca fd ((0 : Int32)) _ _ _ hf hP hD hS (lv_sub hl [1, 0] rfl)
set_option maxHeartbeats 4000000 in
set_option maxRecDepth 100000 in
theorem c_M_look {l : Launch} {dC : Nat → ClassId} {dI : Nat → Nat → Nat} {N : Nat} {h : Nat → Nat} {cI : ClassId} {cB : ClassId} {cZ : ClassId} {th : Int32} {nb : Int32} {dk : Nat → Int32} {lk : Int32} {fa : Int32} {pp : Int32} {gg : Int32} {jj : Int32} {qq : Int32} {mp : Nat → Int32} {fx : Nat → Int32} {tn : Nat → Int32} {mn : Int32} {oq : Nat → Int32} {pq : Nat → Int32} {fo : Nat → Int32} {ca : Nat → Int32} {hr : Int32} {fd : Int32} {hs : Nat} {lk' : Int32} {fa' : Int32} {pp' : Int32} {gg' : Int32} {jj' : Int32} {qq' : Int32} {mp' : Nat → Int32} {fx' : Nat → Int32} {tn' : Nat → Int32} {mn' : Int32} {oq' : Nat → Int32} {pq' : Nat → Int32} {fo' : Nat → Int32} {ca' : Nat → Int32} {fd' : Int32} (hf : f_M_look N nb dk lk fa pp gg jj qq mp fx tn mn oq pq fo ca fd = some (lk', fa', pp', gg', jj', qq', mp', fx', tn', mn', oq', pq', fo', ca', fd')) : Met l y_M_look ws_M_look { frames := 8, cells := 0, slots := 0, locals := 180 } (PcU (dC, dI) clAll [(cI, .int), (cB, .byte), (cZ, .boolean)] (wM h cI cB cZ th nb dk lk fa pp gg jj qq mp fx tn mn oq pq fo ca hr fd) hs [.ref (h 0)]) (QUv (dC, dI) clAll [(cI, .int), (cB, .byte), (cZ, .boolean)] (wM h cI cB cZ th nb dk lk fa pp gg jj qq mp fx tn mn oq pq fo ca hr fd) (wM h cI cB cZ th nb dk lk' fa' pp' gg' jj' qq' mp' fx' tn' mn' oq' pq' fo' ca' hr fd') hs) 0 0 (va_A (wM h cI cB cZ th nb dk lk fa pp gg jj qq mp fx tn mn oq pq fo ca hr fd) hs) := by
  refine mUv (cc := b_M_look) (maxL := 1) (by decide) rfl (Nat.le_of_ble_eq_true rfl) ?_
  intro p e s m args below meth c Q hx hb hml hts hown A hA hK hP hD hS hret ls hl
  have htb : ∀ w ∈ TB, w.before args s = true := fun w h => hts w (List.mem_cons_of_mem _ h)
  have hl : lv_has ls 1 [(0, .ref (h 0))] := hl
  unfold f_M_look at hf
  refine lv_aload_n hx hb d_M_look_0 rfl (lv_at hl 0 rfl) ?_
  refine va_get (D := (dC, dI)) (ci := 5) (v := .int lk) (C := R_M) (T := T_M) (N := 19) hx hb htb in_M hown hK hP 0 rfl rfl 3 (by decide) (htb _ tw_769) (fun _ h9 => h9) rfl d_M_look_1 ?_
  refine lv_if_ne (tgt := 15) hx hb d_M_look_4 (by decide) (fun c_1 => ?_) (fun c_1 => ?_)
  · have hf := ite_f c_1 hf
    refine lv_aload_n hx hb d_M_look_15 rfl (lv_at hl 0 rfl) ?_
    refine lv_iconst (v := 1) hx hb d_M_look_16 (by decide) ?_
    refine va_put (D := (dC, dI)) (ci := 5) (v := .int ((1 : Int32))) (ty := .boolean) (C := R_M) (T := T_M) (N := 19) hx hb htb in_M ty_M tyok_M nm_M hown hK hP hD hS 0 rfl rfl 3 (by decide) (htb _ tw_769) (fun _ h9 => h9) rfl (by decide +kernel) rfl rfl (Nat.le_of_ble_eq_true rfl) d_M_look_17 (fun H locs hP hD hS => ?_)
    have hP : va_P (dC, dI) clAll (wM h cI cB cZ th nb dk ((1 : Int32)) fa pp gg jj qq mp fx tn mn oq pq fo ca hr fd) H := hP
    have hD : va_D A (wM h cI cB cZ th nb dk ((1 : Int32)) fa pp gg jj qq mp fx tn mn oq pq fo ca hr fd) := hD
    cases hf
    exact hret _ _ _ _ hP hD hS d_M_look_20
  · have hf := ite_t c_1 hf
    refine lv_aload_n hx hb d_M_look_7 rfl (lv_at hl 0 rfl) ?_
    refine lv_aload_n hx hb d_M_look_8 rfl (lv_at hl 0 rfl) ?_
    obtain ⟨r_2, pp_3, gg_4, jj_5, qq_6, mp_7, fx_8, tn_9, mn_10, oq_11, pq_12, fo_13, ca_14, fd_15, hc_16, hf⟩ := bd14_s hf
    refine ucVi (As := []) (rest := [.ref (h 0)]) ⟨hx, hb, hml, hown, htb⟩ hK hP hD hS hA (fun hs => c_M_firstFault hc_16) (cwV 0 htb (gV tw_866 tw_868 tw_34 tw_74 tw_869) rfl rfl rfl (by decide +kernel) ⟨Nat.le_of_ble_eq_true rfl, Nat.le_of_ble_eq_true rfl⟩) 0 5 rfl rfl rfl rfl rfl hl.1 (Nat.le_of_ble_eq_true rfl) d_M_look_9 ⟨Nat.zero_le _, Nat.zero_le _⟩ (fun H locs hP hD hS => ?_)
    refine va_put (D := (dC, dI)) (ci := 5) (v := .int r_2) (ty := .int) (C := R_M) (T := T_M) (N := 19) hx hb htb in_M ty_M tyok_M nm_M hown hK hP hD hS 0 rfl rfl 4 (by decide) (htb _ tw_770) (fun _ h9 => h9) rfl (by decide +kernel) rfl rfl (Nat.le_of_ble_eq_true rfl) d_M_look_12 (fun H locs hP hD hS => ?_)
    have hP : va_P (dC, dI) clAll (wM h cI cB cZ th nb dk lk r_2 pp_3 gg_4 jj_5 qq_6 mp_7 fx_8 tn_9 mn_10 oq_11 pq_12 fo_13 ca_14 hr fd_15) H := hP
    have hD : va_D A (wM h cI cB cZ th nb dk lk r_2 pp_3 gg_4 jj_5 qq_6 mp_7 fx_8 tn_9 mn_10 oq_11 pq_12 fo_13 ca_14 hr fd_15) := hD
    refine lv_aload_n hx hb d_M_look_15 rfl (lv_at hl 0 rfl) ?_
    refine lv_iconst (v := 1) hx hb d_M_look_16 (by decide) ?_
    refine va_put (D := (dC, dI)) (ci := 5) (v := .int ((1 : Int32))) (ty := .boolean) (C := R_M) (T := T_M) (N := 19) hx hb htb in_M ty_M tyok_M nm_M hown hK hP hD hS 0 rfl rfl 3 (by decide) (htb _ tw_769) (fun _ h9 => h9) rfl (by decide +kernel) rfl rfl (Nat.le_of_ble_eq_true rfl) d_M_look_17 (fun H locs hP hD hS => ?_)
    have hP : va_P (dC, dI) clAll (wM h cI cB cZ th nb dk ((1 : Int32)) r_2 pp_3 gg_4 jj_5 qq_6 mp_7 fx_8 tn_9 mn_10 oq_11 pq_12 fo_13 ca_14 hr fd_15) H := hP
    have hD : va_D A (wM h cI cB cZ th nb dk ((1 : Int32)) r_2 pp_3 gg_4 jj_5 qq_6 mp_7 fx_8 tn_9 mn_10 oq_11 pq_12 fo_13 ca_14 hr fd_15) := hD
    cases hf
    exact hret _ _ _ _ hP hD hS d_M_look_20
set_option maxHeartbeats 4000000 in
set_option maxRecDepth 100000 in
theorem c_M_fault {l : Launch} {dC : Nat → ClassId} {dI : Nat → Nat → Nat} {N : Nat} {h : Nat → Nat} {cI : ClassId} {cB : ClassId} {cZ : ClassId} {th : Int32} {nb : Int32} {dk : Nat → Int32} {lk : Int32} {fa : Int32} {pp : Int32} {gg : Int32} {jj : Int32} {qq : Int32} {mp : Nat → Int32} {fx : Nat → Int32} {tn : Nat → Int32} {mn : Int32} {oq : Nat → Int32} {pq : Nat → Int32} {fo : Nat → Int32} {ca : Nat → Int32} {hr : Int32} {fd : Int32} {hs : Nat} {r : Int32} {th' : Int32} {lk' : Int32} {fa' : Int32} {pp' : Int32} {gg' : Int32} {jj' : Int32} {qq' : Int32} {mp' : Nat → Int32} {fx' : Nat → Int32} {tn' : Nat → Int32} {mn' : Int32} {oq' : Nat → Int32} {pq' : Nat → Int32} {fo' : Nat → Int32} {ca' : Nat → Int32} {fd' : Int32} (hf : f_M_fault N th nb dk lk fa pp gg jj qq mp fx tn mn oq pq fo ca fd = some (r, th', lk', fa', pp', gg', jj', qq', mp', fx', tn', mn', oq', pq', fo', ca', fd')) : Met l y_M_fault ws_M_fault { frames := 9, cells := 0, slots := 0, locals := 200 } (PcU (dC, dI) clAll [(cI, .int), (cB, .byte), (cZ, .boolean)] (wM h cI cB cZ th nb dk lk fa pp gg jj qq mp fx tn mn oq pq fo ca hr fd) hs [.ref (h 0)]) (QUi (dC, dI) clAll [(cI, .int), (cB, .byte), (cZ, .boolean)] (wM h cI cB cZ th nb dk lk fa pp gg jj qq mp fx tn mn oq pq fo ca hr fd) (wM h cI cB cZ th' nb dk lk' fa' pp' gg' jj' qq' mp' fx' tn' mn' oq' pq' fo' ca' hr fd') hs r) 0 0 (va_A (wM h cI cB cZ th nb dk lk fa pp gg jj qq mp fx tn mn oq pq fo ca hr fd) hs) := by
  refine mUi (cc := b_M_fault) (maxL := 1) (by decide) rfl (Nat.le_of_ble_eq_true rfl) ?_
  intro p e s m args below meth c Q hx hb hml hts hown A hA hK hP hD hS hret ls hl
  have htb : ∀ w ∈ TB, w.before args s = true := fun w h => hts w (List.mem_cons_of_mem _ h)
  have hl : lv_has ls 1 [(0, .ref (h 0))] := hl
  unfold f_M_fault at hf
  refine lv_aload_n hx hb d_M_fault_0 rfl (lv_at hl 0 rfl) ?_
  refine lv_iconst (v := 0) hx hb d_M_fault_1 (by decide) ?_
  refine va_put (D := (dC, dI)) (ci := 5) (v := .int ((0 : Int32))) (ty := .int) (C := R_M) (T := T_M) (N := 19) hx hb htb in_M ty_M tyok_M nm_M hown hK hP hD hS 0 rfl rfl 0 (by decide) (htb _ tw_766) (fun _ h9 => h9) rfl (by decide +kernel) rfl rfl (Nat.le_of_ble_eq_true rfl) d_M_fault_2 (fun H locs hP hD hS => ?_)
  have hP : va_P (dC, dI) clAll (wM h cI cB cZ ((0 : Int32)) nb dk lk fa pp gg jj qq mp fx tn mn oq pq fo ca hr fd) H := hP
  have hD : va_D A (wM h cI cB cZ ((0 : Int32)) nb dk lk fa pp gg jj qq mp fx tn mn oq pq fo ca hr fd) := hD
  refine lv_aload_n hx hb d_M_fault_5 rfl (lv_at hl 0 rfl) ?_
  obtain ⟨lk_1, fa_2, pp_3, gg_4, jj_5, qq_6, mp_7, fx_8, tn_9, mn_10, oq_11, pq_12, fo_13, ca_14, fd_15, hc_16, hf⟩ := bd15_s hf
  refine ucVv (As := []) (rest := []) ⟨hx, hb, hml, hown, htb⟩ hK hP hD hS hA (fun hs => c_M_look hc_16) (cwV 0 htb (gV tw_862 tw_864 tw_33 tw_74 tw_865) rfl rfl rfl (by decide +kernel) ⟨Nat.le_of_ble_eq_true rfl, Nat.le_of_ble_eq_true rfl⟩) 0 5 rfl rfl rfl rfl rfl hl.1 (Nat.le_of_ble_eq_true rfl) d_M_fault_6 ⟨Nat.zero_le _, Nat.zero_le _⟩ (fun H locs hP hD hS => ?_)
  refine lv_aload_n hx hb d_M_fault_9 rfl (lv_at hl 0 rfl) ?_
  refine va_get (D := (dC, dI)) (ci := 5) (v := .int fa_2) (C := R_M) (T := T_M) (N := 19) hx hb htb in_M hown hK hP 0 rfl rfl 4 (by decide) (htb _ tw_770) (fun _ h9 => h9) rfl d_M_fault_10 ?_
  cases hf
  exact hret _ _ _ _ hP hD hS d_M_fault_13
set_option maxHeartbeats 4000000 in
set_option maxRecDepth 100000 in
theorem c_M_none {l : Launch} {dC : Nat → ClassId} {dI : Nat → Nat → Nat} {N : Nat} {h : Nat → Nat} {cI : ClassId} {cB : ClassId} {cZ : ClassId} {th : Int32} {nb : Int32} {dk : Nat → Int32} {lk : Int32} {fa : Int32} {pp : Int32} {gg : Int32} {jj : Int32} {qq : Int32} {mp : Nat → Int32} {fx : Nat → Int32} {tn : Nat → Int32} {mn : Int32} {oq : Nat → Int32} {pq : Nat → Int32} {fo : Nat → Int32} {ca : Nat → Int32} {hr : Int32} {fd : Int32} {hs : Nat} {r : Int32} {th' : Int32} {lk' : Int32} {fa' : Int32} {pp' : Int32} {gg' : Int32} {jj' : Int32} {qq' : Int32} {mp' : Nat → Int32} {fx' : Nat → Int32} {tn' : Nat → Int32} {mn' : Int32} {oq' : Nat → Int32} {pq' : Nat → Int32} {fo' : Nat → Int32} {ca' : Nat → Int32} {fd' : Int32} (hf : f_M_none N th nb dk lk fa pp gg jj qq mp fx tn mn oq pq fo ca fd = some (r, th', lk', fa', pp', gg', jj', qq', mp', fx', tn', mn', oq', pq', fo', ca', fd')) : Met l y_M_none ws_M_none { frames := 9, cells := 0, slots := 0, locals := 200 } (PcU (dC, dI) clAll [(cI, .int), (cB, .byte), (cZ, .boolean)] (wM h cI cB cZ th nb dk lk fa pp gg jj qq mp fx tn mn oq pq fo ca hr fd) hs [.ref (h 0)]) (QUi (dC, dI) clAll [(cI, .int), (cB, .byte), (cZ, .boolean)] (wM h cI cB cZ th nb dk lk fa pp gg jj qq mp fx tn mn oq pq fo ca hr fd) (wM h cI cB cZ th' nb dk lk' fa' pp' gg' jj' qq' mp' fx' tn' mn' oq' pq' fo' ca' hr fd') hs r) 0 0 (va_A (wM h cI cB cZ th nb dk lk fa pp gg jj qq mp fx tn mn oq pq fo ca hr fd) hs) := by
  refine mUz (cc := b_M_none) (maxL := 1) (by decide) rfl (Nat.le_of_ble_eq_true rfl) ?_
  intro p e s m args below meth c Q hx hb hml hts hown A hA hK hP hD hS hret ls hl
  have htb : ∀ w ∈ TB, w.before args s = true := fun w h => hts w (List.mem_cons_of_mem _ h)
  have hl : lv_has ls 1 [(0, .ref (h 0))] := hl
  have hj_22 : ∀ (th : Int32) (lk : Int32) (fa : Int32) (pp : Int32) (gg : Int32) (jj : Int32) (qq : Int32) (mp : Nat → Int32) (fx : Nat → Int32) (tn : Nat → Int32) (mn : Int32) (oq : Nat → Int32) (pq : Nat → Int32) (fo : Nat → Int32) (ca : Nat → Int32) (fd : Int32) (s1 : Int32) (H : Heap) (locs : List Loc) (ls : Array Slot), f_M_none_22 N nb dk th lk fa pp gg jj qq mp fx tn mn oq pq fo ca fd s1 = some (r, th', lk', fa', pp', gg', jj', qq', mp', fx', tn', mn', oq', pq', fo', ca', fd') → va_P (dC, dI) clAll (wM h cI cB cZ th nb dk lk fa pp gg jj qq mp fx tn mn oq pq fo ca hr fd) H → va_D A (wM h cI cB cZ th nb dk lk fa pp gg jj qq mp fx tn mn oq pq fo ca hr fd) → va_S A s.heap H locs → lv_has ls 1 [] → W p l e (headSpec ws_M_none { frames := 9, cells := 0, slots := 0, locals := 200 }).room s m args below meth c H locs 0 0 Q (F0 m 22 ls [.int s1, .ref (h 0)]) := by
    intro th lk fa pp gg jj qq mp fx tn mn oq pq fo ca fd s1 H locs ls hf hP hD hS hl
    unfold f_M_none_22 at hf
    refine lv_iconst (v := 1) hx hb d_M_none_22 (by decide) ?_
    obtain ⟨r_1, th_2, hc_3, hf⟩ := bd2_s hf
    refine ucVi (As := [.int s1, .int ((1 : Int32))]) (rest := []) ⟨hx, hb, hml, hown, htb⟩ hK hP hD hS hA (fun hs => c_M_fails hc_3) (cwV 2 htb (gV tw_1004 tw_1006 tw_64 tw_74 tw_1007) rfl rfl rfl (by decide +kernel) ⟨Nat.le_of_ble_eq_true rfl, Nat.le_of_ble_eq_true rfl⟩) 0 5 rfl rfl rfl rfl rfl hl.1 (Nat.le_of_ble_eq_true rfl) d_M_none_23 ⟨Nat.zero_le _, Nat.zero_le _⟩ (fun H locs hP hD hS => ?_)
    obtain ⟨c_4, hf⟩ := gp_s hf
    cases hf
    exact hret _ _ _ _ c_4 hP hD hS d_M_none_26
  unfold f_M_none at hf
  refine lv_aload_n hx hb d_M_none_0 rfl (lv_at hl 0 rfl) ?_
  refine lv_iconst (v := 0) hx hb d_M_none_1 (by decide) ?_
  refine va_put (D := (dC, dI)) (ci := 5) (v := .int ((0 : Int32))) (ty := .int) (C := R_M) (T := T_M) (N := 19) hx hb htb in_M ty_M tyok_M nm_M hown hK hP hD hS 0 rfl rfl 0 (by decide) (htb _ tw_766) (fun _ h9 => h9) rfl (by decide +kernel) rfl rfl (Nat.le_of_ble_eq_true rfl) d_M_none_2 (fun H locs hP hD hS => ?_)
  have hP : va_P (dC, dI) clAll (wM h cI cB cZ ((0 : Int32)) nb dk lk fa pp gg jj qq mp fx tn mn oq pq fo ca hr fd) H := hP
  have hD : va_D A (wM h cI cB cZ ((0 : Int32)) nb dk lk fa pp gg jj qq mp fx tn mn oq pq fo ca hr fd) := hD
  refine lv_aload_n hx hb d_M_none_5 rfl (lv_at hl 0 rfl) ?_
  obtain ⟨lk_1, fa_2, pp_3, gg_4, jj_5, qq_6, mp_7, fx_8, tn_9, mn_10, oq_11, pq_12, fo_13, ca_14, fd_15, hc_16, hf⟩ := bd15_s hf
  refine ucVv (As := []) (rest := []) ⟨hx, hb, hml, hown, htb⟩ hK hP hD hS hA (fun hs => c_M_look hc_16) (cwV 0 htb (gV tw_862 tw_864 tw_33 tw_74 tw_865) rfl rfl rfl (by decide +kernel) ⟨Nat.le_of_ble_eq_true rfl, Nat.le_of_ble_eq_true rfl⟩) 0 5 rfl rfl rfl rfl rfl hl.1 (Nat.le_of_ble_eq_true rfl) d_M_none_6 ⟨Nat.zero_le _, Nat.zero_le _⟩ (fun H locs hP hD hS => ?_)
  refine lv_aload_n hx hb d_M_none_9 rfl (lv_at hl 0 rfl) ?_
  refine lv_aload_n hx hb d_M_none_10 rfl (lv_at hl 0 rfl) ?_
  refine va_get (D := (dC, dI)) (ci := 5) (v := .int fa_2) (C := R_M) (T := T_M) (N := 19) hx hb htb in_M hown hK hP 0 rfl rfl 4 (by decide) (htb _ tw_770) (fun _ h9 => h9) rfl d_M_none_11 ?_
  refine lv_if_le (tgt := 21) hx hb d_M_none_14 (by decide) (fun c_17 => ?_) (fun c_17 => ?_)
  · have hf := ite_t c_17 hf
    refine lv_iconst (v := 0) hx hb d_M_none_21 (by decide) ?_
    exact hj_22 ((0 : Int32)) lk_1 fa_2 pp_3 gg_4 jj_5 qq_6 mp_7 fx_8 tn_9 mn_10 oq_11 pq_12 fo_13 ca_14 fd_15 ((0 : Int32)) _ _ _ hf hP hD hS (lv_sub hl [] rfl)
  · have hf := ite_f c_17 hf
    refine lv_iconst (v := 1) hx hb d_M_none_17 (by decide) ?_
    refine lv_goto (tgt := 22) hx hb d_M_none_18 (by decide) ?_
    exact hj_22 ((0 : Int32)) lk_1 fa_2 pp_3 gg_4 jj_5 qq_6 mp_7 fx_8 tn_9 mn_10 oq_11 pq_12 fo_13 ca_14 fd_15 ((1 : Int32)) _ _ _ hf hP hD hS (lv_sub hl [] rfl)
set_option maxHeartbeats 4000000 in
set_option maxRecDepth 100000 in
theorem c_M_count {l : Launch} {dC : Nat → ClassId} {dI : Nat → Nat → Nat} {N : Nat} {h : Nat → Nat} {cI : ClassId} {cB : ClassId} {cZ : ClassId} {th : Int32} {nb : Int32} {dk : Nat → Int32} {lk : Int32} {fa : Int32} {pp : Int32} {gg : Int32} {jj : Int32} {qq : Int32} {mp : Nat → Int32} {fx : Nat → Int32} {tn : Nat → Int32} {mn : Int32} {oq : Nat → Int32} {pq : Nat → Int32} {fo : Nat → Int32} {ca : Nat → Int32} {hr : Int32} {fd : Int32} {hs : Nat} {r : Int32} {fd' : Int32} (hf : f_M_count N dk gg mp hr fd = some (r, fd')) : Met l y_M_count ws_M_count { frames := 6, cells := 0, slots := 0, locals := 135 } (PcU (dC, dI) clAll [(cI, .int), (cB, .byte), (cZ, .boolean)] (wM h cI cB cZ th nb dk lk fa pp gg jj qq mp fx tn mn oq pq fo ca hr fd) hs [.ref (h 0)]) (QUi (dC, dI) clAll [(cI, .int), (cB, .byte), (cZ, .boolean)] (wM h cI cB cZ th nb dk lk fa pp gg jj qq mp fx tn mn oq pq fo ca hr fd) (wM h cI cB cZ th nb dk lk fa pp gg jj qq mp fx tn mn oq pq fo ca hr fd') hs r) 0 0 (va_A (wM h cI cB cZ th nb dk lk fa pp gg jj qq mp fx tn mn oq pq fo ca hr fd) hs) := by
  refine mUi (cc := b_M_count) (maxL := 2) (by decide) rfl (Nat.le_of_ble_eq_true rfl) ?_
  intro p e s m args below meth c Q hx hb hml hts hown A hA hK hP hD hS hret ls hl
  have htb : ∀ w ∈ TB, w.before args s = true := fun w h => hts w (List.mem_cons_of_mem _ h)
  have hl : lv_has ls 2 [(0, .ref (h 0))] := hl
  have hj_2 : ∀ (k_2 : Nat) (fd : Int32) (x1 : Int32) (H : Heap) (locs : List Loc) (ls : Array Slot), f_M_count_2 N dk gg mp hr k_2 fd x1 = some (r, fd') → va_P (dC, dI) clAll (wM h cI cB cZ th nb dk lk fa pp gg jj qq mp fx tn mn oq pq fo ca hr fd) H → va_D A (wM h cI cB cZ th nb dk lk fa pp gg jj qq mp fx tn mn oq pq fo ca hr fd) → va_S A s.heap H locs → lv_has ls 2 [(0, .ref (h 0)), (1, .int x1)] → W p l e (headSpec ws_M_count { frames := 6, cells := 0, slots := 0, locals := 135 }).room s m args below meth c H locs 0 0 Q (F0 m 2 ls []) := by
    intro k_2
    induction k_2 with
    | zero => intro _ _ _ _ _ hf; exact absurd hf (by simp [f_M_count_2])
    | succ k_2 ih_2 =>
      intro fd x1 H locs ls hf hP hD hS hl
      rw [f_M_count_2] at hf
      refine lv_aload_n hx hb d_M_count_2 rfl (lv_at hl 0 rfl) ?_
      refine lv_aload_n hx hb d_M_count_3 rfl (lv_at hl 0 rfl) ?_
      refine va_get (D := (dC, dI)) (ci := 5) (v := .int hr) (C := R_M) (T := T_M) (N := 19) hx hb htb in_M hown hK hP 0 rfl rfl 17 (by decide) (htb _ tw_783) (fun _ h9 => h9) rfl d_M_count_4 ?_
      refine lv_iload_n hx hb d_M_count_7 rfl (lv_at hl 1 rfl) ?_
      obtain ⟨r_1, fd_2, hc_3, hf⟩ := bd2_s hf
      refine ucVi (As := [.int hr, .int x1]) (rest := []) ⟨hx, hb, hml, hown, htb⟩ hK hP hD hS hA (fun hs => c_M_finds hc_3) (cwV 2 htb (gV tw_980 tw_982 tw_59 tw_74 tw_983) rfl rfl rfl (by decide +kernel) ⟨Nat.le_of_ble_eq_true rfl, Nat.le_of_ble_eq_true rfl⟩) 0 5 rfl rfl rfl rfl rfl hl.1 (Nat.le_of_ble_eq_true rfl) d_M_count_8 ⟨Nat.zero_le _, Nat.zero_le _⟩ (fun H locs hP hD hS => ?_)
      refine lv_if_eq (tgt := 20) hx hb d_M_count_11 (by decide) (fun c_4 => ?_) (fun c_4 => ?_)
      · have hf := ite_t c_4 hf
        refine lv_iload_n hx hb d_M_count_20 rfl (lv_at hl 1 rfl) ?_
        cases hf
        exact hret _ _ _ _ hP hD hS d_M_count_21
      · have hf := ite_f c_4 hf
        obtain ⟨v1_5, ev1_5, hf⟩ := lt1_s hf
        refine lv_iinc (v := v1_5) (lv' := [(1, .int v1_5), (0, .ref (h 0))]) hx hb d_M_count_14 hl (k := 1) rfl (by rw [← ev1_5]; rfl) (by decide) rfl (fun ls hl => ?_)
        refine lv_goto (tgt := 2) hx hb d_M_count_17 (by decide) ?_
        exact ih_2 fd_2 v1_5 _ _ _ hf hP hD hS (lv_sub hl [1, 0] rfl)
  unfold f_M_count at hf
  refine lv_iconst (v := 0) hx hb d_M_count_0 (by decide) ?_
  refine lv_istore_n (lv' := [(1, .int ((0 : Int32))), (0, .ref (h 0))]) hx hb d_M_count_1 rfl hl (by decide) rfl (fun ls hl => ?_)
  exact hj_2 N fd ((0 : Int32)) _ _ _ hf hP hD hS (lv_sub hl [1, 0] rfl)
set_option maxHeartbeats 4000000 in
set_option maxRecDepth 100000 in
theorem c_M_items {l : Launch} {dC : Nat → ClassId} {dI : Nat → Nat → Nat} {N : Nat} {h : Nat → Nat} {cI : ClassId} {cB : ClassId} {cZ : ClassId} {th : Int32} {nb : Int32} {dk : Nat → Int32} {lk : Int32} {fa : Int32} {pp : Int32} {gg : Int32} {jj : Int32} {qq : Int32} {mp : Nat → Int32} {fx : Nat → Int32} {tn : Nat → Int32} {mn : Int32} {oq : Nat → Int32} {pq : Nat → Int32} {fo : Nat → Int32} {ca : Nat → Int32} {hr : Int32} {fd : Int32} {hs : Nat} {r : Int32} {th' : Int32} {lk' : Int32} {fa' : Int32} {pp' : Int32} {gg' : Int32} {jj' : Int32} {qq' : Int32} {mp' : Nat → Int32} {fx' : Nat → Int32} {tn' : Nat → Int32} {mn' : Int32} {oq' : Nat → Int32} {pq' : Nat → Int32} {fo' : Nat → Int32} {ca' : Nat → Int32} {fd' : Int32} (hf : f_M_items N th nb dk lk fa pp gg jj qq mp fx tn mn oq pq fo ca hr fd = some (r, th', lk', fa', pp', gg', jj', qq', mp', fx', tn', mn', oq', pq', fo', ca', fd')) : Met l y_M_items ws_M_items { frames := 10, cells := 0, slots := 0, locals := 220 } (PcU (dC, dI) clAll [(cI, .int), (cB, .byte), (cZ, .boolean)] (wM h cI cB cZ th nb dk lk fa pp gg jj qq mp fx tn mn oq pq fo ca hr fd) hs [.ref (h 0)]) (QUi (dC, dI) clAll [(cI, .int), (cB, .byte), (cZ, .boolean)] (wM h cI cB cZ th nb dk lk fa pp gg jj qq mp fx tn mn oq pq fo ca hr fd) (wM h cI cB cZ th' nb dk lk' fa' pp' gg' jj' qq' mp' fx' tn' mn' oq' pq' fo' ca' hr fd') hs r) 0 0 (va_A (wM h cI cB cZ th nb dk lk fa pp gg jj qq mp fx tn mn oq pq fo ca hr fd) hs) := by
  refine mUi (cc := b_M_items) (maxL := 1) (by decide) rfl (Nat.le_of_ble_eq_true rfl) ?_
  intro p e s m args below meth c Q hx hb hml hts hown A hA hK hP hD hS hret ls hl
  have htb : ∀ w ∈ TB, w.before args s = true := fun w h => hts w (List.mem_cons_of_mem _ h)
  have hl : lv_has ls 1 [(0, .ref (h 0))] := hl
  unfold f_M_items at hf
  refine lv_aload_n hx hb d_M_items_0 rfl (lv_at hl 0 rfl) ?_
  obtain ⟨r_1, th_2, lk_3, fa_4, pp_5, gg_6, jj_7, qq_8, mp_9, fx_10, tn_11, mn_12, oq_13, pq_14, fo_15, ca_16, fd_17, hc_18, hf⟩ := bd17_s hf
  refine ucVi (As := []) (rest := []) ⟨hx, hb, hml, hown, htb⟩ hK hP hD hS hA (fun hs => c_M_none hc_18) (cwV 0 htb (gV tw_1000 tw_1002 tw_63 tw_74 tw_1003) rfl rfl rfl (by decide +kernel) ⟨Nat.le_of_ble_eq_true rfl, Nat.le_of_ble_eq_true rfl⟩) 0 5 rfl rfl rfl rfl rfl hl.1 (Nat.le_of_ble_eq_true rfl) d_M_items_1 ⟨Nat.zero_le _, Nat.zero_le _⟩ (fun H locs hP hD hS => ?_)
  refine lv_if_eq (tgt := 11) hx hb d_M_items_4 (by decide) (fun c_19 => ?_) (fun c_19 => ?_)
  · have hf := ite_t c_19 hf
    refine lv_aload_n hx hb d_M_items_11 rfl (lv_at hl 0 rfl) ?_
    obtain ⟨r_20, fd_21, hc_22, hf⟩ := bd2_s hf
    refine ucVi (As := []) (rest := []) ⟨hx, hb, hml, hown, htb⟩ hK hP hD hS hA (fun hs => c_M_count hc_22) (cwV 0 htb (gV tw_1008 tw_1010 tw_65 tw_74 tw_1011) rfl rfl rfl (by decide +kernel) ⟨Nat.le_of_ble_eq_true rfl, Nat.le_of_ble_eq_true rfl⟩) 0 5 rfl rfl rfl rfl rfl hl.1 (Nat.le_of_ble_eq_true rfl) d_M_items_12 ⟨Nat.zero_le _, Nat.zero_le _⟩ (fun H locs hP hD hS => ?_)
    cases hf
    exact hret _ _ _ _ hP hD hS d_M_items_15
  · have hf := ite_f c_19 hf
    refine lv_iconst (v := 0) hx hb d_M_items_7 (by decide) ?_
    refine lv_goto (tgt := 15) hx hb d_M_items_8 (by decide) ?_
    cases hf
    exact hret _ _ _ _ hP hD hS d_M_items_15
set_option maxHeartbeats 4000000 in
set_option maxRecDepth 100000 in
theorem c_M_no {l : Launch} {dC : Nat → ClassId} {dI : Nat → Nat → Nat} {N : Nat} {h : Nat → Nat} {cI : ClassId} {cB : ClassId} {cZ : ClassId} {th : Int32} {nb : Int32} {dk : Nat → Int32} {lk : Int32} {fa : Int32} {pp : Int32} {gg : Int32} {jj : Int32} {qq : Int32} {mp : Nat → Int32} {fx : Nat → Int32} {tn : Nat → Int32} {mn : Int32} {oq : Nat → Int32} {pq : Nat → Int32} {fo : Nat → Int32} {ca : Nat → Int32} {hr : Int32} {fd : Int32} {hs : Nat} {a1 : Int32} {r : Int32} {th' : Int32} {lk' : Int32} {fa' : Int32} {pp' : Int32} {gg' : Int32} {jj' : Int32} {qq' : Int32} {mp' : Nat → Int32} {fx' : Nat → Int32} {tn' : Nat → Int32} {mn' : Int32} {oq' : Nat → Int32} {pq' : Nat → Int32} {fo' : Nat → Int32} {ca' : Nat → Int32} {fd' : Int32} (hf : f_M_no N th nb dk lk fa pp gg jj qq mp fx tn mn oq pq fo ca hr fd a1 = some (r, th', lk', fa', pp', gg', jj', qq', mp', fx', tn', mn', oq', pq', fo', ca', fd')) : Met l y_M_no ws_M_no { frames := 10, cells := 0, slots := 0, locals := 220 } (PcU (dC, dI) clAll [(cI, .int), (cB, .byte), (cZ, .boolean)] (wM h cI cB cZ th nb dk lk fa pp gg jj qq mp fx tn mn oq pq fo ca hr fd) hs [.ref (h 0), .int a1]) (QUi (dC, dI) clAll [(cI, .int), (cB, .byte), (cZ, .boolean)] (wM h cI cB cZ th nb dk lk fa pp gg jj qq mp fx tn mn oq pq fo ca hr fd) (wM h cI cB cZ th' nb dk lk' fa' pp' gg' jj' qq' mp' fx' tn' mn' oq' pq' fo' ca' hr fd') hs r) 0 0 (va_A (wM h cI cB cZ th nb dk lk fa pp gg jj qq mp fx tn mn oq pq fo ca hr fd) hs) := by
  refine mUz (cc := b_M_no) (maxL := 2) (by decide) rfl (Nat.le_of_ble_eq_true rfl) ?_
  intro p e s m args below meth c Q hx hb hml hts hown A hA hK hP hD hS hret ls hl
  have htb : ∀ w ∈ TB, w.before args s = true := fun w h => hts w (List.mem_cons_of_mem _ h)
  have hl : lv_has ls 2 [(0, .ref (h 0)), (1, .int a1)] := hl
  have hj_29 : ∀ (th : Int32) (lk : Int32) (fa : Int32) (pp : Int32) (gg : Int32) (jj : Int32) (qq : Int32) (mp : Nat → Int32) (fx : Nat → Int32) (tn : Nat → Int32) (mn : Int32) (oq : Nat → Int32) (pq : Nat → Int32) (fo : Nat → Int32) (ca : Nat → Int32) (fd : Int32) (s1 : Int32) (H : Heap) (locs : List Loc) (ls : Array Slot), f_M_no_29 N nb dk hr th lk fa pp gg jj qq mp fx tn mn oq pq fo ca fd s1 = some (r, th', lk', fa', pp', gg', jj', qq', mp', fx', tn', mn', oq', pq', fo', ca', fd') → va_P (dC, dI) clAll (wM h cI cB cZ th nb dk lk fa pp gg jj qq mp fx tn mn oq pq fo ca hr fd) H → va_D A (wM h cI cB cZ th nb dk lk fa pp gg jj qq mp fx tn mn oq pq fo ca hr fd) → va_S A s.heap H locs → lv_has ls 2 [] → W p l e (headSpec ws_M_no { frames := 10, cells := 0, slots := 0, locals := 220 }).room s m args below meth c H locs 0 0 Q (F0 m 29 ls [.int s1, .ref (h 0)]) := by
    intro th lk fa pp gg jj qq mp fx tn mn oq pq fo ca fd s1 H locs ls hf hP hD hS hl
    unfold f_M_no_29 at hf
    refine lv_iconst (v := 2) hx hb d_M_no_29 (by decide) ?_
    obtain ⟨r_1, th_2, hc_3, hf⟩ := bd2_s hf
    refine ucVi (As := [.int s1, .int ((2 : Int32))]) (rest := []) ⟨hx, hb, hml, hown, htb⟩ hK hP hD hS hA (fun hs => c_M_fails hc_3) (cwV 2 htb (gV tw_1004 tw_1006 tw_64 tw_74 tw_1007) rfl rfl rfl (by decide +kernel) ⟨Nat.le_of_ble_eq_true rfl, Nat.le_of_ble_eq_true rfl⟩) 0 5 rfl rfl rfl rfl rfl hl.1 (Nat.le_of_ble_eq_true rfl) d_M_no_30 ⟨Nat.zero_le _, Nat.zero_le _⟩ (fun H locs hP hD hS => ?_)
    refine lv_if_eq (tgt := 40) hx hb d_M_no_33 (by decide) (fun c_4 => ?_) (fun c_4 => ?_)
    · have hf := ite_t c_4 hf
      refine lv_iconst (v := 0) hx hb d_M_no_40 (by decide) ?_
      cases hf
      exact hret _ _ _ _ (Or.inl rfl) hP hD hS d_M_no_41
    · have hf := ite_f c_4 hf
      refine lv_iconst (v := 1) hx hb d_M_no_36 (by decide) ?_
      refine lv_goto (tgt := 41) hx hb d_M_no_37 (by decide) ?_
      cases hf
      exact hret _ _ _ _ (Or.inr rfl) hP hD hS d_M_no_41
  have hj_24 : ∀ (th : Int32) (lk : Int32) (fa : Int32) (pp : Int32) (gg : Int32) (jj : Int32) (qq : Int32) (mp : Nat → Int32) (fx : Nat → Int32) (tn : Nat → Int32) (mn : Int32) (oq : Nat → Int32) (pq : Nat → Int32) (fo : Nat → Int32) (ca : Nat → Int32) (fd : Int32) (H : Heap) (locs : List Loc) (ls : Array Slot), f_M_no_24 N nb dk hr th lk fa pp gg jj qq mp fx tn mn oq pq fo ca fd = some (r, th', lk', fa', pp', gg', jj', qq', mp', fx', tn', mn', oq', pq', fo', ca', fd') → va_P (dC, dI) clAll (wM h cI cB cZ th nb dk lk fa pp gg jj qq mp fx tn mn oq pq fo ca hr fd) H → va_D A (wM h cI cB cZ th nb dk lk fa pp gg jj qq mp fx tn mn oq pq fo ca hr fd) → va_S A s.heap H locs → lv_has ls 2 [] → W p l e (headSpec ws_M_no { frames := 10, cells := 0, slots := 0, locals := 220 }).room s m args below meth c H locs 0 0 Q (F0 m 24 ls [.ref (h 0)]) := by
    intro th lk fa pp gg jj qq mp fx tn mn oq pq fo ca fd H locs ls hf hP hD hS hl
    unfold f_M_no_24 at hf
    refine lv_iconst (v := 1) hx hb d_M_no_24 (by decide) ?_
    refine lv_goto (tgt := 29) hx hb d_M_no_25 (by decide) ?_
    exact hj_29 th lk fa pp gg jj qq mp fx tn mn oq pq fo ca fd ((1 : Int32)) _ _ _ hf hP hD hS (lv_sub hl [] rfl)
  unfold f_M_no at hf
  refine lv_aload_n hx hb d_M_no_0 rfl (lv_at hl 0 rfl) ?_
  obtain ⟨r_1, th_2, lk_3, fa_4, pp_5, gg_6, jj_7, qq_8, mp_9, fx_10, tn_11, mn_12, oq_13, pq_14, fo_15, ca_16, fd_17, hc_18, hf⟩ := bd17_s hf
  refine ucVi (As := []) (rest := []) ⟨hx, hb, hml, hown, htb⟩ hK hP hD hS hA (fun hs => c_M_none hc_18) (cwV 0 htb (gV tw_1000 tw_1002 tw_63 tw_74 tw_1003) rfl rfl rfl (by decide +kernel) ⟨Nat.le_of_ble_eq_true rfl, Nat.le_of_ble_eq_true rfl⟩) 0 5 rfl rfl rfl rfl rfl hl.1 (Nat.le_of_ble_eq_true rfl) d_M_no_1 ⟨Nat.zero_le _, Nat.zero_le _⟩ (fun H locs hP hD hS => ?_)
  refine lv_if_ne (tgt := 36) hx hb d_M_no_4 (by decide) (fun c_19 => ?_) (fun c_19 => ?_)
  · have hf := ite_f c_19 hf
    refine lv_iconst (v := 1) hx hb d_M_no_36 (by decide) ?_
    refine lv_goto (tgt := 41) hx hb d_M_no_37 (by decide) ?_
    cases hf
    exact hret _ _ _ _ (Or.inr rfl) hP hD hS d_M_no_41
  · have hf := ite_t c_19 hf
    refine lv_aload_n hx hb d_M_no_7 rfl (lv_at hl 0 rfl) ?_
    refine lv_iload_n hx hb d_M_no_8 rfl (lv_at hl 1 rfl) ?_
    refine lv_if_lt (tgt := 24) hx hb d_M_no_9 (by decide) (fun c_20 => ?_) (fun c_20 => ?_)
    · have hf := ite_t c_20 hf
      exact hj_24 th_2 lk_3 fa_4 pp_5 gg_6 jj_7 qq_8 mp_9 fx_10 tn_11 mn_12 oq_13 pq_14 fo_15 ca_16 fd_17 _ _ _ hf hP hD hS (lv_sub hl [] rfl)
    · have hf := ite_f c_20 hf
      refine lv_aload_n hx hb d_M_no_12 rfl (lv_at hl 0 rfl) ?_
      refine lv_aload_n hx hb d_M_no_13 rfl (lv_at hl 0 rfl) ?_
      refine va_get (D := (dC, dI)) (ci := 5) (v := .int hr) (C := R_M) (T := T_M) (N := 19) hx hb htb in_M hown hK hP 0 rfl rfl 17 (by decide) (htb _ tw_783) (fun _ h9 => h9) rfl d_M_no_14 ?_
      refine lv_iload_n hx hb d_M_no_17 rfl (lv_at hl 1 rfl) ?_
      obtain ⟨r_21, fd_22, hc_23, hf⟩ := bd2_s hf
      refine ucVi (As := [.int hr, .int a1]) (rest := [.ref (h 0)]) ⟨hx, hb, hml, hown, htb⟩ hK hP hD hS hA (fun hs => c_M_finds hc_23) (cwV 2 htb (gV tw_980 tw_982 tw_59 tw_74 tw_983) rfl rfl rfl (by decide +kernel) ⟨Nat.le_of_ble_eq_true rfl, Nat.le_of_ble_eq_true rfl⟩) 0 5 rfl rfl rfl rfl rfl hl.1 (Nat.le_of_ble_eq_true rfl) d_M_no_18 ⟨Nat.zero_le _, Nat.zero_le _⟩ (fun H locs hP hD hS => ?_)
      refine lv_if_ne (tgt := 28) hx hb d_M_no_21 (by decide) (fun c_24 => ?_) (fun c_24 => ?_)
      · have hf := ite_f c_24 hf
        refine lv_iconst (v := 0) hx hb d_M_no_28 (by decide) ?_
        exact hj_29 th_2 lk_3 fa_4 pp_5 gg_6 jj_7 qq_8 mp_9 fx_10 tn_11 mn_12 oq_13 pq_14 fo_15 ca_16 fd_22 ((0 : Int32)) _ _ _ hf hP hD hS (lv_sub hl [] rfl)
      · have hf := ite_t c_24 hf
        exact hj_24 th_2 lk_3 fa_4 pp_5 gg_6 jj_7 qq_8 mp_9 fx_10 tn_11 mn_12 oq_13 pq_14 fo_15 ca_16 fd_22 _ _ _ hf hP hD hS (lv_sub hl [] rfl)
set_option maxHeartbeats 4000000 in
set_option maxRecDepth 100000 in
theorem c_M_letter {l : Launch} {dC : Nat → ClassId} {dI : Nat → Nat → Nat} {N : Nat} {h : Nat → Nat} {cI : ClassId} {cB : ClassId} {cZ : ClassId} {th : Int32} {nb : Int32} {dk : Nat → Int32} {lk : Int32} {fa : Int32} {pp : Int32} {gg : Int32} {jj : Int32} {qq : Int32} {mp : Nat → Int32} {fx : Nat → Int32} {tn : Nat → Int32} {mn : Int32} {oq : Nat → Int32} {pq : Nat → Int32} {fo : Nat → Int32} {ca : Nat → Int32} {hr : Int32} {fd : Int32} {hs : Nat} {a1 : Int32} {a2 : Int32} {r : Int32} {th' : Int32} {lk' : Int32} {fa' : Int32} {pp' : Int32} {gg' : Int32} {jj' : Int32} {qq' : Int32} {mp' : Nat → Int32} {fx' : Nat → Int32} {tn' : Nat → Int32} {mn' : Int32} {oq' : Nat → Int32} {pq' : Nat → Int32} {fo' : Nat → Int32} {ca' : Nat → Int32} {fd' : Int32} (hf : f_M_letter N th nb dk lk fa pp gg jj qq mp fx tn mn oq pq fo ca hr fd a1 a2 = some (r, th', lk', fa', pp', gg', jj', qq', mp', fx', tn', mn', oq', pq', fo', ca', fd')) : Met l y_M_letter ws_M_letter { frames := 11, cells := 0, slots := 0, locals := 241 } (PcU (dC, dI) clAll [(cI, .int), (cB, .byte), (cZ, .boolean)] (wM h cI cB cZ th nb dk lk fa pp gg jj qq mp fx tn mn oq pq fo ca hr fd) hs [.ref (h 0), .int a1, .int a2]) (QUi (dC, dI) clAll [(cI, .int), (cB, .byte), (cZ, .boolean)] (wM h cI cB cZ th nb dk lk fa pp gg jj qq mp fx tn mn oq pq fo ca hr fd) (wM h cI cB cZ th' nb dk lk' fa' pp' gg' jj' qq' mp' fx' tn' mn' oq' pq' fo' ca' hr fd') hs r) 0 0 (va_A (wM h cI cB cZ th nb dk lk fa pp gg jj qq mp fx tn mn oq pq fo ca hr fd) hs) := by
  refine mUi (cc := b_M_letter) (maxL := 3) (by decide) rfl (Nat.le_of_ble_eq_true rfl) ?_
  intro p e s m args below meth c Q hx hb hml hts hown A hA hK hP hD hS hret ls hl
  have htb : ∀ w ∈ TB, w.before args s = true := fun w h => hts w (List.mem_cons_of_mem _ h)
  have hl : lv_has ls 3 [(0, .ref (h 0)), (1, .int a1), (2, .int a2)] := hl
  unfold f_M_letter at hf
  refine lv_aload_n hx hb d_M_letter_0 rfl (lv_at hl 0 rfl) ?_
  refine lv_iload_n hx hb d_M_letter_1 rfl (lv_at hl 1 rfl) ?_
  obtain ⟨r_1, th_2, lk_3, fa_4, pp_5, gg_6, jj_7, qq_8, mp_9, fx_10, tn_11, mn_12, oq_13, pq_14, fo_15, ca_16, fd_17, hc_18, hf⟩ := bd17_s hf
  refine ucVi (As := [.int a1]) (rest := []) ⟨hx, hb, hml, hown, htb⟩ hK hP hD hS hA (fun hs => c_M_no hc_18) (cwV 1 htb (gV tw_1016 tw_1018 tw_66 tw_74 tw_1019) rfl rfl rfl (by decide +kernel) ⟨Nat.le_of_ble_eq_true rfl, Nat.le_of_ble_eq_true rfl⟩) 0 5 rfl rfl rfl rfl rfl hl.1 (Nat.le_of_ble_eq_true rfl) d_M_letter_2 ⟨Nat.zero_le _, Nat.zero_le _⟩ (fun H locs hP hD hS => ?_)
  refine lv_if_eq (tgt := 10) hx hb d_M_letter_5 (by decide) (fun c_19 => ?_) (fun c_19 => ?_)
  · have hf := ite_t c_19 hf
    refine lv_iload_n hx hb d_M_letter_10 rfl (lv_at hl 2 rfl) ?_
    refine lv_if_lt (tgt := 26) hx hb d_M_letter_11 (by decide) (fun c_20 => ?_) (fun c_20 => ?_)
    · have hf := ite_t c_20 hf
      refine lv_iconst (v := -1) hx hb d_M_letter_26 (by decide) ?_
      refine lv_goto (tgt := 43) hx hb d_M_letter_27 (by decide) ?_
      cases hf
      exact hret _ _ _ _ hP hD hS d_M_letter_43
    · have hf := ite_f c_20 hf
      refine lv_iload_n hx hb d_M_letter_14 rfl (lv_at hl 2 rfl) ?_
      refine lv_aload_n hx hb d_M_letter_15 rfl (lv_at hl 0 rfl) ?_
      refine lv_aload_n hx hb d_M_letter_16 rfl (lv_at hl 0 rfl) ?_
      refine va_get (D := (dC, dI)) (ci := 5) (v := .int fd_17) (C := R_M) (T := T_M) (N := 19) hx hb htb in_M hown hK hP 0 rfl rfl 18 (by decide) (htb _ tw_784) (fun _ h9 => h9) rfl d_M_letter_17 ?_
      obtain ⟨r_21, hc_22, hf⟩ := bd1_s hf
      refine ucVi (As := [.int fd_17]) (rest := [.int a2]) ⟨hx, hb, hml, hown, htb⟩ hK hP hD hS hA (fun hs => c_M_nameSize hc_22) (cwV 1 htb (gV tw_971 tw_973 tw_57 tw_74 tw_974) rfl rfl rfl (by decide +kernel) ⟨Nat.le_of_ble_eq_true rfl, Nat.le_of_ble_eq_true rfl⟩) 0 5 rfl rfl rfl rfl rfl hl.1 (Nat.le_of_ble_eq_true rfl) d_M_letter_20 ⟨Nat.zero_le _, Nat.zero_le _⟩ (fun H locs hP hD hS => ?_)
      refine lv_icmp_lt (tgt := 30) hx hb d_M_letter_23 (by decide) (fun c_23 => ?_) (fun c_23 => ?_)
      · have hf := ite_t c_23 hf
        refine lv_aload_n hx hb d_M_letter_30 rfl (lv_at hl 0 rfl) ?_
        refine lv_aload_n hx hb d_M_letter_31 rfl (lv_at hl 0 rfl) ?_
        refine va_get (D := (dC, dI)) (ci := 5) (v := .int fd_17) (C := R_M) (T := T_M) (N := 19) hx hb htb in_M hown hK hP 0 rfl rfl 18 (by decide) (htb _ tw_784) (fun _ h9 => h9) rfl d_M_letter_32 ?_
        refine lv_bipush (v := 8) hx hb d_M_letter_35 (by decide) ?_
        refine lv_iadd hx hb d_M_letter_37 ?_
        refine lv_iload_n hx hb d_M_letter_38 rfl (lv_at hl 2 rfl) ?_
        refine lv_iadd hx hb d_M_letter_39 ?_
        obtain ⟨r_24, hc_25, hf⟩ := bd1_s hf
        refine ucVi (As := [.int ((fd_17 + ((8 : Int32))) + a2)]) (rest := []) ⟨hx, hb, hml, hown, htb⟩ hK hP hD hS hA (fun hs => c_M_one hc_25) (cwV 1 htb (gV tw_854 tw_856 tw_32 tw_74 tw_857) rfl rfl rfl (by decide +kernel) ⟨Nat.le_of_ble_eq_true rfl, Nat.le_of_ble_eq_true rfl⟩) 0 5 rfl rfl rfl rfl rfl hl.1 (Nat.le_of_ble_eq_true rfl) d_M_letter_40 ⟨Nat.zero_le _, Nat.zero_le _⟩ (fun H locs hP hD hS => ?_)
        cases hf
        exact hret _ _ _ _ hP hD hS d_M_letter_43
      · have hf := ite_f c_23 hf
        refine lv_iconst (v := -1) hx hb d_M_letter_26 (by decide) ?_
        refine lv_goto (tgt := 43) hx hb d_M_letter_27 (by decide) ?_
        cases hf
        exact hret _ _ _ _ hP hD hS d_M_letter_43
  · have hf := ite_f c_19 hf
    refine lv_iconst (v := 0) hx hb d_M_letter_8 (by decide) ?_
    cases hf
    exact hret _ _ _ _ hP hD hS d_M_letter_9
set_option maxHeartbeats 4000000 in
set_option maxRecDepth 100000 in
theorem c_M_about {l : Launch} {dC : Nat → ClassId} {dI : Nat → Nat → Nat} {N : Nat} {h : Nat → Nat} {cI : ClassId} {cB : ClassId} {cZ : ClassId} {th : Int32} {nb : Int32} {dk : Nat → Int32} {lk : Int32} {fa : Int32} {pp : Int32} {gg : Int32} {jj : Int32} {qq : Int32} {mp : Nat → Int32} {fx : Nat → Int32} {tn : Nat → Int32} {mn : Int32} {oq : Nat → Int32} {pq : Nat → Int32} {fo : Nat → Int32} {ca : Nat → Int32} {hr : Int32} {fd : Int32} {hs : Nat} {a1 : Int32} {a2 : Int32} {r : Int64} {th' : Int32} {lk' : Int32} {fa' : Int32} {pp' : Int32} {gg' : Int32} {jj' : Int32} {qq' : Int32} {mp' : Nat → Int32} {fx' : Nat → Int32} {tn' : Nat → Int32} {mn' : Int32} {oq' : Nat → Int32} {pq' : Nat → Int32} {fo' : Nat → Int32} {ca' : Nat → Int32} {fd' : Int32} (hf : f_M_about N th nb dk lk fa pp gg jj qq mp fx tn mn oq pq fo ca hr fd a1 a2 = some (r, th', lk', fa', pp', gg', jj', qq', mp', fx', tn', mn', oq', pq', fo', ca', fd')) : Met l y_M_about ws_M_about { frames := 11, cells := 0, slots := 0, locals := 241 } (PcU (dC, dI) clAll [(cI, .int), (cB, .byte), (cZ, .boolean)] (wM h cI cB cZ th nb dk lk fa pp gg jj qq mp fx tn mn oq pq fo ca hr fd) hs [.ref (h 0), .int a1, .int a2]) (QUl (dC, dI) clAll [(cI, .int), (cB, .byte), (cZ, .boolean)] (wM h cI cB cZ th nb dk lk fa pp gg jj qq mp fx tn mn oq pq fo ca hr fd) (wM h cI cB cZ th' nb dk lk' fa' pp' gg' jj' qq' mp' fx' tn' mn' oq' pq' fo' ca' hr fd') hs r) 0 0 (va_A (wM h cI cB cZ th nb dk lk fa pp gg jj qq mp fx tn mn oq pq fo ca hr fd) hs) := by
  refine mUl (cc := b_M_about) (maxL := 4) (by decide) rfl (Nat.le_of_ble_eq_true rfl) ?_
  intro p e s m args below meth c Q hx hb hml hts hown A hA hK hP hD hS hret ls hl
  have htb : ∀ w ∈ TB, w.before args s = true := fun w h => hts w (List.mem_cons_of_mem _ h)
  have hl : lv_has ls 4 [(0, .ref (h 0)), (1, .int a1), (2, .int a2)] := hl
  have hj_23 : ∀ (th : Int32) (lk : Int32) (fa : Int32) (pp : Int32) (gg : Int32) (jj : Int32) (qq : Int32) (mp : Nat → Int32) (fx : Nat → Int32) (tn : Nat → Int32) (mn : Int32) (oq : Nat → Int32) (pq : Nat → Int32) (fo : Nat → Int32) (ca : Nat → Int32) (fd : Int32) (x2 : Int32) (s1 : Int32) (H : Heap) (locs : List Loc) (ls : Array Slot), f_M_about_23 N nb dk hr th lk fa pp gg jj qq mp fx tn mn oq pq fo ca fd x2 s1 = some (r, th', lk', fa', pp', gg', jj', qq', mp', fx', tn', mn', oq', pq', fo', ca', fd') → va_P (dC, dI) clAll (wM h cI cB cZ th nb dk lk fa pp gg jj qq mp fx tn mn oq pq fo ca hr fd) H → va_D A (wM h cI cB cZ th nb dk lk fa pp gg jj qq mp fx tn mn oq pq fo ca hr fd) → va_S A s.heap H locs → lv_has ls 4 [(0, .ref (h 0)), (2, .int x2)] → W p l e (headSpec ws_M_about { frames := 11, cells := 0, slots := 0, locals := 241 }).room s m args below meth c H locs 0 0 Q (F0 m 23 ls [.int s1, .ref (h 0)]) := by
    intro th lk fa pp gg jj qq mp fx tn mn oq pq fo ca fd x2 s1 H locs ls hf hP hD hS hl
    unfold f_M_about_23 at hf
    refine lv_iconst (v := 3) hx hb d_M_about_23 (by decide) ?_
    obtain ⟨r_1, th_2, hc_3, hf⟩ := bd2_s hf
    refine ucVi (As := [.int s1, .int ((3 : Int32))]) (rest := []) ⟨hx, hb, hml, hown, htb⟩ hK hP hD hS hA (fun hs => c_M_fails hc_3) (cwV 2 htb (gV tw_1004 tw_1006 tw_64 tw_74 tw_1007) rfl rfl rfl (by decide +kernel) ⟨Nat.le_of_ble_eq_true rfl, Nat.le_of_ble_eq_true rfl⟩) 0 5 rfl rfl rfl rfl rfl hl.1 (Nat.le_of_ble_eq_true rfl) d_M_about_24 ⟨Nat.zero_le _, Nat.zero_le _⟩ (fun H locs hP hD hS => ?_)
    refine lv_if_eq (tgt := 32) hx hb d_M_about_27 (by decide) (fun c_4 => ?_) (fun c_4 => ?_)
    · have hf := ite_t c_4 hf
      refine lv_aload_n hx hb d_M_about_32 rfl (lv_at hl 0 rfl) ?_
      refine lv_aload_n hx hb d_M_about_33 rfl (lv_at hl 0 rfl) ?_
      refine va_get (D := (dC, dI)) (ci := 5) (v := .int fd) (C := R_M) (T := T_M) (N := 19) hx hb htb in_M hown hK hP 0 rfl rfl 18 (by decide) (htb _ tw_784) (fun _ h9 => h9) rfl d_M_about_34 ?_
      obtain ⟨r_5, hc_6, hf⟩ := bd1_s hf
      refine ucVl (As := [.int fd]) (rest := []) ⟨hx, hb, hml, hown, htb⟩ hK hP hD hS hA (fun hs => c_M_four hc_6) (cwV 1 htb (gV tw_874 tw_876 tw_36 tw_74 tw_877) rfl rfl rfl (by decide +kernel) ⟨Nat.le_of_ble_eq_true rfl, Nat.le_of_ble_eq_true rfl⟩) 0 5 rfl rfl rfl rfl rfl hl.1 (Nat.le_of_ble_eq_true rfl) d_M_about_37 ⟨Nat.zero_le _, Nat.zero_le _⟩ (fun H locs hP hD hS => ?_)
      refine lv_l2i hx hb d_M_about_40 rfl ?_
      obtain ⟨v3_7, ev3_7, hf⟩ := lt1_s hf
      refine lv_eqi ev3_7 ?_
      refine lv_istore_n (lv' := [(3, .int v3_7), (0, .ref (h 0)), (2, .int x2)]) hx hb d_M_about_41 rfl hl (by decide) rfl (fun ls hl => ?_)
      refine lv_iload_n hx hb d_M_about_42 rfl (lv_at hl 2 rfl) ?_
      by_cases c_8 : x2 = (0 : Int32)
      · have hf := ite_t c_8 hf
        refine lv_tableIn (tgt := 76) hx hb d_M_about_43 (by rw [c_8]; decide) (by rw [c_8]; decide) (by rw [c_8]; rfl) (by decide) ?_
        refine lv_iload_n hx hb d_M_about_76 rfl (lv_at hl 0 rfl) ?_
        refine lv_i2l hx hb d_M_about_77 rfl ?_
        cases hf
        exact hret _ _ _ _ hP hD hS d_M_about_78
      · have hf := ite_f c_8 hf
        by_cases c_9 : x2 = (1 : Int32)
        · have hf := ite_t c_9 hf
          refine lv_tableIn (tgt := 79) hx hb d_M_about_43 (by rw [c_9]; decide) (by rw [c_9]; decide) (by rw [c_9]; rfl) (by decide) ?_
          refine lv_aload_n hx hb d_M_about_79 rfl (lv_at hl 1 rfl) ?_
          refine lv_iload_n hx hb d_M_about_80 rfl (lv_at hl 0 rfl) ?_
          obtain ⟨r_10, hc_11, hf⟩ := bd1_s hf
          refine ucVi (As := [.int v3_7]) (rest := []) ⟨hx, hb, hml, hown, htb⟩ hK hP hD hS hA (fun hs => c_M_typeOf hc_11) (cwV 1 htb (gV tw_923 tw_925 tw_46 tw_74 tw_926) rfl rfl rfl (by decide +kernel) ⟨Nat.le_of_ble_eq_true rfl, Nat.le_of_ble_eq_true rfl⟩) 0 5 rfl rfl rfl rfl rfl hl.1 (Nat.le_of_ble_eq_true rfl) d_M_about_81 ⟨Nat.zero_le _, Nat.zero_le _⟩ (fun H locs hP hD hS => ?_)
          refine lv_sipush (v := 16384) hx hb d_M_about_84 (by decide) ?_
          refine lv_icmp_ne (tgt := 94) hx hb d_M_about_87 (by decide) (fun c_12 => ?_) (fun c_12 => ?_)
          · have hf := ite_f c_12 hf
            refine lv_lconst (v := 0) hx hb d_M_about_94 (by decide) ?_
            cases hf
            exact hret _ _ _ _ hP hD hS d_M_about_95
          · have hf := ite_t c_12 hf
            refine lv_lconst (v := 1) hx hb d_M_about_90 (by decide) ?_
            refine lv_goto (tgt := 95) hx hb d_M_about_91 (by decide) ?_
            cases hf
            exact hret _ _ _ _ hP hD hS d_M_about_95
        · have hf := ite_f c_9 hf
          by_cases c_13 : x2 = (2 : Int32)
          · have hf := ite_t c_13 hf
            refine lv_tableIn (tgt := 96) hx hb d_M_about_43 (by rw [c_13]; decide) (by rw [c_13]; decide) (by rw [c_13]; rfl) (by decide) ?_
            refine lv_aload_n hx hb d_M_about_96 rfl (lv_at hl 1 rfl) ?_
            refine lv_iload_n hx hb d_M_about_97 rfl (lv_at hl 0 rfl) ?_
            obtain ⟨r_14, hc_15, hf⟩ := bd1_s hf
            refine ucVl (As := [.int v3_7]) (rest := []) ⟨hx, hb, hml, hown, htb⟩ hK hP hD hS hA (fun hs => c_M_sizeOfInode hc_15) (cwV 1 htb (gV tw_936 tw_938 tw_49 tw_74 tw_939) rfl rfl rfl (by decide +kernel) ⟨Nat.le_of_ble_eq_true rfl, Nat.le_of_ble_eq_true rfl⟩) 0 5 rfl rfl rfl rfl rfl hl.1 (Nat.le_of_ble_eq_true rfl) d_M_about_98 ⟨Nat.zero_le _, Nat.zero_le _⟩ (fun H locs hP hD hS => ?_)
            cases hf
            exact hret _ _ _ _ hP hD hS d_M_about_101
          · have hf := ite_f c_13 hf
            by_cases c_16 : x2 = (3 : Int32)
            · have hf := ite_t c_16 hf
              refine lv_tableIn (tgt := 102) hx hb d_M_about_43 (by rw [c_16]; decide) (by rw [c_16]; decide) (by rw [c_16]; rfl) (by decide) ?_
              refine lv_aload_n hx hb d_M_about_102 rfl (lv_at hl 1 rfl) ?_
              refine lv_aload_n hx hb d_M_about_103 rfl (lv_at hl 1 rfl) ?_
              refine lv_iload_n hx hb d_M_about_104 rfl (lv_at hl 0 rfl) ?_
              obtain ⟨r_17, hc_18, hf⟩ := bd1_s hf
              refine ucVi (As := [.int v3_7]) (rest := [.ref (h 0)]) ⟨hx, hb, hml, hown, htb⟩ hK hP hD hS hA (fun hs => c_M_inodeAt hc_18) (cwV 1 htb (gV tw_927 tw_929 tw_47 tw_74 tw_930) rfl rfl rfl (by decide +kernel) ⟨Nat.le_of_ble_eq_true rfl, Nat.le_of_ble_eq_true rfl⟩) 0 5 rfl rfl rfl rfl rfl hl.1 (Nat.le_of_ble_eq_true rfl) d_M_about_105 ⟨Nat.zero_le _, Nat.zero_le _⟩ (fun H locs hP hD hS => ?_)
              refine lv_bipush (v := 26) hx hb d_M_about_108 (by decide) ?_
              refine lv_iadd hx hb d_M_about_110 ?_
              obtain ⟨r_19, hc_20, hf⟩ := bd1_s hf
              refine ucVi (As := [.int (r_17 + ((26 : Int32)))]) (rest := []) ⟨hx, hb, hml, hown, htb⟩ hK hP hD hS hA (fun hs => c_M_two hc_20) (cwV 1 htb (gV tw_878 tw_880 tw_37 tw_74 tw_881) rfl rfl rfl (by decide +kernel) ⟨Nat.le_of_ble_eq_true rfl, Nat.le_of_ble_eq_true rfl⟩) 0 5 rfl rfl rfl rfl rfl hl.1 (Nat.le_of_ble_eq_true rfl) d_M_about_111 ⟨Nat.zero_le _, Nat.zero_le _⟩ (fun H locs hP hD hS => ?_)
              refine lv_i2l hx hb d_M_about_114 rfl ?_
              cases hf
              exact hret _ _ _ _ hP hD hS d_M_about_115
            · have hf := ite_f c_16 hf
              by_cases c_21 : x2 = (4 : Int32)
              · have hf := ite_t c_21 hf
                refine lv_tableIn (tgt := 116) hx hb d_M_about_43 (by rw [c_21]; decide) (by rw [c_21]; decide) (by rw [c_21]; rfl) (by decide) ?_
                refine lv_aload_n hx hb d_M_about_116 rfl (lv_at hl 1 rfl) ?_
                refine lv_aload_n hx hb d_M_about_117 rfl (lv_at hl 1 rfl) ?_
                refine lv_iload_n hx hb d_M_about_118 rfl (lv_at hl 0 rfl) ?_
                obtain ⟨r_22, hc_23, hf⟩ := bd1_s hf
                refine ucVi (As := [.int v3_7]) (rest := [.ref (h 0)]) ⟨hx, hb, hml, hown, htb⟩ hK hP hD hS hA (fun hs => c_M_inodeAt hc_23) (cwV 1 htb (gV tw_927 tw_929 tw_47 tw_74 tw_930) rfl rfl rfl (by decide +kernel) ⟨Nat.le_of_ble_eq_true rfl, Nat.le_of_ble_eq_true rfl⟩) 0 5 rfl rfl rfl rfl rfl hl.1 (Nat.le_of_ble_eq_true rfl) d_M_about_119 ⟨Nat.zero_le _, Nat.zero_le _⟩ (fun H locs hP hD hS => ?_)
                refine lv_bipush (v := 16) hx hb d_M_about_122 (by decide) ?_
                refine lv_iadd hx hb d_M_about_124 ?_
                obtain ⟨r_24, hc_25, hf⟩ := bd1_s hf
                refine ucVl (As := [.int (r_22 + ((16 : Int32)))]) (rest := []) ⟨hx, hb, hml, hown, htb⟩ hK hP hD hS hA (fun hs => c_M_four hc_25) (cwV 1 htb (gV tw_874 tw_876 tw_36 tw_74 tw_877) rfl rfl rfl (by decide +kernel) ⟨Nat.le_of_ble_eq_true rfl, Nat.le_of_ble_eq_true rfl⟩) 0 5 rfl rfl rfl rfl rfl hl.1 (Nat.le_of_ble_eq_true rfl) d_M_about_125 ⟨Nat.zero_le _, Nat.zero_le _⟩ (fun H locs hP hD hS => ?_)
                cases hf
                exact hret _ _ _ _ hP hD hS d_M_about_128
              · have hf := ite_f c_21 hf
                have gc_8 := lv_neT (a := 0) c_8 (by decide)
                have gc_9 := lv_neT (a := 1) c_9 (by decide)
                have gc_13 := lv_neT (a := 2) c_13 (by decide)
                have gc_16 := lv_neT (a := 3) c_16 (by decide)
                have gc_21 := lv_neT (a := 4) c_21 (by decide)
                refine lv_tableOut (tgt := 129) hx hb d_M_about_43 (by omega) (by decide) ?_
                refine lv_aload_n hx hb d_M_about_129 rfl (lv_at hl 1 rfl) ?_
                refine lv_iload_n hx hb d_M_about_130 rfl (lv_at hl 0 rfl) ?_
                obtain ⟨r_26, hc_27, hf⟩ := bd1_s hf
                refine ucVl (As := [.int v3_7]) (rest := []) ⟨hx, hb, hml, hown, htb⟩ hK hP hD hS hA (fun hs => c_M_sizeOfInode hc_27) (cwV 1 htb (gV tw_936 tw_938 tw_49 tw_74 tw_939) rfl rfl rfl (by decide +kernel) ⟨Nat.le_of_ble_eq_true rfl, Nat.le_of_ble_eq_true rfl⟩) 0 5 rfl rfl rfl rfl rfl hl.1 (Nat.le_of_ble_eq_true rfl) d_M_about_131 ⟨Nat.zero_le _, Nat.zero_le _⟩ (fun H locs hP hD hS => ?_)
                refine lv_lconst (v := 0) hx hb d_M_about_134 (by decide) ?_
                refine lc_ne (tgt := 143) hx hb d_M_about_135 d_M_about_136 (by decide) (fun c_28 => ?_) (fun c_28 => ?_)
                · have hf := ite_f c_28 hf
                  refine lv_aload_n hx hb d_M_about_143 rfl (lv_at hl 1 rfl) ?_
                  refine lv_iload_n hx hb d_M_about_144 rfl (lv_at hl 0 rfl) ?_
                  refine lv_aload_n hx hb d_M_about_145 rfl (lv_at hl 1 rfl) ?_
                  refine lv_iload_n hx hb d_M_about_146 rfl (lv_at hl 0 rfl) ?_
                  obtain ⟨r_29, hc_30, hf⟩ := bd1_s hf
                  refine ucVl (As := [.int v3_7]) (rest := [.int v3_7, .ref (h 0)]) ⟨hx, hb, hml, hown, htb⟩ hK hP hD hS hA (fun hs => c_M_sizeOfInode hc_30) (cwV 1 htb (gV tw_936 tw_938 tw_49 tw_74 tw_939) rfl rfl rfl (by decide +kernel) ⟨Nat.le_of_ble_eq_true rfl, Nat.le_of_ble_eq_true rfl⟩) 0 5 rfl rfl rfl rfl rfl hl.1 (Nat.le_of_ble_eq_true rfl) d_M_about_147 ⟨Nat.zero_le _, Nat.zero_le _⟩ (fun H locs hP hD hS => ?_)
                  refine lv_lconst (v := 1) hx hb d_M_about_150 (by decide) ?_
                  refine lv_lsub hx hb d_M_about_151 ?_
                  refine lv_ldc2 (v := 1024) hx hb hown (htb _ tw_837) d_M_about_152 ?_
                  refine lv_ldiv hx hb d_M_about_155 (by decide) ?_
                  refine lv_l2i hx hb d_M_about_156 rfl ?_
                  obtain ⟨r_31, hc_32, hf⟩ := bd1_s hf
                  refine ucVl (As := [.int v3_7, .int (Int64.toInt32 ((r_29 - ((1 : Int64))) / ((1024 : Int64))))]) (rest := []) ⟨hx, hb, hml, hown, htb⟩ hK hP hD hS hA (fun hs => c_M_blockOf hc_32) (cwV 2 htb (gV tw_951 tw_953 tw_52 tw_74 tw_954) rfl rfl rfl (by decide +kernel) ⟨Nat.le_of_ble_eq_true rfl, Nat.le_of_ble_eq_true rfl⟩) 0 5 rfl rfl rfl rfl rfl hl.1 (Nat.le_of_ble_eq_true rfl) d_M_about_157 ⟨Nat.zero_le _, Nat.zero_le _⟩ (fun H locs hP hD hS => ?_)
                  cases hf
                  exact hret _ _ _ _ hP hD hS d_M_about_160
                · have hf := ite_t c_28 hf
                  refine lv_lconst (v := 0) hx hb d_M_about_139 (by decide) ?_
                  refine lv_goto (tgt := 160) hx hb d_M_about_140 (by decide) ?_
                  cases hf
                  exact hret _ _ _ _ hP hD hS d_M_about_160
    · have hf := ite_f c_4 hf
      refine lv_lconst (v := 0) hx hb d_M_about_30 (by decide) ?_
      cases hf
      exact hret _ _ _ _ hP hD hS d_M_about_31
  have hj_18 : ∀ (th : Int32) (lk : Int32) (fa : Int32) (pp : Int32) (gg : Int32) (jj : Int32) (qq : Int32) (mp : Nat → Int32) (fx : Nat → Int32) (tn : Nat → Int32) (mn : Int32) (oq : Nat → Int32) (pq : Nat → Int32) (fo : Nat → Int32) (ca : Nat → Int32) (fd : Int32) (x2 : Int32) (H : Heap) (locs : List Loc) (ls : Array Slot), f_M_about_18 N nb dk hr th lk fa pp gg jj qq mp fx tn mn oq pq fo ca fd x2 = some (r, th', lk', fa', pp', gg', jj', qq', mp', fx', tn', mn', oq', pq', fo', ca', fd') → va_P (dC, dI) clAll (wM h cI cB cZ th nb dk lk fa pp gg jj qq mp fx tn mn oq pq fo ca hr fd) H → va_D A (wM h cI cB cZ th nb dk lk fa pp gg jj qq mp fx tn mn oq pq fo ca hr fd) → va_S A s.heap H locs → lv_has ls 4 [(0, .ref (h 0)), (2, .int x2)] → W p l e (headSpec ws_M_about { frames := 11, cells := 0, slots := 0, locals := 241 }).room s m args below meth c H locs 0 0 Q (F0 m 18 ls [.ref (h 0)]) := by
    intro th lk fa pp gg jj qq mp fx tn mn oq pq fo ca fd x2 H locs ls hf hP hD hS hl
    unfold f_M_about_18 at hf
    refine lv_iconst (v := 1) hx hb d_M_about_18 (by decide) ?_
    refine lv_goto (tgt := 23) hx hb d_M_about_19 (by decide) ?_
    exact hj_23 th lk fa pp gg jj qq mp fx tn mn oq pq fo ca fd x2 ((1 : Int32)) _ _ _ hf hP hD hS (lv_sub hl [0, 1] rfl)
  unfold f_M_about at hf
  refine lv_aload_n hx hb d_M_about_0 rfl (lv_at hl 0 rfl) ?_
  refine lv_iload_n hx hb d_M_about_1 rfl (lv_at hl 1 rfl) ?_
  obtain ⟨r_1, th_2, lk_3, fa_4, pp_5, gg_6, jj_7, qq_8, mp_9, fx_10, tn_11, mn_12, oq_13, pq_14, fo_15, ca_16, fd_17, hc_18, hf⟩ := bd17_s hf
  refine ucVi (As := [.int a1]) (rest := []) ⟨hx, hb, hml, hown, htb⟩ hK hP hD hS hA (fun hs => c_M_no hc_18) (cwV 1 htb (gV tw_1016 tw_1018 tw_66 tw_74 tw_1019) rfl rfl rfl (by decide +kernel) ⟨Nat.le_of_ble_eq_true rfl, Nat.le_of_ble_eq_true rfl⟩) 0 5 rfl rfl rfl rfl rfl hl.1 (Nat.le_of_ble_eq_true rfl) d_M_about_2 ⟨Nat.zero_le _, Nat.zero_le _⟩ (fun H locs hP hD hS => ?_)
  refine lv_if_ne (tgt := 30) hx hb d_M_about_5 (by decide) (fun c_19 => ?_) (fun c_19 => ?_)
  · have hf := ite_f c_19 hf
    refine lv_lconst (v := 0) hx hb d_M_about_30 (by decide) ?_
    cases hf
    exact hret _ _ _ _ hP hD hS d_M_about_31
  · have hf := ite_t c_19 hf
    refine lv_aload_n hx hb d_M_about_8 rfl (lv_at hl 0 rfl) ?_
    refine lv_iload_n hx hb d_M_about_9 rfl (lv_at hl 2 rfl) ?_
    refine lv_if_lt (tgt := 18) hx hb d_M_about_10 (by decide) (fun c_20 => ?_) (fun c_20 => ?_)
    · have hf := ite_t c_20 hf
      exact hj_18 th_2 lk_3 fa_4 pp_5 gg_6 jj_7 qq_8 mp_9 fx_10 tn_11 mn_12 oq_13 pq_14 fo_15 ca_16 fd_17 a2 _ _ _ hf hP hD hS (lv_sub hl [0, 2] rfl)
    · have hf := ite_f c_20 hf
      refine lv_iload_n hx hb d_M_about_13 rfl (lv_at hl 2 rfl) ?_
      refine lv_iconst (v := 5) hx hb d_M_about_14 (by decide) ?_
      refine lv_icmp_le (tgt := 22) hx hb d_M_about_15 (by decide) (fun c_21 => ?_) (fun c_21 => ?_)
      · have hf := ite_t c_21 hf
        refine lv_iconst (v := 0) hx hb d_M_about_22 (by decide) ?_
        exact hj_23 th_2 lk_3 fa_4 pp_5 gg_6 jj_7 qq_8 mp_9 fx_10 tn_11 mn_12 oq_13 pq_14 fo_15 ca_16 fd_17 a2 ((0 : Int32)) _ _ _ hf hP hD hS (lv_sub hl [0, 2] rfl)
      · have hf := ite_f c_21 hf
        exact hj_18 th_2 lk_3 fa_4 pp_5 gg_6 jj_7 qq_8 mp_9 fx_10 tn_11 mn_12 oq_13 pq_14 fo_15 ca_16 fd_17 a2 _ _ _ hf hP hD hS (lv_sub hl [0, 2] rfl)
set_option maxHeartbeats 4000000 in
set_option maxRecDepth 100000 in
theorem c_M_content {l : Launch} {dC : Nat → ClassId} {dI : Nat → Nat → Nat} {N : Nat} {h : Nat → Nat} {cI : ClassId} {cB : ClassId} {cZ : ClassId} {th : Int32} {nb : Int32} {dk : Nat → Int32} {lk : Int32} {fa : Int32} {pp : Int32} {gg : Int32} {jj : Int32} {qq : Int32} {mp : Nat → Int32} {fx : Nat → Int32} {tn : Nat → Int32} {mn : Int32} {oq : Nat → Int32} {pq : Nat → Int32} {fo : Nat → Int32} {ca : Nat → Int32} {hr : Int32} {fd : Int32} {hs : Nat} {a1 : Int32} {a2 : Int32} {r : Int32} {th' : Int32} {lk' : Int32} {fa' : Int32} {pp' : Int32} {gg' : Int32} {jj' : Int32} {qq' : Int32} {mp' : Nat → Int32} {fx' : Nat → Int32} {tn' : Nat → Int32} {mn' : Int32} {oq' : Nat → Int32} {pq' : Nat → Int32} {fo' : Nat → Int32} {ca' : Nat → Int32} {fd' : Int32} (hf : f_M_content N th nb dk lk fa pp gg jj qq mp fx tn mn oq pq fo ca hr fd a1 a2 = some (r, th', lk', fa', pp', gg', jj', qq', mp', fx', tn', mn', oq', pq', fo', ca', fd')) : Met l y_M_content ws_M_content { frames := 11, cells := 0, slots := 0, locals := 241 } (PcU (dC, dI) clAll [(cI, .int), (cB, .byte), (cZ, .boolean)] (wM h cI cB cZ th nb dk lk fa pp gg jj qq mp fx tn mn oq pq fo ca hr fd) hs [.ref (h 0), .int a1, .int a2]) (QUi (dC, dI) clAll [(cI, .int), (cB, .byte), (cZ, .boolean)] (wM h cI cB cZ th nb dk lk fa pp gg jj qq mp fx tn mn oq pq fo ca hr fd) (wM h cI cB cZ th' nb dk lk' fa' pp' gg' jj' qq' mp' fx' tn' mn' oq' pq' fo' ca' hr fd') hs r) 0 0 (va_A (wM h cI cB cZ th nb dk lk fa pp gg jj qq mp fx tn mn oq pq fo ca hr fd) hs) := by
  refine mUi (cc := b_M_content) (maxL := 4) (by decide) rfl (Nat.le_of_ble_eq_true rfl) ?_
  intro p e s m args below meth c Q hx hb hml hts hown A hA hK hP hD hS hret ls hl
  have htb : ∀ w ∈ TB, w.before args s = true := fun w h => hts w (List.mem_cons_of_mem _ h)
  have hl : lv_has ls 4 [(0, .ref (h 0)), (1, .int a1), (2, .int a2)] := hl
  unfold f_M_content at hf
  refine lv_aload_n hx hb d_M_content_0 rfl (lv_at hl 0 rfl) ?_
  refine lv_iload_n hx hb d_M_content_1 rfl (lv_at hl 1 rfl) ?_
  obtain ⟨r_1, th_2, lk_3, fa_4, pp_5, gg_6, jj_7, qq_8, mp_9, fx_10, tn_11, mn_12, oq_13, pq_14, fo_15, ca_16, fd_17, hc_18, hf⟩ := bd17_s hf
  refine ucVi (As := [.int a1]) (rest := []) ⟨hx, hb, hml, hown, htb⟩ hK hP hD hS hA (fun hs => c_M_no hc_18) (cwV 1 htb (gV tw_1016 tw_1018 tw_66 tw_74 tw_1019) rfl rfl rfl (by decide +kernel) ⟨Nat.le_of_ble_eq_true rfl, Nat.le_of_ble_eq_true rfl⟩) 0 5 rfl rfl rfl rfl rfl hl.1 (Nat.le_of_ble_eq_true rfl) d_M_content_2 ⟨Nat.zero_le _, Nat.zero_le _⟩ (fun H locs hP hD hS => ?_)
  refine lv_if_eq (tgt := 10) hx hb d_M_content_5 (by decide) (fun c_19 => ?_) (fun c_19 => ?_)
  · have hf := ite_t c_19 hf
    refine lv_aload_n hx hb d_M_content_10 rfl (lv_at hl 0 rfl) ?_
    refine lv_aload_n hx hb d_M_content_11 rfl (lv_at hl 0 rfl) ?_
    refine va_get (D := (dC, dI)) (ci := 5) (v := .int fd_17) (C := R_M) (T := T_M) (N := 19) hx hb htb in_M hown hK hP 0 rfl rfl 18 (by decide) (htb _ tw_784) (fun _ h9 => h9) rfl d_M_content_12 ?_
    obtain ⟨r_20, hc_21, hf⟩ := bd1_s hf
    refine ucVl (As := [.int fd_17]) (rest := []) ⟨hx, hb, hml, hown, htb⟩ hK hP hD hS hA (fun hs => c_M_four hc_21) (cwV 1 htb (gV tw_874 tw_876 tw_36 tw_74 tw_877) rfl rfl rfl (by decide +kernel) ⟨Nat.le_of_ble_eq_true rfl, Nat.le_of_ble_eq_true rfl⟩) 0 5 rfl rfl rfl rfl rfl hl.1 (Nat.le_of_ble_eq_true rfl) d_M_content_15 ⟨Nat.zero_le _, Nat.zero_le _⟩ (fun H locs hP hD hS => ?_)
    refine lv_l2i hx hb d_M_content_18 rfl ?_
    obtain ⟨v3_22, ev3_22, hf⟩ := lt1_s hf
    refine lv_eqi ev3_22 ?_
    refine lv_istore_n (lv' := [(3, .int v3_22), (0, .ref (h 0)), (1, .int a1), (2, .int a2)]) hx hb d_M_content_19 rfl hl (by decide) rfl (fun ls hl => ?_)
    refine lv_iload_n hx hb d_M_content_20 rfl (lv_at hl 3 rfl) ?_
    refine lv_if_lt (tgt := 35) hx hb d_M_content_21 (by decide) (fun c_23 => ?_) (fun c_23 => ?_)
    · have hf := ite_t c_23 hf
      refine lv_iconst (v := -1) hx hb d_M_content_35 (by decide) ?_
      refine lv_goto (tgt := 64) hx hb d_M_content_36 (by decide) ?_
      cases hf
      exact hret _ _ _ _ hP hD hS d_M_content_64
    · have hf := ite_f c_23 hf
      refine lv_iload_n hx hb d_M_content_24 rfl (lv_at hl 3 rfl) ?_
      refine lv_i2l hx hb d_M_content_25 rfl ?_
      refine lv_aload_n hx hb d_M_content_26 rfl (lv_at hl 1 rfl) ?_
      refine lv_iload_n hx hb d_M_content_27 rfl (lv_at hl 0 rfl) ?_
      obtain ⟨r_24, hc_25, hf⟩ := bd1_s hf
      refine ucVl (As := [.int v3_22]) (rest := [.long (Int32.toInt64 a2)]) ⟨hx, hb, hml, hown, htb⟩ hK hP hD hS hA (fun hs => c_M_sizeOfInode hc_25) (cwV 1 htb (gV tw_936 tw_938 tw_49 tw_74 tw_939) rfl rfl rfl (by decide +kernel) ⟨Nat.le_of_ble_eq_true rfl, Nat.le_of_ble_eq_true rfl⟩) 0 5 rfl rfl rfl rfl rfl hl.1 (Nat.le_of_ble_eq_true rfl) d_M_content_28 ⟨Nat.zero_le _, Nat.zero_le _⟩ (fun H locs hP hD hS => ?_)
      refine lc_lt (tgt := 39) hx hb d_M_content_31 d_M_content_32 (by decide) (fun c_26 => ?_) (fun c_26 => ?_)
      · have hf := ite_t c_26 hf
        refine lv_aload_n hx hb d_M_content_39 rfl (lv_at hl 1 rfl) ?_
        refine lv_sipush (v := 1024) hx hb d_M_content_40 (by decide) ?_
        refine lv_aload_n hx hb d_M_content_43 rfl (lv_at hl 1 rfl) ?_
        refine lv_iload_n hx hb d_M_content_44 rfl (lv_at hl 0 rfl) ?_
        refine lv_iload_n hx hb d_M_content_45 rfl (lv_at hl 3 rfl) ?_
        refine lv_sipush (v := 1024) hx hb d_M_content_46 (by decide) ?_
        refine lv_idiv hx hb d_M_content_49 (by decide) ?_
        obtain ⟨r_27, hc_28, hf⟩ := bd1_s hf
        refine ucVl (As := [.int v3_22, .int (a2 / ((1024 : Int32)))]) (rest := [.int ((1024 : Int32)), .ref (h 0)]) ⟨hx, hb, hml, hown, htb⟩ hK hP hD hS hA (fun hs => c_M_blockOf hc_28) (cwV 2 htb (gV tw_951 tw_953 tw_52 tw_74 tw_954) rfl rfl rfl (by decide +kernel) ⟨Nat.le_of_ble_eq_true rfl, Nat.le_of_ble_eq_true rfl⟩) 0 5 rfl rfl rfl rfl rfl hl.1 (Nat.le_of_ble_eq_true rfl) d_M_content_50 ⟨Nat.zero_le _, Nat.zero_le _⟩ (fun H locs hP hD hS => ?_)
        refine lv_l2i hx hb d_M_content_53 rfl ?_
        refine lv_imul hx hb d_M_content_54 ?_
        refine lv_iload_n hx hb d_M_content_55 rfl (lv_at hl 3 rfl) ?_
        refine lv_sipush (v := 1024) hx hb d_M_content_56 (by decide) ?_
        refine lv_irem hx hb d_M_content_59 (by decide) ?_
        refine lv_iadd hx hb d_M_content_60 ?_
        obtain ⟨r_29, hc_30, hf⟩ := bd1_s hf
        refine ucVi (As := [.int ((((1024 : Int32)) * (Int64.toInt32 r_27)) + (a2 - a2 / ((1024 : Int32)) * ((1024 : Int32))))]) (rest := []) ⟨hx, hb, hml, hown, htb⟩ hK hP hD hS hA (fun hs => c_M_one hc_30) (cwV 1 htb (gV tw_854 tw_856 tw_32 tw_74 tw_857) rfl rfl rfl (by decide +kernel) ⟨Nat.le_of_ble_eq_true rfl, Nat.le_of_ble_eq_true rfl⟩) 0 5 rfl rfl rfl rfl rfl hl.1 (Nat.le_of_ble_eq_true rfl) d_M_content_61 ⟨Nat.zero_le _, Nat.zero_le _⟩ (fun H locs hP hD hS => ?_)
        cases hf
        exact hret _ _ _ _ hP hD hS d_M_content_64
      · have hf := ite_f c_26 hf
        refine lv_iconst (v := -1) hx hb d_M_content_35 (by decide) ?_
        refine lv_goto (tgt := 64) hx hb d_M_content_36 (by decide) ?_
        cases hf
        exact hret _ _ _ _ hP hD hS d_M_content_64
  · have hf := ite_f c_19 hf
    refine lv_iconst (v := 0) hx hb d_M_content_8 (by decide) ?_
    cases hf
    exact hret _ _ _ _ hP hD hS d_M_content_9
set_option maxHeartbeats 4000000 in
set_option maxRecDepth 100000 in
theorem c_M_enter {l : Launch} {dC : Nat → ClassId} {dI : Nat → Nat → Nat} {N : Nat} {h : Nat → Nat} {cI : ClassId} {cB : ClassId} {cZ : ClassId} {th : Int32} {nb : Int32} {dk : Nat → Int32} {lk : Int32} {fa : Int32} {pp : Int32} {gg : Int32} {jj : Int32} {qq : Int32} {mp : Nat → Int32} {fx : Nat → Int32} {tn : Nat → Int32} {mn : Int32} {oq : Nat → Int32} {pq : Nat → Int32} {fo : Nat → Int32} {ca : Nat → Int32} {hr : Int32} {fd : Int32} {hs : Nat} {a1 : Int32} {r : Int32} {th' : Int32} {lk' : Int32} {fa' : Int32} {pp' : Int32} {gg' : Int32} {jj' : Int32} {qq' : Int32} {mp' : Nat → Int32} {fx' : Nat → Int32} {tn' : Nat → Int32} {mn' : Int32} {oq' : Nat → Int32} {pq' : Nat → Int32} {fo' : Nat → Int32} {ca' : Nat → Int32} {hr' : Int32} {fd' : Int32} (hf : f_M_enter N th nb dk lk fa pp gg jj qq mp fx tn mn oq pq fo ca hr fd a1 = some (r, th', lk', fa', pp', gg', jj', qq', mp', fx', tn', mn', oq', pq', fo', ca', hr', fd')) : Met l y_M_enter ws_M_enter { frames := 11, cells := 0, slots := 0, locals := 241 } (PcU (dC, dI) clAll [(cI, .int), (cB, .byte), (cZ, .boolean)] (wM h cI cB cZ th nb dk lk fa pp gg jj qq mp fx tn mn oq pq fo ca hr fd) hs [.ref (h 0), .int a1]) (QUi (dC, dI) clAll [(cI, .int), (cB, .byte), (cZ, .boolean)] (wM h cI cB cZ th nb dk lk fa pp gg jj qq mp fx tn mn oq pq fo ca hr fd) (wM h cI cB cZ th' nb dk lk' fa' pp' gg' jj' qq' mp' fx' tn' mn' oq' pq' fo' ca' hr' fd') hs r) 0 0 (va_A (wM h cI cB cZ th nb dk lk fa pp gg jj qq mp fx tn mn oq pq fo ca hr fd) hs) := by
  refine mUi (cc := b_M_enter) (maxL := 2) (by decide) rfl (Nat.le_of_ble_eq_true rfl) ?_
  intro p e s m args below meth c Q hx hb hml hts hown A hA hK hP hD hS hret ls hl
  have htb : ∀ w ∈ TB, w.before args s = true := fun w h => hts w (List.mem_cons_of_mem _ h)
  have hl : lv_has ls 2 [(0, .ref (h 0)), (1, .int a1)] := hl
  have hj_33 : ∀ (th : Int32) (lk : Int32) (fa : Int32) (pp : Int32) (gg : Int32) (jj : Int32) (qq : Int32) (mp : Nat → Int32) (fx : Nat → Int32) (tn : Nat → Int32) (mn : Int32) (oq : Nat → Int32) (pq : Nat → Int32) (fo : Nat → Int32) (ca : Nat → Int32) (hr : Int32) (fd : Int32) (s1 : Int32) (H : Heap) (locs : List Loc) (ls : Array Slot), f_M_enter_33 N nb dk th lk fa pp gg jj qq mp fx tn mn oq pq fo ca hr fd s1 = some (r, th', lk', fa', pp', gg', jj', qq', mp', fx', tn', mn', oq', pq', fo', ca', hr', fd') → va_P (dC, dI) clAll (wM h cI cB cZ th nb dk lk fa pp gg jj qq mp fx tn mn oq pq fo ca hr fd) H → va_D A (wM h cI cB cZ th nb dk lk fa pp gg jj qq mp fx tn mn oq pq fo ca hr fd) → va_S A s.heap H locs → lv_has ls 2 [(0, .ref (h 0))] → W p l e (headSpec ws_M_enter { frames := 11, cells := 0, slots := 0, locals := 241 }).room s m args below meth c H locs 0 0 Q (F0 m 33 ls [.int s1, .ref (h 0)]) := by
    intro th lk fa pp gg jj qq mp fx tn mn oq pq fo ca hr fd s1 H locs ls hf hP hD hS hl
    unfold f_M_enter_33 at hf
    refine lv_iconst (v := 3) hx hb d_M_enter_33 (by decide) ?_
    obtain ⟨r_1, th_2, hc_3, hf⟩ := bd2_s hf
    refine ucVi (As := [.int s1, .int ((3 : Int32))]) (rest := []) ⟨hx, hb, hml, hown, htb⟩ hK hP hD hS hA (fun hs => c_M_fails hc_3) (cwV 2 htb (gV tw_1004 tw_1006 tw_64 tw_74 tw_1007) rfl rfl rfl (by decide +kernel) ⟨Nat.le_of_ble_eq_true rfl, Nat.le_of_ble_eq_true rfl⟩) 0 5 rfl rfl rfl rfl rfl hl.1 (Nat.le_of_ble_eq_true rfl) d_M_enter_34 ⟨Nat.zero_le _, Nat.zero_le _⟩ (fun H locs hP hD hS => ?_)
    refine lv_if_eq (tgt := 42) hx hb d_M_enter_37 (by decide) (fun c_4 => ?_) (fun c_4 => ?_)
    · have hf := ite_t c_4 hf
      refine lv_aload_n hx hb d_M_enter_42 rfl (lv_at hl 0 rfl) ?_
      refine lv_aload_n hx hb d_M_enter_43 rfl (lv_at hl 0 rfl) ?_
      refine lv_aload_n hx hb d_M_enter_44 rfl (lv_at hl 0 rfl) ?_
      refine va_get (D := (dC, dI)) (ci := 5) (v := .int fd) (C := R_M) (T := T_M) (N := 19) hx hb htb in_M hown hK hP 0 rfl rfl 18 (by decide) (htb _ tw_784) (fun _ h9 => h9) rfl d_M_enter_45 ?_
      obtain ⟨r_5, hc_6, hf⟩ := bd1_s hf
      refine ucVl (As := [.int fd]) (rest := [.ref (h 0)]) ⟨hx, hb, hml, hown, htb⟩ hK hP hD hS hA (fun hs => c_M_four hc_6) (cwV 1 htb (gV tw_874 tw_876 tw_36 tw_74 tw_877) rfl rfl rfl (by decide +kernel) ⟨Nat.le_of_ble_eq_true rfl, Nat.le_of_ble_eq_true rfl⟩) 0 5 rfl rfl rfl rfl rfl hl.1 (Nat.le_of_ble_eq_true rfl) d_M_enter_48 ⟨Nat.zero_le _, Nat.zero_le _⟩ (fun H locs hP hD hS => ?_)
      refine lv_l2i hx hb d_M_enter_51 rfl ?_
      refine va_put (D := (dC, dI)) (ci := 5) (v := .int (Int64.toInt32 r_5)) (ty := .int) (C := R_M) (T := T_M) (N := 19) hx hb htb in_M ty_M tyok_M nm_M hown hK hP hD hS 0 rfl rfl 17 (by decide) (htb _ tw_783) (fun _ h9 => h9) rfl (by decide +kernel) rfl rfl (Nat.le_of_ble_eq_true rfl) d_M_enter_52 (fun H locs hP hD hS => ?_)
      have hP : va_P (dC, dI) clAll (wM h cI cB cZ th_2 nb dk lk fa pp gg jj qq mp fx tn mn oq pq fo ca (Int64.toInt32 r_5) fd) H := hP
      have hD : va_D A (wM h cI cB cZ th_2 nb dk lk fa pp gg jj qq mp fx tn mn oq pq fo ca (Int64.toInt32 r_5) fd) := hD
      refine lv_aload_n hx hb d_M_enter_55 rfl (lv_at hl 0 rfl) ?_
      obtain ⟨r_7, fd_8, hc_9, hf⟩ := bd2_s hf
      refine ucVi (As := []) (rest := []) ⟨hx, hb, hml, hown, htb⟩ hK hP hD hS hA (fun hs => c_M_count hc_9) (cwV 0 htb (gV tw_1008 tw_1010 tw_65 tw_74 tw_1011) rfl rfl rfl (by decide +kernel) ⟨Nat.le_of_ble_eq_true rfl, Nat.le_of_ble_eq_true rfl⟩) 0 5 rfl rfl rfl rfl rfl hl.1 (Nat.le_of_ble_eq_true rfl) d_M_enter_56 ⟨Nat.zero_le _, Nat.zero_le _⟩ (fun H locs hP hD hS => ?_)
      cases hf
      exact hret _ _ _ _ hP hD hS d_M_enter_59
    · have hf := ite_f c_4 hf
      refine lv_iconst (v := 0) hx hb d_M_enter_40 (by decide) ?_
      cases hf
      exact hret _ _ _ _ hP hD hS d_M_enter_41
  unfold f_M_enter at hf
  refine lv_aload_n hx hb d_M_enter_0 rfl (lv_at hl 0 rfl) ?_
  refine lv_iload_n hx hb d_M_enter_1 rfl (lv_at hl 1 rfl) ?_
  obtain ⟨r_1, th_2, lk_3, fa_4, pp_5, gg_6, jj_7, qq_8, mp_9, fx_10, tn_11, mn_12, oq_13, pq_14, fo_15, ca_16, fd_17, hc_18, hf⟩ := bd17_s hf
  refine ucVi (As := [.int a1]) (rest := []) ⟨hx, hb, hml, hown, htb⟩ hK hP hD hS hA (fun hs => c_M_no hc_18) (cwV 1 htb (gV tw_1016 tw_1018 tw_66 tw_74 tw_1019) rfl rfl rfl (by decide +kernel) ⟨Nat.le_of_ble_eq_true rfl, Nat.le_of_ble_eq_true rfl⟩) 0 5 rfl rfl rfl rfl rfl hl.1 (Nat.le_of_ble_eq_true rfl) d_M_enter_2 ⟨Nat.zero_le _, Nat.zero_le _⟩ (fun H locs hP hD hS => ?_)
  refine lv_if_ne (tgt := 40) hx hb d_M_enter_5 (by decide) (fun c_19 => ?_) (fun c_19 => ?_)
  · have hf := ite_f c_19 hf
    refine lv_iconst (v := 0) hx hb d_M_enter_40 (by decide) ?_
    cases hf
    exact hret _ _ _ _ hP hD hS d_M_enter_41
  · have hf := ite_t c_19 hf
    refine lv_aload_n hx hb d_M_enter_8 rfl (lv_at hl 0 rfl) ?_
    refine lv_aload_n hx hb d_M_enter_9 rfl (lv_at hl 0 rfl) ?_
    refine lv_aload_n hx hb d_M_enter_10 rfl (lv_at hl 0 rfl) ?_
    refine lv_aload_n hx hb d_M_enter_11 rfl (lv_at hl 0 rfl) ?_
    refine va_get (D := (dC, dI)) (ci := 5) (v := .int fd_17) (C := R_M) (T := T_M) (N := 19) hx hb htb in_M hown hK hP 0 rfl rfl 18 (by decide) (htb _ tw_784) (fun _ h9 => h9) rfl d_M_enter_12 ?_
    obtain ⟨r_20, hc_21, hf⟩ := bd1_s hf
    refine ucVl (As := [.int fd_17]) (rest := [.ref (h 0), .ref (h 0)]) ⟨hx, hb, hml, hown, htb⟩ hK hP hD hS hA (fun hs => c_M_four hc_21) (cwV 1 htb (gV tw_874 tw_876 tw_36 tw_74 tw_877) rfl rfl rfl (by decide +kernel) ⟨Nat.le_of_ble_eq_true rfl, Nat.le_of_ble_eq_true rfl⟩) 0 5 rfl rfl rfl rfl rfl hl.1 (Nat.le_of_ble_eq_true rfl) d_M_enter_15 ⟨Nat.zero_le _, Nat.zero_le _⟩ (fun H locs hP hD hS => ?_)
    refine lv_l2i hx hb d_M_enter_18 rfl ?_
    obtain ⟨r_22, hc_23, hf⟩ := bd1_s hf
    refine ucVi (As := [.int (Int64.toInt32 r_20)]) (rest := [.ref (h 0)]) ⟨hx, hb, hml, hown, htb⟩ hK hP hD hS hA (fun hs => c_M_typeOf hc_23) (cwV 1 htb (gV tw_923 tw_925 tw_46 tw_74 tw_926) rfl rfl rfl (by decide +kernel) ⟨Nat.le_of_ble_eq_true rfl, Nat.le_of_ble_eq_true rfl⟩) 0 5 rfl rfl rfl rfl rfl hl.1 (Nat.le_of_ble_eq_true rfl) d_M_enter_19 ⟨Nat.zero_le _, Nat.zero_le _⟩ (fun H locs hP hD hS => ?_)
    refine lv_sipush (v := 16384) hx hb d_M_enter_22 (by decide) ?_
    refine lv_icmp_eq (tgt := 32) hx hb d_M_enter_25 (by decide) (fun c_24 => ?_) (fun c_24 => ?_)
    · have hf := ite_t c_24 hf
      refine lv_iconst (v := 0) hx hb d_M_enter_32 (by decide) ?_
      exact hj_33 th_2 lk_3 fa_4 pp_5 gg_6 jj_7 qq_8 mp_9 fx_10 tn_11 mn_12 oq_13 pq_14 fo_15 ca_16 hr fd_17 ((0 : Int32)) _ _ _ hf hP hD hS (lv_sub hl [0] rfl)
    · have hf := ite_f c_24 hf
      refine lv_iconst (v := 1) hx hb d_M_enter_28 (by decide) ?_
      refine lv_goto (tgt := 33) hx hb d_M_enter_29 (by decide) ?_
      exact hj_33 th_2 lk_3 fa_4 pp_5 gg_6 jj_7 qq_8 mp_9 fx_10 tn_11 mn_12 oq_13 pq_14 fo_15 ca_16 hr fd_17 ((1 : Int32)) _ _ _ hf hP hD hS (lv_sub hl [0] rfl)
set_option maxHeartbeats 4000000 in
set_option maxRecDepth 100000 in
theorem c_M_up {l : Launch} {dC : Nat → ClassId} {dI : Nat → Nat → Nat} {N : Nat} {h : Nat → Nat} {cI : ClassId} {cB : ClassId} {cZ : ClassId} {th : Int32} {nb : Int32} {dk : Nat → Int32} {lk : Int32} {fa : Int32} {pp : Int32} {gg : Int32} {jj : Int32} {qq : Int32} {mp : Nat → Int32} {fx : Nat → Int32} {tn : Nat → Int32} {mn : Int32} {oq : Nat → Int32} {pq : Nat → Int32} {fo : Nat → Int32} {ca : Nat → Int32} {hr : Int32} {fd : Int32} {hs : Nat} {r : Int32} {th' : Int32} {lk' : Int32} {fa' : Int32} {pp' : Int32} {gg' : Int32} {jj' : Int32} {qq' : Int32} {mp' : Nat → Int32} {fx' : Nat → Int32} {tn' : Nat → Int32} {mn' : Int32} {oq' : Nat → Int32} {pq' : Nat → Int32} {fo' : Nat → Int32} {ca' : Nat → Int32} {hr' : Int32} {fd' : Int32} (hf : f_M_up N th nb dk lk fa pp gg jj qq mp fx tn mn oq pq fo ca hr fd = some (r, th', lk', fa', pp', gg', jj', qq', mp', fx', tn', mn', oq', pq', fo', ca', hr', fd')) : Met l y_M_up ws_M_up { frames := 10, cells := 0, slots := 0, locals := 220 } (PcU (dC, dI) clAll [(cI, .int), (cB, .byte), (cZ, .boolean)] (wM h cI cB cZ th nb dk lk fa pp gg jj qq mp fx tn mn oq pq fo ca hr fd) hs [.ref (h 0)]) (QUi (dC, dI) clAll [(cI, .int), (cB, .byte), (cZ, .boolean)] (wM h cI cB cZ th nb dk lk fa pp gg jj qq mp fx tn mn oq pq fo ca hr fd) (wM h cI cB cZ th' nb dk lk' fa' pp' gg' jj' qq' mp' fx' tn' mn' oq' pq' fo' ca' hr' fd') hs r) 0 0 (va_A (wM h cI cB cZ th nb dk lk fa pp gg jj qq mp fx tn mn oq pq fo ca hr fd) hs) := by
  refine mUz (cc := b_M_up) (maxL := 1) (by decide) rfl (Nat.le_of_ble_eq_true rfl) ?_
  intro p e s m args below meth c Q hx hb hml hts hown A hA hK hP hD hS hret ls hl
  have htb : ∀ w ∈ TB, w.before args s = true := fun w h => hts w (List.mem_cons_of_mem _ h)
  have hl : lv_has ls 1 [(0, .ref (h 0))] := hl
  unfold f_M_up at hf
  refine lv_aload_n hx hb d_M_up_0 rfl (lv_at hl 0 rfl) ?_
  obtain ⟨r_1, th_2, lk_3, fa_4, pp_5, gg_6, jj_7, qq_8, mp_9, fx_10, tn_11, mn_12, oq_13, pq_14, fo_15, ca_16, fd_17, hc_18, hf⟩ := bd17_s hf
  refine ucVi (As := []) (rest := []) ⟨hx, hb, hml, hown, htb⟩ hK hP hD hS hA (fun hs => c_M_none hc_18) (cwV 0 htb (gV tw_1000 tw_1002 tw_63 tw_74 tw_1003) rfl rfl rfl (by decide +kernel) ⟨Nat.le_of_ble_eq_true rfl, Nat.le_of_ble_eq_true rfl⟩) 0 5 rfl rfl rfl rfl rfl hl.1 (Nat.le_of_ble_eq_true rfl) d_M_up_1 ⟨Nat.zero_le _, Nat.zero_le _⟩ (fun H locs hP hD hS => ?_)
  refine lv_if_ne (tgt := 15) hx hb d_M_up_4 (by decide) (fun c_19 => ?_) (fun c_19 => ?_)
  · have hf := ite_f c_19 hf
    refine lv_iconst (v := 0) hx hb d_M_up_15 (by decide) ?_
    cases hf
    exact hret _ _ _ _ (Or.inl rfl) hP hD hS d_M_up_16
  · have hf := ite_t c_19 hf
    refine lv_aload_n hx hb d_M_up_7 rfl (lv_at hl 0 rfl) ?_
    refine va_get (D := (dC, dI)) (ci := 5) (v := .int hr) (C := R_M) (T := T_M) (N := 19) hx hb htb in_M hown hK hP 0 rfl rfl 17 (by decide) (htb _ tw_783) (fun _ h9 => h9) rfl d_M_up_8 ?_
    refine lv_iconst (v := 2) hx hb d_M_up_11 (by decide) ?_
    refine lv_icmp_ne (tgt := 17) hx hb d_M_up_12 (by decide) (fun c_20 => ?_) (fun c_20 => ?_)
    · have hf := ite_f c_20 hf
      refine lv_aload_n hx hb d_M_up_17 rfl (lv_at hl 0 rfl) ?_
      refine lv_aload_n hx hb d_M_up_18 rfl (lv_at hl 0 rfl) ?_
      refine va_get (D := (dC, dI)) (ci := 5) (v := .ref (h 6)) (C := R_M) (T := T_M) (N := 19) hx hb htb in_M hown hK hP 0 rfl rfl 14 (by decide) (htb _ tw_780) (fun _ h9 => h9) rfl d_M_up_19 ?_
      refine lv_aload_n hx hb d_M_up_22 rfl (lv_at hl 0 rfl) ?_
      refine va_get (D := (dC, dI)) (ci := 5) (v := .int hr) (C := R_M) (T := T_M) (N := 19) hx hb htb in_M hown hK hP 0 rfl rfl 17 (by decide) (htb _ tw_783) (fun _ h9 => h9) rfl d_M_up_23 ?_
      obtain ⟨c_21, hf⟩ := gd_s hf
      refine va_iald (i := hr) hx hb hK hP 6 0 rfl rfl c_21 d_M_up_26 ?_
      refine va_put (D := (dC, dI)) (ci := 5) (v := .int (pq_14 (Int32.toNatClampNeg hr))) (ty := .int) (C := R_M) (T := T_M) (N := 19) hx hb htb in_M ty_M tyok_M nm_M hown hK hP hD hS 0 rfl rfl 17 (by decide) (htb _ tw_783) (fun _ h9 => h9) rfl (by decide +kernel) rfl rfl (Nat.le_of_ble_eq_true rfl) d_M_up_27 (fun H locs hP hD hS => ?_)
      have hP : va_P (dC, dI) clAll (wM h cI cB cZ th_2 nb dk lk_3 fa_4 pp_5 gg_6 jj_7 qq_8 mp_9 fx_10 tn_11 mn_12 oq_13 pq_14 fo_15 ca_16 (pq_14 (Int32.toNatClampNeg hr)) fd_17) H := hP
      have hD : va_D A (wM h cI cB cZ th_2 nb dk lk_3 fa_4 pp_5 gg_6 jj_7 qq_8 mp_9 fx_10 tn_11 mn_12 oq_13 pq_14 fo_15 ca_16 (pq_14 (Int32.toNatClampNeg hr)) fd_17) := hD
      refine lv_iconst (v := 1) hx hb d_M_up_30 (by decide) ?_
      cases hf
      exact hret _ _ _ _ (Or.inr rfl) hP hD hS d_M_up_31
    · have hf := ite_t c_20 hf
      refine lv_iconst (v := 0) hx hb d_M_up_15 (by decide) ?_
      cases hf
      exact hret _ _ _ _ (Or.inl rfl) hP hD hS d_M_up_16
