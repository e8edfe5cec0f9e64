set_option maxHeartbeats 4000000 in
set_option maxRecDepth 100000 in
theorem c_M_badEntries {l : Launch} {dC : Nat → ClassId} {dI : Nat → Nat → Nat} {N : Nat} {h : Nat → Nat} {cI : ClassId} {cB : ClassId} {cZ : ClassId} {th : Int32} {nb : Int32} {dk : Nat → Int32} {lk : Int32} {fa : Int32} {pp : Int32} {gg : Int32} {jj : Int32} {qq : Int32} {mp : Nat → Int32} {fx : Nat → Int32} {tn : Nat → Int32} {mn : Int32} {oq : Nat → Int32} {pq : Nat → Int32} {fo : Nat → Int32} {ca : Nat → Int32} {hr : Int32} {fd : Int32} {hs : Nat} {a1 : Int32} {r : Int32} (hf : f_M_badEntries N dk gg qq mp pq a1 = some (r)) : Met l y_M_badEntries ws_M_badEntries { frames := 5, cells := 0, slots := 0, locals := 108 } (PcU (dC, dI) clAll [(cI, .int), (cB, .byte), (cZ, .boolean)] (wM h cI cB cZ th nb dk lk fa pp gg jj qq mp fx tn mn oq pq fo ca hr fd) hs [.ref (h 0), .int a1]) (QUi (dC, dI) clAll [(cI, .int), (cB, .byte), (cZ, .boolean)] (wM h cI cB cZ th nb dk lk fa pp gg jj qq mp fx tn mn oq pq fo ca hr fd) (wM h cI cB cZ th nb dk lk fa pp gg jj qq mp fx tn mn oq pq fo ca hr fd) hs r) 0 0 (va_A (wM h cI cB cZ th nb dk lk fa pp gg jj qq mp fx tn mn oq pq fo ca hr fd) hs) := by
  refine mUz (cc := b_M_badEntries) (maxL := 7) (by decide) rfl (Nat.le_of_ble_eq_true rfl) ?_
  intro p e s m args below meth c Q hx hb hml hts hown A hA hK hP hD hS hret ls hl
  have htb : ∀ w ∈ TB, w.before args s = true := fun w h => hts w (List.mem_cons_of_mem _ h)
  have hl : lv_has ls 7 [(0, .ref (h 0)), (1, .int a1)] := hl
  have hj_26 : ∀ (k_26 : Nat) (x1 : Int32) (x2 : Int32) (x3 : Int32) (x4 : Int32) (H : Heap) (locs : List Loc) (ls : Array Slot), f_M_badEntries_26 N dk gg qq mp pq k_26 x1 x2 x3 x4 = some (r) → va_P (dC, dI) clAll (wM h cI cB cZ th nb dk lk fa pp gg jj qq mp fx tn mn oq pq fo ca hr fd) H → va_D A (wM h cI cB cZ th nb dk lk fa pp gg jj qq mp fx tn mn oq pq fo ca hr fd) → va_S A s.heap H locs → lv_has ls 7 [(0, .ref (h 0)), (1, .int x1), (2, .int x2), (3, .int x3), (4, .int x4)] → W p l e (headSpec ws_M_badEntries { frames := 5, cells := 0, slots := 0, locals := 108 }).room s m args below meth c H locs 0 0 Q (F0 m 26 ls []) := by
    intro k_26
    induction k_26 with
    | zero => intro _ _ _ _ _ _ _ hf; exact absurd hf (by simp [f_M_badEntries_26])
    | succ k_26 ih_26 =>
      have hj_53 : ∀ (k_53 : Nat) (x1 : Int32) (x2 : Int32) (x3 : Int32) (x4 : Int32) (x5 : Int32) (x6 : Int32) (H : Heap) (locs : List Loc) (ls : Array Slot), f_M_badEntries_53 N dk gg qq mp pq (f_M_badEntries_26 N dk gg qq mp pq k_26) k_53 x1 x2 x3 x4 x5 x6 = some (r) → va_P (dC, dI) clAll (wM h cI cB cZ th nb dk lk fa pp gg jj qq mp fx tn mn oq pq fo ca hr fd) H → va_D A (wM h cI cB cZ th nb dk lk fa pp gg jj qq mp fx tn mn oq pq fo ca hr fd) → va_S A s.heap H locs → lv_has ls 7 [(0, .ref (h 0)), (1, .int x1), (2, .int x2), (3, .int x3), (4, .int x4), (5, .int x5), (6, .int x6)] → W p l e (headSpec ws_M_badEntries { frames := 5, cells := 0, slots := 0, locals := 108 }).room s m args below meth c H locs 0 0 Q (F0 m 53 ls []) := by
        intro k_53
        induction k_53 with
        | zero => intro _ _ _ _ _ _ _ _ _ hf; exact absurd hf (by simp [f_M_badEntries_53])
        | succ k_53 ih_53 =>
          intro x1 x2 x3 x4 x5 x6 H locs ls hf hP hD hS hl
          rw [f_M_badEntries_53] at hf
          refine lv_iload hx hb d_M_badEntries_53 (lv_at hl 6 rfl) ?_
          refine lv_sipush (v := 1024) hx hb d_M_badEntries_55 (by decide) ?_
          refine lv_icmp_ge (tgt := 114) hx hb d_M_badEntries_58 (by decide) (fun c_1 => ?_) (fun c_1 => ?_)
          · have hf := ite_t c_1 hf
            obtain ⟨v4_2, ev4_2, hf⟩ := lt1_s hf
            refine lv_iinc (v := v4_2) (lv' := [(4, .int v4_2), (0, .ref (h 0)), (1, .int x1), (2, .int x2), (3, .int x3), (5, .int x5), (6, .int x6)]) hx hb d_M_badEntries_114 hl (k := 4) rfl (by rw [← ev4_2]; rfl) (by decide) rfl (fun ls hl => ?_)
            refine lv_goto (tgt := 26) hx hb d_M_badEntries_117 (by decide) ?_
            exact ih_26 x1 x2 x3 v4_2 _ _ _ hf hP hD hS (lv_sub hl [1, 2, 3, 4, 0] rfl)
          · have hf := ite_f c_1 hf
            refine lv_sipush (v := 1024) hx hb d_M_badEntries_61 (by decide) ?_
            refine lv_iload hx hb d_M_badEntries_64 (lv_at hl 6 rfl) ?_
            refine lv_isub hx hb d_M_badEntries_66 ?_
            refine lv_bipush (v := 12) hx hb d_M_badEntries_67 (by decide) ?_
            refine lv_icmp_lt (tgt := 92) hx hb d_M_badEntries_69 (by decide) (fun c_3 => ?_) (fun c_3 => ?_)
            · have hf := ite_t c_3 hf
              refine lv_iconst (v := 1) hx hb d_M_badEntries_92 (by decide) ?_
              cases hf
              exact hret _ _ _ _ (Or.inr rfl) hP hD hS d_M_badEntries_93
            · have hf := ite_f c_3 hf
              refine lv_aload_n hx hb d_M_badEntries_72 rfl (lv_at hl 0 rfl) ?_
              refine lv_iload_n hx hb d_M_badEntries_73 rfl (lv_at hl 1 rfl) ?_
              refine lv_iload hx hb d_M_badEntries_74 (lv_at hl 5 rfl) ?_
              refine lv_iload hx hb d_M_badEntries_76 (lv_at hl 6 rfl) ?_
              refine lv_iadd hx hb d_M_badEntries_78 ?_
              refine lv_iload_n hx hb d_M_badEntries_79 rfl (lv_at hl 3 rfl) ?_
              refine lv_sipush (v := 1024) hx hb d_M_badEntries_80 (by decide) ?_
              refine lv_iload hx hb d_M_badEntries_83 (lv_at hl 6 rfl) ?_
              refine lv_isub hx hb d_M_badEntries_85 ?_
              obtain ⟨r_4, hc_5, hf⟩ := bd1_s hf
              refine ucVi (As := [.int x1, .int (x5 + x6), .int x3, .int (((1024 : Int32)) - x6)]) (rest := []) ⟨hx, hb, hml, hown, htb⟩ hK hP hD hS hA (fun hs => c_M_isEntry hc_5) (cwV 4 htb (gV tw_963 tw_965 tw_55 tw_74 tw_966) rfl rfl rfl (by decide +kernel) ⟨Nat.le_of_ble_eq_true rfl, Nat.le_of_ble_eq_true rfl⟩) 0 5 rfl rfl rfl rfl rfl hl.1 (Nat.le_of_ble_eq_true rfl) d_M_badEntries_86 ⟨Nat.zero_le _, Nat.zero_le _⟩ (fun H locs hP hD hS => ?_)
              refine lv_if_ne (tgt := 94) hx hb d_M_badEntries_89 (by decide) (fun c_6 => ?_) (fun c_6 => ?_)
              · have hf := ite_f c_6 hf
                refine lv_iload hx hb d_M_badEntries_94 (lv_at hl 6 rfl) ?_
                refine lv_aload_n hx hb d_M_badEntries_96 rfl (lv_at hl 0 rfl) ?_
                refine lv_iload hx hb d_M_badEntries_97 (lv_at hl 5 rfl) ?_
                refine lv_iload hx hb d_M_badEntries_99 (lv_at hl 6 rfl) ?_
                refine lv_iadd hx hb d_M_badEntries_101 ?_
                obtain ⟨r_7, hc_8, hf⟩ := bd1_s hf
                refine ucVi (As := [.int (x5 + x6)]) (rest := [.int x6]) ⟨hx, hb, hml, hown, htb⟩ hK hP hD hS hA (fun hs => c_M_lengthAt hc_8) (cwV 1 htb (gV tw_967 tw_969 tw_56 tw_74 tw_970) rfl rfl rfl (by decide +kernel) ⟨Nat.le_of_ble_eq_true rfl, Nat.le_of_ble_eq_true rfl⟩) 0 5 rfl rfl rfl rfl rfl hl.1 (Nat.le_of_ble_eq_true rfl) d_M_badEntries_102 ⟨Nat.zero_le _, Nat.zero_le _⟩ (fun H locs hP hD hS => ?_)
                refine lv_iadd hx hb d_M_badEntries_105 ?_
                obtain ⟨v6_9, ev6_9, hf⟩ := lt1_s hf
                refine lv_eqi ev6_9 ?_
                refine lv_istore (lv' := [(6, .int v6_9), (0, .ref (h 0)), (1, .int x1), (2, .int x2), (3, .int x3), (4, .int x4), (5, .int x5)]) hx hb d_M_badEntries_106 hl (by decide) rfl (fun ls hl => ?_)
                obtain ⟨v3_10, ev3_10, hf⟩ := lt1_s hf
                refine lv_iinc (v := v3_10) (lv' := [(3, .int v3_10), (6, .int v6_9), (0, .ref (h 0)), (1, .int x1), (2, .int x2), (4, .int x4), (5, .int x5)]) hx hb d_M_badEntries_108 hl (k := 4) rfl (by rw [← ev3_10]; rfl) (by decide) rfl (fun ls hl => ?_)
                refine lv_goto (tgt := 53) hx hb d_M_badEntries_111 (by decide) ?_
                exact ih_53 x1 x2 v3_10 x4 x5 v6_9 _ _ _ hf hP hD hS (lv_sub hl [2, 3, 4, 0, 5, 6, 1] rfl)
              · have hf := ite_t c_6 hf
                refine lv_iconst (v := 1) hx hb d_M_badEntries_92 (by decide) ?_
                cases hf
                exact hret _ _ _ _ (Or.inr rfl) hP hD hS d_M_badEntries_93
      intro x1 x2 x3 x4 H locs ls hf hP hD hS hl
      rw [f_M_badEntries_26] at hf
      refine lv_iload hx hb d_M_badEntries_26 (lv_at hl 4 rfl) ?_
      refine lv_iload_n hx hb d_M_badEntries_28 rfl (lv_at hl 2 rfl) ?_
      refine lv_sipush (v := 1024) hx hb d_M_badEntries_29 (by decide) ?_
      refine lv_idiv hx hb d_M_badEntries_32 (by decide) ?_
      refine lv_icmp_ge (tgt := 120) hx hb d_M_badEntries_33 (by decide) (fun c_1 => ?_) (fun c_1 => ?_)
      · have hf := ite_t c_1 hf
        refine lv_iload_n hx hb d_M_badEntries_120 rfl (lv_at hl 3 rfl) ?_
        refine lv_iconst (v := 2) hx hb d_M_badEntries_121 (by decide) ?_
        refine lv_icmp_ge (tgt := 129) hx hb d_M_badEntries_122 (by decide) (fun c_2 => ?_) (fun c_2 => ?_)
        · have hf := ite_t c_2 hf
          refine lv_iconst (v := 0) hx hb d_M_badEntries_129 (by decide) ?_
          cases hf
          exact hret _ _ _ _ (Or.inl rfl) hP hD hS d_M_badEntries_130
        · have hf := ite_f c_2 hf
          refine lv_iconst (v := 1) hx hb d_M_badEntries_125 (by decide) ?_
          refine lv_goto (tgt := 130) hx hb d_M_badEntries_126 (by decide) ?_
          cases hf
          exact hret _ _ _ _ (Or.inr rfl) hP hD hS d_M_badEntries_130
      · have hf := ite_f c_1 hf
        refine lv_sipush (v := 1024) hx hb d_M_badEntries_36 (by decide) ?_
        refine lv_aload_n hx hb d_M_badEntries_39 rfl (lv_at hl 0 rfl) ?_
        refine lv_iload_n hx hb d_M_badEntries_40 rfl (lv_at hl 1 rfl) ?_
        refine lv_iload hx hb d_M_badEntries_41 (lv_at hl 4 rfl) ?_
        obtain ⟨r_3, hc_4, hf⟩ := bd1_s hf
        refine ucVl (As := [.int x1, .int x4]) (rest := [.int ((1024 : Int32))]) ⟨hx, hb, hml, hown, htb⟩ hK hP hD hS hA (fun hs => c_M_blockOf hc_4) (cwV 2 htb (gV tw_951 tw_953 tw_52 tw_74 tw_954) rfl rfl rfl (by decide +kernel) ⟨Nat.le_of_ble_eq_true rfl, Nat.le_of_ble_eq_true rfl⟩) 0 5 rfl rfl rfl rfl rfl hl.1 (Nat.le_of_ble_eq_true rfl) d_M_badEntries_43 ⟨Nat.zero_le _, Nat.zero_le _⟩ (fun H locs hP hD hS => ?_)
        refine lv_l2i hx hb d_M_badEntries_46 rfl ?_
        refine lv_imul hx hb d_M_badEntries_47 ?_
        obtain ⟨v5_5, ev5_5, hf⟩ := lt1_s hf
        refine lv_eqi ev5_5 ?_
        refine lv_istore (lv' := [(5, .int v5_5), (0, .ref (h 0)), (1, .int x1), (2, .int x2), (3, .int x3), (4, .int x4)]) hx hb d_M_badEntries_48 hl (by decide) rfl (fun ls hl => ?_)
        refine lv_iconst (v := 0) hx hb d_M_badEntries_50 (by decide) ?_
        refine lv_istore (lv' := [(6, .int ((0 : Int32))), (5, .int v5_5), (0, .ref (h 0)), (1, .int x1), (2, .int x2), (3, .int x3), (4, .int x4)]) hx hb d_M_badEntries_51 hl (by decide) rfl (fun ls hl => ?_)
        exact hj_53 N x1 x2 x3 x4 v5_5 ((0 : Int32)) _ _ _ hf hP hD hS (lv_sub hl [2, 3, 4, 5, 6, 1, 0] rfl)
  unfold f_M_badEntries at hf
  refine lv_aload_n hx hb d_M_badEntries_0 rfl (lv_at hl 0 rfl) ?_
  refine lv_iload_n hx hb d_M_badEntries_1 rfl (lv_at hl 1 rfl) ?_
  obtain ⟨r_1, hc_2, hf⟩ := bd1_s hf
  refine ucVl (As := [.int a1]) (rest := []) ⟨hx, hb, hml, hown, htb⟩ hK hP hD hS hA (fun hs => c_M_sizeOfInode hc_2) (cwV 1 htb (gV tw_936 tw_938 tw_49 tw_74 tw_939) rfl rfl rfl (by decide +kernel) ⟨Nat.le_of_ble_eq_true rfl, Nat.le_of_ble_eq_true rfl⟩) 0 5 rfl rfl rfl rfl rfl hl.1 (Nat.le_of_ble_eq_true rfl) d_M_badEntries_2 ⟨Nat.zero_le _, Nat.zero_le _⟩ (fun H locs hP hD hS => ?_)
  refine lv_l2i hx hb d_M_badEntries_5 rfl ?_
  obtain ⟨v2_3, ev2_3, hf⟩ := lt1_s hf
  refine lv_eqi ev2_3 ?_
  refine lv_istore_n (lv' := [(2, .int v2_3), (0, .ref (h 0)), (1, .int a1)]) hx hb d_M_badEntries_6 rfl hl (by decide) rfl (fun ls hl => ?_)
  refine lv_iload_n hx hb d_M_badEntries_7 rfl (lv_at hl 0 rfl) ?_
  refine lv_if_eq (tgt := 19) hx hb d_M_badEntries_8 (by decide) (fun c_4 => ?_) (fun c_4 => ?_)
  · have hf := ite_t c_4 hf
    refine lv_iconst (v := 1) hx hb d_M_badEntries_19 (by decide) ?_
    cases hf
    exact hret _ _ _ _ (Or.inr rfl) hP hD hS d_M_badEntries_20
  · have hf := ite_f c_4 hf
    refine lv_iload_n hx hb d_M_badEntries_11 rfl (lv_at hl 0 rfl) ?_
    refine lv_sipush (v := 1024) hx hb d_M_badEntries_12 (by decide) ?_
    refine lv_irem hx hb d_M_badEntries_15 (by decide) ?_
    refine lv_if_eq (tgt := 21) hx hb d_M_badEntries_16 (by decide) (fun c_5 => ?_) (fun c_5 => ?_)
    · have hf := ite_t c_5 hf
      refine lv_iconst (v := 0) hx hb d_M_badEntries_21 (by decide) ?_
      refine lv_istore_n (lv' := [(3, .int ((0 : Int32))), (2, .int v2_3), (0, .ref (h 0)), (1, .int a1)]) hx hb d_M_badEntries_22 rfl hl (by decide) rfl (fun ls hl => ?_)
      refine lv_iconst (v := 0) hx hb d_M_badEntries_23 (by decide) ?_
      refine lv_istore (lv' := [(4, .int ((0 : Int32))), (3, .int ((0 : Int32))), (2, .int v2_3), (0, .ref (h 0)), (1, .int a1)]) hx hb d_M_badEntries_24 hl (by decide) rfl (fun ls hl => ?_)
      exact hj_26 N a1 v2_3 ((0 : Int32)) ((0 : Int32)) _ _ _ hf hP hD hS (lv_sub hl [3, 4, 2, 1, 0] rfl)
    · have hf := ite_f c_5 hf
      refine lv_iconst (v := 1) hx hb d_M_badEntries_19 (by decide) ?_
      cases hf
      exact hret _ _ _ _ (Or.inr rfl) hP hD hS d_M_badEntries_20
set_option maxHeartbeats 4000000 in
set_option maxRecDepth 100000 in
theorem c_M_finds {l : Launch} {dC : Nat → ClassId} {dI : Nat → Nat → Nat} {N : Nat} {h : Nat → Nat} {cI : ClassId} {cB : ClassId} {cZ : ClassId} {th : Int32} {nb : Int32} {dk : Nat → Int32} {lk : Int32} {fa : Int32} {pp : Int32} {gg : Int32} {jj : Int32} {qq : Int32} {mp : Nat → Int32} {fx : Nat → Int32} {tn : Nat → Int32} {mn : Int32} {oq : Nat → Int32} {pq : Nat → Int32} {fo : Nat → Int32} {ca : Nat → Int32} {hr : Int32} {fd : Int32} {hs : Nat} {a1 : Int32} {a2 : Int32} {r : Int32} {fd' : Int32} (hf : f_M_finds N dk gg mp fd a1 a2 = some (r, fd')) : Met l y_M_finds ws_M_finds { frames := 5, cells := 0, slots := 0, locals := 108 } (PcU (dC, dI) clAll [(cI, .int), (cB, .byte), (cZ, .boolean)] (wM h cI cB cZ th nb dk lk fa pp gg jj qq mp fx tn mn oq pq fo ca hr fd) hs [.ref (h 0), .int a1, .int a2]) (QUi (dC, dI) clAll [(cI, .int), (cB, .byte), (cZ, .boolean)] (wM h cI cB cZ th nb dk lk fa pp gg jj qq mp fx tn mn oq pq fo ca hr fd) (wM h cI cB cZ th nb dk lk fa pp gg jj qq mp fx tn mn oq pq fo ca hr fd') hs r) 0 0 (va_A (wM h cI cB cZ th nb dk lk fa pp gg jj qq mp fx tn mn oq pq fo ca hr fd) hs) := by
  refine mUz (cc := b_M_finds) (maxL := 8) (by decide) rfl (Nat.le_of_ble_eq_true rfl) ?_
  intro p e s m args below meth c Q hx hb hml hts hown A hA hK hP hD hS hret ls hl
  have htb : ∀ w ∈ TB, w.before args s = true := fun w h => hts w (List.mem_cons_of_mem _ h)
  have hl : lv_has ls 8 [(0, .ref (h 0)), (1, .int a1), (2, .int a2)] := hl
  have hj_14 : ∀ (k_14 : Nat) (fd : Int32) (x1 : Int32) (x2 : Int32) (x3 : Int32) (x4 : Int32) (x5 : Int32) (H : Heap) (locs : List Loc) (ls : Array Slot), f_M_finds_14 N dk gg mp k_14 fd x1 x2 x3 x4 x5 = some (r, fd') → va_P (dC, dI) clAll (wM h cI cB cZ th nb dk lk fa pp gg jj qq mp fx tn mn oq pq fo ca hr fd) H → va_D A (wM h cI cB cZ th nb dk lk fa pp gg jj qq mp fx tn mn oq pq fo ca hr fd) → va_S A s.heap H locs → lv_has ls 8 [(0, .ref (h 0)), (1, .int x1), (2, .int x2), (3, .int x3), (4, .int x4), (5, .int x5)] → W p l e (headSpec ws_M_finds { frames := 5, cells := 0, slots := 0, locals := 108 }).room s m args below meth c H locs 0 0 Q (F0 m 14 ls []) := by
    intro k_14
    induction k_14 with
    | zero => intro _ _ _ _ _ _ _ _ _ hf; exact absurd hf (by simp [f_M_finds_14])
    | succ k_14 ih_14 =>
      have hj_41 : ∀ (k_41 : Nat) (fd : Int32) (x1 : Int32) (x2 : Int32) (x3 : Int32) (x4 : Int32) (x5 : Int32) (x6 : Int32) (x7 : Int32) (H : Heap) (locs : List Loc) (ls : Array Slot), f_M_finds_41 N dk gg mp (f_M_finds_14 N dk gg mp k_14) k_41 fd x1 x2 x3 x4 x5 x6 x7 = some (r, fd') → va_P (dC, dI) clAll (wM h cI cB cZ th nb dk lk fa pp gg jj qq mp fx tn mn oq pq fo ca hr fd) H → va_D A (wM h cI cB cZ th nb dk lk fa pp gg jj qq mp fx tn mn oq pq fo ca hr fd) → va_S A s.heap H locs → lv_has ls 8 [(0, .ref (h 0)), (1, .int x1), (2, .int x2), (3, .int x3), (4, .int x4), (5, .int x5), (6, .int x6), (7, .int x7)] → W p l e (headSpec ws_M_finds { frames := 5, cells := 0, slots := 0, locals := 108 }).room s m args below meth c H locs 0 0 Q (F0 m 41 ls []) := by
        intro k_41
        induction k_41 with
        | zero => intro _ _ _ _ _ _ _ _ _ _ _ hf; exact absurd hf (by simp [f_M_finds_41])
        | succ k_41 ih_41 =>
          have hj_91 : ∀ (fd : Int32) (x1 : Int32) (x2 : Int32) (x3 : Int32) (x4 : Int32) (x5 : Int32) (x6 : Int32) (x7 : Int32) (H : Heap) (locs : List Loc) (ls : Array Slot), f_M_finds_91 N dk gg mp (f_M_finds_14 N dk gg mp k_14) (f_M_finds_41 N dk gg mp (f_M_finds_14 N dk gg mp k_14) k_41) fd x1 x2 x3 x4 x5 x6 x7 = some (r, fd') → va_P (dC, dI) clAll (wM h cI cB cZ th nb dk lk fa pp gg jj qq mp fx tn mn oq pq fo ca hr fd) H → va_D A (wM h cI cB cZ th nb dk lk fa pp gg jj qq mp fx tn mn oq pq fo ca hr fd) → va_S A s.heap H locs → lv_has ls 8 [(0, .ref (h 0)), (1, .int x1), (2, .int x2), (3, .int x3), (4, .int x4), (5, .int x5), (6, .int x6), (7, .int x7)] → W p l e (headSpec ws_M_finds { frames := 5, cells := 0, slots := 0, locals := 108 }).room s m args below meth c H locs 0 0 Q (F0 m 91 ls []) := by
            intro fd x1 x2 x3 x4 x5 x6 x7 H locs ls hf hP hD hS hl
            unfold f_M_finds_91 at hf
            refine lv_iload hx hb d_M_finds_91 (lv_at hl 7 rfl) ?_
            refine lv_aload_n hx hb d_M_finds_93 rfl (lv_at hl 0 rfl) ?_
            refine lv_iload hx hb d_M_finds_94 (lv_at hl 6 rfl) ?_
            refine lv_iload hx hb d_M_finds_96 (lv_at hl 7 rfl) ?_
            refine lv_iadd hx hb d_M_finds_98 ?_
            obtain ⟨r_1, hc_2, hf⟩ := bd1_s hf
            refine ucVi (As := [.int (x6 + x7)]) (rest := [.int x7]) ⟨hx, hb, hml, hown, htb⟩ hK hP hD hS hA (fun hs => c_M_lengthAt hc_2) (cwV 1 htb (gV tw_967 tw_969 tw_56 tw_74 tw_970) rfl rfl rfl (by decide +kernel) ⟨Nat.le_of_ble_eq_true rfl, Nat.le_of_ble_eq_true rfl⟩) 0 5 rfl rfl rfl rfl rfl hl.1 (Nat.le_of_ble_eq_true rfl) d_M_finds_99 ⟨Nat.zero_le _, Nat.zero_le _⟩ (fun H locs hP hD hS => ?_)
            refine lv_iadd hx hb d_M_finds_102 ?_
            obtain ⟨v7_3, ev7_3, hf⟩ := lt1_s hf
            refine lv_eqi ev7_3 ?_
            refine lv_istore (lv' := [(7, .int v7_3), (0, .ref (h 0)), (1, .int x1), (2, .int x2), (3, .int x3), (4, .int x4), (5, .int x5), (6, .int x6)]) hx hb d_M_finds_103 hl (by decide) rfl (fun ls hl => ?_)
            refine lv_goto (tgt := 41) hx hb d_M_finds_105 (by decide) ?_
            exact ih_41 fd x1 x2 x3 x4 x5 x6 v7_3 _ _ _ hf hP hD hS (lv_sub hl [1, 2, 3, 4, 5, 6, 7, 0] rfl)
          have hj_71 : ∀ (fd : Int32) (x1 : Int32) (x2 : Int32) (x3 : Int32) (x4 : Int32) (x5 : Int32) (x6 : Int32) (x7 : Int32) (H : Heap) (locs : List Loc) (ls : Array Slot), f_M_finds_71 N dk gg mp (f_M_finds_14 N dk gg mp k_14) (f_M_finds_41 N dk gg mp (f_M_finds_14 N dk gg mp k_14) k_41) fd x1 x2 x3 x4 x5 x6 x7 = some (r, fd') → va_P (dC, dI) clAll (wM h cI cB cZ th nb dk lk fa pp gg jj qq mp fx tn mn oq pq fo ca hr fd) H → va_D A (wM h cI cB cZ th nb dk lk fa pp gg jj qq mp fx tn mn oq pq fo ca hr fd) → va_S A s.heap H locs → lv_has ls 8 [(0, .ref (h 0)), (1, .int x1), (2, .int x2), (3, .int x3), (4, .int x4), (5, .int x5), (6, .int x6), (7, .int x7)] → W p l e (headSpec ws_M_finds { frames := 5, cells := 0, slots := 0, locals := 108 }).room s m args below meth c H locs 0 0 Q (F0 m 71 ls []) := by
            intro fd x1 x2 x3 x4 x5 x6 x7 H locs ls hf hP hD hS hl
            unfold f_M_finds_71 at hf
            refine lv_iload hx hb d_M_finds_71 (lv_at hl 4 rfl) ?_
            refine lv_iload_n hx hb d_M_finds_73 rfl (lv_at hl 2 rfl) ?_
            refine lv_icmp_ne (tgt := 88) hx hb d_M_finds_74 (by decide) (fun c_1 => ?_) (fun c_1 => ?_)
            · have hf := ite_f c_1 hf
              obtain ⟨v4_2, ev4_2, hf⟩ := lt1_s hf
              refine lv_iinc (v := v4_2) (lv' := [(4, .int v4_2), (0, .ref (h 0)), (1, .int x1), (2, .int x2), (3, .int x3), (5, .int x5), (6, .int x6), (7, .int x7)]) hx hb d_M_finds_88 hl (k := 4) rfl (by rw [← ev4_2]; rfl) (by decide) rfl (fun ls hl => ?_)
              exact hj_91 fd x1 x2 x3 v4_2 x5 x6 x7 _ _ _ hf hP hD hS (lv_sub hl [1, 2, 3, 4, 0, 5, 6, 7] rfl)
            · have hf := ite_t c_1 hf
              refine lv_aload_n hx hb d_M_finds_77 rfl (lv_at hl 0 rfl) ?_
              refine lv_iload hx hb d_M_finds_78 (lv_at hl 6 rfl) ?_
              refine lv_iload hx hb d_M_finds_80 (lv_at hl 7 rfl) ?_
              refine lv_iadd hx hb d_M_finds_82 ?_
              refine va_put (D := (dC, dI)) (ci := 5) (v := .int (x6 + x7)) (ty := .int) (C := R_M) (T := T_M) (N := 19) hx hb htb in_M ty_M tyok_M nm_M hown hK hP hD hS 0 rfl rfl 18 (by decide) (htb _ tw_784) (fun _ h9 => h9) rfl (by decide +kernel) rfl rfl (Nat.le_of_ble_eq_true rfl) d_M_finds_83 (fun H locs hP hD hS => ?_)
              have hP : va_P (dC, dI) clAll (wM h cI cB cZ th nb dk lk fa pp gg jj qq mp fx tn mn oq pq fo ca hr (x6 + x7)) H := hP
              have hD : va_D A (wM h cI cB cZ th nb dk lk fa pp gg jj qq mp fx tn mn oq pq fo ca hr (x6 + x7)) := hD
              refine lv_iconst (v := 1) hx hb d_M_finds_86 (by decide) ?_
              cases hf
              exact hret _ _ _ _ (Or.inr rfl) hP hD hS d_M_finds_87
          intro fd x1 x2 x3 x4 x5 x6 x7 H locs ls hf hP hD hS hl
          rw [f_M_finds_41] at hf
          refine lv_iload hx hb d_M_finds_41 (lv_at hl 7 rfl) ?_
          refine lv_sipush (v := 1024) hx hb d_M_finds_43 (by decide) ?_
          refine lv_icmp_ge (tgt := 108) hx hb d_M_finds_46 (by decide) (fun c_1 => ?_) (fun c_1 => ?_)
          · have hf := ite_t c_1 hf
            obtain ⟨v5_2, ev5_2, hf⟩ := lt1_s hf
            refine lv_iinc (v := v5_2) (lv' := [(5, .int v5_2), (0, .ref (h 0)), (1, .int x1), (2, .int x2), (3, .int x3), (4, .int x4), (6, .int x6), (7, .int x7)]) hx hb d_M_finds_108 hl (k := 5) rfl (by rw [← ev5_2]; rfl) (by decide) rfl (fun ls hl => ?_)
            refine lv_goto (tgt := 14) hx hb d_M_finds_111 (by decide) ?_
            exact ih_14 fd x1 x2 x3 x4 v5_2 _ _ _ hf hP hD hS (lv_sub hl [1, 2, 3, 4, 5, 0] rfl)
          · have hf := ite_f c_1 hf
            refine lv_iload hx hb d_M_finds_49 (lv_at hl 4 rfl) ?_
            refine lv_if_lt (tgt := 71) hx hb d_M_finds_51 (by decide) (fun c_3 => ?_) (fun c_3 => ?_)
            · have hf := ite_t c_3 hf
              exact hj_71 fd x1 x2 x3 x4 x5 x6 x7 _ _ _ hf hP hD hS (lv_sub hl [0, 1, 2, 3, 4, 5, 6, 7] rfl)
            · have hf := ite_f c_3 hf
              refine lv_aload_n hx hb d_M_finds_54 rfl (lv_at hl 0 rfl) ?_
              refine lv_iload hx hb d_M_finds_55 (lv_at hl 6 rfl) ?_
              refine lv_iload hx hb d_M_finds_57 (lv_at hl 7 rfl) ?_
              refine lv_iadd hx hb d_M_finds_59 ?_
              obtain ⟨r_4, hc_5, hf⟩ := bd1_s hf
              refine ucVl (As := [.int (x6 + x7)]) (rest := []) ⟨hx, hb, hml, hown, htb⟩ hK hP hD hS hA (fun hs => c_M_four hc_5) (cwV 1 htb (gV tw_874 tw_876 tw_36 tw_74 tw_877) rfl rfl rfl (by decide +kernel) ⟨Nat.le_of_ble_eq_true rfl, Nat.le_of_ble_eq_true rfl⟩) 0 5 rfl rfl rfl rfl rfl hl.1 (Nat.le_of_ble_eq_true rfl) d_M_finds_60 ⟨Nat.zero_le _, Nat.zero_le _⟩ (fun H locs hP hD hS => ?_)
              refine lv_lconst (v := 0) hx hb d_M_finds_63 (by decide) ?_
              refine lc_ne (tgt := 71) hx hb d_M_finds_64 d_M_finds_65 (by decide) (fun c_6 => ?_) (fun c_6 => ?_)
              · have hf := ite_f c_6 hf
                exact hj_71 fd x1 x2 x3 x4 x5 x6 x7 _ _ _ hf hP hD hS (lv_sub hl [0, 1, 2, 3, 4, 5, 6, 7] rfl)
              · have hf := ite_t c_6 hf
                refine lv_goto (tgt := 91) hx hb d_M_finds_68 (by decide) ?_
                exact hj_91 fd x1 x2 x3 x4 x5 x6 x7 _ _ _ hf hP hD hS (lv_sub hl [0, 1, 2, 3, 4, 5, 6, 7] rfl)
      intro fd x1 x2 x3 x4 x5 H locs ls hf hP hD hS hl
      rw [f_M_finds_14] at hf
      refine lv_iload hx hb d_M_finds_14 (lv_at hl 5 rfl) ?_
      refine lv_iload_n hx hb d_M_finds_16 rfl (lv_at hl 3 rfl) ?_
      refine lv_sipush (v := 1024) hx hb d_M_finds_17 (by decide) ?_
      refine lv_idiv hx hb d_M_finds_20 (by decide) ?_
      refine lv_icmp_ge (tgt := 114) hx hb d_M_finds_21 (by decide) (fun c_1 => ?_) (fun c_1 => ?_)
      · have hf := ite_t c_1 hf
        refine lv_iconst (v := 0) hx hb d_M_finds_114 (by decide) ?_
        cases hf
        exact hret _ _ _ _ (Or.inl rfl) hP hD hS d_M_finds_115
      · have hf := ite_f c_1 hf
        refine lv_sipush (v := 1024) hx hb d_M_finds_24 (by decide) ?_
        refine lv_aload_n hx hb d_M_finds_27 rfl (lv_at hl 0 rfl) ?_
        refine lv_iload_n hx hb d_M_finds_28 rfl (lv_at hl 1 rfl) ?_
        refine lv_iload hx hb d_M_finds_29 (lv_at hl 5 rfl) ?_
        obtain ⟨r_2, hc_3, hf⟩ := bd1_s hf
        refine ucVl (As := [.int x1, .int x5]) (rest := [.int ((1024 : Int32))]) ⟨hx, hb, hml, hown, htb⟩ hK hP hD hS hA (fun hs => c_M_blockOf hc_3) (cwV 2 htb (gV tw_951 tw_953 tw_52 tw_74 tw_954) rfl rfl rfl (by decide +kernel) ⟨Nat.le_of_ble_eq_true rfl, Nat.le_of_ble_eq_true rfl⟩) 0 5 rfl rfl rfl rfl rfl hl.1 (Nat.le_of_ble_eq_true rfl) d_M_finds_31 ⟨Nat.zero_le _, Nat.zero_le _⟩ (fun H locs hP hD hS => ?_)
        refine lv_l2i hx hb d_M_finds_34 rfl ?_
        refine lv_imul hx hb d_M_finds_35 ?_
        obtain ⟨v6_4, ev6_4, hf⟩ := lt1_s hf
        refine lv_eqi ev6_4 ?_
        refine lv_istore (lv' := [(6, .int v6_4), (0, .ref (h 0)), (1, .int x1), (2, .int x2), (3, .int x3), (4, .int x4), (5, .int x5)]) hx hb d_M_finds_36 hl (by decide) rfl (fun ls hl => ?_)
        refine lv_iconst (v := 0) hx hb d_M_finds_38 (by decide) ?_
        refine lv_istore (lv' := [(7, .int ((0 : Int32))), (6, .int v6_4), (0, .ref (h 0)), (1, .int x1), (2, .int x2), (3, .int x3), (4, .int x4), (5, .int x5)]) hx hb d_M_finds_39 hl (by decide) rfl (fun ls hl => ?_)
        exact hj_41 N fd x1 x2 x3 x4 x5 v6_4 ((0 : Int32)) _ _ _ hf hP hD hS (lv_sub hl [2, 3, 4, 5, 6, 7, 1, 0] rfl)
  unfold f_M_finds at hf
  refine lv_aload_n hx hb d_M_finds_0 rfl (lv_at hl 0 rfl) ?_
  refine lv_iload_n hx hb d_M_finds_1 rfl (lv_at hl 1 rfl) ?_
  obtain ⟨r_1, hc_2, hf⟩ := bd1_s hf
  refine ucVl (As := [.int a1]) (rest := []) ⟨hx, hb, hml, hown, htb⟩ hK hP hD hS hA (fun hs => c_M_sizeOfInode hc_2) (cwV 1 htb (gV tw_936 tw_938 tw_49 tw_74 tw_939) rfl rfl rfl (by decide +kernel) ⟨Nat.le_of_ble_eq_true rfl, Nat.le_of_ble_eq_true rfl⟩) 0 5 rfl rfl rfl rfl rfl hl.1 (Nat.le_of_ble_eq_true rfl) d_M_finds_2 ⟨Nat.zero_le _, Nat.zero_le _⟩ (fun H locs hP hD hS => ?_)
  refine lv_l2i hx hb d_M_finds_5 rfl ?_
  obtain ⟨v3_3, ev3_3, hf⟩ := lt1_s hf
  refine lv_eqi ev3_3 ?_
  refine lv_istore_n (lv' := [(3, .int v3_3), (0, .ref (h 0)), (1, .int a1), (2, .int a2)]) hx hb d_M_finds_6 rfl hl (by decide) rfl (fun ls hl => ?_)
  refine lv_bipush (v := -2) hx hb d_M_finds_7 (by decide) ?_
  refine lv_istore (lv' := [(4, .int ((-2 : Int32))), (3, .int v3_3), (0, .ref (h 0)), (1, .int a1), (2, .int a2)]) hx hb d_M_finds_9 hl (by decide) rfl (fun ls hl => ?_)
  refine lv_iconst (v := 0) hx hb d_M_finds_11 (by decide) ?_
  refine lv_istore (lv' := [(5, .int ((0 : Int32))), (4, .int ((-2 : Int32))), (3, .int v3_3), (0, .ref (h 0)), (1, .int a1), (2, .int a2)]) hx hb d_M_finds_12 hl (by decide) rfl (fun ls hl => ?_)
  exact hj_14 N fd a1 a2 v3_3 ((-2 : Int32)) ((0 : Int32)) _ _ _ hf hP hD hS (lv_sub hl [3, 4, 5, 2, 1, 0] rfl)
set_option maxHeartbeats 4000000 in
set_option maxRecDepth 100000 in
theorem c_M_comes {l : Launch} {dC : Nat → ClassId} {dI : Nat → Nat → Nat} {h : Nat → Nat} {cI : ClassId} {cB : ClassId} {cZ : ClassId} {th : Int32} {nb : Int32} {dk : Nat → Int32} {lk : Int32} {fa : Int32} {pp : Int32} {gg : Int32} {jj : Int32} {qq : Int32} {mp : Nat → Int32} {fx : Nat → Int32} {tn : Nat → Int32} {mn : Int32} {oq : Nat → Int32} {pq : Nat → Int32} {fo : Nat → Int32} {ca : Nat → Int32} {hr : Int32} {fd : Int32} {hs : Nat} {a1 : Int32} {a2 : Int32} {mn' : Int32} {oq' : Nat → Int32} {pq' : Nat → Int32} {fo' : Nat → Int32} {ca' : Nat → Int32} (hf : f_M_comes dk gg mp mn oq pq fo ca a1 a2 = some (mn', oq', pq', fo', ca')) : Met l y_M_comes ws_M_comes { frames := 3, cells := 0, slots := 0, locals := 63 } (PcU (dC, dI) clAll [(cI, .int), (cB, .byte), (cZ, .boolean)] (wM h cI cB cZ th nb dk lk fa pp gg jj qq mp fx tn mn oq pq fo ca hr fd) hs [.ref (h 0), .int a1, .int a2]) (QUv (dC, dI) clAll [(cI, .int), (cB, .byte), (cZ, .boolean)] (wM h cI cB cZ th nb dk lk fa pp gg jj qq mp fx tn mn oq pq fo ca hr fd) (wM h cI cB cZ th nb dk lk fa pp gg jj qq mp fx tn mn' oq' pq' fo' ca' hr fd) hs) 0 0 (va_A (wM h cI cB cZ th nb dk lk fa pp gg jj qq mp fx tn mn oq pq fo ca hr fd) hs) := by
  refine mUv (cc := b_M_comes) (maxL := 3) (by decide) rfl (Nat.le_of_ble_eq_true rfl) ?_
  intro p e s m args below meth c Q hx hb hml hts hown A hA hK hP hD hS hret ls hl
  have htb : ∀ w ∈ TB, w.before args s = true := fun w h => hts w (List.mem_cons_of_mem _ h)
  have hl : lv_has ls 3 [(0, .ref (h 0)), (1, .int a1), (2, .int a2)] := hl
  unfold f_M_comes at hf
  refine lv_aload_n hx hb d_M_comes_0 rfl (lv_at hl 0 rfl) ?_
  refine va_get (D := (dC, dI)) (ci := 5) (v := .ref (h 5)) (C := R_M) (T := T_M) (N := 19) hx hb htb in_M hown hK hP 0 rfl rfl 13 (by decide) (htb _ tw_779) (fun _ h9 => h9) rfl d_M_comes_1 ?_
  refine lv_aload_n hx hb d_M_comes_4 rfl (lv_at hl 0 rfl) ?_
  refine va_get (D := (dC, dI)) (ci := 5) (v := .int mn) (C := R_M) (T := T_M) (N := 19) hx hb htb in_M hown hK hP 0 rfl rfl 12 (by decide) (htb _ tw_778) (fun _ h9 => h9) rfl d_M_comes_5 ?_
  refine lv_iload_n hx hb d_M_comes_8 rfl (lv_at hl 1 rfl) ?_
  obtain ⟨c_1, hf⟩ := gd_s hf
  refine va_iast (i := mn) (x := a1) hx hb hK hP hD hS 5 0 rfl rfl c_1 d_M_comes_9 (fun H locs hP hD hS => ?_)
  obtain ⟨oq_2, eoq_2, hf⟩ := lt1_s hf
  have hP : va_P (dC, dI) clAll (wM h cI cB cZ th nb dk lk fa pp gg jj qq mp fx tn mn oq_2 pq fo ca hr fd) H := eoq_2 ▸ hP
  have hD : va_D A (wM h cI cB cZ th nb dk lk fa pp gg jj qq mp fx tn mn oq_2 pq fo ca hr fd) := eoq_2 ▸ hD
  refine lv_aload_n hx hb d_M_comes_10 rfl (lv_at hl 0 rfl) ?_
  refine lv_dup hx hb d_M_comes_11 rfl ?_
  refine va_get (D := (dC, dI)) (ci := 5) (v := .int mn) (C := R_M) (T := T_M) (N := 19) hx hb htb in_M hown hK hP 0 rfl rfl 12 (by decide) (htb _ tw_778) (fun _ h9 => h9) rfl d_M_comes_12 ?_
  refine lv_iconst (v := 1) hx hb d_M_comes_15 (by decide) ?_
  refine lv_iadd hx hb d_M_comes_16 ?_
  refine va_put (D := (dC, dI)) (ci := 5) (v := .int (mn + ((1 : Int32)))) (ty := .int) (C := R_M) (T := T_M) (N := 19) hx hb htb in_M ty_M tyok_M nm_M hown hK hP hD hS 0 rfl rfl 12 (by decide) (htb _ tw_778) (fun _ h9 => h9) rfl (by decide +kernel) rfl rfl (Nat.le_of_ble_eq_true rfl) d_M_comes_17 (fun H locs hP hD hS => ?_)
  have hP : va_P (dC, dI) clAll (wM h cI cB cZ th nb dk lk fa pp gg jj qq mp fx tn (mn + ((1 : Int32))) oq_2 pq fo ca hr fd) H := hP
  have hD : va_D A (wM h cI cB cZ th nb dk lk fa pp gg jj qq mp fx tn (mn + ((1 : Int32))) oq_2 pq fo ca hr fd) := hD
  refine lv_aload_n hx hb d_M_comes_20 rfl (lv_at hl 0 rfl) ?_
  refine va_get (D := (dC, dI)) (ci := 5) (v := .ref (h 8)) (C := R_M) (T := T_M) (N := 19) hx hb htb in_M hown hK hP 0 rfl rfl 16 (by decide) (htb _ tw_782) (fun _ h9 => h9) rfl d_M_comes_21 ?_
  refine lv_iload_n hx hb d_M_comes_24 rfl (lv_at hl 1 rfl) ?_
  refine lv_iconst (v := 1) hx hb d_M_comes_25 (by decide) ?_
  obtain ⟨c_3, hf⟩ := gd_s hf
  refine va_zast (i := a1) (x := (1 : Int32)) hx hb hK hP hD hS 8 2 rfl rfl c_3 d_M_comes_26 (fun H locs hP hD hS => ?_)
  obtain ⟨ca_4, eca_4, hf⟩ := lt1_s hf
  have hP : va_P (dC, dI) clAll (wM h cI cB cZ th nb dk lk fa pp gg jj qq mp fx tn (mn + ((1 : Int32))) oq_2 pq fo ca_4 hr fd) H := eca_4 ▸ hP
  have hD : va_D A (wM h cI cB cZ th nb dk lk fa pp gg jj qq mp fx tn (mn + ((1 : Int32))) oq_2 pq fo ca_4 hr fd) := eca_4 ▸ hD
  refine lv_aload_n hx hb d_M_comes_27 rfl (lv_at hl 0 rfl) ?_
  refine va_get (D := (dC, dI)) (ci := 5) (v := .ref (h 6)) (C := R_M) (T := T_M) (N := 19) hx hb htb in_M hown hK hP 0 rfl rfl 14 (by decide) (htb _ tw_780) (fun _ h9 => h9) rfl d_M_comes_28 ?_
  refine lv_iload_n hx hb d_M_comes_31 rfl (lv_at hl 1 rfl) ?_
  refine lv_iload_n hx hb d_M_comes_32 rfl (lv_at hl 2 rfl) ?_
  obtain ⟨c_5, hf⟩ := gd_s hf
  refine va_iast (i := a1) (x := a2) hx hb hK hP hD hS 6 0 rfl rfl c_5 d_M_comes_33 (fun H locs hP hD hS => ?_)
  obtain ⟨pq_6, epq_6, hf⟩ := lt1_s hf
  have hP : va_P (dC, dI) clAll (wM h cI cB cZ th nb dk lk fa pp gg jj qq mp fx tn (mn + ((1 : Int32))) oq_2 pq_6 fo ca_4 hr fd) H := epq_6 ▸ hP
  have hD : va_D A (wM h cI cB cZ th nb dk lk fa pp gg jj qq mp fx tn (mn + ((1 : Int32))) oq_2 pq_6 fo ca_4 hr fd) := epq_6 ▸ hD
  refine lv_aload_n hx hb d_M_comes_34 rfl (lv_at hl 0 rfl) ?_
  refine va_get (D := (dC, dI)) (ci := 5) (v := .ref (h 7)) (C := R_M) (T := T_M) (N := 19) hx hb htb in_M hown hK hP 0 rfl rfl 15 (by decide) (htb _ tw_781) (fun _ h9 => h9) rfl d_M_comes_35 ?_
  refine lv_iload_n hx hb d_M_comes_38 rfl (lv_at hl 1 rfl) ?_
  refine lv_iconst (v := 0) hx hb d_M_comes_39 (by decide) ?_
  obtain ⟨c_7, hf⟩ := gd_s hf
  refine va_iast (i := a1) (x := (0 : Int32)) hx hb hK hP hD hS 7 0 rfl rfl c_7 d_M_comes_40 (fun H locs hP hD hS => ?_)
  obtain ⟨fo_8, efo_8, hf⟩ := lt1_s hf
  have hP : va_P (dC, dI) clAll (wM h cI cB cZ th nb dk lk fa pp gg jj qq mp fx tn (mn + ((1 : Int32))) oq_2 pq_6 fo_8 ca_4 hr fd) H := efo_8 ▸ hP
  have hD : va_D A (wM h cI cB cZ th nb dk lk fa pp gg jj qq mp fx tn (mn + ((1 : Int32))) oq_2 pq_6 fo_8 ca_4 hr fd) := efo_8 ▸ hD
  refine lv_iload_n hx hb d_M_comes_41 rfl (lv_at hl 1 rfl) ?_
  refine lv_iconst (v := 2) hx hb d_M_comes_42 (by decide) ?_
  refine lv_icmp_eq (tgt := 67) hx hb d_M_comes_43 (by decide) (fun c_9 => ?_) (fun c_9 => ?_)
  · have hf := ite_t c_9 hf
    cases hf
    exact hret _ _ _ _ hP hD hS d_M_comes_67
  · have hf := ite_f c_9 hf
    refine lv_aload_n hx hb d_M_comes_46 rfl (lv_at hl 0 rfl) ?_
    refine lv_iload_n hx hb d_M_comes_47 rfl (lv_at hl 1 rfl) ?_
    obtain ⟨r_10, hc_11, hf⟩ := bd1_s hf
    refine ucVi (As := [.int a1]) (rest := []) ⟨hx, hb, hml, hown, htb⟩ hK hP hD hS hA (fun hs => c_M_typeOf hc_11) (cwV 1 htb (gV tw_923 tw_925 tw_46 tw_74 tw_926) rfl rfl rfl (by decide +kernel) ⟨Nat.le_of_ble_eq_true rfl, Nat.le_of_ble_eq_true rfl⟩) 0 5 rfl rfl rfl rfl rfl hl.1 (Nat.le_of_ble_eq_true rfl) d_M_comes_48 ⟨Nat.zero_le _, Nat.zero_le _⟩ (fun H locs hP hD hS => ?_)
    refine lv_sipush (v := 16384) hx hb d_M_comes_51 (by decide) ?_
    refine lv_icmp_ne (tgt := 67) hx hb d_M_comes_54 (by decide) (fun c_12 => ?_) (fun c_12 => ?_)
    · have hf := ite_f c_12 hf
      cases hf
      exact hret _ _ _ _ hP hD hS d_M_comes_67
    · have hf := ite_t c_12 hf
      refine lv_aload_n hx hb d_M_comes_57 rfl (lv_at hl 0 rfl) ?_
      refine va_get (D := (dC, dI)) (ci := 5) (v := .ref (h 7)) (C := R_M) (T := T_M) (N := 19) hx hb htb in_M hown hK hP 0 rfl rfl 15 (by decide) (htb _ tw_781) (fun _ h9 => h9) rfl d_M_comes_58 ?_
      refine lv_iload_n hx hb d_M_comes_61 rfl (lv_at hl 2 rfl) ?_
      refine lv_dup2_11 hx hb d_M_comes_62 rfl rfl ?_
      obtain ⟨c_13, hf⟩ := gd_s hf
      refine va_iald (i := a2) hx hb hK hP 7 0 rfl rfl c_13 d_M_comes_63 ?_
      refine lv_iconst (v := 1) hx hb d_M_comes_64 (by decide) ?_
      refine lv_iadd hx hb d_M_comes_65 ?_
      obtain ⟨c_14, hf⟩ := gd_s hf
      refine va_iast (i := a2) (x := (fo_8 (Int32.toNatClampNeg a2)) + ((1 : Int32))) hx hb hK hP hD hS 7 0 rfl rfl c_14 d_M_comes_66 (fun H locs hP hD hS => ?_)
      obtain ⟨fo_15, efo_15, hf⟩ := lt1_s hf
      have hP : va_P (dC, dI) clAll (wM h cI cB cZ th nb dk lk fa pp gg jj qq mp fx tn (mn + ((1 : Int32))) oq_2 pq_6 fo_15 ca_4 hr fd) H := efo_15 ▸ hP
      have hD : va_D A (wM h cI cB cZ th nb dk lk fa pp gg jj qq mp fx tn (mn + ((1 : Int32))) oq_2 pq_6 fo_15 ca_4 hr fd) := efo_15 ▸ hD
      cases hf
      exact hret _ _ _ _ hP hD hS d_M_comes_67
set_option maxHeartbeats 4000000 in
set_option maxRecDepth 100000 in
theorem c_M_tree {l : Launch} {dC : Nat → ClassId} {dI : Nat → Nat → Nat} {N : Nat} {h : Nat → Nat} {cI : ClassId} {cB : ClassId} {cZ : ClassId} {th : Int32} {nb : Int32} {dk : Nat → Int32} {lk : Int32} {fa : Int32} {pp : Int32} {gg : Int32} {jj : Int32} {qq : Int32} {mp : Nat → Int32} {fx : Nat → Int32} {tn : Nat → Int32} {mn : Int32} {oq : Nat → Int32} {pq : Nat → Int32} {fo : Nat → Int32} {ca : Nat → Int32} {hr : Int32} {fd : Int32} {hs : Nat} {r : Int32} {tn' : Nat → Int32} {mn' : Int32} {oq' : Nat → Int32} {pq' : Nat → Int32} {fo' : Nat → Int32} {ca' : Nat → Int32} {fd' : Int32} (hf : f_M_tree N nb dk gg qq mp fx tn mn oq pq fo ca fd = some (r, tn', mn', oq', pq', fo', ca', fd')) : Met l y_M_tree ws_M_tree { frames := 6, cells := 0, slots := 0, locals := 135 } (PcU (dC, dI) clAll [(cI, .int), (cB, .byte), (cZ, .boolean)] (wM h cI cB cZ th nb dk lk fa pp gg jj qq mp fx tn mn oq pq fo ca hr fd) hs [.ref (h 0)]) (QUi (dC, dI) clAll [(cI, .int), (cB, .byte), (cZ, .boolean)] (wM h cI cB cZ th nb dk lk fa pp gg jj qq mp fx tn mn oq pq fo ca hr fd) (wM h cI cB cZ th nb dk lk fa pp gg jj qq mp fx tn' mn' oq' pq' fo' ca' hr fd') hs r) 0 0 (va_A (wM h cI cB cZ th nb dk lk fa pp gg jj qq mp fx tn mn oq pq fo ca hr fd) hs) := by
  refine mUi (cc := b_M_tree) (maxL := 5) (by decide) rfl (Nat.le_of_ble_eq_true rfl) ?_
  intro p e s m args below meth c Q hx hb hml hts hown A hA hK hP hD hS hret ls hl
  have htb : ∀ w ∈ TB, w.before args s = true := fun w h => hts w (List.mem_cons_of_mem _ h)
  have hl : lv_has ls 5 [(0, .ref (h 0))] := hl
  have hj_64 : ∀ (k_64 : Nat) (tn : Nat → Int32) (mn : Int32) (oq : Nat → Int32) (pq : Nat → Int32) (fo : Nat → Int32) (ca : Nat → Int32) (fd : Int32) (x1 : Int32) (H : Heap) (locs : List Loc) (ls : Array Slot), f_M_tree_64 N nb dk gg qq mp fx k_64 tn mn oq pq fo ca fd x1 = some (r, tn', mn', oq', pq', fo', ca', fd') → va_P (dC, dI) clAll (wM h cI cB cZ th nb dk lk fa pp gg jj qq mp fx tn mn oq pq fo ca hr fd) H → va_D A (wM h cI cB cZ th nb dk lk fa pp gg jj qq mp fx tn mn oq pq fo ca hr fd) → va_S A s.heap H locs → lv_has ls 5 [(0, .ref (h 0)), (1, .int x1)] → W p l e (headSpec ws_M_tree { frames := 6, cells := 0, slots := 0, locals := 135 }).room s m args below meth c H locs 0 0 Q (F0 m 64 ls []) := by
    intro k_64
    induction k_64 with
    | zero => intro _ _ _ _ _ _ _ _ _ _ _ hf; exact absurd hf (by simp [f_M_tree_64])
    | succ k_64 ih_64 =>
      have hj_105 : ∀ (k_105 : Nat) (tn : Nat → Int32) (mn : Int32) (oq : Nat → Int32) (pq : Nat → Int32) (fo : Nat → Int32) (ca : Nat → Int32) (fd : Int32) (x1 : Int32) (x2 : Int32) (x3 : Int32) (H : Heap) (locs : List Loc) (ls : Array Slot), f_M_tree_105 N nb dk gg qq mp fx (f_M_tree_64 N nb dk gg qq mp fx k_64) k_105 tn mn oq pq fo ca fd x1 x2 x3 = some (r, tn', mn', oq', pq', fo', ca', fd') → va_P (dC, dI) clAll (wM h cI cB cZ th nb dk lk fa pp gg jj qq mp fx tn mn oq pq fo ca hr fd) H → va_D A (wM h cI cB cZ th nb dk lk fa pp gg jj qq mp fx tn mn oq pq fo ca hr fd) → va_S A s.heap H locs → lv_has ls 5 [(0, .ref (h 0)), (1, .int x1), (2, .int x2), (3, .int x3)] → W p l e (headSpec ws_M_tree { frames := 6, cells := 0, slots := 0, locals := 135 }).room s m args below meth c H locs 0 0 Q (F0 m 105 ls []) := by
        intro k_105
        induction k_105 with
        | zero => intro _ _ _ _ _ _ _ _ _ _ _ _ _ hf; exact absurd hf (by simp [f_M_tree_105])
        | succ k_105 ih_105 =>
          intro tn mn oq pq fo ca fd x1 x2 x3 H locs ls hf hP hD hS hl
          rw [f_M_tree_105] at hf
          refine lv_aload_n hx hb d_M_tree_105 rfl (lv_at hl 0 rfl) ?_
          refine lv_iload_n hx hb d_M_tree_106 rfl (lv_at hl 2 rfl) ?_
          refine lv_iload_n hx hb d_M_tree_107 rfl (lv_at hl 3 rfl) ?_
          obtain ⟨r_1, fd_2, hc_3, hf⟩ := bd2_s hf
          refine ucVi (As := [.int x2, .int x3]) (rest := []) ⟨hx, hb, hml, hown, htb⟩ hK hP hD hS hA (fun hs => c_M_finds hc_3) (cwV 2 htb (gV tw_980 tw_982 tw_59 tw_74 tw_983) rfl rfl rfl (by decide +kernel) ⟨Nat.le_of_ble_eq_true rfl, Nat.le_of_ble_eq_true rfl⟩) 0 5 rfl rfl rfl rfl rfl hl.1 (Nat.le_of_ble_eq_true rfl) d_M_tree_108 ⟨Nat.zero_le _, Nat.zero_le _⟩ (fun H locs hP hD hS => ?_)
          refine lv_if_eq (tgt := 159) hx hb d_M_tree_111 (by decide) (fun c_4 => ?_) (fun c_4 => ?_)
          · have hf := ite_t c_4 hf
            obtain ⟨v1_5, ev1_5, hf⟩ := lt1_s hf
            refine lv_iinc (v := v1_5) (lv' := [(1, .int v1_5), (0, .ref (h 0)), (2, .int x2), (3, .int x3)]) hx hb d_M_tree_159 hl (k := 1) rfl (by rw [← ev1_5]; rfl) (by decide) rfl (fun ls hl => ?_)
            refine lv_goto (tgt := 64) hx hb d_M_tree_162 (by decide) ?_
            exact ih_64 tn mn oq pq fo ca fd_2 v1_5 _ _ _ hf hP hD hS (lv_sub hl [1, 0] rfl)
          · have hf := ite_f c_4 hf
            refine lv_aload_n hx hb d_M_tree_114 rfl (lv_at hl 0 rfl) ?_
            refine lv_aload_n hx hb d_M_tree_115 rfl (lv_at hl 0 rfl) ?_
            refine va_get (D := (dC, dI)) (ci := 5) (v := .int fd_2) (C := R_M) (T := T_M) (N := 19) hx hb htb in_M hown hK hP 0 rfl rfl 18 (by decide) (htb _ tw_784) (fun _ h9 => h9) rfl d_M_tree_116 ?_
            obtain ⟨r_6, hc_7, hf⟩ := bd1_s hf
            refine ucVl (As := [.int fd_2]) (rest := []) ⟨hx, hb, hml, hown, htb⟩ hK hP hD hS hA (fun hs => c_M_four hc_7) (cwV 1 htb (gV tw_874 tw_876 tw_36 tw_74 tw_877) rfl rfl rfl (by decide +kernel) ⟨Nat.le_of_ble_eq_true rfl, Nat.le_of_ble_eq_true rfl⟩) 0 5 rfl rfl rfl rfl rfl hl.1 (Nat.le_of_ble_eq_true rfl) d_M_tree_119 ⟨Nat.zero_le _, Nat.zero_le _⟩ (fun H locs hP hD hS => ?_)
            refine lv_l2i hx hb d_M_tree_122 rfl ?_
            obtain ⟨v4_8, ev4_8, hf⟩ := lt1_s hf
            refine lv_eqi ev4_8 ?_
            refine lv_istore (lv' := [(4, .int v4_8), (0, .ref (h 0)), (1, .int x1), (2, .int x2), (3, .int x3)]) hx hb d_M_tree_123 hl (by decide) rfl (fun ls hl => ?_)
            refine lv_aload_n hx hb d_M_tree_125 rfl (lv_at hl 1 rfl) ?_
            refine va_get (D := (dC, dI)) (ci := 5) (v := .ref (h 8)) (C := R_M) (T := T_M) (N := 19) hx hb htb in_M hown hK hP 0 rfl rfl 16 (by decide) (htb _ tw_782) (fun _ h9 => h9) rfl d_M_tree_126 ?_
            refine lv_iload hx hb d_M_tree_129 (lv_at hl 0 rfl) ?_
            obtain ⟨c_9, hf⟩ := gd_s hf
            refine va_zald (i := v4_8) hx hb hK hP 8 2 rfl rfl c_9 d_M_tree_131 ?_
            refine lv_if_ne (tgt := 144) hx hb d_M_tree_132 (by decide) (fun c_10 => ?_) (fun c_10 => ?_)
            · have hf := ite_f c_10 hf
              refine lv_iconst (v := 4) hx hb d_M_tree_144 (by decide) ?_
              cases hf
              exact hret _ _ _ _ hP hD hS d_M_tree_145
            · have hf := ite_t c_10 hf
              refine lv_aload_n hx hb d_M_tree_135 rfl (lv_at hl 1 rfl) ?_
              refine lv_iload hx hb d_M_tree_136 (lv_at hl 0 rfl) ?_
              obtain ⟨r_11, tn_12, hc_13, hf⟩ := bd2_s hf
              refine ucVi (As := [.int v4_8]) (rest := []) ⟨hx, hb, hml, hown, htb⟩ hK hP hD hS hA (fun hs => c_M_isWhole hc_13) (cwV 1 htb (gV tw_932 tw_934 tw_48 tw_74 tw_935) rfl rfl rfl (by decide +kernel) ⟨Nat.le_of_ble_eq_true rfl, Nat.le_of_ble_eq_true rfl⟩) 0 5 rfl rfl rfl rfl rfl hl.1 (Nat.le_of_ble_eq_true rfl) d_M_tree_138 ⟨Nat.zero_le _, Nat.zero_le _⟩ (fun H locs hP hD hS => ?_)
              refine lv_if_ne (tgt := 146) hx hb d_M_tree_141 (by decide) (fun c_14 => ?_) (fun c_14 => ?_)
              · have hf := ite_f c_14 hf
                refine lv_aload_n hx hb d_M_tree_146 rfl (lv_at hl 1 rfl) ?_
                refine lv_iload hx hb d_M_tree_147 (lv_at hl 0 rfl) ?_
                refine lv_iload_n hx hb d_M_tree_149 rfl (lv_at hl 3 rfl) ?_
                obtain ⟨mn_15, oq_16, pq_17, fo_18, ca_19, hc_20, hf⟩ := bd5_s hf
                refine ucVv (As := [.int v4_8, .int x2]) (rest := []) ⟨hx, hb, hml, hown, htb⟩ hK hP hD hS hA (fun hs => c_M_comes hc_20) (cwV 2 htb (gV tw_955 tw_957 tw_53 tw_74 tw_958) rfl rfl rfl (by decide +kernel) ⟨Nat.le_of_ble_eq_true rfl, Nat.le_of_ble_eq_true rfl⟩) 0 5 rfl rfl rfl rfl rfl hl.1 (Nat.le_of_ble_eq_true rfl) d_M_tree_150 ⟨Nat.zero_le _, Nat.zero_le _⟩ (fun H locs hP hD hS => ?_)
                obtain ⟨v3_21, ev3_21, hf⟩ := lt1_s hf
                refine lv_iinc (v := v3_21) (lv' := [(3, .int v3_21), (4, .int v4_8), (0, .ref (h 0)), (1, .int x1), (2, .int x2)]) hx hb d_M_tree_153 hl (k := 4) rfl (by rw [← ev3_21]; rfl) (by decide) rfl (fun ls hl => ?_)
                refine lv_goto (tgt := 105) hx hb d_M_tree_156 (by decide) ?_
                exact ih_105 tn_12 mn_15 oq_16 pq_17 fo_18 ca_19 fd_2 x1 x2 v3_21 _ _ _ hf hP hD hS (lv_sub hl [2, 3, 4, 0] rfl)
              · have hf := ite_t c_14 hf
                refine lv_iconst (v := 4) hx hb d_M_tree_144 (by decide) ?_
                cases hf
                exact hret _ _ _ _ hP hD hS d_M_tree_145
      intro tn mn oq pq fo ca fd x1 H locs ls hf hP hD hS hl
      rw [f_M_tree_64] at hf
      refine lv_iload_n hx hb d_M_tree_64 rfl (lv_at hl 1 rfl) ?_
      refine lv_aload_n hx hb d_M_tree_65 rfl (lv_at hl 0 rfl) ?_
      refine va_get (D := (dC, dI)) (ci := 5) (v := .int mn) (C := R_M) (T := T_M) (N := 19) hx hb htb in_M hown hK hP 0 rfl rfl 12 (by decide) (htb _ tw_778) (fun _ h9 => h9) rfl d_M_tree_66 ?_
      refine lv_icmp_ge (tgt := 165) hx hb d_M_tree_69 (by decide) (fun c_1 => ?_) (fun c_1 => ?_)
      · have hf := ite_t c_1 hf
        refine lv_iconst (v := 0) hx hb d_M_tree_165 (by decide) ?_
        cases hf
        exact hret _ _ _ _ hP hD hS d_M_tree_166
      · have hf := ite_f c_1 hf
        refine lv_aload_n hx hb d_M_tree_72 rfl (lv_at hl 0 rfl) ?_
        refine va_get (D := (dC, dI)) (ci := 5) (v := .ref (h 5)) (C := R_M) (T := T_M) (N := 19) hx hb htb in_M hown hK hP 0 rfl rfl 13 (by decide) (htb _ tw_779) (fun _ h9 => h9) rfl d_M_tree_73 ?_
        refine lv_iload_n hx hb d_M_tree_76 rfl (lv_at hl 1 rfl) ?_
        obtain ⟨c_2, hf⟩ := gd_s hf
        refine va_iald (i := x1) hx hb hK hP 5 0 rfl rfl c_2 d_M_tree_77 ?_
        obtain ⟨v2_3, ev2_3, hf⟩ := lt1_s hf
        refine lv_eqi ev2_3 ?_
        refine lv_istore_n (lv' := [(2, .int v2_3), (0, .ref (h 0)), (1, .int x1)]) hx hb d_M_tree_78 rfl hl (by decide) rfl (fun ls hl => ?_)
        refine lv_aload_n hx hb d_M_tree_79 rfl (lv_at hl 1 rfl) ?_
        refine lv_iload_n hx hb d_M_tree_80 rfl (lv_at hl 0 rfl) ?_
        obtain ⟨r_4, hc_5, hf⟩ := bd1_s hf
        refine ucVi (As := [.int v2_3]) (rest := []) ⟨hx, hb, hml, hown, htb⟩ hK hP hD hS hA (fun hs => c_M_typeOf hc_5) (cwV 1 htb (gV tw_923 tw_925 tw_46 tw_74 tw_926) rfl rfl rfl (by decide +kernel) ⟨Nat.le_of_ble_eq_true rfl, Nat.le_of_ble_eq_true rfl⟩) 0 5 rfl rfl rfl rfl rfl hl.1 (Nat.le_of_ble_eq_true rfl) d_M_tree_81 ⟨Nat.zero_le _, Nat.zero_le _⟩ (fun H locs hP hD hS => ?_)
        refine lv_sipush (v := 16384) hx hb d_M_tree_84 (by decide) ?_
        refine lv_icmp_eq (tgt := 93) hx hb d_M_tree_87 (by decide) (fun c_6 => ?_) (fun c_6 => ?_)
        · have hf := ite_t c_6 hf
          refine lv_aload_n hx hb d_M_tree_93 rfl (lv_at hl 1 rfl) ?_
          refine lv_iload_n hx hb d_M_tree_94 rfl (lv_at hl 0 rfl) ?_
          obtain ⟨r_7, hc_8, hf⟩ := bd1_s hf
          refine ucVi (As := [.int v2_3]) (rest := []) ⟨hx, hb, hml, hown, htb⟩ hK hP hD hS hA (fun hs => c_M_badEntries hc_8) (cwV 1 htb (gV tw_959 tw_961 tw_54 tw_74 tw_962) rfl rfl rfl (by decide +kernel) ⟨Nat.le_of_ble_eq_true rfl, Nat.le_of_ble_eq_true rfl⟩) 0 5 rfl rfl rfl rfl rfl hl.1 (Nat.le_of_ble_eq_true rfl) d_M_tree_95 ⟨Nat.zero_le _, Nat.zero_le _⟩ (fun H locs hP hD hS => ?_)
          refine lv_if_eq (tgt := 103) hx hb d_M_tree_98 (by decide) (fun c_9 => ?_) (fun c_9 => ?_)
          · have hf := ite_t c_9 hf
            refine lv_iconst (v := 0) hx hb d_M_tree_103 (by decide) ?_
            refine lv_istore_n (lv' := [(3, .int ((0 : Int32))), (2, .int v2_3), (0, .ref (h 0)), (1, .int x1)]) hx hb d_M_tree_104 rfl hl (by decide) rfl (fun ls hl => ?_)
            exact hj_105 N tn mn oq pq fo ca fd x1 v2_3 ((0 : Int32)) _ _ _ hf hP hD hS (lv_sub hl [2, 3, 1, 0] rfl)
          · have hf := ite_f c_9 hf
            refine lv_iconst (v := 5) hx hb d_M_tree_101 (by decide) ?_
            cases hf
            exact hret _ _ _ _ hP hD hS d_M_tree_102
        · have hf := ite_f c_6 hf
          refine lv_goto (tgt := 159) hx hb d_M_tree_90 (by decide) ?_
          obtain ⟨v1_10, ev1_10, hf⟩ := lt1_s hf
          refine lv_iinc (v := v1_10) (lv' := [(1, .int v1_10), (2, .int v2_3), (0, .ref (h 0))]) hx hb d_M_tree_159 hl (k := 2) rfl (by rw [← ev1_10]; rfl) (by decide) rfl (fun ls hl => ?_)
          refine lv_goto (tgt := 64) hx hb d_M_tree_162 (by decide) ?_
          exact ih_64 tn mn oq pq fo ca fd v1_10 _ _ _ hf hP hD hS (lv_sub hl [2, 0] rfl)
  have hj_7 : ∀ (k_7 : Nat) (tn : Nat → Int32) (mn : Int32) (oq : Nat → Int32) (pq : Nat → Int32) (fo : Nat → Int32) (ca : Nat → Int32) (fd : Int32) (x1 : Int32) (H : Heap) (locs : List Loc) (ls : Array Slot), f_M_tree_7 N nb dk gg qq mp fx k_7 tn mn oq pq fo ca fd x1 = some (r, tn', mn', oq', pq', fo', ca', fd') → va_P (dC, dI) clAll (wM h cI cB cZ th nb dk lk fa pp gg jj qq mp fx tn mn oq pq fo ca hr fd) H → va_D A (wM h cI cB cZ th nb dk lk fa pp gg jj qq mp fx tn mn oq pq fo ca hr fd) → va_S A s.heap H locs → lv_has ls 5 [(0, .ref (h 0)), (1, .int x1)] → W p l e (headSpec ws_M_tree { frames := 6, cells := 0, slots := 0, locals := 135 }).room s m args below meth c H locs 0 0 Q (F0 m 7 ls []) := by
    intro k_7
    induction k_7 with
    | zero => intro _ _ _ _ _ _ _ _ _ _ _ hf; exact absurd hf (by simp [f_M_tree_7])
    | succ k_7 ih_7 =>
      intro tn mn oq pq fo ca fd x1 H locs ls hf hP hD hS hl
      rw [f_M_tree_7] at hf
      refine lv_iload_n hx hb d_M_tree_7 rfl (lv_at hl 1 rfl) ?_
      refine lv_sipush (v := 4200) hx hb d_M_tree_8 (by decide) ?_
      refine lv_icmp_ge (tgt := 27) hx hb d_M_tree_11 (by decide) (fun c_1 => ?_) (fun c_1 => ?_)
      · have hf := ite_t c_1 hf
        refine lv_aload_n hx hb d_M_tree_27 rfl (lv_at hl 0 rfl) ?_
        refine lv_iconst (v := 2) hx hb d_M_tree_28 (by decide) ?_
        obtain ⟨r_2, hc_3, hf⟩ := bd1_s hf
        refine ucVi (As := [.int ((2 : Int32))]) (rest := []) ⟨hx, hb, hml, hown, htb⟩ hK hP hD hS hA (fun hs => c_M_isUsed hc_3) (cwV 1 htb (gV tw_915 tw_917 tw_44 tw_74 tw_918) rfl rfl rfl (by decide +kernel) ⟨Nat.le_of_ble_eq_true rfl, Nat.le_of_ble_eq_true rfl⟩) 0 5 rfl rfl rfl rfl rfl hl.1 (Nat.le_of_ble_eq_true rfl) d_M_tree_29 ⟨Nat.zero_le _, Nat.zero_le _⟩ (fun H locs hP hD hS => ?_)
        refine lv_if_eq (tgt := 54) hx hb d_M_tree_32 (by decide) (fun c_4 => ?_) (fun c_4 => ?_)
        · have hf := ite_t c_4 hf
          refine lv_iconst (v := 4) hx hb d_M_tree_54 (by decide) ?_
          cases hf
          exact hret _ _ _ _ hP hD hS d_M_tree_55
        · have hf := ite_f c_4 hf
          refine lv_aload_n hx hb d_M_tree_35 rfl (lv_at hl 0 rfl) ?_
          refine lv_iconst (v := 2) hx hb d_M_tree_36 (by decide) ?_
          obtain ⟨r_5, hc_6, hf⟩ := bd1_s hf
          refine ucVi (As := [.int ((2 : Int32))]) (rest := []) ⟨hx, hb, hml, hown, htb⟩ hK hP hD hS hA (fun hs => c_M_typeOf hc_6) (cwV 1 htb (gV tw_923 tw_925 tw_46 tw_74 tw_926) rfl rfl rfl (by decide +kernel) ⟨Nat.le_of_ble_eq_true rfl, Nat.le_of_ble_eq_true rfl⟩) 0 5 rfl rfl rfl rfl rfl hl.1 (Nat.le_of_ble_eq_true rfl) d_M_tree_37 ⟨Nat.zero_le _, Nat.zero_le _⟩ (fun H locs hP hD hS => ?_)
          refine lv_sipush (v := 16384) hx hb d_M_tree_40 (by decide) ?_
          refine lv_icmp_ne (tgt := 54) hx hb d_M_tree_43 (by decide) (fun c_7 => ?_) (fun c_7 => ?_)
          · have hf := ite_f c_7 hf
            refine lv_iconst (v := 4) hx hb d_M_tree_54 (by decide) ?_
            cases hf
            exact hret _ _ _ _ hP hD hS d_M_tree_55
          · have hf := ite_t c_7 hf
            refine lv_aload_n hx hb d_M_tree_46 rfl (lv_at hl 0 rfl) ?_
            refine lv_iconst (v := 2) hx hb d_M_tree_47 (by decide) ?_
            obtain ⟨r_8, tn_9, hc_10, hf⟩ := bd2_s hf
            refine ucVi (As := [.int ((2 : Int32))]) (rest := []) ⟨hx, hb, hml, hown, htb⟩ hK hP hD hS hA (fun hs => c_M_isWhole hc_10) (cwV 1 htb (gV tw_932 tw_934 tw_48 tw_74 tw_935) rfl rfl rfl (by decide +kernel) ⟨Nat.le_of_ble_eq_true rfl, Nat.le_of_ble_eq_true rfl⟩) 0 5 rfl rfl rfl rfl rfl hl.1 (Nat.le_of_ble_eq_true rfl) d_M_tree_48 ⟨Nat.zero_le _, Nat.zero_le _⟩ (fun H locs hP hD hS => ?_)
            refine lv_if_ne (tgt := 56) hx hb d_M_tree_51 (by decide) (fun c_11 => ?_) (fun c_11 => ?_)
            · have hf := ite_f c_11 hf
              refine lv_aload_n hx hb d_M_tree_56 rfl (lv_at hl 0 rfl) ?_
              refine lv_iconst (v := 2) hx hb d_M_tree_57 (by decide) ?_
              refine lv_iconst (v := 2) hx hb d_M_tree_58 (by decide) ?_
              obtain ⟨mn_12, oq_13, pq_14, fo_15, ca_16, hc_17, hf⟩ := bd5_s hf
              refine ucVv (As := [.int ((2 : Int32)), .int ((2 : Int32))]) (rest := []) ⟨hx, hb, hml, hown, htb⟩ hK hP hD hS hA (fun hs => c_M_comes hc_17) (cwV 2 htb (gV tw_955 tw_957 tw_53 tw_74 tw_958) rfl rfl rfl (by decide +kernel) ⟨Nat.le_of_ble_eq_true rfl, Nat.le_of_ble_eq_true rfl⟩) 0 5 rfl rfl rfl rfl rfl hl.1 (Nat.le_of_ble_eq_true rfl) d_M_tree_59 ⟨Nat.zero_le _, Nat.zero_le _⟩ (fun H locs hP hD hS => ?_)
              refine lv_iconst (v := 0) hx hb d_M_tree_62 (by decide) ?_
              refine lv_istore_n (lv' := [(1, .int ((0 : Int32))), (0, .ref (h 0))]) hx hb d_M_tree_63 rfl hl (by decide) rfl (fun ls hl => ?_)
              exact hj_64 N tn_9 mn_12 oq_13 pq_14 fo_15 ca_16 fd ((0 : Int32)) _ _ _ hf hP hD hS (lv_sub hl [1, 0] rfl)
            · have hf := ite_t c_11 hf
              refine lv_iconst (v := 4) hx hb d_M_tree_54 (by decide) ?_
              cases hf
              exact hret _ _ _ _ hP hD hS d_M_tree_55
      · have hf := ite_f c_1 hf
        refine lv_aload_n hx hb d_M_tree_14 rfl (lv_at hl 0 rfl) ?_
        refine va_get (D := (dC, dI)) (ci := 5) (v := .ref (h 8)) (C := R_M) (T := T_M) (N := 19) hx hb htb in_M hown hK hP 0 rfl rfl 16 (by decide) (htb _ tw_782) (fun _ h9 => h9) rfl d_M_tree_15 ?_
        refine lv_iload_n hx hb d_M_tree_18 rfl (lv_at hl 1 rfl) ?_
        refine lv_iconst (v := 0) hx hb d_M_tree_19 (by decide) ?_
        obtain ⟨c_18, hf⟩ := gd_s hf
        refine va_zast (i := x1) (x := (0 : Int32)) hx hb hK hP hD hS 8 2 rfl rfl c_18 d_M_tree_20 (fun H locs hP hD hS => ?_)
        obtain ⟨ca_19, eca_19, hf⟩ := lt1_s hf
        have hP : va_P (dC, dI) clAll (wM h cI cB cZ th nb dk lk fa pp gg jj qq mp fx tn mn oq pq fo ca_19 hr fd) H := eca_19 ▸ hP
        have hD : va_D A (wM h cI cB cZ th nb dk lk fa pp gg jj qq mp fx tn mn oq pq fo ca_19 hr fd) := eca_19 ▸ hD
        obtain ⟨v1_20, ev1_20, hf⟩ := lt1_s hf
        refine lv_iinc (v := v1_20) (lv' := [(1, .int v1_20), (0, .ref (h 0))]) hx hb d_M_tree_21 hl (k := 1) rfl (by rw [← ev1_20]; rfl) (by decide) rfl (fun ls hl => ?_)
        refine lv_goto (tgt := 7) hx hb d_M_tree_24 (by decide) ?_
        exact ih_7 tn mn oq pq fo ca_19 fd v1_20 _ _ _ hf hP hD hS (lv_sub hl [1, 0] rfl)
  unfold f_M_tree at hf
  refine lv_aload_n hx hb d_M_tree_0 rfl (lv_at hl 0 rfl) ?_
  refine lv_iconst (v := 0) hx hb d_M_tree_1 (by decide) ?_
  refine va_put (D := (dC, dI)) (ci := 5) (v := .int ((0 : Int32))) (ty := .int) (C := R_M) (T := T_M) (N := 19) hx hb htb in_M ty_M tyok_M nm_M hown hK hP hD hS 0 rfl rfl 12 (by decide) (htb _ tw_778) (fun _ h9 => h9) rfl (by decide +kernel) rfl rfl (Nat.le_of_ble_eq_true rfl) d_M_tree_2 (fun H locs hP hD hS => ?_)
  have hP : va_P (dC, dI) clAll (wM h cI cB cZ th nb dk lk fa pp gg jj qq mp fx tn ((0 : Int32)) oq pq fo ca hr fd) H := hP
  have hD : va_D A (wM h cI cB cZ th nb dk lk fa pp gg jj qq mp fx tn ((0 : Int32)) oq pq fo ca hr fd) := hD
  refine lv_iconst (v := 0) hx hb d_M_tree_5 (by decide) ?_
  refine lv_istore_n (lv' := [(1, .int ((0 : Int32))), (0, .ref (h 0))]) hx hb d_M_tree_6 rfl hl (by decide) rfl (fun ls hl => ?_)
  exact hj_7 N tn ((0 : Int32)) oq pq fo ca fd ((0 : Int32)) _ _ _ hf hP hD hS (lv_sub hl [1, 0] rfl)
set_option maxHeartbeats 4000000 in
set_option maxRecDepth 100000 in
theorem c_M_badLinks {l : Launch} {dC : Nat → ClassId} {dI : Nat → Nat → Nat} {N : Nat} {h : Nat → Nat} {cI : ClassId} {cB : ClassId} {cZ : ClassId} {th : Int32} {nb : Int32} {dk : Nat → Int32} {lk : Int32} {fa : Int32} {pp : Int32} {gg : Int32} {jj : Int32} {qq : Int32} {mp : Nat → Int32} {fx : Nat → Int32} {tn : Nat → Int32} {mn : Int32} {oq : Nat → Int32} {pq : Nat → Int32} {fo : Nat → Int32} {ca : Nat → Int32} {hr : Int32} {fd : Int32} {hs : Nat} {r : Int32} (hf : f_M_badLinks N dk gg mp mn oq fo = some (r)) : Met l y_M_badLinks ws_M_badLinks { frames := 3, cells := 0, slots := 0, locals := 63 } (PcU (dC, dI) clAll [(cI, .int), (cB, .byte), (cZ, .boolean)] (wM h cI cB cZ th nb dk lk fa pp gg jj qq mp fx tn mn oq pq fo ca hr fd) hs [.ref (h 0)]) (QUi (dC, dI) clAll [(cI, .int), (cB, .byte), (cZ, .boolean)] (wM h cI cB cZ th nb dk lk fa pp gg jj qq mp fx tn mn oq pq fo ca hr fd) (wM h cI cB cZ th nb dk lk fa pp gg jj qq mp fx tn mn oq pq fo ca hr fd) hs r) 0 0 (va_A (wM h cI cB cZ th nb dk lk fa pp gg jj qq mp fx tn mn oq pq fo ca hr fd) hs) := by
  refine mUz (cc := b_M_badLinks) (maxL := 3) (by decide) rfl (Nat.le_of_ble_eq_true rfl) ?_
  intro p e s m args below meth c Q hx hb hml hts hown A hA hK hP hD hS hret ls hl
  have htb : ∀ w ∈ TB, w.before args s = true := fun w h => hts w (List.mem_cons_of_mem _ h)
  have hl : lv_has ls 3 [(0, .ref (h 0))] := hl
  have hj_2 : ∀ (k_2 : Nat) (x1 : Int32) (H : Heap) (locs : List Loc) (ls : Array Slot), f_M_badLinks_2 N dk gg mp mn oq fo k_2 x1 = some (r) → va_P (dC, dI) clAll (wM h cI cB cZ th nb dk lk fa pp gg jj qq mp fx tn mn oq pq fo ca hr fd) H → va_D A (wM h cI cB cZ th nb dk lk fa pp gg jj qq mp fx tn mn oq pq fo ca hr fd) → va_S A s.heap H locs → lv_has ls 3 [(0, .ref (h 0)), (1, .int x1)] → W p l e (headSpec ws_M_badLinks { frames := 3, cells := 0, slots := 0, locals := 63 }).room s m args below meth c H locs 0 0 Q (F0 m 2 ls []) := by
    intro k_2
    induction k_2 with
    | zero => intro _ _ _ _ hf; exact absurd hf (by simp [f_M_badLinks_2])
    | succ k_2 ih_2 =>
      have hj_52 : ∀ (x1 : Int32) (s0 : Int32) (s1 : Int32) (H : Heap) (locs : List Loc) (ls : Array Slot), f_M_badLinks_52 N dk gg mp mn oq fo (f_M_badLinks_2 N dk gg mp mn oq fo k_2) x1 s0 s1 = some (r) → va_P (dC, dI) clAll (wM h cI cB cZ th nb dk lk fa pp gg jj qq mp fx tn mn oq pq fo ca hr fd) H → va_D A (wM h cI cB cZ th nb dk lk fa pp gg jj qq mp fx tn mn oq pq fo ca hr fd) → va_S A s.heap H locs → lv_has ls 3 [(0, .ref (h 0)), (1, .int x1)] → W p l e (headSpec ws_M_badLinks { frames := 3, cells := 0, slots := 0, locals := 63 }).room s m args below meth c H locs 0 0 Q (F0 m 52 ls [.int s1, .int s0]) := by
        intro x1 s0 s1 H locs ls hf hP hD hS hl
        unfold f_M_badLinks_52 at hf
        refine lv_icmp_eq (tgt := 57) hx hb d_M_badLinks_52 (by decide) (fun c_1 => ?_) (fun c_1 => ?_)
        · have hf := ite_t c_1 hf
          obtain ⟨v1_2, ev1_2, hf⟩ := lt1_s hf
          refine lv_iinc (v := v1_2) (lv' := [(1, .int v1_2), (0, .ref (h 0))]) hx hb d_M_badLinks_57 hl (k := 1) rfl (by rw [← ev1_2]; rfl) (by decide) rfl (fun ls hl => ?_)
          refine lv_goto (tgt := 2) hx hb d_M_badLinks_60 (by decide) ?_
          exact ih_2 v1_2 _ _ _ hf hP hD hS (lv_sub hl [1, 0] rfl)
        · have hf := ite_f c_1 hf
          refine lv_iconst (v := 1) hx hb d_M_badLinks_55 (by decide) ?_
          cases hf
          exact hret _ _ _ _ (Or.inr rfl) hP hD hS d_M_badLinks_56
      intro x1 H locs ls hf hP hD hS hl
      rw [f_M_badLinks_2] at hf
      refine lv_iload_n hx hb d_M_badLinks_2 rfl (lv_at hl 1 rfl) ?_
      refine lv_aload_n hx hb d_M_badLinks_3 rfl (lv_at hl 0 rfl) ?_
      refine va_get (D := (dC, dI)) (ci := 5) (v := .int mn) (C := R_M) (T := T_M) (N := 19) hx hb htb in_M hown hK hP 0 rfl rfl 12 (by decide) (htb _ tw_778) (fun _ h9 => h9) rfl d_M_badLinks_4 ?_
      refine lv_icmp_ge (tgt := 63) hx hb d_M_badLinks_7 (by decide) (fun c_1 => ?_) (fun c_1 => ?_)
      · have hf := ite_t c_1 hf
        refine lv_iconst (v := 0) hx hb d_M_badLinks_63 (by decide) ?_
        cases hf
        exact hret _ _ _ _ (Or.inl rfl) hP hD hS d_M_badLinks_64
      · have hf := ite_f c_1 hf
        refine lv_aload_n hx hb d_M_badLinks_10 rfl (lv_at hl 0 rfl) ?_
        refine va_get (D := (dC, dI)) (ci := 5) (v := .ref (h 5)) (C := R_M) (T := T_M) (N := 19) hx hb htb in_M hown hK hP 0 rfl rfl 13 (by decide) (htb _ tw_779) (fun _ h9 => h9) rfl d_M_badLinks_11 ?_
        refine lv_iload_n hx hb d_M_badLinks_14 rfl (lv_at hl 1 rfl) ?_
        obtain ⟨c_2, hf⟩ := gd_s hf
        refine va_iald (i := x1) hx hb hK hP 5 0 rfl rfl c_2 d_M_badLinks_15 ?_
        obtain ⟨v2_3, ev2_3, hf⟩ := lt1_s hf
        refine lv_eqi ev2_3 ?_
        refine lv_istore_n (lv' := [(2, .int v2_3), (0, .ref (h 0)), (1, .int x1)]) hx hb d_M_badLinks_16 rfl hl (by decide) rfl (fun ls hl => ?_)
        refine lv_aload_n hx hb d_M_badLinks_17 rfl (lv_at hl 1 rfl) ?_
        refine lv_aload_n hx hb d_M_badLinks_18 rfl (lv_at hl 1 rfl) ?_
        refine lv_iload_n hx hb d_M_badLinks_19 rfl (lv_at hl 0 rfl) ?_
        obtain ⟨r_4, hc_5, hf⟩ := bd1_s hf
        refine ucVi (As := [.int v2_3]) (rest := [.ref (h 0)]) ⟨hx, hb, hml, hown, htb⟩ hK hP hD hS hA (fun hs => c_M_inodeAt hc_5) (cwV 1 htb (gV tw_927 tw_929 tw_47 tw_74 tw_930) rfl rfl rfl (by decide +kernel) ⟨Nat.le_of_ble_eq_true rfl, Nat.le_of_ble_eq_true rfl⟩) 0 5 rfl rfl rfl rfl rfl hl.1 (Nat.le_of_ble_eq_true rfl) d_M_badLinks_20 ⟨Nat.zero_le _, Nat.zero_le _⟩ (fun H locs hP hD hS => ?_)
        refine lv_bipush (v := 26) hx hb d_M_badLinks_23 (by decide) ?_
        refine lv_iadd hx hb d_M_badLinks_25 ?_
        obtain ⟨r_6, hc_7, hf⟩ := bd1_s hf
        refine ucVi (As := [.int (r_4 + ((26 : Int32)))]) (rest := []) ⟨hx, hb, hml, hown, htb⟩ hK hP hD hS hA (fun hs => c_M_two hc_7) (cwV 1 htb (gV tw_878 tw_880 tw_37 tw_74 tw_881) rfl rfl rfl (by decide +kernel) ⟨Nat.le_of_ble_eq_true rfl, Nat.le_of_ble_eq_true rfl⟩) 0 5 rfl rfl rfl rfl rfl hl.1 (Nat.le_of_ble_eq_true rfl) d_M_badLinks_26 ⟨Nat.zero_le _, Nat.zero_le _⟩ (fun H locs hP hD hS => ?_)
        refine lv_aload_n hx hb d_M_badLinks_29 rfl (lv_at hl 1 rfl) ?_
        refine lv_iload_n hx hb d_M_badLinks_30 rfl (lv_at hl 0 rfl) ?_
        obtain ⟨r_8, hc_9, hf⟩ := bd1_s hf
        refine ucVi (As := [.int v2_3]) (rest := [.int r_6]) ⟨hx, hb, hml, hown, htb⟩ hK hP hD hS hA (fun hs => c_M_typeOf hc_9) (cwV 1 htb (gV tw_923 tw_925 tw_46 tw_74 tw_926) rfl rfl rfl (by decide +kernel) ⟨Nat.le_of_ble_eq_true rfl, Nat.le_of_ble_eq_true rfl⟩) 0 5 rfl rfl rfl rfl rfl hl.1 (Nat.le_of_ble_eq_true rfl) d_M_badLinks_31 ⟨Nat.zero_le _, Nat.zero_le _⟩ (fun H locs hP hD hS => ?_)
        refine lv_sipush (v := 16384) hx hb d_M_badLinks_34 (by decide) ?_
        refine lv_icmp_ne (tgt := 51) hx hb d_M_badLinks_37 (by decide) (fun c_10 => ?_) (fun c_10 => ?_)
        · have hf := ite_f c_10 hf
          refine lv_iconst (v := 1) hx hb d_M_badLinks_51 (by decide) ?_
          exact hj_52 x1 r_6 ((1 : Int32)) _ _ _ hf hP hD hS (lv_sub hl [1, 2] rfl)
        · have hf := ite_t c_10 hf
          refine lv_iconst (v := 2) hx hb d_M_badLinks_40 (by decide) ?_
          refine lv_aload_n hx hb d_M_badLinks_41 rfl (lv_at hl 1 rfl) ?_
          refine va_get (D := (dC, dI)) (ci := 5) (v := .ref (h 7)) (C := R_M) (T := T_M) (N := 19) hx hb htb in_M hown hK hP 0 rfl rfl 15 (by decide) (htb _ tw_781) (fun _ h9 => h9) rfl d_M_badLinks_42 ?_
          refine lv_iload_n hx hb d_M_badLinks_45 rfl (lv_at hl 0 rfl) ?_
          obtain ⟨c_11, hf⟩ := gd_s hf
          refine va_iald (i := v2_3) hx hb hK hP 7 0 rfl rfl c_11 d_M_badLinks_46 ?_
          refine lv_iadd hx hb d_M_badLinks_47 ?_
          refine lv_goto (tgt := 52) hx hb d_M_badLinks_48 (by decide) ?_
          exact hj_52 x1 r_6 (((2 : Int32)) + (fo (Int32.toNatClampNeg v2_3))) _ _ _ hf hP hD hS (lv_sub hl [1, 2] rfl)
  unfold f_M_badLinks at hf
  refine lv_iconst (v := 0) hx hb d_M_badLinks_0 (by decide) ?_
  refine lv_istore_n (lv' := [(1, .int ((0 : Int32))), (0, .ref (h 0))]) hx hb d_M_badLinks_1 rfl hl (by decide) rfl (fun ls hl => ?_)
  exact hj_2 N ((0 : Int32)) _ _ _ hf hP hD hS (lv_sub hl [1, 0] rfl)
set_option maxHeartbeats 4000000 in
set_option maxRecDepth 100000 in
theorem c_M_badInodes {l : Launch} {dC : Nat → ClassId} {dI : Nat → Nat → Nat} {N : Nat} {h : Nat → Nat} {cI : ClassId} {cB : ClassId} {cZ : ClassId} {th : Int32} {nb : Int32} {dk : Nat → Int32} {lk : Int32} {fa : Int32} {pp : Int32} {gg : Int32} {jj : Int32} {qq : Int32} {mp : Nat → Int32} {fx : Nat → Int32} {tn : Nat → Int32} {mn : Int32} {oq : Nat → Int32} {pq : Nat → Int32} {fo : Nat → Int32} {ca : Nat → Int32} {hr : Int32} {fd : Int32} {hs : Nat} {r : Int32} (hf : f_M_badInodes N dk gg qq mp ca = some (r)) : Met l y_M_badInodes ws_M_badInodes { frames := 3, cells := 0, slots := 0, locals := 64 } (PcU (dC, dI) clAll [(cI, .int), (cB, .byte), (cZ, .boolean)] (wM h cI cB cZ th nb dk lk fa pp gg jj qq mp fx tn mn oq pq fo ca hr fd) hs [.ref (h 0)]) (QUi (dC, dI) clAll [(cI, .int), (cB, .byte), (cZ, .boolean)] (wM h cI cB cZ th nb dk lk fa pp gg jj qq mp fx tn mn oq pq fo ca hr fd) (wM h cI cB cZ th nb dk lk fa pp gg jj qq mp fx tn mn oq pq fo ca hr fd) hs r) 0 0 (va_A (wM h cI cB cZ th nb dk lk fa pp gg jj qq mp fx tn mn oq pq fo ca hr fd) hs) := by
  refine mUz (cc := b_M_badInodes) (maxL := 3) (by decide) rfl (Nat.le_of_ble_eq_true rfl) ?_
  intro p e s m args below meth c Q hx hb hml hts hown A hA hK hP hD hS hret ls hl
  have htb : ∀ w ∈ TB, w.before args s = true := fun w h => hts w (List.mem_cons_of_mem _ h)
  have hl : lv_has ls 3 [(0, .ref (h 0))] := hl
  have hj_2 : ∀ (k_2 : Nat) (x1 : Int32) (H : Heap) (locs : List Loc) (ls : Array Slot), f_M_badInodes_2 N dk gg qq mp ca k_2 x1 = some (r) → va_P (dC, dI) clAll (wM h cI cB cZ th nb dk lk fa pp gg jj qq mp fx tn mn oq pq fo ca hr fd) H → va_D A (wM h cI cB cZ th nb dk lk fa pp gg jj qq mp fx tn mn oq pq fo ca hr fd) → va_S A s.heap H locs → lv_has ls 3 [(0, .ref (h 0)), (1, .int x1)] → W p l e (headSpec ws_M_badInodes { frames := 3, cells := 0, slots := 0, locals := 64 }).room s m args below meth c H locs 0 0 Q (F0 m 2 ls []) := by
    intro k_2
    induction k_2 with
    | zero => intro _ _ _ _ hf; exact absurd hf (by simp [f_M_badInodes_2])
    | succ k_2 ih_2 =>
      have hj_47 : ∀ (k_47 : Nat) (x1 : Int32) (x2 : Int32) (H : Heap) (locs : List Loc) (ls : Array Slot), f_M_badInodes_47 N dk gg qq mp ca (f_M_badInodes_2 N dk gg qq mp ca k_2) k_47 x1 x2 = some (r) → va_P (dC, dI) clAll (wM h cI cB cZ th nb dk lk fa pp gg jj qq mp fx tn mn oq pq fo ca hr fd) H → va_D A (wM h cI cB cZ th nb dk lk fa pp gg jj qq mp fx tn mn oq pq fo ca hr fd) → va_S A s.heap H locs → lv_has ls 3 [(0, .ref (h 0)), (1, .int x1), (2, .int x2)] → W p l e (headSpec ws_M_badInodes { frames := 3, cells := 0, slots := 0, locals := 64 }).room s m args below meth c H locs 0 0 Q (F0 m 47 ls []) := by
        intro k_47
        induction k_47 with
        | zero => intro _ _ _ _ _ hf; exact absurd hf (by simp [f_M_badInodes_47])
        | succ k_47 ih_47 =>
          intro x1 x2 H locs ls hf hP hD hS hl
          rw [f_M_badInodes_47] at hf
          refine lv_iload_n hx hb d_M_badInodes_47 rfl (lv_at hl 2 rfl) ?_
          refine lv_sipush (v := 128) hx hb d_M_badInodes_48 (by decide) ?_
          refine lv_icmp_ge (tgt := 85) hx hb d_M_badInodes_51 (by decide) (fun c_1 => ?_) (fun c_1 => ?_)
          · have hf := ite_t c_1 hf
            obtain ⟨v1_2, ev1_2, hf⟩ := lt1_s hf
            refine lv_iinc (v := v1_2) (lv' := [(1, .int v1_2), (0, .ref (h 0)), (2, .int x2)]) hx hb d_M_badInodes_85 hl (k := 1) rfl (by rw [← ev1_2]; rfl) (by decide) rfl (fun ls hl => ?_)
            refine lv_goto (tgt := 2) hx hb d_M_badInodes_88 (by decide) ?_
            exact ih_2 v1_2 _ _ _ hf hP hD hS (lv_sub hl [1, 0] rfl)
          · have hf := ite_f c_1 hf
            refine lv_aload_n hx hb d_M_badInodes_54 rfl (lv_at hl 0 rfl) ?_
            refine va_get (D := (dC, dI)) (ci := 5) (v := .ref (h 8)) (C := R_M) (T := T_M) (N := 19) hx hb htb in_M hown hK hP 0 rfl rfl 16 (by decide) (htb _ tw_782) (fun _ h9 => h9) rfl d_M_badInodes_55 ?_
            refine lv_iload_n hx hb d_M_badInodes_58 rfl (lv_at hl 1 rfl) ?_
            obtain ⟨c_3, hf⟩ := gd_s hf
            refine va_zald (i := x1) hx hb hK hP 8 2 rfl rfl c_3 d_M_badInodes_59 ?_
            refine lv_if_ne (tgt := 85) hx hb d_M_badInodes_60 (by decide) (fun c_4 => ?_) (fun c_4 => ?_)
            · have hf := ite_f c_4 hf
              obtain ⟨v1_5, ev1_5, hf⟩ := lt1_s hf
              refine lv_iinc (v := v1_5) (lv' := [(1, .int v1_5), (0, .ref (h 0)), (2, .int x2)]) hx hb d_M_badInodes_85 hl (k := 1) rfl (by rw [← ev1_5]; rfl) (by decide) rfl (fun ls hl => ?_)
              refine lv_goto (tgt := 2) hx hb d_M_badInodes_88 (by decide) ?_
              exact ih_2 v1_5 _ _ _ hf hP hD hS (lv_sub hl [1, 0] rfl)
            · have hf := ite_t c_4 hf
              refine lv_aload_n hx hb d_M_badInodes_63 rfl (lv_at hl 0 rfl) ?_
              refine lv_aload_n hx hb d_M_badInodes_64 rfl (lv_at hl 0 rfl) ?_
              refine lv_iload_n hx hb d_M_badInodes_65 rfl (lv_at hl 1 rfl) ?_
              obtain ⟨r_6, hc_7, hf⟩ := bd1_s hf
              refine ucVi (As := [.int x1]) (rest := [.ref (h 0)]) ⟨hx, hb, hml, hown, htb⟩ hK hP hD hS hA (fun hs => c_M_inodeAt hc_7) (cwV 1 htb (gV tw_927 tw_929 tw_47 tw_74 tw_930) rfl rfl rfl (by decide +kernel) ⟨Nat.le_of_ble_eq_true rfl, Nat.le_of_ble_eq_true rfl⟩) 0 5 rfl rfl rfl rfl rfl hl.1 (Nat.le_of_ble_eq_true rfl) d_M_badInodes_66 ⟨Nat.zero_le _, Nat.zero_le _⟩ (fun H locs hP hD hS => ?_)
              refine lv_iload_n hx hb d_M_badInodes_69 rfl (lv_at hl 2 rfl) ?_
              refine lv_iadd hx hb d_M_badInodes_70 ?_
              obtain ⟨r_8, hc_9, hf⟩ := bd1_s hf
              refine ucVi (As := [.int (r_6 + x2)]) (rest := []) ⟨hx, hb, hml, hown, htb⟩ hK hP hD hS hA (fun hs => c_M_one hc_9) (cwV 1 htb (gV tw_854 tw_856 tw_32 tw_74 tw_857) rfl rfl rfl (by decide +kernel) ⟨Nat.le_of_ble_eq_true rfl, Nat.le_of_ble_eq_true rfl⟩) 0 5 rfl rfl rfl rfl rfl hl.1 (Nat.le_of_ble_eq_true rfl) d_M_badInodes_71 ⟨Nat.zero_le _, Nat.zero_le _⟩ (fun H locs hP hD hS => ?_)
              refine lv_if_eq (tgt := 79) hx hb d_M_badInodes_74 (by decide) (fun c_10 => ?_) (fun c_10 => ?_)
              · have hf := ite_t c_10 hf
                obtain ⟨v2_11, ev2_11, hf⟩ := lt1_s hf
                refine lv_iinc (v := v2_11) (lv' := [(2, .int v2_11), (0, .ref (h 0)), (1, .int x1)]) hx hb d_M_badInodes_79 hl (k := 2) rfl (by rw [← ev2_11]; rfl) (by decide) rfl (fun ls hl => ?_)
                refine lv_goto (tgt := 47) hx hb d_M_badInodes_82 (by decide) ?_
                exact ih_47 x1 v2_11 _ _ _ hf hP hD hS (lv_sub hl [1, 2, 0] rfl)
              · have hf := ite_f c_10 hf
                refine lv_iconst (v := 1) hx hb d_M_badInodes_77 (by decide) ?_
                cases hf
                exact hret _ _ _ _ (Or.inr rfl) hP hD hS d_M_badInodes_78
      have hj_40 : ∀ (x1 : Int32) (s0 : Int32) (s1 : Int32) (H : Heap) (locs : List Loc) (ls : Array Slot), f_M_badInodes_40 N dk gg qq mp ca (f_M_badInodes_2 N dk gg qq mp ca k_2) x1 s0 s1 = some (r) → va_P (dC, dI) clAll (wM h cI cB cZ th nb dk lk fa pp gg jj qq mp fx tn mn oq pq fo ca hr fd) H → va_D A (wM h cI cB cZ th nb dk lk fa pp gg jj qq mp fx tn mn oq pq fo ca hr fd) → va_S A s.heap H locs → lv_has ls 3 [(0, .ref (h 0)), (1, .int x1)] → W p l e (headSpec ws_M_badInodes { frames := 3, cells := 0, slots := 0, locals := 64 }).room s m args below meth c H locs 0 0 Q (F0 m 40 ls [.int s1, .int s0]) := by
        intro x1 s0 s1 H locs ls hf hP hD hS hl
        unfold f_M_badInodes_40 at hf
        refine lv_icmp_eq (tgt := 45) hx hb d_M_badInodes_40 (by decide) (fun c_1 => ?_) (fun c_1 => ?_)
        · have hf := ite_t c_1 hf
          refine lv_iconst (v := 0) hx hb d_M_badInodes_45 (by decide) ?_
          refine lv_istore_n (lv' := [(2, .int ((0 : Int32))), (0, .ref (h 0)), (1, .int x1)]) hx hb d_M_badInodes_46 rfl hl (by decide) rfl (fun ls hl => ?_)
          exact hj_47 N x1 ((0 : Int32)) _ _ _ hf hP hD hS (lv_sub hl [1, 2, 0] rfl)
        · have hf := ite_f c_1 hf
          refine lv_iconst (v := 1) hx hb d_M_badInodes_43 (by decide) ?_
          cases hf
          exact hret _ _ _ _ (Or.inr rfl) hP hD hS d_M_badInodes_44
      have hj_35 : ∀ (x1 : Int32) (s0 : Int32) (H : Heap) (locs : List Loc) (ls : Array Slot), f_M_badInodes_35 N dk gg qq mp ca (f_M_badInodes_2 N dk gg qq mp ca k_2) x1 s0 = some (r) → va_P (dC, dI) clAll (wM h cI cB cZ th nb dk lk fa pp gg jj qq mp fx tn mn oq pq fo ca hr fd) H → va_D A (wM h cI cB cZ th nb dk lk fa pp gg jj qq mp fx tn mn oq pq fo ca hr fd) → va_S A s.heap H locs → lv_has ls 3 [(0, .ref (h 0)), (1, .int x1)] → W p l e (headSpec ws_M_badInodes { frames := 3, cells := 0, slots := 0, locals := 64 }).room s m args below meth c H locs 0 0 Q (F0 m 35 ls [.int s0]) := by
        intro x1 s0 H locs ls hf hP hD hS hl
        unfold f_M_badInodes_35 at hf
        refine lv_iconst (v := 1) hx hb d_M_badInodes_35 (by decide) ?_
        refine lv_goto (tgt := 40) hx hb d_M_badInodes_36 (by decide) ?_
        exact hj_40 x1 s0 ((1 : Int32)) _ _ _ hf hP hD hS (lv_sub hl [0, 1] rfl)
      intro x1 H locs ls hf hP hD hS hl
      rw [f_M_badInodes_2] at hf
      refine lv_iload_n hx hb d_M_badInodes_2 rfl (lv_at hl 1 rfl) ?_
      refine lv_aload_n hx hb d_M_badInodes_3 rfl (lv_at hl 0 rfl) ?_
      refine va_get (D := (dC, dI)) (ci := 5) (v := .int qq) (C := R_M) (T := T_M) (N := 19) hx hb htb in_M hown hK hP 0 rfl rfl 8 (by decide) (htb _ tw_774) (fun _ h9 => h9) rfl d_M_badInodes_4 ?_
      refine lv_aload_n hx hb d_M_badInodes_7 rfl (lv_at hl 0 rfl) ?_
      refine va_get (D := (dC, dI)) (ci := 5) (v := .int gg) (C := R_M) (T := T_M) (N := 19) hx hb htb in_M hown hK hP 0 rfl rfl 6 (by decide) (htb _ tw_772) (fun _ h9 => h9) rfl d_M_badInodes_8 ?_
      refine lv_imul hx hb d_M_badInodes_11 ?_
      refine lv_icmp_gt (tgt := 91) hx hb d_M_badInodes_12 (by decide) (fun c_1 => ?_) (fun c_1 => ?_)
      · have hf := ite_t c_1 hf
        refine lv_iconst (v := 0) hx hb d_M_badInodes_91 (by decide) ?_
        cases hf
        exact hret _ _ _ _ (Or.inl rfl) hP hD hS d_M_badInodes_92
      · have hf := ite_f c_1 hf
        refine lv_aload_n hx hb d_M_badInodes_15 rfl (lv_at hl 0 rfl) ?_
        refine lv_iload_n hx hb d_M_badInodes_16 rfl (lv_at hl 1 rfl) ?_
        obtain ⟨r_2, hc_3, hf⟩ := bd1_s hf
        refine ucVi (As := [.int x1]) (rest := []) ⟨hx, hb, hml, hown, htb⟩ hK hP hD hS hA (fun hs => c_M_isUsed hc_3) (cwV 1 htb (gV tw_915 tw_917 tw_44 tw_74 tw_918) rfl rfl rfl (by decide +kernel) ⟨Nat.le_of_ble_eq_true rfl, Nat.le_of_ble_eq_true rfl⟩) 0 5 rfl rfl rfl rfl rfl hl.1 (Nat.le_of_ble_eq_true rfl) d_M_badInodes_17 ⟨Nat.zero_le _, Nat.zero_le _⟩ (fun H locs hP hD hS => ?_)
        refine lv_iload_n hx hb d_M_badInodes_20 rfl (lv_at hl 1 rfl) ?_
        refine lv_bipush (v := 12) hx hb d_M_badInodes_21 (by decide) ?_
        refine lv_icmp_lt (tgt := 35) hx hb d_M_badInodes_23 (by decide) (fun c_4 => ?_) (fun c_4 => ?_)
        · have hf := ite_t c_4 hf
          exact hj_35 x1 r_2 _ _ _ hf hP hD hS (lv_sub hl [0, 1] rfl)
        · have hf := ite_f c_4 hf
          refine lv_aload_n hx hb d_M_badInodes_26 rfl (lv_at hl 0 rfl) ?_
          refine va_get (D := (dC, dI)) (ci := 5) (v := .ref (h 8)) (C := R_M) (T := T_M) (N := 19) hx hb htb in_M hown hK hP 0 rfl rfl 16 (by decide) (htb _ tw_782) (fun _ h9 => h9) rfl d_M_badInodes_27 ?_
          refine lv_iload_n hx hb d_M_badInodes_30 rfl (lv_at hl 1 rfl) ?_
          obtain ⟨c_5, hf⟩ := gd_s hf
          refine va_zald (i := x1) hx hb hK hP 8 2 rfl rfl c_5 d_M_badInodes_31 ?_
          refine lv_if_eq (tgt := 39) hx hb d_M_badInodes_32 (by decide) (fun c_6 => ?_) (fun c_6 => ?_)
          · have hf := ite_t c_6 hf
            refine lv_iconst (v := 0) hx hb d_M_badInodes_39 (by decide) ?_
            exact hj_40 x1 r_2 ((0 : Int32)) _ _ _ hf hP hD hS (lv_sub hl [0, 1] rfl)
          · have hf := ite_f c_6 hf
            exact hj_35 x1 r_2 _ _ _ hf hP hD hS (lv_sub hl [0, 1] rfl)
  unfold f_M_badInodes at hf
  refine lv_iconst (v := 1) hx hb d_M_badInodes_0 (by decide) ?_
  refine lv_istore_n (lv' := [(1, .int ((1 : Int32))), (0, .ref (h 0))]) hx hb d_M_badInodes_1 rfl hl (by decide) rfl (fun ls hl => ?_)
  exact hj_2 N ((1 : Int32)) _ _ _ hf hP hD hS (lv_sub hl [1, 0] rfl)
set_option maxHeartbeats 4000000 in
set_option maxRecDepth 100000 in
theorem c_M_badCounts {l : Launch} {dC : Nat → ClassId} {dI : Nat → Nat → Nat} {N : Nat} {h : Nat → Nat} {cI : ClassId} {cB : ClassId} {cZ : ClassId} {th : Int32} {nb : Int32} {dk : Nat → Int32} {lk : Int32} {fa : Int32} {pp : Int32} {gg : Int32} {jj : Int32} {qq : Int32} {mp : Nat → Int32} {fx : Nat → Int32} {tn : Nat → Int32} {mn : Int32} {oq : Nat → Int32} {pq : Nat → Int32} {fo : Nat → Int32} {ca : Nat → Int32} {hr : Int32} {fd : Int32} {hs : Nat} {r : Int32} (hf : f_M_badCounts N nb dk pp gg qq mp fx tn mn oq = some (r)) : Met l y_M_badCounts ws_M_badCounts { frames := 3, cells := 0, slots := 0, locals := 63 } (PcU (dC, dI) clAll [(cI, .int), (cB, .byte), (cZ, .boolean)] (wM h cI cB cZ th nb dk lk fa pp gg jj qq mp fx tn mn oq pq fo ca hr fd) hs [.ref (h 0)]) (QUi (dC, dI) clAll [(cI, .int), (cB, .byte), (cZ, .boolean)] (wM h cI cB cZ th nb dk lk fa pp gg jj qq mp fx tn mn oq pq fo ca hr fd) (wM h cI cB cZ th nb dk lk fa pp gg jj qq mp fx tn mn oq pq fo ca hr fd) hs r) 0 0 (va_A (wM h cI cB cZ th nb dk lk fa pp gg jj qq mp fx tn mn oq pq fo ca hr fd) hs) := by
  refine mUz (cc := b_M_badCounts) (maxL := 12) (by decide) rfl (Nat.le_of_ble_eq_true rfl) ?_
  intro p e s m args below meth c Q hx hb hml hts hown A hA hK hP hD hS hret ls hl
  have htb : ∀ w ∈ TB, w.before args s = true := fun w h => hts w (List.mem_cons_of_mem _ h)
  have hl : lv_has ls 12 [(0, .ref (h 0))] := hl
  have hj_7 : ∀ (k_7 : Nat) (x1 : Int64) (x3 : Int64) (x5 : Int32) (H : Heap) (locs : List Loc) (ls : Array Slot), f_M_badCounts_7 N nb dk pp gg qq mp fx tn mn oq k_7 x1 x3 x5 = some (r) → va_P (dC, dI) clAll (wM h cI cB cZ th nb dk lk fa pp gg jj qq mp fx tn mn oq pq fo ca hr fd) H → va_D A (wM h cI cB cZ th nb dk lk fa pp gg jj qq mp fx tn mn oq pq fo ca hr fd) → va_S A s.heap H locs → lv_has ls 12 [(0, .ref (h 0)), (1, .long x1), (3, .long x3), (5, .int x5)] → W p l e (headSpec ws_M_badCounts { frames := 3, cells := 0, slots := 0, locals := 63 }).room s m args below meth c H locs 0 0 Q (F0 m 7 ls []) := by
    intro k_7
    induction k_7 with
    | zero => intro _ _ _ _ _ _ hf; exact absurd hf (by simp [f_M_badCounts_7])
    | succ k_7 ih_7 =>
      have hj_208 : ∀ (k_208 : Nat) (x1 : Int64) (x3 : Int64) (x5 : Int32) (x6 : Int32) (x7 : Int32) (x8 : Int32) (x9 : Int32) (H : Heap) (locs : List Loc) (ls : Array Slot), f_M_badCounts_208 N nb dk pp gg qq mp fx tn mn oq (f_M_badCounts_7 N nb dk pp gg qq mp fx tn mn oq k_7) k_208 x1 x3 x5 x6 x7 x8 x9 = some (r) → va_P (dC, dI) clAll (wM h cI cB cZ th nb dk lk fa pp gg jj qq mp fx tn mn oq pq fo ca hr fd) H → va_D A (wM h cI cB cZ th nb dk lk fa pp gg jj qq mp fx tn mn oq pq fo ca hr fd) → va_S A s.heap H locs → lv_has ls 12 [(0, .ref (h 0)), (1, .long x1), (3, .long x3), (5, .int x5), (6, .int x6), (7, .int x7), (8, .int x8), (9, .int x9)] → W p l e (headSpec ws_M_badCounts { frames := 3, cells := 0, slots := 0, locals := 63 }).room s m args below meth c H locs 0 0 Q (F0 m 208 ls []) := by
        intro k_208
        induction k_208 with
        | zero => intro _ _ _ _ _ _ _ _ _ _ hf; exact absurd hf (by simp [f_M_badCounts_208])
        | succ k_208 ih_208 =>
          intro x1 x3 x5 x6 x7 x8 x9 H locs ls hf hP hD hS hl
          rw [f_M_badCounts_208] at hf
          refine lv_iload hx hb d_M_badCounts_208 (lv_at hl 7 rfl) ?_
          refine lv_aload_n hx hb d_M_badCounts_210 rfl (lv_at hl 0 rfl) ?_
          refine va_get (D := (dC, dI)) (ci := 5) (v := .int mn) (C := R_M) (T := T_M) (N := 19) hx hb htb in_M hown hK hP 0 rfl rfl 12 (by decide) (htb _ tw_778) (fun _ h9 => h9) rfl d_M_badCounts_211 ?_
          refine lv_icmp_ge (tgt := 269) hx hb d_M_badCounts_214 (by decide) (fun c_1 => ?_) (fun c_1 => ?_)
          · have hf := ite_t c_1 hf
            refine lv_sipush (v := 2048) hx hb d_M_badCounts_269 (by decide) ?_
            refine lv_bipush (v := 32) hx hb d_M_badCounts_272 (by decide) ?_
            refine lv_iload hx hb d_M_badCounts_274 (lv_at hl 3 rfl) ?_
            refine lv_imul hx hb d_M_badCounts_276 ?_
            refine lv_iadd hx hb d_M_badCounts_277 ?_
            obtain ⟨v9_2, ev9_2, hf⟩ := lt1_s hf
            refine lv_eqi ev9_2 ?_
            refine lv_istore (lv' := [(9, .int v9_2), (0, .ref (h 0)), (1, .long x1), (3, .long x3), (5, .int x5), (6, .int x6), (7, .int x7), (8, .int x8)]) hx hb d_M_badCounts_278 hl (by decide) rfl (fun ls hl => ?_)
            refine lv_aload_n hx hb d_M_badCounts_280 rfl (lv_at hl 1 rfl) ?_
            refine lv_iload hx hb d_M_badCounts_281 (lv_at hl 0 rfl) ?_
            refine lv_bipush (v := 12) hx hb d_M_badCounts_283 (by decide) ?_
            refine lv_iadd hx hb d_M_badCounts_285 ?_
            obtain ⟨r_3, hc_4, hf⟩ := bd1_s hf
            refine ucVi (As := [.int (v9_2 + ((12 : Int32)))]) (rest := []) ⟨hx, hb, hml, hown, htb⟩ hK hP hD hS hA (fun hs => c_M_two hc_4) (cwV 1 htb (gV tw_878 tw_880 tw_37 tw_74 tw_881) rfl rfl rfl (by decide +kernel) ⟨Nat.le_of_ble_eq_true rfl, Nat.le_of_ble_eq_true rfl⟩) 0 5 rfl rfl rfl rfl rfl hl.1 (Nat.le_of_ble_eq_true rfl) d_M_badCounts_286 ⟨Nat.zero_le _, Nat.zero_le _⟩ (fun H locs hP hD hS => ?_)
            refine lv_iload hx hb d_M_badCounts_289 (lv_at hl 5 rfl) ?_
            refine lv_icmp_ne (tgt := 322) hx hb d_M_badCounts_291 (by decide) (fun c_5 => ?_) (fun c_5 => ?_)
            · have hf := ite_f c_5 hf
              refine lv_iconst (v := 1) hx hb d_M_badCounts_322 (by decide) ?_
              cases hf
              exact hret _ _ _ _ (Or.inr rfl) hP hD hS d_M_badCounts_323
            · have hf := ite_t c_5 hf
              refine lv_aload_n hx hb d_M_badCounts_294 rfl (lv_at hl 1 rfl) ?_
              refine lv_iload hx hb d_M_badCounts_295 (lv_at hl 0 rfl) ?_
              refine lv_bipush (v := 14) hx hb d_M_badCounts_297 (by decide) ?_
              refine lv_iadd hx hb d_M_badCounts_299 ?_
              obtain ⟨r_6, hc_7, hf⟩ := bd1_s hf
              refine ucVi (As := [.int (v9_2 + ((14 : Int32)))]) (rest := []) ⟨hx, hb, hml, hown, htb⟩ hK hP hD hS hA (fun hs => c_M_two hc_7) (cwV 1 htb (gV tw_878 tw_880 tw_37 tw_74 tw_881) rfl rfl rfl (by decide +kernel) ⟨Nat.le_of_ble_eq_true rfl, Nat.le_of_ble_eq_true rfl⟩) 0 5 rfl rfl rfl rfl rfl hl.1 (Nat.le_of_ble_eq_true rfl) d_M_badCounts_300 ⟨Nat.zero_le _, Nat.zero_le _⟩ (fun H locs hP hD hS => ?_)
              refine lv_iload hx hb d_M_badCounts_303 (lv_at hl 6 rfl) ?_
              refine lv_icmp_ne (tgt := 322) hx hb d_M_badCounts_305 (by decide) (fun c_8 => ?_) (fun c_8 => ?_)
              · have hf := ite_f c_8 hf
                refine lv_iconst (v := 1) hx hb d_M_badCounts_322 (by decide) ?_
                cases hf
                exact hret _ _ _ _ (Or.inr rfl) hP hD hS d_M_badCounts_323
              · have hf := ite_t c_8 hf
                refine lv_aload_n hx hb d_M_badCounts_308 rfl (lv_at hl 1 rfl) ?_
                refine lv_iload hx hb d_M_badCounts_309 (lv_at hl 0 rfl) ?_
                refine lv_bipush (v := 16) hx hb d_M_badCounts_311 (by decide) ?_
                refine lv_iadd hx hb d_M_badCounts_313 ?_
                obtain ⟨r_9, hc_10, hf⟩ := bd1_s hf
                refine ucVi (As := [.int (v9_2 + ((16 : Int32)))]) (rest := []) ⟨hx, hb, hml, hown, htb⟩ hK hP hD hS hA (fun hs => c_M_two hc_10) (cwV 1 htb (gV tw_878 tw_880 tw_37 tw_74 tw_881) rfl rfl rfl (by decide +kernel) ⟨Nat.le_of_ble_eq_true rfl, Nat.le_of_ble_eq_true rfl⟩) 0 5 rfl rfl rfl rfl rfl hl.1 (Nat.le_of_ble_eq_true rfl) d_M_badCounts_314 ⟨Nat.zero_le _, Nat.zero_le _⟩ (fun H locs hP hD hS => ?_)
                refine lv_iload hx hb d_M_badCounts_317 (lv_at hl 7 rfl) ?_
                refine lv_icmp_eq (tgt := 324) hx hb d_M_badCounts_319 (by decide) (fun c_11 => ?_) (fun c_11 => ?_)
                · have hf := ite_t c_11 hf
                  refine lv_lload_n hx hb d_M_badCounts_324 rfl (lv_at hl 2 rfl) ?_
                  refine lv_iload hx hb d_M_badCounts_325 (lv_at hl 5 rfl) ?_
                  refine lv_i2l hx hb d_M_badCounts_327 rfl ?_
                  refine lv_ladd hx hb d_M_badCounts_328 ?_
                  obtain ⟨v1_12, ev1_12, hf⟩ := lt1_s hf
                  refine lv_eql ev1_12 ?_
                  refine lv_lstore_n (lv' := [(1, .long v1_12), (9, .int v9_2), (0, .ref (h 0)), (3, .long x3), (5, .int x5), (6, .int x6), (7, .int x7), (8, .int x8)]) hx hb d_M_badCounts_329 rfl hl (by decide) rfl (fun ls hl => ?_)
                  refine lv_lload_n hx hb d_M_badCounts_330 rfl (lv_at hl 3 rfl) ?_
                  refine lv_iload hx hb d_M_badCounts_331 (lv_at hl 6 rfl) ?_
                  refine lv_i2l hx hb d_M_badCounts_333 rfl ?_
                  refine lv_ladd hx hb d_M_badCounts_334 ?_
                  obtain ⟨v3_13, ev3_13, hf⟩ := lt1_s hf
                  refine lv_eql ev3_13 ?_
                  refine lv_lstore_n (lv' := [(3, .long v3_13), (1, .long v1_12), (9, .int v9_2), (0, .ref (h 0)), (5, .int x5), (6, .int x6), (7, .int x7), (8, .int x8)]) hx hb d_M_badCounts_335 rfl hl (by decide) rfl (fun ls hl => ?_)
                  obtain ⟨v5_14, ev5_14, hf⟩ := lt1_s hf
                  refine lv_iinc (v := v5_14) (lv' := [(5, .int v5_14), (3, .long v3_13), (1, .long v1_12), (9, .int v9_2), (0, .ref (h 0)), (6, .int x6), (7, .int x7), (8, .int x8)]) hx hb d_M_badCounts_336 hl (k := 4) rfl (by rw [← ev5_14]; rfl) (by decide) rfl (fun ls hl => ?_)
                  refine lv_goto (tgt := 7) hx hb d_M_badCounts_339 (by decide) ?_
                  exact ih_7 v1_12 v3_13 v5_14 _ _ _ hf hP hD hS (lv_sub hl [4, 2, 1, 0] rfl)
                · have hf := ite_f c_11 hf
                  refine lv_iconst (v := 1) hx hb d_M_badCounts_322 (by decide) ?_
                  cases hf
                  exact hret _ _ _ _ (Or.inr rfl) hP hD hS d_M_badCounts_323
          · have hf := ite_f c_1 hf
            refine lv_iload hx hb d_M_badCounts_217 (lv_at hl 6 rfl) ?_
            refine lv_aload_n hx hb d_M_badCounts_219 rfl (lv_at hl 0 rfl) ?_
            refine lv_aload_n hx hb d_M_badCounts_220 rfl (lv_at hl 0 rfl) ?_
            refine va_get (D := (dC, dI)) (ci := 5) (v := .ref (h 5)) (C := R_M) (T := T_M) (N := 19) hx hb htb in_M hown hK hP 0 rfl rfl 13 (by decide) (htb _ tw_779) (fun _ h9 => h9) rfl d_M_badCounts_221 ?_
            refine lv_iload hx hb d_M_badCounts_224 (lv_at hl 7 rfl) ?_
            obtain ⟨c_15, hf⟩ := gd_s hf
            refine va_iald (i := x9) hx hb hK hP 5 0 rfl rfl c_15 d_M_badCounts_226 ?_
            obtain ⟨r_16, hc_17, hf⟩ := bd1_s hf
            refine ucVi (As := [.int (oq (Int32.toNatClampNeg x9))]) (rest := [.int x8]) ⟨hx, hb, hml, hown, htb⟩ hK hP hD hS hA (fun hs => c_M_typeOf hc_17) (cwV 1 htb (gV tw_923 tw_925 tw_46 tw_74 tw_926) rfl rfl rfl (by decide +kernel) ⟨Nat.le_of_ble_eq_true rfl, Nat.le_of_ble_eq_true rfl⟩) 0 5 rfl rfl rfl rfl rfl hl.1 (Nat.le_of_ble_eq_true rfl) d_M_badCounts_227 ⟨Nat.zero_le _, Nat.zero_le _⟩ (fun H locs hP hD hS => ?_)
            refine lv_sipush (v := 16384) hx hb d_M_badCounts_230 (by decide) ?_
            refine lv_icmp_ne (tgt := 259) hx hb d_M_badCounts_233 (by decide) (fun c_18 => ?_) (fun c_18 => ?_)
            · have hf := ite_f c_18 hf
              refine lv_iconst (v := 0) hx hb d_M_badCounts_259 (by decide) ?_
              refine lv_iadd hx hb d_M_badCounts_260 ?_
              obtain ⟨v8_19, ev8_19, hf⟩ := lt1_s hf
              refine lv_eqi ev8_19 ?_
              refine lv_istore (lv' := [(8, .int v8_19), (0, .ref (h 0)), (1, .long x1), (3, .long x3), (5, .int x5), (6, .int x6), (7, .int x7), (9, .int x9)]) hx hb d_M_badCounts_261 hl (by decide) rfl (fun ls hl => ?_)
              obtain ⟨v9_20, ev9_20, hf⟩ := lt1_s hf
              refine lv_iinc (v := v9_20) (lv' := [(9, .int v9_20), (8, .int v8_19), (0, .ref (h 0)), (1, .long x1), (3, .long x3), (5, .int x5), (6, .int x6), (7, .int x7)]) hx hb d_M_badCounts_263 hl (k := 7) rfl (by rw [← ev9_20]; rfl) (by decide) rfl (fun ls hl => ?_)
              refine lv_goto (tgt := 208) hx hb d_M_badCounts_266 (by decide) ?_
              exact ih_208 x1 x3 x5 x6 x7 v8_19 v9_20 _ _ _ hf hP hD hS (lv_sub hl [2, 3, 4, 5, 6, 7, 1, 0] rfl)
            · have hf := ite_t c_18 hf
              refine lv_aload_n hx hb d_M_badCounts_236 rfl (lv_at hl 0 rfl) ?_
              refine va_get (D := (dC, dI)) (ci := 5) (v := .ref (h 5)) (C := R_M) (T := T_M) (N := 19) hx hb htb in_M hown hK hP 0 rfl rfl 13 (by decide) (htb _ tw_779) (fun _ h9 => h9) rfl d_M_badCounts_237 ?_
              refine lv_iload hx hb d_M_badCounts_240 (lv_at hl 7 rfl) ?_
              obtain ⟨c_21, hf⟩ := gd_s hf
              refine va_iald (i := x9) hx hb hK hP 5 0 rfl rfl c_21 d_M_badCounts_242 ?_
              refine lv_iconst (v := 1) hx hb d_M_badCounts_243 (by decide) ?_
              refine lv_isub hx hb d_M_badCounts_244 ?_
              refine lv_aload_n hx hb d_M_badCounts_245 rfl (lv_at hl 0 rfl) ?_
              refine va_get (D := (dC, dI)) (ci := 5) (v := .int gg) (C := R_M) (T := T_M) (N := 19) hx hb htb in_M hown hK hP 0 rfl rfl 6 (by decide) (htb _ tw_772) (fun _ h9 => h9) rfl d_M_badCounts_246 ?_
              obtain ⟨c_22, hf⟩ := gd_s hf
              refine lv_idiv hx hb d_M_badCounts_249 c_22 ?_
              refine lv_iload hx hb d_M_badCounts_250 (lv_at hl 3 rfl) ?_
              refine lv_icmp_ne (tgt := 259) hx hb d_M_badCounts_252 (by decide) (fun c_23 => ?_) (fun c_23 => ?_)
              · have hf := ite_f c_23 hf
                refine lv_iconst (v := 0) hx hb d_M_badCounts_259 (by decide) ?_
                refine lv_iadd hx hb d_M_badCounts_260 ?_
                obtain ⟨v8_24, ev8_24, hf⟩ := lt1_s hf
                refine lv_eqi ev8_24 ?_
                refine lv_istore (lv' := [(8, .int v8_24), (0, .ref (h 0)), (1, .long x1), (3, .long x3), (5, .int x5), (6, .int x6), (7, .int x7), (9, .int x9)]) hx hb d_M_badCounts_261 hl (by decide) rfl (fun ls hl => ?_)
                obtain ⟨v9_25, ev9_25, hf⟩ := lt1_s hf
                refine lv_iinc (v := v9_25) (lv' := [(9, .int v9_25), (8, .int v8_24), (0, .ref (h 0)), (1, .long x1), (3, .long x3), (5, .int x5), (6, .int x6), (7, .int x7)]) hx hb d_M_badCounts_263 hl (k := 7) rfl (by rw [← ev9_25]; rfl) (by decide) rfl (fun ls hl => ?_)
                refine lv_goto (tgt := 208) hx hb d_M_badCounts_266 (by decide) ?_
                exact ih_208 x1 x3 x5 x6 x7 v8_24 v9_25 _ _ _ hf hP hD hS (lv_sub hl [2, 3, 4, 5, 6, 7, 1, 0] rfl)
              · have hf := ite_t c_23 hf
                refine lv_iconst (v := 1) hx hb d_M_badCounts_255 (by decide) ?_
                refine lv_goto (tgt := 260) hx hb d_M_badCounts_256 (by decide) ?_
                refine lv_iadd hx hb d_M_badCounts_260 ?_
                obtain ⟨v8_26, ev8_26, hf⟩ := lt1_s hf
                refine lv_eqi ev8_26 ?_
                refine lv_istore (lv' := [(8, .int v8_26), (0, .ref (h 0)), (1, .long x1), (3, .long x3), (5, .int x5), (6, .int x6), (7, .int x7), (9, .int x9)]) hx hb d_M_badCounts_261 hl (by decide) rfl (fun ls hl => ?_)
                obtain ⟨v9_27, ev9_27, hf⟩ := lt1_s hf
                refine lv_iinc (v := v9_27) (lv' := [(9, .int v9_27), (8, .int v8_26), (0, .ref (h 0)), (1, .long x1), (3, .long x3), (5, .int x5), (6, .int x6), (7, .int x7)]) hx hb d_M_badCounts_263 hl (k := 7) rfl (by rw [← ev9_27]; rfl) (by decide) rfl (fun ls hl => ?_)
                refine lv_goto (tgt := 208) hx hb d_M_badCounts_266 (by decide) ?_
                exact ih_208 x1 x3 x5 x6 x7 v8_26 v9_27 _ _ _ hf hP hD hS (lv_sub hl [2, 3, 4, 5, 6, 7, 1, 0] rfl)
      have hj_28 : ∀ (k_28 : Nat) (x1 : Int64) (x3 : Int64) (x5 : Int32) (x6 : Int32) (x7 : Int32) (x8 : Int32) (x9 : Int32) (H : Heap) (locs : List Loc) (ls : Array Slot), f_M_badCounts_28 N nb dk pp gg qq mp fx tn mn oq (f_M_badCounts_7 N nb dk pp gg qq mp fx tn mn oq k_7) k_28 x1 x3 x5 x6 x7 x8 x9 = some (r) → va_P (dC, dI) clAll (wM h cI cB cZ th nb dk lk fa pp gg jj qq mp fx tn mn oq pq fo ca hr fd) H → va_D A (wM h cI cB cZ th nb dk lk fa pp gg jj qq mp fx tn mn oq pq fo ca hr fd) → va_S A s.heap H locs → lv_has ls 12 [(0, .ref (h 0)), (1, .long x1), (3, .long x3), (5, .int x5), (6, .int x6), (7, .int x7), (8, .int x8), (9, .int x9)] → W p l e (headSpec ws_M_badCounts { frames := 3, cells := 0, slots := 0, locals := 63 }).room s m args below meth c H locs 0 0 Q (F0 m 28 ls []) := by
        intro k_28
        induction k_28 with
        | zero => intro _ _ _ _ _ _ _ _ _ _ hf; exact absurd hf (by simp [f_M_badCounts_28])
        | succ k_28 ih_28 =>
          have hj_159 : ∀ (x1 : Int64) (x3 : Int64) (x5 : Int32) (x7 : Int32) (x8 : Int32) (x9 : Int32) (s0 : Int32) (s1 : Int32) (H : Heap) (locs : List Loc) (ls : Array Slot), f_M_badCounts_159 N nb dk pp gg qq mp fx tn mn oq (f_M_badCounts_7 N nb dk pp gg qq mp fx tn mn oq k_7) (f_M_badCounts_28 N nb dk pp gg qq mp fx tn mn oq (f_M_badCounts_7 N nb dk pp gg qq mp fx tn mn oq k_7) k_28) x1 x3 x5 x7 x8 x9 s0 s1 = some (r) → va_P (dC, dI) clAll (wM h cI cB cZ th nb dk lk fa pp gg jj qq mp fx tn mn oq pq fo ca hr fd) H → va_D A (wM h cI cB cZ th nb dk lk fa pp gg jj qq mp fx tn mn oq pq fo ca hr fd) → va_S A s.heap H locs → lv_has ls 12 [(0, .ref (h 0)), (1, .long x1), (3, .long x3), (5, .int x5), (7, .int x7), (8, .int x8), (9, .int x9)] → W p l e (headSpec ws_M_badCounts { frames := 3, cells := 0, slots := 0, locals := 63 }).room s m args below meth c H locs 0 0 Q (F0 m 159 ls [.int s1, .int s0]) := by
            intro x1 x3 x5 x7 x8 x9 s0 s1 H locs ls hf hP hD hS hl
            unfold f_M_badCounts_159 at hf
            refine lv_iadd hx hb d_M_badCounts_159 ?_
            obtain ⟨v6_1, ev6_1, hf⟩ := lt1_s hf
            refine lv_eqi ev6_1 ?_
            refine lv_istore (lv' := [(6, .int v6_1), (0, .ref (h 0)), (1, .long x1), (3, .long x3), (5, .int x5), (7, .int x7), (8, .int x8), (9, .int x9)]) hx hb d_M_badCounts_160 hl (by decide) rfl (fun ls hl => ?_)
            refine lv_iload hx hb d_M_badCounts_162 (lv_at hl 5 rfl) ?_
            refine lv_iload hx hb d_M_badCounts_164 (lv_at hl 7 rfl) ?_
            refine lv_aload_n hx hb d_M_badCounts_166 rfl (lv_at hl 1 rfl) ?_
            refine va_get (D := (dC, dI)) (ci := 5) (v := .int gg) (C := R_M) (T := T_M) (N := 19) hx hb htb in_M hown hK hP 0 rfl rfl 6 (by decide) (htb _ tw_772) (fun _ h9 => h9) rfl d_M_badCounts_167 ?_
            refine lv_icmp_ge (tgt := 195) hx hb d_M_badCounts_170 (by decide) (fun c_2 => ?_) (fun c_2 => ?_)
            · have hf := ite_t c_2 hf
              refine lv_iconst (v := 0) hx hb d_M_badCounts_195 (by decide) ?_
              refine lv_iadd hx hb d_M_badCounts_196 ?_
              obtain ⟨v7_3, ev7_3, hf⟩ := lt1_s hf
              refine lv_eqi ev7_3 ?_
              refine lv_istore (lv' := [(7, .int v7_3), (6, .int v6_1), (0, .ref (h 0)), (1, .long x1), (3, .long x3), (5, .int x5), (8, .int x8), (9, .int x9)]) hx hb d_M_badCounts_197 hl (by decide) rfl (fun ls hl => ?_)
              obtain ⟨v9_4, ev9_4, hf⟩ := lt1_s hf
              refine lv_iinc (v := v9_4) (lv' := [(9, .int v9_4), (7, .int v7_3), (6, .int v6_1), (0, .ref (h 0)), (1, .long x1), (3, .long x3), (5, .int x5), (8, .int x8)]) hx hb d_M_badCounts_199 hl (k := 7) rfl (by rw [← ev9_4]; rfl) (by decide) rfl (fun ls hl => ?_)
              refine lv_goto (tgt := 28) hx hb d_M_badCounts_202 (by decide) ?_
              exact ih_28 x1 x3 x5 v6_1 v7_3 x8 v9_4 _ _ _ hf hP hD hS (lv_sub hl [3, 4, 5, 6, 2, 1, 7, 0] rfl)
            · have hf := ite_f c_2 hf
              refine lv_aload_n hx hb d_M_badCounts_173 rfl (lv_at hl 1 rfl) ?_
              refine lv_aload_n hx hb d_M_badCounts_174 rfl (lv_at hl 1 rfl) ?_
              refine va_get (D := (dC, dI)) (ci := 5) (v := .ref (h 2)) (C := R_M) (T := T_M) (N := 19) hx hb htb in_M hown hK hP 0 rfl rfl 9 (by decide) (htb _ tw_775) (fun _ h9 => h9) rfl d_M_badCounts_175 ?_
              refine lv_iload hx hb d_M_badCounts_178 (lv_at hl 4 rfl) ?_
              obtain ⟨c_5, hf⟩ := gd_s hf
              refine va_iald (i := x5) hx hb hK hP 2 0 rfl rfl c_5 d_M_badCounts_180 ?_
              refine lv_iconst (v := 1) hx hb d_M_badCounts_181 (by decide) ?_
              refine lv_iadd hx hb d_M_badCounts_182 ?_
              refine lv_iload hx hb d_M_badCounts_183 (lv_at hl 7 rfl) ?_
              obtain ⟨r_6, hc_7, hf⟩ := bd1_s hf
              refine ucVi (As := [.int ((mp (Int32.toNatClampNeg x5)) + ((1 : Int32))), .int x9]) (rest := [.int x7]) ⟨hx, hb, hml, hown, htb⟩ hK hP hD hS hA (fun hs => c_M_bit hc_7) (cwV 2 htb (gV tw_919 tw_921 tw_45 tw_74 tw_922) rfl rfl rfl (by decide +kernel) ⟨Nat.le_of_ble_eq_true rfl, Nat.le_of_ble_eq_true rfl⟩) 0 5 rfl rfl rfl rfl rfl hl.1 (Nat.le_of_ble_eq_true rfl) d_M_badCounts_185 ⟨Nat.zero_le _, Nat.zero_le _⟩ (fun H locs hP hD hS => ?_)
              refine lv_if_ne (tgt := 195) hx hb d_M_badCounts_188 (by decide) (fun c_8 => ?_) (fun c_8 => ?_)
              · have hf := ite_f c_8 hf
                refine lv_iconst (v := 0) hx hb d_M_badCounts_195 (by decide) ?_
                refine lv_iadd hx hb d_M_badCounts_196 ?_
                obtain ⟨v7_9, ev7_9, hf⟩ := lt1_s hf
                refine lv_eqi ev7_9 ?_
                refine lv_istore (lv' := [(7, .int v7_9), (6, .int v6_1), (0, .ref (h 0)), (1, .long x1), (3, .long x3), (5, .int x5), (8, .int x8), (9, .int x9)]) hx hb d_M_badCounts_197 hl (by decide) rfl (fun ls hl => ?_)
                obtain ⟨v9_10, ev9_10, hf⟩ := lt1_s hf
                refine lv_iinc (v := v9_10) (lv' := [(9, .int v9_10), (7, .int v7_9), (6, .int v6_1), (0, .ref (h 0)), (1, .long x1), (3, .long x3), (5, .int x5), (8, .int x8)]) hx hb d_M_badCounts_199 hl (k := 7) rfl (by rw [← ev9_10]; rfl) (by decide) rfl (fun ls hl => ?_)
                refine lv_goto (tgt := 28) hx hb d_M_badCounts_202 (by decide) ?_
                exact ih_28 x1 x3 x5 v6_1 v7_9 x8 v9_10 _ _ _ hf hP hD hS (lv_sub hl [3, 4, 5, 6, 2, 1, 7, 0] rfl)
              · have hf := ite_t c_8 hf
                refine lv_iconst (v := 1) hx hb d_M_badCounts_191 (by decide) ?_
                refine lv_goto (tgt := 196) hx hb d_M_badCounts_192 (by decide) ?_
                refine lv_iadd hx hb d_M_badCounts_196 ?_
                obtain ⟨v7_11, ev7_11, hf⟩ := lt1_s hf
                refine lv_eqi ev7_11 ?_
                refine lv_istore (lv' := [(7, .int v7_11), (6, .int v6_1), (0, .ref (h 0)), (1, .long x1), (3, .long x3), (5, .int x5), (8, .int x8), (9, .int x9)]) hx hb d_M_badCounts_197 hl (by decide) rfl (fun ls hl => ?_)
                obtain ⟨v9_12, ev9_12, hf⟩ := lt1_s hf
                refine lv_iinc (v := v9_12) (lv' := [(9, .int v9_12), (7, .int v7_11), (6, .int v6_1), (0, .ref (h 0)), (1, .long x1), (3, .long x3), (5, .int x5), (8, .int x8)]) hx hb d_M_badCounts_199 hl (k := 7) rfl (by rw [← ev9_12]; rfl) (by decide) rfl (fun ls hl => ?_)
                refine lv_goto (tgt := 28) hx hb d_M_badCounts_202 (by decide) ?_
                exact ih_28 x1 x3 x5 v6_1 v7_11 x8 v9_12 _ _ _ hf hP hD hS (lv_sub hl [3, 4, 5, 6, 2, 1, 7, 0] rfl)
          have hj_147 : ∀ (x1 : Int64) (x3 : Int64) (x5 : Int32) (x6 : Int32) (x7 : Int32) (x8 : Int32) (x9 : Int32) (x11 : Int32) (H : Heap) (locs : List Loc) (ls : Array Slot), f_M_badCounts_147 N nb dk pp gg qq mp fx tn mn oq (f_M_badCounts_7 N nb dk pp gg qq mp fx tn mn oq k_7) (f_M_badCounts_28 N nb dk pp gg qq mp fx tn mn oq (f_M_badCounts_7 N nb dk pp gg qq mp fx tn mn oq k_7) k_28) x1 x3 x5 x6 x7 x8 x9 x11 = some (r) → va_P (dC, dI) clAll (wM h cI cB cZ th nb dk lk fa pp gg jj qq mp fx tn mn oq pq fo ca hr fd) H → va_D A (wM h cI cB cZ th nb dk lk fa pp gg jj qq mp fx tn mn oq pq fo ca hr fd) → va_S A s.heap H locs → lv_has ls 12 [(0, .ref (h 0)), (1, .long x1), (3, .long x3), (5, .int x5), (6, .int x6), (7, .int x7), (8, .int x8), (9, .int x9), (11, .int x11)] → W p l e (headSpec ws_M_badCounts { frames := 3, cells := 0, slots := 0, locals := 63 }).room s m args below meth c H locs 0 0 Q (F0 m 147 ls []) := by
            intro x1 x3 x5 x6 x7 x8 x9 x11 H locs ls hf hP hD hS hl
            unfold f_M_badCounts_147 at hf
            refine lv_iload hx hb d_M_badCounts_147 (lv_at hl 4 rfl) ?_
            refine lv_iload hx hb d_M_badCounts_149 (lv_at hl 8 rfl) ?_
            refine lv_if_eq (tgt := 158) hx hb d_M_badCounts_151 (by decide) (fun c_1 => ?_) (fun c_1 => ?_)
            · have hf := ite_t c_1 hf
              refine lv_iconst (v := 1) hx hb d_M_badCounts_158 (by decide) ?_
              exact hj_159 x1 x3 x5 x7 x8 x9 x6 ((1 : Int32)) _ _ _ hf hP hD hS (lv_sub hl [0, 1, 2, 3, 5, 6, 7] rfl)
            · have hf := ite_f c_1 hf
              refine lv_iconst (v := 0) hx hb d_M_badCounts_154 (by decide) ?_
              refine lv_goto (tgt := 159) hx hb d_M_badCounts_155 (by decide) ?_
              exact hj_159 x1 x3 x5 x7 x8 x9 x6 ((0 : Int32)) _ _ _ hf hP hD hS (lv_sub hl [0, 1, 2, 3, 5, 6, 7] rfl)
          have hj_98 : ∀ (x1 : Int64) (x3 : Int64) (x5 : Int32) (x6 : Int32) (x7 : Int32) (x8 : Int32) (x9 : Int32) (s0 : Int32) (H : Heap) (locs : List Loc) (ls : Array Slot), f_M_badCounts_98 N nb dk pp gg qq mp fx tn mn oq (f_M_badCounts_7 N nb dk pp gg qq mp fx tn mn oq k_7) (f_M_badCounts_28 N nb dk pp gg qq mp fx tn mn oq (f_M_badCounts_7 N nb dk pp gg qq mp fx tn mn oq k_7) k_28) x1 x3 x5 x6 x7 x8 x9 s0 = some (r) → va_P (dC, dI) clAll (wM h cI cB cZ th nb dk lk fa pp gg jj qq mp fx tn mn oq pq fo ca hr fd) H → va_D A (wM h cI cB cZ th nb dk lk fa pp gg jj qq mp fx tn mn oq pq fo ca hr fd) → va_S A s.heap H locs → lv_has ls 12 [(0, .ref (h 0)), (1, .long x1), (3, .long x3), (5, .int x5), (6, .int x6), (7, .int x7), (8, .int x8), (9, .int x9)] → W p l e (headSpec ws_M_badCounts { frames := 3, cells := 0, slots := 0, locals := 63 }).room s m args below meth c H locs 0 0 Q (F0 m 98 ls [.int s0]) := by
            intro x1 x3 x5 x6 x7 x8 x9 s0 H locs ls hf hP hD hS hl
            unfold f_M_badCounts_98 at hf
            refine lv_istore (lv' := [(11, .int s0), (0, .ref (h 0)), (1, .long x1), (3, .long x3), (5, .int x5), (6, .int x6), (7, .int x7), (8, .int x8), (9, .int x9)]) hx hb d_M_badCounts_98 hl (by decide) rfl (fun ls hl => ?_)
            refine lv_aload_n hx hb d_M_badCounts_100 rfl (lv_at hl 1 rfl) ?_
            refine lv_aload_n hx hb d_M_badCounts_101 rfl (lv_at hl 1 rfl) ?_
            refine va_get (D := (dC, dI)) (ci := 5) (v := .ref (h 2)) (C := R_M) (T := T_M) (N := 19) hx hb htb in_M hown hK hP 0 rfl rfl 9 (by decide) (htb _ tw_775) (fun _ h9 => h9) rfl d_M_badCounts_102 ?_
            refine lv_iload hx hb d_M_badCounts_105 (lv_at hl 4 rfl) ?_
            obtain ⟨c_1, hf⟩ := gd_s hf
            refine va_iald (i := x5) hx hb hK hP 2 0 rfl rfl c_1 d_M_badCounts_107 ?_
            refine lv_iload hx hb d_M_badCounts_108 (lv_at hl 8 rfl) ?_
            obtain ⟨r_2, hc_3, hf⟩ := bd1_s hf
            refine ucVi (As := [.int (mp (Int32.toNatClampNeg x5)), .int x9]) (rest := []) ⟨hx, hb, hml, hown, htb⟩ hK hP hD hS hA (fun hs => c_M_bit hc_3) (cwV 2 htb (gV tw_919 tw_921 tw_45 tw_74 tw_922) rfl rfl rfl (by decide +kernel) ⟨Nat.le_of_ble_eq_true rfl, Nat.le_of_ble_eq_true rfl⟩) 0 5 rfl rfl rfl rfl rfl hl.1 (Nat.le_of_ble_eq_true rfl) d_M_badCounts_110 ⟨Nat.zero_le _, Nat.zero_le _⟩ (fun H locs hP hD hS => ?_)
            refine lv_iload hx hb d_M_badCounts_113 (lv_at hl 0 rfl) ?_
            refine lv_icmp_ne (tgt := 145) hx hb d_M_badCounts_115 (by decide) (fun c_4 => ?_) (fun c_4 => ?_)
            · have hf := ite_f c_4 hf
              refine lv_iconst (v := 1) hx hb d_M_badCounts_145 (by decide) ?_
              cases hf
              exact hret _ _ _ _ (Or.inr rfl) hP hD hS d_M_badCounts_146
            · have hf := ite_t c_4 hf
              refine lv_iload hx hb d_M_badCounts_118 (lv_at hl 8 rfl) ?_
              refine lv_aload_n hx hb d_M_badCounts_120 rfl (lv_at hl 1 rfl) ?_
              refine va_get (D := (dC, dI)) (ci := 5) (v := .int gg) (C := R_M) (T := T_M) (N := 19) hx hb htb in_M hown hK hP 0 rfl rfl 6 (by decide) (htb _ tw_772) (fun _ h9 => h9) rfl d_M_badCounts_121 ?_
              refine lv_icmp_lt (tgt := 147) hx hb d_M_badCounts_124 (by decide) (fun c_5 => ?_) (fun c_5 => ?_)
              · have hf := ite_t c_5 hf
                exact hj_147 x1 x3 x5 x6 x7 x8 x9 s0 _ _ _ hf hP hD hS (lv_sub hl [1, 2, 3, 4, 5, 6, 7, 8, 0] rfl)
              · have hf := ite_f c_5 hf
                refine lv_aload_n hx hb d_M_badCounts_127 rfl (lv_at hl 1 rfl) ?_
                refine lv_aload_n hx hb d_M_badCounts_128 rfl (lv_at hl 1 rfl) ?_
                refine va_get (D := (dC, dI)) (ci := 5) (v := .ref (h 2)) (C := R_M) (T := T_M) (N := 19) hx hb htb in_M hown hK hP 0 rfl rfl 9 (by decide) (htb _ tw_775) (fun _ h9 => h9) rfl d_M_badCounts_129 ?_
                refine lv_iload hx hb d_M_badCounts_132 (lv_at hl 4 rfl) ?_
                obtain ⟨c_6, hf⟩ := gd_s hf
                refine va_iald (i := x5) hx hb hK hP 2 0 rfl rfl c_6 d_M_badCounts_134 ?_
                refine lv_iconst (v := 1) hx hb d_M_badCounts_135 (by decide) ?_
                refine lv_iadd hx hb d_M_badCounts_136 ?_
                refine lv_iload hx hb d_M_badCounts_137 (lv_at hl 8 rfl) ?_
                obtain ⟨r_7, hc_8, hf⟩ := bd1_s hf
                refine ucVi (As := [.int ((mp (Int32.toNatClampNeg x5)) + ((1 : Int32))), .int x9]) (rest := []) ⟨hx, hb, hml, hown, htb⟩ hK hP hD hS hA (fun hs => c_M_bit hc_8) (cwV 2 htb (gV tw_919 tw_921 tw_45 tw_74 tw_922) rfl rfl rfl (by decide +kernel) ⟨Nat.le_of_ble_eq_true rfl, Nat.le_of_ble_eq_true rfl⟩) 0 5 rfl rfl rfl rfl rfl hl.1 (Nat.le_of_ble_eq_true rfl) d_M_badCounts_139 ⟨Nat.zero_le _, Nat.zero_le _⟩ (fun H locs hP hD hS => ?_)
                refine lv_if_ne (tgt := 147) hx hb d_M_badCounts_142 (by decide) (fun c_9 => ?_) (fun c_9 => ?_)
                · have hf := ite_f c_9 hf
                  exact hj_147 x1 x3 x5 x6 x7 x8 x9 s0 _ _ _ hf hP hD hS (lv_sub hl [1, 2, 3, 4, 5, 6, 7, 8, 0] rfl)
                · have hf := ite_t c_9 hf
                  refine lv_iconst (v := 1) hx hb d_M_badCounts_145 (by decide) ?_
                  cases hf
                  exact hret _ _ _ _ (Or.inr rfl) hP hD hS d_M_badCounts_146
          have hj_93 : ∀ (x1 : Int64) (x3 : Int64) (x5 : Int32) (x6 : Int32) (x7 : Int32) (x8 : Int32) (x9 : Int32) (H : Heap) (locs : List Loc) (ls : Array Slot), f_M_badCounts_93 N nb dk pp gg qq mp fx tn mn oq (f_M_badCounts_7 N nb dk pp gg qq mp fx tn mn oq k_7) (f_M_badCounts_28 N nb dk pp gg qq mp fx tn mn oq (f_M_badCounts_7 N nb dk pp gg qq mp fx tn mn oq k_7) k_28) x1 x3 x5 x6 x7 x8 x9 = some (r) → va_P (dC, dI) clAll (wM h cI cB cZ th nb dk lk fa pp gg jj qq mp fx tn mn oq pq fo ca hr fd) H → va_D A (wM h cI cB cZ th nb dk lk fa pp gg jj qq mp fx tn mn oq pq fo ca hr fd) → va_S A s.heap H locs → lv_has ls 12 [(0, .ref (h 0)), (1, .long x1), (3, .long x3), (5, .int x5), (6, .int x6), (7, .int x7), (8, .int x8), (9, .int x9)] → W p l e (headSpec ws_M_badCounts { frames := 3, cells := 0, slots := 0, locals := 63 }).room s m args below meth c H locs 0 0 Q (F0 m 93 ls []) := by
            intro x1 x3 x5 x6 x7 x8 x9 H locs ls hf hP hD hS hl
            unfold f_M_badCounts_93 at hf
            refine lv_iconst (v := 1) hx hb d_M_badCounts_93 (by decide) ?_
            refine lv_goto (tgt := 98) hx hb d_M_badCounts_94 (by decide) ?_
            exact hj_98 x1 x3 x5 x6 x7 x8 x9 ((1 : Int32)) _ _ _ hf hP hD hS (lv_sub hl [0, 1, 2, 3, 4, 5, 6, 7] rfl)
          have hj_52 : ∀ (x1 : Int64) (x3 : Int64) (x5 : Int32) (x6 : Int32) (x7 : Int32) (x8 : Int32) (x9 : Int32) (s0 : Int32) (H : Heap) (locs : List Loc) (ls : Array Slot), f_M_badCounts_52 N nb dk pp gg qq mp fx tn mn oq (f_M_badCounts_7 N nb dk pp gg qq mp fx tn mn oq k_7) (f_M_badCounts_28 N nb dk pp gg qq mp fx tn mn oq (f_M_badCounts_7 N nb dk pp gg qq mp fx tn mn oq k_7) k_28) x1 x3 x5 x6 x7 x8 x9 s0 = some (r) → va_P (dC, dI) clAll (wM h cI cB cZ th nb dk lk fa pp gg jj qq mp fx tn mn oq pq fo ca hr fd) H → va_D A (wM h cI cB cZ th nb dk lk fa pp gg jj qq mp fx tn mn oq pq fo ca hr fd) → va_S A s.heap H locs → lv_has ls 12 [(0, .ref (h 0)), (1, .long x1), (3, .long x3), (5, .int x5), (6, .int x6), (7, .int x7), (8, .int x8), (9, .int x9)] → W p l e (headSpec ws_M_badCounts { frames := 3, cells := 0, slots := 0, locals := 63 }).room s m args below meth c H locs 0 0 Q (F0 m 52 ls [.int s0]) := by
            intro x1 x3 x5 x6 x7 x8 x9 s0 H locs ls hf hP hD hS hl
            unfold f_M_badCounts_52 at hf
            refine lv_istore (lv' := [(10, .int s0), (0, .ref (h 0)), (1, .long x1), (3, .long x3), (5, .int x5), (6, .int x6), (7, .int x7), (8, .int x8), (9, .int x9)]) hx hb d_M_badCounts_52 hl (by decide) rfl (fun ls hl => ?_)
            refine lv_iload hx hb d_M_badCounts_54 (lv_at hl 0 rfl) ?_
            refine lv_if_eq (tgt := 93) hx hb d_M_badCounts_56 (by decide) (fun c_1 => ?_) (fun c_1 => ?_)
            · have hf := ite_t c_1 hf
              exact hj_93 x1 x3 x5 x6 x7 x8 x9 _ _ _ hf hP hD hS (lv_sub hl [1, 2, 3, 4, 5, 6, 7, 8] rfl)
            · have hf := ite_f c_1 hf
              refine lv_aload_n hx hb d_M_badCounts_59 rfl (lv_at hl 1 rfl) ?_
              refine va_get (D := (dC, dI)) (ci := 5) (v := .ref (h 3)) (C := R_M) (T := T_M) (N := 19) hx hb htb in_M hown hK hP 0 rfl rfl 10 (by decide) (htb _ tw_776) (fun _ h9 => h9) rfl d_M_badCounts_60 ?_
              refine lv_aload_n hx hb d_M_badCounts_63 rfl (lv_at hl 1 rfl) ?_
              refine lv_iload hx hb d_M_badCounts_64 (lv_at hl 4 rfl) ?_
              obtain ⟨r_2, hc_3, hf⟩ := bd1_s hf
              refine ucVi (As := [.int x5]) (rest := [.ref (h 3)]) ⟨hx, hb, hml, hown, htb⟩ hK hP hD hS hA (fun hs => c_M_begin hc_3) (cwV 1 htb (gV tw_899 tw_901 tw_40 tw_74 tw_902) rfl rfl rfl (by decide +kernel) ⟨Nat.le_of_ble_eq_true rfl, Nat.le_of_ble_eq_true rfl⟩) 0 5 rfl rfl rfl rfl rfl hl.1 (Nat.le_of_ble_eq_true rfl) d_M_badCounts_66 ⟨Nat.zero_le _, Nat.zero_le _⟩ (fun H locs hP hD hS => ?_)
              refine lv_iload hx hb d_M_badCounts_69 (lv_at hl 8 rfl) ?_
              refine lv_iadd hx hb d_M_badCounts_71 ?_
              obtain ⟨c_4, hf⟩ := gd_s hf
              refine va_zald (i := r_2 + x9) hx hb hK hP 3 2 rfl rfl c_4 d_M_badCounts_72 ?_
              refine lv_if_ne (tgt := 93) hx hb d_M_badCounts_73 (by decide) (fun c_5 => ?_) (fun c_5 => ?_)
              · have hf := ite_f c_5 hf
                exact hj_93 x1 x3 x5 x6 x7 x8 x9 _ _ _ hf hP hD hS (lv_sub hl [1, 2, 3, 4, 5, 6, 7, 8] rfl)
              · have hf := ite_t c_5 hf
                refine lv_aload_n hx hb d_M_badCounts_76 rfl (lv_at hl 1 rfl) ?_
                refine va_get (D := (dC, dI)) (ci := 5) (v := .ref (h 4)) (C := R_M) (T := T_M) (N := 19) hx hb htb in_M hown hK hP 0 rfl rfl 11 (by decide) (htb _ tw_777) (fun _ h9 => h9) rfl d_M_badCounts_77 ?_
                refine lv_aload_n hx hb d_M_badCounts_80 rfl (lv_at hl 1 rfl) ?_
                refine lv_iload hx hb d_M_badCounts_81 (lv_at hl 4 rfl) ?_
                obtain ⟨r_6, hc_7, hf⟩ := bd1_s hf
                refine ucVi (As := [.int x5]) (rest := [.ref (h 4)]) ⟨hx, hb, hml, hown, htb⟩ hK hP hD hS hA (fun hs => c_M_begin hc_7) (cwV 1 htb (gV tw_899 tw_901 tw_40 tw_74 tw_902) rfl rfl rfl (by decide +kernel) ⟨Nat.le_of_ble_eq_true rfl, Nat.le_of_ble_eq_true rfl⟩) 0 5 rfl rfl rfl rfl rfl hl.1 (Nat.le_of_ble_eq_true rfl) d_M_badCounts_83 ⟨Nat.zero_le _, Nat.zero_le _⟩ (fun H locs hP hD hS => ?_)
                refine lv_iload hx hb d_M_badCounts_86 (lv_at hl 8 rfl) ?_
                refine lv_iadd hx hb d_M_badCounts_88 ?_
                obtain ⟨c_8, hf⟩ := gd_s hf
                refine va_zald (i := r_6 + x9) hx hb hK hP 4 2 rfl rfl c_8 d_M_badCounts_89 ?_
                refine lv_if_eq (tgt := 97) hx hb d_M_badCounts_90 (by decide) (fun c_9 => ?_) (fun c_9 => ?_)
                · have hf := ite_t c_9 hf
                  refine lv_iconst (v := 0) hx hb d_M_badCounts_97 (by decide) ?_
                  exact hj_98 x1 x3 x5 x6 x7 x8 x9 ((0 : Int32)) _ _ _ hf hP hD hS (lv_sub hl [1, 2, 3, 4, 5, 6, 7, 8] rfl)
                · have hf := ite_f c_9 hf
                  exact hj_93 x1 x3 x5 x6 x7 x8 x9 _ _ _ hf hP hD hS (lv_sub hl [1, 2, 3, 4, 5, 6, 7, 8] rfl)
          intro x1 x3 x5 x6 x7 x8 x9 H locs ls hf hP hD hS hl
          rw [f_M_badCounts_28] at hf
          refine lv_iload hx hb d_M_badCounts_28 (lv_at hl 7 rfl) ?_
          refine lv_sipush (v := 8192) hx hb d_M_badCounts_30 (by decide) ?_
          refine lv_icmp_ge (tgt := 205) hx hb d_M_badCounts_33 (by decide) (fun c_1 => ?_) (fun c_1 => ?_)
          · have hf := ite_t c_1 hf
            refine lv_iconst (v := 0) hx hb d_M_badCounts_205 (by decide) ?_
            refine lv_istore (lv' := [(9, .int ((0 : Int32))), (0, .ref (h 0)), (1, .long x1), (3, .long x3), (5, .int x5), (6, .int x6), (7, .int x7), (8, .int x8)]) hx hb d_M_badCounts_206 hl (by decide) rfl (fun ls hl => ?_)
            exact hj_208 N x1 x3 x5 x6 x7 x8 ((0 : Int32)) _ _ _ hf hP hD hS (lv_sub hl [1, 2, 3, 4, 5, 6, 7, 0] rfl)
          · have hf := ite_f c_1 hf
            refine lv_iload hx hb d_M_badCounts_36 (lv_at hl 7 rfl) ?_
            refine lv_aload_n hx hb d_M_badCounts_38 rfl (lv_at hl 0 rfl) ?_
            refine lv_iload hx hb d_M_badCounts_39 (lv_at hl 3 rfl) ?_
            obtain ⟨r_2, hc_3, hf⟩ := bd1_s hf
            refine ucVi (As := [.int x5]) (rest := [.int x9]) ⟨hx, hb, hml, hown, htb⟩ hK hP hD hS hA (fun hs => c_M_sizeOf hc_3) (cwV 1 htb (gV tw_895 tw_897 tw_39 tw_74 tw_898) rfl rfl rfl (by decide +kernel) ⟨Nat.le_of_ble_eq_true rfl, Nat.le_of_ble_eq_true rfl⟩) 0 5 rfl rfl rfl rfl rfl hl.1 (Nat.le_of_ble_eq_true rfl) d_M_badCounts_41 ⟨Nat.zero_le _, Nat.zero_le _⟩ (fun H locs hP hD hS => ?_)
            refine lv_icmp_ge (tgt := 51) hx hb d_M_badCounts_44 (by decide) (fun c_4 => ?_) (fun c_4 => ?_)
            · have hf := ite_t c_4 hf
              refine lv_iconst (v := 0) hx hb d_M_badCounts_51 (by decide) ?_
              exact hj_52 x1 x3 x5 x6 x7 x8 x9 ((0 : Int32)) _ _ _ hf hP hD hS (lv_sub hl [0, 1, 2, 3, 4, 5, 6, 7] rfl)
            · have hf := ite_f c_4 hf
              refine lv_iconst (v := 1) hx hb d_M_badCounts_47 (by decide) ?_
              refine lv_goto (tgt := 52) hx hb d_M_badCounts_48 (by decide) ?_
              exact hj_52 x1 x3 x5 x6 x7 x8 x9 ((1 : Int32)) _ _ _ hf hP hD hS (lv_sub hl [0, 1, 2, 3, 4, 5, 6, 7] rfl)
      intro x1 x3 x5 H locs ls hf hP hD hS hl
      rw [f_M_badCounts_7] at hf
      refine lv_iload hx hb d_M_badCounts_7 (lv_at hl 3 rfl) ?_
      refine lv_aload_n hx hb d_M_badCounts_9 rfl (lv_at hl 0 rfl) ?_
      refine va_get (D := (dC, dI)) (ci := 5) (v := .int qq) (C := R_M) (T := T_M) (N := 19) hx hb htb in_M hown hK hP 0 rfl rfl 8 (by decide) (htb _ tw_774) (fun _ h9 => h9) rfl d_M_badCounts_10 ?_
      refine lv_icmp_ge (tgt := 342) hx hb d_M_badCounts_13 (by decide) (fun c_1 => ?_) (fun c_1 => ?_)
      · have hf := ite_t c_1 hf
        refine lv_aload_n hx hb d_M_badCounts_342 rfl (lv_at hl 0 rfl) ?_
        refine lv_sipush (v := 1036) hx hb d_M_badCounts_343 (by decide) ?_
        obtain ⟨r_2, hc_3, hf⟩ := bd1_s hf
        refine ucVl (As := [.int ((1036 : Int32))]) (rest := []) ⟨hx, hb, hml, hown, htb⟩ hK hP hD hS hA (fun hs => c_M_four hc_3) (cwV 1 htb (gV tw_874 tw_876 tw_36 tw_74 tw_877) rfl rfl rfl (by decide +kernel) ⟨Nat.le_of_ble_eq_true rfl, Nat.le_of_ble_eq_true rfl⟩) 0 5 rfl rfl rfl rfl rfl hl.1 (Nat.le_of_ble_eq_true rfl) d_M_badCounts_346 ⟨Nat.zero_le _, Nat.zero_le _⟩ (fun H locs hP hD hS => ?_)
        refine lv_lload_n hx hb d_M_badCounts_349 rfl (lv_at hl 1 rfl) ?_
        refine lc_ne (tgt := 366) hx hb d_M_badCounts_350 d_M_badCounts_351 (by decide) (fun c_4 => ?_) (fun c_4 => ?_)
        · have hf := ite_f c_4 hf
          refine lv_iconst (v := 1) hx hb d_M_badCounts_366 (by decide) ?_
          refine lv_goto (tgt := 371) hx hb d_M_badCounts_367 (by decide) ?_
          cases hf
          exact hret _ _ _ _ (Or.inr rfl) hP hD hS d_M_badCounts_371
        · have hf := ite_t c_4 hf
          refine lv_aload_n hx hb d_M_badCounts_354 rfl (lv_at hl 0 rfl) ?_
          refine lv_sipush (v := 1040) hx hb d_M_badCounts_355 (by decide) ?_
          obtain ⟨r_5, hc_6, hf⟩ := bd1_s hf
          refine ucVl (As := [.int ((1040 : Int32))]) (rest := []) ⟨hx, hb, hml, hown, htb⟩ hK hP hD hS hA (fun hs => c_M_four hc_6) (cwV 1 htb (gV tw_874 tw_876 tw_36 tw_74 tw_877) rfl rfl rfl (by decide +kernel) ⟨Nat.le_of_ble_eq_true rfl, Nat.le_of_ble_eq_true rfl⟩) 0 5 rfl rfl rfl rfl rfl hl.1 (Nat.le_of_ble_eq_true rfl) d_M_badCounts_358 ⟨Nat.zero_le _, Nat.zero_le _⟩ (fun H locs hP hD hS => ?_)
          refine lv_lload_n hx hb d_M_badCounts_361 rfl (lv_at hl 2 rfl) ?_
          refine lc_eq (tgt := 370) hx hb d_M_badCounts_362 d_M_badCounts_363 (by decide) (fun c_7 => ?_) (fun c_7 => ?_)
          · have hf := ite_t c_7 hf
            refine lv_iconst (v := 0) hx hb d_M_badCounts_370 (by decide) ?_
            cases hf
            exact hret _ _ _ _ (Or.inl rfl) hP hD hS d_M_badCounts_371
          · have hf := ite_f c_7 hf
            refine lv_iconst (v := 1) hx hb d_M_badCounts_366 (by decide) ?_
            refine lv_goto (tgt := 371) hx hb d_M_badCounts_367 (by decide) ?_
            cases hf
            exact hret _ _ _ _ (Or.inr rfl) hP hD hS d_M_badCounts_371
      · have hf := ite_f c_1 hf
        refine lv_iconst (v := 0) hx hb d_M_badCounts_16 (by decide) ?_
        refine lv_istore (lv' := [(6, .int ((0 : Int32))), (0, .ref (h 0)), (1, .long x1), (3, .long x3), (5, .int x5)]) hx hb d_M_badCounts_17 hl (by decide) rfl (fun ls hl => ?_)
        refine lv_iconst (v := 0) hx hb d_M_badCounts_19 (by decide) ?_
        refine lv_istore (lv' := [(7, .int ((0 : Int32))), (6, .int ((0 : Int32))), (0, .ref (h 0)), (1, .long x1), (3, .long x3), (5, .int x5)]) hx hb d_M_badCounts_20 hl (by decide) rfl (fun ls hl => ?_)
        refine lv_iconst (v := 0) hx hb d_M_badCounts_22 (by decide) ?_
        refine lv_istore (lv' := [(8, .int ((0 : Int32))), (7, .int ((0 : Int32))), (6, .int ((0 : Int32))), (0, .ref (h 0)), (1, .long x1), (3, .long x3), (5, .int x5)]) hx hb d_M_badCounts_23 hl (by decide) rfl (fun ls hl => ?_)
        refine lv_iconst (v := 0) hx hb d_M_badCounts_25 (by decide) ?_
        refine lv_istore (lv' := [(9, .int ((0 : Int32))), (8, .int ((0 : Int32))), (7, .int ((0 : Int32))), (6, .int ((0 : Int32))), (0, .ref (h 0)), (1, .long x1), (3, .long x3), (5, .int x5)]) hx hb d_M_badCounts_26 hl (by decide) rfl (fun ls hl => ?_)
        exact hj_28 N x1 x3 x5 ((0 : Int32)) ((0 : Int32)) ((0 : Int32)) ((0 : Int32)) _ _ _ hf hP hD hS (lv_sub hl [4, 5, 6, 7, 3, 2, 1, 0] rfl)
  unfold f_M_badCounts at hf
  refine lv_lconst (v := 0) hx hb d_M_badCounts_0 (by decide) ?_
  refine lv_lstore_n (lv' := [(1, .long ((0 : Int64))), (0, .ref (h 0))]) hx hb d_M_badCounts_1 rfl hl (by decide) rfl (fun ls hl => ?_)
  refine lv_lconst (v := 0) hx hb d_M_badCounts_2 (by decide) ?_
  refine lv_lstore_n (lv' := [(3, .long ((0 : Int64))), (1, .long ((0 : Int64))), (0, .ref (h 0))]) hx hb d_M_badCounts_3 rfl hl (by decide) rfl (fun ls hl => ?_)
  refine lv_iconst (v := 0) hx hb d_M_badCounts_4 (by decide) ?_
  refine lv_istore (lv' := [(5, .int ((0 : Int32))), (3, .long ((0 : Int64))), (1, .long ((0 : Int64))), (0, .ref (h 0))]) hx hb d_M_badCounts_5 hl (by decide) rfl (fun ls hl => ?_)
  exact hj_7 N ((0 : Int64)) ((0 : Int64)) ((0 : Int32)) _ _ _ hf hP hD hS (lv_sub hl [3, 2, 1, 0] rfl)
