theorem tw_82 : Cond.classLink R_A 8 "InodeVolumes" ∈ TB := inTB 82 (by decide +kernel) rfl
theorem tw_83 : Cond.instantiable R_V 5 ∈ TB := inTB 83 (by decide +kernel) rfl
theorem tw_84 : Cond.methodLink R_A 44 y_V_init ∈ TB := inTB 84 (by decide +kernel) rfl
theorem tw_85 : Cond.instanceMethod y_V_init ∈ TB := inTB 85 (by decide +kernel) rfl
set_option maxRecDepth 100000 in
theorem tw_86 : Cond.code y_V_init prog_1_method_1_code 2 none ∈ TB := inTB 86 rfl rfl
theorem tw_580 : Cond.methodLink R_A 38 y_A_cell ∈ TB := inTB 580 (by decide +kernel) rfl
theorem tw_581 : Cond.static y_A_cell ∈ TB := inTB 581 (by decide +kernel) rfl
set_option maxRecDepth 100000 in
theorem tw_582 : Cond.code y_A_cell method_2_code 2 (some .int) ∈ TB := inTB 582 rfl rfl
theorem tw_759 : Cond.classLink R_A 47 "InodeVolumesModel" ∈ TB := inTB 759 (by decide +kernel) rfl
theorem tw_760 : Cond.instantiable R_M 19 ∈ TB := inTB 760 (by decide +kernel) rfl
theorem tw_761 : Cond.methodLink R_A 49 y_M_init ∈ TB := inTB 761 (by decide +kernel) rfl
theorem tw_762 : Cond.instanceMethod y_M_init ∈ TB := inTB 762 (by decide +kernel) rfl
set_option maxRecDepth 100000 in
theorem tw_763 : Cond.code y_M_init prog_7_method_1_code 2 none ∈ TB := inTB 763 rfl rfl
theorem arr_known {args : Array Value} {s : State} {ty : FieldType} (h : (Cond.arrayClass ty).before args s = true) : ∃ cA : ClassId, ArrOfT s cA ty ∧ s.vm.findClass ("[" ++ ty.toString) = some cA := by
  obtain ⟨cA, kA, comp, h1, h2, h3⟩ := Cond.arrayClass_spec h
  exact ⟨cA, fun n z => ⟨fun k h => (by cases h), kA, h2, comp, h3⟩, h1⟩
theorem cell_blind {b L : Nat} {xs : Nat → Int32} : FrameBlind (va_Pc [.ref b, .int 0] (fun U => va_X b L xs U U.heap ∧ b < U.heap.size)) := fun a U g mk q => by
  obtain ⟨q0, q1, q2⟩ := q
  exact ⟨q0, va_X.moved (u := U) (U := U.calling g mk a) (Vm.Alike.refl U.vm) q1, q2⟩
set_option maxRecDepth 100000 in
/-- what the Statement gives at the law's entry, for the throws -/
theorem start_facts {s : State} {b : Nat} (hts : ∀ w ∈ lw_tbl, w.before #[Value.ref b] s = true) (hgv : (Jvm.Cond.and given_1 narrow_1).before #[Value.ref b] s = true) : ZU (fun q : Nat => s.heap.size ≤ q) s s.heap ∧ StrU R_V strsV s ∧ NcU s := by
  have hg := flat_of_before _ hgv
  have hout : ∀ a : Nat, a < s.heap.size → ¬ (fun q : Nat => s.heap.size ≤ q) a := fun a h => Nat.not_le.mpr h
  have lU : (Cond.laysStatic Bundle.tN "UNASSIGNED_STACK" Bundle.steD).before #[Value.ref b] s = true := hts _ (by decide +kernel)
  have lN : (Cond.laysStatic Bundle.tN "SUPPRESSED_SENTINEL" Bundle.listD).before #[Value.ref b] s = true := hts _ (by decide +kernel)
  have hT : (Cond.initialized Bundle.tN).before #[Value.ref b] s = true := hts _ (by decide +kernel)
  have rU : (Cond.isRef (.static Bundle.tN "UNASSIGNED_STACK" Bundle.steD)).before #[Value.ref b] s = true := hg _ (by decide +kernel)
  have rN : (Cond.isRef (.static Bundle.tN "SUPPRESSED_SENTINEL" Bundle.listD)).before #[Value.ref b] s = true := hg _ (by decide +kernel)
  refine ⟨⟨⟨va_Zqof lU hT rU hout, StL.of lU hout⟩, va_Zqof lN hT rN hout, StL.of lN hout⟩, ⟨?_, ?_⟩, va_Nc.of (hg (.not (.castable (exn 2) (exn 1))) (by decide +kernel)), va_Nc.of (hg (.not (.castable (exn 3) (exn 1))) (by decide +kernel)), va_Nc.of (hg (.not (.castable (exn 3) (exn 2))) (by decide +kernel))⟩
  · have hall : strsV.all (fun x => decide (Cond.stringRef R_V x.1 x.2 ∈ lw_tbl)) = true := by decide +kernel
    intro x hx
    have hs := hts _ (of_decide_eq_true (List.all_eq_true.mp hall x hx))
    have hV : (Cond.initialized R_V).before #[Value.ref b] s = true := hts _ (by decide +kernel)
    cases hc : s.vm.findClass R_V with
    | none => simp [Cond.before, Cond.holds, Cond.value, hc] at hV
    | some cur =>
      obtain ⟨k, cf, i, a, -, -, -, -, -, hev⟩ := Cond.stringRef_spec (args := #[Value.ref b]) (first := s) (o := none) (idx := []) hc hs
      exact ⟨a, vk_R.of hs hev⟩
  · have hall : nwL.all (fun w => decide (w ∈ lw_tbl)) = true := by decide +kernel
    exact fun w hw => va_Nw.of (nwL_tab w hw) (hts _ (of_decide_eq_true (List.all_eq_true.mp hall w hw)))
set_option maxHeartbeats 8000000 in
set_option maxRecDepth 100000 in
/-- the law from its entry: true, if there is a relation that a new pair is in and that every call keeps -/
theorem start_open {Rel : Nat → RelT} {N : Nat} (hsim : ∀ k, SimAll N (Rel (k + 1)) (Rel k)) (hdown : ∀ (k NW : Nat) (bk : Int32) (sz : Int32) (wd : Nat → Int64) (mb : Nat → Int32) (gB : Int32) (gI : Int32) (gN : Int32) (iN : Int32) (dr : Int32) (es : Int64) (of : Int64) (od : Int32) (pl : Int64) (hd : Int64) (tk : Nat → Int32) (kn : Nat → Int32) (li : Nat → Int32) (pa : Nat → Int32) (ins : Nat → Int32) (cm : Int32) (fd : Int32) (hr : Int32) (m_th : Int32) (m_nb : Int32) (m_dk : Nat → Int32) (m_lk : Int32) (m_fa : Int32) (m_pp : Int32) (m_gg : Int32) (m_jj : Int32) (m_qq : Int32) (m_mp : Nat → Int32) (m_fx : Nat → Int32) (m_tn : Nat → Int32) (m_mn : Int32) (m_oq : Nat → Int32) (m_pq : Nat → Int32) (m_fo : Nat → Int32) (m_ca : Nat → Int32) (m_hr : Int32) (m_fd : Int32), Rel (k + 1) NW bk sz wd mb gB gI gN iN dr es of od pl hd tk kn li pa ins cm fd hr m_th m_nb m_dk m_lk m_fa m_pp m_gg m_jj m_qq m_mp m_fx m_tn m_mn m_oq m_pq m_fo m_ca m_hr m_fd → Rel k NW bk sz wd mb gB gI gN iN dr es of od pl hd tk kn li pa ins cm fd hr m_th m_nb m_dk m_lk m_fa m_pp m_gg m_jj m_qq m_mp m_fx m_tn m_mn m_oq m_pq m_fo m_ca m_hr m_fd) (hnew : ∀ a1 : Int32, ∃ (bk : Int32) (NW : Nat) (nb : Int32), (if 128 < (if a1 < 512 then a1 else 512) then (if a1 < 512 then a1 else 512) else 128) = bk ∧ (bk * 1024 / 8).toNatClampNeg = NW ∧ ¬ bk * 1024 / 8 < 0 ∧ NW ≤ 65536 ∧ (if 128 ≤ a1 then (if a1 ≤ 512 then a1 else 512) else 128) = nb ∧ Rel 512 NW bk (bk * 1024) (fun _ => 0) (fun _ => 0) 0 0 0 0 0 0 0 0 0 0 (fun _ => 0) (fun _ => 0) (fun _ => 0) (fun _ => 0) (fun _ => 0) 0 (-1) 2 0 nb (fun _ => 0) 0 0 0 0 0 0 (fun _ => 0) (fun _ => 0) (fun _ => 0) 0 (fun _ => 0) (fun _ => 0) (fun _ => 0) (fun _ => 0) 2 0)
    {p : Program} {e : Env} {s : State} {m : MethodId} {below : List Frame} {meth : Method} {c : Code} (l : Launch) (hLs : l.stackTraces = false) {b L : Nat} {xs : Nat → Int32} (hL : L ≤ 2561) (C0 : lw_At p s m meth c b L xs) : W p l e room_1 s m #[Value.ref b] below meth c s.heap [] 0 0 (lw_Z below #[Value.ref b] s) (entryFrame m ([Value.ref b] : List Value).toArray 8) := by
  obtain ⟨hx, hb, hrt9, hml, hown, hts, hX, hbl, hlocks, hgv⟩ := id C0
  obtain ⟨hZ, hSt, hNc⟩ := start_facts hts hgv
  have hown : s.vm.findClass R_A = some m.cls := hown
  have htb : ∀ w ∈ TB, w.before #[Value.ref b] s = true := fun w h => hts w (List.mem_filter.mp h).1
  have hA : ∀ q : Nat, s.heap.size ≤ q → (fun q : Nat => s.heap.size ≤ q) q := fun _ h => h
  have hbA : ¬ (fun q : Nat => s.heap.size ≤ q) b := Nat.not_le.mpr hbl
  obtain ⟨c0, iS0, hKn0⟩ := u_known (C := R_D) (T := T_D) (N := 3) (n := 3) htb in_D (htb _ tw_91)
  obtain ⟨c1, iS1, hKn1⟩ := u_known (C := R_E) (T := T_E) (N := 8) (n := 8) htb in_E (htb _ tw_140)
  obtain ⟨c2, iS2, hKn2⟩ := u_known (C := R_L) (T := T_L) (N := 6) (n := 6) htb in_L (htb _ tw_114)
  obtain ⟨c3, iS3, hKn3⟩ := u_known (C := R_S) (T := T_S) (N := 10) (n := 10) htb in_S (htb _ tw_171)
  obtain ⟨c4, iS4, hKn4⟩ := u_known (C := R_V) (T := T_V) (N := 5) (n := 5) htb in_V (htb _ tw_83)
  obtain ⟨c5, iS5, hKn5⟩ := u_known (C := R_M) (T := T_M) (N := 19) (n := 19) htb in_M (htb _ tw_760)
  obtain ⟨dC, dI, hKc⟩ : ∃ (dC : Nat → ClassId) (dI : Nat → Nat → Nat), ∀ (k : Nat) (q : vw_C), clAll[k]? = some q → u_Kn s q.1 q.2.1 q.2.2 (dC k) (dI k) := by
    refine ⟨fun k => if k = 0 then c0 else if k = 1 then c1 else if k = 2 then c2 else if k = 3 then c3 else if k = 4 then c4 else c5, fun k => if k = 0 then iS0 else if k = 1 then iS1 else if k = 2 then iS2 else if k = 3 then iS3 else if k = 4 then iS4 else iS5, ?_⟩
    intro k q hq
    match k, hq with
    | 0, hq => cases hq; exact hKn0
    | 1, hq => cases hq; exact hKn1
    | 2, hq => cases hq; exact hKn2
    | 3, hq => cases hq; exact hKn3
    | 4, hq => cases hq; exact hKn4
    | 5, hq => cases hq; exact hKn5
    | k + 6, hq => simp [clAll] at hq
  obtain ⟨cI, aI, fI⟩ := arr_known (ty := .int) (htb _ tw_138)
  obtain ⟨cL, aL, fL⟩ := arr_known (ty := .long) (htb _ tw_112)
  obtain ⟨cB, aB, fB⟩ := arr_known (ty := .byte) (htb _ tw_658)
  obtain ⟨cZ, aZ, fZ⟩ := arr_known (ty := .boolean) (htb _ tw_824)
  have hK : va_K (dC, dI) clAll [(cI, .int), (cL, .long), (cB, .byte), (cZ, .boolean)] s := by
    refine ⟨hKc, fun k q hq => ?_⟩
    match k, hq with
    | 0, hq => cases hq; exact ⟨aI, fI⟩
    | 1, hq => cases hq; exact ⟨aL, fL⟩
    | 2, hq => cases hq; exact ⟨aB, fB⟩
    | 3, hq => cases hq; exact ⟨aZ, fZ⟩
    | k + 4, hq => simp at hq
  have hKC := hK.sub (tys' := [(cI, .int), (cL, .long)]) [0, 1] rfl
  have hKM := hK.sub (tys' := [(cI, .int), (cB, .byte), (cZ, .boolean)]) [0, 2, 3] rfl
  obtain ⟨x0, ex0⟩ : ∃ x0 : Int32, x0 = if 0 < L then xs 0 else 0 := ⟨_, rfl⟩
  obtain ⟨bk, NW, nb, hbk, hnw, hneg, hNW, hnb, hrel⟩ := hnew x0
  have hS : va_S (fun q : Nat => s.heap.size ≤ q) s.heap s.heap [] := va_S.rf
  have hP : va_P (dC, dI) clAll [] s.heap := fun k q h => by simp at h
  have hD : va_D (fun q : Nat => s.heap.size ≤ q) [] := ⟨fun i j p q h => by simp at h, fun k q h => by simp at h⟩
  have hl := lv_entry ([.ref b]) (n := 8) (Nat.le_of_ble_eq_true rfl)
  rw [lg_entry_eq]
  generalize (lg_sl ([.ref b]) ++ List.replicate (8 - (lg_sl ([.ref b])).length) Slot.unset).toArray = ls at hl ⊢
  have hl : lv_has ls 8 [(0, .ref b)] := hl
  generalize hH : s.heap = H at hP ⊢
  rw [hH] at hS
  have hS : va_S (fun q : Nat => s.heap.size ≤ q) s.heap H [] := by rw [hH]; exact hS
  refine va_new (ci := 4) (fs := [.null, .null, .null, .null, .int 0]) (C := R_V) (T := T_V) (N := 5) hx hb htb in_V ty_V tyok_V hown (htb _ tw_82) (htb _ tw_83) (htb _ tw_68) hK hP hD hS hA rfl (by decide +kernel) (by show _ ≤ (601024 : Nat); omega) (by show _ ≤ (7293000 : Nat); omega) d_A_law_0 (fun v0 H hP hD hS => ?_)
  have hP : va_P (dC, dI) clAll [(v0, .inr (4, [.null, .null, .null, .null, .int 0]))] H := hP
  have hD : va_D (fun q : Nat => s.heap.size ≤ q) [(v0, .inr (4, [.null, .null, .null, .null, .int 0]))] := hD
  refine lv_dup hx hb d_A_law_3 rfl ?_
  refine lv_aload_n hx hb d_A_law_4 rfl (lv_at hl 0 rfl) ?_
  refine lv_iconst (v := 0) hx hb d_A_law_5 (by decide) ?_
  have hXh : va_X b L xs s H := hX.kept (hS.2.1 b hbl hbA)
  have hbH : b < H.size := Nat.lt_of_lt_of_le hbl hS.1
  refine va_calli (va_runS (As := [.ref b, .int 0]) (rest := [.ref v0, .ref v0]) ⟨hx, hb, hml, hown, htb⟩ (c_A_cell (l := l) (b := b) (L := L) (xs := xs) (by omega)) (va_cwS 2 htb (gS tw_580 tw_581 tw_67 tw_582) rfl rfl rfl (by decide +kernel) ⟨Nat.le_of_ble_eq_true rfl, Nat.le_of_ble_eq_true rfl⟩) ⟨cell_blind, fun U hU hW => ⟨rfl, by rw [hU]; exact va_X.moved hW.alike hXh, by rw [hU]; exact hbH⟩⟩ rfl rfl hl.1 rfl (lv_room (Nat.le_of_ble_eq_true rfl)) d_A_law_6 ⟨by show _ ≤ (601024 : Nat); omega, by show _ ≤ (7293000 : Nat); omega⟩) hS (fun q _ h => h.elim) (fun q h => h.elim) (fun r9 u t H1 locs1 ht hvm hw hB hz1 hk1 hS1 => ?_)
  rw [hw, ← ex0]
  have hP := hP.kept (H1 := H1) (fun k q hq => hk1 _ ((hP k q hq).lt) (fun h => h))
  have hS := hS1
  generalize H1 = H at hP hS ⊢
  generalize locs1 = locs at hS ⊢
  have hP : va_P (dC, dI) clAll (([] : va_W) ++ ([(v0, .inr (4, [.null, .null, .null, .null, .int 0]))] ++ [])) H := by simpa using hP
  have hD : va_D (fun q : Nat => s.heap.size ≤ q) (([] : va_W) ++ ([(v0, .inr (4, [.null, .null, .null, .null, .int 0]))] ++ [])) := by simpa using hD
  have hFc := fr_free hD hS hA
  refine va_callv (va_runI (As := [.int x0]) (rest := [.ref v0]) ⟨hx, hb, hml, hown, htb⟩ (i_V (cI := cI) (cL := cL) (a1 := x0) hbk hnw hneg hNW (hs := H.size)) (cwI 1 htb (gI tw_86) rfl rfl rfl (htb _ tw_68) (htb _ tw_84) (htb _ tw_85) rfl (by decide +kernel) ⟨Nat.le_of_ble_eq_true rfl, Nat.le_of_ble_eq_true rfl⟩) ⟨ct_blind, fun U hU hW => ⟨rfl, by rw [hU], by rw [hU]; exact pa_l (pa_r hP), va_K.moved hW.alike hKC, (da_l (da_r hD)).weaken (fun _ _ _ _ => trivial)⟩⟩ rfl rfl hl.1 rfl (lv_room (Nat.le_of_ble_eq_true rfl)) d_A_law_9 ⟨by show _ ≤ (601024 : Nat); omega, by show _ ≤ (7293000 : Nat); omega⟩) hS (fun q _ h => hFc q h) hFc (fun h t H1 locs1 ht hvm hw hB hz1 hk1 hS1 => ?_)
  obtain ⟨hP1, -, hD1⟩ := hB
  rw [ht] at hP1
  obtain ⟨hP, hD⟩ := fr_join hP hD hk1 hFc hP1 hD1
  have hS := hS1
  generalize H1 = H at hP hS ⊢
  generalize locs1 = locs at hS ⊢
  have hP : va_P (dC, dI) clAll (wC h cI cL NW bk (bk * 1024) (fun _ => 0) (fun _ => 0) 0 0 0 0 0 0 0 0 0 0 (fun _ => 0) (fun _ => 0) (fun _ => 0) (fun _ => 0) (fun _ => 0) 0 (-1) 2) H := by simpa using hP
  have hD : va_D (fun q : Nat => s.heap.size ≤ q) (wC h cI cL NW bk (bk * 1024) (fun _ => 0) (fun _ => 0) 0 0 0 0 0 0 0 0 0 0 (fun _ => 0) (fun _ => 0) (fun _ => 0) (fun _ => 0) (fun _ => 0) 0 (-1) 2) := by simpa using hD
  refine lv_astore_n (lv' := [(1, .ref v0), (0, .ref b)]) hx hb d_A_law_12 rfl hl (by decide) rfl (fun ls hl => ?_)
  rw [← hw] at hl
  refine va_new (ci := 5) (fs := [.int 0, .int 0, .null, .int 0, .int 0, .int 0, .int 0, .int 0, .int 0, .null, .null, .null, .int 0, .null, .null, .null, .null, .int 0, .int 0]) (C := R_M) (T := T_M) (N := 19) hx hb htb in_M ty_M tyok_M hown (htb _ tw_759) (htb _ tw_760) (htb _ tw_74) hK hP hD hS hA rfl (by decide +kernel) (by show _ ≤ (601024 : Nat); omega) (by show _ ≤ (7293000 : Nat); omega) d_A_law_13 (fun mo H hP hD hS => ?_)
  refine lv_dup hx hb d_A_law_16 rfl ?_
  refine lv_aload_n hx hb d_A_law_17 rfl (lv_at hl 1 rfl) ?_
  refine lv_iconst (v := 0) hx hb d_A_law_18 (by decide) ?_
  have hXh : va_X b L xs s H := hX.kept (hS.2.1 b hbl hbA)
  have hbH : b < H.size := Nat.lt_of_lt_of_le hbl hS.1
  refine va_calli (va_runS (As := [.ref b, .int 0]) (rest := [.ref mo, .ref mo]) ⟨hx, hb, hml, hown, htb⟩ (c_A_cell (l := l) (b := b) (L := L) (xs := xs) (by omega)) (va_cwS 2 htb (gS tw_580 tw_581 tw_67 tw_582) rfl rfl rfl (by decide +kernel) ⟨Nat.le_of_ble_eq_true rfl, Nat.le_of_ble_eq_true rfl⟩) ⟨cell_blind, fun U hU hW => ⟨rfl, by rw [hU]; exact va_X.moved hW.alike hXh, by rw [hU]; exact hbH⟩⟩ rfl rfl hl.1 rfl (lv_room (Nat.le_of_ble_eq_true rfl)) d_A_law_19 ⟨by show _ ≤ (601024 : Nat); omega, by show _ ≤ (7293000 : Nat); omega⟩) hS (fun q _ h => h.elim) (fun q h => h.elim) (fun r9 u t H1 locs1 ht hvm hw hB hz1 hk1 hS1 => ?_)
  rw [hw, ← ex0]
  have hP := hP.kept (H1 := H1) (fun k q hq => hk1 _ ((hP k q hq).lt) (fun h => h))
  have hS := hS1
  generalize H1 = H at hP hS ⊢
  generalize locs1 = locs at hS ⊢
  have hP : va_P (dC, dI) clAll ((wC h cI cL NW bk (bk * 1024) (fun _ => 0) (fun _ => 0) 0 0 0 0 0 0 0 0 0 0 (fun _ => 0) (fun _ => 0) (fun _ => 0) (fun _ => 0) (fun _ => 0) 0 (-1) 2) ++ ([(mo, .inr (5, [.int 0, .int 0, .null, .int 0, .int 0, .int 0, .int 0, .int 0, .int 0, .null, .null, .null, .int 0, .null, .null, .null, .null, .int 0, .int 0]))] ++ [])) H := by simpa using hP
  have hD : va_D (fun q : Nat => s.heap.size ≤ q) ((wC h cI cL NW bk (bk * 1024) (fun _ => 0) (fun _ => 0) 0 0 0 0 0 0 0 0 0 0 (fun _ => 0) (fun _ => 0) (fun _ => 0) (fun _ => 0) (fun _ => 0) 0 (-1) 2) ++ ([(mo, .inr (5, [.int 0, .int 0, .null, .int 0, .int 0, .int 0, .int 0, .int 0, .int 0, .null, .null, .null, .int 0, .null, .null, .null, .null, .int 0, .int 0]))] ++ [])) := by simpa using hD
  have hFc := fr_free hD hS hA
  refine va_callv (va_runI (As := [.int x0]) (rest := [.ref mo]) ⟨hx, hb, hml, hown, htb⟩ (i_M (cI := cI) (cB := cB) (cZ := cZ) (a1 := x0) hnb (hs := H.size)) (cwI 1 htb (gI tw_763) rfl rfl rfl (htb _ tw_74) (htb _ tw_761) (htb _ tw_762) rfl (by decide +kernel) ⟨Nat.le_of_ble_eq_true rfl, Nat.le_of_ble_eq_true rfl⟩) ⟨ct_blind, fun U hU hW => ⟨rfl, by rw [hU], by rw [hU]; exact pa_l (pa_r hP), va_K.moved hW.alike hKM, (da_l (da_r hD)).weaken (fun _ _ _ _ => trivial)⟩⟩ rfl rfl hl.1 rfl (lv_room (Nat.le_of_ble_eq_true rfl)) d_A_law_22 ⟨by show _ ≤ (601024 : Nat); omega, by show _ ≤ (7293000 : Nat); omega⟩) hS (fun q _ h => hFc q h) hFc (fun g t H1 locs1 ht hvm hw hB hz1 hk1 hS1 => ?_)
  obtain ⟨hP1, -, hD1⟩ := hB
  rw [ht] at hP1
  obtain ⟨hP, hD⟩ := fr_join hP hD hk1 hFc hP1 hD1
  have hS := hS1
  generalize H1 = H at hP hS ⊢
  generalize locs1 = locs at hS ⊢
  have hP : va_P (dC, dI) clAll ((wC h cI cL NW bk (bk * 1024) (fun _ => 0) (fun _ => 0) 0 0 0 0 0 0 0 0 0 0 (fun _ => 0) (fun _ => 0) (fun _ => 0) (fun _ => 0) (fun _ => 0) 0 (-1) 2) ++ (wM g cI cB cZ 0 nb (fun _ => 0) 0 0 0 0 0 0 (fun _ => 0) (fun _ => 0) (fun _ => 0) 0 (fun _ => 0) (fun _ => 0) (fun _ => 0) (fun _ => 0) 2 0)) H := by rw [List.append_nil] at hP; exact hP
  have hD : va_D (fun q : Nat => s.heap.size ≤ q) ((wC h cI cL NW bk (bk * 1024) (fun _ => 0) (fun _ => 0) 0 0 0 0 0 0 0 0 0 0 (fun _ => 0) (fun _ => 0) (fun _ => 0) (fun _ => 0) (fun _ => 0) 0 (-1) 2) ++ (wM g cI cB cZ 0 nb (fun _ => 0) 0 0 0 0 0 0 (fun _ => 0) (fun _ => 0) (fun _ => 0) 0 (fun _ => 0) (fun _ => 0) (fun _ => 0) (fun _ => 0) 2 0)) := by rw [List.append_nil] at hD; exact hD
  refine lv_astore_n (lv' := [(2, .ref mo), (1, .ref (h 0)), (0, .ref b)]) hx hb d_A_law_25 rfl hl (by decide) rfl (fun ls hl => ?_)
  rw [← hw] at hl
  refine lv_iconst (v := 1) hx hb d_A_law_26 (by decide) ?_
  refine nwa (ty := .long) (atype := .long) (a0 := (1, .inr (.inl (fun _ => 0)))) 1 rfl (fun _ _ h9 => h9) hx hb (htb _ tw_112) rfl hK hP hD hS hA (fun _ => rfl) (by decide) rfl (by show _ ≤ _; simp only [componentBytes]; omega) (by show _ ≤ (601024 : Nat); omega) (by show _ ≤ (7293000 : Nat); omega) d_A_law_27 (fun o H hP hD hS => ?_)
  have hPc := pa_l (pa_l hP)
  have hPm := pa_r (pa_l hP)
  have hPo := pa_r hP
  have hDc := da_l (da_l hD)
  have hDm := da_r (da_l hD)
  have hDo := da_r hD
  have xcm := da_x (da_l hD)
  have xo := da_x hD
  have hP : va_P (dC, dI) clAll ((wC h cI cL NW bk (bk * 1024) (fun _ => 0) (fun _ => 0) 0 0 0 0 0 0 0 0 0 0 (fun _ => 0) (fun _ => 0) (fun _ => 0) (fun _ => 0) (fun _ => 0) 0 (-1) 2) ++ ([(o, .inl (cL, 1, .inr (.inl (fun _ => 0))))] ++ (wM g cI cB cZ 0 nb (fun _ => 0) 0 0 0 0 0 0 (fun _ => 0) (fun _ => 0) (fun _ => 0) 0 (fun _ => 0) (fun _ => 0) (fun _ => 0) (fun _ => 0) 2 0))) H := hPc.app (hPo.app hPm)
  have hD : va_D (fun q : Nat => s.heap.size ≤ q) ((wC h cI cL NW bk (bk * 1024) (fun _ => 0) (fun _ => 0) 0 0 0 0 0 0 0 0 0 0 (fun _ => 0) (fun _ => 0) (fun _ => 0) (fun _ => 0) (fun _ => 0) 0 (-1) 2) ++ ([(o, .inl (cL, 1, .inr (.inl (fun _ => 0))))] ++ (wM g cI cB cZ 0 nb (fun _ => 0) 0 0 0 0 0 0 (fun _ => 0) (fun _ => 0) (fun _ => 0) 0 (fun _ => 0) (fun _ => 0) (fun _ => 0) (fun _ => 0) 2 0))) := by
    refine da_app hDc (da_app hDo hDm (fun i j p q hi hj e => xo ((wC h cI cL NW bk (bk * 1024) (fun _ => 0) (fun _ => 0) 0 0 0 0 0 0 0 0 0 0 (fun _ => 0) (fun _ => 0) (fun _ => 0) (fun _ => 0) (fun _ => 0) 0 (-1) 2).length + j) i q p ?_ hi e.symm)) (fun i j p q hi hj e => ?_)
    · rw [List.getElem?_append_right (Nat.le_add_right _ _), Nat.add_sub_cancel_left]; exact hj
    · have hil := (List.getElem?_eq_some_iff.mp hi).1
      by_cases hj1 : j < 1
      · rw [List.getElem?_append_left (by exact hj1)] at hj
        exact xo i j p q (by rw [List.getElem?_append_left hil]; exact hi) hj e
      · rw [List.getElem?_append_right (by show 1 ≤ j; omega)] at hj
        exact xcm i _ p q hi hj e
  refine lv_astore_n (lv' := [(3, .ref o), (2, .ref (g 0)), (1, .ref (h 0)), (0, .ref b)]) hx hb d_A_law_29 rfl hl (by decide) rfl (fun ls hl => ?_)
  refine lv_iconst (v := 1) hx hb d_A_law_30 (by decide) ?_
  refine lv_istore (lv' := [(4, .int 1), (3, .ref o), (2, .ref (g 0)), (1, .ref (h 0)), (0, .ref b)]) hx hb d_A_law_31 hl (by decide) rfl (fun ls hl => ?_)
  refine W.widen (k := 600000 - 512) (n := 7000000 - 6 * 512) (by omega) (by omega) ?_
  exact law_loop hsim hdown hLs (by omega) C0 hKC hKM hZ hSt hNc 512 1 1 (by decide) (by omega) (by omega) (by omega) _ bk (bk * 1024) (fun _ => 0) (fun _ => 0) 0 0 0 0 0 0 0 0 0 0 (fun _ => 0) (fun _ => 0) (fun _ => 0) (fun _ => 0) (fun _ => 0) 0 (-1) 2 0 nb (fun _ => 0) 0 0 0 0 0 0 (fun _ => 0) (fun _ => 0) (fun _ => 0) 0 (fun _ => 0) (fun _ => 0) (fun _ => 0) (fun _ => 0) 2 0 _ _ _ hrel hP hD hS (lv_sub hl [4, 3, 2, 1, 0] rfl)

