/-- a new array, of a kind that is known -/
theorem nwa {p : Program} {l : Launch} {e : Env} {R : Room} {s : State} {m : MethodId} {args : Array Value} {below : List Frame} {meth : Method} {c : Code} {H : Heap} {locs : List Loc} {cells slots : Nat} {Q : State → Prop} {cc : ByteArray} {pc : Nat} {ls : Array Slot} {rest : List Value} {D : va_G} {cl : List vw_C} {tys : List (ClassId × FieldType)} {ws : va_W} {A : Nat → Prop} {H0 : Heap} {ty : FieldType} {cA0 : ClassId}
    (t0 : Nat) (ht : tys[t0]? = some (cA0, ty)) (hpr : ∀ (U : State) (cA : ClassId), va_RA U cA ty → U.vm.findClass ("[" ++ ty.toString) = some cA) (hexec : p.tables.exec = Jvm.exec) (hb : c.code = cc) {atype : ArrayType} (harr : (Cond.arrayClass (newarray.typeOf atype)).before args s = true) (hty : newarray.typeOf atype = ty) (hK : va_K D cl tys s) (hP : va_P D cl ws H) (hD : va_D A ws) (hS : va_S A H0 H locs) (hA : ∀ q, H0.size ≤ q → A q)
    {n : Int32} {N' : Nat} {a0 : vp_A} (ha : ∀ cA : ClassId, vp_cell cA a0 = arrV cA N' (fun _ => defaultValue ty)) (hn : ¬ n < 0) (hN : n.toNatClampNeg = N') (hbytes : N' * componentBytes ty ≤ 536870912) (hcells : cells + 1 ≤ R.cells) (hslots : slots + N' ≤ R.slots) (hdg : decode cc pc = .ok (.newarray atype, 2))
    (kk : ∀ (q : Nat) (H1 : Heap), va_P D cl (ws ++ [(q, .inl (cA0, a0))]) H1 → va_D A (ws ++ [(q, .inl (cA0, a0))]) → va_S A H0 H1 locs → W p l e R s m args below meth c H1 locs (cells + 1) (slots + N') Q (F0 m (pc + 2) ls (.ref q :: rest))) : W p l e R s m args below meth c H locs cells slots Q (F0 m pc ls (.int n :: rest)) := by
  refine va_newa hexec hb harr hty hK hP hD hS hA ha hn hN hbytes hcells hslots hdg (fun q cA H1 hK1 hP1 hD1 hS1 => ?_)
  have h1 := hpr s cA (hK1.2 tys.length (cA, ty) (by simp)).2
  have h2 := hpr s cA0 (hK.2 t0 _ ht).2
  have : cA = cA0 := Option.some.inj (h1.symm.trans h2)
  subst this
  exact kk q H1 hP1 hD1 hS1
theorem ct_blind {av : List Value} {D : va_G} {cl : List vw_C} {tys : List (ClassId × FieldType)} {w : va_W} {hs : Nat} : FrameBlind (va_Pc av (fun U => U.heap.size = hs ∧ va_P D cl w U.heap ∧ va_K D cl tys U ∧ va_D (fun _ => True) w)) := fun a U g mk q => by
  obtain ⟨q0, q1, qP, qK, qD⟩ := q
  exact ⟨q0, q1, qP, va_K.moved (u := U) (U := U.calling g mk a) (Vm.Alike.refl U.vm) qK, qD⟩
theorem gI {y : MethodName} {b : ByteArray} {n : Nat} {r : Option FieldType} (h5 : Cond.code y b n r ∈ TB) : GoodIn TB (Cond.code y b n r :: TB) := fun w hw => by
  have h : w ∈ TB := by
    rcases List.mem_cons.mp hw with h | h
    · subst h; exact h5
    · exact h
  exact ⟨h, goodTB h⟩
theorem m_choice {p : Program} {l : Launch} {e : Env} {R : Room} {s : State} {m : MethodId} {args : Array Value} {below : List Frame} {meth : Method} {c : Code} {H : Heap} {locs : List Loc} {cells slots : Nat} {Q : State → Prop} {ls : Array Slot} {a1 nb : Int32} {h0 : Nat} (hx : p.tables.exec = Jvm.exec) (hb : c.code = b_M_init) (hl : lv_has ls 2 [(0, .ref h0), (1, .int a1)]) (hnb : (if 128 ≤ a1 then (if a1 ≤ 512 then a1 else 512) else 128) = nb)
    (fin : W p l e R s m args below meth c H locs cells slots Q (F0 m 107 ls [.int nb, .ref h0])) : W p l e R s m args below meth c H locs cells slots Q (F0 m 84 ls [.int 128, .int a1, .ref h0]) := by
  refine lv_icmp_ge (tgt := 93) hx hb d_M_init_84 (by decide) (fun c1 => ?_) (fun c1 => ?_)
  · rw [if_pos c1] at hnb
    refine lv_iload_n hx hb d_M_init_93 rfl (lv_at hl 1 rfl) ?_
    refine lv_sipush (v := 512) hx hb d_M_init_94 (by decide) ?_
    refine lv_icmp_le (tgt := 106) hx hb d_M_init_97 (by decide) (fun c2 => ?_) (fun c2 => ?_)
    · rw [if_pos c2] at hnb
      refine lv_iload_n hx hb d_M_init_106 rfl (lv_at hl 1 rfl) ?_
      refine lv_eqi hnb ?_
      exact fin
    · rw [if_neg c2] at hnb
      refine lv_sipush (v := 512) hx hb d_M_init_100 (by decide) ?_
      refine lv_goto (tgt := 107) hx hb d_M_init_103 (by decide) ?_
      refine lv_eqi hnb ?_
      exact fin
  · rw [if_neg c1] at hnb
    refine lv_sipush (v := 128) hx hb d_M_init_87 (by decide) ?_
    refine lv_goto (tgt := 107) hx hb d_M_init_90 (by decide) ?_
    refine lv_eqi hnb ?_
    exact fin
set_option maxHeartbeats 4000000 in
set_option maxRecDepth 100000 in
theorem i_D {l : Launch} {dC : Nat → ClassId} {dI : Nat → Nat → Nat} {cI cL : ClassId} {a1 bk : Int32} {NW : Nat} (hbk : (if 128 < (if a1 < 512 then a1 else 512) then (if a1 < 512 then a1 else 512) else 128) = bk) (hnw : (bk * 1024 / 8).toNatClampNeg = NW) (hneg : ¬ bk * 1024 / 8 < 0) (hNW : NW ≤ 65536) {h0 hs : Nat} : Met l y_D_init ws_D_init { frames := 1, cells := 1, slots := 65536, locals := 30 } (va_Pc [.ref h0, .int a1] (fun U => U.heap.size = hs ∧ va_P (dC, dI) clAll [(h0, .inr (0, [.int 0, .int 0, .null]))] U.heap ∧ va_K (dC, dI) clAll [(cI, .int), (cL, .long)] U ∧ va_D (fun _ => True) [(h0, .inr (0, [.int 0, .int 0, .null]))])) (va_Qv (fun _ : Nat => True) (fun q t => va_P (dC, dI) clAll [(h0, .inr (0, [.int bk, .int (bk * 1024), .ref q])), (q, .inl (cL, NW, .inr (.inl (fun _ => 0))))] t.heap ∧ va_K (dC, dI) clAll [(cI, .int), (cL, .long)] t ∧ va_D (va_A [(h0, .inr (0, [.int 0, .int 0, .null]))] hs) [(h0, .inr (0, [.int bk, .int (bk * 1024), .ref q])), (q, .inl (cL, NW, .inr (.inl (fun _ => 0))))]) (va_A [(h0, .inr (0, [.int 0, .int 0, .null]))] hs)) 1 65536 (va_A [(h0, .inr (0, [.int 0, .int 0, .null]))] hs) := by
  refine Met.ofW (cc := b_D_init) (maxL := 2) (ret := none) (by decide) rfl ?_
  intro p e s m args below meth c s₁ B hml hv
  obtain ⟨rfl, hsz, hP, hK, hD0⟩ := hv
  have hx := B.exec
  have hb := B.bytes
  have hr := B.returns
  have hts := atoms_spec (ws := ws_D_init) B.pre
  have htb : ∀ w ∈ TB, w.before _ s = true := fun w h => hts w (List.mem_cons_of_mem _ h)
  have hown : s.vm.findClass R_D = some m.cls := findClass_of_methodNamed B.named
  have hlocks := B.notSynchronized
  have hin : meth.name = "<init>" := (name_of_methodNamed B.named B.method).1
  subst hsz
  have hD := hD0.self (sz := s.heap.size)
  generalize hAe : va_A [(h0, .inr (0, [.int 0, .int 0, .null]))] s.heap.size = A at hD ⊢
  have hA : ∀ q : Nat, s.heap.size ≤ q → A q := fun q h => by rw [← hAe]; exact Or.inr h
  have hS : va_S A s.heap s.heap [] := va_S.rf
  have hl := lv_entry ([.ref h0, .int a1]) (n := 2) (Nat.le_of_ble_eq_true rfl)
  rw [lg_entry_eq]
  generalize (lg_sl ([.ref h0, .int a1]) ++ List.replicate (2 - (lg_sl ([.ref h0, .int a1])).length) Slot.unset).toArray = ls at hl ⊢
  have hl : lv_has ls 2 [(0, .ref h0), (1, .int a1)] := hl
  obtain ⟨H, eH⟩ : ∃ H, H = s.heap := ⟨_, rfl⟩
  refine lv_aload_n hx hb d_D_init_0 rfl (lv_at hl 0 rfl) ?_
  refine W.objInit hx hb hown (htb _ tw_95) (htb _ tw_88) (htb _ tw_89) rfl (by rw [hml]; exact hl.1) rfl d_D_init_1 (Nat.le_of_ble_eq_true rfl) (Nat.le_of_ble_eq_true rfl) ?_
  refine W.eq (g2 := F0 m 4 ls []) rfl ?_
  refine lv_aload_n hx hb d_D_init_4 rfl (lv_at hl 0 rfl) ?_
  refine lv_sipush (v := 128) hx hb d_D_init_5 (by decide) ?_
  refine lv_sipush (v := 512) hx hb d_D_init_8 (by decide) ?_
  refine lv_iload_n hx hb d_D_init_11 rfl (lv_at hl 1 rfl) ?_
  refine va_mmin hx hb (hml.trans hl.1.symm) hown (htb _ tw_96) (htb _ tw_97) (htb _ tw_70) (htb _ tw_98) (Nat.le_of_ble_eq_true rfl) (Nat.le_of_ble_eq_true rfl) (Nat.zero_le _) (Nat.zero_le _) d_D_init_12 ?_
  refine va_mmax hx hb (hml.trans hl.1.symm) hown (htb _ tw_99) (htb _ tw_100) (htb _ tw_70) (htb _ tw_101) (Nat.le_of_ble_eq_true rfl) (Nat.le_of_ble_eq_true rfl) (Nat.zero_le _) (Nat.zero_le _) d_D_init_15 ?_
  refine lv_eqi hbk ?_
  refine va_putF (D := (dC, dI)) (ci := 0) (v := .int bk) (ty := .int) (C := R_D) (T := T_D) (N := 3) hx hb htb in_D ty_D tyok_D nm_D hown hK hP hD hS 0 rfl rfl 0 (by decide) (htb _ tw_102) (fun _ h9 => h9) rfl hin rfl (by decide +kernel) rfl rfl (Nat.le_of_ble_eq_true rfl) d_D_init_18 (fun H locs hP hD hS => ?_)
  have hP : va_P (dC, dI) clAll [(h0, .inr (0, [.int bk, .int 0, .null]))] H := hP
  have hD : va_D A [(h0, .inr (0, [.int bk, .int 0, .null]))] := hD
  refine lv_aload_n hx hb d_D_init_21 rfl (lv_at hl 0 rfl) ?_
  refine lv_aload_n hx hb d_D_init_22 rfl (lv_at hl 0 rfl) ?_
  refine va_get (D := (dC, dI)) (ci := 0) (v := .int bk) (C := R_D) (T := T_D) (N := 3) hx hb htb in_D hown hK hP 0 rfl rfl 0 (by decide) (htb _ tw_102) (fun _ h9 => h9) rfl d_D_init_23 ?_
  refine lv_sipush (v := 1024) hx hb d_D_init_26 (by decide) ?_
  refine lv_imul hx hb d_D_init_29 ?_
  refine va_putF (D := (dC, dI)) (ci := 0) (v := .int (bk * 1024)) (ty := .int) (C := R_D) (T := T_D) (N := 3) hx hb htb in_D ty_D tyok_D nm_D hown hK hP hD hS 0 rfl rfl 1 (by decide) (htb _ tw_103) (fun _ h9 => h9) rfl hin rfl (by decide +kernel) rfl rfl (Nat.le_of_ble_eq_true rfl) d_D_init_30 (fun H locs hP hD hS => ?_)
  have hP : va_P (dC, dI) clAll [(h0, .inr (0, [.int bk, .int (bk * 1024), .null]))] H := hP
  have hD : va_D A [(h0, .inr (0, [.int bk, .int (bk * 1024), .null]))] := hD
  refine lv_aload_n hx hb d_D_init_33 rfl (lv_at hl 0 rfl) ?_
  refine lv_aload_n hx hb d_D_init_34 rfl (lv_at hl 0 rfl) ?_
  refine va_get (D := (dC, dI)) (ci := 0) (v := .int (bk * 1024)) (C := R_D) (T := T_D) (N := 3) hx hb htb in_D hown hK hP 0 rfl rfl 1 (by decide) (htb _ tw_103) (fun _ h9 => h9) rfl d_D_init_35 ?_
  refine lv_bipush (v := 8) hx hb d_D_init_38 (by decide) ?_
  refine lv_idiv hx hb d_D_init_40 (by decide) ?_
  refine nwa (ty := .long) (atype := .long) (a0 := (NW, .inr (.inl (fun _ => 0)))) 1 rfl (fun _ _ h9 => h9) hx hb (htb _ tw_112) rfl hK hP hD hS hA (fun _ => rfl) hneg hnw (by show _ ≤ _; simp only [componentBytes]; omega) (by show _ ≤ (1 : Nat); omega) (by show _ ≤ (65536 : Nat); omega) d_D_init_41 (fun q41 H hP hD hS => ?_)
  have hP : va_P (dC, dI) clAll [(h0, .inr (0, [.int bk, .int (bk * 1024), .null])), (q41, .inl (cL, NW, .inr (.inl (fun _ => 0))))] H := hP
  have hD : va_D A [(h0, .inr (0, [.int bk, .int (bk * 1024), .null])), (q41, .inl (cL, NW, .inr (.inl (fun _ => 0))))] := hD
  refine va_putF (D := (dC, dI)) (ci := 0) (v := .ref q41) (ty := .array .long) (C := R_D) (T := T_D) (N := 3) hx hb htb in_D ty_D tyok_D nm_D hown hK hP hD hS 0 rfl rfl 2 (by decide) (htb _ tw_104) (fun _ h9 => h9) rfl hin rfl (by decide +kernel) rfl rfl (Nat.le_of_ble_eq_true rfl) d_D_init_43 (fun H locs hP hD hS => ?_)
  have hP : va_P (dC, dI) clAll [(h0, .inr (0, [.int bk, .int (bk * 1024), .ref q41])), (q41, .inl (cL, NW, .inr (.inl (fun _ => 0))))] H := hP
  have hD : va_D A [(h0, .inr (0, [.int bk, .int (bk * 1024), .ref q41])), (q41, .inl (cL, NW, .inr (.inl (fun _ => 0))))] := hD
  have hP9 := hP.sub (ws' := [(h0, .inr (0, [.int bk, .int (bk * 1024), .ref q41])), (q41, .inl (cL, NW, .inr (.inl (fun _ => 0))))]) [0, 1] rfl
  have hD9 := hD.sub (ws' := [(h0, .inr (0, [.int bk, .int (bk * 1024), .ref q41])), (q41, .inl (cL, NW, .inr (.inl (fun _ => 0))))]) [0, 1] (by decide) rfl
  refine W.widen (k := 1) (n := 65536) (by omega) (by omega) ?_
  exact W.vret hx hb hr (fun t ht hW => ⟨⟨(q41), rfl, trivial, by rw [ht]; exact hP9, va_K.moved hW.alike hK, hD9⟩, hS.F ht⟩) hS.2.2 d_D_init_46

set_option maxHeartbeats 4000000 in
set_option maxRecDepth 100000 in
theorem i_L {l : Launch} {dC : Nat → ClassId} {dI : Nat → Nat → Nat} {cI cL : ClassId} {d : Nat} {h0 hs : Nat} : Met l y_L_init ws_L_init { frames := 1, cells := 1, slots := 8, locals := 30 } (va_Pc [.ref h0, .ref d] (fun U => U.heap.size = hs ∧ va_P (dC, dI) clAll [(h0, .inr (2, [.null, .null, .int 0, .int 0, .int 0, .int 0]))] U.heap ∧ va_K (dC, dI) clAll [(cI, .int), (cL, .long)] U ∧ va_D (fun _ => True) [(h0, .inr (2, [.null, .null, .int 0, .int 0, .int 0, .int 0]))])) (va_Qv (fun _ : Nat => True) (fun q t => va_P (dC, dI) clAll [(h0, .inr (2, [.ref d, .ref q, .int 0, .int 0, .int 0, .int 0])), (q, .inl (cI, 8, .inl (fun _ => 0)))] t.heap ∧ va_K (dC, dI) clAll [(cI, .int), (cL, .long)] t ∧ va_D (va_A [(h0, .inr (2, [.null, .null, .int 0, .int 0, .int 0, .int 0]))] hs) [(h0, .inr (2, [.ref d, .ref q, .int 0, .int 0, .int 0, .int 0])), (q, .inl (cI, 8, .inl (fun _ => 0)))]) (va_A [(h0, .inr (2, [.null, .null, .int 0, .int 0, .int 0, .int 0]))] hs)) 1 8 (va_A [(h0, .inr (2, [.null, .null, .int 0, .int 0, .int 0, .int 0]))] hs) := by
  refine Met.ofW (cc := b_L_init) (maxL := 2) (ret := none) (by decide) rfl ?_
  intro p e s m args below meth c s₁ B hml hv
  obtain ⟨rfl, hsz, hP, hK, hD0⟩ := hv
  have hx := B.exec
  have hb := B.bytes
  have hr := B.returns
  have hts := atoms_spec (ws := ws_L_init) B.pre
  have htb : ∀ w ∈ TB, w.before _ s = true := fun w h => hts w (List.mem_cons_of_mem _ h)
  have hown : s.vm.findClass R_L = some m.cls := findClass_of_methodNamed B.named
  have hlocks := B.notSynchronized
  have hin : meth.name = "<init>" := (name_of_methodNamed B.named B.method).1
  subst hsz
  have hD := hD0.self (sz := s.heap.size)
  generalize hAe : va_A [(h0, .inr (2, [.null, .null, .int 0, .int 0, .int 0, .int 0]))] s.heap.size = A at hD ⊢
  have hA : ∀ q : Nat, s.heap.size ≤ q → A q := fun q h => by rw [← hAe]; exact Or.inr h
  have hS : va_S A s.heap s.heap [] := va_S.rf
  have hl := lv_entry ([.ref h0, .ref d]) (n := 2) (Nat.le_of_ble_eq_true rfl)
  rw [lg_entry_eq]
  generalize (lg_sl ([.ref h0, .ref d]) ++ List.replicate (2 - (lg_sl ([.ref h0, .ref d])).length) Slot.unset).toArray = ls at hl ⊢
  have hl : lv_has ls 2 [(0, .ref h0), (1, .ref d)] := hl
  obtain ⟨H, eH⟩ : ∃ H, H = s.heap := ⟨_, rfl⟩
  refine lv_aload_n hx hb d_L_init_0 rfl (lv_at hl 0 rfl) ?_
  refine W.objInit hx hb hown (htb _ tw_118) (htb _ tw_88) (htb _ tw_89) rfl (by rw [hml]; exact hl.1) rfl d_L_init_1 (Nat.le_of_ble_eq_true rfl) (Nat.le_of_ble_eq_true rfl) ?_
  refine W.eq (g2 := F0 m 4 ls []) rfl ?_
  refine lv_aload_n hx hb d_L_init_4 rfl (lv_at hl 0 rfl) ?_
  refine lv_bipush (v := 8) hx hb d_L_init_5 (by decide) ?_
  refine nwa (ty := .int) (atype := .int) (a0 := (8, .inl (fun _ => 0))) 0 rfl (fun _ _ h9 => h9) hx hb (htb _ tw_138) rfl hK hP hD hS hA (fun _ => rfl) (by decide) rfl (by show _ ≤ _; simp only [componentBytes]; omega) (by show _ ≤ (1 : Nat); omega) (by show _ ≤ (8 : Nat); omega) d_L_init_7 (fun q7 H hP hD hS => ?_)
  have hP : va_P (dC, dI) clAll [(h0, .inr (2, [.null, .null, .int 0, .int 0, .int 0, .int 0])), (q7, .inl (cI, 8, .inl (fun _ => 0)))] H := hP
  have hD : va_D A [(h0, .inr (2, [.null, .null, .int 0, .int 0, .int 0, .int 0])), (q7, .inl (cI, 8, .inl (fun _ => 0)))] := hD
  refine va_putF (D := (dC, dI)) (ci := 2) (v := .ref q7) (ty := .array .int) (C := R_L) (T := T_L) (N := 6) hx hb htb in_L ty_L tyok_L nm_L hown hK hP hD hS 0 rfl rfl 1 (by decide) (htb _ tw_120) (fun _ h9 => h9) rfl hin rfl (by decide +kernel) rfl rfl (Nat.le_of_ble_eq_true rfl) d_L_init_9 (fun H locs hP hD hS => ?_)
  have hP : va_P (dC, dI) clAll [(h0, .inr (2, [.null, .ref q7, .int 0, .int 0, .int 0, .int 0])), (q7, .inl (cI, 8, .inl (fun _ => 0)))] H := hP
  have hD : va_D A [(h0, .inr (2, [.null, .ref q7, .int 0, .int 0, .int 0, .int 0])), (q7, .inl (cI, 8, .inl (fun _ => 0)))] := hD
  refine lv_aload_n hx hb d_L_init_12 rfl (lv_at hl 0 rfl) ?_
  refine lv_aload_n hx hb d_L_init_13 rfl (lv_at hl 1 rfl) ?_
  refine va_putF (D := (dC, dI)) (ci := 2) (v := .ref d) (ty := .object "InodeVolumes$Disk") (C := R_L) (T := T_L) (N := 6) hx hb htb in_L ty_L tyok_L nm_L hown hK hP hD hS 0 rfl rfl 0 (by decide) (htb _ tw_119) (fun _ h9 => h9) rfl hin rfl (by decide +kernel) rfl rfl (Nat.le_of_ble_eq_true rfl) d_L_init_14 (fun H locs hP hD hS => ?_)
  have hP : va_P (dC, dI) clAll [(h0, .inr (2, [.ref d, .ref q7, .int 0, .int 0, .int 0, .int 0])), (q7, .inl (cI, 8, .inl (fun _ => 0)))] H := hP
  have hD : va_D A [(h0, .inr (2, [.ref d, .ref q7, .int 0, .int 0, .int 0, .int 0])), (q7, .inl (cI, 8, .inl (fun _ => 0)))] := hD
  have hP9 := hP.sub (ws' := [(h0, .inr (2, [.ref d, .ref q7, .int 0, .int 0, .int 0, .int 0])), (q7, .inl (cI, 8, .inl (fun _ => 0)))]) [0, 1] rfl
  have hD9 := hD.sub (ws' := [(h0, .inr (2, [.ref d, .ref q7, .int 0, .int 0, .int 0, .int 0])), (q7, .inl (cI, 8, .inl (fun _ => 0)))]) [0, 1] (by decide) rfl
  refine W.widen (k := 1) (n := 8) (by omega) (by omega) ?_
  exact W.vret hx hb hr (fun t ht hW => ⟨⟨(q7), rfl, trivial, by rw [ht]; exact hP9, va_K.moved hW.alike hK, hD9⟩, hS.F ht⟩) hS.2.2 d_L_init_17

set_option maxHeartbeats 4000000 in
set_option maxRecDepth 100000 in
theorem i_E {l : Launch} {dC : Nat → ClassId} {dI : Nat → Nat → Nat} {cI cL : ClassId} {d y : Nat} {h0 hs : Nat} : Met l y_E_init ws_E_init { frames := 1, cells := 0, slots := 0, locals := 30 } (va_Pc [.ref h0, .ref d, .ref y] (fun U => U.heap.size = hs ∧ va_P (dC, dI) clAll [(h0, .inr (1, [.null, .null, .int 0, .long 0, .long 0, .int 0, .long 0, .long 0]))] U.heap ∧ va_K (dC, dI) clAll [(cI, .int), (cL, .long)] U ∧ va_D (fun _ => True) [(h0, .inr (1, [.null, .null, .int 0, .long 0, .long 0, .int 0, .long 0, .long 0]))])) (va_Qv (fun _ : Unit => True) (fun _ t => va_P (dC, dI) clAll [(h0, .inr (1, [.ref d, .ref y, .int 0, .long 0, .long 0, .int 0, .long 0, .long 0]))] t.heap ∧ va_K (dC, dI) clAll [(cI, .int), (cL, .long)] t ∧ va_D (va_A [(h0, .inr (1, [.null, .null, .int 0, .long 0, .long 0, .int 0, .long 0, .long 0]))] hs) [(h0, .inr (1, [.ref d, .ref y, .int 0, .long 0, .long 0, .int 0, .long 0, .long 0]))]) (va_A [(h0, .inr (1, [.null, .null, .int 0, .long 0, .long 0, .int 0, .long 0, .long 0]))] hs)) 0 0 (va_A [(h0, .inr (1, [.null, .null, .int 0, .long 0, .long 0, .int 0, .long 0, .long 0]))] hs) := by
  refine Met.ofW (cc := b_E_init) (maxL := 3) (ret := none) (by decide) rfl ?_
  intro p e s m args below meth c s₁ B hml hv
  obtain ⟨rfl, hsz, hP, hK, hD0⟩ := hv
  have hx := B.exec
  have hb := B.bytes
  have hr := B.returns
  have hts := atoms_spec (ws := ws_E_init) B.pre
  have htb : ∀ w ∈ TB, w.before _ s = true := fun w h => hts w (List.mem_cons_of_mem _ h)
  have hown : s.vm.findClass R_E = some m.cls := findClass_of_methodNamed B.named
  have hlocks := B.notSynchronized
  have hin : meth.name = "<init>" := (name_of_methodNamed B.named B.method).1
  subst hsz
  have hD := hD0.self (sz := s.heap.size)
  generalize hAe : va_A [(h0, .inr (1, [.null, .null, .int 0, .long 0, .long 0, .int 0, .long 0, .long 0]))] s.heap.size = A at hD ⊢
  have hA : ∀ q : Nat, s.heap.size ≤ q → A q := fun q h => by rw [← hAe]; exact Or.inr h
  have hS : va_S A s.heap s.heap [] := va_S.rf
  have hl := lv_entry ([.ref h0, .ref d, .ref y]) (n := 3) (Nat.le_of_ble_eq_true rfl)
  rw [lg_entry_eq]
  generalize (lg_sl ([.ref h0, .ref d, .ref y]) ++ List.replicate (3 - (lg_sl ([.ref h0, .ref d, .ref y])).length) Slot.unset).toArray = ls at hl ⊢
  have hl : lv_has ls 3 [(0, .ref h0), (1, .ref d), (2, .ref y)] := hl
  obtain ⟨H, eH⟩ : ∃ H, H = s.heap := ⟨_, rfl⟩
  refine lv_aload_n hx hb d_E_init_0 rfl (lv_at hl 0 rfl) ?_
  refine W.objInit hx hb hown (htb _ tw_144) (htb _ tw_88) (htb _ tw_89) rfl (by rw [hml]; exact hl.1) rfl d_E_init_1 (Nat.le_of_ble_eq_true rfl) (Nat.le_of_ble_eq_true rfl) ?_
  refine W.eq (g2 := F0 m 4 ls []) rfl ?_
  refine lv_aload_n hx hb d_E_init_4 rfl (lv_at hl 0 rfl) ?_
  refine lv_aload_n hx hb d_E_init_5 rfl (lv_at hl 1 rfl) ?_
  refine va_putF (D := (dC, dI)) (ci := 1) (v := .ref d) (ty := .object "InodeVolumes$Disk") (C := R_E) (T := T_E) (N := 8) hx hb htb in_E ty_E tyok_E nm_E hown hK hP hD hS 0 rfl rfl 0 (by decide) (htb _ tw_145) (fun _ h9 => h9) rfl hin rfl (by decide +kernel) rfl rfl (Nat.le_of_ble_eq_true rfl) d_E_init_6 (fun H locs hP hD hS => ?_)
  have hP : va_P (dC, dI) clAll [(h0, .inr (1, [.ref d, .null, .int 0, .long 0, .long 0, .int 0, .long 0, .long 0]))] H := hP
  have hD : va_D A [(h0, .inr (1, [.ref d, .null, .int 0, .long 0, .long 0, .int 0, .long 0, .long 0]))] := hD
  refine lv_aload_n hx hb d_E_init_9 rfl (lv_at hl 0 rfl) ?_
  refine lv_aload_n hx hb d_E_init_10 rfl (lv_at hl 2 rfl) ?_
  refine va_putF (D := (dC, dI)) (ci := 1) (v := .ref y) (ty := .object "InodeVolumes$Layout") (C := R_E) (T := T_E) (N := 8) hx hb htb in_E ty_E tyok_E nm_E hown hK hP hD hS 0 rfl rfl 1 (by decide) (htb _ tw_146) (fun _ h9 => h9) rfl hin rfl (by decide +kernel) rfl rfl (Nat.le_of_ble_eq_true rfl) d_E_init_11 (fun H locs hP hD hS => ?_)
  have hP : va_P (dC, dI) clAll [(h0, .inr (1, [.ref d, .ref y, .int 0, .long 0, .long 0, .int 0, .long 0, .long 0]))] H := hP
  have hD : va_D A [(h0, .inr (1, [.ref d, .ref y, .int 0, .long 0, .long 0, .int 0, .long 0, .long 0]))] := hD
  have hP9 := hP.sub (ws' := [(h0, .inr (1, [.ref d, .ref y, .int 0, .long 0, .long 0, .int 0, .long 0, .long 0]))]) [0] rfl
  have hD9 := hD.sub (ws' := [(h0, .inr (1, [.ref d, .ref y, .int 0, .long 0, .long 0, .int 0, .long 0, .long 0]))]) [0] (by decide) rfl
  refine W.widen (k := 0) (n := 0) (by omega) (by omega) ?_
  exact W.vret hx hb hr (fun t ht hW => ⟨⟨(), rfl, trivial, by rw [ht]; exact hP9, va_K.moved hW.alike hK, hD9⟩, hS.F ht⟩) hS.2.2 d_E_init_14

set_option maxHeartbeats 4000000 in
set_option maxRecDepth 100000 in
theorem i_S {l : Launch} {dC : Nat → ClassId} {dI : Nat → Nat → Nat} {cI cL : ClassId} {d y n : Nat} {h0 hs : Nat} : Met l y_S_init ws_S_init { frames := 1, cells := 5, slots := 16897, locals := 30 } (va_Pc [.ref h0, .ref d, .ref y, .ref n] (fun U => U.heap.size = hs ∧ va_P (dC, dI) clAll [(h0, .inr (3, [.null, .null, .null, .null, .null, .null, .null, .null, .int 0, .int 0]))] U.heap ∧ va_K (dC, dI) clAll [(cI, .int), (cL, .long)] U ∧ va_D (fun _ => True) [(h0, .inr (3, [.null, .null, .null, .null, .null, .null, .null, .null, .int 0, .int 0]))])) (va_Qv (fun _ : Nat × Nat × Nat × Nat × Nat => True) (fun u t => va_P (dC, dI) clAll [(h0, .inr (3, [.ref d, .ref y, .ref n, .ref u.1, .ref u.2.1, .ref u.2.2.1, .ref u.2.2.2.1, .ref u.2.2.2.2, .int 0, .int (-1)])), (u.1, .inl (cI, 512, .inl (fun _ => 0))), (u.2.1, .inl (cI, 4097, .inl (fun _ => 0))), (u.2.2.1, .inl (cI, 4096, .inl (fun _ => 0))), (u.2.2.2.1, .inl (cI, 4096, .inl (fun _ => 0))), (u.2.2.2.2, .inl (cI, 4096, .inl (fun _ => 0)))] t.heap ∧ va_K (dC, dI) clAll [(cI, .int), (cL, .long)] t ∧ va_D (va_A [(h0, .inr (3, [.null, .null, .null, .null, .null, .null, .null, .null, .int 0, .int 0]))] hs) [(h0, .inr (3, [.ref d, .ref y, .ref n, .ref u.1, .ref u.2.1, .ref u.2.2.1, .ref u.2.2.2.1, .ref u.2.2.2.2, .int 0, .int (-1)])), (u.1, .inl (cI, 512, .inl (fun _ => 0))), (u.2.1, .inl (cI, 4097, .inl (fun _ => 0))), (u.2.2.1, .inl (cI, 4096, .inl (fun _ => 0))), (u.2.2.2.1, .inl (cI, 4096, .inl (fun _ => 0))), (u.2.2.2.2, .inl (cI, 4096, .inl (fun _ => 0)))]) (va_A [(h0, .inr (3, [.null, .null, .null, .null, .null, .null, .null, .null, .int 0, .int 0]))] hs)) 5 16897 (va_A [(h0, .inr (3, [.null, .null, .null, .null, .null, .null, .null, .null, .int 0, .int 0]))] hs) := by
  refine Met.ofW (cc := b_S_init) (maxL := 5) (ret := none) (by decide) rfl ?_
  intro p e s m args below meth c s₁ B hml hv
  obtain ⟨rfl, hsz, hP, hK, hD0⟩ := hv
  have hx := B.exec
  have hb := B.bytes
  have hr := B.returns
  have hts := atoms_spec (ws := ws_S_init) B.pre
  have htb : ∀ w ∈ TB, w.before _ s = true := fun w h => hts w (List.mem_cons_of_mem _ h)
  have hown : s.vm.findClass R_S = some m.cls := findClass_of_methodNamed B.named
  have hlocks := B.notSynchronized
  have hin : meth.name = "<init>" := (name_of_methodNamed B.named B.method).1
  subst hsz
  have hD := hD0.self (sz := s.heap.size)
  generalize hAe : va_A [(h0, .inr (3, [.null, .null, .null, .null, .null, .null, .null, .null, .int 0, .int 0]))] s.heap.size = A at hD ⊢
  have hA : ∀ q : Nat, s.heap.size ≤ q → A q := fun q h => by rw [← hAe]; exact Or.inr h
  have hS : va_S A s.heap s.heap [] := va_S.rf
  have hl := lv_entry ([.ref h0, .ref d, .ref y, .ref n]) (n := 5) (Nat.le_of_ble_eq_true rfl)
  rw [lg_entry_eq]
  generalize (lg_sl ([.ref h0, .ref d, .ref y, .ref n]) ++ List.replicate (5 - (lg_sl ([.ref h0, .ref d, .ref y, .ref n])).length) Slot.unset).toArray = ls at hl ⊢
  have hl : lv_has ls 5 [(0, .ref h0), (1, .ref d), (2, .ref y), (3, .ref n)] := hl
  obtain ⟨H, eH⟩ : ∃ H, H = s.heap := ⟨_, rfl⟩
  refine lv_aload_n hx hb d_S_init_0 rfl (lv_at hl 0 rfl) ?_
  refine W.objInit hx hb hown (htb _ tw_175) (htb _ tw_88) (htb _ tw_89) rfl (by rw [hml]; exact hl.1) rfl d_S_init_1 (Nat.le_of_ble_eq_true rfl) (Nat.le_of_ble_eq_true rfl) ?_
  refine W.eq (g2 := F0 m 4 ls []) rfl ?_
  refine lv_aload_n hx hb d_S_init_4 rfl (lv_at hl 0 rfl) ?_
  refine lv_aload_n hx hb d_S_init_5 rfl (lv_at hl 1 rfl) ?_
  refine va_putF (D := (dC, dI)) (ci := 3) (v := .ref d) (ty := .object "InodeVolumes$Disk") (C := R_S) (T := T_S) (N := 10) hx hb htb in_S ty_S tyok_S nm_S hown hK hP hD hS 0 rfl rfl 0 (by decide) (htb _ tw_176) (fun _ h9 => h9) rfl hin rfl (by decide +kernel) rfl rfl (Nat.le_of_ble_eq_true rfl) d_S_init_6 (fun H locs hP hD hS => ?_)
  have hP : va_P (dC, dI) clAll [(h0, .inr (3, [.ref d, .null, .null, .null, .null, .null, .null, .null, .int 0, .int 0]))] H := hP
  have hD : va_D A [(h0, .inr (3, [.ref d, .null, .null, .null, .null, .null, .null, .null, .int 0, .int 0]))] := hD
  refine lv_aload_n hx hb d_S_init_9 rfl (lv_at hl 0 rfl) ?_
  refine lv_aload_n hx hb d_S_init_10 rfl (lv_at hl 2 rfl) ?_
  refine va_putF (D := (dC, dI)) (ci := 3) (v := .ref y) (ty := .object "InodeVolumes$Layout") (C := R_S) (T := T_S) (N := 10) hx hb htb in_S ty_S tyok_S nm_S hown hK hP hD hS 0 rfl rfl 1 (by decide) (htb _ tw_177) (fun _ h9 => h9) rfl hin rfl (by decide +kernel) rfl rfl (Nat.le_of_ble_eq_true rfl) d_S_init_11 (fun H locs hP hD hS => ?_)
  have hP : va_P (dC, dI) clAll [(h0, .inr (3, [.ref d, .ref y, .null, .null, .null, .null, .null, .null, .int 0, .int 0]))] H := hP
  have hD : va_D A [(h0, .inr (3, [.ref d, .ref y, .null, .null, .null, .null, .null, .null, .int 0, .int 0]))] := hD
  refine lv_aload_n hx hb d_S_init_14 rfl (lv_at hl 0 rfl) ?_
  refine lv_aload_n hx hb d_S_init_15 rfl (lv_at hl 3 rfl) ?_
  refine va_putF (D := (dC, dI)) (ci := 3) (v := .ref n) (ty := .object "InodeVolumes$Entries") (C := R_S) (T := T_S) (N := 10) hx hb htb in_S ty_S tyok_S nm_S hown hK hP hD hS 0 rfl rfl 2 (by decide) (htb _ tw_178) (fun _ h9 => h9) rfl hin rfl (by decide +kernel) rfl rfl (Nat.le_of_ble_eq_true rfl) d_S_init_16 (fun H locs hP hD hS => ?_)
  have hP : va_P (dC, dI) clAll [(h0, .inr (3, [.ref d, .ref y, .ref n, .null, .null, .null, .null, .null, .int 0, .int 0]))] H := hP
  have hD : va_D A [(h0, .inr (3, [.ref d, .ref y, .ref n, .null, .null, .null, .null, .null, .int 0, .int 0]))] := hD
  refine lv_sipush (v := 4096) hx hb d_S_init_19 (by decide) ?_
  refine lv_istore (lv' := [(4, .int 4096), (0, .ref h0), (1, .ref d), (2, .ref y), (3, .ref n)]) hx hb d_S_init_22 hl (by decide) rfl (fun ls hl => ?_)
  refine lv_aload_n hx hb d_S_init_24 rfl (lv_at hl 1 rfl) ?_
  refine lv_sipush (v := 512) hx hb d_S_init_25 (by decide) ?_
  refine nwa (ty := .int) (atype := .int) (a0 := (512, .inl (fun _ => 0))) 0 rfl (fun _ _ h9 => h9) hx hb (htb _ tw_138) rfl hK hP hD hS hA (fun _ => rfl) (by decide) rfl (by show _ ≤ _; simp only [componentBytes]; omega) (by show _ ≤ (5 : Nat); omega) (by show _ ≤ (16897 : Nat); omega) d_S_init_28 (fun q28 H hP hD hS => ?_)
  have hP : va_P (dC, dI) clAll [(h0, .inr (3, [.ref d, .ref y, .ref n, .null, .null, .null, .null, .null, .int 0, .int 0])), (q28, .inl (cI, 512, .inl (fun _ => 0)))] H := hP
  have hD : va_D A [(h0, .inr (3, [.ref d, .ref y, .ref n, .null, .null, .null, .null, .null, .int 0, .int 0])), (q28, .inl (cI, 512, .inl (fun _ => 0)))] := hD
  refine va_putF (D := (dC, dI)) (ci := 3) (v := .ref q28) (ty := .array .int) (C := R_S) (T := T_S) (N := 10) hx hb htb in_S ty_S tyok_S nm_S hown hK hP hD hS 0 rfl rfl 3 (by decide) (htb _ tw_179) (fun _ h9 => h9) rfl hin rfl (by decide +kernel) rfl rfl (Nat.le_of_ble_eq_true rfl) d_S_init_30 (fun H locs hP hD hS => ?_)
  have hP : va_P (dC, dI) clAll [(h0, .inr (3, [.ref d, .ref y, .ref n, .ref q28, .null, .null, .null, .null, .int 0, .int 0])), (q28, .inl (cI, 512, .inl (fun _ => 0)))] H := hP
  have hD : va_D A [(h0, .inr (3, [.ref d, .ref y, .ref n, .ref q28, .null, .null, .null, .null, .int 0, .int 0])), (q28, .inl (cI, 512, .inl (fun _ => 0)))] := hD
  refine lv_aload_n hx hb d_S_init_33 rfl (lv_at hl 1 rfl) ?_
  refine lv_iload hx hb d_S_init_34 (lv_at hl 0 rfl) ?_
  refine lv_iconst (v := 1) hx hb d_S_init_36 (by decide) ?_
  refine lv_iadd hx hb d_S_init_37 ?_
  refine lv_eqi (y1 := 4097) (by decide) ?_
  refine nwa (ty := .int) (atype := .int) (a0 := (4097, .inl (fun _ => 0))) 0 rfl (fun _ _ h9 => h9) hx hb (htb _ tw_138) rfl hK hP hD hS hA (fun _ => rfl) (by decide) rfl (by show _ ≤ _; simp only [componentBytes]; omega) (by show _ ≤ (5 : Nat); omega) (by show _ ≤ (16897 : Nat); omega) d_S_init_38 (fun q38 H hP hD hS => ?_)
  have hP : va_P (dC, dI) clAll [(h0, .inr (3, [.ref d, .ref y, .ref n, .ref q28, .null, .null, .null, .null, .int 0, .int 0])), (q28, .inl (cI, 512, .inl (fun _ => 0))), (q38, .inl (cI, 4097, .inl (fun _ => 0)))] H := hP
  have hD : va_D A [(h0, .inr (3, [.ref d, .ref y, .ref n, .ref q28, .null, .null, .null, .null, .int 0, .int 0])), (q28, .inl (cI, 512, .inl (fun _ => 0))), (q38, .inl (cI, 4097, .inl (fun _ => 0)))] := hD
  refine va_putF (D := (dC, dI)) (ci := 3) (v := .ref q38) (ty := .array .int) (C := R_S) (T := T_S) (N := 10) hx hb htb in_S ty_S tyok_S nm_S hown hK hP hD hS 0 rfl rfl 4 (by decide) (htb _ tw_180) (fun _ h9 => h9) rfl hin rfl (by decide +kernel) rfl rfl (Nat.le_of_ble_eq_true rfl) d_S_init_40 (fun H locs hP hD hS => ?_)
  have hP : va_P (dC, dI) clAll [(h0, .inr (3, [.ref d, .ref y, .ref n, .ref q28, .ref q38, .null, .null, .null, .int 0, .int 0])), (q28, .inl (cI, 512, .inl (fun _ => 0))), (q38, .inl (cI, 4097, .inl (fun _ => 0)))] H := hP
  have hD : va_D A [(h0, .inr (3, [.ref d, .ref y, .ref n, .ref q28, .ref q38, .null, .null, .null, .int 0, .int 0])), (q28, .inl (cI, 512, .inl (fun _ => 0))), (q38, .inl (cI, 4097, .inl (fun _ => 0)))] := hD
  refine lv_aload_n hx hb d_S_init_43 rfl (lv_at hl 1 rfl) ?_
  refine lv_iload hx hb d_S_init_44 (lv_at hl 0 rfl) ?_
  refine nwa (ty := .int) (atype := .int) (a0 := (4096, .inl (fun _ => 0))) 0 rfl (fun _ _ h9 => h9) hx hb (htb _ tw_138) rfl hK hP hD hS hA (fun _ => rfl) (by decide) rfl (by show _ ≤ _; simp only [componentBytes]; omega) (by show _ ≤ (5 : Nat); omega) (by show _ ≤ (16897 : Nat); omega) d_S_init_46 (fun q46 H hP hD hS => ?_)
  have hP : va_P (dC, dI) clAll [(h0, .inr (3, [.ref d, .ref y, .ref n, .ref q28, .ref q38, .null, .null, .null, .int 0, .int 0])), (q28, .inl (cI, 512, .inl (fun _ => 0))), (q38, .inl (cI, 4097, .inl (fun _ => 0))), (q46, .inl (cI, 4096, .inl (fun _ => 0)))] H := hP
  have hD : va_D A [(h0, .inr (3, [.ref d, .ref y, .ref n, .ref q28, .ref q38, .null, .null, .null, .int 0, .int 0])), (q28, .inl (cI, 512, .inl (fun _ => 0))), (q38, .inl (cI, 4097, .inl (fun _ => 0))), (q46, .inl (cI, 4096, .inl (fun _ => 0)))] := hD
  refine va_putF (D := (dC, dI)) (ci := 3) (v := .ref q46) (ty := .array .int) (C := R_S) (T := T_S) (N := 10) hx hb htb in_S ty_S tyok_S nm_S hown hK hP hD hS 0 rfl rfl 5 (by decide) (htb _ tw_181) (fun _ h9 => h9) rfl hin rfl (by decide +kernel) rfl rfl (Nat.le_of_ble_eq_true rfl) d_S_init_48 (fun H locs hP hD hS => ?_)
  have hP : va_P (dC, dI) clAll [(h0, .inr (3, [.ref d, .ref y, .ref n, .ref q28, .ref q38, .ref q46, .null, .null, .int 0, .int 0])), (q28, .inl (cI, 512, .inl (fun _ => 0))), (q38, .inl (cI, 4097, .inl (fun _ => 0))), (q46, .inl (cI, 4096, .inl (fun _ => 0)))] H := hP
  have hD : va_D A [(h0, .inr (3, [.ref d, .ref y, .ref n, .ref q28, .ref q38, .ref q46, .null, .null, .int 0, .int 0])), (q28, .inl (cI, 512, .inl (fun _ => 0))), (q38, .inl (cI, 4097, .inl (fun _ => 0))), (q46, .inl (cI, 4096, .inl (fun _ => 0)))] := hD
  refine lv_aload_n hx hb d_S_init_51 rfl (lv_at hl 1 rfl) ?_
  refine lv_iload hx hb d_S_init_52 (lv_at hl 0 rfl) ?_
  refine nwa (ty := .int) (atype := .int) (a0 := (4096, .inl (fun _ => 0))) 0 rfl (fun _ _ h9 => h9) hx hb (htb _ tw_138) rfl hK hP hD hS hA (fun _ => rfl) (by decide) rfl (by show _ ≤ _; simp only [componentBytes]; omega) (by show _ ≤ (5 : Nat); omega) (by show _ ≤ (16897 : Nat); omega) d_S_init_54 (fun q54 H hP hD hS => ?_)
  have hP : va_P (dC, dI) clAll [(h0, .inr (3, [.ref d, .ref y, .ref n, .ref q28, .ref q38, .ref q46, .null, .null, .int 0, .int 0])), (q28, .inl (cI, 512, .inl (fun _ => 0))), (q38, .inl (cI, 4097, .inl (fun _ => 0))), (q46, .inl (cI, 4096, .inl (fun _ => 0))), (q54, .inl (cI, 4096, .inl (fun _ => 0)))] H := hP
  have hD : va_D A [(h0, .inr (3, [.ref d, .ref y, .ref n, .ref q28, .ref q38, .ref q46, .null, .null, .int 0, .int 0])), (q28, .inl (cI, 512, .inl (fun _ => 0))), (q38, .inl (cI, 4097, .inl (fun _ => 0))), (q46, .inl (cI, 4096, .inl (fun _ => 0))), (q54, .inl (cI, 4096, .inl (fun _ => 0)))] := hD
  refine va_putF (D := (dC, dI)) (ci := 3) (v := .ref q54) (ty := .array .int) (C := R_S) (T := T_S) (N := 10) hx hb htb in_S ty_S tyok_S nm_S hown hK hP hD hS 0 rfl rfl 6 (by decide) (htb _ tw_182) (fun _ h9 => h9) rfl hin rfl (by decide +kernel) rfl rfl (Nat.le_of_ble_eq_true rfl) d_S_init_56 (fun H locs hP hD hS => ?_)
  have hP : va_P (dC, dI) clAll [(h0, .inr (3, [.ref d, .ref y, .ref n, .ref q28, .ref q38, .ref q46, .ref q54, .null, .int 0, .int 0])), (q28, .inl (cI, 512, .inl (fun _ => 0))), (q38, .inl (cI, 4097, .inl (fun _ => 0))), (q46, .inl (cI, 4096, .inl (fun _ => 0))), (q54, .inl (cI, 4096, .inl (fun _ => 0)))] H := hP
  have hD : va_D A [(h0, .inr (3, [.ref d, .ref y, .ref n, .ref q28, .ref q38, .ref q46, .ref q54, .null, .int 0, .int 0])), (q28, .inl (cI, 512, .inl (fun _ => 0))), (q38, .inl (cI, 4097, .inl (fun _ => 0))), (q46, .inl (cI, 4096, .inl (fun _ => 0))), (q54, .inl (cI, 4096, .inl (fun _ => 0)))] := hD
  refine lv_aload_n hx hb d_S_init_59 rfl (lv_at hl 1 rfl) ?_
  refine lv_iload hx hb d_S_init_60 (lv_at hl 0 rfl) ?_
  refine nwa (ty := .int) (atype := .int) (a0 := (4096, .inl (fun _ => 0))) 0 rfl (fun _ _ h9 => h9) hx hb (htb _ tw_138) rfl hK hP hD hS hA (fun _ => rfl) (by decide) rfl (by show _ ≤ _; simp only [componentBytes]; omega) (by show _ ≤ (5 : Nat); omega) (by show _ ≤ (16897 : Nat); omega) d_S_init_62 (fun q62 H hP hD hS => ?_)
  have hP : va_P (dC, dI) clAll [(h0, .inr (3, [.ref d, .ref y, .ref n, .ref q28, .ref q38, .ref q46, .ref q54, .null, .int 0, .int 0])), (q28, .inl (cI, 512, .inl (fun _ => 0))), (q38, .inl (cI, 4097, .inl (fun _ => 0))), (q46, .inl (cI, 4096, .inl (fun _ => 0))), (q54, .inl (cI, 4096, .inl (fun _ => 0))), (q62, .inl (cI, 4096, .inl (fun _ => 0)))] H := hP
  have hD : va_D A [(h0, .inr (3, [.ref d, .ref y, .ref n, .ref q28, .ref q38, .ref q46, .ref q54, .null, .int 0, .int 0])), (q28, .inl (cI, 512, .inl (fun _ => 0))), (q38, .inl (cI, 4097, .inl (fun _ => 0))), (q46, .inl (cI, 4096, .inl (fun _ => 0))), (q54, .inl (cI, 4096, .inl (fun _ => 0))), (q62, .inl (cI, 4096, .inl (fun _ => 0)))] := hD
  refine va_putF (D := (dC, dI)) (ci := 3) (v := .ref q62) (ty := .array .int) (C := R_S) (T := T_S) (N := 10) hx hb htb in_S ty_S tyok_S nm_S hown hK hP hD hS 0 rfl rfl 7 (by decide) (htb _ tw_183) (fun _ h9 => h9) rfl hin rfl (by decide +kernel) rfl rfl (Nat.le_of_ble_eq_true rfl) d_S_init_64 (fun H locs hP hD hS => ?_)
  have hP : va_P (dC, dI) clAll [(h0, .inr (3, [.ref d, .ref y, .ref n, .ref q28, .ref q38, .ref q46, .ref q54, .ref q62, .int 0, .int 0])), (q28, .inl (cI, 512, .inl (fun _ => 0))), (q38, .inl (cI, 4097, .inl (fun _ => 0))), (q46, .inl (cI, 4096, .inl (fun _ => 0))), (q54, .inl (cI, 4096, .inl (fun _ => 0))), (q62, .inl (cI, 4096, .inl (fun _ => 0)))] H := hP
  have hD : va_D A [(h0, .inr (3, [.ref d, .ref y, .ref n, .ref q28, .ref q38, .ref q46, .ref q54, .ref q62, .int 0, .int 0])), (q28, .inl (cI, 512, .inl (fun _ => 0))), (q38, .inl (cI, 4097, .inl (fun _ => 0))), (q46, .inl (cI, 4096, .inl (fun _ => 0))), (q54, .inl (cI, 4096, .inl (fun _ => 0))), (q62, .inl (cI, 4096, .inl (fun _ => 0)))] := hD
  refine lv_aload_n hx hb d_S_init_67 rfl (lv_at hl 1 rfl) ?_
  refine lv_iconst (v := -1) hx hb d_S_init_68 (by decide) ?_
  refine va_put (D := (dC, dI)) (ci := 3) (v := .int (-1)) (ty := .int) (C := R_S) (T := T_S) (N := 10) hx hb htb in_S ty_S tyok_S nm_S hown hK hP hD hS 0 rfl rfl 9 (by decide) (htb _ tw_185) (fun _ h9 => h9) rfl (by decide +kernel) rfl rfl (Nat.le_of_ble_eq_true rfl) d_S_init_69 (fun H locs hP hD hS => ?_)
  have hP : va_P (dC, dI) clAll [(h0, .inr (3, [.ref d, .ref y, .ref n, .ref q28, .ref q38, .ref q46, .ref q54, .ref q62, .int 0, .int (-1)])), (q28, .inl (cI, 512, .inl (fun _ => 0))), (q38, .inl (cI, 4097, .inl (fun _ => 0))), (q46, .inl (cI, 4096, .inl (fun _ => 0))), (q54, .inl (cI, 4096, .inl (fun _ => 0))), (q62, .inl (cI, 4096, .inl (fun _ => 0)))] H := hP
  have hD : va_D A [(h0, .inr (3, [.ref d, .ref y, .ref n, .ref q28, .ref q38, .ref q46, .ref q54, .ref q62, .int 0, .int (-1)])), (q28, .inl (cI, 512, .inl (fun _ => 0))), (q38, .inl (cI, 4097, .inl (fun _ => 0))), (q46, .inl (cI, 4096, .inl (fun _ => 0))), (q54, .inl (cI, 4096, .inl (fun _ => 0))), (q62, .inl (cI, 4096, .inl (fun _ => 0)))] := hD
  have hP9 := hP.sub (ws' := [(h0, .inr (3, [.ref d, .ref y, .ref n, .ref q28, .ref q38, .ref q46, .ref q54, .ref q62, .int 0, .int (-1)])), (q28, .inl (cI, 512, .inl (fun _ => 0))), (q38, .inl (cI, 4097, .inl (fun _ => 0))), (q46, .inl (cI, 4096, .inl (fun _ => 0))), (q54, .inl (cI, 4096, .inl (fun _ => 0))), (q62, .inl (cI, 4096, .inl (fun _ => 0)))]) [0, 1, 2, 3, 4, 5] rfl
  have hD9 := hD.sub (ws' := [(h0, .inr (3, [.ref d, .ref y, .ref n, .ref q28, .ref q38, .ref q46, .ref q54, .ref q62, .int 0, .int (-1)])), (q28, .inl (cI, 512, .inl (fun _ => 0))), (q38, .inl (cI, 4097, .inl (fun _ => 0))), (q46, .inl (cI, 4096, .inl (fun _ => 0))), (q54, .inl (cI, 4096, .inl (fun _ => 0))), (q62, .inl (cI, 4096, .inl (fun _ => 0)))]) [0, 1, 2, 3, 4, 5] (by decide) rfl
  refine W.widen (k := 5) (n := 16897) (by omega) (by omega) ?_
  exact W.vret hx hb hr (fun t ht hW => ⟨⟨(q28, q38, q46, q54, q62), rfl, trivial, by rw [ht]; exact hP9, va_K.moved hW.alike hK, hD9⟩, hS.F ht⟩) hS.2.2 d_S_init_72

set_option maxHeartbeats 4000000 in
set_option maxRecDepth 100000 in
theorem i_V {l : Launch} {dC : Nat → ClassId} {dI : Nat → Nat → Nat} {cI cL : ClassId} {a1 bk : Int32} {NW : Nat} (hbk : (if 128 < (if a1 < 512 then a1 else 512) then (if a1 < 512 then a1 else 512) else 128) = bk) (hnw : (bk * 1024 / 8).toNatClampNeg = NW) (hneg : ¬ bk * 1024 / 8 < 0) (hNW : NW ≤ 65536) {h0 hs : Nat} : Met l y_V_init ws_V_init { frames := 3, cells := 11, slots := 82500, locals := 90 } (va_Pc [.ref h0, .int a1] (fun U => U.heap.size = hs ∧ va_P (dC, dI) clAll [(h0, .inr (4, [.null, .null, .null, .null, .int 0]))] U.heap ∧ va_K (dC, dI) clAll [(cI, .int), (cL, .long)] U ∧ va_D (fun _ => True) [(h0, .inr (4, [.null, .null, .null, .null, .int 0]))])) (va_Qv (fun h : Nat → Nat => h 0 = h0) (fun h t => va_P (dC, dI) clAll (wC h cI cL NW bk (bk * 1024) (fun _ => 0) (fun _ => 0) 0 0 0 0 0 0 0 0 0 0 (fun _ => 0) (fun _ => 0) (fun _ => 0) (fun _ => 0) (fun _ => 0) 0 (-1) 2) t.heap ∧ va_K (dC, dI) clAll [(cI, .int), (cL, .long)] t ∧ va_D (va_A [(h0, .inr (4, [.null, .null, .null, .null, .int 0]))] hs) (wC h cI cL NW bk (bk * 1024) (fun _ => 0) (fun _ => 0) 0 0 0 0 0 0 0 0 0 0 (fun _ => 0) (fun _ => 0) (fun _ => 0) (fun _ => 0) (fun _ => 0) 0 (-1) 2)) (va_A [(h0, .inr (4, [.null, .null, .null, .null, .int 0]))] hs)) 11 82500 (va_A [(h0, .inr (4, [.null, .null, .null, .null, .int 0]))] hs) := by
  refine Met.ofW (cc := b_V_init) (maxL := 2) (ret := none) (by decide) rfl ?_
  intro p e s m args below meth c s₁ B hml hv
  obtain ⟨rfl, hsz, hP, hK, hD0⟩ := hv
  have hx := B.exec
  have hb := B.bytes
  have hr := B.returns
  have hts := atoms_spec (ws := ws_V_init) B.pre
  have htb : ∀ w ∈ TB, w.before _ s = true := fun w h => hts w (List.mem_cons_of_mem _ h)
  have hown : s.vm.findClass R_V = some m.cls := findClass_of_methodNamed B.named
  have hlocks := B.notSynchronized
  have hin : meth.name = "<init>" := (name_of_methodNamed B.named B.method).1
  subst hsz
  have hD := hD0.self (sz := s.heap.size)
  generalize hAe : va_A [(h0, .inr (4, [.null, .null, .null, .null, .int 0]))] s.heap.size = A at hD ⊢
  have hA : ∀ q : Nat, s.heap.size ≤ q → A q := fun q h => by rw [← hAe]; exact Or.inr h
  have hS : va_S A s.heap s.heap [] := va_S.rf
  have hl := lv_entry ([.ref h0, .int a1]) (n := 2) (Nat.le_of_ble_eq_true rfl)
  rw [lg_entry_eq]
  generalize (lg_sl ([.ref h0, .int a1]) ++ List.replicate (2 - (lg_sl ([.ref h0, .int a1])).length) Slot.unset).toArray = ls at hl ⊢
  have hl : lv_has ls 2 [(0, .ref h0), (1, .int a1)] := hl
  obtain ⟨H, eH⟩ : ∃ H, H = s.heap := ⟨_, rfl⟩
  refine lv_aload_n hx hb d_V_init_0 rfl (lv_at hl 0 rfl) ?_
  refine W.objInit hx hb hown (htb _ tw_87) (htb _ tw_88) (htb _ tw_89) rfl (by rw [hml]; exact hl.1) rfl d_V_init_1 (Nat.le_of_ble_eq_true rfl) (Nat.le_of_ble_eq_true rfl) ?_
  refine W.eq (g2 := F0 m 4 ls []) rfl ?_
  refine lv_aload_n hx hb d_V_init_4 rfl (lv_at hl 0 rfl) ?_
  refine va_new (ci := 0) (fs := [.int 0, .int 0, .null]) (C := R_D) (T := T_D) (N := 3) hx hb htb in_D ty_D tyok_D hown (htb _ tw_90) (htb _ tw_91) (htb _ tw_69) hK hP hD hS hA rfl (by decide +kernel) (by show _ ≤ (11 : Nat); omega) (by show _ ≤ (82500 : Nat); omega) d_V_init_5 (fun q5 H hP hD hS => ?_)
  have hP : va_P (dC, dI) clAll [(h0, .inr (4, [.null, .null, .null, .null, .int 0])), (q5, .inr (0, [.int 0, .int 0, .null]))] H := hP
  have hD : va_D A [(h0, .inr (4, [.null, .null, .null, .null, .int 0])), (q5, .inr (0, [.int 0, .int 0, .null]))] := hD
  refine lv_dup hx hb d_V_init_8 rfl ?_
  refine lv_iload_n hx hb d_V_init_9 rfl (lv_at hl 1 rfl) ?_
  have hPc := hP.sub (ws' := [(q5, .inr (0, [.int 0, .int 0, .null]))]) [1] rfl
  have hDc := hD.sub (ws' := [(q5, .inr (0, [.int 0, .int 0, .null]))]) [1] (by decide) rfl
  have hFc := va_free (wc := [(q5, .inr (0, [.int 0, .int 0, .null]))]) hD hS hA [1] rfl
  refine va_callv (va_runI (As := [.int a1]) (rest := [.ref q5, .ref h0]) ⟨hx, hb, hml, hown, htb⟩ (i_D hbk hnw hneg hNW (hs := H.size)) (cwI 1 htb (gI tw_94) rfl rfl rfl (htb _ tw_69) (htb _ tw_92) (htb _ tw_93) rfl (by decide +kernel) ⟨Nat.le_of_ble_eq_true rfl, Nat.le_of_ble_eq_true rfl⟩) ⟨ct_blind, fun U hU hW => ⟨rfl, by rw [hU], by rw [hU]; exact hPc, va_K.moved hW.alike hK, hDc.weaken (fun _ _ _ _ => trivial)⟩⟩ rfl rfl hl.1 rfl (lv_room (Nat.le_of_ble_eq_true rfl)) d_V_init_10 ⟨by show _ ≤ (11 : Nat); omega, by show _ ≤ (82500 : Nat); omega⟩) hS (fun q _ h => hFc q h) hFc (fun u t H1 locs ht hvm hw hB hz1 hk1 hS => ?_)
  obtain ⟨q_10, rfl⟩ : ∃ z, z = u := ⟨_, rfl⟩
  obtain ⟨hP1, hK1, hD1⟩ := hB
  rw [ht] at hP1
  obtain ⟨hP, hD⟩ := va_join (wr := [(h0, .inr (4, [.null, .null, .null, .null, .int 0]))]) (w1 := [(q5, .inr (0, [.int bk, .int (bk * 1024), .ref q_10])), (q_10, .inl (cL, NW, .inr (.inl (fun _ => 0))))]) hP hD [1] [0] rfl rfl (by decide) (by decide) hk1 hFc hP1 hD1
  generalize H1 = H at hP hS ⊢
  have hP : va_P (dC, dI) clAll [(h0, .inr (4, [.null, .null, .null, .null, .int 0])), (q5, .inr (0, [.int bk, .int (bk * 1024), .ref q_10])), (q_10, .inl (cL, NW, .inr (.inl (fun _ => 0))))] H := hP
  have hD : va_D A [(h0, .inr (4, [.null, .null, .null, .null, .int 0])), (q5, .inr (0, [.int bk, .int (bk * 1024), .ref q_10])), (q_10, .inl (cL, NW, .inr (.inl (fun _ => 0))))] := hD
  refine va_putF (D := (dC, dI)) (ci := 4) (v := .ref q5) (ty := .object "InodeVolumes$Disk") (C := R_V) (T := T_V) (N := 5) hx hb htb in_V ty_V tyok_V nm_V hown hK hP hD hS 0 rfl rfl 0 (by decide) (htb _ tw_207) (fun _ h9 => h9) rfl hin rfl (by decide +kernel) rfl rfl (Nat.le_of_ble_eq_true rfl) d_V_init_13 (fun H locs hP hD hS => ?_)
  have hP : va_P (dC, dI) clAll [(h0, .inr (4, [.ref q5, .null, .null, .null, .int 0])), (q5, .inr (0, [.int bk, .int (bk * 1024), .ref q_10])), (q_10, .inl (cL, NW, .inr (.inl (fun _ => 0))))] H := hP
  have hD : va_D A [(h0, .inr (4, [.ref q5, .null, .null, .null, .int 0])), (q5, .inr (0, [.int bk, .int (bk * 1024), .ref q_10])), (q_10, .inl (cL, NW, .inr (.inl (fun _ => 0))))] := hD
  refine lv_aload_n hx hb d_V_init_16 rfl (lv_at hl 0 rfl) ?_
  refine va_new (ci := 2) (fs := [.null, .null, .int 0, .int 0, .int 0, .int 0]) (C := R_L) (T := T_L) (N := 6) hx hb htb in_L ty_L tyok_L hown (htb _ tw_113) (htb _ tw_114) (htb _ tw_71) hK hP hD hS hA rfl (by decide +kernel) (by show _ ≤ (11 : Nat); omega) (by show _ ≤ (82500 : Nat); omega) d_V_init_17 (fun q17 H hP hD hS => ?_)
  have hP : va_P (dC, dI) clAll [(h0, .inr (4, [.ref q5, .null, .null, .null, .int 0])), (q5, .inr (0, [.int bk, .int (bk * 1024), .ref q_10])), (q_10, .inl (cL, NW, .inr (.inl (fun _ => 0)))), (q17, .inr (2, [.null, .null, .int 0, .int 0, .int 0, .int 0]))] H := hP
  have hD : va_D A [(h0, .inr (4, [.ref q5, .null, .null, .null, .int 0])), (q5, .inr (0, [.int bk, .int (bk * 1024), .ref q_10])), (q_10, .inl (cL, NW, .inr (.inl (fun _ => 0)))), (q17, .inr (2, [.null, .null, .int 0, .int 0, .int 0, .int 0]))] := hD
  refine lv_dup hx hb d_V_init_20 rfl ?_
  refine lv_aload_n hx hb d_V_init_21 rfl (lv_at hl 0 rfl) ?_
  refine va_get (D := (dC, dI)) (ci := 4) (v := .ref q5) (C := R_V) (T := T_V) (N := 5) hx hb htb in_V hown hK hP 0 rfl rfl 0 (by decide) (htb _ tw_207) (fun _ h9 => h9) rfl d_V_init_22 ?_
  have hPc := hP.sub (ws' := [(q17, .inr (2, [.null, .null, .int 0, .int 0, .int 0, .int 0]))]) [3] rfl
  have hDc := hD.sub (ws' := [(q17, .inr (2, [.null, .null, .int 0, .int 0, .int 0, .int 0]))]) [3] (by decide) rfl
  have hFc := va_free (wc := [(q17, .inr (2, [.null, .null, .int 0, .int 0, .int 0, .int 0]))]) hD hS hA [3] rfl
  refine va_callv (va_runI (As := [.ref q5]) (rest := [.ref q17, .ref h0]) ⟨hx, hb, hml, hown, htb⟩ (i_L  (hs := H.size)) (cwI 1 htb (gI tw_117) rfl rfl rfl (htb _ tw_71) (htb _ tw_115) (htb _ tw_116) rfl (by decide +kernel) ⟨Nat.le_of_ble_eq_true rfl, Nat.le_of_ble_eq_true rfl⟩) ⟨ct_blind, fun U hU hW => ⟨rfl, by rw [hU], by rw [hU]; exact hPc, va_K.moved hW.alike hK, hDc.weaken (fun _ _ _ _ => trivial)⟩⟩ rfl rfl hl.1 rfl (lv_room (Nat.le_of_ble_eq_true rfl)) d_V_init_25 ⟨by show _ ≤ (11 : Nat); omega, by show _ ≤ (82500 : Nat); omega⟩) hS (fun q _ h => hFc q h) hFc (fun u t H1 locs ht hvm hw hB hz1 hk1 hS => ?_)
  obtain ⟨q_25, rfl⟩ : ∃ z, z = u := ⟨_, rfl⟩
  obtain ⟨hP1, hK1, hD1⟩ := hB
  rw [ht] at hP1
  obtain ⟨hP, hD⟩ := va_join (wr := [(h0, .inr (4, [.ref q5, .null, .null, .null, .int 0])), (q5, .inr (0, [.int bk, .int (bk * 1024), .ref q_10])), (q_10, .inl (cL, NW, .inr (.inl (fun _ => 0))))]) (w1 := [(q17, .inr (2, [.ref q5, .ref q_25, .int 0, .int 0, .int 0, .int 0])), (q_25, .inl (cI, 8, .inl (fun _ => 0)))]) hP hD [3] [0, 1, 2] rfl rfl (by decide) (by decide) hk1 hFc hP1 hD1
  generalize H1 = H at hP hS ⊢
  have hP : va_P (dC, dI) clAll [(h0, .inr (4, [.ref q5, .null, .null, .null, .int 0])), (q5, .inr (0, [.int bk, .int (bk * 1024), .ref q_10])), (q_10, .inl (cL, NW, .inr (.inl (fun _ => 0)))), (q17, .inr (2, [.ref q5, .ref q_25, .int 0, .int 0, .int 0, .int 0])), (q_25, .inl (cI, 8, .inl (fun _ => 0)))] H := hP
  have hD : va_D A [(h0, .inr (4, [.ref q5, .null, .null, .null, .int 0])), (q5, .inr (0, [.int bk, .int (bk * 1024), .ref q_10])), (q_10, .inl (cL, NW, .inr (.inl (fun _ => 0)))), (q17, .inr (2, [.ref q5, .ref q_25, .int 0, .int 0, .int 0, .int 0])), (q_25, .inl (cI, 8, .inl (fun _ => 0)))] := hD
  refine va_putF (D := (dC, dI)) (ci := 4) (v := .ref q17) (ty := .object "InodeVolumes$Layout") (C := R_V) (T := T_V) (N := 5) hx hb htb in_V ty_V tyok_V nm_V hown hK hP hD hS 0 rfl rfl 1 (by decide) (htb _ tw_208) (fun _ h9 => h9) rfl hin rfl (by decide +kernel) rfl rfl (Nat.le_of_ble_eq_true rfl) d_V_init_28 (fun H locs hP hD hS => ?_)
  have hP : va_P (dC, dI) clAll [(h0, .inr (4, [.ref q5, .ref q17, .null, .null, .int 0])), (q5, .inr (0, [.int bk, .int (bk * 1024), .ref q_10])), (q_10, .inl (cL, NW, .inr (.inl (fun _ => 0)))), (q17, .inr (2, [.ref q5, .ref q_25, .int 0, .int 0, .int 0, .int 0])), (q_25, .inl (cI, 8, .inl (fun _ => 0)))] H := hP
  have hD : va_D A [(h0, .inr (4, [.ref q5, .ref q17, .null, .null, .int 0])), (q5, .inr (0, [.int bk, .int (bk * 1024), .ref q_10])), (q_10, .inl (cL, NW, .inr (.inl (fun _ => 0)))), (q17, .inr (2, [.ref q5, .ref q_25, .int 0, .int 0, .int 0, .int 0])), (q_25, .inl (cI, 8, .inl (fun _ => 0)))] := hD
  refine lv_aload_n hx hb d_V_init_31 rfl (lv_at hl 0 rfl) ?_
  refine va_new (ci := 1) (fs := [.null, .null, .int 0, .long 0, .long 0, .int 0, .long 0, .long 0]) (C := R_E) (T := T_E) (N := 8) hx hb htb in_E ty_E tyok_E hown (htb _ tw_139) (htb _ tw_140) (htb _ tw_72) hK hP hD hS hA rfl (by decide +kernel) (by show _ ≤ (11 : Nat); omega) (by show _ ≤ (82500 : Nat); omega) d_V_init_32 (fun q32 H hP hD hS => ?_)
  have hP : va_P (dC, dI) clAll [(h0, .inr (4, [.ref q5, .ref q17, .null, .null, .int 0])), (q5, .inr (0, [.int bk, .int (bk * 1024), .ref q_10])), (q_10, .inl (cL, NW, .inr (.inl (fun _ => 0)))), (q17, .inr (2, [.ref q5, .ref q_25, .int 0, .int 0, .int 0, .int 0])), (q_25, .inl (cI, 8, .inl (fun _ => 0))), (q32, .inr (1, [.null, .null, .int 0, .long 0, .long 0, .int 0, .long 0, .long 0]))] H := hP
  have hD : va_D A [(h0, .inr (4, [.ref q5, .ref q17, .null, .null, .int 0])), (q5, .inr (0, [.int bk, .int (bk * 1024), .ref q_10])), (q_10, .inl (cL, NW, .inr (.inl (fun _ => 0)))), (q17, .inr (2, [.ref q5, .ref q_25, .int 0, .int 0, .int 0, .int 0])), (q_25, .inl (cI, 8, .inl (fun _ => 0))), (q32, .inr (1, [.null, .null, .int 0, .long 0, .long 0, .int 0, .long 0, .long 0]))] := hD
  refine lv_dup hx hb d_V_init_35 rfl ?_
  refine lv_aload_n hx hb d_V_init_36 rfl (lv_at hl 0 rfl) ?_
  refine va_get (D := (dC, dI)) (ci := 4) (v := .ref q5) (C := R_V) (T := T_V) (N := 5) hx hb htb in_V hown hK hP 0 rfl rfl 0 (by decide) (htb _ tw_207) (fun _ h9 => h9) rfl d_V_init_37 ?_
  refine lv_aload_n hx hb d_V_init_40 rfl (lv_at hl 0 rfl) ?_
  refine va_get (D := (dC, dI)) (ci := 4) (v := .ref q17) (C := R_V) (T := T_V) (N := 5) hx hb htb in_V hown hK hP 0 rfl rfl 1 (by decide) (htb _ tw_208) (fun _ h9 => h9) rfl d_V_init_41 ?_
  have hPc := hP.sub (ws' := [(q32, .inr (1, [.null, .null, .int 0, .long 0, .long 0, .int 0, .long 0, .long 0]))]) [5] rfl
  have hDc := hD.sub (ws' := [(q32, .inr (1, [.null, .null, .int 0, .long 0, .long 0, .int 0, .long 0, .long 0]))]) [5] (by decide) rfl
  have hFc := va_free (wc := [(q32, .inr (1, [.null, .null, .int 0, .long 0, .long 0, .int 0, .long 0, .long 0]))]) hD hS hA [5] rfl
  refine va_callv (va_runI (As := [.ref q5, .ref q17]) (rest := [.ref q32, .ref h0]) ⟨hx, hb, hml, hown, htb⟩ (i_E  (hs := H.size)) (cwI 2 htb (gI tw_143) rfl rfl rfl (htb _ tw_72) (htb _ tw_141) (htb _ tw_142) rfl (by decide +kernel) ⟨Nat.le_of_ble_eq_true rfl, Nat.le_of_ble_eq_true rfl⟩) ⟨ct_blind, fun U hU hW => ⟨rfl, by rw [hU], by rw [hU]; exact hPc, va_K.moved hW.alike hK, hDc.weaken (fun _ _ _ _ => trivial)⟩⟩ rfl rfl hl.1 rfl (lv_room (Nat.le_of_ble_eq_true rfl)) d_V_init_44 ⟨by show _ ≤ (11 : Nat); omega, by show _ ≤ (82500 : Nat); omega⟩) hS (fun q _ h => hFc q h) hFc (fun u t H1 locs ht hvm hw hB hz1 hk1 hS => ?_)
  obtain ⟨hP1, hK1, hD1⟩ := hB
  rw [ht] at hP1
  obtain ⟨hP, hD⟩ := va_join (wr := [(h0, .inr (4, [.ref q5, .ref q17, .null, .null, .int 0])), (q5, .inr (0, [.int bk, .int (bk * 1024), .ref q_10])), (q_10, .inl (cL, NW, .inr (.inl (fun _ => 0)))), (q17, .inr (2, [.ref q5, .ref q_25, .int 0, .int 0, .int 0, .int 0])), (q_25, .inl (cI, 8, .inl (fun _ => 0)))]) (w1 := [(q32, .inr (1, [.ref q5, .ref q17, .int 0, .long 0, .long 0, .int 0, .long 0, .long 0]))]) hP hD [5] [0, 1, 2, 3, 4] rfl rfl (by decide) (by decide) hk1 hFc hP1 hD1
  generalize H1 = H at hP hS ⊢
  have hP : va_P (dC, dI) clAll [(h0, .inr (4, [.ref q5, .ref q17, .null, .null, .int 0])), (q5, .inr (0, [.int bk, .int (bk * 1024), .ref q_10])), (q_10, .inl (cL, NW, .inr (.inl (fun _ => 0)))), (q17, .inr (2, [.ref q5, .ref q_25, .int 0, .int 0, .int 0, .int 0])), (q_25, .inl (cI, 8, .inl (fun _ => 0))), (q32, .inr (1, [.ref q5, .ref q17, .int 0, .long 0, .long 0, .int 0, .long 0, .long 0]))] H := hP
  have hD : va_D A [(h0, .inr (4, [.ref q5, .ref q17, .null, .null, .int 0])), (q5, .inr (0, [.int bk, .int (bk * 1024), .ref q_10])), (q_10, .inl (cL, NW, .inr (.inl (fun _ => 0)))), (q17, .inr (2, [.ref q5, .ref q_25, .int 0, .int 0, .int 0, .int 0])), (q_25, .inl (cI, 8, .inl (fun _ => 0))), (q32, .inr (1, [.ref q5, .ref q17, .int 0, .long 0, .long 0, .int 0, .long 0, .long 0]))] := hD
  refine va_putF (D := (dC, dI)) (ci := 4) (v := .ref q32) (ty := .object "InodeVolumes$Entries") (C := R_V) (T := T_V) (N := 5) hx hb htb in_V ty_V tyok_V nm_V hown hK hP hD hS 0 rfl rfl 2 (by decide) (htb _ tw_209) (fun _ h9 => h9) rfl hin rfl (by decide +kernel) rfl rfl (Nat.le_of_ble_eq_true rfl) d_V_init_47 (fun H locs hP hD hS => ?_)
  have hP : va_P (dC, dI) clAll [(h0, .inr (4, [.ref q5, .ref q17, .ref q32, .null, .int 0])), (q5, .inr (0, [.int bk, .int (bk * 1024), .ref q_10])), (q_10, .inl (cL, NW, .inr (.inl (fun _ => 0)))), (q17, .inr (2, [.ref q5, .ref q_25, .int 0, .int 0, .int 0, .int 0])), (q_25, .inl (cI, 8, .inl (fun _ => 0))), (q32, .inr (1, [.ref q5, .ref q17, .int 0, .long 0, .long 0, .int 0, .long 0, .long 0]))] H := hP
  have hD : va_D A [(h0, .inr (4, [.ref q5, .ref q17, .ref q32, .null, .int 0])), (q5, .inr (0, [.int bk, .int (bk * 1024), .ref q_10])), (q_10, .inl (cL, NW, .inr (.inl (fun _ => 0)))), (q17, .inr (2, [.ref q5, .ref q_25, .int 0, .int 0, .int 0, .int 0])), (q_25, .inl (cI, 8, .inl (fun _ => 0))), (q32, .inr (1, [.ref q5, .ref q17, .int 0, .long 0, .long 0, .int 0, .long 0, .long 0]))] := hD
  refine lv_aload_n hx hb d_V_init_50 rfl (lv_at hl 0 rfl) ?_
  refine va_new (ci := 3) (fs := [.null, .null, .null, .null, .null, .null, .null, .null, .int 0, .int 0]) (C := R_S) (T := T_S) (N := 10) hx hb htb in_S ty_S tyok_S hown (htb _ tw_170) (htb _ tw_171) (htb _ tw_73) hK hP hD hS hA rfl (by decide +kernel) (by show _ ≤ (11 : Nat); omega) (by show _ ≤ (82500 : Nat); omega) d_V_init_51 (fun q51 H hP hD hS => ?_)
  have hP : va_P (dC, dI) clAll [(h0, .inr (4, [.ref q5, .ref q17, .ref q32, .null, .int 0])), (q5, .inr (0, [.int bk, .int (bk * 1024), .ref q_10])), (q_10, .inl (cL, NW, .inr (.inl (fun _ => 0)))), (q17, .inr (2, [.ref q5, .ref q_25, .int 0, .int 0, .int 0, .int 0])), (q_25, .inl (cI, 8, .inl (fun _ => 0))), (q32, .inr (1, [.ref q5, .ref q17, .int 0, .long 0, .long 0, .int 0, .long 0, .long 0])), (q51, .inr (3, [.null, .null, .null, .null, .null, .null, .null, .null, .int 0, .int 0]))] H := hP
  have hD : va_D A [(h0, .inr (4, [.ref q5, .ref q17, .ref q32, .null, .int 0])), (q5, .inr (0, [.int bk, .int (bk * 1024), .ref q_10])), (q_10, .inl (cL, NW, .inr (.inl (fun _ => 0)))), (q17, .inr (2, [.ref q5, .ref q_25, .int 0, .int 0, .int 0, .int 0])), (q_25, .inl (cI, 8, .inl (fun _ => 0))), (q32, .inr (1, [.ref q5, .ref q17, .int 0, .long 0, .long 0, .int 0, .long 0, .long 0])), (q51, .inr (3, [.null, .null, .null, .null, .null, .null, .null, .null, .int 0, .int 0]))] := hD
  refine lv_dup hx hb d_V_init_54 rfl ?_
  refine lv_aload_n hx hb d_V_init_55 rfl (lv_at hl 0 rfl) ?_
  refine va_get (D := (dC, dI)) (ci := 4) (v := .ref q5) (C := R_V) (T := T_V) (N := 5) hx hb htb in_V hown hK hP 0 rfl rfl 0 (by decide) (htb _ tw_207) (fun _ h9 => h9) rfl d_V_init_56 ?_
  refine lv_aload_n hx hb d_V_init_59 rfl (lv_at hl 0 rfl) ?_
  refine va_get (D := (dC, dI)) (ci := 4) (v := .ref q17) (C := R_V) (T := T_V) (N := 5) hx hb htb in_V hown hK hP 0 rfl rfl 1 (by decide) (htb _ tw_208) (fun _ h9 => h9) rfl d_V_init_60 ?_
  refine lv_aload_n hx hb d_V_init_63 rfl (lv_at hl 0 rfl) ?_
  refine va_get (D := (dC, dI)) (ci := 4) (v := .ref q32) (C := R_V) (T := T_V) (N := 5) hx hb htb in_V hown hK hP 0 rfl rfl 2 (by decide) (htb _ tw_209) (fun _ h9 => h9) rfl d_V_init_64 ?_
  have hPc := hP.sub (ws' := [(q51, .inr (3, [.null, .null, .null, .null, .null, .null, .null, .null, .int 0, .int 0]))]) [6] rfl
  have hDc := hD.sub (ws' := [(q51, .inr (3, [.null, .null, .null, .null, .null, .null, .null, .null, .int 0, .int 0]))]) [6] (by decide) rfl
  have hFc := va_free (wc := [(q51, .inr (3, [.null, .null, .null, .null, .null, .null, .null, .null, .int 0, .int 0]))]) hD hS hA [6] rfl
  refine va_callv (va_runI (As := [.ref q5, .ref q17, .ref q32]) (rest := [.ref q51, .ref h0]) ⟨hx, hb, hml, hown, htb⟩ (i_S  (hs := H.size)) (cwI 3 htb (gI tw_174) rfl rfl rfl (htb _ tw_73) (htb _ tw_172) (htb _ tw_173) rfl (by decide +kernel) ⟨Nat.le_of_ble_eq_true rfl, Nat.le_of_ble_eq_true rfl⟩) ⟨ct_blind, fun U hU hW => ⟨rfl, by rw [hU], by rw [hU]; exact hPc, va_K.moved hW.alike hK, hDc.weaken (fun _ _ _ _ => trivial)⟩⟩ rfl rfl hl.1 rfl (lv_room (Nat.le_of_ble_eq_true rfl)) d_V_init_67 ⟨by show _ ≤ (11 : Nat); omega, by show _ ≤ (82500 : Nat); omega⟩) hS (fun q _ h => hFc q h) hFc (fun u t H1 locs ht hvm hw hB hz1 hk1 hS => ?_)
  obtain ⟨qa_67, qb_67, qc_67, qd_67, qe_67⟩ := u
  obtain ⟨hP1, hK1, hD1⟩ := hB
  rw [ht] at hP1
  obtain ⟨hP, hD⟩ := va_join (wr := [(h0, .inr (4, [.ref q5, .ref q17, .ref q32, .null, .int 0])), (q5, .inr (0, [.int bk, .int (bk * 1024), .ref q_10])), (q_10, .inl (cL, NW, .inr (.inl (fun _ => 0)))), (q17, .inr (2, [.ref q5, .ref q_25, .int 0, .int 0, .int 0, .int 0])), (q_25, .inl (cI, 8, .inl (fun _ => 0))), (q32, .inr (1, [.ref q5, .ref q17, .int 0, .long 0, .long 0, .int 0, .long 0, .long 0]))]) (w1 := [(q51, .inr (3, [.ref q5, .ref q17, .ref q32, .ref qa_67, .ref qb_67, .ref qc_67, .ref qd_67, .ref qe_67, .int 0, .int (-1)])), (qa_67, .inl (cI, 512, .inl (fun _ => 0))), (qb_67, .inl (cI, 4097, .inl (fun _ => 0))), (qc_67, .inl (cI, 4096, .inl (fun _ => 0))), (qd_67, .inl (cI, 4096, .inl (fun _ => 0))), (qe_67, .inl (cI, 4096, .inl (fun _ => 0)))]) hP hD [6] [0, 1, 2, 3, 4, 5] rfl rfl (by decide) (by decide) hk1 hFc hP1 hD1
  generalize H1 = H at hP hS ⊢
  have hP : va_P (dC, dI) clAll [(h0, .inr (4, [.ref q5, .ref q17, .ref q32, .null, .int 0])), (q5, .inr (0, [.int bk, .int (bk * 1024), .ref q_10])), (q_10, .inl (cL, NW, .inr (.inl (fun _ => 0)))), (q17, .inr (2, [.ref q5, .ref q_25, .int 0, .int 0, .int 0, .int 0])), (q_25, .inl (cI, 8, .inl (fun _ => 0))), (q32, .inr (1, [.ref q5, .ref q17, .int 0, .long 0, .long 0, .int 0, .long 0, .long 0])), (q51, .inr (3, [.ref q5, .ref q17, .ref q32, .ref qa_67, .ref qb_67, .ref qc_67, .ref qd_67, .ref qe_67, .int 0, .int (-1)])), (qa_67, .inl (cI, 512, .inl (fun _ => 0))), (qb_67, .inl (cI, 4097, .inl (fun _ => 0))), (qc_67, .inl (cI, 4096, .inl (fun _ => 0))), (qd_67, .inl (cI, 4096, .inl (fun _ => 0))), (qe_67, .inl (cI, 4096, .inl (fun _ => 0)))] H := hP
  have hD : va_D A [(h0, .inr (4, [.ref q5, .ref q17, .ref q32, .null, .int 0])), (q5, .inr (0, [.int bk, .int (bk * 1024), .ref q_10])), (q_10, .inl (cL, NW, .inr (.inl (fun _ => 0)))), (q17, .inr (2, [.ref q5, .ref q_25, .int 0, .int 0, .int 0, .int 0])), (q_25, .inl (cI, 8, .inl (fun _ => 0))), (q32, .inr (1, [.ref q5, .ref q17, .int 0, .long 0, .long 0, .int 0, .long 0, .long 0])), (q51, .inr (3, [.ref q5, .ref q17, .ref q32, .ref qa_67, .ref qb_67, .ref qc_67, .ref qd_67, .ref qe_67, .int 0, .int (-1)])), (qa_67, .inl (cI, 512, .inl (fun _ => 0))), (qb_67, .inl (cI, 4097, .inl (fun _ => 0))), (qc_67, .inl (cI, 4096, .inl (fun _ => 0))), (qd_67, .inl (cI, 4096, .inl (fun _ => 0))), (qe_67, .inl (cI, 4096, .inl (fun _ => 0)))] := hD
  refine va_putF (D := (dC, dI)) (ci := 4) (v := .ref q51) (ty := .object "InodeVolumes$Survey") (C := R_V) (T := T_V) (N := 5) hx hb htb in_V ty_V tyok_V nm_V hown hK hP hD hS 0 rfl rfl 3 (by decide) (htb _ tw_210) (fun _ h9 => h9) rfl hin rfl (by decide +kernel) rfl rfl (Nat.le_of_ble_eq_true rfl) d_V_init_70 (fun H locs hP hD hS => ?_)
  have hP : va_P (dC, dI) clAll [(h0, .inr (4, [.ref q5, .ref q17, .ref q32, .ref q51, .int 0])), (q5, .inr (0, [.int bk, .int (bk * 1024), .ref q_10])), (q_10, .inl (cL, NW, .inr (.inl (fun _ => 0)))), (q17, .inr (2, [.ref q5, .ref q_25, .int 0, .int 0, .int 0, .int 0])), (q_25, .inl (cI, 8, .inl (fun _ => 0))), (q32, .inr (1, [.ref q5, .ref q17, .int 0, .long 0, .long 0, .int 0, .long 0, .long 0])), (q51, .inr (3, [.ref q5, .ref q17, .ref q32, .ref qa_67, .ref qb_67, .ref qc_67, .ref qd_67, .ref qe_67, .int 0, .int (-1)])), (qa_67, .inl (cI, 512, .inl (fun _ => 0))), (qb_67, .inl (cI, 4097, .inl (fun _ => 0))), (qc_67, .inl (cI, 4096, .inl (fun _ => 0))), (qd_67, .inl (cI, 4096, .inl (fun _ => 0))), (qe_67, .inl (cI, 4096, .inl (fun _ => 0)))] H := hP
  have hD : va_D A [(h0, .inr (4, [.ref q5, .ref q17, .ref q32, .ref q51, .int 0])), (q5, .inr (0, [.int bk, .int (bk * 1024), .ref q_10])), (q_10, .inl (cL, NW, .inr (.inl (fun _ => 0)))), (q17, .inr (2, [.ref q5, .ref q_25, .int 0, .int 0, .int 0, .int 0])), (q_25, .inl (cI, 8, .inl (fun _ => 0))), (q32, .inr (1, [.ref q5, .ref q17, .int 0, .long 0, .long 0, .int 0, .long 0, .long 0])), (q51, .inr (3, [.ref q5, .ref q17, .ref q32, .ref qa_67, .ref qb_67, .ref qc_67, .ref qd_67, .ref qe_67, .int 0, .int (-1)])), (qa_67, .inl (cI, 512, .inl (fun _ => 0))), (qb_67, .inl (cI, 4097, .inl (fun _ => 0))), (qc_67, .inl (cI, 4096, .inl (fun _ => 0))), (qd_67, .inl (cI, 4096, .inl (fun _ => 0))), (qe_67, .inl (cI, 4096, .inl (fun _ => 0)))] := hD
  refine lv_aload_n hx hb d_V_init_73 rfl (lv_at hl 0 rfl) ?_
  refine lv_iconst (v := 2) hx hb d_V_init_74 (by decide) ?_
  refine va_put (D := (dC, dI)) (ci := 4) (v := .int 2) (ty := .int) (C := R_V) (T := T_V) (N := 5) hx hb htb in_V ty_V tyok_V nm_V hown hK hP hD hS 0 rfl rfl 4 (by decide) (htb _ tw_211) (fun _ h9 => h9) rfl (by decide +kernel) rfl rfl (Nat.le_of_ble_eq_true rfl) d_V_init_75 (fun H locs hP hD hS => ?_)
  have hP : va_P (dC, dI) clAll [(h0, .inr (4, [.ref q5, .ref q17, .ref q32, .ref q51, .int 2])), (q5, .inr (0, [.int bk, .int (bk * 1024), .ref q_10])), (q_10, .inl (cL, NW, .inr (.inl (fun _ => 0)))), (q17, .inr (2, [.ref q5, .ref q_25, .int 0, .int 0, .int 0, .int 0])), (q_25, .inl (cI, 8, .inl (fun _ => 0))), (q32, .inr (1, [.ref q5, .ref q17, .int 0, .long 0, .long 0, .int 0, .long 0, .long 0])), (q51, .inr (3, [.ref q5, .ref q17, .ref q32, .ref qa_67, .ref qb_67, .ref qc_67, .ref qd_67, .ref qe_67, .int 0, .int (-1)])), (qa_67, .inl (cI, 512, .inl (fun _ => 0))), (qb_67, .inl (cI, 4097, .inl (fun _ => 0))), (qc_67, .inl (cI, 4096, .inl (fun _ => 0))), (qd_67, .inl (cI, 4096, .inl (fun _ => 0))), (qe_67, .inl (cI, 4096, .inl (fun _ => 0)))] H := hP
  have hD : va_D A [(h0, .inr (4, [.ref q5, .ref q17, .ref q32, .ref q51, .int 2])), (q5, .inr (0, [.int bk, .int (bk * 1024), .ref q_10])), (q_10, .inl (cL, NW, .inr (.inl (fun _ => 0)))), (q17, .inr (2, [.ref q5, .ref q_25, .int 0, .int 0, .int 0, .int 0])), (q_25, .inl (cI, 8, .inl (fun _ => 0))), (q32, .inr (1, [.ref q5, .ref q17, .int 0, .long 0, .long 0, .int 0, .long 0, .long 0])), (q51, .inr (3, [.ref q5, .ref q17, .ref q32, .ref qa_67, .ref qb_67, .ref qc_67, .ref qd_67, .ref qe_67, .int 0, .int (-1)])), (qa_67, .inl (cI, 512, .inl (fun _ => 0))), (qb_67, .inl (cI, 4097, .inl (fun _ => 0))), (qc_67, .inl (cI, 4096, .inl (fun _ => 0))), (qd_67, .inl (cI, 4096, .inl (fun _ => 0))), (qe_67, .inl (cI, 4096, .inl (fun _ => 0)))] := hD
  have hP9 := hP.sub (ws' := [(h0, .inr (4, [.ref q5, .ref q17, .ref q32, .ref q51, .int 2])), (q5, .inr (0, [.int bk, .int (bk * 1024), .ref q_10])), (q_10, .inl (cL, NW, .inr (.inl (fun _ => 0)))), (q17, .inr (2, [.ref q5, .ref q_25, .int 0, .int 0, .int 0, .int 0])), (q_25, .inl (cI, 8, .inl (fun _ => 0))), (q32, .inr (1, [.ref q5, .ref q17, .int 0, .long 0, .long 0, .int 0, .long 0, .long 0])), (q51, .inr (3, [.ref q5, .ref q17, .ref q32, .ref qa_67, .ref qb_67, .ref qc_67, .ref qd_67, .ref qe_67, .int 0, .int (-1)])), (qa_67, .inl (cI, 512, .inl (fun _ => 0))), (qb_67, .inl (cI, 4097, .inl (fun _ => 0))), (qc_67, .inl (cI, 4096, .inl (fun _ => 0))), (qd_67, .inl (cI, 4096, .inl (fun _ => 0))), (qe_67, .inl (cI, 4096, .inl (fun _ => 0)))]) [0, 1, 2, 3, 4, 5, 6, 7, 8, 9, 10, 11] rfl
  have hD9 := hD.sub (ws' := [(h0, .inr (4, [.ref q5, .ref q17, .ref q32, .ref q51, .int 2])), (q5, .inr (0, [.int bk, .int (bk * 1024), .ref q_10])), (q_10, .inl (cL, NW, .inr (.inl (fun _ => 0)))), (q17, .inr (2, [.ref q5, .ref q_25, .int 0, .int 0, .int 0, .int 0])), (q_25, .inl (cI, 8, .inl (fun _ => 0))), (q32, .inr (1, [.ref q5, .ref q17, .int 0, .long 0, .long 0, .int 0, .long 0, .long 0])), (q51, .inr (3, [.ref q5, .ref q17, .ref q32, .ref qa_67, .ref qb_67, .ref qc_67, .ref qd_67, .ref qe_67, .int 0, .int (-1)])), (qa_67, .inl (cI, 512, .inl (fun _ => 0))), (qb_67, .inl (cI, 4097, .inl (fun _ => 0))), (qc_67, .inl (cI, 4096, .inl (fun _ => 0))), (qd_67, .inl (cI, 4096, .inl (fun _ => 0))), (qe_67, .inl (cI, 4096, .inl (fun _ => 0)))]) [0, 1, 2, 3, 4, 5, 6, 7, 8, 9, 10, 11] (by decide) rfl
  refine W.widen (k := 11) (n := 82500) (by omega) (by omega) ?_
  exact W.vret hx hb hr (fun t ht hW => ⟨⟨(fun k => ([h0, q5, q_10, q17, q_25, q32, q51, qa_67, qb_67, qc_67, qd_67, qe_67]).getD k 0), rfl, rfl, by rw [ht]; exact hP9, va_K.moved hW.alike hK, hD9⟩, hS.F ht⟩) hS.2.2 d_V_init_78

set_option maxHeartbeats 4000000 in
set_option maxRecDepth 100000 in
theorem i_M {l : Launch} {dC : Nat → ClassId} {dI : Nat → Nat → Nat} {cI cB cZ : ClassId} {a1 nb : Int32} (hnb : (if 128 ≤ a1 then (if a1 ≤ 512 then a1 else 512) else 128) = nb) {h0 hs : Nat} : Met l y_M_init ws_M_init { frames := 1, cells := 8, slots := 542200, locals := 30 } (va_Pc [.ref h0, .int a1] (fun U => U.heap.size = hs ∧ va_P (dC, dI) clAll [(h0, .inr (5, [.int 0, .int 0, .null, .int 0, .int 0, .int 0, .int 0, .int 0, .int 0, .null, .null, .null, .int 0, .null, .null, .null, .null, .int 0, .int 0]))] U.heap ∧ va_K (dC, dI) clAll [(cI, .int), (cB, .byte), (cZ, .boolean)] U ∧ va_D (fun _ => True) [(h0, .inr (5, [.int 0, .int 0, .null, .int 0, .int 0, .int 0, .int 0, .int 0, .int 0, .null, .null, .null, .int 0, .null, .null, .null, .null, .int 0, .int 0]))])) (va_Qv (fun h : Nat → Nat => h 0 = h0) (fun h t => va_P (dC, dI) clAll (wM h cI cB cZ 0 nb (fun _ => 0) 0 0 0 0 0 0 (fun _ => 0) (fun _ => 0) (fun _ => 0) 0 (fun _ => 0) (fun _ => 0) (fun _ => 0) (fun _ => 0) 2 0) t.heap ∧ va_K (dC, dI) clAll [(cI, .int), (cB, .byte), (cZ, .boolean)] t ∧ va_D (va_A [(h0, .inr (5, [.int 0, .int 0, .null, .int 0, .int 0, .int 0, .int 0, .int 0, .int 0, .null, .null, .null, .int 0, .null, .null, .null, .null, .int 0, .int 0]))] hs) (wM h cI cB cZ 0 nb (fun _ => 0) 0 0 0 0 0 0 (fun _ => 0) (fun _ => 0) (fun _ => 0) 0 (fun _ => 0) (fun _ => 0) (fun _ => 0) (fun _ => 0) 2 0)) (va_A [(h0, .inr (5, [.int 0, .int 0, .null, .int 0, .int 0, .int 0, .int 0, .int 0, .int 0, .null, .null, .null, .int 0, .null, .null, .null, .null, .int 0, .int 0]))] hs)) 8 542200 (va_A [(h0, .inr (5, [.int 0, .int 0, .null, .int 0, .int 0, .int 0, .int 0, .int 0, .int 0, .null, .null, .null, .int 0, .null, .null, .null, .null, .int 0, .int 0]))] hs) := by
  refine Met.ofW (cc := b_M_init) (maxL := 2) (ret := none) (by decide) rfl ?_
  intro p e s m args below meth c s₁ B hml hv
  obtain ⟨rfl, hsz, hP, hK, hD0⟩ := hv
  have hx := B.exec
  have hb := B.bytes
  have hr := B.returns
  have hts := atoms_spec (ws := ws_M_init) B.pre
  have htb : ∀ w ∈ TB, w.before _ s = true := fun w h => hts w (List.mem_cons_of_mem _ h)
  have hown : s.vm.findClass R_M = some m.cls := findClass_of_methodNamed B.named
  have hlocks := B.notSynchronized
  have hin : meth.name = "<init>" := (name_of_methodNamed B.named B.method).1
  subst hsz
  have hD := hD0.self (sz := s.heap.size)
  generalize hAe : va_A [(h0, .inr (5, [.int 0, .int 0, .null, .int 0, .int 0, .int 0, .int 0, .int 0, .int 0, .null, .null, .null, .int 0, .null, .null, .null, .null, .int 0, .int 0]))] s.heap.size = A at hD ⊢
  have hA : ∀ q : Nat, s.heap.size ≤ q → A q := fun q h => by rw [← hAe]; exact Or.inr h
  have hS : va_S A s.heap s.heap [] := va_S.rf
  have hl := lv_entry ([.ref h0, .int a1]) (n := 2) (Nat.le_of_ble_eq_true rfl)
  rw [lg_entry_eq]
  generalize (lg_sl ([.ref h0, .int a1]) ++ List.replicate (2 - (lg_sl ([.ref h0, .int a1])).length) Slot.unset).toArray = ls at hl ⊢
  have hl : lv_has ls 2 [(0, .ref h0), (1, .int a1)] := hl
  obtain ⟨H, eH⟩ : ∃ H, H = s.heap := ⟨_, rfl⟩
  refine lv_aload_n hx hb d_M_init_0 rfl (lv_at hl 0 rfl) ?_
  refine W.objInit hx hb hown (htb _ tw_764) (htb _ tw_88) (htb _ tw_89) rfl (by rw [hml]; exact hl.1) rfl d_M_init_1 (Nat.le_of_ble_eq_true rfl) (Nat.le_of_ble_eq_true rfl) ?_
  refine W.eq (g2 := F0 m 4 ls []) rfl ?_
  refine lv_aload_n hx hb d_M_init_4 rfl (lv_at hl 0 rfl) ?_
  refine lv_ldc (v := 524288) hx hb hown (htb _ tw_765) d_M_init_5 ?_
  refine nwa (ty := .byte) (atype := .byte) (a0 := (524288, .inl (fun _ => 0))) 1 rfl (fun _ _ h9 => h9) hx hb (htb _ tw_658) rfl hK hP hD hS hA (fun _ => rfl) (by decide) rfl (by show _ ≤ _; simp only [componentBytes]; omega) (by show _ ≤ (8 : Nat); omega) (by show _ ≤ (542200 : Nat); omega) d_M_init_7 (fun q7 H hP hD hS => ?_)
  have hP : va_P (dC, dI) clAll [(h0, .inr (5, [.int 0, .int 0, .null, .int 0, .int 0, .int 0, .int 0, .int 0, .int 0, .null, .null, .null, .int 0, .null, .null, .null, .null, .int 0, .int 0])), (q7, .inl (cB, 524288, .inl (fun _ => 0)))] H := hP
  have hD : va_D A [(h0, .inr (5, [.int 0, .int 0, .null, .int 0, .int 0, .int 0, .int 0, .int 0, .int 0, .null, .null, .null, .int 0, .null, .null, .null, .null, .int 0, .int 0])), (q7, .inl (cB, 524288, .inl (fun _ => 0)))] := hD
  refine va_putF (D := (dC, dI)) (ci := 5) (v := .ref q7) (ty := .array .byte) (C := R_M) (T := T_M) (N := 19) hx hb htb in_M ty_M tyok_M nm_M hown hK hP hD hS 0 rfl rfl 2 (by decide) (htb _ tw_768) (fun _ h9 => h9) rfl hin rfl (by decide +kernel) rfl rfl (Nat.le_of_ble_eq_true rfl) d_M_init_9 (fun H locs hP hD hS => ?_)
  have hP : va_P (dC, dI) clAll [(h0, .inr (5, [.int 0, .int 0, .ref q7, .int 0, .int 0, .int 0, .int 0, .int 0, .int 0, .null, .null, .null, .int 0, .null, .null, .null, .null, .int 0, .int 0])), (q7, .inl (cB, 524288, .inl (fun _ => 0)))] H := hP
  have hD : va_D A [(h0, .inr (5, [.int 0, .int 0, .ref q7, .int 0, .int 0, .int 0, .int 0, .int 0, .int 0, .null, .null, .null, .int 0, .null, .null, .null, .null, .int 0, .int 0])), (q7, .inl (cB, 524288, .inl (fun _ => 0)))] := hD
  refine lv_aload_n hx hb d_M_init_12 rfl (lv_at hl 0 rfl) ?_
  refine lv_bipush (v := 8) hx hb d_M_init_13 (by decide) ?_
  refine nwa (ty := .int) (atype := .int) (a0 := (8, .inl (fun _ => 0))) 0 rfl (fun _ _ h9 => h9) hx hb (htb _ tw_138) rfl hK hP hD hS hA (fun _ => rfl) (by decide) rfl (by show _ ≤ _; simp only [componentBytes]; omega) (by show _ ≤ (8 : Nat); omega) (by show _ ≤ (542200 : Nat); omega) d_M_init_15 (fun q15 H hP hD hS => ?_)
  have hP : va_P (dC, dI) clAll [(h0, .inr (5, [.int 0, .int 0, .ref q7, .int 0, .int 0, .int 0, .int 0, .int 0, .int 0, .null, .null, .null, .int 0, .null, .null, .null, .null, .int 0, .int 0])), (q7, .inl (cB, 524288, .inl (fun _ => 0))), (q15, .inl (cI, 8, .inl (fun _ => 0)))] H := hP
  have hD : va_D A [(h0, .inr (5, [.int 0, .int 0, .ref q7, .int 0, .int 0, .int 0, .int 0, .int 0, .int 0, .null, .null, .null, .int 0, .null, .null, .null, .null, .int 0, .int 0])), (q7, .inl (cB, 524288, .inl (fun _ => 0))), (q15, .inl (cI, 8, .inl (fun _ => 0)))] := hD
  refine va_putF (D := (dC, dI)) (ci := 5) (v := .ref q15) (ty := .array .int) (C := R_M) (T := T_M) (N := 19) hx hb htb in_M ty_M tyok_M nm_M hown hK hP hD hS 0 rfl rfl 9 (by decide) (htb _ tw_775) (fun _ h9 => h9) rfl hin rfl (by decide +kernel) rfl rfl (Nat.le_of_ble_eq_true rfl) d_M_init_17 (fun H locs hP hD hS => ?_)
  have hP : va_P (dC, dI) clAll [(h0, .inr (5, [.int 0, .int 0, .ref q7, .int 0, .int 0, .int 0, .int 0, .int 0, .int 0, .ref q15, .null, .null, .int 0, .null, .null, .null, .null, .int 0, .int 0])), (q7, .inl (cB, 524288, .inl (fun _ => 0))), (q15, .inl (cI, 8, .inl (fun _ => 0)))] H := hP
  have hD : va_D A [(h0, .inr (5, [.int 0, .int 0, .ref q7, .int 0, .int 0, .int 0, .int 0, .int 0, .int 0, .ref q15, .null, .null, .int 0, .null, .null, .null, .null, .int 0, .int 0])), (q7, .inl (cB, 524288, .inl (fun _ => 0))), (q15, .inl (cI, 8, .inl (fun _ => 0)))] := hD
  refine lv_aload_n hx hb d_M_init_20 rfl (lv_at hl 0 rfl) ?_
  refine lv_sipush (v := 512) hx hb d_M_init_21 (by decide) ?_
  refine nwa (ty := .boolean) (atype := .boolean) (a0 := (512, .inl (fun _ => 0))) 2 rfl (fun _ _ h9 => h9) hx hb (htb _ tw_824) rfl hK hP hD hS hA (fun _ => rfl) (by decide) rfl (by show _ ≤ _; simp only [componentBytes]; omega) (by show _ ≤ (8 : Nat); omega) (by show _ ≤ (542200 : Nat); omega) d_M_init_24 (fun q24 H hP hD hS => ?_)
  have hP : va_P (dC, dI) clAll [(h0, .inr (5, [.int 0, .int 0, .ref q7, .int 0, .int 0, .int 0, .int 0, .int 0, .int 0, .ref q15, .null, .null, .int 0, .null, .null, .null, .null, .int 0, .int 0])), (q7, .inl (cB, 524288, .inl (fun _ => 0))), (q15, .inl (cI, 8, .inl (fun _ => 0))), (q24, .inl (cZ, 512, .inl (fun _ => 0)))] H := hP
  have hD : va_D A [(h0, .inr (5, [.int 0, .int 0, .ref q7, .int 0, .int 0, .int 0, .int 0, .int 0, .int 0, .ref q15, .null, .null, .int 0, .null, .null, .null, .null, .int 0, .int 0])), (q7, .inl (cB, 524288, .inl (fun _ => 0))), (q15, .inl (cI, 8, .inl (fun _ => 0))), (q24, .inl (cZ, 512, .inl (fun _ => 0)))] := hD
  refine va_putF (D := (dC, dI)) (ci := 5) (v := .ref q24) (ty := .array .boolean) (C := R_M) (T := T_M) (N := 19) hx hb htb in_M ty_M tyok_M nm_M hown hK hP hD hS 0 rfl rfl 10 (by decide) (htb _ tw_776) (fun _ h9 => h9) rfl hin rfl (by decide +kernel) rfl rfl (Nat.le_of_ble_eq_true rfl) d_M_init_26 (fun H locs hP hD hS => ?_)
  have hP : va_P (dC, dI) clAll [(h0, .inr (5, [.int 0, .int 0, .ref q7, .int 0, .int 0, .int 0, .int 0, .int 0, .int 0, .ref q15, .ref q24, .null, .int 0, .null, .null, .null, .null, .int 0, .int 0])), (q7, .inl (cB, 524288, .inl (fun _ => 0))), (q15, .inl (cI, 8, .inl (fun _ => 0))), (q24, .inl (cZ, 512, .inl (fun _ => 0)))] H := hP
  have hD : va_D A [(h0, .inr (5, [.int 0, .int 0, .ref q7, .int 0, .int 0, .int 0, .int 0, .int 0, .int 0, .ref q15, .ref q24, .null, .int 0, .null, .null, .null, .null, .int 0, .int 0])), (q7, .inl (cB, 524288, .inl (fun _ => 0))), (q15, .inl (cI, 8, .inl (fun _ => 0))), (q24, .inl (cZ, 512, .inl (fun _ => 0)))] := hD
  refine lv_aload_n hx hb d_M_init_29 rfl (lv_at hl 0 rfl) ?_
  refine lv_sipush (v := 512) hx hb d_M_init_30 (by decide) ?_
  refine nwa (ty := .boolean) (atype := .boolean) (a0 := (512, .inl (fun _ => 0))) 2 rfl (fun _ _ h9 => h9) hx hb (htb _ tw_824) rfl hK hP hD hS hA (fun _ => rfl) (by decide) rfl (by show _ ≤ _; simp only [componentBytes]; omega) (by show _ ≤ (8 : Nat); omega) (by show _ ≤ (542200 : Nat); omega) d_M_init_33 (fun q33 H hP hD hS => ?_)
  have hP : va_P (dC, dI) clAll [(h0, .inr (5, [.int 0, .int 0, .ref q7, .int 0, .int 0, .int 0, .int 0, .int 0, .int 0, .ref q15, .ref q24, .null, .int 0, .null, .null, .null, .null, .int 0, .int 0])), (q7, .inl (cB, 524288, .inl (fun _ => 0))), (q15, .inl (cI, 8, .inl (fun _ => 0))), (q24, .inl (cZ, 512, .inl (fun _ => 0))), (q33, .inl (cZ, 512, .inl (fun _ => 0)))] H := hP
  have hD : va_D A [(h0, .inr (5, [.int 0, .int 0, .ref q7, .int 0, .int 0, .int 0, .int 0, .int 0, .int 0, .ref q15, .ref q24, .null, .int 0, .null, .null, .null, .null, .int 0, .int 0])), (q7, .inl (cB, 524288, .inl (fun _ => 0))), (q15, .inl (cI, 8, .inl (fun _ => 0))), (q24, .inl (cZ, 512, .inl (fun _ => 0))), (q33, .inl (cZ, 512, .inl (fun _ => 0)))] := hD
  refine va_putF (D := (dC, dI)) (ci := 5) (v := .ref q33) (ty := .array .boolean) (C := R_M) (T := T_M) (N := 19) hx hb htb in_M ty_M tyok_M nm_M hown hK hP hD hS 0 rfl rfl 11 (by decide) (htb _ tw_777) (fun _ h9 => h9) rfl hin rfl (by decide +kernel) rfl rfl (Nat.le_of_ble_eq_true rfl) d_M_init_35 (fun H locs hP hD hS => ?_)
  have hP : va_P (dC, dI) clAll [(h0, .inr (5, [.int 0, .int 0, .ref q7, .int 0, .int 0, .int 0, .int 0, .int 0, .int 0, .ref q15, .ref q24, .ref q33, .int 0, .null, .null, .null, .null, .int 0, .int 0])), (q7, .inl (cB, 524288, .inl (fun _ => 0))), (q15, .inl (cI, 8, .inl (fun _ => 0))), (q24, .inl (cZ, 512, .inl (fun _ => 0))), (q33, .inl (cZ, 512, .inl (fun _ => 0)))] H := hP
  have hD : va_D A [(h0, .inr (5, [.int 0, .int 0, .ref q7, .int 0, .int 0, .int 0, .int 0, .int 0, .int 0, .ref q15, .ref q24, .ref q33, .int 0, .null, .null, .null, .null, .int 0, .int 0])), (q7, .inl (cB, 524288, .inl (fun _ => 0))), (q15, .inl (cI, 8, .inl (fun _ => 0))), (q24, .inl (cZ, 512, .inl (fun _ => 0))), (q33, .inl (cZ, 512, .inl (fun _ => 0)))] := hD
  refine lv_aload_n hx hb d_M_init_38 rfl (lv_at hl 0 rfl) ?_
  refine lv_sipush (v := 4200) hx hb d_M_init_39 (by decide) ?_
  refine nwa (ty := .int) (atype := .int) (a0 := (4200, .inl (fun _ => 0))) 0 rfl (fun _ _ h9 => h9) hx hb (htb _ tw_138) rfl hK hP hD hS hA (fun _ => rfl) (by decide) rfl (by show _ ≤ _; simp only [componentBytes]; omega) (by show _ ≤ (8 : Nat); omega) (by show _ ≤ (542200 : Nat); omega) d_M_init_42 (fun q42 H hP hD hS => ?_)
  have hP : va_P (dC, dI) clAll [(h0, .inr (5, [.int 0, .int 0, .ref q7, .int 0, .int 0, .int 0, .int 0, .int 0, .int 0, .ref q15, .ref q24, .ref q33, .int 0, .null, .null, .null, .null, .int 0, .int 0])), (q7, .inl (cB, 524288, .inl (fun _ => 0))), (q15, .inl (cI, 8, .inl (fun _ => 0))), (q24, .inl (cZ, 512, .inl (fun _ => 0))), (q33, .inl (cZ, 512, .inl (fun _ => 0))), (q42, .inl (cI, 4200, .inl (fun _ => 0)))] H := hP
  have hD : va_D A [(h0, .inr (5, [.int 0, .int 0, .ref q7, .int 0, .int 0, .int 0, .int 0, .int 0, .int 0, .ref q15, .ref q24, .ref q33, .int 0, .null, .null, .null, .null, .int 0, .int 0])), (q7, .inl (cB, 524288, .inl (fun _ => 0))), (q15, .inl (cI, 8, .inl (fun _ => 0))), (q24, .inl (cZ, 512, .inl (fun _ => 0))), (q33, .inl (cZ, 512, .inl (fun _ => 0))), (q42, .inl (cI, 4200, .inl (fun _ => 0)))] := hD
  refine va_putF (D := (dC, dI)) (ci := 5) (v := .ref q42) (ty := .array .int) (C := R_M) (T := T_M) (N := 19) hx hb htb in_M ty_M tyok_M nm_M hown hK hP hD hS 0 rfl rfl 13 (by decide) (htb _ tw_779) (fun _ h9 => h9) rfl hin rfl (by decide +kernel) rfl rfl (Nat.le_of_ble_eq_true rfl) d_M_init_44 (fun H locs hP hD hS => ?_)
  have hP : va_P (dC, dI) clAll [(h0, .inr (5, [.int 0, .int 0, .ref q7, .int 0, .int 0, .int 0, .int 0, .int 0, .int 0, .ref q15, .ref q24, .ref q33, .int 0, .ref q42, .null, .null, .null, .int 0, .int 0])), (q7, .inl (cB, 524288, .inl (fun _ => 0))), (q15, .inl (cI, 8, .inl (fun _ => 0))), (q24, .inl (cZ, 512, .inl (fun _ => 0))), (q33, .inl (cZ, 512, .inl (fun _ => 0))), (q42, .inl (cI, 4200, .inl (fun _ => 0)))] H := hP
  have hD : va_D A [(h0, .inr (5, [.int 0, .int 0, .ref q7, .int 0, .int 0, .int 0, .int 0, .int 0, .int 0, .ref q15, .ref q24, .ref q33, .int 0, .ref q42, .null, .null, .null, .int 0, .int 0])), (q7, .inl (cB, 524288, .inl (fun _ => 0))), (q15, .inl (cI, 8, .inl (fun _ => 0))), (q24, .inl (cZ, 512, .inl (fun _ => 0))), (q33, .inl (cZ, 512, .inl (fun _ => 0))), (q42, .inl (cI, 4200, .inl (fun _ => 0)))] := hD
  refine lv_aload_n hx hb d_M_init_47 rfl (lv_at hl 0 rfl) ?_
  refine lv_sipush (v := 4200) hx hb d_M_init_48 (by decide) ?_
  refine nwa (ty := .int) (atype := .int) (a0 := (4200, .inl (fun _ => 0))) 0 rfl (fun _ _ h9 => h9) hx hb (htb _ tw_138) rfl hK hP hD hS hA (fun _ => rfl) (by decide) rfl (by show _ ≤ _; simp only [componentBytes]; omega) (by show _ ≤ (8 : Nat); omega) (by show _ ≤ (542200 : Nat); omega) d_M_init_51 (fun q51 H hP hD hS => ?_)
  have hP : va_P (dC, dI) clAll [(h0, .inr (5, [.int 0, .int 0, .ref q7, .int 0, .int 0, .int 0, .int 0, .int 0, .int 0, .ref q15, .ref q24, .ref q33, .int 0, .ref q42, .null, .null, .null, .int 0, .int 0])), (q7, .inl (cB, 524288, .inl (fun _ => 0))), (q15, .inl (cI, 8, .inl (fun _ => 0))), (q24, .inl (cZ, 512, .inl (fun _ => 0))), (q33, .inl (cZ, 512, .inl (fun _ => 0))), (q42, .inl (cI, 4200, .inl (fun _ => 0))), (q51, .inl (cI, 4200, .inl (fun _ => 0)))] H := hP
  have hD : va_D A [(h0, .inr (5, [.int 0, .int 0, .ref q7, .int 0, .int 0, .int 0, .int 0, .int 0, .int 0, .ref q15, .ref q24, .ref q33, .int 0, .ref q42, .null, .null, .null, .int 0, .int 0])), (q7, .inl (cB, 524288, .inl (fun _ => 0))), (q15, .inl (cI, 8, .inl (fun _ => 0))), (q24, .inl (cZ, 512, .inl (fun _ => 0))), (q33, .inl (cZ, 512, .inl (fun _ => 0))), (q42, .inl (cI, 4200, .inl (fun _ => 0))), (q51, .inl (cI, 4200, .inl (fun _ => 0)))] := hD
  refine va_putF (D := (dC, dI)) (ci := 5) (v := .ref q51) (ty := .array .int) (C := R_M) (T := T_M) (N := 19) hx hb htb in_M ty_M tyok_M nm_M hown hK hP hD hS 0 rfl rfl 14 (by decide) (htb _ tw_780) (fun _ h9 => h9) rfl hin rfl (by decide +kernel) rfl rfl (Nat.le_of_ble_eq_true rfl) d_M_init_53 (fun H locs hP hD hS => ?_)
  have hP : va_P (dC, dI) clAll [(h0, .inr (5, [.int 0, .int 0, .ref q7, .int 0, .int 0, .int 0, .int 0, .int 0, .int 0, .ref q15, .ref q24, .ref q33, .int 0, .ref q42, .ref q51, .null, .null, .int 0, .int 0])), (q7, .inl (cB, 524288, .inl (fun _ => 0))), (q15, .inl (cI, 8, .inl (fun _ => 0))), (q24, .inl (cZ, 512, .inl (fun _ => 0))), (q33, .inl (cZ, 512, .inl (fun _ => 0))), (q42, .inl (cI, 4200, .inl (fun _ => 0))), (q51, .inl (cI, 4200, .inl (fun _ => 0)))] H := hP
  have hD : va_D A [(h0, .inr (5, [.int 0, .int 0, .ref q7, .int 0, .int 0, .int 0, .int 0, .int 0, .int 0, .ref q15, .ref q24, .ref q33, .int 0, .ref q42, .ref q51, .null, .null, .int 0, .int 0])), (q7, .inl (cB, 524288, .inl (fun _ => 0))), (q15, .inl (cI, 8, .inl (fun _ => 0))), (q24, .inl (cZ, 512, .inl (fun _ => 0))), (q33, .inl (cZ, 512, .inl (fun _ => 0))), (q42, .inl (cI, 4200, .inl (fun _ => 0))), (q51, .inl (cI, 4200, .inl (fun _ => 0)))] := hD
  refine lv_aload_n hx hb d_M_init_56 rfl (lv_at hl 0 rfl) ?_
  refine lv_sipush (v := 4200) hx hb d_M_init_57 (by decide) ?_
  refine nwa (ty := .int) (atype := .int) (a0 := (4200, .inl (fun _ => 0))) 0 rfl (fun _ _ h9 => h9) hx hb (htb _ tw_138) rfl hK hP hD hS hA (fun _ => rfl) (by decide) rfl (by show _ ≤ _; simp only [componentBytes]; omega) (by show _ ≤ (8 : Nat); omega) (by show _ ≤ (542200 : Nat); omega) d_M_init_60 (fun q60 H hP hD hS => ?_)
  have hP : va_P (dC, dI) clAll [(h0, .inr (5, [.int 0, .int 0, .ref q7, .int 0, .int 0, .int 0, .int 0, .int 0, .int 0, .ref q15, .ref q24, .ref q33, .int 0, .ref q42, .ref q51, .null, .null, .int 0, .int 0])), (q7, .inl (cB, 524288, .inl (fun _ => 0))), (q15, .inl (cI, 8, .inl (fun _ => 0))), (q24, .inl (cZ, 512, .inl (fun _ => 0))), (q33, .inl (cZ, 512, .inl (fun _ => 0))), (q42, .inl (cI, 4200, .inl (fun _ => 0))), (q51, .inl (cI, 4200, .inl (fun _ => 0))), (q60, .inl (cI, 4200, .inl (fun _ => 0)))] H := hP
  have hD : va_D A [(h0, .inr (5, [.int 0, .int 0, .ref q7, .int 0, .int 0, .int 0, .int 0, .int 0, .int 0, .ref q15, .ref q24, .ref q33, .int 0, .ref q42, .ref q51, .null, .null, .int 0, .int 0])), (q7, .inl (cB, 524288, .inl (fun _ => 0))), (q15, .inl (cI, 8, .inl (fun _ => 0))), (q24, .inl (cZ, 512, .inl (fun _ => 0))), (q33, .inl (cZ, 512, .inl (fun _ => 0))), (q42, .inl (cI, 4200, .inl (fun _ => 0))), (q51, .inl (cI, 4200, .inl (fun _ => 0))), (q60, .inl (cI, 4200, .inl (fun _ => 0)))] := hD
  refine va_putF (D := (dC, dI)) (ci := 5) (v := .ref q60) (ty := .array .int) (C := R_M) (T := T_M) (N := 19) hx hb htb in_M ty_M tyok_M nm_M hown hK hP hD hS 0 rfl rfl 15 (by decide) (htb _ tw_781) (fun _ h9 => h9) rfl hin rfl (by decide +kernel) rfl rfl (Nat.le_of_ble_eq_true rfl) d_M_init_62 (fun H locs hP hD hS => ?_)
  have hP : va_P (dC, dI) clAll [(h0, .inr (5, [.int 0, .int 0, .ref q7, .int 0, .int 0, .int 0, .int 0, .int 0, .int 0, .ref q15, .ref q24, .ref q33, .int 0, .ref q42, .ref q51, .ref q60, .null, .int 0, .int 0])), (q7, .inl (cB, 524288, .inl (fun _ => 0))), (q15, .inl (cI, 8, .inl (fun _ => 0))), (q24, .inl (cZ, 512, .inl (fun _ => 0))), (q33, .inl (cZ, 512, .inl (fun _ => 0))), (q42, .inl (cI, 4200, .inl (fun _ => 0))), (q51, .inl (cI, 4200, .inl (fun _ => 0))), (q60, .inl (cI, 4200, .inl (fun _ => 0)))] H := hP
  have hD : va_D A [(h0, .inr (5, [.int 0, .int 0, .ref q7, .int 0, .int 0, .int 0, .int 0, .int 0, .int 0, .ref q15, .ref q24, .ref q33, .int 0, .ref q42, .ref q51, .ref q60, .null, .int 0, .int 0])), (q7, .inl (cB, 524288, .inl (fun _ => 0))), (q15, .inl (cI, 8, .inl (fun _ => 0))), (q24, .inl (cZ, 512, .inl (fun _ => 0))), (q33, .inl (cZ, 512, .inl (fun _ => 0))), (q42, .inl (cI, 4200, .inl (fun _ => 0))), (q51, .inl (cI, 4200, .inl (fun _ => 0))), (q60, .inl (cI, 4200, .inl (fun _ => 0)))] := hD
  refine lv_aload_n hx hb d_M_init_65 rfl (lv_at hl 0 rfl) ?_
  refine lv_sipush (v := 4200) hx hb d_M_init_66 (by decide) ?_
  refine nwa (ty := .boolean) (atype := .boolean) (a0 := (4200, .inl (fun _ => 0))) 2 rfl (fun _ _ h9 => h9) hx hb (htb _ tw_824) rfl hK hP hD hS hA (fun _ => rfl) (by decide) rfl (by show _ ≤ _; simp only [componentBytes]; omega) (by show _ ≤ (8 : Nat); omega) (by show _ ≤ (542200 : Nat); omega) d_M_init_69 (fun q69 H hP hD hS => ?_)
  have hP : va_P (dC, dI) clAll [(h0, .inr (5, [.int 0, .int 0, .ref q7, .int 0, .int 0, .int 0, .int 0, .int 0, .int 0, .ref q15, .ref q24, .ref q33, .int 0, .ref q42, .ref q51, .ref q60, .null, .int 0, .int 0])), (q7, .inl (cB, 524288, .inl (fun _ => 0))), (q15, .inl (cI, 8, .inl (fun _ => 0))), (q24, .inl (cZ, 512, .inl (fun _ => 0))), (q33, .inl (cZ, 512, .inl (fun _ => 0))), (q42, .inl (cI, 4200, .inl (fun _ => 0))), (q51, .inl (cI, 4200, .inl (fun _ => 0))), (q60, .inl (cI, 4200, .inl (fun _ => 0))), (q69, .inl (cZ, 4200, .inl (fun _ => 0)))] H := hP
  have hD : va_D A [(h0, .inr (5, [.int 0, .int 0, .ref q7, .int 0, .int 0, .int 0, .int 0, .int 0, .int 0, .ref q15, .ref q24, .ref q33, .int 0, .ref q42, .ref q51, .ref q60, .null, .int 0, .int 0])), (q7, .inl (cB, 524288, .inl (fun _ => 0))), (q15, .inl (cI, 8, .inl (fun _ => 0))), (q24, .inl (cZ, 512, .inl (fun _ => 0))), (q33, .inl (cZ, 512, .inl (fun _ => 0))), (q42, .inl (cI, 4200, .inl (fun _ => 0))), (q51, .inl (cI, 4200, .inl (fun _ => 0))), (q60, .inl (cI, 4200, .inl (fun _ => 0))), (q69, .inl (cZ, 4200, .inl (fun _ => 0)))] := hD
  refine va_putF (D := (dC, dI)) (ci := 5) (v := .ref q69) (ty := .array .boolean) (C := R_M) (T := T_M) (N := 19) hx hb htb in_M ty_M tyok_M nm_M hown hK hP hD hS 0 rfl rfl 16 (by decide) (htb _ tw_782) (fun _ h9 => h9) rfl hin rfl (by decide +kernel) rfl rfl (Nat.le_of_ble_eq_true rfl) d_M_init_71 (fun H locs hP hD hS => ?_)
  have hP : va_P (dC, dI) clAll [(h0, .inr (5, [.int 0, .int 0, .ref q7, .int 0, .int 0, .int 0, .int 0, .int 0, .int 0, .ref q15, .ref q24, .ref q33, .int 0, .ref q42, .ref q51, .ref q60, .ref q69, .int 0, .int 0])), (q7, .inl (cB, 524288, .inl (fun _ => 0))), (q15, .inl (cI, 8, .inl (fun _ => 0))), (q24, .inl (cZ, 512, .inl (fun _ => 0))), (q33, .inl (cZ, 512, .inl (fun _ => 0))), (q42, .inl (cI, 4200, .inl (fun _ => 0))), (q51, .inl (cI, 4200, .inl (fun _ => 0))), (q60, .inl (cI, 4200, .inl (fun _ => 0))), (q69, .inl (cZ, 4200, .inl (fun _ => 0)))] H := hP
  have hD : va_D A [(h0, .inr (5, [.int 0, .int 0, .ref q7, .int 0, .int 0, .int 0, .int 0, .int 0, .int 0, .ref q15, .ref q24, .ref q33, .int 0, .ref q42, .ref q51, .ref q60, .ref q69, .int 0, .int 0])), (q7, .inl (cB, 524288, .inl (fun _ => 0))), (q15, .inl (cI, 8, .inl (fun _ => 0))), (q24, .inl (cZ, 512, .inl (fun _ => 0))), (q33, .inl (cZ, 512, .inl (fun _ => 0))), (q42, .inl (cI, 4200, .inl (fun _ => 0))), (q51, .inl (cI, 4200, .inl (fun _ => 0))), (q60, .inl (cI, 4200, .inl (fun _ => 0))), (q69, .inl (cZ, 4200, .inl (fun _ => 0)))] := hD
  refine lv_aload_n hx hb d_M_init_74 rfl (lv_at hl 0 rfl) ?_
  refine lv_iconst (v := 2) hx hb d_M_init_75 (by decide) ?_
  refine va_put (D := (dC, dI)) (ci := 5) (v := .int 2) (ty := .int) (C := R_M) (T := T_M) (N := 19) hx hb htb in_M ty_M tyok_M nm_M hown hK hP hD hS 0 rfl rfl 17 (by decide) (htb _ tw_783) (fun _ h9 => h9) rfl (by decide +kernel) rfl rfl (Nat.le_of_ble_eq_true rfl) d_M_init_76 (fun H locs hP hD hS => ?_)
  have hP : va_P (dC, dI) clAll [(h0, .inr (5, [.int 0, .int 0, .ref q7, .int 0, .int 0, .int 0, .int 0, .int 0, .int 0, .ref q15, .ref q24, .ref q33, .int 0, .ref q42, .ref q51, .ref q60, .ref q69, .int 2, .int 0])), (q7, .inl (cB, 524288, .inl (fun _ => 0))), (q15, .inl (cI, 8, .inl (fun _ => 0))), (q24, .inl (cZ, 512, .inl (fun _ => 0))), (q33, .inl (cZ, 512, .inl (fun _ => 0))), (q42, .inl (cI, 4200, .inl (fun _ => 0))), (q51, .inl (cI, 4200, .inl (fun _ => 0))), (q60, .inl (cI, 4200, .inl (fun _ => 0))), (q69, .inl (cZ, 4200, .inl (fun _ => 0)))] H := hP
  have hD : va_D A [(h0, .inr (5, [.int 0, .int 0, .ref q7, .int 0, .int 0, .int 0, .int 0, .int 0, .int 0, .ref q15, .ref q24, .ref q33, .int 0, .ref q42, .ref q51, .ref q60, .ref q69, .int 2, .int 0])), (q7, .inl (cB, 524288, .inl (fun _ => 0))), (q15, .inl (cI, 8, .inl (fun _ => 0))), (q24, .inl (cZ, 512, .inl (fun _ => 0))), (q33, .inl (cZ, 512, .inl (fun _ => 0))), (q42, .inl (cI, 4200, .inl (fun _ => 0))), (q51, .inl (cI, 4200, .inl (fun _ => 0))), (q60, .inl (cI, 4200, .inl (fun _ => 0))), (q69, .inl (cZ, 4200, .inl (fun _ => 0)))] := hD
  refine lv_aload_n hx hb d_M_init_79 rfl (lv_at hl 0 rfl) ?_
  refine lv_iload_n hx hb d_M_init_80 rfl (lv_at hl 1 rfl) ?_
  refine lv_sipush (v := 128) hx hb d_M_init_81 (by decide) ?_
  refine m_choice hx hb hl hnb ?_
  refine va_putF (D := (dC, dI)) (ci := 5) (v := .int nb) (ty := .int) (C := R_M) (T := T_M) (N := 19) hx hb htb in_M ty_M tyok_M nm_M hown hK hP hD hS 0 rfl rfl 1 (by decide) (htb _ tw_767) (fun _ h9 => h9) rfl hin rfl (by decide +kernel) rfl rfl (Nat.le_of_ble_eq_true rfl) d_M_init_107 (fun H locs hP hD hS => ?_)
  have hP : va_P (dC, dI) clAll [(h0, .inr (5, [.int 0, .int nb, .ref q7, .int 0, .int 0, .int 0, .int 0, .int 0, .int 0, .ref q15, .ref q24, .ref q33, .int 0, .ref q42, .ref q51, .ref q60, .ref q69, .int 2, .int 0])), (q7, .inl (cB, 524288, .inl (fun _ => 0))), (q15, .inl (cI, 8, .inl (fun _ => 0))), (q24, .inl (cZ, 512, .inl (fun _ => 0))), (q33, .inl (cZ, 512, .inl (fun _ => 0))), (q42, .inl (cI, 4200, .inl (fun _ => 0))), (q51, .inl (cI, 4200, .inl (fun _ => 0))), (q60, .inl (cI, 4200, .inl (fun _ => 0))), (q69, .inl (cZ, 4200, .inl (fun _ => 0)))] H := hP
  have hD : va_D A [(h0, .inr (5, [.int 0, .int nb, .ref q7, .int 0, .int 0, .int 0, .int 0, .int 0, .int 0, .ref q15, .ref q24, .ref q33, .int 0, .ref q42, .ref q51, .ref q60, .ref q69, .int 2, .int 0])), (q7, .inl (cB, 524288, .inl (fun _ => 0))), (q15, .inl (cI, 8, .inl (fun _ => 0))), (q24, .inl (cZ, 512, .inl (fun _ => 0))), (q33, .inl (cZ, 512, .inl (fun _ => 0))), (q42, .inl (cI, 4200, .inl (fun _ => 0))), (q51, .inl (cI, 4200, .inl (fun _ => 0))), (q60, .inl (cI, 4200, .inl (fun _ => 0))), (q69, .inl (cZ, 4200, .inl (fun _ => 0)))] := hD
  have hP9 := hP.sub (ws' := [(h0, .inr (5, [.int 0, .int nb, .ref q7, .int 0, .int 0, .int 0, .int 0, .int 0, .int 0, .ref q15, .ref q24, .ref q33, .int 0, .ref q42, .ref q51, .ref q60, .ref q69, .int 2, .int 0])), (q7, .inl (cB, 524288, .inl (fun _ => 0))), (q15, .inl (cI, 8, .inl (fun _ => 0))), (q24, .inl (cZ, 512, .inl (fun _ => 0))), (q33, .inl (cZ, 512, .inl (fun _ => 0))), (q42, .inl (cI, 4200, .inl (fun _ => 0))), (q51, .inl (cI, 4200, .inl (fun _ => 0))), (q60, .inl (cI, 4200, .inl (fun _ => 0))), (q69, .inl (cZ, 4200, .inl (fun _ => 0)))]) [0, 1, 2, 3, 4, 5, 6, 7, 8] rfl
  have hD9 := hD.sub (ws' := [(h0, .inr (5, [.int 0, .int nb, .ref q7, .int 0, .int 0, .int 0, .int 0, .int 0, .int 0, .ref q15, .ref q24, .ref q33, .int 0, .ref q42, .ref q51, .ref q60, .ref q69, .int 2, .int 0])), (q7, .inl (cB, 524288, .inl (fun _ => 0))), (q15, .inl (cI, 8, .inl (fun _ => 0))), (q24, .inl (cZ, 512, .inl (fun _ => 0))), (q33, .inl (cZ, 512, .inl (fun _ => 0))), (q42, .inl (cI, 4200, .inl (fun _ => 0))), (q51, .inl (cI, 4200, .inl (fun _ => 0))), (q60, .inl (cI, 4200, .inl (fun _ => 0))), (q69, .inl (cZ, 4200, .inl (fun _ => 0)))]) [0, 1, 2, 3, 4, 5, 6, 7, 8] (by decide) rfl
  refine W.widen (k := 8) (n := 542200) (by omega) (by omega) ?_
  exact W.vret hx hb hr (fun t ht hW => ⟨⟨(fun k => ([h0, q7, q15, q24, q33, q42, q51, q60, q69]).getD k 0), rfl, rfl, by rw [ht]; exact hP9, va_K.moved hW.alike hK, hD9⟩, hS.F ht⟩) hS.2.2 d_M_init_110
