theorem tw_catch {p : Program} {l : Launch} {e : Env} {R : Room} {s : State} {m : MethodId} {args : Array Value} {below : List Frame} {meth : Method} {c : Code} {H : Heap} {locs : List Loc} {cells slots : Nat} {Q : State → Prop} {pc : Nat} {ls : Array Slot} {rest : List Value} {own name E : String} {ce : Cell} {q : Addr} (hown : s.vm.findClass own = some m.cls) (pre : List ExceptionTableEntry) (x : ExceptionTableEntry) (suf : List ExceptionTableEntry) (hsplit : c.exceptionTable.toList = pre ++ x :: suf)
    (hpass : ∀ z ∈ pre, z.catchType ≠ 0 ∧ ∃ nm : String, (Cond.classLink own z.catchType nm).before args s = true ∧ va_Nc E nm s) (hcov : covers x pc = true) (h0 : x.catchType ≠ 0) (hlink : (Cond.classLink own x.catchType name).before args s = true) (hcast : va_Nw (.castable E name) s) (hce : H[q]? = some ce) (hv : ce.vm = .none) (hcl : s.vm.findClass E = some ce.cls)
    (kk : W p l e R s m args below meth c H locs cells slots Q (F0 m x.handlerPc ls [.ref q])) : TW p l e R s m args below meth c H locs cells slots Q (F0 m pc ls rest) q := by
  intro T hT X
  have hpl : e.platform.magicAccessors = ({} : Platform).magicAccessors := by rw [X.admits.platform]
  obtain ⟨c3, c4, hc3, hc4, hasg⟩ := Cond.castable_spec (va_Nw.use (A := args) rfl hcast)
  cases Option.some.inj (hc3.symm.trans hcl)
  obtain ⟨c5, hc5, hcl5⟩ := Cond.classLink_spec hown hlink e.platform hpl
  cases Option.some.inj (hc4.symm.trans hc5)
  obtain ⟨k9, hk9, -⟩ := Vm.findClass_spec hcl
  have hpre : ∀ z ∈ pre, RowPassed e.platform s m.cls pc ce.cls z := fun z hz => by
    obtain ⟨z0, nm, hl1, a8, b8, h1, h2, h3⟩ := hpass z hz
    obtain ⟨c6, hc6, hcl6⟩ := Cond.classLink_spec hown hl1 e.platform hpl
    cases Option.some.inj (h1.symm.trans hcl)
    cases Option.some.inj (h2.symm.trans hc6)
    exact Or.inr ⟨z0, _, hcl6, h3⟩
  obtain ⟨vm1, X1, st⟩ := X.thenCaughtThrough q (g := F0 m pc ls rest) rfl (Steps.refl _) (cell := ce) (by rw [hT]; exact hce) (by rw [hv]; rfl) ⟨k9, hk9⟩ pre x suf hsplit hpre hcov (Or.inr ⟨h0, c4, hcl5, hasg⟩)
  obtain ⟨t, a1, b1⟩ := kk (T.setVm vm1) hT X1
  exact ⟨t, st.trans a1, b1⟩
/-- exceptions that are not each other -/
def NcU (U : State) : Prop := va_Nc (exn 2) (exn 1) U ∧ va_Nc (exn 3) (exn 1) U ∧ va_Nc (exn 3) (exn 2) U
abbrev PcE (D : va_G) (cl : List vw_C) (tys : List (ClassId × FieldType)) (w : va_W) (hs : Nat) (Ex : State → Prop) (av : List Value) : Array Value → State → Prop := va_Pc av (fun U => U.heap.size = hs ∧ va_P D cl w U.heap ∧ va_K D cl tys U ∧ va_D (fun _ => True) w ∧ Ex U)
section MH
variable {l : Launch} {y : MethodName} {ws ws' : List Cond} {rm : Room} {D : va_G} {cl : List vw_C} {tys : List (ClassId × FieldType)} {w w' : va_W} {av : List Value} {cc : ByteArray} {maxL : Nat} {hs : Nat} {own : String} {hh : List (Nat × Nat × Nat × Nat)} {mc ms : Nat} {r : Int32} {Ex : State → Prop}
theorem mH (hy : plainName y.cls = true) (hw : ws = Cond.codeWith y cc maxL (some .int) hh :: ws') (hav : (lg_sl av).length ≤ maxL) (hyo : y.cls = own)
    (body : ∀ (p : Program) (e : Env) (s : State) (m : MethodId) (args : Array Value) (below : List Frame) (meth : Method) (c : Code) (Q : State → Prop), p.tables.exec = Jvm.exec → c.code = cc → c.maxLocals = maxL → (∀ q ∈ ws, q.before args s = true) → s.vm.findClass own = some m.cls → c.exceptionTable.toList = tableOf hh → s.heap.size = hs →
      ∀ (A : Nat → Prop), A = va_A w hs → (∀ q, s.heap.size ≤ q → A q) → va_K D cl tys s → va_P D cl w s.heap → va_D A w → va_S A s.heap s.heap [] → Ex s →
      (∀ (H : Heap) (locs : List Loc) (pc : Nat) (ls : Array Slot), va_P D cl w' H → va_D A w' → va_S A s.heap H locs → decode cc pc = .ok (.ireturn, 1) → W p l e (headSpec ws rm).room s m args below meth c H locs mc ms Q (F0 m pc ls [.int r])) →
      ∀ ls : Array Slot, lv_has ls maxL (lv_args 0 av) → W p l e (headSpec ws rm).room s m args below meth c s.heap [] 0 0 Q (F0 m 0 ls [])) :
    Met l y ws rm (PcE D cl tys w hs Ex av) (QUi D cl tys w w' hs r) mc ms (va_A w hs) := by
  refine va_MetW (cc := cc) (maxL := maxL) (ret := some .int) (hh := hh) hy hw ?_
  intro p e s m args below meth c s₁ Bd hml hv
  obtain ⟨rfl, hsz, hP, hK, hD0, hEx⟩ := hv
  subst hyo
  have ht : c.exceptionTable.toList = tableOf hh := by
    obtain ⟨m9, meth9, c9, hn9, h1, h2, -, -, h6, -⟩ := Cond.codeWith_spec (atoms_spec (ws := ws) Bd.pre _ (by rw [hw]; exact List.mem_cons_self))
    cases Option.some.inj (hn9.symm.trans Bd.named)
    cases Option.some.inj (h1.symm.trans Bd.method)
    cases Option.some.inj (h2.symm.trans (Stand.of_body Bd).code)
    rw [← h6, table_eq]
  subst hsz
  have hD := hD0.self (sz := s.heap.size)
  have hlv := lv_entry av (n := maxL) hav
  rw [lg_entry_eq]
  have hlk := Bd.notSynchronized
  refine body p e s m _ below meth c _ Bd.exec Bd.bytes hml (atoms_spec (ws := ws) Bd.pre) (findClass_of_methodNamed Bd.named) ht rfl (va_A w s.heap.size) rfl (fun q h => Or.inr h) hK hP hD va_S.rf hEx ?_ _ hlv
  intro H locs pc ls hP hD hS hdg
  exact W.iret Bd.exec Bd.bytes Bd.returns (fun t ht9 hW => ⟨⟨r, (), rfl, rfl, by rw [ht9]; exact hP, va_K.moved hW.alike hK, hD⟩, hS.F ht9⟩) hS.2.2 hdg
end MH

abbrev wsW_items : List Cond := Cond.codeWith y_A_items b_A_items 3 (some .int) [(0, 8, 11, 13)] :: TB
set_option maxRecDepth 100000 in
theorem twW_items : Cond.codeWith y_A_items b_A_items 3 (some .int) [(0, 8, 11, 13)] ∈ TB := inTB 585 rfl rfl
set_option maxHeartbeats 4000000 in
set_option maxRecDepth 100000 in
theorem h0_items {l : Launch} {dC : Nat → ClassId} {dI : Nat → Nat → Nat} {N : Nat} {h : Nat → Nat} {cI : ClassId} {cL : ClassId} {NW : Nat} {bk : Int32} {sz : Int32} {wd : Nat → Int64} {mb : Nat → Int32} {gB : Int32} {gI : Int32} {gN : Int32} {iN : Int32} {dr : Int32} {es : Int64} {of : Int64} {od : Int32} {pl : Int64} {hd : Int64} {tk : Nat → Int32} {kn : Nat → Int32} {li : Nat → Int32} {pa : Nat → Int32} {ins : Nat → Int32} {cm : Int32} {fd : Int32} {hr : Int32} {hs o : Nat} {fo : Nat → Int64} {r : Int32} {mb' : Nat → Int32} {gB' : Int32} {gI' : Int32} {gN' : Int32} {iN' : Int32} {dr' : Int32} {es' : Int64} {of' : Int64} {od' : Int32} {pl' : Int64} {hd' : Int64} {tk' : Nat → Int32} {kn' : Nat → Int32} {li' : Nat → Int32} {pa' : Nat → Int32} {ins' : Nat → Int32} {cm' : Int32} {fd' : Int32} (hf : f_V_items N NW bk sz wd mb gB gI gN iN dr es of od pl hd tk kn li pa ins cm fd hr = some (0, r, mb', gB', gI', gN', iN', dr', es', of', od', pl', hd', tk', kn', li', pa', ins', cm', fd')) : Met l y_A_items wsW_items { frames := 7, cells := 0, slots := 0, locals := 170 } (PcE (dC, dI) clAll [(cI, .int), (cL, .long)] ((wC h cI cL NW bk sz wd mb gB gI gN iN dr es of od pl hd tk kn li pa ins cm fd hr) ++ [(o, .inl (cL, 1, .inr (.inl fo)))]) hs (fun _ => True) [.ref (h 0), .ref o]) (QUi (dC, dI) clAll [(cI, .int), (cL, .long)] ((wC h cI cL NW bk sz wd mb gB gI gN iN dr es of od pl hd tk kn li pa ins cm fd hr) ++ [(o, .inl (cL, 1, .inr (.inl fo)))]) ((wC h cI cL NW bk sz wd mb' gB' gI' gN' iN' dr' es' of' od' pl' hd' tk' kn' li' pa' ins' cm' fd' hr) ++ [(o, .inl (cL, 1, .inr (.inl (vp_updL fo 0 (Int32.toInt64 r)))))]) hs 0) 0 0 (va_A ((wC h cI cL NW bk sz wd mb gB gI gN iN dr es of od pl hd tk kn li pa ins cm fd hr) ++ [(o, .inl (cL, 1, .inr (.inl fo)))]) hs) := by
  refine mH (cc := b_A_items) (maxL := 3) (own := R_A) (by decide) rfl (Nat.le_of_ble_eq_true rfl) rfl ?_
  intro p e s m args below meth c Q hx hb hml hts hown htab hsz A hAe hA hK hP hD hS hEx hret ls hl
  have htb : ∀ w ∈ TB, w.before args s = true := fun w h => hts w (List.mem_cons_of_mem _ h)
  have hl : lv_has ls 3 [(0, .ref (h 0)), (1, .ref o)] := hl
  refine lv_aload_n hx hb d_A_items_0 rfl (lv_at hl 1 rfl) ?_
  refine lv_iconst (v := 0) hx hb d_A_items_1 (by decide) ?_
  refine lv_aload_n hx hb d_A_items_2 rfl (lv_at hl 0 rfl) ?_
  refine lcVi (pre := []) (w := (wC h cI cL NW bk sz wd mb gB gI gN iN dr es of od pl hd tk kn li pa ins cm fd hr)) (w' := (wC h cI cL NW bk sz wd mb' gB' gI' gN' iN' dr' es' of' od' pl' hd' tk' kn' li' pa' ins' cm' fd' hr)) (post := [(o, .inl (cL, 1, .inr (.inl fo)))]) (As := []) (rest := [.int 0, .ref o]) ⟨hx, hb, hml, hown, htb⟩ hK hP hD hS hA (fun hs => c0_V_items hf) (cwV 0 htb (gV tw_587 tw_588 tw_589 tw_68 tw_590) rfl rfl rfl (by decide +kernel) ⟨Nat.le_of_ble_eq_true rfl, Nat.le_of_ble_eq_true rfl⟩) 0 4 rfl rfl rfl rfl rfl hl.1 (Nat.le_of_ble_eq_true rfl) d_A_items_3 ⟨Nat.zero_le _, Nat.zero_le _⟩ (fun H locs hP hD hS => ?_)
  refine lv_i2l hx hb d_A_items_6 rfl ?_
  refine va_last (i := 0) (x := (Int32.toInt64 r)) hx hb hK hP hD hS 12 1 rfl rfl (show ¬ ((0 : Int32) < 0 ∨ 1 ≤ (0 : Int32).toNatClampNeg) by decide) d_A_items_7 (fun H locs hP hD hS => ?_)
  have hP : va_P (dC, dI) clAll ((wC h cI cL NW bk sz wd mb' gB' gI' gN' iN' dr' es' of' od' pl' hd' tk' kn' li' pa' ins' cm' fd' hr) ++ [(o, .inl (cL, 1, .inr (.inl (vp_updL fo 0 (Int32.toInt64 r)))))]) H := hP
  have hD : va_D A ((wC h cI cL NW bk sz wd mb' gB' gI' gN' iN' dr' es' of' od' pl' hd' tk' kn' li' pa' ins' cm' fd' hr) ++ [(o, .inl (cL, 1, .inr (.inl (vp_updL fo 0 (Int32.toInt64 r)))))]) := hD
  refine lv_goto (tgt := 14) hx hb d_A_items_8 (by decide) ?_
  refine lv_iconst (v := 0) hx hb d_A_items_14 (by decide) ?_
  exact hret _ _ _ _ hP hD hS d_A_items_15

set_option maxHeartbeats 4000000 in
set_option maxRecDepth 100000 in
theorem h1_items {l : Launch} {dC : Nat → ClassId} {dI : Nat → Nat → Nat} {N : Nat} {h : Nat → Nat} {cI : ClassId} {cL : ClassId} {NW : Nat} {bk : Int32} {sz : Int32} {wd : Nat → Int64} {mb : Nat → Int32} {gB : Int32} {gI : Int32} {gN : Int32} {iN : Int32} {dr : Int32} {es : Int64} {of : Int64} {od : Int32} {pl : Int64} {hd : Int64} {tk : Nat → Int32} {kn : Nat → Int32} {li : Nat → Int32} {pa : Nat → Int32} {ins : Nat → Int32} {cm : Int32} {fd : Int32} {hr : Int32} {hs o : Nat} {fo : Nat → Int64} {r : Int32} {mb' : Nat → Int32} {gB' : Int32} {gI' : Int32} {gN' : Int32} {iN' : Int32} {dr' : Int32} {es' : Int64} {of' : Int64} {od' : Int32} {pl' : Int64} {hd' : Int64} {tk' : Nat → Int32} {kn' : Nat → Int32} {li' : Nat → Int32} {pa' : Nat → Int32} {ins' : Nat → Int32} {cm' : Int32} {fd' : Int32} (hL : l.stackTraces = false) (hf : f_V_items N NW bk sz wd mb gB gI gN iN dr es of od pl hd tk kn li pa ins cm fd hr = some (1, r, mb', gB', gI', gN', iN', dr', es', of', od', pl', hd', tk', kn', li', pa', ins', cm', fd')) : Met l y_A_items wsW_items { frames := 7, cells := 1, slots := 6, locals := 170 } (PcE (dC, dI) clAll [(cI, .int), (cL, .long)] ((wC h cI cL NW bk sz wd mb gB gI gN iN dr es of od pl hd tk kn li pa ins cm fd hr) ++ [(o, .inl (cL, 1, .inr (.inl fo)))]) hs (fun U => ZU (va_A ((wC h cI cL NW bk sz wd mb gB gI gN iN dr es of od pl hd tk kn li pa ins cm fd hr) ++ [(o, .inl (cL, 1, .inr (.inl fo)))]) hs) U U.heap ∧ StrU R_V strsV U ∧ NcU U) [.ref (h 0), .ref o]) (QUi (dC, dI) clAll [(cI, .int), (cL, .long)] ((wC h cI cL NW bk sz wd mb gB gI gN iN dr es of od pl hd tk kn li pa ins cm fd hr) ++ [(o, .inl (cL, 1, .inr (.inl fo)))]) ((wC h cI cL NW bk sz wd mb' gB' gI' gN' iN' dr' es' of' od' pl' hd' tk' kn' li' pa' ins' cm' fd' hr) ++ [(o, .inl (cL, 1, .inr (.inl fo)))]) hs 1) 1 6 (va_A ((wC h cI cL NW bk sz wd mb gB gI gN iN dr es of od pl hd tk kn li pa ins cm fd hr) ++ [(o, .inl (cL, 1, .inr (.inl fo)))]) hs) := by
  refine mH (cc := b_A_items) (maxL := 3) (own := R_A) (by decide) rfl (Nat.le_of_ble_eq_true rfl) rfl ?_
  intro p e s m args below meth c Q hx hb hml hts hown htab hsz A hAe hA hK hP hD hS hEx hret ls hl
  have htb : ∀ w ∈ TB, w.before args s = true := fun w h => hts w (List.mem_cons_of_mem _ h)
  have hl : lv_has ls 3 [(0, .ref (h 0)), (1, .ref o)] := hl
  obtain ⟨hZ, hSt, hNc⟩ := hEx
  have hZ : ZU A s s.heap := by rw [hAe]; exact hZ
  refine lv_aload_n hx hb d_A_items_0 rfl (lv_at hl 1 rfl) ?_
  refine lv_iconst (v := 0) hx hb d_A_items_1 (by decide) ?_
  refine lv_aload_n hx hb d_A_items_2 rfl (lv_at hl 0 rfl) ?_
  refine lcT (pre := []) (w := (wC h cI cL NW bk sz wd mb gB gI gN iN dr es of od pl hd tk kn li pa ins cm fd hr)) (w' := (wC h cI cL NW bk sz wd mb' gB' gI' gN' iN' dr' es' of' od' pl' hd' tk' kn' li' pa' ins' cm' fd' hr)) (post := [(o, .inl (cL, 1, .inr (.inl fo)))]) (As := []) (rest := [.int 0, .ref o]) ⟨hx, hb, hml, hown, htb⟩ hK hP hD hS hA hZ hSt (fun hs => cT_V_items (tag := 1) hL (by decide) hf) (cwV 0 htb (gV tw_587 tw_588 tw_589 tw_68 tw_590) rfl rfl rfl (by decide +kernel) ⟨Nat.le_of_ble_eq_true rfl, Nat.le_of_ble_eq_true rfl⟩) 0 4 rfl rfl rfl rfl rfl hl.1 (Nat.le_of_ble_eq_true rfl) d_A_items_3 ⟨Nat.le_of_ble_eq_true rfl, Nat.le_of_ble_eq_true rfl⟩ (fun H locs q9 ce hP hD hS he hv hcl => ?_)
  refine tw_catch (name := "java/lang/IllegalStateException") hown [] ⟨0, 8, 11, 13⟩ [] (htab.trans rfl) (fun z hz => by cases hz) (by decide) (by decide) (htb _ tw_586) (hSt.2 _ (List.mem_of_getElem? (i := 0) rfl)) he hv hcl ?_
  refine lv_astore_n (lv' := [(2, .ref q9), (0, .ref (h 0)), (1, .ref o)]) hx hb d_A_items_11 rfl hl (by decide) rfl (fun ls hl => ?_)
  refine lv_iconst (v := 1) hx hb d_A_items_12 (by decide) ?_
  exact hret _ _ _ _ hP hD hS d_A_items_13

abbrev wsW_letter : List Cond := Cond.codeWith y_A_letter b_A_letter 5 (some .int) [(0, 10, 13, 13), (0, 10, 17, 19)] :: TB
set_option maxRecDepth 100000 in
theorem twW_letter : Cond.codeWith y_A_letter b_A_letter 5 (some .int) [(0, 10, 13, 13), (0, 10, 17, 19)] ∈ TB := inTB 670 rfl rfl
set_option maxHeartbeats 4000000 in
set_option maxRecDepth 100000 in
theorem h0_letter {l : Launch} {dC : Nat → ClassId} {dI : Nat → Nat → Nat} {N : Nat} {h : Nat → Nat} {cI : ClassId} {cL : ClassId} {NW : Nat} {bk : Int32} {sz : Int32} {wd : Nat → Int64} {mb : Nat → Int32} {gB : Int32} {gI : Int32} {gN : Int32} {iN : Int32} {dr : Int32} {es : Int64} {of : Int64} {od : Int32} {pl : Int64} {hd : Int64} {tk : Nat → Int32} {kn : Nat → Int32} {li : Nat → Int32} {pa : Nat → Int32} {ins : Nat → Int32} {cm : Int32} {fd : Int32} {hr : Int32} {hs o : Nat} {fo : Nat → Int64} {a1 : Int32} {a2 : Int32} {r : Int32} {mb' : Nat → Int32} {gB' : Int32} {gI' : Int32} {gN' : Int32} {iN' : Int32} {dr' : Int32} {es' : Int64} {of' : Int64} {od' : Int32} {pl' : Int64} {hd' : Int64} {tk' : Nat → Int32} {kn' : Nat → Int32} {li' : Nat → Int32} {pa' : Nat → Int32} {ins' : Nat → Int32} {cm' : Int32} {fd' : Int32} (hf : f_V_letter N NW bk sz wd mb gB gI gN iN dr es of od pl hd tk kn li pa ins cm fd hr a1 a2 = some (0, r, mb', gB', gI', gN', iN', dr', es', of', od', pl', hd', tk', kn', li', pa', ins', cm', fd')) : Met l y_A_letter wsW_letter { frames := 8, cells := 0, slots := 0, locals := 172 } (PcE (dC, dI) clAll [(cI, .int), (cL, .long)] ((wC h cI cL NW bk sz wd mb gB gI gN iN dr es of od pl hd tk kn li pa ins cm fd hr) ++ [(o, .inl (cL, 1, .inr (.inl fo)))]) hs (fun _ => True) [.ref (h 0), .int a1, .int a2, .ref o]) (QUi (dC, dI) clAll [(cI, .int), (cL, .long)] ((wC h cI cL NW bk sz wd mb gB gI gN iN dr es of od pl hd tk kn li pa ins cm fd hr) ++ [(o, .inl (cL, 1, .inr (.inl fo)))]) ((wC h cI cL NW bk sz wd mb' gB' gI' gN' iN' dr' es' of' od' pl' hd' tk' kn' li' pa' ins' cm' fd' hr) ++ [(o, .inl (cL, 1, .inr (.inl (vp_updL fo 0 (Int32.toInt64 r)))))]) hs 0) 0 0 (va_A ((wC h cI cL NW bk sz wd mb gB gI gN iN dr es of od pl hd tk kn li pa ins cm fd hr) ++ [(o, .inl (cL, 1, .inr (.inl fo)))]) hs) := by
  refine mH (cc := b_A_letter) (maxL := 5) (own := R_A) (by decide) rfl (Nat.le_of_ble_eq_true rfl) rfl ?_
  intro p e s m args below meth c Q hx hb hml hts hown htab hsz A hAe hA hK hP hD hS hEx hret ls hl
  have htb : ∀ w ∈ TB, w.before args s = true := fun w h => hts w (List.mem_cons_of_mem _ h)
  have hl : lv_has ls 5 [(0, .ref (h 0)), (1, .int a1), (2, .int a2), (3, .ref o)] := hl
  refine lv_aload_n hx hb d_A_letter_0 rfl (lv_at hl 3 rfl) ?_
  refine lv_iconst (v := 0) hx hb d_A_letter_1 (by decide) ?_
  refine lv_aload_n hx hb d_A_letter_2 rfl (lv_at hl 0 rfl) ?_
  refine lv_iload_n hx hb d_A_letter_3 rfl (lv_at hl 1 rfl) ?_
  refine lv_iload_n hx hb d_A_letter_4 rfl (lv_at hl 2 rfl) ?_
  refine lcVi (pre := []) (w := (wC h cI cL NW bk sz wd mb gB gI gN iN dr es of od pl hd tk kn li pa ins cm fd hr)) (w' := (wC h cI cL NW bk sz wd mb' gB' gI' gN' iN' dr' es' of' od' pl' hd' tk' kn' li' pa' ins' cm' fd' hr)) (post := [(o, .inl (cL, 1, .inr (.inl fo)))]) (As := [.int a1, .int a2]) (rest := [.int 0, .ref o]) ⟨hx, hb, hml, hown, htb⟩ hK hP hD hS hA (fun hs => c0_V_letter hf) (cwV 2 htb (gV tw_672 tw_673 tw_674 tw_68 tw_675) rfl rfl rfl (by decide +kernel) ⟨Nat.le_of_ble_eq_true rfl, Nat.le_of_ble_eq_true rfl⟩) 0 4 rfl rfl rfl rfl rfl hl.1 (Nat.le_of_ble_eq_true rfl) d_A_letter_5 ⟨Nat.zero_le _, Nat.zero_le _⟩ (fun H locs hP hD hS => ?_)
  refine lv_i2l hx hb d_A_letter_8 rfl ?_
  refine va_last (i := 0) (x := (Int32.toInt64 r)) hx hb hK hP hD hS 12 1 rfl rfl (show ¬ ((0 : Int32) < 0 ∨ 1 ≤ (0 : Int32).toNatClampNeg) by decide) d_A_letter_9 (fun H locs hP hD hS => ?_)
  have hP : va_P (dC, dI) clAll ((wC h cI cL NW bk sz wd mb' gB' gI' gN' iN' dr' es' of' od' pl' hd' tk' kn' li' pa' ins' cm' fd' hr) ++ [(o, .inl (cL, 1, .inr (.inl (vp_updL fo 0 (Int32.toInt64 r)))))]) H := hP
  have hD : va_D A ((wC h cI cL NW bk sz wd mb' gB' gI' gN' iN' dr' es' of' od' pl' hd' tk' kn' li' pa' ins' cm' fd' hr) ++ [(o, .inl (cL, 1, .inr (.inl (vp_updL fo 0 (Int32.toInt64 r)))))]) := hD
  refine lv_goto (tgt := 21) hx hb d_A_letter_10 (by decide) ?_
  refine lv_iconst (v := 0) hx hb d_A_letter_21 (by decide) ?_
  exact hret _ _ _ _ hP hD hS d_A_letter_22

set_option maxHeartbeats 4000000 in
set_option maxRecDepth 100000 in
theorem h1_letter {l : Launch} {dC : Nat → ClassId} {dI : Nat → Nat → Nat} {N : Nat} {h : Nat → Nat} {cI : ClassId} {cL : ClassId} {NW : Nat} {bk : Int32} {sz : Int32} {wd : Nat → Int64} {mb : Nat → Int32} {gB : Int32} {gI : Int32} {gN : Int32} {iN : Int32} {dr : Int32} {es : Int64} {of : Int64} {od : Int32} {pl : Int64} {hd : Int64} {tk : Nat → Int32} {kn : Nat → Int32} {li : Nat → Int32} {pa : Nat → Int32} {ins : Nat → Int32} {cm : Int32} {fd : Int32} {hr : Int32} {hs o : Nat} {fo : Nat → Int64} {a1 : Int32} {a2 : Int32} {r : Int32} {mb' : Nat → Int32} {gB' : Int32} {gI' : Int32} {gN' : Int32} {iN' : Int32} {dr' : Int32} {es' : Int64} {of' : Int64} {od' : Int32} {pl' : Int64} {hd' : Int64} {tk' : Nat → Int32} {kn' : Nat → Int32} {li' : Nat → Int32} {pa' : Nat → Int32} {ins' : Nat → Int32} {cm' : Int32} {fd' : Int32} (hL : l.stackTraces = false) (hf : f_V_letter N NW bk sz wd mb gB gI gN iN dr es of od pl hd tk kn li pa ins cm fd hr a1 a2 = some (1, r, mb', gB', gI', gN', iN', dr', es', of', od', pl', hd', tk', kn', li', pa', ins', cm', fd')) : Met l y_A_letter wsW_letter { frames := 8, cells := 1, slots := 6, locals := 172 } (PcE (dC, dI) clAll [(cI, .int), (cL, .long)] ((wC h cI cL NW bk sz wd mb gB gI gN iN dr es of od pl hd tk kn li pa ins cm fd hr) ++ [(o, .inl (cL, 1, .inr (.inl fo)))]) hs (fun U => ZU (va_A ((wC h cI cL NW bk sz wd mb gB gI gN iN dr es of od pl hd tk kn li pa ins cm fd hr) ++ [(o, .inl (cL, 1, .inr (.inl fo)))]) hs) U U.heap ∧ StrU R_V strsV U ∧ NcU U) [.ref (h 0), .int a1, .int a2, .ref o]) (QUi (dC, dI) clAll [(cI, .int), (cL, .long)] ((wC h cI cL NW bk sz wd mb gB gI gN iN dr es of od pl hd tk kn li pa ins cm fd hr) ++ [(o, .inl (cL, 1, .inr (.inl fo)))]) ((wC h cI cL NW bk sz wd mb' gB' gI' gN' iN' dr' es' of' od' pl' hd' tk' kn' li' pa' ins' cm' fd' hr) ++ [(o, .inl (cL, 1, .inr (.inl fo)))]) hs 1) 1 6 (va_A ((wC h cI cL NW bk sz wd mb gB gI gN iN dr es of od pl hd tk kn li pa ins cm fd hr) ++ [(o, .inl (cL, 1, .inr (.inl fo)))]) hs) := by
  refine mH (cc := b_A_letter) (maxL := 5) (own := R_A) (by decide) rfl (Nat.le_of_ble_eq_true rfl) rfl ?_
  intro p e s m args below meth c Q hx hb hml hts hown htab hsz A hAe hA hK hP hD hS hEx hret ls hl
  have htb : ∀ w ∈ TB, w.before args s = true := fun w h => hts w (List.mem_cons_of_mem _ h)
  have hl : lv_has ls 5 [(0, .ref (h 0)), (1, .int a1), (2, .int a2), (3, .ref o)] := hl
  obtain ⟨hZ, hSt, hNc⟩ := hEx
  have hZ : ZU A s s.heap := by rw [hAe]; exact hZ
  refine lv_aload_n hx hb d_A_letter_0 rfl (lv_at hl 3 rfl) ?_
  refine lv_iconst (v := 0) hx hb d_A_letter_1 (by decide) ?_
  refine lv_aload_n hx hb d_A_letter_2 rfl (lv_at hl 0 rfl) ?_
  refine lv_iload_n hx hb d_A_letter_3 rfl (lv_at hl 1 rfl) ?_
  refine lv_iload_n hx hb d_A_letter_4 rfl (lv_at hl 2 rfl) ?_
  refine lcT (pre := []) (w := (wC h cI cL NW bk sz wd mb gB gI gN iN dr es of od pl hd tk kn li pa ins cm fd hr)) (w' := (wC h cI cL NW bk sz wd mb' gB' gI' gN' iN' dr' es' of' od' pl' hd' tk' kn' li' pa' ins' cm' fd' hr)) (post := [(o, .inl (cL, 1, .inr (.inl fo)))]) (As := [.int a1, .int a2]) (rest := [.int 0, .ref o]) ⟨hx, hb, hml, hown, htb⟩ hK hP hD hS hA hZ hSt (fun hs => cT_V_letter (tag := 1) hL (by decide) hf) (cwV 2 htb (gV tw_672 tw_673 tw_674 tw_68 tw_675) rfl rfl rfl (by decide +kernel) ⟨Nat.le_of_ble_eq_true rfl, Nat.le_of_ble_eq_true rfl⟩) 0 4 rfl rfl rfl rfl rfl hl.1 (Nat.le_of_ble_eq_true rfl) d_A_letter_5 ⟨Nat.le_of_ble_eq_true rfl, Nat.le_of_ble_eq_true rfl⟩ (fun H locs q9 ce hP hD hS he hv hcl => ?_)
  refine tw_catch (name := "java/lang/IllegalStateException") hown [] ⟨0, 10, 13, 13⟩ [⟨0, 10, 17, 19⟩] (htab.trans rfl) (fun z hz => by cases hz) (by decide) (by decide) (htb _ tw_586) (hSt.2 _ (List.mem_of_getElem? (i := 0) rfl)) he hv hcl ?_
  refine lv_astore (lv' := [(4, .ref q9), (0, .ref (h 0)), (1, .int a1), (2, .int a2), (3, .ref o)]) hx hb d_A_letter_13 hl (by decide) rfl (fun ls hl => ?_)
  refine lv_iconst (v := 1) hx hb d_A_letter_15 (by decide) ?_
  exact hret _ _ _ _ hP hD hS d_A_letter_16

set_option maxHeartbeats 4000000 in
set_option maxRecDepth 100000 in
theorem h2_letter {l : Launch} {dC : Nat → ClassId} {dI : Nat → Nat → Nat} {N : Nat} {h : Nat → Nat} {cI : ClassId} {cL : ClassId} {NW : Nat} {bk : Int32} {sz : Int32} {wd : Nat → Int64} {mb : Nat → Int32} {gB : Int32} {gI : Int32} {gN : Int32} {iN : Int32} {dr : Int32} {es : Int64} {of : Int64} {od : Int32} {pl : Int64} {hd : Int64} {tk : Nat → Int32} {kn : Nat → Int32} {li : Nat → Int32} {pa : Nat → Int32} {ins : Nat → Int32} {cm : Int32} {fd : Int32} {hr : Int32} {hs o : Nat} {fo : Nat → Int64} {a1 : Int32} {a2 : Int32} {r : Int32} {mb' : Nat → Int32} {gB' : Int32} {gI' : Int32} {gN' : Int32} {iN' : Int32} {dr' : Int32} {es' : Int64} {of' : Int64} {od' : Int32} {pl' : Int64} {hd' : Int64} {tk' : Nat → Int32} {kn' : Nat → Int32} {li' : Nat → Int32} {pa' : Nat → Int32} {ins' : Nat → Int32} {cm' : Int32} {fd' : Int32} (hL : l.stackTraces = false) (hf : f_V_letter N NW bk sz wd mb gB gI gN iN dr es of od pl hd tk kn li pa ins cm fd hr a1 a2 = some (2, r, mb', gB', gI', gN', iN', dr', es', of', od', pl', hd', tk', kn', li', pa', ins', cm', fd')) : Met l y_A_letter wsW_letter { frames := 8, cells := 1, slots := 6, locals := 172 } (PcE (dC, dI) clAll [(cI, .int), (cL, .long)] ((wC h cI cL NW bk sz wd mb gB gI gN iN dr es of od pl hd tk kn li pa ins cm fd hr) ++ [(o, .inl (cL, 1, .inr (.inl fo)))]) hs (fun U => ZU (va_A ((wC h cI cL NW bk sz wd mb gB gI gN iN dr es of od pl hd tk kn li pa ins cm fd hr) ++ [(o, .inl (cL, 1, .inr (.inl fo)))]) hs) U U.heap ∧ StrU R_V strsV U ∧ NcU U) [.ref (h 0), .int a1, .int a2, .ref o]) (QUi (dC, dI) clAll [(cI, .int), (cL, .long)] ((wC h cI cL NW bk sz wd mb gB gI gN iN dr es of od pl hd tk kn li pa ins cm fd hr) ++ [(o, .inl (cL, 1, .inr (.inl fo)))]) ((wC h cI cL NW bk sz wd mb' gB' gI' gN' iN' dr' es' of' od' pl' hd' tk' kn' li' pa' ins' cm' fd' hr) ++ [(o, .inl (cL, 1, .inr (.inl fo)))]) hs 2) 1 6 (va_A ((wC h cI cL NW bk sz wd mb gB gI gN iN dr es of od pl hd tk kn li pa ins cm fd hr) ++ [(o, .inl (cL, 1, .inr (.inl fo)))]) hs) := by
  refine mH (cc := b_A_letter) (maxL := 5) (own := R_A) (by decide) rfl (Nat.le_of_ble_eq_true rfl) rfl ?_
  intro p e s m args below meth c Q hx hb hml hts hown htab hsz A hAe hA hK hP hD hS hEx hret ls hl
  have htb : ∀ w ∈ TB, w.before args s = true := fun w h => hts w (List.mem_cons_of_mem _ h)
  have hl : lv_has ls 5 [(0, .ref (h 0)), (1, .int a1), (2, .int a2), (3, .ref o)] := hl
  obtain ⟨hZ, hSt, hNc⟩ := hEx
  have hZ : ZU A s s.heap := by rw [hAe]; exact hZ
  refine lv_aload_n hx hb d_A_letter_0 rfl (lv_at hl 3 rfl) ?_
  refine lv_iconst (v := 0) hx hb d_A_letter_1 (by decide) ?_
  refine lv_aload_n hx hb d_A_letter_2 rfl (lv_at hl 0 rfl) ?_
  refine lv_iload_n hx hb d_A_letter_3 rfl (lv_at hl 1 rfl) ?_
  refine lv_iload_n hx hb d_A_letter_4 rfl (lv_at hl 2 rfl) ?_
  refine lcT (pre := []) (w := (wC h cI cL NW bk sz wd mb gB gI gN iN dr es of od pl hd tk kn li pa ins cm fd hr)) (w' := (wC h cI cL NW bk sz wd mb' gB' gI' gN' iN' dr' es' of' od' pl' hd' tk' kn' li' pa' ins' cm' fd' hr)) (post := [(o, .inl (cL, 1, .inr (.inl fo)))]) (As := [.int a1, .int a2]) (rest := [.int 0, .ref o]) ⟨hx, hb, hml, hown, htb⟩ hK hP hD hS hA hZ hSt (fun hs => cT_V_letter (tag := 2) hL (by decide) hf) (cwV 2 htb (gV tw_672 tw_673 tw_674 tw_68 tw_675) rfl rfl rfl (by decide +kernel) ⟨Nat.le_of_ble_eq_true rfl, Nat.le_of_ble_eq_true rfl⟩) 0 4 rfl rfl rfl rfl rfl hl.1 (Nat.le_of_ble_eq_true rfl) d_A_letter_5 ⟨Nat.le_of_ble_eq_true rfl, Nat.le_of_ble_eq_true rfl⟩ (fun H locs q9 ce hP hD hS he hv hcl => ?_)
  refine tw_catch (name := "java/lang/IndexOutOfBoundsException") hown [⟨0, 10, 13, 13⟩] ⟨0, 10, 17, 19⟩ [] (htab.trans rfl) (fun z hz => by rcases List.mem_singleton.mp hz with rfl; exact ⟨by decide, "java/lang/IllegalStateException", htb _ tw_586, hNc.1⟩) (by decide) (by decide) (htb _ tw_671) (hSt.2 _ (List.mem_of_getElem? (i := 1) rfl)) he hv hcl ?_
  refine lv_astore (lv' := [(4, .ref q9), (0, .ref (h 0)), (1, .int a1), (2, .int a2), (3, .ref o)]) hx hb d_A_letter_17 hl (by decide) rfl (fun ls hl => ?_)
  refine lv_iconst (v := 2) hx hb d_A_letter_19 (by decide) ?_
  exact hret _ _ _ _ hP hD hS d_A_letter_20

abbrev wsW_about : List Cond := Cond.codeWith y_A_about b_A_about 5 (some .int) [(0, 9, 12, 13), (0, 9, 16, 19), (0, 9, 20, 25)] :: TB
set_option maxRecDepth 100000 in
theorem twW_about : Cond.codeWith y_A_about b_A_about 5 (some .int) [(0, 9, 12, 13), (0, 9, 16, 19), (0, 9, 20, 25)] ∈ TB := inTB 704 rfl rfl
set_option maxHeartbeats 4000000 in
set_option maxRecDepth 100000 in
theorem h0_about {l : Launch} {dC : Nat → ClassId} {dI : Nat → Nat → Nat} {N : Nat} {h : Nat → Nat} {cI : ClassId} {cL : ClassId} {NW : Nat} {bk : Int32} {sz : Int32} {wd : Nat → Int64} {mb : Nat → Int32} {gB : Int32} {gI : Int32} {gN : Int32} {iN : Int32} {dr : Int32} {es : Int64} {of : Int64} {od : Int32} {pl : Int64} {hd : Int64} {tk : Nat → Int32} {kn : Nat → Int32} {li : Nat → Int32} {pa : Nat → Int32} {ins : Nat → Int32} {cm : Int32} {fd : Int32} {hr : Int32} {hs o : Nat} {fo : Nat → Int64} {a1 : Int32} {a2 : Int32} {r : Int64} {mb' : Nat → Int32} {gB' : Int32} {gI' : Int32} {gN' : Int32} {iN' : Int32} {dr' : Int32} {es' : Int64} {of' : Int64} {od' : Int32} {pl' : Int64} {hd' : Int64} {tk' : Nat → Int32} {kn' : Nat → Int32} {li' : Nat → Int32} {pa' : Nat → Int32} {ins' : Nat → Int32} {cm' : Int32} {fd' : Int32} (hf : f_V_about N NW bk sz wd mb gB gI gN iN dr es of od pl hd tk kn li pa ins cm fd hr a1 a2 = some (0, r, mb', gB', gI', gN', iN', dr', es', of', od', pl', hd', tk', kn', li', pa', ins', cm', fd')) : Met l y_A_about wsW_about { frames := 8, cells := 0, slots := 0, locals := 173 } (PcE (dC, dI) clAll [(cI, .int), (cL, .long)] ((wC h cI cL NW bk sz wd mb gB gI gN iN dr es of od pl hd tk kn li pa ins cm fd hr) ++ [(o, .inl (cL, 1, .inr (.inl fo)))]) hs (fun _ => True) [.ref (h 0), .int a1, .int a2, .ref o]) (QUi (dC, dI) clAll [(cI, .int), (cL, .long)] ((wC h cI cL NW bk sz wd mb gB gI gN iN dr es of od pl hd tk kn li pa ins cm fd hr) ++ [(o, .inl (cL, 1, .inr (.inl fo)))]) ((wC h cI cL NW bk sz wd mb' gB' gI' gN' iN' dr' es' of' od' pl' hd' tk' kn' li' pa' ins' cm' fd' hr) ++ [(o, .inl (cL, 1, .inr (.inl (vp_updL fo 0 r))))]) hs 0) 0 0 (va_A ((wC h cI cL NW bk sz wd mb gB gI gN iN dr es of od pl hd tk kn li pa ins cm fd hr) ++ [(o, .inl (cL, 1, .inr (.inl fo)))]) hs) := by
  refine mH (cc := b_A_about) (maxL := 5) (own := R_A) (by decide) rfl (Nat.le_of_ble_eq_true rfl) rfl ?_
  intro p e s m args below meth c Q hx hb hml hts hown htab hsz A hAe hA hK hP hD hS hEx hret ls hl
  have htb : ∀ w ∈ TB, w.before args s = true := fun w h => hts w (List.mem_cons_of_mem _ h)
  have hl : lv_has ls 5 [(0, .ref (h 0)), (1, .int a1), (2, .int a2), (3, .ref o)] := hl
  refine lv_aload_n hx hb d_A_about_0 rfl (lv_at hl 3 rfl) ?_
  refine lv_iconst (v := 0) hx hb d_A_about_1 (by decide) ?_
  refine lv_aload_n hx hb d_A_about_2 rfl (lv_at hl 0 rfl) ?_
  refine lv_iload_n hx hb d_A_about_3 rfl (lv_at hl 1 rfl) ?_
  refine lv_iload_n hx hb d_A_about_4 rfl (lv_at hl 2 rfl) ?_
  refine lcVl (pre := []) (w := (wC h cI cL NW bk sz wd mb gB gI gN iN dr es of od pl hd tk kn li pa ins cm fd hr)) (w' := (wC h cI cL NW bk sz wd mb' gB' gI' gN' iN' dr' es' of' od' pl' hd' tk' kn' li' pa' ins' cm' fd' hr)) (post := [(o, .inl (cL, 1, .inr (.inl fo)))]) (As := [.int a1, .int a2]) (rest := [.int 0, .ref o]) ⟨hx, hb, hml, hown, htb⟩ hK hP hD hS hA (fun hs => c0_V_about hf) (cwV 2 htb (gV tw_706 tw_707 tw_708 tw_68 tw_709) rfl rfl rfl (by decide +kernel) ⟨Nat.le_of_ble_eq_true rfl, Nat.le_of_ble_eq_true rfl⟩) 0 4 rfl rfl rfl rfl rfl hl.1 (Nat.le_of_ble_eq_true rfl) d_A_about_5 ⟨Nat.zero_le _, Nat.zero_le _⟩ (fun H locs hP hD hS => ?_)
  refine va_last (i := 0) (x := r) hx hb hK hP hD hS 12 1 rfl rfl (show ¬ ((0 : Int32) < 0 ∨ 1 ≤ (0 : Int32).toNatClampNeg) by decide) d_A_about_8 (fun H locs hP hD hS => ?_)
  have hP : va_P (dC, dI) clAll ((wC h cI cL NW bk sz wd mb' gB' gI' gN' iN' dr' es' of' od' pl' hd' tk' kn' li' pa' ins' cm' fd' hr) ++ [(o, .inl (cL, 1, .inr (.inl (vp_updL fo 0 r))))]) H := hP
  have hD : va_D A ((wC h cI cL NW bk sz wd mb' gB' gI' gN' iN' dr' es' of' od' pl' hd' tk' kn' li' pa' ins' cm' fd' hr) ++ [(o, .inl (cL, 1, .inr (.inl (vp_updL fo 0 r))))]) := hD
  refine lv_goto (tgt := 24) hx hb d_A_about_9 (by decide) ?_
  refine lv_iconst (v := 0) hx hb d_A_about_24 (by decide) ?_
  exact hret _ _ _ _ hP hD hS d_A_about_25

set_option maxHeartbeats 4000000 in
set_option maxRecDepth 100000 in
theorem h1_about {l : Launch} {dC : Nat → ClassId} {dI : Nat → Nat → Nat} {N : Nat} {h : Nat → Nat} {cI : ClassId} {cL : ClassId} {NW : Nat} {bk : Int32} {sz : Int32} {wd : Nat → Int64} {mb : Nat → Int32} {gB : Int32} {gI : Int32} {gN : Int32} {iN : Int32} {dr : Int32} {es : Int64} {of : Int64} {od : Int32} {pl : Int64} {hd : Int64} {tk : Nat → Int32} {kn : Nat → Int32} {li : Nat → Int32} {pa : Nat → Int32} {ins : Nat → Int32} {cm : Int32} {fd : Int32} {hr : Int32} {hs o : Nat} {fo : Nat → Int64} {a1 : Int32} {a2 : Int32} {r : Int64} {mb' : Nat → Int32} {gB' : Int32} {gI' : Int32} {gN' : Int32} {iN' : Int32} {dr' : Int32} {es' : Int64} {of' : Int64} {od' : Int32} {pl' : Int64} {hd' : Int64} {tk' : Nat → Int32} {kn' : Nat → Int32} {li' : Nat → Int32} {pa' : Nat → Int32} {ins' : Nat → Int32} {cm' : Int32} {fd' : Int32} (hL : l.stackTraces = false) (hf : f_V_about N NW bk sz wd mb gB gI gN iN dr es of od pl hd tk kn li pa ins cm fd hr a1 a2 = some (1, r, mb', gB', gI', gN', iN', dr', es', of', od', pl', hd', tk', kn', li', pa', ins', cm', fd')) : Met l y_A_about wsW_about { frames := 8, cells := 1, slots := 6, locals := 173 } (PcE (dC, dI) clAll [(cI, .int), (cL, .long)] ((wC h cI cL NW bk sz wd mb gB gI gN iN dr es of od pl hd tk kn li pa ins cm fd hr) ++ [(o, .inl (cL, 1, .inr (.inl fo)))]) hs (fun U => ZU (va_A ((wC h cI cL NW bk sz wd mb gB gI gN iN dr es of od pl hd tk kn li pa ins cm fd hr) ++ [(o, .inl (cL, 1, .inr (.inl fo)))]) hs) U U.heap ∧ StrU R_V strsV U ∧ NcU U) [.ref (h 0), .int a1, .int a2, .ref o]) (QUi (dC, dI) clAll [(cI, .int), (cL, .long)] ((wC h cI cL NW bk sz wd mb gB gI gN iN dr es of od pl hd tk kn li pa ins cm fd hr) ++ [(o, .inl (cL, 1, .inr (.inl fo)))]) ((wC h cI cL NW bk sz wd mb' gB' gI' gN' iN' dr' es' of' od' pl' hd' tk' kn' li' pa' ins' cm' fd' hr) ++ [(o, .inl (cL, 1, .inr (.inl fo)))]) hs 1) 1 6 (va_A ((wC h cI cL NW bk sz wd mb gB gI gN iN dr es of od pl hd tk kn li pa ins cm fd hr) ++ [(o, .inl (cL, 1, .inr (.inl fo)))]) hs) := by
  refine mH (cc := b_A_about) (maxL := 5) (own := R_A) (by decide) rfl (Nat.le_of_ble_eq_true rfl) rfl ?_
  intro p e s m args below meth c Q hx hb hml hts hown htab hsz A hAe hA hK hP hD hS hEx hret ls hl
  have htb : ∀ w ∈ TB, w.before args s = true := fun w h => hts w (List.mem_cons_of_mem _ h)
  have hl : lv_has ls 5 [(0, .ref (h 0)), (1, .int a1), (2, .int a2), (3, .ref o)] := hl
  obtain ⟨hZ, hSt, hNc⟩ := hEx
  have hZ : ZU A s s.heap := by rw [hAe]; exact hZ
  refine lv_aload_n hx hb d_A_about_0 rfl (lv_at hl 3 rfl) ?_
  refine lv_iconst (v := 0) hx hb d_A_about_1 (by decide) ?_
  refine lv_aload_n hx hb d_A_about_2 rfl (lv_at hl 0 rfl) ?_
  refine lv_iload_n hx hb d_A_about_3 rfl (lv_at hl 1 rfl) ?_
  refine lv_iload_n hx hb d_A_about_4 rfl (lv_at hl 2 rfl) ?_
  refine lcT (pre := []) (w := (wC h cI cL NW bk sz wd mb gB gI gN iN dr es of od pl hd tk kn li pa ins cm fd hr)) (w' := (wC h cI cL NW bk sz wd mb' gB' gI' gN' iN' dr' es' of' od' pl' hd' tk' kn' li' pa' ins' cm' fd' hr)) (post := [(o, .inl (cL, 1, .inr (.inl fo)))]) (As := [.int a1, .int a2]) (rest := [.int 0, .ref o]) ⟨hx, hb, hml, hown, htb⟩ hK hP hD hS hA hZ hSt (fun hs => cT_V_about (tag := 1) hL (by decide) hf) (cwV 2 htb (gV tw_706 tw_707 tw_708 tw_68 tw_709) rfl rfl rfl (by decide +kernel) ⟨Nat.le_of_ble_eq_true rfl, Nat.le_of_ble_eq_true rfl⟩) 0 4 rfl rfl rfl rfl rfl hl.1 (Nat.le_of_ble_eq_true rfl) d_A_about_5 ⟨Nat.le_of_ble_eq_true rfl, Nat.le_of_ble_eq_true rfl⟩ (fun H locs q9 ce hP hD hS he hv hcl => ?_)
  refine tw_catch (name := "java/lang/IllegalStateException") hown [] ⟨0, 9, 12, 13⟩ [⟨0, 9, 16, 19⟩, ⟨0, 9, 20, 25⟩] (htab.trans rfl) (fun z hz => by cases hz) (by decide) (by decide) (htb _ tw_586) (hSt.2 _ (List.mem_of_getElem? (i := 0) rfl)) he hv hcl ?_
  refine lv_astore (lv' := [(4, .ref q9), (0, .ref (h 0)), (1, .int a1), (2, .int a2), (3, .ref o)]) hx hb d_A_about_12 hl (by decide) rfl (fun ls hl => ?_)
  refine lv_iconst (v := 1) hx hb d_A_about_14 (by decide) ?_
  exact hret _ _ _ _ hP hD hS d_A_about_15

set_option maxHeartbeats 4000000 in
set_option maxRecDepth 100000 in
theorem h2_about {l : Launch} {dC : Nat → ClassId} {dI : Nat → Nat → Nat} {N : Nat} {h : Nat → Nat} {cI : ClassId} {cL : ClassId} {NW : Nat} {bk : Int32} {sz : Int32} {wd : Nat → Int64} {mb : Nat → Int32} {gB : Int32} {gI : Int32} {gN : Int32} {iN : Int32} {dr : Int32} {es : Int64} {of : Int64} {od : Int32} {pl : Int64} {hd : Int64} {tk : Nat → Int32} {kn : Nat → Int32} {li : Nat → Int32} {pa : Nat → Int32} {ins : Nat → Int32} {cm : Int32} {fd : Int32} {hr : Int32} {hs o : Nat} {fo : Nat → Int64} {a1 : Int32} {a2 : Int32} {r : Int64} {mb' : Nat → Int32} {gB' : Int32} {gI' : Int32} {gN' : Int32} {iN' : Int32} {dr' : Int32} {es' : Int64} {of' : Int64} {od' : Int32} {pl' : Int64} {hd' : Int64} {tk' : Nat → Int32} {kn' : Nat → Int32} {li' : Nat → Int32} {pa' : Nat → Int32} {ins' : Nat → Int32} {cm' : Int32} {fd' : Int32} (hL : l.stackTraces = false) (hf : f_V_about N NW bk sz wd mb gB gI gN iN dr es of od pl hd tk kn li pa ins cm fd hr a1 a2 = some (2, r, mb', gB', gI', gN', iN', dr', es', of', od', pl', hd', tk', kn', li', pa', ins', cm', fd')) : Met l y_A_about wsW_about { frames := 8, cells := 1, slots := 6, locals := 173 } (PcE (dC, dI) clAll [(cI, .int), (cL, .long)] ((wC h cI cL NW bk sz wd mb gB gI gN iN dr es of od pl hd tk kn li pa ins cm fd hr) ++ [(o, .inl (cL, 1, .inr (.inl fo)))]) hs (fun U => ZU (va_A ((wC h cI cL NW bk sz wd mb gB gI gN iN dr es of od pl hd tk kn li pa ins cm fd hr) ++ [(o, .inl (cL, 1, .inr (.inl fo)))]) hs) U U.heap ∧ StrU R_V strsV U ∧ NcU U) [.ref (h 0), .int a1, .int a2, .ref o]) (QUi (dC, dI) clAll [(cI, .int), (cL, .long)] ((wC h cI cL NW bk sz wd mb gB gI gN iN dr es of od pl hd tk kn li pa ins cm fd hr) ++ [(o, .inl (cL, 1, .inr (.inl fo)))]) ((wC h cI cL NW bk sz wd mb' gB' gI' gN' iN' dr' es' of' od' pl' hd' tk' kn' li' pa' ins' cm' fd' hr) ++ [(o, .inl (cL, 1, .inr (.inl fo)))]) hs 2) 1 6 (va_A ((wC h cI cL NW bk sz wd mb gB gI gN iN dr es of od pl hd tk kn li pa ins cm fd hr) ++ [(o, .inl (cL, 1, .inr (.inl fo)))]) hs) := by
  refine mH (cc := b_A_about) (maxL := 5) (own := R_A) (by decide) rfl (Nat.le_of_ble_eq_true rfl) rfl ?_
  intro p e s m args below meth c Q hx hb hml hts hown htab hsz A hAe hA hK hP hD hS hEx hret ls hl
  have htb : ∀ w ∈ TB, w.before args s = true := fun w h => hts w (List.mem_cons_of_mem _ h)
  have hl : lv_has ls 5 [(0, .ref (h 0)), (1, .int a1), (2, .int a2), (3, .ref o)] := hl
  obtain ⟨hZ, hSt, hNc⟩ := hEx
  have hZ : ZU A s s.heap := by rw [hAe]; exact hZ
  refine lv_aload_n hx hb d_A_about_0 rfl (lv_at hl 3 rfl) ?_
  refine lv_iconst (v := 0) hx hb d_A_about_1 (by decide) ?_
  refine lv_aload_n hx hb d_A_about_2 rfl (lv_at hl 0 rfl) ?_
  refine lv_iload_n hx hb d_A_about_3 rfl (lv_at hl 1 rfl) ?_
  refine lv_iload_n hx hb d_A_about_4 rfl (lv_at hl 2 rfl) ?_
  refine lcT (pre := []) (w := (wC h cI cL NW bk sz wd mb gB gI gN iN dr es of od pl hd tk kn li pa ins cm fd hr)) (w' := (wC h cI cL NW bk sz wd mb' gB' gI' gN' iN' dr' es' of' od' pl' hd' tk' kn' li' pa' ins' cm' fd' hr)) (post := [(o, .inl (cL, 1, .inr (.inl fo)))]) (As := [.int a1, .int a2]) (rest := [.int 0, .ref o]) ⟨hx, hb, hml, hown, htb⟩ hK hP hD hS hA hZ hSt (fun hs => cT_V_about (tag := 2) hL (by decide) hf) (cwV 2 htb (gV tw_706 tw_707 tw_708 tw_68 tw_709) rfl rfl rfl (by decide +kernel) ⟨Nat.le_of_ble_eq_true rfl, Nat.le_of_ble_eq_true rfl⟩) 0 4 rfl rfl rfl rfl rfl hl.1 (Nat.le_of_ble_eq_true rfl) d_A_about_5 ⟨Nat.le_of_ble_eq_true rfl, Nat.le_of_ble_eq_true rfl⟩ (fun H locs q9 ce hP hD hS he hv hcl => ?_)
  refine tw_catch (name := "java/lang/IndexOutOfBoundsException") hown [⟨0, 9, 12, 13⟩] ⟨0, 9, 16, 19⟩ [⟨0, 9, 20, 25⟩] (htab.trans rfl) (fun z hz => by rcases List.mem_singleton.mp hz with rfl; exact ⟨by decide, "java/lang/IllegalStateException", htb _ tw_586, hNc.1⟩) (by decide) (by decide) (htb _ tw_671) (hSt.2 _ (List.mem_of_getElem? (i := 1) rfl)) he hv hcl ?_
  refine lv_astore (lv' := [(4, .ref q9), (0, .ref (h 0)), (1, .int a1), (2, .int a2), (3, .ref o)]) hx hb d_A_about_16 hl (by decide) rfl (fun ls hl => ?_)
  refine lv_iconst (v := 2) hx hb d_A_about_18 (by decide) ?_
  exact hret _ _ _ _ hP hD hS d_A_about_19

set_option maxHeartbeats 4000000 in
set_option maxRecDepth 100000 in
theorem h3_about {l : Launch} {dC : Nat → ClassId} {dI : Nat → Nat → Nat} {N : Nat} {h : Nat → Nat} {cI : ClassId} {cL : ClassId} {NW : Nat} {bk : Int32} {sz : Int32} {wd : Nat → Int64} {mb : Nat → Int32} {gB : Int32} {gI : Int32} {gN : Int32} {iN : Int32} {dr : Int32} {es : Int64} {of : Int64} {od : Int32} {pl : Int64} {hd : Int64} {tk : Nat → Int32} {kn : Nat → Int32} {li : Nat → Int32} {pa : Nat → Int32} {ins : Nat → Int32} {cm : Int32} {fd : Int32} {hr : Int32} {hs o : Nat} {fo : Nat → Int64} {a1 : Int32} {a2 : Int32} {r : Int64} {mb' : Nat → Int32} {gB' : Int32} {gI' : Int32} {gN' : Int32} {iN' : Int32} {dr' : Int32} {es' : Int64} {of' : Int64} {od' : Int32} {pl' : Int64} {hd' : Int64} {tk' : Nat → Int32} {kn' : Nat → Int32} {li' : Nat → Int32} {pa' : Nat → Int32} {ins' : Nat → Int32} {cm' : Int32} {fd' : Int32} (hL : l.stackTraces = false) (hf : f_V_about N NW bk sz wd mb gB gI gN iN dr es of od pl hd tk kn li pa ins cm fd hr a1 a2 = some (3, r, mb', gB', gI', gN', iN', dr', es', of', od', pl', hd', tk', kn', li', pa', ins', cm', fd')) : Met l y_A_about wsW_about { frames := 8, cells := 1, slots := 6, locals := 173 } (PcE (dC, dI) clAll [(cI, .int), (cL, .long)] ((wC h cI cL NW bk sz wd mb gB gI gN iN dr es of od pl hd tk kn li pa ins cm fd hr) ++ [(o, .inl (cL, 1, .inr (.inl fo)))]) hs (fun U => ZU (va_A ((wC h cI cL NW bk sz wd mb gB gI gN iN dr es of od pl hd tk kn li pa ins cm fd hr) ++ [(o, .inl (cL, 1, .inr (.inl fo)))]) hs) U U.heap ∧ StrU R_V strsV U ∧ NcU U) [.ref (h 0), .int a1, .int a2, .ref o]) (QUi (dC, dI) clAll [(cI, .int), (cL, .long)] ((wC h cI cL NW bk sz wd mb gB gI gN iN dr es of od pl hd tk kn li pa ins cm fd hr) ++ [(o, .inl (cL, 1, .inr (.inl fo)))]) ((wC h cI cL NW bk sz wd mb' gB' gI' gN' iN' dr' es' of' od' pl' hd' tk' kn' li' pa' ins' cm' fd' hr) ++ [(o, .inl (cL, 1, .inr (.inl fo)))]) hs 3) 1 6 (va_A ((wC h cI cL NW bk sz wd mb gB gI gN iN dr es of od pl hd tk kn li pa ins cm fd hr) ++ [(o, .inl (cL, 1, .inr (.inl fo)))]) hs) := by
  refine mH (cc := b_A_about) (maxL := 5) (own := R_A) (by decide) rfl (Nat.le_of_ble_eq_true rfl) rfl ?_
  intro p e s m args below meth c Q hx hb hml hts hown htab hsz A hAe hA hK hP hD hS hEx hret ls hl
  have htb : ∀ w ∈ TB, w.before args s = true := fun w h => hts w (List.mem_cons_of_mem _ h)
  have hl : lv_has ls 5 [(0, .ref (h 0)), (1, .int a1), (2, .int a2), (3, .ref o)] := hl
  obtain ⟨hZ, hSt, hNc⟩ := hEx
  have hZ : ZU A s s.heap := by rw [hAe]; exact hZ
  refine lv_aload_n hx hb d_A_about_0 rfl (lv_at hl 3 rfl) ?_
  refine lv_iconst (v := 0) hx hb d_A_about_1 (by decide) ?_
  refine lv_aload_n hx hb d_A_about_2 rfl (lv_at hl 0 rfl) ?_
  refine lv_iload_n hx hb d_A_about_3 rfl (lv_at hl 1 rfl) ?_
  refine lv_iload_n hx hb d_A_about_4 rfl (lv_at hl 2 rfl) ?_
  refine lcT (pre := []) (w := (wC h cI cL NW bk sz wd mb gB gI gN iN dr es of od pl hd tk kn li pa ins cm fd hr)) (w' := (wC h cI cL NW bk sz wd mb' gB' gI' gN' iN' dr' es' of' od' pl' hd' tk' kn' li' pa' ins' cm' fd' hr)) (post := [(o, .inl (cL, 1, .inr (.inl fo)))]) (As := [.int a1, .int a2]) (rest := [.int 0, .ref o]) ⟨hx, hb, hml, hown, htb⟩ hK hP hD hS hA hZ hSt (fun hs => cT_V_about (tag := 3) hL (by decide) hf) (cwV 2 htb (gV tw_706 tw_707 tw_708 tw_68 tw_709) rfl rfl rfl (by decide +kernel) ⟨Nat.le_of_ble_eq_true rfl, Nat.le_of_ble_eq_true rfl⟩) 0 4 rfl rfl rfl rfl rfl hl.1 (Nat.le_of_ble_eq_true rfl) d_A_about_5 ⟨Nat.le_of_ble_eq_true rfl, Nat.le_of_ble_eq_true rfl⟩ (fun H locs q9 ce hP hD hS he hv hcl => ?_)
  refine tw_catch (name := "java/lang/IllegalArgumentException") hown [⟨0, 9, 12, 13⟩, ⟨0, 9, 16, 19⟩] ⟨0, 9, 20, 25⟩ [] (htab.trans rfl) (fun z hz => by
      rcases List.mem_cons.mp hz with rfl | hz
      · exact ⟨by decide, "java/lang/IllegalStateException", htb _ tw_586, hNc.2.1⟩
      · rcases List.mem_singleton.mp hz with rfl; exact ⟨by decide, "java/lang/IndexOutOfBoundsException", htb _ tw_671, hNc.2.2⟩) (by decide) (by decide) (htb _ tw_705) (hSt.2 _ (List.mem_of_getElem? (i := 2) rfl)) he hv hcl ?_
  refine lv_astore (lv' := [(4, .ref q9), (0, .ref (h 0)), (1, .int a1), (2, .int a2), (3, .ref o)]) hx hb d_A_about_20 hl (by decide) rfl (fun ls hl => ?_)
  refine lv_iconst (v := 3) hx hb d_A_about_22 (by decide) ?_
  exact hret _ _ _ _ hP hD hS d_A_about_23

abbrev wsW_content : List Cond := Cond.codeWith y_A_content b_A_content 5 (some .int) [(0, 10, 13, 13), (0, 10, 17, 19)] :: TB
set_option maxRecDepth 100000 in
theorem twW_content : Cond.codeWith y_A_content b_A_content 5 (some .int) [(0, 10, 13, 13), (0, 10, 17, 19)] ∈ TB := inTB 738 rfl rfl
set_option maxHeartbeats 4000000 in
set_option maxRecDepth 100000 in
theorem h0_content {l : Launch} {dC : Nat → ClassId} {dI : Nat → Nat → Nat} {N : Nat} {h : Nat → Nat} {cI : ClassId} {cL : ClassId} {NW : Nat} {bk : Int32} {sz : Int32} {wd : Nat → Int64} {mb : Nat → Int32} {gB : Int32} {gI : Int32} {gN : Int32} {iN : Int32} {dr : Int32} {es : Int64} {of : Int64} {od : Int32} {pl : Int64} {hd : Int64} {tk : Nat → Int32} {kn : Nat → Int32} {li : Nat → Int32} {pa : Nat → Int32} {ins : Nat → Int32} {cm : Int32} {fd : Int32} {hr : Int32} {hs o : Nat} {fo : Nat → Int64} {a1 : Int32} {a2 : Int32} {r : Int32} {mb' : Nat → Int32} {gB' : Int32} {gI' : Int32} {gN' : Int32} {iN' : Int32} {dr' : Int32} {es' : Int64} {of' : Int64} {od' : Int32} {pl' : Int64} {hd' : Int64} {tk' : Nat → Int32} {kn' : Nat → Int32} {li' : Nat → Int32} {pa' : Nat → Int32} {ins' : Nat → Int32} {cm' : Int32} {fd' : Int32} (hf : f_V_content N NW bk sz wd mb gB gI gN iN dr es of od pl hd tk kn li pa ins cm fd hr a1 a2 = some (0, r, mb', gB', gI', gN', iN', dr', es', of', od', pl', hd', tk', kn', li', pa', ins', cm', fd')) : Met l y_A_content wsW_content { frames := 8, cells := 0, slots := 0, locals := 173 } (PcE (dC, dI) clAll [(cI, .int), (cL, .long)] ((wC h cI cL NW bk sz wd mb gB gI gN iN dr es of od pl hd tk kn li pa ins cm fd hr) ++ [(o, .inl (cL, 1, .inr (.inl fo)))]) hs (fun _ => True) [.ref (h 0), .int a1, .int a2, .ref o]) (QUi (dC, dI) clAll [(cI, .int), (cL, .long)] ((wC h cI cL NW bk sz wd mb gB gI gN iN dr es of od pl hd tk kn li pa ins cm fd hr) ++ [(o, .inl (cL, 1, .inr (.inl fo)))]) ((wC h cI cL NW bk sz wd mb' gB' gI' gN' iN' dr' es' of' od' pl' hd' tk' kn' li' pa' ins' cm' fd' hr) ++ [(o, .inl (cL, 1, .inr (.inl (vp_updL fo 0 (Int32.toInt64 r)))))]) hs 0) 0 0 (va_A ((wC h cI cL NW bk sz wd mb gB gI gN iN dr es of od pl hd tk kn li pa ins cm fd hr) ++ [(o, .inl (cL, 1, .inr (.inl fo)))]) hs) := by
  refine mH (cc := b_A_content) (maxL := 5) (own := R_A) (by decide) rfl (Nat.le_of_ble_eq_true rfl) rfl ?_
  intro p e s m args below meth c Q hx hb hml hts hown htab hsz A hAe hA hK hP hD hS hEx hret ls hl
  have htb : ∀ w ∈ TB, w.before args s = true := fun w h => hts w (List.mem_cons_of_mem _ h)
  have hl : lv_has ls 5 [(0, .ref (h 0)), (1, .int a1), (2, .int a2), (3, .ref o)] := hl
  refine lv_aload_n hx hb d_A_content_0 rfl (lv_at hl 3 rfl) ?_
  refine lv_iconst (v := 0) hx hb d_A_content_1 (by decide) ?_
  refine lv_aload_n hx hb d_A_content_2 rfl (lv_at hl 0 rfl) ?_
  refine lv_iload_n hx hb d_A_content_3 rfl (lv_at hl 1 rfl) ?_
  refine lv_iload_n hx hb d_A_content_4 rfl (lv_at hl 2 rfl) ?_
  refine lcVi (pre := []) (w := (wC h cI cL NW bk sz wd mb gB gI gN iN dr es of od pl hd tk kn li pa ins cm fd hr)) (w' := (wC h cI cL NW bk sz wd mb' gB' gI' gN' iN' dr' es' of' od' pl' hd' tk' kn' li' pa' ins' cm' fd' hr)) (post := [(o, .inl (cL, 1, .inr (.inl fo)))]) (As := [.int a1, .int a2]) (rest := [.int 0, .ref o]) ⟨hx, hb, hml, hown, htb⟩ hK hP hD hS hA (fun hs => c0_V_content hf) (cwV 2 htb (gV tw_739 tw_740 tw_741 tw_68 tw_742) rfl rfl rfl (by decide +kernel) ⟨Nat.le_of_ble_eq_true rfl, Nat.le_of_ble_eq_true rfl⟩) 0 4 rfl rfl rfl rfl rfl hl.1 (Nat.le_of_ble_eq_true rfl) d_A_content_5 ⟨Nat.zero_le _, Nat.zero_le _⟩ (fun H locs hP hD hS => ?_)
  refine lv_i2l hx hb d_A_content_8 rfl ?_
  refine va_last (i := 0) (x := (Int32.toInt64 r)) hx hb hK hP hD hS 12 1 rfl rfl (show ¬ ((0 : Int32) < 0 ∨ 1 ≤ (0 : Int32).toNatClampNeg) by decide) d_A_content_9 (fun H locs hP hD hS => ?_)
  have hP : va_P (dC, dI) clAll ((wC h cI cL NW bk sz wd mb' gB' gI' gN' iN' dr' es' of' od' pl' hd' tk' kn' li' pa' ins' cm' fd' hr) ++ [(o, .inl (cL, 1, .inr (.inl (vp_updL fo 0 (Int32.toInt64 r)))))]) H := hP
  have hD : va_D A ((wC h cI cL NW bk sz wd mb' gB' gI' gN' iN' dr' es' of' od' pl' hd' tk' kn' li' pa' ins' cm' fd' hr) ++ [(o, .inl (cL, 1, .inr (.inl (vp_updL fo 0 (Int32.toInt64 r)))))]) := hD
  refine lv_goto (tgt := 21) hx hb d_A_content_10 (by decide) ?_
  refine lv_iconst (v := 0) hx hb d_A_content_21 (by decide) ?_
  exact hret _ _ _ _ hP hD hS d_A_content_22

set_option maxHeartbeats 4000000 in
set_option maxRecDepth 100000 in
theorem h1_content {l : Launch} {dC : Nat → ClassId} {dI : Nat → Nat → Nat} {N : Nat} {h : Nat → Nat} {cI : ClassId} {cL : ClassId} {NW : Nat} {bk : Int32} {sz : Int32} {wd : Nat → Int64} {mb : Nat → Int32} {gB : Int32} {gI : Int32} {gN : Int32} {iN : Int32} {dr : Int32} {es : Int64} {of : Int64} {od : Int32} {pl : Int64} {hd : Int64} {tk : Nat → Int32} {kn : Nat → Int32} {li : Nat → Int32} {pa : Nat → Int32} {ins : Nat → Int32} {cm : Int32} {fd : Int32} {hr : Int32} {hs o : Nat} {fo : Nat → Int64} {a1 : Int32} {a2 : Int32} {r : Int32} {mb' : Nat → Int32} {gB' : Int32} {gI' : Int32} {gN' : Int32} {iN' : Int32} {dr' : Int32} {es' : Int64} {of' : Int64} {od' : Int32} {pl' : Int64} {hd' : Int64} {tk' : Nat → Int32} {kn' : Nat → Int32} {li' : Nat → Int32} {pa' : Nat → Int32} {ins' : Nat → Int32} {cm' : Int32} {fd' : Int32} (hL : l.stackTraces = false) (hf : f_V_content N NW bk sz wd mb gB gI gN iN dr es of od pl hd tk kn li pa ins cm fd hr a1 a2 = some (1, r, mb', gB', gI', gN', iN', dr', es', of', od', pl', hd', tk', kn', li', pa', ins', cm', fd')) : Met l y_A_content wsW_content { frames := 8, cells := 1, slots := 6, locals := 173 } (PcE (dC, dI) clAll [(cI, .int), (cL, .long)] ((wC h cI cL NW bk sz wd mb gB gI gN iN dr es of od pl hd tk kn li pa ins cm fd hr) ++ [(o, .inl (cL, 1, .inr (.inl fo)))]) hs (fun U => ZU (va_A ((wC h cI cL NW bk sz wd mb gB gI gN iN dr es of od pl hd tk kn li pa ins cm fd hr) ++ [(o, .inl (cL, 1, .inr (.inl fo)))]) hs) U U.heap ∧ StrU R_V strsV U ∧ NcU U) [.ref (h 0), .int a1, .int a2, .ref o]) (QUi (dC, dI) clAll [(cI, .int), (cL, .long)] ((wC h cI cL NW bk sz wd mb gB gI gN iN dr es of od pl hd tk kn li pa ins cm fd hr) ++ [(o, .inl (cL, 1, .inr (.inl fo)))]) ((wC h cI cL NW bk sz wd mb' gB' gI' gN' iN' dr' es' of' od' pl' hd' tk' kn' li' pa' ins' cm' fd' hr) ++ [(o, .inl (cL, 1, .inr (.inl fo)))]) hs 1) 1 6 (va_A ((wC h cI cL NW bk sz wd mb gB gI gN iN dr es of od pl hd tk kn li pa ins cm fd hr) ++ [(o, .inl (cL, 1, .inr (.inl fo)))]) hs) := by
  refine mH (cc := b_A_content) (maxL := 5) (own := R_A) (by decide) rfl (Nat.le_of_ble_eq_true rfl) rfl ?_
  intro p e s m args below meth c Q hx hb hml hts hown htab hsz A hAe hA hK hP hD hS hEx hret ls hl
  have htb : ∀ w ∈ TB, w.before args s = true := fun w h => hts w (List.mem_cons_of_mem _ h)
  have hl : lv_has ls 5 [(0, .ref (h 0)), (1, .int a1), (2, .int a2), (3, .ref o)] := hl
  obtain ⟨hZ, hSt, hNc⟩ := hEx
  have hZ : ZU A s s.heap := by rw [hAe]; exact hZ
  refine lv_aload_n hx hb d_A_content_0 rfl (lv_at hl 3 rfl) ?_
  refine lv_iconst (v := 0) hx hb d_A_content_1 (by decide) ?_
  refine lv_aload_n hx hb d_A_content_2 rfl (lv_at hl 0 rfl) ?_
  refine lv_iload_n hx hb d_A_content_3 rfl (lv_at hl 1 rfl) ?_
  refine lv_iload_n hx hb d_A_content_4 rfl (lv_at hl 2 rfl) ?_
  refine lcT (pre := []) (w := (wC h cI cL NW bk sz wd mb gB gI gN iN dr es of od pl hd tk kn li pa ins cm fd hr)) (w' := (wC h cI cL NW bk sz wd mb' gB' gI' gN' iN' dr' es' of' od' pl' hd' tk' kn' li' pa' ins' cm' fd' hr)) (post := [(o, .inl (cL, 1, .inr (.inl fo)))]) (As := [.int a1, .int a2]) (rest := [.int 0, .ref o]) ⟨hx, hb, hml, hown, htb⟩ hK hP hD hS hA hZ hSt (fun hs => cT_V_content (tag := 1) hL (by decide) hf) (cwV 2 htb (gV tw_739 tw_740 tw_741 tw_68 tw_742) rfl rfl rfl (by decide +kernel) ⟨Nat.le_of_ble_eq_true rfl, Nat.le_of_ble_eq_true rfl⟩) 0 4 rfl rfl rfl rfl rfl hl.1 (Nat.le_of_ble_eq_true rfl) d_A_content_5 ⟨Nat.le_of_ble_eq_true rfl, Nat.le_of_ble_eq_true rfl⟩ (fun H locs q9 ce hP hD hS he hv hcl => ?_)
  refine tw_catch (name := "java/lang/IllegalStateException") hown [] ⟨0, 10, 13, 13⟩ [⟨0, 10, 17, 19⟩] (htab.trans rfl) (fun z hz => by cases hz) (by decide) (by decide) (htb _ tw_586) (hSt.2 _ (List.mem_of_getElem? (i := 0) rfl)) he hv hcl ?_
  refine lv_astore (lv' := [(4, .ref q9), (0, .ref (h 0)), (1, .int a1), (2, .int a2), (3, .ref o)]) hx hb d_A_content_13 hl (by decide) rfl (fun ls hl => ?_)
  refine lv_iconst (v := 1) hx hb d_A_content_15 (by decide) ?_
  exact hret _ _ _ _ hP hD hS d_A_content_16

set_option maxHeartbeats 4000000 in
set_option maxRecDepth 100000 in
theorem h2_content {l : Launch} {dC : Nat → ClassId} {dI : Nat → Nat → Nat} {N : Nat} {h : Nat → Nat} {cI : ClassId} {cL : ClassId} {NW : Nat} {bk : Int32} {sz : Int32} {wd : Nat → Int64} {mb : Nat → Int32} {gB : Int32} {gI : Int32} {gN : Int32} {iN : Int32} {dr : Int32} {es : Int64} {of : Int64} {od : Int32} {pl : Int64} {hd : Int64} {tk : Nat → Int32} {kn : Nat → Int32} {li : Nat → Int32} {pa : Nat → Int32} {ins : Nat → Int32} {cm : Int32} {fd : Int32} {hr : Int32} {hs o : Nat} {fo : Nat → Int64} {a1 : Int32} {a2 : Int32} {r : Int32} {mb' : Nat → Int32} {gB' : Int32} {gI' : Int32} {gN' : Int32} {iN' : Int32} {dr' : Int32} {es' : Int64} {of' : Int64} {od' : Int32} {pl' : Int64} {hd' : Int64} {tk' : Nat → Int32} {kn' : Nat → Int32} {li' : Nat → Int32} {pa' : Nat → Int32} {ins' : Nat → Int32} {cm' : Int32} {fd' : Int32} (hL : l.stackTraces = false) (hf : f_V_content N NW bk sz wd mb gB gI gN iN dr es of od pl hd tk kn li pa ins cm fd hr a1 a2 = some (2, r, mb', gB', gI', gN', iN', dr', es', of', od', pl', hd', tk', kn', li', pa', ins', cm', fd')) : Met l y_A_content wsW_content { frames := 8, cells := 1, slots := 6, locals := 173 } (PcE (dC, dI) clAll [(cI, .int), (cL, .long)] ((wC h cI cL NW bk sz wd mb gB gI gN iN dr es of od pl hd tk kn li pa ins cm fd hr) ++ [(o, .inl (cL, 1, .inr (.inl fo)))]) hs (fun U => ZU (va_A ((wC h cI cL NW bk sz wd mb gB gI gN iN dr es of od pl hd tk kn li pa ins cm fd hr) ++ [(o, .inl (cL, 1, .inr (.inl fo)))]) hs) U U.heap ∧ StrU R_V strsV U ∧ NcU U) [.ref (h 0), .int a1, .int a2, .ref o]) (QUi (dC, dI) clAll [(cI, .int), (cL, .long)] ((wC h cI cL NW bk sz wd mb gB gI gN iN dr es of od pl hd tk kn li pa ins cm fd hr) ++ [(o, .inl (cL, 1, .inr (.inl fo)))]) ((wC h cI cL NW bk sz wd mb' gB' gI' gN' iN' dr' es' of' od' pl' hd' tk' kn' li' pa' ins' cm' fd' hr) ++ [(o, .inl (cL, 1, .inr (.inl fo)))]) hs 2) 1 6 (va_A ((wC h cI cL NW bk sz wd mb gB gI gN iN dr es of od pl hd tk kn li pa ins cm fd hr) ++ [(o, .inl (cL, 1, .inr (.inl fo)))]) hs) := by
  refine mH (cc := b_A_content) (maxL := 5) (own := R_A) (by decide) rfl (Nat.le_of_ble_eq_true rfl) rfl ?_
  intro p e s m args below meth c Q hx hb hml hts hown htab hsz A hAe hA hK hP hD hS hEx hret ls hl
  have htb : ∀ w ∈ TB, w.before args s = true := fun w h => hts w (List.mem_cons_of_mem _ h)
  have hl : lv_has ls 5 [(0, .ref (h 0)), (1, .int a1), (2, .int a2), (3, .ref o)] := hl
  obtain ⟨hZ, hSt, hNc⟩ := hEx
  have hZ : ZU A s s.heap := by rw [hAe]; exact hZ
  refine lv_aload_n hx hb d_A_content_0 rfl (lv_at hl 3 rfl) ?_
  refine lv_iconst (v := 0) hx hb d_A_content_1 (by decide) ?_
  refine lv_aload_n hx hb d_A_content_2 rfl (lv_at hl 0 rfl) ?_
  refine lv_iload_n hx hb d_A_content_3 rfl (lv_at hl 1 rfl) ?_
  refine lv_iload_n hx hb d_A_content_4 rfl (lv_at hl 2 rfl) ?_
  refine lcT (pre := []) (w := (wC h cI cL NW bk sz wd mb gB gI gN iN dr es of od pl hd tk kn li pa ins cm fd hr)) (w' := (wC h cI cL NW bk sz wd mb' gB' gI' gN' iN' dr' es' of' od' pl' hd' tk' kn' li' pa' ins' cm' fd' hr)) (post := [(o, .inl (cL, 1, .inr (.inl fo)))]) (As := [.int a1, .int a2]) (rest := [.int 0, .ref o]) ⟨hx, hb, hml, hown, htb⟩ hK hP hD hS hA hZ hSt (fun hs => cT_V_content (tag := 2) hL (by decide) hf) (cwV 2 htb (gV tw_739 tw_740 tw_741 tw_68 tw_742) rfl rfl rfl (by decide +kernel) ⟨Nat.le_of_ble_eq_true rfl, Nat.le_of_ble_eq_true rfl⟩) 0 4 rfl rfl rfl rfl rfl hl.1 (Nat.le_of_ble_eq_true rfl) d_A_content_5 ⟨Nat.le_of_ble_eq_true rfl, Nat.le_of_ble_eq_true rfl⟩ (fun H locs q9 ce hP hD hS he hv hcl => ?_)
  refine tw_catch (name := "java/lang/IndexOutOfBoundsException") hown [⟨0, 10, 13, 13⟩] ⟨0, 10, 17, 19⟩ [] (htab.trans rfl) (fun z hz => by rcases List.mem_singleton.mp hz with rfl; exact ⟨by decide, "java/lang/IllegalStateException", htb _ tw_586, hNc.1⟩) (by decide) (by decide) (htb _ tw_671) (hSt.2 _ (List.mem_of_getElem? (i := 1) rfl)) he hv hcl ?_
  refine lv_astore (lv' := [(4, .ref q9), (0, .ref (h 0)), (1, .int a1), (2, .int a2), (3, .ref o)]) hx hb d_A_content_17 hl (by decide) rfl (fun ls hl => ?_)
  refine lv_iconst (v := 2) hx hb d_A_content_19 (by decide) ?_
  exact hret _ _ _ _ hP hD hS d_A_content_20

abbrev wsW_enter : List Cond := Cond.codeWith y_A_enter b_A_enter 4 (some .int) [(0, 9, 12, 13), (0, 9, 15, 19), (0, 9, 18, 25)] :: TB
set_option maxRecDepth 100000 in
theorem twW_enter : Cond.codeWith y_A_enter b_A_enter 4 (some .int) [(0, 9, 12, 13), (0, 9, 15, 19), (0, 9, 18, 25)] ∈ TB := inTB 746 rfl rfl
set_option maxHeartbeats 4000000 in
set_option maxRecDepth 100000 in
theorem h0_enter {l : Launch} {dC : Nat → ClassId} {dI : Nat → Nat → Nat} {N : Nat} {h : Nat → Nat} {cI : ClassId} {cL : ClassId} {NW : Nat} {bk : Int32} {sz : Int32} {wd : Nat → Int64} {mb : Nat → Int32} {gB : Int32} {gI : Int32} {gN : Int32} {iN : Int32} {dr : Int32} {es : Int64} {of : Int64} {od : Int32} {pl : Int64} {hd : Int64} {tk : Nat → Int32} {kn : Nat → Int32} {li : Nat → Int32} {pa : Nat → Int32} {ins : Nat → Int32} {cm : Int32} {fd : Int32} {hr : Int32} {hs o : Nat} {fo : Nat → Int64} {a1 : Int32} {r : Int32} {mb' : Nat → Int32} {gB' : Int32} {gI' : Int32} {gN' : Int32} {iN' : Int32} {dr' : Int32} {es' : Int64} {of' : Int64} {od' : Int32} {pl' : Int64} {hd' : Int64} {tk' : Nat → Int32} {kn' : Nat → Int32} {li' : Nat → Int32} {pa' : Nat → Int32} {ins' : Nat → Int32} {cm' : Int32} {fd' : Int32} {hr' : Int32} (hf : f_V_enter N NW bk sz wd mb gB gI gN iN dr es of od pl hd tk kn li pa ins cm fd hr a1 = some (0, r, mb', gB', gI', gN', iN', dr', es', of', od', pl', hd', tk', kn', li', pa', ins', cm', fd', hr')) : Met l y_A_enter wsW_enter { frames := 8, cells := 0, slots := 0, locals := 172 } (PcE (dC, dI) clAll [(cI, .int), (cL, .long)] ((wC h cI cL NW bk sz wd mb gB gI gN iN dr es of od pl hd tk kn li pa ins cm fd hr) ++ [(o, .inl (cL, 1, .inr (.inl fo)))]) hs (fun _ => True) [.ref (h 0), .int a1, .ref o]) (QUi (dC, dI) clAll [(cI, .int), (cL, .long)] ((wC h cI cL NW bk sz wd mb gB gI gN iN dr es of od pl hd tk kn li pa ins cm fd hr) ++ [(o, .inl (cL, 1, .inr (.inl fo)))]) ((wC h cI cL NW bk sz wd mb' gB' gI' gN' iN' dr' es' of' od' pl' hd' tk' kn' li' pa' ins' cm' fd' hr') ++ [(o, .inl (cL, 1, .inr (.inl (vp_updL fo 0 (Int32.toInt64 r)))))]) hs 0) 0 0 (va_A ((wC h cI cL NW bk sz wd mb gB gI gN iN dr es of od pl hd tk kn li pa ins cm fd hr) ++ [(o, .inl (cL, 1, .inr (.inl fo)))]) hs) := by
  refine mH (cc := b_A_enter) (maxL := 4) (own := R_A) (by decide) rfl (Nat.le_of_ble_eq_true rfl) rfl ?_
  intro p e s m args below meth c Q hx hb hml hts hown htab hsz A hAe hA hK hP hD hS hEx hret ls hl
  have htb : ∀ w ∈ TB, w.before args s = true := fun w h => hts w (List.mem_cons_of_mem _ h)
  have hl : lv_has ls 4 [(0, .ref (h 0)), (1, .int a1), (2, .ref o)] := hl
  refine lv_aload_n hx hb d_A_enter_0 rfl (lv_at hl 2 rfl) ?_
  refine lv_iconst (v := 0) hx hb d_A_enter_1 (by decide) ?_
  refine lv_aload_n hx hb d_A_enter_2 rfl (lv_at hl 0 rfl) ?_
  refine lv_iload_n hx hb d_A_enter_3 rfl (lv_at hl 1 rfl) ?_
  refine lcVi (pre := []) (w := (wC h cI cL NW bk sz wd mb gB gI gN iN dr es of od pl hd tk kn li pa ins cm fd hr)) (w' := (wC h cI cL NW bk sz wd mb' gB' gI' gN' iN' dr' es' of' od' pl' hd' tk' kn' li' pa' ins' cm' fd' hr')) (post := [(o, .inl (cL, 1, .inr (.inl fo)))]) (As := [.int a1]) (rest := [.int 0, .ref o]) ⟨hx, hb, hml, hown, htb⟩ hK hP hD hS hA (fun hs => c0_V_enter hf) (cwV 1 htb (gV tw_747 tw_748 tw_749 tw_68 tw_750) rfl rfl rfl (by decide +kernel) ⟨Nat.le_of_ble_eq_true rfl, Nat.le_of_ble_eq_true rfl⟩) 0 4 rfl rfl rfl rfl rfl hl.1 (Nat.le_of_ble_eq_true rfl) d_A_enter_4 ⟨Nat.zero_le _, Nat.zero_le _⟩ (fun H locs hP hD hS => ?_)
  refine lv_i2l hx hb d_A_enter_7 rfl ?_
  refine va_last (i := 0) (x := (Int32.toInt64 r)) hx hb hK hP hD hS 12 1 rfl rfl (show ¬ ((0 : Int32) < 0 ∨ 1 ≤ (0 : Int32).toNatClampNeg) by decide) d_A_enter_8 (fun H locs hP hD hS => ?_)
  have hP : va_P (dC, dI) clAll ((wC h cI cL NW bk sz wd mb' gB' gI' gN' iN' dr' es' of' od' pl' hd' tk' kn' li' pa' ins' cm' fd' hr') ++ [(o, .inl (cL, 1, .inr (.inl (vp_updL fo 0 (Int32.toInt64 r)))))]) H := hP
  have hD : va_D A ((wC h cI cL NW bk sz wd mb' gB' gI' gN' iN' dr' es' of' od' pl' hd' tk' kn' li' pa' ins' cm' fd' hr') ++ [(o, .inl (cL, 1, .inr (.inl (vp_updL fo 0 (Int32.toInt64 r)))))]) := hD
  refine lv_goto (tgt := 21) hx hb d_A_enter_9 (by decide) ?_
  refine lv_iconst (v := 0) hx hb d_A_enter_21 (by decide) ?_
  exact hret _ _ _ _ hP hD hS d_A_enter_22

set_option maxHeartbeats 4000000 in
set_option maxRecDepth 100000 in
theorem h1_enter {l : Launch} {dC : Nat → ClassId} {dI : Nat → Nat → Nat} {N : Nat} {h : Nat → Nat} {cI : ClassId} {cL : ClassId} {NW : Nat} {bk : Int32} {sz : Int32} {wd : Nat → Int64} {mb : Nat → Int32} {gB : Int32} {gI : Int32} {gN : Int32} {iN : Int32} {dr : Int32} {es : Int64} {of : Int64} {od : Int32} {pl : Int64} {hd : Int64} {tk : Nat → Int32} {kn : Nat → Int32} {li : Nat → Int32} {pa : Nat → Int32} {ins : Nat → Int32} {cm : Int32} {fd : Int32} {hr : Int32} {hs o : Nat} {fo : Nat → Int64} {a1 : Int32} {r : Int32} {mb' : Nat → Int32} {gB' : Int32} {gI' : Int32} {gN' : Int32} {iN' : Int32} {dr' : Int32} {es' : Int64} {of' : Int64} {od' : Int32} {pl' : Int64} {hd' : Int64} {tk' : Nat → Int32} {kn' : Nat → Int32} {li' : Nat → Int32} {pa' : Nat → Int32} {ins' : Nat → Int32} {cm' : Int32} {fd' : Int32} {hr' : Int32} (hL : l.stackTraces = false) (hf : f_V_enter N NW bk sz wd mb gB gI gN iN dr es of od pl hd tk kn li pa ins cm fd hr a1 = some (1, r, mb', gB', gI', gN', iN', dr', es', of', od', pl', hd', tk', kn', li', pa', ins', cm', fd', hr')) : Met l y_A_enter wsW_enter { frames := 8, cells := 1, slots := 6, locals := 172 } (PcE (dC, dI) clAll [(cI, .int), (cL, .long)] ((wC h cI cL NW bk sz wd mb gB gI gN iN dr es of od pl hd tk kn li pa ins cm fd hr) ++ [(o, .inl (cL, 1, .inr (.inl fo)))]) hs (fun U => ZU (va_A ((wC h cI cL NW bk sz wd mb gB gI gN iN dr es of od pl hd tk kn li pa ins cm fd hr) ++ [(o, .inl (cL, 1, .inr (.inl fo)))]) hs) U U.heap ∧ StrU R_V strsV U ∧ NcU U) [.ref (h 0), .int a1, .ref o]) (QUi (dC, dI) clAll [(cI, .int), (cL, .long)] ((wC h cI cL NW bk sz wd mb gB gI gN iN dr es of od pl hd tk kn li pa ins cm fd hr) ++ [(o, .inl (cL, 1, .inr (.inl fo)))]) ((wC h cI cL NW bk sz wd mb' gB' gI' gN' iN' dr' es' of' od' pl' hd' tk' kn' li' pa' ins' cm' fd' hr') ++ [(o, .inl (cL, 1, .inr (.inl fo)))]) hs 1) 1 6 (va_A ((wC h cI cL NW bk sz wd mb gB gI gN iN dr es of od pl hd tk kn li pa ins cm fd hr) ++ [(o, .inl (cL, 1, .inr (.inl fo)))]) hs) := by
  refine mH (cc := b_A_enter) (maxL := 4) (own := R_A) (by decide) rfl (Nat.le_of_ble_eq_true rfl) rfl ?_
  intro p e s m args below meth c Q hx hb hml hts hown htab hsz A hAe hA hK hP hD hS hEx hret ls hl
  have htb : ∀ w ∈ TB, w.before args s = true := fun w h => hts w (List.mem_cons_of_mem _ h)
  have hl : lv_has ls 4 [(0, .ref (h 0)), (1, .int a1), (2, .ref o)] := hl
  obtain ⟨hZ, hSt, hNc⟩ := hEx
  have hZ : ZU A s s.heap := by rw [hAe]; exact hZ
  refine lv_aload_n hx hb d_A_enter_0 rfl (lv_at hl 2 rfl) ?_
  refine lv_iconst (v := 0) hx hb d_A_enter_1 (by decide) ?_
  refine lv_aload_n hx hb d_A_enter_2 rfl (lv_at hl 0 rfl) ?_
  refine lv_iload_n hx hb d_A_enter_3 rfl (lv_at hl 1 rfl) ?_
  refine lcT (pre := []) (w := (wC h cI cL NW bk sz wd mb gB gI gN iN dr es of od pl hd tk kn li pa ins cm fd hr)) (w' := (wC h cI cL NW bk sz wd mb' gB' gI' gN' iN' dr' es' of' od' pl' hd' tk' kn' li' pa' ins' cm' fd' hr')) (post := [(o, .inl (cL, 1, .inr (.inl fo)))]) (As := [.int a1]) (rest := [.int 0, .ref o]) ⟨hx, hb, hml, hown, htb⟩ hK hP hD hS hA hZ hSt (fun hs => cT_V_enter (tag := 1) hL (by decide) hf) (cwV 1 htb (gV tw_747 tw_748 tw_749 tw_68 tw_750) rfl rfl rfl (by decide +kernel) ⟨Nat.le_of_ble_eq_true rfl, Nat.le_of_ble_eq_true rfl⟩) 0 4 rfl rfl rfl rfl rfl hl.1 (Nat.le_of_ble_eq_true rfl) d_A_enter_4 ⟨Nat.le_of_ble_eq_true rfl, Nat.le_of_ble_eq_true rfl⟩ (fun H locs q9 ce hP hD hS he hv hcl => ?_)
  refine tw_catch (name := "java/lang/IllegalStateException") hown [] ⟨0, 9, 12, 13⟩ [⟨0, 9, 15, 19⟩, ⟨0, 9, 18, 25⟩] (htab.trans rfl) (fun z hz => by cases hz) (by decide) (by decide) (htb _ tw_586) (hSt.2 _ (List.mem_of_getElem? (i := 0) rfl)) he hv hcl ?_
  refine lv_astore_n (lv' := [(3, .ref q9), (0, .ref (h 0)), (1, .int a1), (2, .ref o)]) hx hb d_A_enter_12 rfl hl (by decide) rfl (fun ls hl => ?_)
  refine lv_iconst (v := 1) hx hb d_A_enter_13 (by decide) ?_
  exact hret _ _ _ _ hP hD hS d_A_enter_14

set_option maxHeartbeats 4000000 in
set_option maxRecDepth 100000 in
theorem h2_enter {l : Launch} {dC : Nat → ClassId} {dI : Nat → Nat → Nat} {N : Nat} {h : Nat → Nat} {cI : ClassId} {cL : ClassId} {NW : Nat} {bk : Int32} {sz : Int32} {wd : Nat → Int64} {mb : Nat → Int32} {gB : Int32} {gI : Int32} {gN : Int32} {iN : Int32} {dr : Int32} {es : Int64} {of : Int64} {od : Int32} {pl : Int64} {hd : Int64} {tk : Nat → Int32} {kn : Nat → Int32} {li : Nat → Int32} {pa : Nat → Int32} {ins : Nat → Int32} {cm : Int32} {fd : Int32} {hr : Int32} {hs o : Nat} {fo : Nat → Int64} {a1 : Int32} {r : Int32} {mb' : Nat → Int32} {gB' : Int32} {gI' : Int32} {gN' : Int32} {iN' : Int32} {dr' : Int32} {es' : Int64} {of' : Int64} {od' : Int32} {pl' : Int64} {hd' : Int64} {tk' : Nat → Int32} {kn' : Nat → Int32} {li' : Nat → Int32} {pa' : Nat → Int32} {ins' : Nat → Int32} {cm' : Int32} {fd' : Int32} {hr' : Int32} (hL : l.stackTraces = false) (hf : f_V_enter N NW bk sz wd mb gB gI gN iN dr es of od pl hd tk kn li pa ins cm fd hr a1 = some (2, r, mb', gB', gI', gN', iN', dr', es', of', od', pl', hd', tk', kn', li', pa', ins', cm', fd', hr')) : Met l y_A_enter wsW_enter { frames := 8, cells := 1, slots := 6, locals := 172 } (PcE (dC, dI) clAll [(cI, .int), (cL, .long)] ((wC h cI cL NW bk sz wd mb gB gI gN iN dr es of od pl hd tk kn li pa ins cm fd hr) ++ [(o, .inl (cL, 1, .inr (.inl fo)))]) hs (fun U => ZU (va_A ((wC h cI cL NW bk sz wd mb gB gI gN iN dr es of od pl hd tk kn li pa ins cm fd hr) ++ [(o, .inl (cL, 1, .inr (.inl fo)))]) hs) U U.heap ∧ StrU R_V strsV U ∧ NcU U) [.ref (h 0), .int a1, .ref o]) (QUi (dC, dI) clAll [(cI, .int), (cL, .long)] ((wC h cI cL NW bk sz wd mb gB gI gN iN dr es of od pl hd tk kn li pa ins cm fd hr) ++ [(o, .inl (cL, 1, .inr (.inl fo)))]) ((wC h cI cL NW bk sz wd mb' gB' gI' gN' iN' dr' es' of' od' pl' hd' tk' kn' li' pa' ins' cm' fd' hr') ++ [(o, .inl (cL, 1, .inr (.inl fo)))]) hs 2) 1 6 (va_A ((wC h cI cL NW bk sz wd mb gB gI gN iN dr es of od pl hd tk kn li pa ins cm fd hr) ++ [(o, .inl (cL, 1, .inr (.inl fo)))]) hs) := by
  refine mH (cc := b_A_enter) (maxL := 4) (own := R_A) (by decide) rfl (Nat.le_of_ble_eq_true rfl) rfl ?_
  intro p e s m args below meth c Q hx hb hml hts hown htab hsz A hAe hA hK hP hD hS hEx hret ls hl
  have htb : ∀ w ∈ TB, w.before args s = true := fun w h => hts w (List.mem_cons_of_mem _ h)
  have hl : lv_has ls 4 [(0, .ref (h 0)), (1, .int a1), (2, .ref o)] := hl
  obtain ⟨hZ, hSt, hNc⟩ := hEx
  have hZ : ZU A s s.heap := by rw [hAe]; exact hZ
  refine lv_aload_n hx hb d_A_enter_0 rfl (lv_at hl 2 rfl) ?_
  refine lv_iconst (v := 0) hx hb d_A_enter_1 (by decide) ?_
  refine lv_aload_n hx hb d_A_enter_2 rfl (lv_at hl 0 rfl) ?_
  refine lv_iload_n hx hb d_A_enter_3 rfl (lv_at hl 1 rfl) ?_
  refine lcT (pre := []) (w := (wC h cI cL NW bk sz wd mb gB gI gN iN dr es of od pl hd tk kn li pa ins cm fd hr)) (w' := (wC h cI cL NW bk sz wd mb' gB' gI' gN' iN' dr' es' of' od' pl' hd' tk' kn' li' pa' ins' cm' fd' hr')) (post := [(o, .inl (cL, 1, .inr (.inl fo)))]) (As := [.int a1]) (rest := [.int 0, .ref o]) ⟨hx, hb, hml, hown, htb⟩ hK hP hD hS hA hZ hSt (fun hs => cT_V_enter (tag := 2) hL (by decide) hf) (cwV 1 htb (gV tw_747 tw_748 tw_749 tw_68 tw_750) rfl rfl rfl (by decide +kernel) ⟨Nat.le_of_ble_eq_true rfl, Nat.le_of_ble_eq_true rfl⟩) 0 4 rfl rfl rfl rfl rfl hl.1 (Nat.le_of_ble_eq_true rfl) d_A_enter_4 ⟨Nat.le_of_ble_eq_true rfl, Nat.le_of_ble_eq_true rfl⟩ (fun H locs q9 ce hP hD hS he hv hcl => ?_)
  refine tw_catch (name := "java/lang/IndexOutOfBoundsException") hown [⟨0, 9, 12, 13⟩] ⟨0, 9, 15, 19⟩ [⟨0, 9, 18, 25⟩] (htab.trans rfl) (fun z hz => by rcases List.mem_singleton.mp hz with rfl; exact ⟨by decide, "java/lang/IllegalStateException", htb _ tw_586, hNc.1⟩) (by decide) (by decide) (htb _ tw_671) (hSt.2 _ (List.mem_of_getElem? (i := 1) rfl)) he hv hcl ?_
  refine lv_astore_n (lv' := [(3, .ref q9), (0, .ref (h 0)), (1, .int a1), (2, .ref o)]) hx hb d_A_enter_15 rfl hl (by decide) rfl (fun ls hl => ?_)
  refine lv_iconst (v := 2) hx hb d_A_enter_16 (by decide) ?_
  exact hret _ _ _ _ hP hD hS d_A_enter_17

set_option maxHeartbeats 4000000 in
set_option maxRecDepth 100000 in
theorem h3_enter {l : Launch} {dC : Nat → ClassId} {dI : Nat → Nat → Nat} {N : Nat} {h : Nat → Nat} {cI : ClassId} {cL : ClassId} {NW : Nat} {bk : Int32} {sz : Int32} {wd : Nat → Int64} {mb : Nat → Int32} {gB : Int32} {gI : Int32} {gN : Int32} {iN : Int32} {dr : Int32} {es : Int64} {of : Int64} {od : Int32} {pl : Int64} {hd : Int64} {tk : Nat → Int32} {kn : Nat → Int32} {li : Nat → Int32} {pa : Nat → Int32} {ins : Nat → Int32} {cm : Int32} {fd : Int32} {hr : Int32} {hs o : Nat} {fo : Nat → Int64} {a1 : Int32} {r : Int32} {mb' : Nat → Int32} {gB' : Int32} {gI' : Int32} {gN' : Int32} {iN' : Int32} {dr' : Int32} {es' : Int64} {of' : Int64} {od' : Int32} {pl' : Int64} {hd' : Int64} {tk' : Nat → Int32} {kn' : Nat → Int32} {li' : Nat → Int32} {pa' : Nat → Int32} {ins' : Nat → Int32} {cm' : Int32} {fd' : Int32} {hr' : Int32} (hL : l.stackTraces = false) (hf : f_V_enter N NW bk sz wd mb gB gI gN iN dr es of od pl hd tk kn li pa ins cm fd hr a1 = some (3, r, mb', gB', gI', gN', iN', dr', es', of', od', pl', hd', tk', kn', li', pa', ins', cm', fd', hr')) : Met l y_A_enter wsW_enter { frames := 8, cells := 1, slots := 6, locals := 172 } (PcE (dC, dI) clAll [(cI, .int), (cL, .long)] ((wC h cI cL NW bk sz wd mb gB gI gN iN dr es of od pl hd tk kn li pa ins cm fd hr) ++ [(o, .inl (cL, 1, .inr (.inl fo)))]) hs (fun U => ZU (va_A ((wC h cI cL NW bk sz wd mb gB gI gN iN dr es of od pl hd tk kn li pa ins cm fd hr) ++ [(o, .inl (cL, 1, .inr (.inl fo)))]) hs) U U.heap ∧ StrU R_V strsV U ∧ NcU U) [.ref (h 0), .int a1, .ref o]) (QUi (dC, dI) clAll [(cI, .int), (cL, .long)] ((wC h cI cL NW bk sz wd mb gB gI gN iN dr es of od pl hd tk kn li pa ins cm fd hr) ++ [(o, .inl (cL, 1, .inr (.inl fo)))]) ((wC h cI cL NW bk sz wd mb' gB' gI' gN' iN' dr' es' of' od' pl' hd' tk' kn' li' pa' ins' cm' fd' hr') ++ [(o, .inl (cL, 1, .inr (.inl fo)))]) hs 3) 1 6 (va_A ((wC h cI cL NW bk sz wd mb gB gI gN iN dr es of od pl hd tk kn li pa ins cm fd hr) ++ [(o, .inl (cL, 1, .inr (.inl fo)))]) hs) := by
  refine mH (cc := b_A_enter) (maxL := 4) (own := R_A) (by decide) rfl (Nat.le_of_ble_eq_true rfl) rfl ?_
  intro p e s m args below meth c Q hx hb hml hts hown htab hsz A hAe hA hK hP hD hS hEx hret ls hl
  have htb : ∀ w ∈ TB, w.before args s = true := fun w h => hts w (List.mem_cons_of_mem _ h)
  have hl : lv_has ls 4 [(0, .ref (h 0)), (1, .int a1), (2, .ref o)] := hl
  obtain ⟨hZ, hSt, hNc⟩ := hEx
  have hZ : ZU A s s.heap := by rw [hAe]; exact hZ
  refine lv_aload_n hx hb d_A_enter_0 rfl (lv_at hl 2 rfl) ?_
  refine lv_iconst (v := 0) hx hb d_A_enter_1 (by decide) ?_
  refine lv_aload_n hx hb d_A_enter_2 rfl (lv_at hl 0 rfl) ?_
  refine lv_iload_n hx hb d_A_enter_3 rfl (lv_at hl 1 rfl) ?_
  refine lcT (pre := []) (w := (wC h cI cL NW bk sz wd mb gB gI gN iN dr es of od pl hd tk kn li pa ins cm fd hr)) (w' := (wC h cI cL NW bk sz wd mb' gB' gI' gN' iN' dr' es' of' od' pl' hd' tk' kn' li' pa' ins' cm' fd' hr')) (post := [(o, .inl (cL, 1, .inr (.inl fo)))]) (As := [.int a1]) (rest := [.int 0, .ref o]) ⟨hx, hb, hml, hown, htb⟩ hK hP hD hS hA hZ hSt (fun hs => cT_V_enter (tag := 3) hL (by decide) hf) (cwV 1 htb (gV tw_747 tw_748 tw_749 tw_68 tw_750) rfl rfl rfl (by decide +kernel) ⟨Nat.le_of_ble_eq_true rfl, Nat.le_of_ble_eq_true rfl⟩) 0 4 rfl rfl rfl rfl rfl hl.1 (Nat.le_of_ble_eq_true rfl) d_A_enter_4 ⟨Nat.le_of_ble_eq_true rfl, Nat.le_of_ble_eq_true rfl⟩ (fun H locs q9 ce hP hD hS he hv hcl => ?_)
  refine tw_catch (name := "java/lang/IllegalArgumentException") hown [⟨0, 9, 12, 13⟩, ⟨0, 9, 15, 19⟩] ⟨0, 9, 18, 25⟩ [] (htab.trans rfl) (fun z hz => by
      rcases List.mem_cons.mp hz with rfl | hz
      · exact ⟨by decide, "java/lang/IllegalStateException", htb _ tw_586, hNc.2.1⟩
      · rcases List.mem_singleton.mp hz with rfl; exact ⟨by decide, "java/lang/IndexOutOfBoundsException", htb _ tw_671, hNc.2.2⟩) (by decide) (by decide) (htb _ tw_705) (hSt.2 _ (List.mem_of_getElem? (i := 2) rfl)) he hv hcl ?_
  refine lv_astore_n (lv' := [(3, .ref q9), (0, .ref (h 0)), (1, .int a1), (2, .ref o)]) hx hb d_A_enter_18 rfl hl (by decide) rfl (fun ls hl => ?_)
  refine lv_iconst (v := 3) hx hb d_A_enter_19 (by decide) ?_
  exact hret _ _ _ _ hP hD hS d_A_enter_20

abbrev wsW_up : List Cond := Cond.codeWith y_A_up b_A_up 3 (some .int) [(0, 15, 18, 13)] :: TB
set_option maxRecDepth 100000 in
theorem twW_up : Cond.codeWith y_A_up b_A_up 3 (some .int) [(0, 15, 18, 13)] ∈ TB := inTB 754 rfl rfl
set_option maxHeartbeats 4000000 in
set_option maxRecDepth 100000 in
theorem h0_up {l : Launch} {dC : Nat → ClassId} {dI : Nat → Nat → Nat} {N : Nat} {h : Nat → Nat} {cI : ClassId} {cL : ClassId} {NW : Nat} {bk : Int32} {sz : Int32} {wd : Nat → Int64} {mb : Nat → Int32} {gB : Int32} {gI : Int32} {gN : Int32} {iN : Int32} {dr : Int32} {es : Int64} {of : Int64} {od : Int32} {pl : Int64} {hd : Int64} {tk : Nat → Int32} {kn : Nat → Int32} {li : Nat → Int32} {pa : Nat → Int32} {ins : Nat → Int32} {cm : Int32} {fd : Int32} {hr : Int32} {hs o : Nat} {fo : Nat → Int64} {r : Int32} {mb' : Nat → Int32} {gB' : Int32} {gI' : Int32} {gN' : Int32} {iN' : Int32} {dr' : Int32} {es' : Int64} {of' : Int64} {od' : Int32} {pl' : Int64} {hd' : Int64} {tk' : Nat → Int32} {kn' : Nat → Int32} {li' : Nat → Int32} {pa' : Nat → Int32} {ins' : Nat → Int32} {cm' : Int32} {fd' : Int32} {hr' : Int32} (hf : f_V_up N NW bk sz wd mb gB gI gN iN dr es of od pl hd tk kn li pa ins cm fd hr = some (0, r, mb', gB', gI', gN', iN', dr', es', of', od', pl', hd', tk', kn', li', pa', ins', cm', fd', hr')) : Met l y_A_up wsW_up { frames := 7, cells := 0, slots := 0, locals := 170 } (PcE (dC, dI) clAll [(cI, .int), (cL, .long)] ((wC h cI cL NW bk sz wd mb gB gI gN iN dr es of od pl hd tk kn li pa ins cm fd hr) ++ [(o, .inl (cL, 1, .inr (.inl fo)))]) hs (fun _ => True) [.ref (h 0), .ref o]) (QUi (dC, dI) clAll [(cI, .int), (cL, .long)] ((wC h cI cL NW bk sz wd mb gB gI gN iN dr es of od pl hd tk kn li pa ins cm fd hr) ++ [(o, .inl (cL, 1, .inr (.inl fo)))]) ((wC h cI cL NW bk sz wd mb' gB' gI' gN' iN' dr' es' of' od' pl' hd' tk' kn' li' pa' ins' cm' fd' hr') ++ [(o, .inl (cL, 1, .inr (.inl (vp_updL fo 0 (if r = 0 then 0 else 1)))))]) hs 0) 0 0 (va_A ((wC h cI cL NW bk sz wd mb gB gI gN iN dr es of od pl hd tk kn li pa ins cm fd hr) ++ [(o, .inl (cL, 1, .inr (.inl fo)))]) hs) := by
  refine mH (cc := b_A_up) (maxL := 3) (own := R_A) (by decide) rfl (Nat.le_of_ble_eq_true rfl) rfl ?_
  intro p e s m args below meth c Q hx hb hml hts hown htab hsz A hAe hA hK hP hD hS hEx hret ls hl
  have htb : ∀ w ∈ TB, w.before args s = true := fun w h => hts w (List.mem_cons_of_mem _ h)
  have hl : lv_has ls 3 [(0, .ref (h 0)), (1, .ref o)] := hl
  refine lv_aload_n hx hb d_A_up_0 rfl (lv_at hl 1 rfl) ?_
  refine lv_iconst (v := 0) hx hb d_A_up_1 (by decide) ?_
  refine lv_aload_n hx hb d_A_up_2 rfl (lv_at hl 0 rfl) ?_
  refine lcVi (pre := []) (w := (wC h cI cL NW bk sz wd mb gB gI gN iN dr es of od pl hd tk kn li pa ins cm fd hr)) (w' := (wC h cI cL NW bk sz wd mb' gB' gI' gN' iN' dr' es' of' od' pl' hd' tk' kn' li' pa' ins' cm' fd' hr')) (post := [(o, .inl (cL, 1, .inr (.inl fo)))]) (As := []) (rest := [.int 0, .ref o]) ⟨hx, hb, hml, hown, htb⟩ hK hP hD hS hA (fun hs => c0_V_up hf) (cwV 0 htb (gV tw_755 tw_756 tw_757 tw_68 tw_758) rfl rfl rfl (by decide +kernel) ⟨Nat.le_of_ble_eq_true rfl, Nat.le_of_ble_eq_true rfl⟩) 0 4 rfl rfl rfl rfl rfl hl.1 (Nat.le_of_ble_eq_true rfl) d_A_up_3 ⟨Nat.zero_le _, Nat.zero_le _⟩ (fun H locs hP hD hS => ?_)
  refine lv_if_eq (tgt := 13) hx hb d_A_up_6 (by decide) (fun c1 => ?_) (fun c1 => ?_)
  · rw [if_pos c1] at hret
    refine lv_lconst (v := 0) hx hb d_A_up_13 (by decide) ?_
    refine va_last (i := 0) (x := 0) hx hb hK hP hD hS 12 1 rfl rfl (show ¬ ((0 : Int32) < 0 ∨ 1 ≤ (0 : Int32).toNatClampNeg) by decide) d_A_up_14 (fun H locs hP hD hS => ?_)
    have hP : va_P (dC, dI) clAll ((wC h cI cL NW bk sz wd mb' gB' gI' gN' iN' dr' es' of' od' pl' hd' tk' kn' li' pa' ins' cm' fd' hr') ++ [(o, .inl (cL, 1, .inr (.inl (vp_updL fo 0 0))))]) H := hP
    have hD : va_D A ((wC h cI cL NW bk sz wd mb' gB' gI' gN' iN' dr' es' of' od' pl' hd' tk' kn' li' pa' ins' cm' fd' hr') ++ [(o, .inl (cL, 1, .inr (.inl (vp_updL fo 0 0))))]) := hD
    refine lv_goto (tgt := 21) hx hb d_A_up_15 (by decide) ?_
    refine lv_iconst (v := 0) hx hb d_A_up_21 (by decide) ?_
    exact hret _ _ _ _ hP hD hS d_A_up_22
  · rw [if_neg c1] at hret
    refine lv_lconst (v := 1) hx hb d_A_up_9 (by decide) ?_
    refine lv_goto (tgt := 14) hx hb d_A_up_10 (by decide) ?_
    refine va_last (i := 0) (x := 1) hx hb hK hP hD hS 12 1 rfl rfl (show ¬ ((0 : Int32) < 0 ∨ 1 ≤ (0 : Int32).toNatClampNeg) by decide) d_A_up_14 (fun H locs hP hD hS => ?_)
    have hP : va_P (dC, dI) clAll ((wC h cI cL NW bk sz wd mb' gB' gI' gN' iN' dr' es' of' od' pl' hd' tk' kn' li' pa' ins' cm' fd' hr') ++ [(o, .inl (cL, 1, .inr (.inl (vp_updL fo 0 1))))]) H := hP
    have hD : va_D A ((wC h cI cL NW bk sz wd mb' gB' gI' gN' iN' dr' es' of' od' pl' hd' tk' kn' li' pa' ins' cm' fd' hr') ++ [(o, .inl (cL, 1, .inr (.inl (vp_updL fo 0 1))))]) := hD
    refine lv_goto (tgt := 21) hx hb d_A_up_15 (by decide) ?_
    refine lv_iconst (v := 0) hx hb d_A_up_21 (by decide) ?_
    exact hret _ _ _ _ hP hD hS d_A_up_22

set_option maxHeartbeats 4000000 in
set_option maxRecDepth 100000 in
theorem h1_up {l : Launch} {dC : Nat → ClassId} {dI : Nat → Nat → Nat} {N : Nat} {h : Nat → Nat} {cI : ClassId} {cL : ClassId} {NW : Nat} {bk : Int32} {sz : Int32} {wd : Nat → Int64} {mb : Nat → Int32} {gB : Int32} {gI : Int32} {gN : Int32} {iN : Int32} {dr : Int32} {es : Int64} {of : Int64} {od : Int32} {pl : Int64} {hd : Int64} {tk : Nat → Int32} {kn : Nat → Int32} {li : Nat → Int32} {pa : Nat → Int32} {ins : Nat → Int32} {cm : Int32} {fd : Int32} {hr : Int32} {hs o : Nat} {fo : Nat → Int64} {r : Int32} {mb' : Nat → Int32} {gB' : Int32} {gI' : Int32} {gN' : Int32} {iN' : Int32} {dr' : Int32} {es' : Int64} {of' : Int64} {od' : Int32} {pl' : Int64} {hd' : Int64} {tk' : Nat → Int32} {kn' : Nat → Int32} {li' : Nat → Int32} {pa' : Nat → Int32} {ins' : Nat → Int32} {cm' : Int32} {fd' : Int32} {hr' : Int32} (hL : l.stackTraces = false) (hf : f_V_up N NW bk sz wd mb gB gI gN iN dr es of od pl hd tk kn li pa ins cm fd hr = some (1, r, mb', gB', gI', gN', iN', dr', es', of', od', pl', hd', tk', kn', li', pa', ins', cm', fd', hr')) : Met l y_A_up wsW_up { frames := 7, cells := 1, slots := 6, locals := 170 } (PcE (dC, dI) clAll [(cI, .int), (cL, .long)] ((wC h cI cL NW bk sz wd mb gB gI gN iN dr es of od pl hd tk kn li pa ins cm fd hr) ++ [(o, .inl (cL, 1, .inr (.inl fo)))]) hs (fun U => ZU (va_A ((wC h cI cL NW bk sz wd mb gB gI gN iN dr es of od pl hd tk kn li pa ins cm fd hr) ++ [(o, .inl (cL, 1, .inr (.inl fo)))]) hs) U U.heap ∧ StrU R_V strsV U ∧ NcU U) [.ref (h 0), .ref o]) (QUi (dC, dI) clAll [(cI, .int), (cL, .long)] ((wC h cI cL NW bk sz wd mb gB gI gN iN dr es of od pl hd tk kn li pa ins cm fd hr) ++ [(o, .inl (cL, 1, .inr (.inl fo)))]) ((wC h cI cL NW bk sz wd mb' gB' gI' gN' iN' dr' es' of' od' pl' hd' tk' kn' li' pa' ins' cm' fd' hr') ++ [(o, .inl (cL, 1, .inr (.inl fo)))]) hs 1) 1 6 (va_A ((wC h cI cL NW bk sz wd mb gB gI gN iN dr es of od pl hd tk kn li pa ins cm fd hr) ++ [(o, .inl (cL, 1, .inr (.inl fo)))]) hs) := by
  refine mH (cc := b_A_up) (maxL := 3) (own := R_A) (by decide) rfl (Nat.le_of_ble_eq_true rfl) rfl ?_
  intro p e s m args below meth c Q hx hb hml hts hown htab hsz A hAe hA hK hP hD hS hEx hret ls hl
  have htb : ∀ w ∈ TB, w.before args s = true := fun w h => hts w (List.mem_cons_of_mem _ h)
  have hl : lv_has ls 3 [(0, .ref (h 0)), (1, .ref o)] := hl
  obtain ⟨hZ, hSt, hNc⟩ := hEx
  have hZ : ZU A s s.heap := by rw [hAe]; exact hZ
  refine lv_aload_n hx hb d_A_up_0 rfl (lv_at hl 1 rfl) ?_
  refine lv_iconst (v := 0) hx hb d_A_up_1 (by decide) ?_
  refine lv_aload_n hx hb d_A_up_2 rfl (lv_at hl 0 rfl) ?_
  refine lcT (pre := []) (w := (wC h cI cL NW bk sz wd mb gB gI gN iN dr es of od pl hd tk kn li pa ins cm fd hr)) (w' := (wC h cI cL NW bk sz wd mb' gB' gI' gN' iN' dr' es' of' od' pl' hd' tk' kn' li' pa' ins' cm' fd' hr')) (post := [(o, .inl (cL, 1, .inr (.inl fo)))]) (As := []) (rest := [.int 0, .ref o]) ⟨hx, hb, hml, hown, htb⟩ hK hP hD hS hA hZ hSt (fun hs => cT_V_up (tag := 1) hL (by decide) hf) (cwV 0 htb (gV tw_755 tw_756 tw_757 tw_68 tw_758) rfl rfl rfl (by decide +kernel) ⟨Nat.le_of_ble_eq_true rfl, Nat.le_of_ble_eq_true rfl⟩) 0 4 rfl rfl rfl rfl rfl hl.1 (Nat.le_of_ble_eq_true rfl) d_A_up_3 ⟨Nat.le_of_ble_eq_true rfl, Nat.le_of_ble_eq_true rfl⟩ (fun H locs q9 ce hP hD hS he hv hcl => ?_)
  refine tw_catch (name := "java/lang/IllegalStateException") hown [] ⟨0, 15, 18, 13⟩ [] (htab.trans rfl) (fun z hz => by cases hz) (by decide) (by decide) (htb _ tw_586) (hSt.2 _ (List.mem_of_getElem? (i := 0) rfl)) he hv hcl ?_
  refine lv_astore_n (lv' := [(2, .ref q9), (0, .ref (h 0)), (1, .ref o)]) hx hb d_A_up_18 rfl hl (by decide) rfl (fun ls hl => ?_)
  refine lv_iconst (v := 1) hx hb d_A_up_19 (by decide) ?_
  exact hret _ _ _ _ hP hD hS d_A_up_20
