/-! calls out of the law: its own small methods -/
theorem gW {w0 : Cond} (h : w0 ∈ TB) : GoodIn TB (w0 :: TB) := fun w hw => by
  have h1 : w ∈ TB := by
    rcases List.mem_cons.mp hw with e | e
    · subst e; exact h
    · exact e
  exact ⟨h1, goodTB h1⟩
section LH
variable {cells slots : Nat} {p : Program} {l : Launch} {e : Env} {R : Room} {s : State} {m : MethodId} {args : Array Value} {below : List Frame} {meth : Method} {c : Code} {H : Heap} {locs : List Loc} {Q : State → Prop}
variable {cc : ByteArray} {nL : Nat} {own : String} {index : Nat} {y : MethodName} {bytes : ByteArray} {maxL : Nat} {ws : List Cond} {rm : Room} {n mc ms : Nat} {hh : List (Nat × Nat × Nat × Nat)}
variable {D : va_G} {cl : List vw_C} {tys : List (ClassId × FieldType)} {pre w w' post : va_W} {As rest st0 : List Value} {A0 : Nat → Prop} {pc : Nat} {ls : Array Slot} {Ex : Nat → State → Prop} {r : Int32}
/-- a static method with a table, that answers an int -/
theorem lcH (S : CallFix p m c cc nL s args TB own) (hK : va_K D cl tys s) (hP : va_P D cl (pre ++ (w ++ post)) H) (hD : va_D A0 (pre ++ (w ++ post))) (hS : va_S A0 s.heap H locs) (hA : ∀ q, s.heap.size ≤ q → A0 q)
    (hM : ∀ hs, Met l y ws rm (PcE D cl tys w hs (Ex hs) As) (QUi D cl tys w w' hs r) mc ms (va_A w hs)) (hEx : ∀ U : State, U.heap = H → s.WarmedH U.vm → Ex H.size U) (hbl : ∀ (hs : Nat) (a : Array Value) (U : State) (g : JFrame) (mk : MethodId), Ex hs U → Ex hs (U.calling g mk a))
    (hw : ws = Cond.codeWith y bytes maxL (some .int) hh :: TB) (hcw : Cond.codeWith y bytes maxL (some .int) hh ∈ TB) (hlk : Cond.methodLink own index y ∈ TB) (hstc : Cond.static y ∈ TB) (hini : Cond.initialized y.cls ∈ TB) (hrc : rm.cells = mc) (hrs : rm.slots = ms)
    (hd : (y.cls ≠ "java/lang/invoke/MethodHandle" ∧ y.cls ≠ "java/lang/invoke/VarHandle") ∧ (parseMethodDescriptor y.desc).map (fun d => d.parameters.length) = some n) (hR : rm.frames + 1 ≤ R.frames ∧ 8 + (maxL + 11) + rm.locals ≤ R.locals)
    (hst : st0 = As.reverse ++ rest) (hn : As.length = n) (hsz : ls.size = nL) (hW : (rest.map fun v => v.category).sum ≤ 8) (hdg : decode cc pc = .ok (.invokestatic index, 3)) (hrm : cells + mc ≤ R.cells ∧ slots + ms ≤ R.slots)
    (kk : ∀ (H1 : Heap) (locs1 : List Loc), va_P D cl (pre ++ (w' ++ post)) H1 → va_D A0 (pre ++ (w' ++ post)) → va_S A0 s.heap H1 locs1 → W p l e R s m args below meth c H1 locs1 (cells + mc) (slots + ms) Q (F0 m (pc + 3) ls (.int r :: rest))) :
    W p l e R s m args below meth c H locs cells slots Q (F0 m pc ls st0) := by
  subst hst
  obtain ⟨hx, hb, hml, ho, htb⟩ := S
  have hFc := fr_free hD hS hA
  have hPw := pa_l (pa_r hP)
  have hDw := da_l (da_r hD)
  have hG : GoodIn TB ws := by rw [hw]; exact gW hcw
  have hblind : FrameBlind (PcE D cl tys w H.size (Ex H.size) As) := fun a U g mk q => by
    obtain ⟨q0, q1, qP, qK, qD, qE⟩ := q
    exact ⟨q0, q1, qP, va_K.moved (u := U) (U := U.calling g mk a) (Vm.Alike.refl U.vm) qK, qD, hbl _ _ _ _ _ qE⟩
  have hBk : Back l R p e below s args y 3 8 (PreOf R mc ms (PcE D cl tys w H.size (Ex H.size) As)) (PostOf (QUi D cl tys w w' H.size r) mc ms (va_A w H.size)) :=
    va_backW (hh := hh) (bytes := bytes) (maxL := maxL) (ret := some .int) (hM H.size) hblind hrc hrs hR.1 hR.2 (pay_in htb hG) (by rw [hw]; exact List.mem_cons_self) (fun a' U hWm => word_at hWm (Or.inl rfl) (htb _ hini))
  have hrun : va_Run p l e R s m args below meth c H locs cells slots mc ms (F0 m pc ls (As.reverse ++ rest)) rest (QUi D cl tys w w' H.size r As.toArray) (va_A w H.size) := by
    intro T hT X
    obtain ⟨mk, methM, cM, hnamed, hmethM, -, -, -, -, -, -, hsigM⟩ := Cond.codeWith_spec (htb _ hcw)
    have hstatic : methM.isStatic = true := Cond.static_spec hnamed hmethM (htb _ hstc)
    obtain ⟨kP, hkP, -⟩ := className_of_methodNamed hnamed
    have hkPi : kP.init = .initialized := Cond.initialized_spec (findClass_of_methodNamed hnamed) hkP (htb _ hini)
    have hlen : As.length = methM.sig.parameters.length := by
      have h2 := hd.2
      rw [hsigM] at h2
      exact hn.trans (Option.some.inj h2).symm
    obtain ⟨vm1, X1, hstep⟩ := X.invokestatic hx ho (htb _ hlk) hnamed hmethM hstatic hkP hkPi hd.1 (g := F0 m pc ls (As.reverse ++ rest)) rfl (argsL := As) (rest := rest) hlen rfl (by rw [hb]; exact hdg)
    obtain ⟨v, ⟨U', l2, c2, s2⟩, X', ⟨g', mk', t, L, e1, e2, hq, h1, hL, h2, h3⟩, hsteps⟩ := hBk m meth c ⟨T.setVm vm1, locs, cells, slots⟩ (F0 m pc ls rest) (.invokestatic index) mk As.toArray X1 rfl (hsz.trans hml.symm) (by rw [hb]; exact hdg) (lv_room hW) (X1.named hnamed)
      ⟨hrm.1, hrm.2, rfl, by show T.heap.size = H.size; rw [hT], by show va_P D cl w T.heap; rw [hT]; exact hPw, va_K.moved (u := s) (U := T.setVm vm1) X1.warmed.alike hK, hDw.weaken (fun _ _ _ _ => trivial), hEx (T.setVm vm1) hT X1.warmed⟩
    dsimp only [Pt.U, Pt.locs, Pt.cells, Pt.slots] at X' e1 e2 h1 h2 h3 hsteps
    subst h1; subst h2; subst h3
    exact ⟨v, (T.setVm vm1).calling g' mk' As.toArray, t, U', L, hT, X', hL, e1, e2, hq, fun target h => hstep _ fun acts => by rw [doInvoke_state]; exact hsteps.trans h⟩
  refine va_calli hrun hS (fun q _ h => hFc q h) hFc (fun r1 u t H1 locs1 ht hvm hwr hB hz1 hk1 hS1 => ?_)
  obtain ⟨hP1, hK1, hD1⟩ := hB
  rw [ht] at hP1
  obtain ⟨hP2, hD2⟩ := fr_join hP hD hk1 hFc hP1 hD1
  rw [hwr]
  exact kk H1 locs1 hP2 hD2 hS1
end LH
set_option maxHeartbeats 4000000 in
/-- cell(script, 0) -/
theorem c_A_cell {l : Launch} {b L : Nat} {xs : Nat → Int32} (hL : L < 2147483648) : Met l y_A_cell ws_A_cell { frames := 0, cells := 0, slots := 0, locals := 0 } (va_Pc [.ref b, .int 0] (fun U => va_X b L xs U U.heap ∧ b < U.heap.size)) (va_Qi (fun (x : Int32) (_ : Unit) => x = if 0 < L then xs 0 else 0) (fun _ _ => True) (fun _ => False)) 0 0 (fun _ => False) := by
  refine Met.ofW (cc := b_A_cell) (maxL := 2) (ret := some .int) (by decide) rfl ?_
  intro p e s m args below meth c s₁ B hml hv
  obtain ⟨rfl, hX, hbl⟩ := hv
  have hx := B.exec
  have hb := B.bytes
  have hr := B.returns
  have hlocks := B.notSynchronized
  have hS : va_S (fun _ => False) s.heap s.heap [] := va_S.rf
  have hl := lv_entry ([.ref b, .int 0]) (n := 2) (Nat.le_of_ble_eq_true rfl)
  rw [lg_entry_eq]
  generalize (lg_sl ([.ref b, .int 0]) ++ List.replicate (2 - (lg_sl ([.ref b, .int 0])).length) Slot.unset).toArray = ls at hl ⊢
  have hl : lv_has ls 2 [(0, .ref b), (1, .int 0)] := hl
  refine lv_iload_n hx hb d_A_cell_0 rfl (lv_at hl 1 rfl) ?_
  refine lv_aload_n hx hb d_A_cell_1 rfl (lv_at hl 0 rfl) ?_
  refine va_slen hx hb hX hbl (fun h => h) hS d_A_cell_2 ?_
  have hLi : (Int32.ofNat L).toInt = (L : Int) := Int32.toInt_ofNat_of_lt (by omega)
  refine lv_icmp_ge (tgt := 12) hx hb d_A_cell_3 (by decide) (fun c1 => ?_) (fun c1 => ?_)
  · have h0 : ¬ 0 < L := by
      rw [Int32.le_iff_toInt_le, hLi] at c1
      have : (L : Int) ≤ 0 := c1
      omega
    refine lv_iconst (v := 0) hx hb d_A_cell_12 (by decide) ?_
    exact W.iret hx hb hr (fun t ht hW => ⟨⟨0, (), rfl, by rw [if_neg h0], trivial⟩, hS.F ht⟩) hS.2.2 d_A_cell_13
  · have h0 : 0 < L := by
      rw [Int32.le_iff_toInt_le, hLi] at c1
      have : ¬ (L : Int) ≤ 0 := c1
      omega
    refine lv_aload_n hx hb d_A_cell_6 rfl (lv_at hl 0 rfl) ?_
    refine lv_iload_n hx hb d_A_cell_7 rfl (lv_at hl 1 rfl) ?_
    refine va_sld hx hb hX hbl (fun h => h) hS (i := 0) (fun h => by
      rcases h with h | h
      · exact absurd h (by decide)
      · have h2 : L ≤ 0 := h
        omega) d_A_cell_8 ?_
    refine lv_goto (tgt := 13) hx hb d_A_cell_9 (by decide) ?_
    exact W.iret hx hb hr (fun t ht hW => ⟨⟨_, (), rfl, by rw [if_pos h0]; rfl, trivial⟩, hS.F ht⟩) hS.2.2 d_A_cell_13
