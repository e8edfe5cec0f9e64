/-! methods that throw. A contract each for the runs that return (Met, as ever) and for those that throw (MetT) -/
def exn : Nat → String
  | 1 => "java/lang/IllegalStateException"
  | 2 => "java/lang/IndexOutOfBoundsException"
  | 3 => "java/lang/IllegalArgumentException"
  | _ => ""
section TH
variable {p : Program} {l : Launch} {e : Env} {R : Room} {s : State} {m : MethodId} {args : Array Value} {below : List Frame} {meth : Method} {c : Code} {T : State} {H : Heap} {locs : List Loc} {cells slots : Nat} {Q : State → Prop}
/-- this invocation as if it began here: with the heap as it is now, nothing written, nothing made -/
theorem anew (X : Stand p l e R s m args below meth c T locs cells slots) {R' : Room} (hf : R'.frames ≤ R.frames) (hl : R'.locals ≤ R.locals) (hc : cells + R'.cells ≤ R.cells) (hs : slots + R'.slots ≤ R.slots) :
    Stand p l e R' ((T.setVm s.vm).setFrames (.invoking m args :: below)) m args below meth c T [] 0 0 := by
  have htop : (T.setVm s.vm).topJava?.isSome := X.here.top
  have hcur : (T.setVm s.vm).cur < (T.setVm s.vm).threads.size := State.cur_lt_of_top htop
  have hF : ((T.setVm s.vm).setFrames (.invoking m args :: below)).frames = .invoking m args :: below := State.frames_setFrames _ hcur
  obtain ⟨g0, hg0⟩ := Option.isSome_iff_exists.mp htop
  obtain ⟨r, hr⟩ := State.topJava?_eq_some.mp hg0
  obtain ⟨th, hth, -⟩ := State.frames_cons hr
  have hloc : ((T.setVm s.vm).setFrames (.invoking m args :: below)).localsInUse = s.localsInUse :=
    (State.localsInUse_invoking hF (meth := meth) (c := c) X.method X.code).trans (State.localsInUse_invoking X.frames X.method X.code).symm
  have hlim : e.platform.stackLimits ((T.setVm s.vm).setFrames (.invoking m args :: below)).me = e.platform.stackLimits s.me := by
    rw [State.stackLimits_setFrames]; exact X.limits
  have hbytes : ((T.setVm s.vm).setFrames (.invoking m args :: below)).me.stackBytes = s.me.stackBytes := by
    rw [State.stackBytes_setFrames]; exact X.bytes
  have hdrop : T.heap.toList.drop T.heap.size = [] := List.drop_eq_nil_of_le (Nat.le_of_eq Array.length_toList)
  refine
    { admits := X.admits, cas := X.cas, clock := X.clock, frames := hF, room := ?_, hears := X.hears, method := X.method, code := X.code, here := X.here, tail := X.tail, warmed := X.warmed
      limits := by rw [State.stackLimits_setFrames]; rfl
      bytes := by rw [State.stackBytes_setFrames]; rfl
      same := ⟨?_, Nat.le_refl _, Nat.le_refl _, ?_, ?_, fun a c9 h9 => ⟨c9, h9, rfl, rfl, fun _ _ => rfl⟩⟩ }
  · have h := X.room
    have q1 := X.heapSize
    have q2 := X.used
    simp only [State.hasRoom, Bool.and_eq_true, decide_eq_true_eq] at h ⊢
    rw [hF, hloc, hlim, hbytes]
    rw [X.frames] at h
    obtain ⟨⟨⟨⟨h1, h2⟩, h3⟩, h4⟩, -⟩ := h
    refine ⟨⟨⟨⟨?_, ?_⟩, ?_⟩, ?_⟩, X.book⟩
    · omega
    · omega
    · show T.heap.size + R'.cells ≤ _
      omega
    · show T.slotsUsed + R'.slots ≤ _
      omega
  · show T.setVm s.vm = { ((T.setVm s.vm).setFrames (.invoking m args :: below)).setFrames (T.setVm s.vm).frames with heap := T.heap, slotsUsed := T.slotsUsed }
    rw [State.setFrames_setFrames, State.setFrames_self hth]
    rfl
  · show T.slotsUsed = T.slotsUsed + ((T.heap.toList.drop T.heap.size).map (·.slots.size)).sum
    rw [hdrop]; rfl
  · show ((T.heap.toList.drop T.heap.size).map (·.slots.size)).sum ≤ 0
    rw [hdrop]; exact Nat.le_refl _
end TH
/-- where a static field lies, as the words of a throw want it, in the heap H and outside A -/
def StL (C n d : String) (A : Nat → Prop) (U : State) (H : Heap) : Prop := ∃ (c : ClassId) (k : Class) (i : Nat) (f : Field) (a : Nat) (cell : Cell), (U.vm.findClass C = some c ∧ U.fieldFound? C n d = some (c, k, i, f) ∧ f.isStatic = true ∧ k.statics = some a ∧ k.staticTypes[f.slot]? = some f.type) ∧ H[a]? = some cell ∧ (cell.vm.isStatics = true ∧ cell.cls = c ∧ f.slot < cell.slots.size) ∧ ¬ A a
theorem StL.moved {C n d : String} {A : Nat → Prop} {u U : State} {H : Heap} (hvm : u.vm.Alike U.vm) (h : StL C n d A u H) : StL C n d A U H := by
  obtain ⟨c, k, i, f, a, cell, ⟨h1, h2, h3, h4, h5⟩, h6⟩ := h
  obtain ⟨k', hi, he⟩ := State.fieldFound?_setVm hvm h2
  exact ⟨c, k', i, f, a, cell, ⟨by rw [hvm.findClass]; exact h1, hi, h3, by rw [he]; exact h4, by rw [he]; exact h5⟩, h6⟩
theorem StL.kept {C n d : String} {A : Nat → Prop} {U : State} {H H1 : Heap} (h : StL C n d A U H) (hq : ∀ a : Nat, a < H.size → ¬ A a → H1[a]? = H[a]?) : StL C n d A U H1 := by
  obtain ⟨c, k, i, f, a, cell, h1, h2, h3, h4⟩ := h
  exact ⟨c, k, i, f, a, cell, h1, by rw [hq a (Array.getElem?_eq_some_iff.mp h2).1 h4]; exact h2, h3, h4⟩
theorem StL.narrow {C n d : String} {A B : Nat → Prop} {U : State} {H : Heap} (h : StL C n d A U H) (hAB : ∀ q, B q → A q) : StL C n d B U H := by
  obtain ⟨c, k, i, f, a, cell, h1, h2, h3, h4⟩ := h
  exact ⟨c, k, i, f, a, cell, h1, h2, h3, fun z => h4 (hAB a z)⟩
theorem StL.word {C n d : String} {A : Nat → Prop} {U : State} {args : Array Value} (h : StL C n d A U U.heap) : (Cond.laysStatic C n d).before args U = true := by
  obtain ⟨c, k, i, f, a, cell, ⟨h1, h2, h3, h4, h5⟩, h6, ⟨h7, h8, h9⟩, -⟩ := h
  exact Cond.laysStatic_of (args := args) (first := U) (o := none) (idx := []) h1 h2 h3 h4 h6 h7 h8 h9 h5
theorem StL.of {args : Array Value} {s : State} {C n d : String} {A : Nat → Prop} (hl : (Cond.laysStatic C n d).before args s = true) (hA : ∀ a : Nat, a < s.heap.size → ¬ A a) : StL C n d A s s.heap := by
  obtain ⟨c, k, i, f, a, cell, h1, h2, h3, h4, h5, h6, h7, h8, h9⟩ := Cond.laysStatic_spec hl
  exact ⟨c, k, i, f, a, cell, ⟨h1, h2, h3, h4, h9⟩, h5, ⟨h6, h7, h8⟩, hA a (Array.getElem?_eq_some_iff.mp h5).1⟩
theorem zq_word {C n d : String} {A : Nat → Prop} {U : State} {args : Array Value} (h : va_Zq C n d A U U.heap) : (Cond.isRef (.static C n d)).before args U = true := by
  have one : ∀ v : Value, v.isRef = true → va_Z C n d v A U U.heap → (Cond.isRef (.static C n d)).before args U = true := by
    intro v hv hz
    obtain ⟨cf, kf, fi, f, a, cell, h1, h2, -, h4, h5, h6, h7, -⟩ := hz
    have he : (Term.static C n d).eval args U none [] U = some v := by
      simp [Term.eval, State.fieldNamed?, h1, h2, h4, h5, h6, h7]
    simp only [Cond.before, Cond.holds, Cond.value, he]
    cases v <;> simp_all [Value.isRef]
  rcases h with h | ⟨t, h⟩
  · exact one _ rfl h
  · exact one _ rfl h
/-- both statics that a throw reads -/
def ZU (A : Nat → Prop) (U : State) (H : Heap) : Prop := (va_Zq Bundle.tN "UNASSIGNED_STACK" Bundle.steD A U H ∧ StL Bundle.tN "UNASSIGNED_STACK" Bundle.steD A U H) ∧ va_Zq Bundle.tN "SUPPRESSED_SENTINEL" Bundle.listD A U H ∧ StL Bundle.tN "SUPPRESSED_SENTINEL" Bundle.listD A U H
theorem ZU.moved {A : Nat → Prop} {u U : State} {H : Heap} (hvm : u.vm.Alike U.vm) (h : ZU A u H) : ZU A U H := ⟨⟨va_Zq.moved hvm h.1.1, h.1.2.moved hvm⟩, va_Zq.moved hvm h.2.1, h.2.2.moved hvm⟩
theorem ZU.kept {A : Nat → Prop} {U : State} {H H1 : Heap} (h : ZU A U H) (hq : ∀ a : Nat, a < H.size → ¬ A a → H1[a]? = H[a]?) : ZU A U H1 := ⟨⟨h.1.1.kept hq, h.1.2.kept hq⟩, h.2.1.kept hq, h.2.2.kept hq⟩
theorem ZU.narrow {A B : Nat → Prop} {U : State} {H : Heap} (h : ZU A U H) (hAB : ∀ q, B q → A q) : ZU B U H := ⟨⟨h.1.1.narrow hAB, h.1.2.narrow hAB⟩, h.2.1.narrow hAB, h.2.2.narrow hAB⟩
/-- words of a throw that the tables decide, but that are not kept by themselves -/
def nwL : List Cond := [.castable (exn 1) (exn 1), .castable (exn 2) (exn 2), .castable (exn 3) (exn 3), .declares (Bundle.initS "java/lang/RuntimeException"), .declares (Bundle.initS "java/lang/Exception"), .declares (Bundle.initS Bundle.tN)]
/-- the texts of a class, and what lets its exceptions be what they are -/
def StrU (own : String) (L : List (Nat × String)) (U : State) : Prop := (∀ x ∈ L, ∃ sa, vk_R own x.1 x.2 sa U) ∧ ∀ w ∈ nwL, va_Nw w U
theorem nwL_tab : ∀ w ∈ nwL, w.onTables = true := by decide +kernel
theorem StrU.same {own : String} {L : List (Nat × String)} {u U : State} (hv : U.vm = u.vm) (h : StrU own L u) : StrU own L U := by
  refine ⟨fun x hx => ?_, fun w hw => va_tabs (nwL_tab w hw) hv.symm (h.2 w hw)⟩
  obtain ⟨sa, q⟩ := h.1 x hx
  exact ⟨sa, vk_R.same hv q⟩
theorem StrU.warm {own : String} {L : List (Nat × String)} {s U : State} (hW : s.WarmedH U.vm) (h : StrU own L s) : StrU own L U := by
  refine ⟨fun x hx => ?_, fun w hw => ?_⟩
  · obtain ⟨sa, q⟩ := h.1 x hx
    exact ⟨sa, vk_R.warm hW q⟩
  · have h2 := h.2 w hw
    simp only [nwL, List.mem_cons, List.not_mem_nil, or_false] at hw
    rcases hw with e | e | e | e | e | e <;> subst e <;> first | exact va_Nw.warmC hW h2 | exact va_Nw.warmD hW h2
/-- how a body that throws E ends -/
def TQ (below : List Frame) (E : String) (B : State → Prop) (s : State) (mc ms : Nat) (free : Addr → Prop) : State → Prop := fun t => ∃ (q : Addr) (ce : Cell) (L : List Loc), t.status = .running ∧ Ended t below (.threw q) ∧ B t ∧ (t.heap[q]? = some ce ∧ ce.vm = .none ∧ s.vm.findClass E = some ce.cls) ∧ s.WarmedH t.vm ∧ s.sameButNew ({ t with vm := s.vm } : State) L mc ms ∧ ∀ z ∈ L, free z.base
/-- the contract of the runs that throw E -/
def MetT (l : Launch) (y : MethodName) (ws : List Cond) (rm : Room) (Pc : Array Value → State → Prop) (E : String) (B : State → State → Prop) (mc ms : Nat) (free : Addr → Prop) : Prop :=
  MetFree l y (headSpec ws rm) Pc (fun _ _ _ _ _ => True) (fun _ st o t => ∃ (q : Addr) (ce : Cell) (L : List Loc), o = .threw q ∧ B st t ∧ (t.heap[q]? = some ce ∧ ce.vm = .none ∧ st.vm.findClass E = some ce.cls) ∧ st.WarmedH t.vm ∧ st.sameButNew ({ t with vm := st.vm } : State) L mc ms ∧ ∀ z ∈ L, free z.base)
theorem MetT.ofW {l : Launch} {y : MethodName} {ws ws' : List Cond} {rm : Room} {Pc : Array Value → State → Prop} {E : String} {B : State → State → Prop} {mc ms : Nat} {free : Addr → Prop} {cc : ByteArray} {maxL : Nat} {ret : Option FieldType} (hy : plainName y.cls = true) (hw : ws = Cond.code y cc maxL ret :: ws')
    (body : ∀ p e s m args below meth c s₁, BodyLoose p l y (headSpec ws rm) cc maxL ret e s m args below meth c s₁ → c.maxLocals = maxL → (∀ x ∈ c.exceptionTable.toList, False) → Pc args s → W p l e (headSpec ws rm).room s m args below meth c s.heap [] 0 0 (TQ below E (B s) s mc ms free) (entryFrame m args maxL)) :
    MetT l y ws rm Pc E B mc ms free := by
  have own : ∀ {args : Array Value} {s : State}, (headSpec ws rm).pre.before args s = true → (Cond.code y cc maxL ret).before args s = true := fun h => atoms_spec (ws := ws) h _ (by rw [hw]; exact List.mem_cons_self)
  refine MetFree.of_bodyS (code := cc) (maxLocals := maxL) (ret := ret) hy (fun args s m h hn => ?_) (fun p e s m args below meth c s₁ Bd hml hP _ => ?_)
  · obtain ⟨meth, c, h1, h2, h3, h4, h5, h6, -⟩ := Cond.code_spec hn (own h)
    exact ⟨meth, c, h1, h2, h3, h4, h5, h6⟩
  · have ht : ∀ x ∈ c.exceptionTable.toList, False := by
      obtain ⟨meth9, c9, h1, h2, -, -, -, -, h7, -⟩ := Cond.code_spec Bd.named (own Bd.pre)
      cases Option.some.inj (h1.symm.trans Bd.method)
      cases Option.some.inj (h2.symm.trans (Stand.of_body Bd).code)
      intro x hx
      rw [Array.isEmpty_iff.mp h7] at hx
      cases hx
    have hh : s₁.heap = s.heap := by rw [Bd.state]; rfl
    obtain ⟨t, st, q, ce, L, hr, he, hB, hc, hWm, hsm, hL⟩ := body p e s m args below meth c s₁ Bd hml ht hP s₁ hh (Stand.of_body Bd)
    exact ⟨t, .threw q, st, hr, he, q, ce, L, rfl, hB, hc, hWm, hsm, hL⟩
section TH2
variable {p : Program} {l : Launch} {e : Env} {R : Room} {s : State} {m : MethodId} {args : Array Value} {below : List Frame} {meth : Method} {c : Code} {H : Heap} {locs : List Loc} {cells slots : Nat} {Q : State → Prop}
/-- the frame g, q thrown over it -/
def TW (p : Program) (l : Launch) (e : Env) (R : Room) (s : State) (m : MethodId) (args : Array Value) (below : List Frame) (meth : Method) (c : Code) (H : Heap) (locs : List Loc) (cells slots : Nat) (Q : State → Prop) (g : JFrame) (q : Addr) : Prop :=
  ∀ T : State, T.heap = H → Stand p l e R s m args below meth c T locs cells slots → ∃ t, Steps p.tables e below ((T.setTop g).pushFrame (.throwing q)) t ∧ Q t
/-- nothing catches it here -/
theorem tw_out {pc : Nat} {ls : Array Slot} {rest : List Value} {E : String} {ce : Cell} {q : Addr} {B : State → Prop} {mc ms : Nat} {free : Addr → Prop} (ht : ∀ x ∈ c.exceptionTable.toList, False) (hlk : meth.locks = false) (hce : H[q]? = some ce) (hv : ce.vm = .none) (hcl : s.vm.findClass E = some ce.cls) (hB : ∀ t : State, t.heap = H → s.vm.Alike t.vm → B t) (hf : ∀ z ∈ locs, free z.base) (hc : cells ≤ mc) (hs : slots ≤ ms) :
    TW p l e R s m args below meth c H locs cells slots (TQ below E B s mc ms free) (F0 m pc ls rest) q := by
  intro T hT X
  obtain ⟨st, hr, he, hW, hsm⟩ := X.leaveThrown q (g := F0 m pc ls rest) rfl rfl rfl (fun x hx => (ht x hx).elim) hlk
  exact ⟨_, st, q, ce, locs, hr, he, hB _ hT hW.alike, ⟨by show T.heap[q]? = some ce; rw [hT]; exact hce, hv, hcl⟩, hW, hsm.mono hc hs, hf⟩
end TH2
/-- nothing that was there has changed where nothing was written -/
theorem same0 {s U : State} {k n : Nat} (h : s.sameButNew ({ U with vm := s.vm } : State) [] k n) : s.heap.size ≤ U.heap.size ∧ ∀ q : Nat, q < s.heap.size → U.heap[q]? = s.heap[q]? := by
  obtain ⟨-, h2, -, -, -, h6⟩ := h
  refine ⟨h2, fun q hq => ?_⟩
  obtain ⟨c9, e1, e2, -, e4⟩ := h6 q _ (Array.getElem?_eq_getElem hq)
  have hsl : c9.slots = (s.heap[q]).slots := Array.ext_getElem? fun i => e4 i (fun hm => nomatch hm)
  rw [hsl] at e2
  have e5 : U.heap[q]? = some c9 := e1
  rw [e5, Array.getElem?_eq_getElem hq]
  exact congrArg some e2
/-- the four words of a throw that speak of the heap -/
def four4 (w : Cond) : Bool := decide (w = .isRef (.static Bundle.tN "UNASSIGNED_STACK" Bundle.steD)) || decide (w = .isRef (.static Bundle.tN "SUPPRESSED_SENTINEL" Bundle.listD)) || decide (w = .laysStatic Bundle.tN "UNASSIGNED_STACK" Bundle.steD) || decide (w = .laysStatic Bundle.tN "SUPPRESSED_SENTINEL" Bundle.listD)
section TH3
variable {p : Program} {l : Launch} {e : Env} {R : Room} {s : State} {m : MethodId} {args : Array Value} {below : List Frame} {meth : Method} {c : Code} {H : Heap} {locs : List Loc} {cells slots : Nat} {Q : State → Prop}
/-- 'throw new E("text")' -/
theorem thrT {cc : ByteArray} {pc : Nat} {ls : Array Slot} {rest : List Value} {own cls text : String} {names : List String} {ik is ic sa mc ms : Nat} {A : Nat → Prop} {B : State → Prop} {free : Addr → Prop} (hx : p.tables.exec = Jvm.exec) (hb : c.code = cc) (hl : l.stackTraces = false) (hown : s.vm.findClass own = some m.cls) (hcls : Bundle.fit cls = true) (hnames : ∀ n ∈ names, Bundle.fit n = true)
    (hk : (Cond.classLink own ik cls).before args s = true) (hini : (Cond.initialized cls).before args s = true) (hstr : vk_R own is text sa s) (hat : ∀ w ∈ Bundle.ownAtoms own ic cls names, four4 w = true ∨ (w.onTables = true ∧ w.before args s = true)) (hZ : ZU A s s.heap) (hS : va_S A s.heap H locs) (hsize : ls.size = c.maxLocals)
    (d0 : decode cc pc = .ok (.new ik, 3)) (d3 : decode cc (pc + 3) = .ok (.dup, 1)) (d4 : decode cc (pc + 4) = .ok (.ldc is, 2)) (d6 : decode cc (pc + 6) = .ok (.invokespecial ic, 3)) (d9 : decode cc (pc + 9) = .ok (.athrow, 1)) (ht : ∀ x ∈ c.exceptionTable.toList, False) (hlk : meth.locks = false)
    (hRf : names.length + 3 < R.frames) (hRl : (rest.map fun v => v.category).sum + (13 * (names.length + 1) + 43) ≤ R.locals) (hRc : cells + 1 ≤ R.cells) (hRs : slots + 6 ≤ R.slots)
    (hB : ∀ t : State, s.vm.Alike t.vm → H.size ≤ t.heap.size → (∀ q : Nat, q < H.size → t.heap[q]? = H[q]?) → B t) (hf : ∀ z ∈ locs, free z.base) (hc : cells + 1 ≤ mc) (hs : slots + 6 ≤ ms) :
    W p l e R s m args below meth c H locs cells slots (TQ below cls B s mc ms free) (F0 m pc ls rest) := by
  intro T hT X
  have htr : e.platform.stackTraces = false := by rw [X.admits.platform]; exact hl
  have Y := anew X (R' := { frames := R.frames, locals := R.locals, cells := 1, slots := 6 }) (Nat.le_refl _) (Nat.le_refl _) hRc hRs
  obtain ⟨s', es⟩ : ∃ s', s' = (T.setVm s.vm).setFrames (.invoking m args :: below) := ⟨_, rfl⟩
  rw [← es] at Y
  have hvm : s.vm = s'.vm := by rw [es]; rfl
  have hhp : s'.heap = H := by rw [es]; exact hT
  have hW0 : s.WarmedH s'.vm := by rw [← hvm]; exact State.WarmedH.refl s
  have hown' : s'.vm.findClass own = some m.cls := by rw [← hvm]; exact hown
  have hZ' : ZU A s' s'.heap := by rw [hhp]; exact (hZ.kept hS.2.1).moved hW0.alike
  have hat' : ∀ w ∈ Bundle.ownAtoms own ic cls names, w.before args s' = true := by
    intro w hw
    rcases hat w hw with h | ⟨h1, h2⟩
    · simp only [four4, Bool.or_eq_true, decide_eq_true_eq] at h
      rcases h with ((h | h) | h) | h
      · rw [h]; exact zq_word hZ'.1.1
      · rw [h]; exact zq_word hZ'.2.1
      · rw [h]; exact hZ'.1.2.word
      · rw [h]; exact hZ'.2.2.word
    · exact va_tabs h1 hvm h2
  have hk' : (Cond.classLink own ik cls).before args s' = true := va_tabs rfl hvm hk
  have hini' : (Cond.initialized cls).before args s' = true := va_tabs rfl hvm hini
  have hins : (Cond.instantiable cls 6).before args s' = true := hat' _ (by simp [Bundle.ownAtoms])
  obtain ⟨vm1, cX, kX, hfX, hkX, -, -, X1, st1⟩ := Y.newCold hx (own := own) (C := cls) (index := ik) (n := 6) hown' hk' hins hini' (g := F0 m pc ls rest) rfl (by rw [hb]; exact d0) (Nat.le_refl _) (Nat.le_refl _)
  obtain ⟨T1, eT⟩ : ∃ T1, T1 = (T.setVm vm1).pushCell { cls := cX, slots := kX.instanceTypes.map defaultValue, vm := .none } := ⟨_, rfl⟩
  rw [← eT] at X1 st1
  have hcell : T1.heap[T.heap.size]? = some (freshCell cX kX) := by rw [eT]; exact State.heap_pushCell_size _ _
  have hstr' : vk_R own is text sa s' := vk_R.warm hW0 hstr
  have hcat : (Value.ref T.heap.size).category = 1 := rfl
  obtain ⟨U, hst, hrun, hend, hWU, hsame, ce, hce, hO⟩ := X1.ctorThrowS hx htr (own := own) (cls := cls) (names := names) (ic := ic) hown' hcls hnames hat' (fun x hx => nomatch hx) hfX hkX hcell (by rw [hhp, ← hT]; exact Nat.le_refl _) (msg := .ref sa) rfl
    (g := { method := m, pc := pc + 6, locals := ls, stack := .ref sa :: .ref T.heap.size :: .ref T.heap.size :: rest, locked := none }) rfl hsize rfl rfl (rest := rest) rfl (by rw [hb]; exact d6) (by rw [hb]; exact d9) (fun x hx => (ht x hx).elim) hRf
    (by simp only [List.map_cons, List.sum_cons, hcat]; omega) hlk
  obtain ⟨f1, f2⟩ := same0 hsame
  rw [hhp] at f1 f2
  have hWs : s.WarmedH U.vm := State.WarmedH.trans hW0 hWU
  have hcl : s.vm.findClass cls = some ce.cls := by rw [hvm]; exact hO.cls
  have hall : s.sameButNew ({ U with vm := s.vm } : State) locs mc ms := by
    subst es
    obtain ⟨e1, e2⟩ := hsame
    rw [State.setFrames_setFrames] at e1
    have h2 : (T.setVm s.vm).sameButNew ({ U with vm := s.vm } : State) [] (0 + 1) (0 + 6) := ⟨e1, e2⟩
    have h3 := X.same.trans h2
    rw [List.append_nil] at h3
    exact h3.mono hc hs
  refine ⟨U, st1 _ ?_, T.heap.size, ce, locs, hrun, hend, hB U hWs.alike f1 f2, ⟨hce, hO.vm, hcl⟩, hWs, hall, hf⟩
  have d3' : decode c.code (pc + 3) = .ok (.dup, 1) := by rw [hb]; exact d3
  have d4' : decode c.code (pc + 4) = .ok (.ldc is, 2) := by rw [hb]; exact d4
  show Steps p.tables e below (T1.setTop { method := m, pc := pc + 3, locals := ls, stack := .ref T.heap.size :: rest, locked := none }) _
  jvm_step X1.here [X1.here.top, hx, d3', Value.category]
  exact X1.ldcString hx (own := own) (text := text) (index := is) (a := sa) hown' hstr'.1 hstr'.2 (g := { method := m, pc := pc + 4, locals := ls, stack := .ref T.heap.size :: .ref T.heap.size :: rest, locked := none }) rfl d4' _ hst
end TH3
section TH4
variable {p : Program} {l : Launch} {e : Env} {R : Room} {s : State} {m : MethodId} {args : Array Value} {below : List Frame} {meth : Method} {c : Code} {T : State} {H : Heap} {locs : List Loc} {cells slots : Nat} {Q : State → Prop}
/-- a callee that throws: back at the caller's frame, the exception over it -/
theorem callT {g : JFrame} {mk : MethodId} {a : Array Value} {y : MethodName} {ws : List Cond} {rm : Room} {Pc : Array Value → State → Prop} {E : String} {B : State → State → Prop} {mc ms : Nat} {free : Addr → Prop} (X : Stand p l e R s m args below meth c T locs cells slots) (hg : g.method = m) (hM : MetT l y ws rm Pc E B mc ms free)
    (happ : (headSpec ws rm).appliesLoose y e.platform (T.calling g mk a) = true) (hPc : Pc a (T.calling g mk a)) :
    ∃ (q : Addr) (T' : State) (ce : Cell) (L : List Loc) (t : State), Stand p l e R s m args below meth c T' (locs ++ L) (cells + mc) (slots + ms) ∧ t.heap = T'.heap ∧ t.vm = T'.vm ∧ B (T.calling g mk a) t ∧ (T'.heap[q]? = some ce ∧ ce.vm = .none ∧ T.vm.findClass E = some ce.cls) ∧ (∀ z ∈ L, free z.base) ∧
      ∀ acts, Steps p.tables e below (doInvoke e (T.setTop g) acts mk a).1 ((T'.setTop g).pushFrame (.throwing q)) := by
  subst hg
  have hh := X.here
  obtain ⟨mid, hmid⟩ := hh.above
  have hfr : (T.setTop g).frames = (.java g :: mid) ++ below := by rw [State.frames_setTop' g hh.top, hmid]; rfl
  obtain ⟨o, t, hst, -, hend, q, ce, L, rfl, hB, ⟨hce, hv, hcl⟩, hW, hsm, hL⟩ := Steps.callFree hM p X.admits X.cas X.clock (acts := []) hfr happ hPc trivial
  rw [State.frames_setTop' g hh.top] at hend
  have hft : t.frames = .throwing q :: .java g :: T.frames.tail := hend
  obtain ⟨g0, hg0⟩ := Option.isSome_iff_exists.mp hh.top
  obtain ⟨r, hr⟩ := State.topJava?_eq_some.mp hg0
  obtain ⟨th, hth, -⟩ := State.frames_cons hr
  have hsm : (T.calling g mk a).sameButNew ({ t with vm := (T.calling g mk a).vm } : State) L mc ms := hsm
  obtain ⟨e2, q2, q3, q4, q5, q6⟩ := hsm
  obtain ⟨T', eT⟩ : ∃ T', T' = (({ T with heap := t.heap, slotsUsed := t.slotsUsed } : State).setVm t.vm) := ⟨_, rfl⟩
  have hr' : T'.frames = .java g0 :: r := by rw [eT]; exact hr
  have e3 : t = ({ (T.calling g mk a).setFrames t.frames with heap := t.heap, slotsUsed := t.slotsUsed } : State).setVm t.vm := by
    have h : t = ({ t with vm := (T.calling g mk a).vm } : State).setVm t.vm := rfl
    rw [e2] at h
    exact h
  have et : t = (T'.setTop g).pushFrame (.throwing q) := by
    refine e3.trans ?_
    rw [hft, State.calling_eq hh.top, State.setFrames_setFrames, State.pushFrame, State.frames_setTop _ hr', State.setTop_of_frames _ hr', State.setFrames_setFrames, hr, eT]
    rfl
  have hWT : T.WarmedH t.vm := hW
  have hsame : T.sameButNew ({ T with heap := t.heap, slotsUsed := t.slotsUsed } : State) L mc ms := by
    refine ⟨?_, q2, q3, q4, q5, q6⟩
    show ({ T with heap := t.heap, slotsUsed := t.slotsUsed } : State) = { T.setFrames T.frames with heap := t.heap, slotsUsed := t.slotsUsed }
    rw [State.setFrames_self hth]
  refine ⟨q, T', ce, L, t, ?_, by rw [eT]; rfl, by rw [eT]; rfl, hB, ⟨by rw [eT]; exact hce, hv, hcl⟩, hL, fun acts => ?_⟩
  · subst eT
    exact ⟨X.admits, X.cas, X.clock, X.frames, X.room, X.hears, X.method, X.code, (hh.setHeapUsed t.heap t.slotsUsed).setVm hWT.alike, X.tail, State.WarmedH.trans X.warmed hWT, X.limits, X.bytes, X.same.trans (hsame.setVm s.vm)⟩
  · rw [← et, doInvoke_state]; exact hst
/-- invokevirtual of a method that throws -/
theorem virtT {own C : String} {index : Nat} {y : MethodName} {bytes cc : ByteArray} {maxL nL mc ms n : Nat} {ret : Option FieldType} {ws Ts : List Cond} {rm : Room} {Pc : Array Value → State → Prop} {E : String} {B : State → State → Prop} {free : Addr → Prop} {b : Addr} {As rest : List Value} {pc : Nat} {ls : Array Slot}
    (S : CallFix p m c cc nL s args Ts own) (hM : MetT l y ws rm Pc E B mc ms free) (cw : CallW R s args own C index y bytes maxL ret ws rm mc ms n) (hp : PreV s H C b Pc As) (hn : As.length = n) (hsize : ls.size = nL) (hW : (rest.map fun v => v.category).sum ≤ 8) (hdg : decode cc pc = .ok (.invokevirtual index, 3)) (hr : cells + mc ≤ R.cells ∧ slots + ms ≤ R.slots)
    (kx : ∀ (st t : State) (H1 : Heap) (L : List Loc) (q : Addr) (ce : Cell), st.heap = H → t.heap = H1 → s.vm.Alike t.vm → B st t → (∀ z ∈ L, free z.base) → H1[q]? = some ce → ce.vm = .none → s.vm.findClass E = some ce.cls → TW p l e R s m args below meth c H1 (locs ++ L) (cells + mc) (slots + ms) Q (F0 m pc ls rest) q) :
    W p l e R s m args below meth c H locs cells slots Q (F0 m pc ls (As.reverse ++ .ref b :: rest)) := by
  obtain ⟨⟨hrc, hrs, hfr, hlo, hws, hcw, hcode, hini, hy, hlen, hl⟩, hin, hse⟩ := cw
  obtain ⟨hx, hb, hml, ho, -⟩ := S
  obtain ⟨hblind, ⟨cellB, hcB, hoB, hclB⟩, hPc⟩ := hp
  intro T hT X
  obtain ⟨mk, methM, hnamed, hmethM, hstM, habM⟩ := Cond.instanceMethod_spec hin
  obtain ⟨methM', cM, hmethM', hcM, -, hlM, -, -, -, hsigM⟩ := Cond.code_spec hnamed hcode
  cases hmethM.symm.trans hmethM'
  obtain ⟨c2, r2, m2, w1, w2, w3, w4, kP, hkP, hkPi⟩ := Cond.selects_spec hse
  cases hclB.symm.trans w1
  cases (State.methodFound?_of_named hnamed hy).symm.trans w2
  cases hnamed.symm.trans w3
  have hsel : selectMethod e.platform s.vm cellB.cls mk = .method mk := by rw [Launch.admits_selectMethod X.admits]; exact w4
  have hcell : T.heap[b]? = some cellB := by rw [hT]; exact hcB
  obtain ⟨vm1, X1, hstep⟩ := X.invokevirtual hx ho hl hnamed hmethM hstM hkP hkPi hy (a := b) (cell := cellB) hcell (fun z h => by rw [h] at hoB; cases hoB) hsel hmethM habM hkP hkPi (g := F0 m pc ls (As.reverse ++ .ref b :: rest)) rfl (argsL := As) (rest := rest) (hn.trans (hlen _ hsigM)) rfl (by rw [hb]; exact hdg)
  have hn1 : (T.setVm vm1).methodNamed? y = some mk := X1.named hnamed
  have h1 : (headSpec ws rm).pre.before (Value.ref b :: As).toArray (T.setVm vm1) = true := atoms_intro fun w hw => hws w hw _ _ X1.warmed
  have h2 : (Cond.code y bytes maxL ret).before (Value.ref b :: As).toArray (T.setVm vm1) = true := hws _ hcw _ _ X1.warmed
  obtain ⟨methY, cY, hmY, hcY, -, hlY, -⟩ := Cond.code_spec hn1 h2
  have hiniU : (Cond.initialized y.cls).before (Value.ref b :: As).toArray (T.setVm vm1) = true := word_at X1.warmed (Or.inl rfl) hini
  obtain ⟨kY, hkY, -⟩ := className_of_methodNamed hn1
  have hkYi : kY.init = .initialized := Cond.initialized_spec (findClass_of_methodNamed hn1) hkY hiniU
  have hmon : 2 * (F0 m pc ls rest).monitorRoom + (rest.map fun v => v.category).sum ≤ 8 := lv_room hW
  have happ : (headSpec ws rm).appliesLoose y e.platform ((T.setVm vm1).calling (F0 m pc ls rest) mk (Value.ref b :: As).toArray) = true :=
    Spec.appliesLoose_calling (g := F0 m pc ls rest) X1.here (by rw [hb]; exact hdg) hn1 hkY hkYi
      (X1.room_calling (g := F0 m pc ls rest) (R' := (headSpec ws rm).room) (hsize.trans hml.symm) hmY hcY hfr (by rw [hlY]; show 2 * (F0 m pc ls rest).monitorRoom + (rest.map fun v => v.category).sum + (maxL + 11) + rm.locals ≤ R.locals; omega)
        (by rw [show (headSpec ws rm).room.cells = mc from hrc]; exact hr.1) (by rw [show (headSpec ws rm).room.slots = ms from hrs]; exact hr.2)) h1
  have hPc1 : Pc (Value.ref b :: As).toArray ((T.setVm vm1).calling (F0 m pc ls rest) mk (Value.ref b :: As).toArray) := hblind _ _ _ _ (hPc (T.setVm vm1) hT X1.warmed)
  obtain ⟨q, T', ce, L, t, X2, ht1, ht2, hB, ⟨hce, hv, hcl⟩, hL, hst⟩ := callT X1 (g := F0 m pc ls rest) rfl hM happ hPc1
  have hcl' : s.vm.findClass E = some ce.cls := by
    have h : vm1.findClass E = some ce.cls := hcl
    have hA : s.vm.Alike vm1 := X1.warmed.alike
    rw [hA.findClass] at h
    exact h
  obtain ⟨u, hu, hQ⟩ := kx ((T.setVm vm1).calling (F0 m pc ls rest) mk (Value.ref b :: As).toArray) t T'.heap L q ce hT ht1 (by rw [ht2]; exact X2.warmed.alike) hB hL hce hv hcl' T' rfl X2
  exact ⟨u, hstep u fun acts => (hst acts).trans hu, hQ⟩
end TH4
/-! the uniform contract of the runs that throw: the world w comes in, the world w' is left, one cell is made -/
abbrev PcT (D : va_G) (cl : List vw_C) (tys : List (ClassId × FieldType)) (w : va_W) (hs : Nat) (own : String) (L : List (Nat × String)) (av : List Value) : Array Value → State → Prop := va_Pc av (fun U => U.heap.size = hs ∧ va_P D cl w U.heap ∧ va_K D cl tys U ∧ va_D (fun _ => True) w ∧ ZU (va_A w hs) U U.heap ∧ StrU own L U)
abbrev BT (D : va_G) (cl : List vw_C) (tys : List (ClassId × FieldType)) (w w' : va_W) (hs : Nat) : State → State → Prop := fun st t => va_P D cl w' t.heap ∧ va_K D cl tys t ∧ va_D (va_A w hs) w' ∧ va_F (va_A w hs) st t
theorem pcT_blind {D : va_G} {cl : List vw_C} {tys : List (ClassId × FieldType)} {w : va_W} {hs : Nat} {own : String} {L : List (Nat × String)} {av : List Value} : FrameBlind (PcT D cl tys w hs own L av) := fun a U g mk q => by
  obtain ⟨q0, q1, qP, qK, qD, qZ, qS⟩ := q
  exact ⟨q0, q1, qP, va_K.moved (u := U) (U := U.calling g mk a) (Vm.Alike.refl U.vm) qK, qD, qZ.moved (u := U) (U := U.calling g mk a) (Vm.Alike.refl U.vm), StrU.same (u := U) (U := U.calling g mk a) rfl qS⟩
section MT
variable {l : Launch} {y : MethodName} {ws ws' : List Cond} {rm : Room} {D : va_G} {cl : List vw_C} {tys : List (ClassId × FieldType)} {w w' : va_W} {av : List Value} {cc : ByteArray} {maxL : Nat} {ret : Option FieldType} {hs : Nat} {own : String} {L : List (Nat × String)} {tag : Nat}
theorem mT (hl : l.stackTraces = false) (hy : plainName y.cls = true) (hw : ws = Cond.code y cc maxL ret :: ws') (hrc : rm.cells = 1) (hrs : rm.slots = 6) (hav : (lg_sl av).length ≤ maxL) (hyo : y.cls = own)
    (body : ∀ (p : Program) (e : Env) (s : State) (m : MethodId) (args : Array Value) (below : List Frame) (meth : Method) (c : Code) (Q : State → Prop), p.tables.exec = Jvm.exec → c.code = cc → c.maxLocals = maxL → (∀ q ∈ ws, q.before args s = true) → s.vm.findClass own = some m.cls →
      ∀ (A : Nat → Prop), (∀ q, s.heap.size ≤ q → A q) → va_K D cl tys s → va_P D cl w s.heap → va_D A w → va_S A s.heap s.heap [] → ZU A s s.heap → StrU own L s →
      (∀ (cls text : String) (names : List String) (ik is ic : Nat) (H : Heap) (locs : List Loc) (pc : Nat) (ls : Array Slot) (rest : List Value), cls = exn tag → (is, text) ∈ L → Bundle.fit cls = true → (∀ n ∈ names, Bundle.fit n = true) → (Cond.classLink own ik cls).before args s = true → (Cond.initialized cls).before args s = true → (∀ w ∈ Bundle.ownAtoms own ic cls names, four4 w = true ∨ (w.onTables = true ∧ w.before args s = true)) → ls.size = maxL →
        decode cc pc = .ok (.new ik, 3) → decode cc (pc + 3) = .ok (.dup, 1) → decode cc (pc + 4) = .ok (.ldc is, 2) → decode cc (pc + 6) = .ok (.invokespecial ic, 3) → decode cc (pc + 9) = .ok (.athrow, 1) → names.length + 3 < (headSpec ws rm).room.frames → (rest.map fun v => v.category).sum + (13 * (names.length + 1) + 43) ≤ (headSpec ws rm).room.locals → va_P D cl w' H → va_D A w' → va_S A s.heap H locs → W p l e (headSpec ws rm).room s m args below meth c H locs 0 0 Q (F0 m pc ls rest)) →
      (∀ (H : Heap) (locs : List Loc) (pc : Nat) (ls : Array Slot) (rest : List Value) (q : Nat) (ce : Cell), H[q]? = some ce → ce.vm = .none → s.vm.findClass (exn tag) = some ce.cls → va_P D cl w' H → va_D A w' → va_S A s.heap H locs → TW p l e (headSpec ws rm).room s m args below meth c H locs (0 + 1) (0 + 6) Q (F0 m pc ls rest) q) →
      ∀ ls : Array Slot, lv_has ls maxL (lv_args 0 av) → W p l e (headSpec ws rm).room s m args below meth c s.heap [] 0 0 Q (F0 m 0 ls [])) :
    MetT l y ws rm (PcT D cl tys w hs own L av) (exn tag) (BT D cl tys w w' hs) 1 6 (va_A w hs) := by
  refine MetT.ofW (cc := cc) (maxL := maxL) (ret := ret) hy hw ?_
  intro p e s m args below meth c s₁ Bd hml ht hv
  obtain ⟨rfl, hsz, hP, hK, hD0, hZ, hSt⟩ := hv
  subst hsz
  subst hyo
  have hD := hD0.self (sz := s.heap.size)
  have hlv := lv_entry av (n := maxL) hav
  rw [lg_entry_eq]
  have hlk := Bd.notSynchronized
  refine body p e s m _ below meth c _ Bd.exec Bd.bytes hml (atoms_spec (ws := ws) Bd.pre) (findClass_of_methodNamed Bd.named) (va_A w s.heap.size) (fun q h => Or.inr h) hK hP hD va_S.rf hZ hSt ?_ ?_ _ hlv
  · intro cls text names ik is ic H locs pc ls rest hcls hmem hfit hnames hk hini hat hsize d0 d3 d4 d6 d9 hF hL hP hD hS
    obtain ⟨sa, hstr⟩ := hSt.1 _ hmem
    subst hcls
    refine thrT Bd.exec Bd.bytes hl (findClass_of_methodNamed Bd.named) hfit hnames hk hini hstr hat hZ hS (hsize.trans hml.symm) d0 d3 d4 d6 d9 ht hlk hF hL (by show 0 + 1 ≤ rm.cells; omega) (by show 0 + 6 ≤ rm.slots; omega) ?_ hS.2.2 (Nat.le_refl _) (Nat.le_refl _)
    intro t hA hz hkeep
    refine ⟨va_P.kept hP (fun k q hq => hkeep _ ((hP k q hq).lt)), va_K.moved hA hK, hD, Nat.le_trans hS.1 hz, fun q h1 h2 => ?_⟩
    rw [hkeep q (Nat.lt_of_lt_of_le h1 hS.1)]
    exact hS.2.1 q h1 h2
  · intro H locs pc ls rest q ce hce hv hcl hP hD hS
    refine tw_out ht hlk hce hv hcl ?_ hS.2.2 (Nat.le_refl _) (Nat.le_refl _)
    intro t hH hA
    exact ⟨by rw [hH]; exact hP, va_K.moved hA hK, hD, hS.F hH⟩
end MT
section UT
variable {p : Program} {l : Launch} {e : Env} {R : Room} {s : State} {m : MethodId} {args : Array Value} {below : List Frame} {meth : Method} {c : Code} {H : Heap} {locs : List Loc} {Q : State → Prop} {cells slots : Nat}
variable {cc : ByteArray} {nL : Nat} {Ts : List Cond} {own C own2 : String} {L : List (Nat × String)} {index : Nat} {y : MethodName} {bytes : ByteArray} {maxL : Nat} {ret : Option FieldType} {ws : List Cond} {rm : Room} {n : Nat} {E : String}
variable {D : va_G} {cl : List vw_C} {tys : List (ClassId × FieldType)} {w w' : va_W} {b : Nat} {As rest st0 : List Value} {A0 : Nat → Prop} {pc : Nat} {ls : Array Slot}
theorem ucT (S : CallFix p m c cc nL s args Ts own) (hK : va_K D cl tys s) (hP : va_P D cl w H) (hD : va_D A0 w) (hS : va_S A0 s.heap H locs) (hA : ∀ q, s.heap.size ≤ q → A0 q) (hZ : ZU A0 s s.heap) (hSt : StrU own2 L s)
    (hM : ∀ hs, MetT l y ws rm (PcT D cl tys w hs own2 L (.ref b :: As)) E (BT D cl tys w w' hs) 1 6 (va_A w hs)) (cw : CallW R s args own C index y bytes maxL ret ws rm 1 6 n)
    (q0 ci : Nat) {q : vw_C} {fs : List Value} (hc : cl[ci]? = some q) (hq : q.1 = C) (he : w[q0]? = some (b, .inr (ci, fs))) (hst : st0 = As.reverse ++ .ref b :: rest) (hn : As.length = n) (hsz : ls.size = nL) (hW : (rest.map fun v => v.category).sum ≤ 8) (hdg : decode cc pc = .ok (.invokevirtual index, 3)) (hrm : cells + 1 ≤ R.cells ∧ slots + 6 ≤ R.slots)
    (kx : ∀ (H1 : Heap) (locs1 : List Loc) (q9 : Nat) (ce : Cell), va_P D cl w' H1 → va_D A0 w' → va_S A0 s.heap H1 locs1 → H1[q9]? = some ce → ce.vm = .none → s.vm.findClass E = some ce.cls → TW p l e R s m args below meth c H1 locs1 (cells + 1) (slots + 6) Q (F0 m pc ls rest) q9) :
    W p l e R s m args below meth c H locs cells slots Q (F0 m pc ls st0) := by
  subst hst
  have hFc : ∀ q, va_A w H.size q → A0 q := fun q h => by
    rcases h with ⟨k, e, hk⟩ | h
    · exact hD.2 k _ hk
    · exact hA q (Nat.le_trans hS.1 h)
  refine virtT S (hM H.size) cw ⟨pcT_blind, hq ▸ va_recv hK hP hc he, fun U hU hWm => ⟨rfl, by rw [hU], by rw [hU]; exact hP, va_K.moved hWm.alike hK, hD.weaken (fun _ _ _ _ => trivial), by rw [hU]; exact ((hZ.kept hS.2.1).moved hWm.alike).narrow hFc, StrU.warm hWm hSt⟩⟩ hn hsz hW hdg hrm ?_
  intro st t H1 L1 q9 ce hst ht hvm hB hL hce hv hcl
  obtain ⟨hP1, hK1, hD1, hz, hk⟩ := hB
  rw [ht] at hP1 hz hk
  rw [hst] at hz hk
  refine kx H1 (locs ++ L1) q9 ce hP1 (hD1.weaken (fun _ _ _ h => hFc _ h)) ⟨Nat.le_trans hS.1 hz, fun a h1 h2 => ?_, fun z hz => ?_⟩ hce hv hcl
  · rw [hk a (Nat.lt_of_lt_of_le h1 hS.1) (fun h => h2 (hFc a h))]
    exact hS.2.1 a h1 h2
  · rcases List.mem_append.mp hz with h | h
    · exact hS.2.2 z h
    · exact hFc _ (hL z h)
end UT
