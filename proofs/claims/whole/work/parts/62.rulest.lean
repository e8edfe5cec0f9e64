/-! methods that throw. A contract each for the runs that return (Met, as ever) and for those that throw (MetT) -/
def exn : Nat → String
  | 1 => "java/lang/IllegalStateException"
  | 2 => "java/lang/IndexOutOfBoundsException"
  | 3 => "java/lang/IllegalArgumentException"
  | _ => ""
section TH
variable {p : Program} {l : Launch} {e : Env} {R : Room} {s : State} {m : MethodId} {args : Array Value} {below : List Frame} {meth : Method} {c : Code} {T : State} {H : Heap} {locs : List Loc} {cells slots : Nat} {Q : State → Prop}
/-- this invocation as if it began here: with the heap as it is now, nothing written, nothing made -/
theorem anew (X : Stand p l e R s m args below meth c T locs cells slots) {R' : Room} (hf : R'.frames ≤ R.frames) (hl : R'.locals ≤ R.locals) (hc : cells + R'.cells ≤ R.cells) (hs : slots + R'.slots ≤ R.slots) :
    Stand p l e R' ((T.setVm s.vm).setFrames (.invoking m args :: below)) m args below meth c T [] 0 0 := by
  have htop : (T.setVm s.vm).topJava?.isSome := X.here.top
  have hcur : (T.setVm s.vm).cur < (T.setVm s.vm).threads.size := State.cur_lt_of_top htop
  have hF : ((T.setVm s.vm).setFrames (.invoking m args :: below)).frames = .invoking m args :: below := State.frames_setFrames _ hcur
  obtain ⟨g0, hg0⟩ := Option.isSome_iff_exists.mp htop
  obtain ⟨r, hr⟩ := State.topJava?_eq_some.mp hg0
  obtain ⟨th, hth, -⟩ := State.frames_cons hr
  have hloc : ((T.setVm s.vm).setFrames (.invoking m args :: below)).localsInUse = s.localsInUse :=
    (State.localsInUse_invoking hF (meth := meth) (c := c) X.method X.code).trans (State.localsInUse_invoking X.frames X.method X.code).symm
  have hlim : e.platform.stackLimits ((T.setVm s.vm).setFrames (.invoking m args :: below)).me = e.platform.stackLimits s.me := by
    rw [State.stackLimits_setFrames]; exact X.limits
  have hbytes : ((T.setVm s.vm).setFrames (.invoking m args :: below)).me.stackBytes = s.me.stackBytes := by
    rw [State.stackBytes_setFrames]; exact X.bytes
  have hdrop : T.heap.toList.drop T.heap.size = [] := List.drop_eq_nil_of_le (Nat.le_of_eq Array.length_toList)
  refine
    { admits := X.admits, cas := X.cas, clock := X.clock, frames := hF, room := ?_, hears := X.hears, method := X.method, code := X.code, here := X.here, tail := X.tail, warmed := X.warmed
      limits := by rw [State.stackLimits_setFrames]; rfl
      bytes := by rw [State.stackBytes_setFrames]; rfl
      same := ⟨?_, Nat.le_refl _, Nat.le_refl _, ?_, ?_, fun a c9 h9 => ⟨c9, h9, rfl, rfl, fun _ _ => rfl⟩⟩ }
  · have h := X.room
    have q1 := X.heapSize
    have q2 := X.used
    simp only [State.hasRoom, Bool.and_eq_true, decide_eq_true_eq] at h ⊢
    rw [hF, hloc, hlim, hbytes]
    rw [X.frames] at h
    obtain ⟨⟨⟨⟨h1, h2⟩, h3⟩, h4⟩, -⟩ := h
    refine ⟨⟨⟨⟨?_, ?_⟩, ?_⟩, ?_⟩, X.book⟩
    · omega
    · omega
    · show T.heap.size + R'.cells ≤ _
      omega
    · show T.slotsUsed + R'.slots ≤ _
      omega
  · show T.setVm s.vm = { ((T.setVm s.vm).setFrames (.invoking m args :: below)).setFrames (T.setVm s.vm).frames with heap := T.heap, slotsUsed := T.slotsUsed }
    rw [State.setFrames_setFrames, State.setFrames_self hth]
    rfl
  · show T.slotsUsed = T.slotsUsed + ((T.heap.toList.drop T.heap.size).map (·.slots.size)).sum
    rw [hdrop]; rfl
  · show ((T.heap.toList.drop T.heap.size).map (·.slots.size)).sum ≤ 0
    rw [hdrop]; exact Nat.le_refl _
end TH
/-- where a static field lies, as the words of a throw want it, in the heap H and outside A -/
def StL (C n d : String) (A : Nat → Prop) (U : State) (H : Heap) : Prop := ∃ (c : ClassId) (k : Class) (i : Nat) (f : Field) (a : Nat) (cell : Cell), (U.vm.findClass C = some c ∧ U.fieldFound? C n d = some (c, k, i, f) ∧ f.isStatic = true ∧ k.statics = some a ∧ k.staticTypes[f.slot]? = some f.type) ∧ H[a]? = some cell ∧ (cell.vm.isStatics = true ∧ cell.cls = c ∧ f.slot < cell.slots.size) ∧ ¬ A a
theorem StL.moved {C n d : String} {A : Nat → Prop} {u U : State} {H : Heap} (hvm : u.vm.Alike U.vm) (h : StL C n d A u H) : StL C n d A U H := by
  obtain ⟨c, k, i, f, a, cell, ⟨h1, h2, h3, h4, h5⟩, h6⟩ := h
  obtain ⟨k', hi, he⟩ := State.fieldFound?_setVm hvm h2
  exact ⟨c, k', i, f, a, cell, ⟨by rw [hvm.findClass]; exact h1, hi, h3, by rw [he]; exact h4, by rw [he]; exact h5⟩, h6⟩
theorem StL.kept {C n d : String} {A : Nat → Prop} {U : State} {H H1 : Heap} (h : StL C n d A U H) (hq : ∀ a : Nat, a < H.size → ¬ A a → H1[a]? = H[a]?) : StL C n d A U H1 := by
  obtain ⟨c, k, i, f, a, cell, h1, h2, h3, h4⟩ := h
  exact ⟨c, k, i, f, a, cell, h1, by rw [hq a (Array.getElem?_eq_some_iff.mp h2).1 h4]; exact h2, h3, h4⟩
theorem StL.narrow {C n d : String} {A B : Nat → Prop} {U : State} {H : Heap} (h : StL C n d A U H) (hAB : ∀ q, B q → A q) : StL C n d B U H := by
  obtain ⟨c, k, i, f, a, cell, h1, h2, h3, h4⟩ := h
  exact ⟨c, k, i, f, a, cell, h1, h2, h3, fun z => h4 (hAB a z)⟩
theorem StL.word {C n d : String} {A : Nat → Prop} {U : State} {args : Array Value} (h : StL C n d A U U.heap) : (Cond.laysStatic C n d).before args U = true := by
  obtain ⟨c, k, i, f, a, cell, ⟨h1, h2, h3, h4, h5⟩, h6, ⟨h7, h8, h9⟩, -⟩ := h
  exact Cond.laysStatic_of (args := args) (first := U) (o := none) (idx := []) h1 h2 h3 h4 h6 h7 h8 h9 h5
theorem StL.of {args : Array Value} {s : State} {C n d : String} {A : Nat → Prop} (hl : (Cond.laysStatic C n d).before args s = true) (hA : ∀ a : Nat, a < s.heap.size → ¬ A a) : StL C n d A s s.heap := by
  obtain ⟨c, k, i, f, a, cell, h1, h2, h3, h4, h5, h6, h7, h8, h9⟩ := Cond.laysStatic_spec hl
  exact ⟨c, k, i, f, a, cell, ⟨h1, h2, h3, h4, h9⟩, h5, ⟨h6, h7, h8⟩, hA a (Array.getElem?_eq_some_iff.mp h5).1⟩
theorem zq_word {C n d : String} {A : Nat → Prop} {U : State} {args : Array Value} (h : va_Zq C n d A U U.heap) : (Cond.isRef (.static C n d)).before args U = true := by
  have one : ∀ v : Value, v.isRef = true → va_Z C n d v A U U.heap → (Cond.isRef (.static C n d)).before args U = true := by
    intro v hv hz
    obtain ⟨cf, kf, fi, f, a, cell, h1, h2, -, h4, h5, h6, h7, -⟩ := hz
    have he : (Term.static C n d).eval args U none [] U = some v := by
      simp [Term.eval, State.fieldNamed?, h1, h2, h4, h5, h6, h7]
    simp only [Cond.before, Cond.holds, Cond.value, he]
    cases v <;> simp_all [Value.isRef]
  rcases h with h | ⟨t, h⟩
  · exact one _ rfl h
  · exact one _ rfl h
/-- both statics that a throw reads -/
def ZU (A : Nat → Prop) (U : State) (H : Heap) : Prop := (va_Zq Bundle.tN "UNASSIGNED_STACK" Bundle.steD A U H ∧ StL Bundle.tN "UNASSIGNED_STACK" Bundle.steD A U H) ∧ va_Zq Bundle.tN "SUPPRESSED_SENTINEL" Bundle.listD A U H ∧ StL Bundle.tN "SUPPRESSED_SENTINEL" Bundle.listD A U H
theorem ZU.moved {A : Nat → Prop} {u U : State} {H : Heap} (hvm : u.vm.Alike U.vm) (h : ZU A u H) : ZU A U H := ⟨⟨va_Zq.moved hvm h.1.1, h.1.2.moved hvm⟩, va_Zq.moved hvm h.2.1, h.2.2.moved hvm⟩
theorem ZU.kept {A : Nat → Prop} {U : State} {H H1 : Heap} (h : ZU A U H) (hq : ∀ a : Nat, a < H.size → ¬ A a → H1[a]? = H[a]?) : ZU A U H1 := ⟨⟨h.1.1.kept hq, h.1.2.kept hq⟩, h.2.1.kept hq, h.2.2.kept hq⟩
theorem ZU.narrow {A B : Nat → Prop} {U : State} {H : Heap} (h : ZU A U H) (hAB : ∀ q, B q → A q) : ZU B U H := ⟨⟨h.1.1.narrow hAB, h.1.2.narrow hAB⟩, h.2.1.narrow hAB, h.2.2.narrow hAB⟩
/-- the texts of a class, and what lets its exceptions be what they are -/
def StrU (own : String) (L : List (Nat × String)) (U : State) : Prop := (∀ x ∈ L, ∃ sa, vk_R own x.1 x.2 sa U) ∧ va_Nw (.castable (exn 1) (exn 1)) U ∧ va_Nw (.castable (exn 2) (exn 2)) U ∧ va_Nw (.castable (exn 3) (exn 3)) U
theorem StrU.same {own : String} {L : List (Nat × String)} {u U : State} (hv : U.vm = u.vm) (h : StrU own L u) : StrU own L U := by
  obtain ⟨h0, h1, h2, h3⟩ := h
  refine ⟨fun x hx => ?_, va_tabs rfl hv.symm h1, va_tabs rfl hv.symm h2, va_tabs rfl hv.symm h3⟩
  obtain ⟨sa, q⟩ := h0 x hx
  exact ⟨sa, vk_R.same hv q⟩
theorem StrU.warm {own : String} {L : List (Nat × String)} {s U : State} (hW : s.WarmedH U.vm) (h : StrU own L s) : StrU own L U := by
  obtain ⟨h0, h1, h2, h3⟩ := h
  refine ⟨fun x hx => ?_, va_Nw.warmC hW h1, va_Nw.warmC hW h2, va_Nw.warmC hW h3⟩
  obtain ⟨sa, q⟩ := h0 x hx
  exact ⟨sa, vk_R.warm hW q⟩
/-- how a body that throws E ends -/
def TQ (below : List Frame) (E : String) (B : State → Prop) (s : State) (mc ms : Nat) (free : Addr → Prop) : State → Prop := fun t => ∃ (q : Addr) (ce : Cell) (L : List Loc), t.status = .running ∧ Ended t below (.threw q) ∧ B t ∧ (t.heap[q]? = some ce ∧ ce.vm = .none ∧ s.vm.findClass E = some ce.cls) ∧ s.WarmedH t.vm ∧ s.sameButNew ({ t with vm := s.vm } : State) L mc ms ∧ ∀ z ∈ L, free z.base
/-- the contract of the runs that throw E -/
def MetT (l : Launch) (y : MethodName) (ws : List Cond) (rm : Room) (Pc : Array Value → State → Prop) (E : String) (B : State → State → Prop) (mc ms : Nat) (free : Addr → Prop) : Prop :=
  MetFree l y (headSpec ws rm) Pc (fun _ _ _ _ _ => True) (fun _ st o t => ∃ (q : Addr) (ce : Cell) (L : List Loc), o = .threw q ∧ B st t ∧ (t.heap[q]? = some ce ∧ ce.vm = .none ∧ st.vm.findClass E = some ce.cls) ∧ st.WarmedH t.vm ∧ st.sameButNew ({ t with vm := st.vm } : State) L mc ms ∧ ∀ z ∈ L, free z.base)
theorem MetT.ofW {l : Launch} {y : MethodName} {ws ws' : List Cond} {rm : Room} {Pc : Array Value → State → Prop} {E : String} {B : State → State → Prop} {mc ms : Nat} {free : Addr → Prop} {cc : ByteArray} {maxL : Nat} {ret : Option FieldType} (hy : plainName y.cls = true) (hw : ws = Cond.code y cc maxL ret :: ws')
    (body : ∀ p e s m args below meth c s₁, BodyLoose p l y (headSpec ws rm) cc maxL ret e s m args below meth c s₁ → c.maxLocals = maxL → (∀ x ∈ c.exceptionTable.toList, False) → Pc args s → W p l e (headSpec ws rm).room s m args below meth c s.heap [] 0 0 (TQ below E (B s) s mc ms free) (entryFrame m args maxL)) :
    MetT l y ws rm Pc E B mc ms free := by
  have own : ∀ {args : Array Value} {s : State}, (headSpec ws rm).pre.before args s = true → (Cond.code y cc maxL ret).before args s = true := fun h => atoms_spec (ws := ws) h _ (by rw [hw]; exact List.mem_cons_self)
  refine MetFree.of_bodyS (code := cc) (maxLocals := maxL) (ret := ret) hy (fun args s m h hn => ?_) (fun p e s m args below meth c s₁ Bd hml hP _ => ?_)
  · obtain ⟨meth, c, h1, h2, h3, h4, h5, h6, -⟩ := Cond.code_spec hn (own h)
    exact ⟨meth, c, h1, h2, h3, h4, h5, h6⟩
  · have ht : ∀ x ∈ c.exceptionTable.toList, False := by
      obtain ⟨meth9, c9, h1, h2, -, -, -, -, h7, -⟩ := Cond.code_spec Bd.named (own Bd.pre)
      cases Option.some.inj (h1.symm.trans Bd.method)
      cases Option.some.inj (h2.symm.trans (Stand.of_body Bd).code)
      intro x hx
      rw [Array.isEmpty_iff.mp h7] at hx
      cases hx
    have hh : s₁.heap = s.heap := by rw [Bd.state]; rfl
    obtain ⟨t, st, q, ce, L, hr, he, hB, hc, hWm, hsm, hL⟩ := body p e s m args below meth c s₁ Bd hml ht hP s₁ hh (Stand.of_body Bd)
    exact ⟨t, .threw q, st, hr, he, q, ce, L, rfl, hB, hc, hWm, hsm, hL⟩
section TH2
variable {p : Program} {l : Launch} {e : Env} {R : Room} {s : State} {m : MethodId} {args : Array Value} {below : List Frame} {meth : Method} {c : Code} {H : Heap} {locs : List Loc} {cells slots : Nat} {Q : State → Prop}
/-- the frame g, q thrown over it -/
def TW (p : Program) (l : Launch) (e : Env) (R : Room) (s : State) (m : MethodId) (args : Array Value) (below : List Frame) (meth : Method) (c : Code) (H : Heap) (locs : List Loc) (cells slots : Nat) (Q : State → Prop) (g : JFrame) (q : Addr) : Prop :=
  ∀ T : State, T.heap = H → Stand p l e R s m args below meth c T locs cells slots → ∃ t, Steps p.tables e below ((T.setTop g).pushFrame (.throwing q)) t ∧ Q t
/-- nothing catches it here -/
theorem tw_out {pc : Nat} {ls : Array Slot} {rest : List Value} {E : String} {ce : Cell} {q : Addr} {B : State → Prop} {mc ms : Nat} {free : Addr → Prop} (ht : ∀ x ∈ c.exceptionTable.toList, False) (hlk : meth.locks = false) (hce : H[q]? = some ce) (hv : ce.vm = .none) (hcl : s.vm.findClass E = some ce.cls) (hB : ∀ t : State, t.heap = H → s.vm.Alike t.vm → B t) (hf : ∀ z ∈ locs, free z.base) (hc : cells ≤ mc) (hs : slots ≤ ms) :
    TW p l e R s m args below meth c H locs cells slots (TQ below E B s mc ms free) (F0 m pc ls rest) q := by
  intro T hT X
  obtain ⟨st, hr, he, hW, hsm⟩ := X.leaveThrown q (g := F0 m pc ls rest) rfl rfl rfl (fun x hx => (ht x hx).elim) hlk
  exact ⟨_, st, q, ce, locs, hr, he, hB _ hT hW.alike, ⟨by show T.heap[q]? = some ce; rw [hT]; exact hce, hv, hcl⟩, hW, hsm.mono hc hs, hf⟩
end TH2
