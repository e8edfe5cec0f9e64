/-! a callee's world in the middle of the caller's -/
theorem pa_l {D : va_G} {cl : List vw_C} {a b : va_W} {H : Heap} (h : va_P D cl (a ++ b) H) : va_P D cl a H := fun k q hk => h k q (by rw [List.getElem?_append_left (List.getElem?_eq_some_iff.mp hk).1]; exact hk)
theorem pa_r {D : va_G} {cl : List vw_C} {a b : va_W} {H : Heap} (h : va_P D cl (a ++ b) H) : va_P D cl b H := fun k q hk => h (a.length + k) q (by rw [List.getElem?_append_right (Nat.le_add_right _ _), Nat.add_sub_cancel_left]; exact hk)
def apart (a b : va_W) : Prop := ∀ (i j : Nat) (p q : Nat × va_E), a[i]? = some p → b[j]? = some q → p.1 ≠ q.1
theorem da_l {A : Nat → Prop} {a b : va_W} (h : va_D A (a ++ b)) : va_D A a := by
  refine ⟨fun i j p q hi hj e => h.1 i j p q ?_ ?_ e, fun k q hk => h.2 k q ?_⟩
  · rw [List.getElem?_append_left (List.getElem?_eq_some_iff.mp hi).1]; exact hi
  · rw [List.getElem?_append_left (List.getElem?_eq_some_iff.mp hj).1]; exact hj
  · rw [List.getElem?_append_left (List.getElem?_eq_some_iff.mp hk).1]; exact hk
theorem da_r {A : Nat → Prop} {a b : va_W} (h : va_D A (a ++ b)) : va_D A b := by
  have up : ∀ {k : Nat} {q : Nat × va_E}, b[k]? = some q → (a ++ b)[a.length + k]? = some q := fun hk => by
    rw [List.getElem?_append_right (Nat.le_add_right _ _), Nat.add_sub_cancel_left]; exact hk
  refine ⟨fun i j p q hi hj e => ?_, fun k q hk => h.2 _ q (up hk)⟩
  have := h.1 _ _ p q (up hi) (up hj) e
  omega
theorem da_x {A : Nat → Prop} {a b : va_W} (h : va_D A (a ++ b)) : apart a b := fun i j p q hi hj e => by
  have hil := (List.getElem?_eq_some_iff.mp hi).1
  have h1 : (a ++ b)[i]? = some p := by rw [List.getElem?_append_left hil]; exact hi
  have h2 : (a ++ b)[a.length + j]? = some q := by rw [List.getElem?_append_right (Nat.le_add_right _ _), Nat.add_sub_cancel_left]; exact hj
  have := h.1 _ _ p q h1 h2 e
  omega
theorem da_app {A : Nat → Prop} {a b : va_W} (ha : va_D A a) (hb : va_D A b) (hx : apart a b) : va_D A (a ++ b) := by
  have split : ∀ {k : Nat} {q : Nat × va_E}, (a ++ b)[k]? = some q → (k < a.length ∧ a[k]? = some q) ∨ (a.length ≤ k ∧ b[k - a.length]? = some q) := fun {k q} hk => by
    by_cases hl : k < a.length
    · rw [List.getElem?_append_left hl] at hk; exact Or.inl ⟨hl, hk⟩
    · rw [List.getElem?_append_right (by omega)] at hk; exact Or.inr ⟨by omega, hk⟩
  refine ⟨fun i j p q hi hj e => ?_, fun k q hk => ?_⟩
  · rcases split hi with ⟨_, h1⟩ | ⟨_, h1⟩ <;> rcases split hj with ⟨_, h2⟩ | ⟨_, h2⟩
    · exact ha.1 i j p q h1 h2 e
    · exact absurd e (hx _ _ p q h1 h2)
    · exact absurd e.symm (hx _ _ q p h2 h1)
    · have := hb.1 _ _ p q h1 h2 e; omega
  · rcases split hk with ⟨_, h1⟩ | ⟨_, h1⟩
    · exact ha.2 k q h1
    · exact hb.2 _ q h1
theorem fr_join {D : va_G} {cl : List vw_C} {A0 : Nat → Prop} {pre w w' post : va_W} {H H1 : Heap} (hP : va_P D cl (pre ++ (w ++ post)) H) (hD : va_D A0 (pre ++ (w ++ post))) (hk : ∀ q : Nat, q < H.size → ¬ va_A w H.size q → H1[q]? = H[q]?) (hF : ∀ q, va_A w H.size q → A0 q) (hP1 : va_P D cl w' H1) (hD1 : va_D (va_A w H.size) w') :
    va_P D cl (pre ++ (w' ++ post)) H1 ∧ va_D A0 (pre ++ (w' ++ post)) := by
  have hPp := pa_l hP
  have hPo := pa_r (pa_r hP)
  have hDp := da_l hD
  have hDo := da_r (da_r hD)
  have x1 : apart pre w := fun i j p q hi hj => da_x hD i j p q hi (by rw [List.getElem?_append_left (List.getElem?_eq_some_iff.mp hj).1]; exact hj)
  have x2 : apart w post := da_x (da_r hD)
  have x3 : apart pre post := fun i j p q hi hj => da_x hD i (w.length + j) p q hi (by rw [List.getElem?_append_right (Nat.le_add_right _ _), Nat.add_sub_cancel_left]; exact hj)
  have out1 : ∀ (i : Nat) (p : Nat × va_E), pre[i]? = some p → ¬ va_A w H.size p.1 := fun i p hi h => by
    rcases h with ⟨k, e, hk⟩ | h
    · exact x1 i k p _ hi hk rfl
    · have := (hPp i p hi).lt; omega
  have out2 : ∀ (i : Nat) (p : Nat × va_E), post[i]? = some p → ¬ va_A w H.size p.1 := fun i p hi h => by
    rcases h with ⟨k, e, hk⟩ | h
    · exact x2 k i _ p hk hi rfl
    · have := (hPo i p hi).lt; omega
  refine ⟨(hPp.kept (fun k q hq => hk _ ((hPp k q hq).lt) (out1 k q hq))).app (hP1.app (hPo.kept (fun k q hq => hk _ ((hPo k q hq).lt) (out2 k q hq)))), ?_⟩
  have y2 : apart w' post := fun i j p q hi hj e => out2 j q hj (e ▸ hD1.2 i p hi)
  refine da_app hDp (da_app (hD1.weaken (fun _ _ _ h => hF _ h)) hDo y2) (fun i j p q hi hj e => ?_)
  by_cases hl : j < w'.length
  · rw [List.getElem?_append_left hl] at hj
    exact out1 i p hi (e ▸ hD1.2 j q hj)
  · rw [List.getElem?_append_right (by omega)] at hj
    exact x3 i _ p q hi hj e
theorem fr_free {A0 : Nat → Prop} {pre w post : va_W} {H0 H : Heap} {locs : List Loc} (hD : va_D A0 (pre ++ (w ++ post))) (hS : va_S A0 H0 H locs) (hA : ∀ q, H0.size ≤ q → A0 q) : ∀ q, va_A w H.size q → A0 q := fun q h => by
  rcases h with ⟨k, e, hk⟩ | h
  · exact (da_l (da_r hD)).2 k _ hk
  · exact hA q (Nat.le_trans hS.1 h)
section LC
variable {cells slots : Nat} {p : Program} {l : Launch} {e : Env} {R : Room} {s : State} {m : MethodId} {args : Array Value} {below : List Frame} {meth : Method} {c : Code} {H : Heap} {locs : List Loc} {Q : State → Prop}
variable {cc : ByteArray} {nL : Nat} {Ts : List Cond} {own C own2 : String} {L : List (Nat × String)} {index : Nat} {y : MethodName} {bytes : ByteArray} {maxL : Nat} {ret : Option FieldType} {ws : List Cond} {rm : Room} {n : Nat} {E : String}
variable {D : va_G} {cl : List vw_C} {tys : List (ClassId × FieldType)} {pre w w' post : va_W} {b : Nat} {As rest st0 : List Value} {A0 : Nat → Prop} {pc : Nat} {ls : Array Slot}
theorem lcVi {r : Int32} (S : CallFix p m c cc nL s args Ts own) (hK : va_K D cl tys s) (hP : va_P D cl (pre ++ (w ++ post)) H) (hD : va_D A0 (pre ++ (w ++ post))) (hS : va_S A0 s.heap H locs) (hA : ∀ q, s.heap.size ≤ q → A0 q)
    (hM : ∀ hs, Met l y ws rm (PcU D cl tys w hs (.ref b :: As)) (QUi D cl tys w w' hs r) 0 0 (va_A w hs)) (cw : CallW R s args own C index y bytes maxL ret ws rm 0 0 n)
    (q0 ci : Nat) {q : vw_C} {fs : List Value} (hc : cl[ci]? = some q) (hq : q.1 = C) (he : w[q0]? = some (b, .inr (ci, fs))) (hst : st0 = As.reverse ++ .ref b :: rest) (hn : As.length = n) (hsz : ls.size = nL) (hW : (rest.map fun v => v.category).sum ≤ 8) (hdg : decode cc pc = .ok (.invokevirtual index, 3)) (hrm : cells ≤ R.cells ∧ slots ≤ R.slots)
    (kk : ∀ (H1 : Heap) (locs1 : List Loc), va_P D cl (pre ++ (w' ++ post)) H1 → va_D A0 (pre ++ (w' ++ post)) → va_S A0 s.heap H1 locs1 → W p l e R s m args below meth c H1 locs1 cells slots Q (F0 m (pc + 3) ls (.int r :: rest))) :
    W p l e R s m args below meth c H locs cells slots Q (F0 m pc ls st0) := by
  subst hst
  have hFc := fr_free hD hS hA
  have hPw := pa_l (pa_r hP)
  have hDw := da_l (da_r hD)
  refine va_calli (va_runV (As := As) (rest := rest) S (hM H.size) cw ⟨pcU_blind, hq ▸ va_recv hK hPw hc he, fun U hU hWm => ⟨rfl, by rw [hU], by rw [hU]; exact hPw, va_K.moved hWm.alike hK, hDw.weaken (fun _ _ _ _ => trivial)⟩⟩ rfl hn hsz rfl (lv_room hW) hdg hrm) hS (fun q _ h => hFc q h) hFc (fun r1 u t H1 locs1 ht hvm hw hB hz1 hk1 hS1 => ?_)
  obtain ⟨hP1, hK1, hD1⟩ := hB
  rw [ht] at hP1
  obtain ⟨hP2, hD2⟩ := fr_join hP hD hk1 hFc hP1 hD1
  rw [hw]
  exact kk H1 locs1 hP2 hD2 hS1
theorem lcVl {r : Int64} (S : CallFix p m c cc nL s args Ts own) (hK : va_K D cl tys s) (hP : va_P D cl (pre ++ (w ++ post)) H) (hD : va_D A0 (pre ++ (w ++ post))) (hS : va_S A0 s.heap H locs) (hA : ∀ q, s.heap.size ≤ q → A0 q)
    (hM : ∀ hs, Met l y ws rm (PcU D cl tys w hs (.ref b :: As)) (QUl D cl tys w w' hs r) 0 0 (va_A w hs)) (cw : CallW R s args own C index y bytes maxL ret ws rm 0 0 n)
    (q0 ci : Nat) {q : vw_C} {fs : List Value} (hc : cl[ci]? = some q) (hq : q.1 = C) (he : w[q0]? = some (b, .inr (ci, fs))) (hst : st0 = As.reverse ++ .ref b :: rest) (hn : As.length = n) (hsz : ls.size = nL) (hW : (rest.map fun v => v.category).sum ≤ 8) (hdg : decode cc pc = .ok (.invokevirtual index, 3)) (hrm : cells ≤ R.cells ∧ slots ≤ R.slots)
    (kk : ∀ (H1 : Heap) (locs1 : List Loc), va_P D cl (pre ++ (w' ++ post)) H1 → va_D A0 (pre ++ (w' ++ post)) → va_S A0 s.heap H1 locs1 → W p l e R s m args below meth c H1 locs1 cells slots Q (F0 m (pc + 3) ls (.long r :: rest))) :
    W p l e R s m args below meth c H locs cells slots Q (F0 m pc ls st0) := by
  subst hst
  have hFc := fr_free hD hS hA
  have hPw := pa_l (pa_r hP)
  have hDw := da_l (da_r hD)
  refine va_calll (va_runV (As := As) (rest := rest) S (hM H.size) cw ⟨pcU_blind, hq ▸ va_recv hK hPw hc he, fun U hU hWm => ⟨rfl, by rw [hU], by rw [hU]; exact hPw, va_K.moved hWm.alike hK, hDw.weaken (fun _ _ _ _ => trivial)⟩⟩ rfl hn hsz rfl (lv_room hW) hdg hrm) hS (fun q _ h => hFc q h) hFc (fun r1 u t H1 locs1 ht hvm hw hB hz1 hk1 hS1 => ?_)
  obtain ⟨hP1, hK1, hD1⟩ := hB
  rw [ht] at hP1
  obtain ⟨hP2, hD2⟩ := fr_join hP hD hk1 hFc hP1 hD1
  rw [hw]
  exact kk H1 locs1 hP2 hD2 hS1
theorem lcVv (S : CallFix p m c cc nL s args Ts own) (hK : va_K D cl tys s) (hP : va_P D cl (pre ++ (w ++ post)) H) (hD : va_D A0 (pre ++ (w ++ post))) (hS : va_S A0 s.heap H locs) (hA : ∀ q, s.heap.size ≤ q → A0 q)
    (hM : ∀ hs, Met l y ws rm (PcU D cl tys w hs (.ref b :: As)) (QUv D cl tys w w' hs) 0 0 (va_A w hs)) (cw : CallW R s args own C index y bytes maxL ret ws rm 0 0 n)
    (q0 ci : Nat) {q : vw_C} {fs : List Value} (hc : cl[ci]? = some q) (hq : q.1 = C) (he : w[q0]? = some (b, .inr (ci, fs))) (hst : st0 = As.reverse ++ .ref b :: rest) (hn : As.length = n) (hsz : ls.size = nL) (hW : (rest.map fun v => v.category).sum ≤ 8) (hdg : decode cc pc = .ok (.invokevirtual index, 3)) (hrm : cells ≤ R.cells ∧ slots ≤ R.slots)
    (kk : ∀ (H1 : Heap) (locs1 : List Loc), va_P D cl (pre ++ (w' ++ post)) H1 → va_D A0 (pre ++ (w' ++ post)) → va_S A0 s.heap H1 locs1 → W p l e R s m args below meth c H1 locs1 cells slots Q (F0 m (pc + 3) ls rest)) :
    W p l e R s m args below meth c H locs cells slots Q (F0 m pc ls st0) := by
  subst hst
  have hFc := fr_free hD hS hA
  have hPw := pa_l (pa_r hP)
  have hDw := da_l (da_r hD)
  refine va_callv (va_runV (As := As) (rest := rest) S (hM H.size) cw ⟨pcU_blind, hq ▸ va_recv hK hPw hc he, fun U hU hWm => ⟨rfl, by rw [hU], by rw [hU]; exact hPw, va_K.moved hWm.alike hK, hDw.weaken (fun _ _ _ _ => trivial)⟩⟩ rfl hn hsz rfl (lv_room hW) hdg hrm) hS (fun q _ h => hFc q h) hFc (fun u t H1 locs1 ht hvm hw hB hz1 hk1 hS1 => ?_)
  obtain ⟨hP1, hK1, hD1⟩ := hB
  rw [ht] at hP1
  obtain ⟨hP2, hD2⟩ := fr_join hP hD hk1 hFc hP1 hD1
  exact kk H1 locs1 hP2 hD2 hS1
theorem lcT (S : CallFix p m c cc nL s args Ts own) (hK : va_K D cl tys s) (hP : va_P D cl (pre ++ (w ++ post)) H) (hD : va_D A0 (pre ++ (w ++ post))) (hS : va_S A0 s.heap H locs) (hA : ∀ q, s.heap.size ≤ q → A0 q) (hZ : ZU A0 s s.heap) (hSt : StrU own2 L s)
    (hM : ∀ hs, MetT l y ws rm (PcT D cl tys w hs own2 L (.ref b :: As)) E (BT D cl tys w w' hs) 1 6 (va_A w hs)) (cw : CallW R s args own C index y bytes maxL ret ws rm 1 6 n)
    (q0 ci : Nat) {q : vw_C} {fs : List Value} (hc : cl[ci]? = some q) (hq : q.1 = C) (he : w[q0]? = some (b, .inr (ci, fs))) (hst : st0 = As.reverse ++ .ref b :: rest) (hn : As.length = n) (hsz : ls.size = nL) (hW : (rest.map fun v => v.category).sum ≤ 8) (hdg : decode cc pc = .ok (.invokevirtual index, 3)) (hrm : cells + 1 ≤ R.cells ∧ slots + 6 ≤ R.slots)
    (kx : ∀ (H1 : Heap) (locs1 : List Loc) (q9 : Nat) (ce : Cell), va_P D cl (pre ++ (w' ++ post)) H1 → va_D A0 (pre ++ (w' ++ post)) → va_S A0 s.heap H1 locs1 → H1[q9]? = some ce → ce.vm = .none → s.vm.findClass E = some ce.cls → TW p l e R s m args below meth c H1 locs1 (cells + 1) (slots + 6) Q (F0 m pc ls rest) q9) :
    W p l e R s m args below meth c H locs cells slots Q (F0 m pc ls st0) := by
  subst hst
  have hFc := fr_free hD hS hA
  have hPw := pa_l (pa_r hP)
  have hDw := da_l (da_r hD)
  refine virtT S (hM H.size) cw ⟨pcT_blind, hq ▸ va_recv hK hPw hc he, fun U hU hWm => ⟨rfl, by rw [hU], by rw [hU]; exact hPw, va_K.moved hWm.alike hK, hDw.weaken (fun _ _ _ _ => trivial), by rw [hU]; exact ((hZ.kept hS.2.1).moved hWm.alike).narrow hFc, StrU.warm hWm hSt⟩⟩ hn hsz hW hdg hrm ?_
  intro st t H1 L1 q9 ce hst ht hvm hB hL hce hv hcl
  obtain ⟨hP1, hK1, hD1, hz, hk⟩ := hB
  rw [ht] at hP1 hz hk
  rw [hst] at hz hk
  obtain ⟨hP2, hD2⟩ := fr_join hP hD hk hFc hP1 hD1
  refine kx H1 (locs ++ L1) q9 ce hP2 hD2 ⟨Nat.le_trans hS.1 hz, fun a h1 h2 => ?_, fun z hz => ?_⟩ hce hv hcl
  · rw [hk a (Nat.lt_of_lt_of_le h1 hS.1) (fun h => h2 (hFc a h))]
    exact hS.2.1 a h1 h2
  · rcases List.mem_append.mp hz with h | h
    · exact hS.2.2 z h
    · exact hFc _ (hL z h)
end LC
