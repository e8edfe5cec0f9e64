/-! the items of a directory of a sound volume, counted and sought, on both sides -/
section CA
variable {N NW Bk : Nat} {sz bk nb : Int32} {wd : Nat → Int64} {dk : Nat → Int32} {mb mp : Nat → Int32} {gI gg : Int32} {G : Nat} {M : Nat → Nat} {Q : Nat} {fx : Nat → Int32}
theorem items_len (d : Nat) : ∀ n off k, (itemsN wd Bk G M d n off k).length ≤ n := by
  intro n
  induction n with
  | zero => intro off k; simp [itemsN]
  | succ n ih =>
    intro off k
    have := ih (off + hLen (hvN wd Bk G M d off)) (k + 1)
    rw [itemsN]
    by_cases c : 2 ≤ k ∧ hIno (hvN wd Bk G M d off) ≠ 0
    · rw [if_pos c, List.length_cons]; omega
    · rw [if_neg c]; omega
theorem count_loop (hC : CtxD NW sz bk Bk) (hL : CtxL mb gI G M Q) {dI hr : Int32} {d par : Nat} (hdI : dI.toInt = (d : Int)) (hdr : InR G Q d) (hsz : szN wd Bk G M d ≤ 524288) :
    ∀ (n off k kc m : Nat) (of : Int64) (od : Int32) (pl hd : Int64) (x1 x2 : Int32), Chain wd Bk G M Q d par (szN wd Bk G M d) n off k → EAt wd Bk G M d of od pl hd off k → x1.toInt = (m : Int) → x2.toInt = (k : Int) → 12 * k ≤ off → m ≤ k → n < kc →
    ∃ (r : Int32) (of' : Int64) (od' : Int32) (pl' hd' : Int64), f_V_countItems_15 N NW sz wd mb gI hr kc dI (Int64.ofNat (szN wd Bk G M d)) of od pl hd x1 x2 = some (r, dI, Int64.ofNat (szN wd Bk G M d), of', od', pl', hd') ∧ r.toInt = ((m + (itemsN wd Bk G M d n off k).length : Nat) : Int) := by
  have h8 := inR_div hdr
  have z43 : (43691 : Int32).toInt = 43691 := by decide
  intro n
  induction n with
  | zero =>
    intro off k kc m of od pl hd x1 x2 hch hE h1 h2 h12 hmk hkc
    simp only [Chain] at hch
    cases kc with
    | zero => omega
    | succ kc =>
    refine ⟨x1, of, od, pl, hd, ?_, by simp [itemsN]; exact h1⟩
    rw [f_V_countItems_15, if_neg (show ¬ (43691 : Int32) ≤ x2 by rw [le32, h2, z43]; omega), hE.1, isOn_eq (szN_lt d) (by omega), if_neg (by omega)]
    simp only [bd1]
    first | rw [if_pos rfl] | rw [if_pos trivial]
  | succ n ih =>
    intro off k kc m of od pl hd x1 x2 hch hE h1 h2 h12 hmk hkc
    have hchL := chain_len _ _ _ hch
    obtain ⟨hlt, ⟨l1, l2⟩, hent, hch'⟩ := hch
    cases kc with
    | zero => omega
    | succ kc =>
    obtain ⟨eo, ek, ep, eh⟩ := id hE
    have hv := hvN_lt (wd := wd) (Bk := Bk) (G := G) (M := M) d off
    obtain ⟨of1, od1, pl1, hd1, ea, hA⟩ := advance_eq hC hL hdI hdr.1 h8 hE l1 (by omega) (by omega)
    have e2 : (x2 + 1).toInt = ((k + 1 : Nat) : Int) := by rw [add32 (y := 1) h2 (by decide) (by omega) (by omega)]; omega
    have eC : ∀ y1 : Int32, f_V_countItems_44 N NW sz wd mb gI hr (f_V_countItems_15 N NW sz wd mb gI hr kc) dI (Int64.ofNat (szN wd Bk G M d)) of od pl hd y1 x2 = f_V_countItems_15 N NW sz wd mb gI hr kc dI (Int64.ofNat (szN wd Bk G M d)) of1 od1 pl1 hd1 y1 (x2 + 1) := by
      intro y1
      unfold f_V_countItems_44
      rw [ea]
      rfl
    have eH : f_V_countItems_15 N NW sz wd mb gI hr (kc + 1) dI (Int64.ofNat (szN wd Bk G M d)) of od pl hd x1 x2 = (if (if 2 ≤ k ∧ hIno (hvN wd Bk G M d off) ≠ 0 then (1 : Int32) else 0) = 0 then f_V_countItems_15 N NW sz wd mb gI hr kc dI (Int64.ofNat (szN wd Bk G M d)) of1 od1 pl1 hd1 x1 (x2 + 1) else f_V_countItems_15 N NW sz wd mb gI hr kc dI (Int64.ofNat (szN wd Bk G M d)) of1 od1 pl1 hd1 (x1 + 1) (x2 + 1)) := by
      rw [← eC, ← eC, f_V_countItems_15, if_neg (show ¬ (43691 : Int32) ≤ x2 by rw [le32, h2, z43]; omega), eo, isOn_eq (szN_lt d) (by omega), if_pos hlt]
      simp only [bd1, lt1]
      rw [if_neg (by decide), eh, isItem_eq ek hv]
    rw [eH, itemsN]
    by_cases ci : 2 ≤ k ∧ hIno (hvN wd Bk G M d off) ≠ 0
    · simp only [if_pos ci]
      rw [if_neg (show ¬ (1 : Int32) = 0 by decide)]
      obtain ⟨r, of', od', pl', hd', f1, f2⟩ := ih (off + hLen (hvN wd Bk G M d off)) (k + 1) kc (m + 1) of1 od1 pl1 hd1 (x1 + 1) (x2 + 1) hch' hA (by rw [add32 (y := 1) h1 (by decide) (by omega) (by omega)]; omega) e2 (by omega) (by omega) (by omega)
      refine ⟨r, of', od', pl', hd', f1, ?_⟩
      rw [f2, List.length_cons]; omega
    · simp only [if_neg ci]
      first | rw [if_pos rfl] | rw [if_pos trivial]
      exact ih (off + hLen (hvN wd Bk G M d off)) (k + 1) kc m of1 od1 pl1 hd1 x1 (x2 + 1) hch' hA h1 e2 (by omega) (by omega) (by omega)
theorem countItems_eq (hC : CtxD NW sz bk Bk) (hL : CtxL mb gI G M Q) (hN : 524289 ≤ N) {dI : Int32} {d par n : Nat} (hdI : dI.toInt = (d : Int)) (hdr : InR G Q d) (hW : WholeF wd Bk G M d) (hch : Chain wd Bk G M Q d par (szN wd Bk G M d) n 0 0) {dr : Int32} {es of : Int64} {od : Int32} {pl hd : Int64} :
    ∃ (r dr' : Int32) (es' of' : Int64) (od' : Int32) (pl' hd' : Int64), f_V_countItems N NW sz wd mb gI dr es of od pl hd dI = some (r, dr', es', of', od', pl', hd') ∧ r.toInt = (((itemsN wd Bk G M d n 0 0).length : Nat) : Int) := by
  have hB2 := hC.2.2.2.2
  have hsz := hW.1
  have hl := chain_len _ _ _ hch
  unfold f_V_countItems
  rw [start_eq hC hL hdI hdr.1 (inR_div hdr)]
  simp only [bd6]
  obtain ⟨r, of', od', pl', hd', f1, f2⟩ := count_loop (N := N) (hr := dI) hC hL hdI hdr (by omega) n 0 0 N 0 0 0 (Int64.ofNat (plc wd Bk G M d 0)) (Int64.ofNat (hvN wd Bk G M d 0)) 0 0 hch (eat_start d) (by decide) (by decide) (by omega) (by omega) (by omega)
  exact ⟨r, _, _, of', od', pl', hd', f1, by rw [f2]; omega⟩
theorem seek_loop (hC : CtxD NW sz bk Bk) (hL : CtxL mb gI G M Q) {dI hr x1 : Int32} {d par : Nat} (hdI : dI.toInt = (d : Int)) (hdr : InR G Q d) (hsz : szN wd Bk G M d ≤ 524288) (hx1 : ¬ x1 < 0) :
    ∀ (n off k kc t : Nat) (of : Int64) (od : Int32) (pl hd : Int64) (x2 x3 : Int32), Chain wd Bk G M Q d par (szN wd Bk G M d) n off k → EAt wd Bk G M d of od pl hd off k → x2.toInt = (t : Int) → x3.toInt = (k : Int) → 12 * k ≤ off → n < kc →
    (∀ o, (itemsN wd Bk G M d n off k)[t]? = some o → ∃ (of' : Int64) (od' : Int32) (pl' hd' : Int64) (k' : Nat), f_V_seekItem_15 N NW sz wd mb gI hr kc dI (Int64.ofNat (szN wd Bk G M d)) of od pl hd x1 x2 x3 = some (0, dI, Int64.ofNat (szN wd Bk G M d), of', od', pl', hd') ∧ EAt wd Bk G M d of' od' pl' hd' o k') ∧ ((itemsN wd Bk G M d n off k)[t]? = none → ∃ (of' : Int64) (od' : Int32) (pl' hd' : Int64), f_V_seekItem_15 N NW sz wd mb gI hr kc dI (Int64.ofNat (szN wd Bk G M d)) of od pl hd x1 x2 x3 = some (2, dI, Int64.ofNat (szN wd Bk G M d), of', od', pl', hd')) := by
  have h8 := inR_div hdr
  have z43 : (43691 : Int32).toInt = 43691 := by decide
  have z0 : (0 : Int32).toInt = 0 := by decide
  intro n
  induction n with
  | zero =>
    intro off k kc t of od pl hd x2 x3 hch hE h2 h3 h12 hkc
    simp only [Chain] at hch
    cases kc with
    | zero => omega
    | succ kc =>
    refine ⟨fun o ho => by simp [itemsN] at ho, fun _ => ⟨of, od, pl, hd, ?_⟩⟩
    rw [f_V_seekItem_15, if_neg hx1, if_neg (show ¬ (43691 : Int32) ≤ x3 by rw [le32, h3, z43]; omega), hE.1, isOn_eq (szN_lt d) (by omega), if_neg (by omega)]
    simp only [bd1]
    first | rw [if_pos rfl] | rw [if_pos trivial]
    rfl
  | succ n ih =>
    intro off k kc t of od pl hd x2 x3 hch hE h2 h3 h12 hkc
    have hchL := chain_len _ _ _ hch
    obtain ⟨hlt, ⟨l1, l2⟩, hent, hch'⟩ := hch
    cases kc with
    | zero => omega
    | succ kc =>
    obtain ⟨eo, ek, ep, eh⟩ := id hE
    have hv := hvN_lt (wd := wd) (Bk := Bk) (G := G) (M := M) d off
    have hi2 := i32_hi x2
    obtain ⟨of1, od1, pl1, hd1, ea, hA⟩ := advance_eq hC hL hdI hdr.1 h8 hE l1 (by omega) (by omega)
    have e3 : (x3 + 1).toInt = ((k + 1 : Nat) : Int) := by rw [add32 (y := 1) h3 (by decide) (by omega) (by omega)]; omega
    have eC : ∀ y2 : Int32, f_V_seekItem_53 N NW sz wd mb gI hr (f_V_seekItem_15 N NW sz wd mb gI hr kc) dI (Int64.ofNat (szN wd Bk G M d)) of od pl hd x1 y2 x3 = f_V_seekItem_15 N NW sz wd mb gI hr kc dI (Int64.ofNat (szN wd Bk G M d)) of1 od1 pl1 hd1 x1 y2 (x3 + 1) := by
      intro y2
      unfold f_V_seekItem_53
      rw [ea]
      rfl
    have eH : f_V_seekItem_15 N NW sz wd mb gI hr (kc + 1) dI (Int64.ofNat (szN wd Bk G M d)) of od pl hd x1 x2 x3 = (if (if 2 ≤ k ∧ hIno (hvN wd Bk G M d off) ≠ 0 then (1 : Int32) else 0) = 0 then f_V_seekItem_15 N NW sz wd mb gI hr kc dI (Int64.ofNat (szN wd Bk G M d)) of1 od1 pl1 hd1 x1 x2 (x3 + 1) else (if x2 = 0 then some (0, dI, Int64.ofNat (szN wd Bk G M d), of, od, pl, hd) else f_V_seekItem_15 N NW sz wd mb gI hr kc dI (Int64.ofNat (szN wd Bk G M d)) of1 od1 pl1 hd1 x1 (x2 + (-1)) (x3 + 1))) := by
      rw [← eC, ← eC, f_V_seekItem_15, if_neg hx1, if_neg (show ¬ (43691 : Int32) ≤ x3 by rw [le32, h3, z43]; omega), eo, isOn_eq (szN_lt d) (by omega), if_pos hlt]
      simp only [bd1, lt1]
      rw [if_neg (by decide), eh, isItem_eq ek hv]
    rw [eH, itemsN]
    by_cases ci : 2 ≤ k ∧ hIno (hvN wd Bk G M d off) ≠ 0
    · simp only [if_pos ci]
      rw [if_neg (show ¬ (1 : Int32) = 0 by decide)]
      by_cases ct : t = 0
      · subst ct
        rw [if_pos (show x2 = 0 by rw [eq32, h2, z0]; rfl)]
        refine ⟨fun o ho => ?_, fun ho => by simp at ho⟩
        simp at ho
        subst ho
        exact ⟨of, od, pl, hd, k, rfl, hE⟩
      · rw [if_neg (show ¬ x2 = 0 by rw [eq32, h2, z0]; omega)]
        have := ih (off + hLen (hvN wd Bk G M d off)) (k + 1) kc (t - 1) of1 od1 pl1 hd1 (x2 + (-1)) (x3 + 1) hch' hA (by rw [add32 (y := -1) h2 (by decide) (by omega) (by omega)]; omega) e3 (by omega) (by omega)
        rw [show t = (t - 1) + 1 by omega, List.getElem?_cons_succ]
        exact this
    · simp only [if_neg ci]
      first | rw [if_pos rfl] | rw [if_pos trivial]
      exact ih (off + hLen (hvN wd Bk G M d off)) (k + 1) kc t of1 od1 pl1 hd1 x2 (x3 + 1) hch' hA h2 e3 (by omega) (by omega)
/-- item a1 of a directory, on both sides -/
def ItemAt (L : List Nat) (a1 : Int32) (o : Nat) : Prop := 0 ≤ a1.toInt ∧ L[a1.toInt.toNat]? = some o
theorem seekItem_eq (hC : CtxD NW sz bk Bk) (hL : CtxL mb gI G M Q) (hN : 524289 ≤ N) {dI a1 : Int32} {d par n : Nat} (hdI : dI.toInt = (d : Int)) (hdr : InR G Q d) (hW : WholeF wd Bk G M d) (hch : Chain wd Bk G M Q d par (szN wd Bk G M d) n 0 0) {dr : Int32} {es of : Int64} {od : Int32} {pl hd : Int64} :
    (∃ (o : Nat) (of' : Int64) (od' : Int32) (pl' hd' : Int64) (k' : Nat), ItemAt (itemsN wd Bk G M d n 0 0) a1 o ∧ f_V_seekItem N NW sz wd mb gI dr es of od pl hd dI a1 = some (0, dI, Int64.ofNat (szN wd Bk G M d), of', od', pl', hd') ∧ EAt wd Bk G M d of' od' pl' hd' o k') ∨ ((∀ o, ¬ ItemAt (itemsN wd Bk G M d n 0 0) a1 o) ∧ ∃ (of' : Int64) (od' : Int32) (pl' hd' : Int64), f_V_seekItem N NW sz wd mb gI dr es of od pl hd dI a1 = some (2, dI, Int64.ofNat (szN wd Bk G M d), of', od', pl', hd')) := by
  have hB2 := hC.2.2.2.2
  have hsz := hW.1
  have hl := chain_len _ _ _ hch
  have z0 : (0 : Int32).toInt = 0 := by decide
  unfold f_V_seekItem
  rw [start_eq hC hL hdI hdr.1 (inR_div hdr)]
  simp only [bd6]
  by_cases c : a1 < 0
  · right
    obtain ⟨m, em⟩ : ∃ m, N = m + 1 := ⟨N - 1, by omega⟩
    refine ⟨fun o ho => ?_, 0, 0, Int64.ofNat (plc wd Bk G M d 0), Int64.ofNat (hvN wd Bk G M d 0), ?_⟩
    · rw [lt32, z0] at c; have := ho.1; omega
    · conv => lhs; arg 8; rw [em]
      rw [f_V_seekItem_15, if_pos c]
      rfl
  · have hc := c
    rw [lt32, z0] at hc
    have := seek_loop (N := N) (hr := dI) hC hL hdI hdr (by omega) c n 0 0 N a1.toInt.toNat 0 0 (Int64.ofNat (plc wd Bk G M d 0)) (Int64.ofNat (hvN wd Bk G M d 0)) a1 0 hch (eat_start d) (by omega) (by decide) (by omega) (by omega)
    cases hg : (itemsN wd Bk G M d n 0 0)[a1.toInt.toNat]? with
    | none =>
      right
      obtain ⟨of', od', pl', hd', e⟩ := this.2 hg
      exact ⟨fun o ho => by rw [ho.2] at hg; exact absurd hg (by simp), of', od', pl', hd', e⟩
    | some o =>
      left
      obtain ⟨of', od', pl', hd', k', e, hE⟩ := this.1 o hg
      exact ⟨o, of', od', pl', hd', k', ⟨by omega, hg⟩, e, hE⟩
theorem mcount_loop (hC : CtxD NW sz bk Bk) (hS : Same dk wd Bk) (hM : CtxM mp gg G M Q Bk) (hN : 524289 ≤ N) {dI : Int32} {d par n : Nat} (hdI : dI.toInt = (d : Int)) (hdr : InR G Q d) (hW : WholeF wd Bk G M d) (h1024 : szN wd Bk G M d % 1024 = 0) (hch : Chain wd Bk G M Q d par (szN wd Bk G M d) n 0 0) (hn : 2 ≤ n) :
    ∀ (k : Nat) (fd x1 : Int32) (t : Nat), x1.toInt = (t : Int) → t ≤ (itemsN wd Bk G M d n 0 0).length → (itemsN wd Bk G M d n 0 0).length - t < k → ∃ r fd' : Int32, f_M_count_2 N dk gg mp dI k fd x1 = some (r, fd') ∧ r.toInt = (((itemsN wd Bk G M d n 0 0).length : Nat) : Int) := by
  have hlen := items_len (wd := wd) (Bk := Bk) (G := G) (M := M) d n 0 0
  have hl := chain_len _ _ _ hch
  have hB2 := hC.2.2.2.2
  have hsz := hW.1
  intro k
  induction k with
  | zero => intro fd x1 t _ _ h; omega
  | succ k ih =>
    intro fd x1 t h1 ht hk
    rw [f_M_count_2]
    have hf := finds_eq (N := N) hC hS hM (by omega) (x2 := x1) hdI hdr hW h1024 h1 hch hn fd
    by_cases c : t = (itemsN wd Bk G M d n 0 0).length
    · rw [hf.2 (by rw [c]; simp)]
      simp only [bd2]
      first | rw [if_pos rfl] | rw [if_pos trivial]
      exact ⟨x1, fd, rfl, by rw [← c]; exact h1⟩
    · obtain ⟨r, e, -⟩ := hf.1 ((itemsN wd Bk G M d n 0 0)[t]'(by omega)) (List.getElem?_eq_getElem (by omega))
      rw [e]
      simp only [bd2]
      rw [if_neg (show ¬ (1 : Int32) = 0 by decide)]
      simp only [lt1]
      exact ih r (x1 + 1) (t + 1) (by rw [add32 (y := 1) h1 (by decide) (by omega) (by omega)]; omega) (by omega) (by omega)
theorem mcount_eq (hC : CtxD NW sz bk Bk) (hS : Same dk wd Bk) (hM : CtxM mp gg G M Q Bk) (hN : 524289 ≤ N) {dI : Int32} {d par n : Nat} (hdI : dI.toInt = (d : Int)) (hdr : InR G Q d) (hW : WholeF wd Bk G M d) (h1024 : szN wd Bk G M d % 1024 = 0) (hch : Chain wd Bk G M Q d par (szN wd Bk G M d) n 0 0) (hn : 2 ≤ n) (fd : Int32) :
    ∃ r fd' : Int32, f_M_count N dk gg mp dI fd = some (r, fd') ∧ r.toInt = (((itemsN wd Bk G M d n 0 0).length : Nat) : Int) := by
  have hlen := items_len (wd := wd) (Bk := Bk) (G := G) (M := M) d n 0 0
  have hl := chain_len _ _ _ hch
  have hB2 := hC.2.2.2.2
  have hsz := hW.1
  exact mcount_loop hC hS hM hN hdI hdr hW h1024 hch hn N fd 0 0 (by decide) (by omega) (by omega)
/-- what a directory of the line is -/
theorem here_facts {tk kn li pa ins tn oq pq fo ca : Nat → Int32} {c h j : Nat} {hr : Int32} (hR : TreeR wd Bk G M Q fx tk kn li pa ins tn oq pq fo ca c) (hD : DoneR wd Bk G M Q kn li pa c) (hh : hr.toInt = (h : Int)) (hj : j < c) (hlj : li j = hr) (hty : tyN wd Bk G M h = 16384) :
    InR G Q h ∧ WholeF wd Bk G M h ∧ DirR wd Bk G M Q kn (pa j) h := by
  obtain ⟨i, e1, e2, -, -, -, -, e7, -⟩ := hR.2.1 j hj
  have : i = h := by rw [hlj] at e1; omega
  subst this
  exact ⟨e2, e7, hD j hj i e1 hty⟩
/-- what an item of such a directory is -/
theorem item_facts {tk kn li pa ins tn oq pq fo ca : Nat → Int32} {c h par n o : Nat} {a1 : Int32} (hR : TreeR wd Bk G M Q fx tk kn li pa ins tn oq pq fo ca c) (hch : Chain wd Bk G M Q h par (szN wd Bk G M h) n 0 0) (hk : ∀ o, o ∈ itemsN wd Bk G M h n 0 0 → kn (hIno (hvN wd Bk G M h o)) = 1) (ho : ItemAt (itemsN wd Bk G M h n 0 0) a1 o) :
    o < szN wd Bk G M h ∧ InR G Q (hIno (hvN wd Bk G M h o)) ∧ WholeF wd Bk G M (hIno (hvN wd Bk G M h o)) ∧ (∃ j, j < c ∧ (li j).toInt = ((hIno (hvN wd Bk G M h o) : Nat) : Int)) ∧ (8 + hNam (hvN wd Bk G M h o) ≤ hLen (hvN wd Bk G M h o) ∧ o % 1024 + hLen (hvN wd Bk G M h o) ≤ 1024) := by
  have hm := List.mem_of_getElem? ho.2
  obtain ⟨i1, i2, k', i3, i4, i5⟩ := chain_item _ _ _ hch o hm
  have hkn := hk o hm
  obtain ⟨j, j1, j2⟩ := hR.2.2.2.2.2.1 _ i5.1 hkn
  obtain ⟨i, e1, e2, -, -, -, -, e7, -⟩ := hR.2.1 j j1
  have : i = hIno (hvN wd Bk G M h o) := by omega
  rw [this] at e7
  exact ⟨i1, i5.1, e7, ⟨j, j1, j2⟩, i5.2.1.2.1, i2.2⟩
end CA
