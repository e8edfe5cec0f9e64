/-! the inodes that come up, on both sides -/
section TR
variable {N NW Bk : Nat} {sz bk nb : Int32} {wd : Nat → Int64} {dk : Nat → Int32} {mb mp : Nat → Int32} {gI gg : Int32} {G : Nat} {M : Nat → Nat} {Q : Nat} {fx : Nat → Int32}
def cntK (f : Nat → Int32) : Nat → Nat
  | 0 => 0
  | n+1 => cntK f n + (if f (n + 1) = 1 then 1 else 0)
theorem cntK_le (f : Nat → Int32) : ∀ n, cntK f n ≤ n := by
  intro n
  induction n with
  | zero => exact Nat.le_refl _
  | succ n ih =>
    rw [cntK]
    by_cases c : f (n + 1) = 1
    · rw [if_pos c]; omega
    · rw [if_neg c]; omega
theorem cntK_out {f : Nat → Int32} {i : Nat} {x : Int32} : ∀ n, n < i → cntK (upd f i x) n = cntK f n := by
  intro n
  induction n with
  | zero => intro _; rfl
  | succ n ih =>
    intro h
    rw [cntK, cntK, ih (by omega), upd_ne _ _ _ (by omega)]
theorem cntK_upd {f : Nat → Int32} {i : Nat} (hi : 1 ≤ i) (hf : f i ≠ 1) : ∀ n, i ≤ n → cntK (upd f i 1) n = cntK f n + 1 := by
  intro n
  induction n with
  | zero => intro h; omega
  | succ n ih =>
    intro h
    rw [cntK, cntK]
    by_cases e : i = n + 1
    · subst e
      rw [cntK_out n (by omega), upd_at, if_pos rfl, if_neg hf]
    · rw [ih (by omega), upd_ne _ _ _ (by omega)]; omega
theorem cntK_lt {f : Nat → Int32} {i n : Nat} (hi : 1 ≤ i) (hn : i ≤ n) (hf : f i ≠ 1) : cntK f n < n := by
  have h1 := cntK_upd hi hf n hn
  have h2 := cntK_le (upd f i 1) n
  omega
def LineR (wd : Nat → Int64) (Bk G : Nat) (M : Nat → Nat) (Q : Nat) (kn li pa ins oq pq fo : Nat → Int32) (c : Nat) : Prop := ∀ j, j < c → ∃ i : Nat, (li j).toInt = (i : Int) ∧ InR G Q i ∧ oq j = li j ∧ kn i = 1 ∧ pq i = pa j ∧ fo i = ins j ∧ WholeF wd Bk G M i ∧ ∃ j', j' ≤ j ∧ li j' = pa j ∧ ∃ i' : Nat, (li j').toInt = (i' : Int) ∧ tyN wd Bk G M i' = 16384
def TreeR (wd : Nat → Int64) (Bk G : Nat) (M : Nat → Nat) (Q : Nat) (fx tk kn li pa ins tn oq pq fo ca : Nat → Int32) (c : Nat) : Prop := TK tk fx tn ∧ LineR wd Bk G M Q kn li pa ins oq pq fo c ∧ (∀ i, i < 4097 → (ca i = 0 ↔ kn i ≠ 1)) ∧ (∀ j j', j < c → j' < c → li j = li j' → j = j') ∧ cntK kn (Q * G) = c ∧ (∀ i, InR G Q i → kn i = 1 → ∃ j, j < c ∧ (li j).toInt = ((i : Nat) : Int)) ∧ 1 ≤ c ∧ li 0 = 2
theorem stand_eq {kn li pa ins : Nat → Int32} {cm a1 a2 : Int32} {i c : Nat} (hi : a1.toInt = (i : Int)) (h1 : 1 ≤ i) (h2 : i < 4097) (hc : cm.toInt = (c : Int)) (hc2 : c < 4096) :
    f_S_standInLine NW kn li pa ins cm a1 a2 = some (upd kn i 1, upd li c a1, upd pa c a2, upd ins c 0, cm + 1) := by
  have z1 : (1 : Int32).toInt = 1 := by decide
  have z0 : (0 : Int32).toInt = 0 := by decide
  have z4 : (4097 : Int32).toInt = 4097 := by decide
  have z5 : (4096 : Int32).toInt = 4096 := by decide
  unfold f_S_standInLine
  have o1 : ¬ oob a1 4097 := by rw [oob_iff, hi]; omega
  have o2 : ¬ oob cm 4096 := by rw [oob_iff, hc]; omega
  rw [if_neg (by rw [lt32, hi, z1]; omega), if_neg (by rw [le32, hi, z4]; omega), if_neg (by rw [lt32, hc, z0]; omega), if_pos (by rw [lt32, hc, z5]; omega), if_neg o1]
  simp only [lt1, if_neg o2]
  rw [nn32 hi, nn32 hc]
theorem comes_eq (hC : CtxD NW sz bk Bk) (hS : Same dk wd Bk) (hM : CtxM mp gg G M Q Bk) {oq pq fo ca : Nat → Int32} {mn a1 a2 : Int32} {i c d : Nat} (hi : a1.toInt = (i : Int)) (h1 : InR G Q i) (hc : mn.toInt = (c : Int)) (hc2 : c < 4096) (hd : a2.toInt = (d : Int)) (hd2 : d < 4200) :
    f_M_comes dk gg mp mn oq pq fo ca a1 a2 = some (mn + 1, upd oq c a1, upd pq i a2, (if i ≠ 2 ∧ tyN wd Bk G M i = 16384 then upd (upd fo i 0) d ((upd fo i 0) d + 1) else upd fo i 0), upd ca i 1) := by
  have hQG : Q * G < 4096 := hM.2.2.2.2.2.1
  have h1a := h1.1
  have h1b := h1.2
  have z2 : (2 : Int32).toInt = 2 := by decide
  unfold f_M_comes
  have o1 : ¬ oob a1 4200 := by rw [oob_iff, hi]; omega
  have o2 : ¬ oob mn 4200 := by rw [oob_iff, hc]; omega
  have o3 : ¬ oob a2 4200 := by rw [oob_iff, hd]; omega
  simp only [lt1, if_neg o1, if_neg o2, if_neg o3]
  rw [nn32 hi, nn32 hc, nn32 hd, nar_bool1, mtypeOf_eq hC hS hM hi h1a (inR_div h1)]
  have q1 : a1 = 2 ↔ i = 2 := by rw [eq32, hi, z2]; omega
  have q2 : Int32.ofNat (tyN wd Bk G M i) = 16384 ↔ tyN wd Bk G M i = 16384 := is32 (tyN_lt i) (by decide)
  simp only [q1, q2, bd1]
  by_cases c1 : i = 2
  · rw [if_pos c1, if_neg (by omega)]
  · rw [if_neg c1]
    by_cases c2 : tyN wd Bk G M i = 16384
    · rw [if_pos c2, if_pos ⟨c1, c2⟩]
    · rw [if_neg c2, if_neg (fun h => c2 h.2)]
theorem known_eq {kn : Nat → Int32} {a1 : Int32} {i : Nat} (hi : a1.toInt = (i : Int)) (h1 : 1 ≤ i) (h2 : i < 4097) : f_S_isKnown NW kn a1 = some (if kn i = 1 then 1 else 0) := by
  have z1 : (1 : Int32).toInt = 1 := by decide
  have z4 : (4097 : Int32).toInt = 4097 := by decide
  unfold f_S_isKnown
  rw [if_neg (by rw [lt32, hi, z1]; omega), if_neg (by rw [le32, hi, z4]; omega), if_neg (by rw [oob_iff, hi]; omega), nn32 hi]
  by_cases c : kn i = 1
  · rw [if_pos c, if_pos c]
  · rw [if_neg c, if_neg c]
/-- one more inode comes up -/
theorem come_sim (hC : CtxD NW sz bk Bk) (hS : Same dk wd Bk) (hM : CtxM mp gg G M Q Bk) {tk kn li pa ins tn oq pq fo ca tk' tn' : Nat → Int32} {c idx i d : Nat} {cm a1 : Int32} (hR : TreeR wd Bk G M Q fx tk kn li pa ins tn oq pq fo ca c) (hcm : cm.toInt = (c : Int)) (hi : a1.toInt = (i : Int)) (hir : InR G Q i) (hk : kn i ≠ 1) (hW : WholeF wd Bk G M i) (hT : TK tk' fx tn') (hidx : idx < c) (hd : (li idx).toInt = (d : Int)) (hty : tyN wd Bk G M d = 16384) :
    ∃ kn1 li1 pa1 ins1 oq1 pq1 fo1 ca1, f_S_standInLine NW kn li pa ins cm a1 (li idx) = some (kn1, li1, pa1, ins1, cm + 1) ∧ f_M_comes dk gg mp cm oq pq fo ca a1 (li idx) = some (cm + 1, oq1, pq1, fo1, ca1) ∧ (cm + 1).toInt = ((c + 1 : Nat) : Int) ∧ TreeR wd Bk G M Q fx tk' kn1 li1 pa1 (if tyN wd Bk G M i = 16384 then upd ins1 idx (ins1 idx + 1) else ins1) tn' oq1 pq1 fo1 ca1 (c + 1) ∧ (∀ j, j < c → li1 j = li j ∧ pa1 j = pa j) ∧ (∀ x, kn x = 1 → kn1 x = 1) ∧ kn1 i = 1 := by
  obtain ⟨hT0, hLine, hca, hinj, hcnt, hall, hc1, hl0⟩ := hR
  have hQG : Q * G < 4096 := hM.2.2.2.2.2.1
  have h1a := hir.1
  have h1b := hir.2
  have hclt := cntK_lt (f := kn) h1a h1b hk
  rw [hcnt] at hclt
  have z2 : (2 : Int32).toInt = 2 := by decide
  have hkn2 : kn 2 = 1 := by
    obtain ⟨i0, q1, -, -, q4, -⟩ := hLine 0 (by omega)
    rw [hl0, z2] at q1
    rw [show (2 : Nat) = i0 by omega]; exact q4
  have hi2 : i ≠ 2 := fun e => hk (by rw [e]; exact hkn2)
  obtain ⟨dd, e1, e2, e3, e4, e5, e6, e7, e8⟩ := hLine idx hidx
  have hdd : dd = d := by omega
  subst hdd
  have hid : i ≠ dd := fun e => hk (by rw [e]; exact e4)
  have e2a := e2.1
  have e2b := e2.2
  refine ⟨_, _, _, _, _, _, _, _, stand_eq hi h1a (by omega) hcm (by omega), comes_eq hC hS hM hi hir hcm (by omega) hd (by omega), ?_, ?_, ?_, ?_, upd_at _ _ _⟩
  · rw [add32 (y := 1) hcm (by decide) (by omega) (by omega)]; omega
  · refine ⟨hT, ?_, ?_, ?_, ?_, ?_, by omega, by rw [upd_ne _ _ _ (by omega)]; exact hl0⟩
    · intro j hj
      by_cases ej : j = c
      · subst ej
        refine ⟨i, by rw [upd_at]; exact hi, hir, by rw [upd_at, upd_at], upd_at _ _ _, by rw [upd_at, upd_at], ?_, hW, idx, by omega, by rw [upd_at, upd_ne _ _ _ (by omega)], dd, by rw [upd_ne _ _ _ (by omega)]; exact hd, hty⟩
        by_cases ct : tyN wd Bk G M i = 16384
        · rw [if_pos ⟨hi2, ct⟩, if_pos ct, upd_ne _ _ _ hid, upd_at, upd_ne _ _ _ (by omega), upd_at]
        · rw [if_neg (fun h => ct h.2), if_neg ct, upd_at, upd_at]
      · obtain ⟨i', f1, f2, f3, f4, f5, f6, f7, j', f8, f9, i'', f10, f11⟩ := hLine j (by omega)
        have hii : i' ≠ i := fun e => hk (by rw [← e]; exact f4)
        refine ⟨i', by rw [upd_ne _ _ _ ej]; exact f1, f2, by rw [upd_ne _ _ _ ej, upd_ne _ _ _ ej]; exact f3, by rw [upd_ne _ _ _ hii]; exact f4, by rw [upd_ne _ _ _ hii, upd_ne _ _ _ ej]; exact f5, ?_, f7, j', f8, by rw [upd_ne _ _ _ (by omega), upd_ne _ _ _ ej]; exact f9, i'', by rw [upd_ne _ _ _ (by omega)]; exact f10, f11⟩
        by_cases ct : tyN wd Bk G M i = 16384
        · rw [if_pos ⟨hi2, ct⟩, if_pos ct]
          by_cases ejx : j = idx
          · subst ejx
            have : i' = dd := by omega
            subst this
            rw [upd_at, upd_at, upd_ne _ _ _ hii, upd_ne _ _ _ ej, f6]
          · have hne : i' ≠ dd := by
              intro e
              subst e
              exact ejx (hinj j idx (by omega) hidx (by rw [eq32]; omega))
            rw [upd_ne _ _ _ hne, upd_ne _ _ _ hii, upd_ne _ _ _ ejx, upd_ne _ _ _ ej, f6]
        · rw [if_neg (fun h => ct h.2), if_neg ct, upd_ne _ _ _ hii, upd_ne _ _ _ ej, f6]
    · intro x hx
      by_cases ex : x = i
      · subst ex
        rw [upd_at, upd_at]
        constructor
        · intro h; exact absurd h (by decide)
        · intro h; exact absurd rfl h
      · rw [upd_ne _ _ _ ex, upd_ne _ _ _ ex]; exact hca x hx
    · intro j j' hj hj' e
      have hnew : ∀ j, j < c → li j ≠ a1 := by
        intro j hj e
        obtain ⟨i', f1, f2, f3, f4, -⟩ := hLine j hj
        have : i' = i := by rw [e] at f1; omega
        exact hk (by rw [← this]; exact f4)
      by_cases c1 : j = c
      · by_cases c2 : j' = c
        · omega
        · rw [c1, upd_at, upd_ne _ _ _ c2] at e
          exact absurd e.symm (hnew j' (by omega))
      · by_cases c2 : j' = c
        · rw [c2, upd_at, upd_ne _ _ _ c1] at e
          exact absurd e (hnew j (by omega))
        · rw [upd_ne _ _ _ c1, upd_ne _ _ _ c2] at e
          exact hinj j j' (by omega) (by omega) e
    · rw [cntK_upd h1a hk _ h1b, hcnt]
    · intro x hx hkx
      by_cases ex : x = i
      · subst ex
        exact ⟨c, by omega, by rw [upd_at]; exact hi⟩
      · rw [upd_ne _ _ _ ex] at hkx
        obtain ⟨j, q1, q2⟩ := hall x hx hkx
        exact ⟨j, by omega, by rw [upd_ne _ _ _ (by omega)]; exact q2⟩
  · intro j hj
    exact ⟨upd_ne _ _ _ (by omega), upd_ne _ _ _ (by omega)⟩
  · intro x hx
    by_cases ex : x = i
    · subst ex; exact upd_at _ _ _
    · rw [upd_ne _ _ _ ex]; exact hx
/-- the items of a directory come up -/
theorem items_loop (hC : CtxD NW sz bk Bk) (hnb : nb = bk) (hS : Same dk wd Bk) (hL : CtxL mb gI G M Q) (hM : CtxM mp gg G M Q Bk) (hN : 524289 ≤ N) {qq dI xi y1 : Int32} {idx d par nT : Nat} (hxi : xi.toInt = (idx : Int)) (hdI : dI.toInt = (d : Int)) (hdr : InR G Q d) (hW : WholeF wd Bk G M d) (hty : tyN wd Bk G M d = 16384) (h1024 : szN wd Bk G M d % 1024 = 0) (hchT : Chain wd Bk G M Q d par (szN wd Bk G M d) nT 0 0) (hnT : 2 ≤ nT) {K64 : (Nat → Int32) → Int32 → (Nat → Int32) → (Nat → Int32) → (Nat → Int32) → (Nat → Int32) → Int32 → Int32 → Option (Int32 × (Nat → Int32) × Int32 × (Nat → Int32) × (Nat → Int32) × (Nat → Int32) × (Nat → Int32) × Int32)} :
    ∀ (n off k kc kt c : Nat) (pre : List Nat) (tk kn li pa ins tn oq pq fo ca : Nat → Int32) (cm fd x3 y3 : Int32) (of : Int64) (od : Int32) (pl hd : Int64), Chain wd Bk G M Q d par (szN wd Bk G M d) n off k → EAt wd Bk G M d of od pl hd off k → x3.toInt = (k : Int) → y3.toInt = ((pre.length : Nat) : Int) → itemsN wd Bk G M d nT 0 0 = pre ++ itemsN wd Bk G M d n off k → n < kc → n < kt → 12 * k ≤ off → pre.length ≤ k → TreeR wd Bk G M Q fx tk kn li pa ins tn oq pq fo ca c → cm.toInt = (c : Int) → idx < c → li idx = dI →
    (∃ (of' : Int64) (od' : Int32) (pl' hd' : Int64) (tk' kn' li' pa' ins' : Nat → Int32) (cm' : Int32) (tn' : Nat → Int32) (mn' : Int32) (oq' pq' fo' ca' : Nat → Int32) (fd' : Int32), f_S_itemsComeUp_32 N NW bk sz wd mb gI kc dI (Int64.ofNat (szN wd Bk G M d)) of od pl hd tk kn li pa ins cm xi dI x3 = some (0, dI, Int64.ofNat (szN wd Bk G M d), of', od', pl', hd', tk', kn', li', pa', ins', cm') ∧ f_M_tree_105 N nb dk gg qq mp fx K64 kt tn cm oq pq fo ca fd y1 dI y3 = some (4, tn', mn', oq', pq', fo', ca', fd')) ∨
    (∃ (of' : Int64) (od' : Int32) (pl' hd' : Int64) (tk' kn' li' pa' ins' : Nat → Int32) (cm' : Int32) (tn' oq' pq' fo' ca' : Nat → Int32) (fd' : Int32) (c' : Nat), f_S_itemsComeUp_32 N NW bk sz wd mb gI kc dI (Int64.ofNat (szN wd Bk G M d)) of od pl hd tk kn li pa ins cm xi dI x3 = some (1, dI, Int64.ofNat (szN wd Bk G M d), of', od', pl', hd', tk', kn', li', pa', ins', cm') ∧ f_M_tree_105 N nb dk gg qq mp fx K64 kt tn cm oq pq fo ca fd y1 dI y3 = K64 tn' cm' oq' pq' fo' ca' fd' (y1 + 1) ∧ TreeR wd Bk G M Q fx tk' kn' li' pa' ins' tn' oq' pq' fo' ca' c' ∧ cm'.toInt = (c' : Int) ∧ c ≤ c' ∧ (∀ j, j < c → li' j = li j ∧ pa' j = pa j) ∧ (∀ x, kn x = 1 → kn' x = 1) ∧ ∀ o, o ∈ itemsN wd Bk G M d n off k → kn' (hIno (hvN wd Bk G M d o)) = 1) := by
  have hB2 := hC.2.2.2.2
  have hQG : Q * G < 4096 := hM.2.2.2.2.2.1
  have hsz : szN wd Bk G M d ≤ 1024 * Bk := hW.1
  have h8 := inR_div hdr
  have z43 : (43691 : Int32).toInt = 43691 := by decide
  intro n
  induction n with
  | zero =>
    intro off k kc kt c pre tk kn li pa ins tn oq pq fo ca cm fd x3 y3 of od pl hd hch hE h3 hy3 hpre hkc hkt h12 hpk hR hcm hidx hli
    right
    simp only [Chain] at hch
    cases kc with
    | zero => omega
    | succ kc =>
    cases kt with
    | zero => omega
    | succ kt =>
    have hf := (finds_eq (N := N) hC hS hM (by omega) (x2 := y3) hdI hdr hW h1024 hy3 hchT hnT fd).2 (by rw [hpre]; simp [itemsN])
    refine ⟨of, od, pl, hd, tk, kn, li, pa, ins, cm, tn, oq, pq, fo, ca, fd, c, ?_, ?_, hR, hcm, Nat.le_refl _, fun j _ => ⟨rfl, rfl⟩, fun x h => h, fun o ho => by simp [itemsN] at ho⟩
    · rw [f_S_itemsComeUp_32, if_neg (by rw [le32, h3, z43]; omega), hE.1, isOn_eq (szN_lt d) (by omega), if_neg (by omega)]
      simp only [bd1]
      first | rw [if_pos rfl] | rw [if_pos trivial]
    · rw [f_M_tree_105, hf]
      simp only [bd2, lt1]
      first | rw [if_pos rfl] | rw [if_pos trivial]
  | succ n ih =>
    intro off k kc kt c pre tk kn li pa ins tn oq pq fo ca cm fd x3 y3 of od pl hd hch hE h3 hy3 hpre hkc hkt h12 hpk hR hcm hidx hli
    have hchL := chain_len _ _ _ hch
    obtain ⟨hlt, ⟨l1, l2⟩, hent, hch'⟩ := hch
    cases kc with
    | zero => omega
    | succ kc =>
    obtain ⟨eo, ek, ep, eh⟩ := id hE
    have hv := hvN_lt (wd := wd) (Bk := Bk) (G := G) (M := M) d off
    obtain ⟨of1, od1, pl1, hd1, ea, hA⟩ := advance_eq hC hL hdI hdr.1 h8 hE l1 (by omega) (by omega)
    have e3 : (x3 + 1).toInt = ((k + 1 : Nat) : Int) := by rw [add32 (y := 1) h3 (by decide) (by omega) (by omega)]; omega
    have eC : ∀ (tk kn li pa ins : Nat → Int32) (cm : Int32), f_S_itemsComeUp_115 N NW bk sz wd mb gI (f_S_itemsComeUp_32 N NW bk sz wd mb gI kc) dI (Int64.ofNat (szN wd Bk G M d)) of od pl hd tk kn li pa ins cm xi dI x3 = f_S_itemsComeUp_32 N NW bk sz wd mb gI kc dI (Int64.ofNat (szN wd Bk G M d)) of1 od1 pl1 hd1 tk kn li pa ins cm xi dI (x3 + 1) := by
      intro tk kn li pa ins cm
      unfold f_S_itemsComeUp_115
      rw [ea]
      rfl
    have eHead : f_S_itemsComeUp_32 N NW bk sz wd mb gI (kc + 1) dI (Int64.ofNat (szN wd Bk G M d)) of od pl hd tk kn li pa ins cm xi dI x3 = (if (if 2 ≤ k ∧ hIno (hvN wd Bk G M d off) ≠ 0 then (1 : Int32) else 0) = 0 then (f_S_itemsComeUp_115 N NW bk sz wd mb gI (f_S_itemsComeUp_32 N NW bk sz wd mb gI kc) dI (Int64.ofNat (szN wd Bk G M d)) of od pl hd tk kn li pa ins cm xi dI x3) else bd1 (f_E_inode NW hd) (fun (r_8 : Int32) => bd1 (f_S_isKnown NW kn r_8) (fun (r_10 : Int32) => (if r_10 = 0 then bd2 (f_S_takeWhole N NW bk sz wd mb gI tk r_8) (fun (r_13 : Int32) (tk_14 : Nat → Int32) => (if r_13 = 0 then some ((0 : Int32), dI, (Int64.ofNat (szN wd Bk G M d)), of, od, pl, hd, tk_14, kn, li, pa, ins, cm) else bd5 (f_S_standInLine NW kn li pa ins cm r_8 dI) (fun (kn_17 : Nat → Int32) (li_18 : Nat → Int32) (pa_19 : Nat → Int32) (ins_20 : Nat → Int32) (cm_21 : Int32) => bd1 (f_E_mark NW hd) (fun (r_23 : Int32) => (if r_23 = ((2 : Int32)) then if oob xi 4096 then none else if oob xi 4096 then none else lt1 (upd ins_20 (Int32.toNatClampNeg xi) ((ins_20 (Int32.toNatClampNeg xi)) + ((1 : Int32)))) (fun (ins_28 : Nat → Int32) => (f_S_itemsComeUp_115 N NW bk sz wd mb gI (f_S_itemsComeUp_32 N NW bk sz wd mb gI kc) dI (Int64.ofNat (szN wd Bk G M d)) of od pl hd tk_14 kn_17 li_18 pa_19 ins_28 cm_21 xi dI x3)) else (f_S_itemsComeUp_115 N NW bk sz wd mb gI (f_S_itemsComeUp_32 N NW bk sz wd mb gI kc) dI (Int64.ofNat (szN wd Bk G M d)) of od pl hd tk_14 kn_17 li_18 pa_19 ins_20 cm_21 xi dI x3)))))) else some ((0 : Int32), dI, (Int64.ofNat (szN wd Bk G M d)), of, od, pl, hd, tk, kn, li, pa, ins, cm))))) := by
      rw [f_S_itemsComeUp_32, if_neg (by rw [le32, h3, z43]; omega), eo, isOn_eq (szN_lt d) (by omega), if_pos hlt]
      simp only [bd1]
      rw [if_neg (by decide), eh, isItem_eq ek hv]
    rw [eHead]
    by_cases ci : 2 ≤ k ∧ hIno (hvN wd Bk G M d off) ≠ 0
    · rw [if_pos ci, if_neg (by decide)]
      have hE2 : EntOK wd Bk G M Q d par (plc wd Bk G M d off) (hvN wd Bk G M d off) k := by
        rcases hent with h | h
        · exact absurd h.2 ci.2
        · exact h
      have hir : InR G Q (hIno (hvN wd Bk G M d off)) := hE2.1
      have hia := hir.1
      have hib := hir.2
      obtain ⟨ri, ei, hri⟩ := inode_eq (NW := NW) hv (by omega)
      obtain ⟨rm, em, hrm⟩ := mark_eq (NW := NW) hv
      have hlist : itemsN wd Bk G M d nT 0 0 = pre ++ off :: itemsN wd Bk G M d n (off + hLen (hvN wd Bk G M d off)) (k + 1) := by
        rw [hpre, itemsN, if_pos ci]
      obtain ⟨rf, ef, hrf⟩ := (finds_eq (N := N) hC hS hM (by omega) (x2 := y3) hdI hdr hW h1024 hy3 hchT hnT fd).1 off (by rw [hlist]; simp)
      have hin := plc_in hW hlt
      have efour : f_M_four dk rf = some (Int64.ofNat (hIno (hvN wd Bk G M d off))) := by
        rw [four_n4 hC hS (a := plc wd Bk G M d off) hrf (by omega), (head_split (wd := wd) (Bk := Bk) (e := plc wd Bk G M d off) (by omega)).1]; rfl
      have eii : (Int64.ofNat (hIno (hvN wd Bk G M d off))).toInt32 = ri := by
        rw [eq32, hri, cut6432 (num64 (v := hIno (hvN wd Bk G M d off)) (by omega)) (by omega) (by omega)]
      cases kt with
      | zero => omega
      | succ kt =>
      rw [f_M_tree_105, ef]
      simp only [bd2]
      rw [if_neg (by decide), efour]
      simp only [bd1, lt1]
      rw [eii, if_neg (by rw [oob_iff, hri]; omega), nn32 hri, eh, ei]
      simp only []
      rw [known_eq hri hia (by omega)]
      simp only []
      have hcak := hR.2.2.1 (hIno (hvN wd Bk G M d off)) (by omega)
      by_cases ck : kn (hIno (hvN wd Bk G M d off)) = 1
      · left
        rw [if_pos ck, if_neg (by decide), if_neg (fun h => (hcak.mp h) ck)]
        exact ⟨_, _, _, _, _, _, _, _, _, _, _, _, _, _, _, _, _, rfl, rfl⟩
      · rw [if_neg ck, if_pos rfl, if_pos (hcak.mpr ck)]
        obtain ⟨rw1, tk1, tn1, ew1, ew2, hw⟩ := whole_sim (N := N) (fx := fx) hC hnb hS hL hM hri hia (inR_div hir) (by omega) hR.1
        rw [ew1, ew2]
        simp only [bd2]
        rcases hw with h0 | ⟨h1, hT1, hW1⟩
        · left
          rw [if_pos h0, if_pos h0]
          exact ⟨_, _, _, _, _, _, _, _, _, _, _, _, _, _, _, _, _, rfl, rfl⟩
        · rw [if_neg (by rw [h1]; decide), if_neg (by rw [h1]; decide)]
          obtain ⟨kn1, li1, pa1, ins1, oq1, pq1, fo1, ca1, f1, f2, f3, f4, f5, f6, f7⟩ := come_sim (NW := NW) hC hS hM hR hcm hri hir ck hW1 hT1 hidx (by rw [hli]; exact hdI) hty
          rw [hli] at f1 f2
          rw [f1, f2]
          simp only [bd5]
          rw [em]
          simp only [bd1]
          have z2 : (2 : Int32).toInt = 2 := by decide
          have q2 : rm = 2 ↔ tyN wd Bk G M (hIno (hvN wd Bk G M d off)) = 16384 := by
            rw [eq32, hrm, z2]
            rcases (hE2.2.2.2.2 ci.1).2 with ⟨a, b⟩ | ⟨a, b⟩ <;> omega
          have hidx4 : ¬ oob xi 4096 := by
            have := cntK_le kn (Q * G)
            rw [hR.2.2.2.2.1] at this
            rw [oob_iff, hxi]; omega
          have eBoth : (if rm = 2 then if oob xi 4096 then none else if oob xi 4096 then none else lt1 (upd ins1 (Int32.toNatClampNeg xi) ((ins1 (Int32.toNatClampNeg xi)) + ((1 : Int32)))) (fun (ins_28 : Nat → Int32) => (f_S_itemsComeUp_115 N NW bk sz wd mb gI (f_S_itemsComeUp_32 N NW bk sz wd mb gI kc) dI (Int64.ofNat (szN wd Bk G M d)) of od pl hd tk1 kn1 li1 pa1 ins_28 (cm + 1) xi dI x3)) else (f_S_itemsComeUp_115 N NW bk sz wd mb gI (f_S_itemsComeUp_32 N NW bk sz wd mb gI kc) dI (Int64.ofNat (szN wd Bk G M d)) of od pl hd tk1 kn1 li1 pa1 ins1 (cm + 1) xi dI x3)) = f_S_itemsComeUp_32 N NW bk sz wd mb gI kc dI (Int64.ofNat (szN wd Bk G M d)) of1 od1 pl1 hd1 tk1 kn1 li1 pa1 (if tyN wd Bk G M (hIno (hvN wd Bk G M d off)) = 16384 then upd ins1 idx (ins1 idx + 1) else ins1) (cm + 1) xi dI (x3 + 1) := by
            simp only [q2]
            by_cases ct : tyN wd Bk G M (hIno (hvN wd Bk G M d off)) = 16384
            · rw [if_pos ct, if_pos ct, if_neg hidx4, if_neg hidx4]
              simp only [lt1]
              rw [nn32 hxi, eC]
            · rw [if_neg ct, if_neg ct, eC]
          rw [eh] at eBoth
          simp only [lt1] at eBoth
          rw [eBoth]
          have hlen1 : (pre ++ [off]).length = pre.length + 1 := by simp
          have ey3 : (y3 + 1).toInt = (((pre ++ [off]).length : Nat) : Int) := by rw [hlen1, add32 (y := 1) hy3 (by decide) (by omega) (by omega)]; omega
          rcases ih (off + hLen (hvN wd Bk G M d off)) (k + 1) kc kt (c + 1) (pre ++ [off]) tk1 kn1 li1 pa1 (if tyN wd Bk G M (hIno (hvN wd Bk G M d off)) = 16384 then upd ins1 idx (ins1 idx + 1) else ins1) tn1 oq1 pq1 fo1 ca1 (cm + 1) rf (x3 + 1) (y3 + 1) of1 od1 pl1 hd1 hch' hA e3 ey3 (by rw [hlist]; simp) (by omega) (by omega) (by omega) (by rw [hlen1]; omega) f4 f3 (by omega) (by rw [(f5 idx hidx).1]; exact hli) with h | ⟨of', od', pl', hd', tk', kn', li', pa', ins', cm', tn', oq', pq', fo', ca', fd', c', g1, g2, g3, g4, g5, g6, g7, g8⟩
          · exact Or.inl h
          · right
            refine ⟨of', od', pl', hd', tk', kn', li', pa', ins', cm', tn', oq', pq', fo', ca', fd', c', g1, g2, g3, g4, by omega, fun j hj => ?_, fun x hx => g7 x (f6 x hx), fun o ho => ?_⟩
            · obtain ⟨a, b⟩ := g6 j (by omega)
              obtain ⟨a', b'⟩ := f5 j hj
              exact ⟨a.trans a', b.trans b'⟩
            · rw [itemsN, if_pos ci] at ho
              rcases List.mem_cons.mp ho with e | e
              · subst e; exact g7 _ f7
              · exact g8 o e
    · rw [if_neg ci, if_pos rfl, eC]
      have hsame : itemsN wd Bk G M d (n + 1) off k = itemsN wd Bk G M d n (off + hLen (hvN wd Bk G M d off)) (k + 1) := by rw [itemsN, if_neg ci]
      rw [hsame]
      exact ih (off + hLen (hvN wd Bk G M d off)) (k + 1) kc kt c pre tk kn li pa ins tn oq pq fo ca cm fd (x3 + 1) y3 of1 od1 pl1 hd1 hch' hA e3 hy3 (by rw [hpre, hsame]) (by omega) (by omega) (by omega) (by omega) hR hcm hidx hli
end TR
