/-! the entries of a directory, one behind another -/
section CN
variable {N NW Bk : Nat} {sz bk nb : Int32} {wd : Nat → Int64} {dk : Nat → Int32} {mb mp : Nat → Int32} {gI gg : Int32} {G : Nat} {M : Nat → Nat} {Q : Nat}
def plc (wd : Nat → Int64) (Bk G : Nat) (M : Nat → Nat) (d off : Nat) : Nat := 1024 * blN wd Bk G M d (off / 1024) + off % 1024
def hvN (wd : Nat → Int64) (Bk G : Nat) (M : Nat → Nat) (d off : Nat) : Nat := nu wd Bk ((plc wd Bk G M d off : Nat) : Int) 8
def Chain (wd : Nat → Int64) (Bk G : Nat) (M : Nat → Nat) (Q d par s : Nat) : Nat → Nat → Nat → Prop
  | 0, off, _ => off = s
  | n+1, off, k => off < s ∧ (12 ≤ hLen (hvN wd Bk G M d off) ∧ off % 1024 + hLen (hvN wd Bk G M d off) ≤ 1024) ∧ ((2 ≤ k ∧ hIno (hvN wd Bk G M d off) = 0) ∨ EntOK wd Bk G M Q d par (plc wd Bk G M d off) (hvN wd Bk G M d off) k) ∧ Chain wd Bk G M Q d par s n (off + hLen (hvN wd Bk G M d off)) (k + 1)
def itemsN (wd : Nat → Int64) (Bk G : Nat) (M : Nat → Nat) (d : Nat) : Nat → Nat → Nat → List Nat
  | 0, _, _ => []
  | n+1, off, k => if 2 ≤ k ∧ hIno (hvN wd Bk G M d off) ≠ 0 then off :: itemsN wd Bk G M d n (off + hLen (hvN wd Bk G M d off)) (k + 1) else itemsN wd Bk G M d n (off + hLen (hvN wd Bk G M d off)) (k + 1)
def EAt (wd : Nat → Int64) (Bk G : Nat) (M : Nat → Nat) (d : Nat) (of : Int64) (od : Int32) (pl hd : Int64) (off k : Nat) : Prop := of = Int64.ofNat off ∧ od.toInt = (k : Int) ∧ pl = Int64.ofNat (plc wd Bk G M d off) ∧ hd = Int64.ofNat (hvN wd Bk G M d off)
theorem blN_lt (i b : Nat) : blN wd Bk G M i b < 4294967296 := by
  unfold blN blkN
  by_cases q1 : b < 12
  · rw [if_pos q1]; exact n4_lt _ _ _
  · rw [if_neg q1]
    by_cases q2 : b < 268
    · rw [if_pos q2]; exact n4_lt _ _ _
    · rw [if_neg q2]; exact n4_lt _ _ _
theorem plc_lt (d off : Nat) : plc wd Bk G M d off < 10000000000000 := by
  have := blN_lt (wd := wd) (Bk := Bk) (G := G) (M := M) d (off / 1024)
  unfold plc; omega
theorem hvN_lt (d off : Nat) : hvN wd Bk G M d off < 18446744073709551616 := nu8_lt _
theorem szN_lt (d : Nat) : szN wd Bk G M d < 4294967296 := n4_lt _ _ _
theorem start_eq (hC : CtxD NW sz bk Bk) (hL : CtxL mb gI G M Q) {a1 : Int32} {d : Nat} (hd : a1.toInt = (d : Int)) (h1 : 1 ≤ d) (h8 : (d - 1) / G < Q) {dr : Int32} {es of : Int64} {od : Int32} {pl hd' : Int64} :
    f_E_start NW sz wd mb gI dr es of od pl hd' a1 = some (a1, Int64.ofNat (szN wd Bk G M d), 0, 0, Int64.ofNat (plc wd Bk G M d 0), Int64.ofNat (hvN wd Bk G M d 0)) := by
  unfold f_E_start
  have S0 : f_L_sizeOf NW sz wd mb gI a1 = some (Int64.ofNat (szN wd Bk G M d)) := sizeOf_eq hC hL hd h1 h8
  have B0 : f_L_blockOf NW sz wd mb gI a1 0 = some (Int64.ofNat (blN wd Bk G M d 0)) := blockOf_eq hC hL hd h1 h8 (b := 0) (by decide) (by omega)
  rw [S0, B0]
  simp only [bd1]
  have hb := blN_lt (wd := wd) (Bk := Bk) (G := G) (M := M) d 0
  have ep : plc wd Bk G M d 0 = 1024 * blN wd Bk G M d 0 := by simp [plc]
  have e : (1024 * Int64.ofNat (blN wd Bk G M d 0)).toInt = ((plc wd Bk G M d 0 : Nat) : Int) := by
    rw [ep, mul64 (x := 1024) (by decide) (num64 (v := blN wd Bk G M d 0) (by omega)) (by omega) (by omega)]; omega
  rw [number_nu hC (a := ((plc wd Bk G M d 0 : Nat) : Int)) (n := 8) e (by decide) (by omega) (by omega)]
  simp only []
  have e2 : (1024 * Int64.ofNat (blN wd Bk G M d 0)) = Int64.ofNat (plc wd Bk G M d 0) := by
    rw [eq64, e, num64 (by omega)]
  rw [e2]
  rfl
theorem eat_start (d : Nat) : EAt wd Bk G M d 0 0 (Int64.ofNat (plc wd Bk G M d 0)) (Int64.ofNat (hvN wd Bk G M d 0)) 0 0 := ⟨rfl, by decide, rfl, rfl⟩
theorem advance_eq (hC : CtxD NW sz bk Bk) (hL : CtxL mb gI G M Q) {dr : Int32} {d : Nat} (hd : dr.toInt = (d : Int)) (h1 : 1 ≤ d) (h8 : (d - 1) / G < Q) {of : Int64} {od : Int32} {pl hd' : Int64} {off k : Nat} (h : EAt wd Bk G M d of od pl hd' off k) (hl : 12 ≤ hLen (hvN wd Bk G M d off)) (ho : off < 1000000000) (hk : k < 1000000000) :
    ∃ of' od' pl' hd'', f_E_advance NW sz wd mb gI dr of od pl hd' = some (of', od', pl', hd'') ∧ EAt wd Bk G M d of' od' pl' hd'' (off + hLen (hvN wd Bk G M d off)) (k + 1) := by
  obtain ⟨e1, e2, e3, e4⟩ := h
  subst e1; subst e3; subst e4
  have hv := hvN_lt (wd := wd) (Bk := Bk) (G := G) (M := M) d off
  obtain ⟨rl, el, hrl⟩ := length_eq (NW := NW) hv
  have hll : hLen (hvN wd Bk G M d off) < 65536 := by unfold hLen; omega
  unfold f_E_advance
  rw [el]
  simp only [bd1]
  generalize hLen (hvN wd Bk G M d off) = len at *
  have z12 : (12 : Int32).toInt = 12 := by decide
  have emax : (if (12 : Int32) < rl then rl else 12).toInt = (len : Int) := by
    by_cases c : (12 : Int32) < rl
    · rw [if_pos c, hrl]
    · rw [if_neg c, z12]; rw [lt32, z12, hrl] at c; omega
  have ex : Int64.ofNat off + Int32.toInt64 (if (12 : Int32) < rl then rl else 12) = Int64.ofNat (off + len) := by
    rw [eq64, add64 (num64 (v := off) (by omega)) (ext3264 emax) (by omega) (by omega), num64 (by omega)]; omega
  rw [ex]
  have eo : (Int64.ofNat (off + len)).toInt = ((off + len : Nat) : Int) := num64 (by omega)
  have ho' : off + len < 1000100000 := by omega
  generalize off + len = o' at *
  have ed : (Int64.ofNat o' / 1024).toInt = ((o' / 1024 : Nat) : Int) := by rw [div64 (y := 1024) eo (by decide) (by omega) (by omega)]; omega
  have em : (Int64.ofNat o' - Int64.ofNat o' / 1024 * 1024).toInt = ((o' % 1024 : Nat) : Int) := by rw [rem64 (y := 1024) eo (by decide) (by omega) (by omega)]; omega
  have B1 : f_L_blockOf NW sz wd mb gI dr (Int64.ofNat o' / 1024).toInt32 = some (Int64.ofNat (blN wd Bk G M d (o' / 1024))) := blockOf_eq hC hL hd h1 h8 (b := o' / 1024) (cut6432 ed (by omega) (by omega)) (by omega)
  rw [B1]
  simp only []
  have hb := blN_lt (wd := wd) (Bk := Bk) (G := G) (M := M) d (o' / 1024)
  have ep : plc wd Bk G M d o' = 1024 * blN wd Bk G M d (o' / 1024) + o' % 1024 := rfl
  have e : (1024 * Int64.ofNat (blN wd Bk G M d (o' / 1024)) + (Int64.ofNat o' - Int64.ofNat o' / 1024 * 1024)).toInt = ((plc wd Bk G M d o' : Nat) : Int) := by
    rw [ep, add64 (mul64 (x := 1024) (by decide) (num64 (v := blN wd Bk G M d (o' / 1024)) (by omega)) (by omega) (by omega)) em (by omega) (by omega)]; omega
  rw [number_nu hC (a := ((plc wd Bk G M d o' : Nat) : Int)) (n := 8) e (by decide) (by omega) (by omega)]
  simp only []
  refine ⟨_, _, _, _, rfl, rfl, ?_, ?_, rfl⟩
  · rw [add32 (y := 1) e2 (by decide) (by omega) (by omega)]; omega
  · rw [eq64, e, num64 (by have := plc_lt (wd := wd) (Bk := Bk) (G := G) (M := M) d o'; omega)]
/-- places of a whole directory lie on the disk -/
theorem plc_in {d : Nat} (hW : WholeF wd Bk G M d) {off : Nat} (ho : off < szN wd Bk G M d) : plc wd Bk G M d off + (1024 - off % 1024) ≤ 1024 * Bk := by
  obtain ⟨w1, w2, w3⟩ := hW
  have := (w3 (off / 1024) (by omega)).2
  unfold plc; omega
theorem isOn_eq {s off : Nat} (hs : s < 4294967296) (ho : off < 4294967296) : f_E_isOn NW (Int64.ofNat s) (Int64.ofNat off) = some (if off < s then 1 else 0) := by
  unfold f_E_isOn
  have q : (Int64.ofNat s ≤ Int64.ofNat off) ↔ ¬ off < s := by rw [le64, num64 (by omega), num64 (by omega)]; omega
  simp only [q]
  by_cases c : off < s
  · rw [if_neg (not_not_intro c), if_pos c]
  · rw [if_pos c, if_neg c]
theorem entries_loop (hC : CtxD NW sz bk Bk) (hS : Same dk wd Bk) (hL : CtxL mb gI G M Q) (hM : CtxM mp gg G M Q Bk) (hN : 2050 ≤ N) {iN qq x1 x2 y2 : Int32} {pq : Nat → Int32} {d par : Nat} (hI : iN.toInt = ((Q * G : Nat) : Int)) (hq : qq.toInt = (Q : Int)) (hd : x1.toInt = (d : Int)) (h1 : InR G Q d) (hpar : x2.toInt = (par : Int)) (hpq : pq d = x2) (hW : WholeF wd Bk G M d) (h1024 : szN wd Bk G M d % 1024 = 0) (hy : y2.toInt = ((szN wd Bk G M d : Nat) : Int)) :
    ∀ (kc ko ki off k : Nat) (of : Int64) (od : Int32) (pl hd' : Int64) (x5 x3 x4 y5 x6 : Int32), EAt wd Bk G M d of od pl hd' off k → x5.toInt = (k : Int) → x3.toInt = (k : Int) → x4.toInt = ((off / 1024 : Nat) : Int) → y5.toInt = ((1024 * blN wd Bk G M d (off / 1024) : Nat) : Int) → x6.toInt = ((off % 1024 : Nat) : Int) → off < szN wd Bk G M d → 12 * k ≤ off → szN wd Bk G M d - off < kc → szN wd Bk G M d / 1024 - off / 1024 ≤ ko → 1024 - off % 1024 < ki →
    ∃ (r : Int32) (of' : Int64) (od' : Int32) (pl' hd'' : Int64), f_S_entriesStand_38 N NW sz wd mb gI iN kc x1 (Int64.ofNat (szN wd Bk G M d)) of od pl hd' x1 x2 x5 = some (r, x1, Int64.ofNat (szN wd Bk G M d), of', od', pl', hd'') ∧ f_M_badEntries_53 N dk gg qq mp pq (f_M_badEntries_26 N dk gg qq mp pq ko) ki x1 y2 x3 x4 y5 x6 = some (1 - r) ∧ (r = 0 ∨ (r = 1 ∧ ∃ n, Chain wd Bk G M Q d par (szN wd Bk G M d) n off k ∧ 2 ≤ k + n)) := by
  have hB2 := hC.2.2.2.2
  have hQG : Q * G < 4096 := hM.2.2.2.2.2.1
  have h8 := inR_div h1
  have hd1 := h1.1
  have hd2 := h1.2
  have hsz : szN wd Bk G M d ≤ 1024 * Bk := hW.1
  have z43 : (43691 : Int32).toInt = 43691 := by decide
  have z1024 : (1024 : Int32).toInt = 1024 := by decide
  have z12 : (12 : Int32).toInt = 12 := by decide
  have z2 : (2 : Int32).toInt = 2 := by decide
  intro kc
  induction kc with
  | zero => intro ko ki off k of od pl hd' x5 x3 x4 y5 x6 _ _ _ _ _ _ _ _ h; omega
  | succ kc ih =>
    intro ko ki off k of od pl hd' x5 x3 x4 y5 x6 hE h5 h3 h4 hy5 h6 hlt h12 hkc hko hki
    cases ki with
    | zero => omega
    | succ ki =>
    obtain ⟨eo, ek, ep, eh⟩ := hE
    have hE : EAt wd Bk G M d of od pl hd' off k := ⟨eo, ek, ep, eh⟩
    have hv := hvN_lt (wd := wd) (Bk := Bk) (G := G) (M := M) d off
    have hpl := plc_lt (wd := wd) (Bk := Bk) (G := G) (M := M) d off
    have hin := plc_in hW hlt
    have hpe : plc wd Bk G M d off = 1024 * blN wd Bk G M d (off / 1024) + off % 1024 := rfl
    rw [f_S_entriesStand_38, f_M_badEntries_53, if_neg (by rw [le32, h5, z43]; omega)]
    rw [eo, isOn_eq (szN_lt d) (by omega), if_pos hlt]
    simp only [bd1]
    rw [if_neg (by decide), eh, fits_eq (num64 (v := off) (by omega)) (by omega) hv, isEmpty_eq ek hv]
    simp only []
    rw [if_neg (show ¬ (1024 : Int32) ≤ x6 by rw [le32, h6, z1024]; omega)]
    have er : ((1024 : Int32) - x6).toInt = ((1024 - off % 1024 : Nat) : Int) := by rw [sub32 z1024 h6 (by omega) (by omega)]; omega
    have bad : ∀ y, y = some (1 : Int32) → ∃ (r : Int32) (of' : Int64) (od' : Int32) (pl' hd'' : Int64), some ((0 : Int32), x1, Int64.ofNat (szN wd Bk G M d), Int64.ofNat off, od, pl, Int64.ofNat (hvN wd Bk G M d off)) = some (r, x1, Int64.ofNat (szN wd Bk G M d), of', od', pl', hd'') ∧ y = some (1 - r) ∧ (r = 0 ∨ (r = 1 ∧ ∃ n, Chain wd Bk G M Q d par (szN wd Bk G M d) n off k ∧ 2 ≤ k + n)) := by
      intro y e
      exact ⟨0, _, _, _, _, rfl, e, Or.inl rfl⟩
    by_cases c12 : 1024 - off % 1024 < 12
    · rw [if_pos (show (1024 : Int32) - x6 < 12 by rw [lt32, er, z12]; omega)]
      rw [if_neg (show ¬ (12 ≤ hLen (hvN wd Bk G M d off) ∧ hLen (hvN wd Bk G M d off) % 4 = 0 ∧ off % 1024 + hLen (hvN wd Bk G M d off) ≤ 1024) by omega), if_pos rfl]
      exact bad _ rfl
    · rw [if_neg (show ¬ (1024 : Int32) - x6 < 12 by rw [lt32, er, z12]; omega)]
      have e56 : (y5 + x6).toInt = ((plc wd Bk G M d off : Nat) : Int) := by rw [add32 hy5 h6 (by omega) (by omega), hpe]; omega
      obtain ⟨ri, ei, hri⟩ := isEntry_eq (N := N) hC hS hM (by omega) (qq := qq) (x1 := x1) (x2 := y5 + x6) (x3 := x3) (x4 := 1024 - x6) (pq := pq) (d := d) (par := par) (e := plc wd Bk G M d off) (v := hvN wd Bk G M d off) (k := k) (room := 1024 - off % 1024) hq hd (by omega) (fun _ => by rw [hpq]; exact hpar) e56 h3 (by omega) rfl er (by omega) (by omega) (by omega)
      rw [ei]
      simp only []
      by_cases cf : 12 ≤ hLen (hvN wd Bk G M d off) ∧ hLen (hvN wd Bk G M d off) % 4 = 0 ∧ off % 1024 + hLen (hvN wd Bk G M d off) ≤ 1024
      · rw [if_pos cf, if_neg (by decide)]
        obtain ⟨re, ee, hre⟩ := entryStands_eq (N := N) (wd := wd) hC hL hQG (by omega) (iN := iN) (od := od) (a1 := x1) (a2 := x2) (pl := pl) (e := plc wd Bk G M d off) (v := hvN wd Bk G M d off) (k := k) (d := d) (par := par) hI ek (by rw [ep]; exact num64 (by omega)) (by omega) hv hd hpar
        rw [ee]
        -- the next step of both sides
        have next : ((2 ≤ k ∧ hIno (hvN wd Bk G M d off) = 0) ∨ EntOK wd Bk G M Q d par (plc wd Bk G M d off) (hvN wd Bk G M d off) k) → ∃ (r : Int32) (of' : Int64) (od' : Int32) (pl' hd'' : Int64), f_S_entriesStand_88 N NW sz wd mb gI iN (f_S_entriesStand_38 N NW sz wd mb gI iN kc) x1 (Int64.ofNat (szN wd Bk G M d)) (Int64.ofNat off) od pl (Int64.ofNat (hvN wd Bk G M d off)) x1 x2 x5 = some (r, x1, Int64.ofNat (szN wd Bk G M d), of', od', pl', hd'') ∧ bd1 (f_M_lengthAt dk (y5 + x6)) (fun (r_7 : Int32) => lt1 (x6 + r_7) (fun (v6_9 : Int32) => lt1 (x3 + (1 : Int32)) (fun (v3_10 : Int32) => (f_M_badEntries_53 N dk gg qq mp pq (f_M_badEntries_26 N dk gg qq mp pq ko) ki x1 y2 v3_10 x4 y5 v6_9)))) = some (1 - r) ∧ (r = 0 ∨ (r = 1 ∧ ∃ n, Chain wd Bk G M Q d par (szN wd Bk G M d) n off k ∧ 2 ≤ k + n)) := by
          intro hent
          rw [eo, eh] at hE
          obtain ⟨of', od', pl', hd'', ea, hA⟩ := advance_eq hC hL hd hd1 h8 hE cf.1 (by omega) (by omega)
          unfold f_S_entriesStand_88
          rw [ea]
          simp only [bd4, lt1]
          have hsp := (head_split (wd := wd) (Bk := Bk) (e := plc wd Bk G M d off) (by omega)).2.1
          have elen : f_M_lengthAt dk (y5 + x6) = some (Int32.ofNat (hLen (hvN wd Bk G M d off))) := by
            unfold f_M_lengthAt
            rw [two_n2 hC hS (a := plc wd Bk G M d off + 4) (by rw [add32 (y := 4) e56 (by decide) (by omega) (by omega)]; omega) (by omega), hsp]
            rfl
          rw [elen]
          simp only [bd1]
          have hll : hLen (hvN wd Bk G M d off) < 65536 := by unfold hLen; omega
          have ell : (Int32.ofNat (hLen (hvN wd Bk G M d off))).toInt = ((hLen (hvN wd Bk G M d off) : Nat) : Int) := lit32 _ (by omega)
          have e6 : (x6 + Int32.ofNat (hLen (hvN wd Bk G M d off))).toInt = ((off % 1024 + hLen (hvN wd Bk G M d off) : Nat) : Int) := by rw [add32 h6 ell (by omega) (by omega)]; omega
          have e3 : (x3 + 1).toInt = ((k + 1 : Nat) : Int) := by rw [add32 (y := 1) h3 (by decide) (by omega) (by omega)]; omega
          have e5 : (x5 + 1).toInt = ((k + 1 : Nat) : Int) := by rw [add32 (y := 1) h5 (by decide) (by omega) (by omega)]; omega
          have chain : ∀ n, Chain wd Bk G M Q d par (szN wd Bk G M d) n (off + hLen (hvN wd Bk G M d off)) (k + 1) → Chain wd Bk G M Q d par (szN wd Bk G M d) (n + 1) off k := fun n h => ⟨hlt, ⟨cf.1, cf.2.2⟩, hent, h⟩
          have fin : ∀ {r : Int32}, (r = 0 ∨ (r = 1 ∧ ∃ n, Chain wd Bk G M Q d par (szN wd Bk G M d) n (off + hLen (hvN wd Bk G M d off)) (k + 1) ∧ 2 ≤ k + 1 + n)) → (r = 0 ∨ (r = 1 ∧ ∃ n, Chain wd Bk G M Q d par (szN wd Bk G M d) n off k ∧ 2 ≤ k + n)) := by
            intro r h
            rcases h with h | ⟨g1, n, g2, g3⟩
            · exact Or.inl h
            · exact Or.inr ⟨g1, n + 1, chain n g2, by omega⟩
          obtain ⟨lc1, -, lc3⟩ := cf
          generalize hLen (hvN wd Bk G M d off) = len at *
          by_cases cn : off % 1024 + len < 1024
          · have d1 : (off + len) / 1024 = off / 1024 := by omega
            have d2 : (off + len) % 1024 = off % 1024 + len := by omega
            obtain ⟨r, of2, od2, pl2, hd2, f1, f2, f3⟩ := ih ko ki (off + len) (k + 1) of' od' pl' hd'' (x5 + 1) (x3 + 1) x4 y5 (x6 + Int32.ofNat len) hA e5 e3 (by rw [d1]; exact h4) (by rw [d1]; exact hy5) (by rw [d2]; exact e6) (by omega) (by omega) (by omega) (by omega) (by omega)
            exact ⟨r, of2, od2, pl2, hd2, f1, f2, fin f3⟩
          · have d0 : off % 1024 + len = 1024 := by omega
            have d1 : (off + len) / 1024 = off / 1024 + 1 := by omega
            have d2 : (off + len) % 1024 = 0 := by omega
            cases ki with
            | zero => omega
            | succ ki =>
            rw [f_M_badEntries_53, if_pos (by rw [le32, e6, z1024]; omega)]
            simp only [lt1]
            have e4 : (x4 + 1).toInt = ((off / 1024 + 1 : Nat) : Int) := by rw [add32 (y := 1) h4 (by decide) (by omega) (by omega)]; omega
            have edv : (y2 / 1024).toInt = ((szN wd Bk G M d / 1024 : Nat) : Int) := by rw [div32 (y := 1024) hy (by decide) (by omega) (by omega)]; omega
            cases ko with
            | zero => omega
            | succ ko =>
            rw [f_M_badEntries_26]
            by_cases ce : szN wd Bk G M d / 1024 ≤ off / 1024 + 1
            · have dend : off + len = szN wd Bk G M d := by omega
              rw [if_pos (by rw [le32, edv, e4]; omega)]
              cases kc with
              | zero => omega
              | succ kc =>
              rw [f_S_entriesStand_38, if_neg (by rw [le32, e5, z43]; omega)]
              rw [hA.1, isOn_eq (szN_lt d) (by omega), if_neg (by omega)]
              simp only [bd1]
              first | rw [if_pos rfl] | rw [if_pos trivial]
              unfold f_S_entriesStand_101 f_E_order
              simp only [bd1]
              have hk1 : od'.toInt = ((k + 1 : Nat) : Int) := hA.2.1
              by_cases ck : 2 ≤ k + 1
              · rw [if_neg (by rw [lt32, hk1, z2]; omega), if_pos (by rw [le32, e3, z2]; omega)]
                exact ⟨1, _, _, _, _, rfl, rfl, Or.inr ⟨rfl, 1, chain 0 dend, by omega⟩⟩
              · rw [if_pos (by rw [lt32, hk1, z2]; omega), if_neg (by rw [le32, e3, z2]; omega)]
                exact ⟨0, _, _, _, _, rfl, rfl, Or.inl rfl⟩
            · rw [if_neg (by rw [le32, edv, e4]; omega)]
              have hbn : off / 1024 + 1 < (szN wd Bk G M d + 1023) / 1024 := by omega
              rw [mblockOf_eq hC hS hM hd hd1 h8 e4 hbn (by omega) hW.2.1]
              simp only [bd1, lt1]
              have hb := (hW.2.2 (off / 1024 + 1) hbn).2
              obtain ⟨r, of2, od2, pl2, hd2, f1, f2, f3⟩ := ih ko N (off + len) (k + 1) of' od' pl' hd'' (x5 + 1) (x3 + 1) (x4 + 1) (1024 * (Int64.ofNat (blN wd Bk G M d (off / 1024 + 1))).toInt32) 0 hA e5 e3 (by rw [d1]; exact e4) (by
                rw [d1, mul32 (x := 1024) (by decide) (cut6432 (num64 (by omega)) (by omega) (by omega)) (by omega) (by omega)]; omega) (by rw [d2]; decide) (by omega) (by omega) (by omega) (by omega) (by omega)
              exact ⟨r, of2, od2, pl2, hd2, f1, f2, fin f3⟩
        by_cases cem : 2 ≤ k ∧ hIno (hvN wd Bk G M d off) = 0
        · rw [if_pos cem, if_neg (by decide)]
          rw [if_neg (by rw [hri.t ⟨⟨cf.1, cf.2.1, by omega⟩, Or.inl cem⟩]; decide)]
          exact next (Or.inl cem)
        · rw [if_neg cem, if_pos rfl]
          simp only []
          by_cases cE : EntOK wd Bk G M Q d par (plc wd Bk G M d off) (hvN wd Bk G M d off) k
          · rw [if_neg (by rw [hre.t cE]; decide), if_neg (by rw [hri.t ⟨⟨cf.1, cf.2.1, by omega⟩, Or.inr cE⟩]; decide)]
            exact next (Or.inr cE)
          · rw [if_pos (hre.f cE), if_pos (hri.f (fun h => h.2.elim cem cE))]
            exact bad _ rfl
      · rw [if_neg cf, if_pos rfl, if_pos (hri.f (fun h => cf ⟨h.1.1, h.1.2.1, by omega⟩))]
        exact bad _ rfl
theorem entries_sim (hC : CtxD NW sz bk Bk) (hS : Same dk wd Bk) (hL : CtxL mb gI G M Q) (hM : CtxM mp gg G M Q Bk) (hN : 524289 ≤ N) {iN qq x1 x2 : Int32} {pq : Nat → Int32} {d par : Nat} (hI : iN.toInt = ((Q * G : Nat) : Int)) (hq : qq.toInt = (Q : Int)) (hd : x1.toInt = (d : Int)) (h1 : InR G Q d) (hpar : x2.toInt = (par : Int)) (hpq : pq d = x2) (hW : WholeF wd Bk G M d) {dr : Int32} {es of : Int64} {od : Int32} {pl hd' : Int64} :
    ∃ (r dr' : Int32) (es' of' : Int64) (od' : Int32) (pl' hd'' : Int64), f_S_entriesStand N NW sz wd mb gI iN dr es of od pl hd' x1 x2 = some (r, dr', es', of', od', pl', hd'') ∧ f_M_badEntries N dk gg qq mp pq x1 = some (1 - r) ∧ (r = 0 ∨ (r = 1 ∧ szN wd Bk G M d % 1024 = 0 ∧ ∃ n, Chain wd Bk G M Q d par (szN wd Bk G M d) n 0 0 ∧ 2 ≤ n)) := by
  have hB2 := hC.2.2.2.2
  have h8 := inR_div h1
  have hd1 := h1.1
  have hsz : szN wd Bk G M d ≤ 1024 * Bk := hW.1
  have hs2 := szN_lt (wd := wd) (Bk := Bk) (G := G) (M := M) d
  have z0 : (0 : Int32).toInt = 0 := by decide
  have z00 : (0 : Int64).toInt = 0 := by decide
  unfold f_S_entriesStand f_M_badEntries
  have S0 : f_L_sizeOf NW sz wd mb gI x1 = some (Int64.ofNat (szN wd Bk G M d)) := sizeOf_eq hC hL hd hd1 h8
  rw [S0, msize_eq hC hS hM hd hd1 h8]
  clear S0
  simp only [bd1, lt1]
  have ec : (Int64.ofNat (szN wd Bk G M d)).toInt32.toInt = ((szN wd Bk G M d : Nat) : Int) := cut6432 (num64 (by omega)) (by omega) (by omega)
  have e64 : (Int64.ofNat (szN wd Bk G M d)).toInt = ((szN wd Bk G M d : Nat) : Int) := num64 (by omega)
  have q1 : Int64.ofNat (szN wd Bk G M d) = 0 ↔ szN wd Bk G M d = 0 := zero64_iff (by omega)
  have q2 : (Int64.ofNat (szN wd Bk G M d)).toInt32 = 0 ↔ szN wd Bk G M d = 0 := by rw [eq32, ec, z0]; omega
  have q3 : Int64.ofNat (szN wd Bk G M d) - Int64.ofNat (szN wd Bk G M d) / 1024 * 1024 = 0 ↔ szN wd Bk G M d % 1024 = 0 := by
    rw [eq64, rem64 (y := 1024) e64 (by decide) (by omega) (by omega), z00]; omega
  have q4 : (Int64.ofNat (szN wd Bk G M d)).toInt32 - (Int64.ofNat (szN wd Bk G M d)).toInt32 / 1024 * 1024 = 0 ↔ szN wd Bk G M d % 1024 = 0 := by
    rw [eq32, rem32 (y := 1024) ec (by decide) (by omega) (by omega), z0]; omega
  simp only [q1, q2, q3, q4]
  by_cases c0 : szN wd Bk G M d = 0
  · rw [if_pos c0, if_pos c0]
    exact ⟨0, _, _, _, _, _, _, rfl, rfl, Or.inl rfl⟩
  rw [if_neg c0, if_neg c0]
  by_cases c1 : szN wd Bk G M d % 1024 = 0
  · rw [if_pos c1, if_pos c1, start_eq hC hL hd hd1 h8]
    simp only [bd6]
    obtain ⟨m, em⟩ : ∃ m, N = m + 1 := ⟨N - 1, by omega⟩
    have eR : f_M_badEntries_26 N dk gg qq mp pq N x1 (Int64.ofNat (szN wd Bk G M d)).toInt32 0 0 = f_M_badEntries_53 N dk gg qq mp pq (f_M_badEntries_26 N dk gg qq mp pq m) N x1 (Int64.ofNat (szN wd Bk G M d)).toInt32 0 0 (1024 * (Int64.ofNat (blN wd Bk G M d 0)).toInt32) 0 := by
      conv => lhs; arg 7; rw [em]
      rw [f_M_badEntries_26]
      have edv : ((Int64.ofNat (szN wd Bk G M d)).toInt32 / 1024).toInt = ((szN wd Bk G M d / 1024 : Nat) : Int) := by rw [div32 (y := 1024) ec (by decide) (by omega) (by omega)]; omega
      rw [if_neg (by rw [le32, edv, z0]; omega)]
      rw [mblockOf_eq hC hS hM hd hd1 h8 (b := 0) (n := (szN wd Bk G M d + 1023) / 1024) (by decide) (by omega) (by omega) hW.2.1]
      rfl
    rw [eR]
    have hb := (hW.2.2 0 (by omega)).2
    obtain ⟨r, of2, od2, pl2, hd2, f1, f2, f3⟩ := entries_loop (N := N) hC hS hL hM (by omega) hI hq hd h1 hpar hpq hW c1 ec N m N 0 0 0 0 (Int64.ofNat (plc wd Bk G M d 0)) (Int64.ofNat (hvN wd Bk G M d 0)) 0 0 0 (1024 * (Int64.ofNat (blN wd Bk G M d 0)).toInt32) 0 (eat_start d) (by decide) (by decide) (by decide) (by
      rw [mul32 (x := 1024) (by decide) (cut6432 (num64 (by omega)) (by omega) (by omega)) (by omega) (by omega)]
      show _ = ((1024 * blN wd Bk G M d (0 / 1024) : Nat) : Int)
      rw [show 0 / 1024 = 0 from rfl]; omega) (by decide) (by omega) (by omega) (by omega) (by omega) (by omega)
    refine ⟨r, _, _, of2, od2, pl2, hd2, f1, f2, ?_⟩
    rcases f3 with f3 | ⟨g1, n, g2, g3⟩
    · exact Or.inl f3
    · exact Or.inr ⟨g1, c1, n, g2, by omega⟩
  · rw [if_neg c1, if_neg c1]
    exact ⟨0, _, _, _, _, _, _, rfl, rfl, Or.inl rfl⟩
end CN
