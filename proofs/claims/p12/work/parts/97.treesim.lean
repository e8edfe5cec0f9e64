/-! faults 4 and 5, on both sides -/
section TS
variable {N NW Bk : Nat} {sz bk nb : Int32} {wd : Nat → Int64} {dk : Nat → Int32} {mb mp : Nat → Int32} {gI gg : Int32} {G : Nat} {M : Nat → Nat} {Q : Nat} {fx : Nat → Int32}
def DirR (wd : Nat → Int64) (Bk G : Nat) (M : Nat → Nat) (Q : Nat) (kn : Nat → Int32) (pj : Int32) (i : Nat) : Prop := szN wd Bk G M i % 1024 = 0 ∧ ∃ n par : Nat, pj.toInt = (par : Int) ∧ Chain wd Bk G M Q i par (szN wd Bk G M i) n 0 0 ∧ 2 ≤ n ∧ ∀ o, o ∈ itemsN wd Bk G M i n 0 0 → kn (hIno (hvN wd Bk G M i o)) = 1
def DoneR (wd : Nat → Int64) (Bk G : Nat) (M : Nat → Nat) (Q : Nat) (kn li pa : Nat → Int32) (p : Nat) : Prop := ∀ j, j < p → ∀ i : Nat, (li j).toInt = (i : Int) → tyN wd Bk G M i = 16384 → DirR wd Bk G M Q kn (pa j) i
theorem tree_loop (hC : CtxD NW sz bk Bk) (hnb : nb = bk) (hS : Same dk wd Bk) (hL : CtxL mb gI G M Q) (hM : CtxM mp gg G M Q Bk) (hN : 524289 ≤ N) {iN qq : Int32} (hI : iN.toInt = ((Q * G : Nat) : Int)) (hq : qq.toInt = (Q : Int)) :
    ∀ (k km p c : Nat) (dr : Int32) (es of : Int64) (od : Int32) (pl hd : Int64) (tk kn li pa ins : Nat → Int32) (cm : Int32) (tn oq pq fo ca : Nat → Int32) (fd x1 : Int32), x1.toInt = (p : Int) → p ≤ c → 4200 - p < k → 4200 - p < km → TreeR wd Bk G M Q fx tk kn li pa ins tn oq pq fo ca c → cm.toInt = (c : Int) → DoneR wd Bk G M Q kn li pa p →
    (∃ (r : Int32) (dr' : Int32) (es' of' : Int64) (od' : Int32) (pl' hd' : Int64) (tk' kn' li' pa' ins' : Nat → Int32) (cm' : Int32) (tn' : Nat → Int32) (mn' : Int32) (oq' pq' fo' ca' : Nat → Int32) (fd' : Int32), (r = 4 ∨ r = 5) ∧ f_S_treeFault_56 N NW bk sz wd mb gI iN k dr es of od pl hd tk kn li pa ins cm x1 = some (r, dr', es', of', od', pl', hd', tk', kn', li', pa', ins', cm') ∧ f_M_tree_64 N nb dk gg qq mp fx km tn cm oq pq fo ca fd x1 = some (r, tn', mn', oq', pq', fo', ca', fd')) ∨
    (∃ (dr' : Int32) (es' of' : Int64) (od' : Int32) (pl' hd' : Int64) (tk' kn' li' pa' ins' : Nat → Int32) (cm' : Int32) (tn' oq' pq' fo' ca' : Nat → Int32) (fd' : Int32) (c' : Nat), f_S_treeFault_56 N NW bk sz wd mb gI iN k dr es of od pl hd tk kn li pa ins cm x1 = some (0, dr', es', of', od', pl', hd', tk', kn', li', pa', ins', cm') ∧ f_M_tree_64 N nb dk gg qq mp fx km tn cm oq pq fo ca fd x1 = some (0, tn', cm', oq', pq', fo', ca', fd') ∧ TreeR wd Bk G M Q fx tk' kn' li' pa' ins' tn' oq' pq' fo' ca' c' ∧ cm'.toInt = (c' : Int) ∧ DoneR wd Bk G M Q kn' li' pa' c') := by
  have hB2 := hC.2.2.2.2
  have hQG : Q * G < 4096 := hM.2.2.2.2.2.1
  have z4 : (4096 : Int32).toInt = 4096 := by decide
  have z0 : (0 : Int32).toInt = 0 := by decide
  intro k
  induction k with
  | zero => intro km p c dr es of od pl hd tk kn li pa ins cm tn oq pq fo ca fd x1 _ _ h; omega
  | succ k ih =>
    intro km p c dr es of od pl hd tk kn li pa ins cm tn oq pq fo ca fd x1 h1 hpc hk hkm hR hcm hD
    cases km with
    | zero => omega
    | succ km =>
    rw [f_S_treeFault_56, f_M_tree_64]
    by_cases c0 : cm ≤ x1
    · right
      rw [if_pos c0, if_pos c0]; rw [le32, hcm, h1] at c0
      exact ⟨_, _, _, _, _, _, _, _, _, _, _, _, _, _, _, _, _, _, c, rfl, rfl, hR, hcm, by rw [show c = p by omega]; exact hD⟩
    · rw [if_neg c0, if_neg c0]; rw [le32, hcm, h1] at c0
      have hcl := cntK_le kn (Q * G)
      rw [hR.2.2.2.2.1] at hcl
      obtain ⟨i, e1, e2, e3, e4, e5, e6, e7, j', e8, e9, i', e10, e11⟩ := hR.2.1 p (by omega)
      have ho1 : ¬ oob x1 4096 := by rw [oob_iff, h1]; omega
      have ho2 : ¬ oob x1 4200 := by rw [oob_iff, h1]; omega
      rw [if_neg (show ¬ (4096 : Int32) ≤ x1 by rw [le32, h1, z4]; omega)]
      simp only [if_neg ho1, if_neg ho2, lt1]
      rw [nn32 h1, e3]
      have h8 := inR_div e2
      rw [ctypeOf_eq hC hL e1 e2.1 h8, mtypeOf_eq hC hS hM e1 e2.1 h8]
      simp only [bd1]
      have q1 : Int32.ofNat (tyN wd Bk G M i) = 16384 ↔ tyN wd Bk G M i = 16384 := is32 (tyN_lt i) (by decide)
      simp only [q1]
      have ex1 : (x1 + 1).toInt = ((p + 1 : Nat) : Int) := by rw [add32 (y := 1) h1 (by decide) (by omega) (by omega)]; omega
      by_cases ct : tyN wd Bk G M i = 16384
      · rw [if_pos ct, if_pos ct]
        have hpar : (pa p).toInt = (i' : Int) := by rw [← e9]; exact e10
        obtain ⟨re, dr1, es1, of1, od1, pl1, hd1, f1, f2, f3⟩ := entries_sim (N := N) (pq := pq) (dr := dr) (es := es) (of := of) (od := od) (pl := pl) (hd' := hd) hC hS hL hM hN hI hq e1 e2 hpar e5 e7
        rw [f1, f2]
        simp only [bd7]
        rcases f3 with f3 | ⟨g1, g2, n, g3, g4⟩
        · left
          subst f3
          rw [if_pos rfl, if_neg (by decide)]
          exact ⟨5, _, _, _, _, _, _, _, _, _, _, _, _, _, _, _, _, _, _, _, Or.inr rfl, rfl, rfl⟩
        · subst g1
          rw [if_neg (by decide), if_pos (by decide)]
          have eS : f_S_itemsComeUp N NW bk sz wd mb gI dr1 es1 of1 od1 pl1 hd1 tk kn li pa ins cm x1 = f_S_itemsComeUp_32 N NW bk sz wd mb gI N (li p) (Int64.ofNat (szN wd Bk G M i)) 0 0 (Int64.ofNat (plc wd Bk G M i 0)) (Int64.ofNat (hvN wd Bk G M i 0)) tk kn li pa ins cm x1 (li p) 0 := by
            unfold f_S_itemsComeUp
            rw [if_neg (show ¬ x1 < 0 by rw [lt32, h1, z0]; omega), if_pos (show x1 < 4096 by rw [lt32, h1, z4]; omega), if_neg ho1, nn32 h1]
            simp only [lt1]
            rw [start_eq hC hL e1 e2.1 h8]
            rfl
          rw [eS]
          have hlen := chain_len _ _ _ g3
          have hsz : szN wd Bk G M i ≤ 1024 * Bk := e7.1
          rcases items_loop (N := N) (nb := nb) (dk := dk) (gg := gg) (mp := mp) (qq := qq) (y1 := x1) (K64 := f_M_tree_64 N nb dk gg qq mp fx km) hC hnb hS hL hM hN h1 e1 e2 e7 ct g2 g3 g4 n 0 0 N N c [] tk kn li pa ins tn oq pq fo ca cm fd 0 0 0 0 (Int64.ofNat (plc wd Bk G M i 0)) (Int64.ofNat (hvN wd Bk G M i 0)) g3 (eat_start i) (by decide) (by decide) rfl (by omega) (by omega) (by omega) (by simp) hR hcm (by omega) rfl with ⟨of', od', pl', hd', tk', kn', li', pa', ins', cm', tn', mn', oq', pq', fo', ca', fd', a1, a2⟩ | ⟨of', od', pl', hd', tk', kn', li', pa', ins', cm', tn', oq', pq', fo', ca', fd', c', a1, a2, a3, a4, a5, a6, a7, a8⟩
          · left
            rw [a1, a2]
            simp only [bd13]
            first | rw [if_pos rfl] | rw [if_pos trivial]
            exact ⟨4, _, _, _, _, _, _, _, _, _, _, _, _, _, _, _, _, _, _, _, Or.inl rfl, rfl, rfl⟩
          · rw [a1, a2]
            simp only [bd13]
            rw [if_neg (by decide)]
            refine ih km (p + 1) c' _ _ _ _ _ _ tk' kn' li' pa' ins' cm' tn' oq' pq' fo' ca' fd' (x1 + 1) ex1 (by omega) (by omega) (by omega) a3 a4 ?_
            intro j hj ii hii hty
            by_cases ej : j = p
            · subst ej
              rw [(a6 j (by omega)).1] at hii
              have : ii = i := by omega
              subst this
              rw [(a6 j (by omega)).2]
              exact ⟨g2, n, i', hpar, g3, g4, a8⟩
            · rw [(a6 j (by omega)).1] at hii
              rw [(a6 j (by omega)).2]
              obtain ⟨b1, n', par', b2, b3, b4, b5⟩ := hD j (by omega) ii hii hty
              exact ⟨b1, n', par', b2, b3, b4, fun o ho => a7 _ (b5 o ho)⟩
      · rw [if_neg ct, if_neg ct]
        refine ih km (p + 1) c _ _ _ _ _ _ tk kn li pa ins cm tn oq pq fo ca fd (x1 + 1) ex1 (by omega) (by omega) (by omega) hR hcm ?_
        intro j hj ii hii hty
        by_cases ej : j = p
        · subst ej
          have : ii = i := by omega
          subst this
          exact absurd hty ct
        · exact hD j (by omega) ii hii hty
theorem fill8_loop : ∀ (k : Nat) (kn : Nat → Int32) (x2 : Int32) (i : Nat), x2.toInt = (i : Int) → i ≤ 4097 → 4097 - i < k → (∀ b, b < i → kn b = 0) → ∃ kn', f_J_fill8_5 N NW k kn 0 x2 4097 = some kn' ∧ ∀ b, b < 4097 → kn' b = 0 := by
  have z : (4097 : Int32).toInt = 4097 := by decide
  intro k
  induction k with
  | zero => intro kn x2 i _ _ h _; omega
  | succ k ih =>
    intro kn x2 i h1 hi hk hz
    rw [f_J_fill8_5]
    by_cases c : (4097 : Int32) ≤ x2
    · rw [if_pos c]; rw [le32, h1, z] at c
      exact ⟨kn, rfl, fun b hb => hz b (by omega)⟩
    · rw [if_neg c]; rw [le32, h1, z] at c
      rw [if_neg (show ¬ oob x2 4097 by rw [oob_iff, h1]; omega), nn32 h1]
      simp only [lt1]
      exact ih (upd kn i 0) (x2 + 1) (i + 1) (by rw [add32 (y := 1) h1 (by decide) (by omega) (by omega)]; omega) (by omega) (by omega) (by
        intro b hb
        by_cases e : b = i
        · subst e; exact upd_at _ _ _
        · rw [upd_ne _ _ _ e]; exact hz b (by omega))
theorem clearca_loop {qq : Int32} {tn oq pq fo : Nat → Int32} {mn fd : Int32} : ∀ (k : Nat) (ca : Nat → Int32) (x1 : Int32) (i : Nat), x1.toInt = (i : Int) → i ≤ 4200 → 4200 - i < k → (∀ b, b < i → ca b = 0) → ∃ ca', (∀ b, b < 4200 → ca' b = 0) ∧ f_M_tree_7 N nb dk gg qq mp fx k tn mn oq pq fo ca fd x1 = f_M_tree_7 N nb dk gg qq mp fx 1 tn mn oq pq fo ca' fd 4200 := by
  have z : (4200 : Int32).toInt = 4200 := by decide
  intro k
  induction k with
  | zero => intro ca x1 i _ _ h _; omega
  | succ k ih =>
    intro ca x1 i h1 hi hk hz
    by_cases c : 4200 ≤ i
    · refine ⟨ca, fun b hb => hz b (by omega), ?_⟩
      rw [f_M_tree_7, f_M_tree_7, if_pos (show (4200 : Int32) ≤ x1 by rw [le32, h1, z]; omega), if_pos (show (4200 : Int32) ≤ 4200 by decide)]
    · obtain ⟨ca', h, e⟩ := ih (upd ca i 0) (x1 + 1) (i + 1) (by rw [add32 (y := 1) h1 (by decide) (by omega) (by omega)]; omega) (by omega) (by omega) (by
        intro b hb
        by_cases e : b = i
        · subst e; exact upd_at _ _ _
        · rw [upd_ne _ _ _ e]; exact hz b (by omega))
      refine ⟨ca', h, ?_⟩
      rw [← e, f_M_tree_7, if_neg (show ¬ (4200 : Int32) ≤ x1 by rw [le32, h1, z]; omega), if_neg (show ¬ oob x1 4200 by rw [oob_iff, h1]; omega), nn32 h1, nar_bool0]
      rfl
theorem cntK_zero {f : Nat → Int32} : ∀ n, (∀ i, i ≤ n → f i ≠ 1) → cntK f n = 0 := by
  intro n
  induction n with
  | zero => intro _; rfl
  | succ n ih =>
    intro h
    rw [cntK, ih (fun i hi => h i (by omega)), if_neg (h (n + 1) (Nat.le_refl _))]
theorem tree_sim (hC : CtxD NW sz bk Bk) (hnb : nb = bk) (hS : Same dk wd Bk) (hL : CtxL mb gI G M Q) (hM : CtxM mp gg G M Q Bk) (hQ1 : 1 ≤ Q) (hN : 524289 ≤ N) {iN qq : Int32} (hI : iN.toInt = ((Q * G : Nat) : Int)) (hq : qq.toInt = (Q : Int)) (dr : Int32) (es of : Int64) (od : Int32) (pl hd : Int64) (tk kn li pa ins : Nat → Int32) (cm : Int32) (tn : Nat → Int32) (mn : Int32) (oq pq fo ca : Nat → Int32) (fd : Int32) (hT : TK tk fx tn) :
    (∃ (r : Int32) (dr' : Int32) (es' of' : Int64) (od' : Int32) (pl' hd' : Int64) (tk' kn' li' pa' ins' : Nat → Int32) (cm' : Int32) (tn' : Nat → Int32) (mn' : Int32) (oq' pq' fo' ca' : Nat → Int32) (fd' : Int32), (r = 4 ∨ r = 5) ∧ f_S_treeFault N NW bk sz wd mb gI iN dr es of od pl hd tk kn li pa ins cm = some (r, dr', es', of', od', pl', hd', tk', kn', li', pa', ins', cm') ∧ f_M_tree N nb dk gg qq mp fx tn mn oq pq fo ca fd = some (r, tn', mn', oq', pq', fo', ca', fd')) ∨
    (∃ (dr' : Int32) (es' of' : Int64) (od' : Int32) (pl' hd' : Int64) (tk' kn' li' pa' ins' : Nat → Int32) (cm' : Int32) (tn' oq' pq' fo' ca' : Nat → Int32) (fd' : Int32) (c' : Nat), f_S_treeFault N NW bk sz wd mb gI iN dr es of od pl hd tk kn li pa ins cm = some (0, dr', es', of', od', pl', hd', tk', kn', li', pa', ins', cm') ∧ f_M_tree N nb dk gg qq mp fx tn mn oq pq fo ca fd = some (0, tn', cm', oq', pq', fo', ca', fd') ∧ TreeR wd Bk G M Q fx tk' kn' li' pa' ins' tn' oq' pq' fo' ca' c' ∧ cm'.toInt = (c' : Int) ∧ DoneR wd Bk G M Q kn' li' pa' c' ∧ tyN wd Bk G M 2 = 16384) := by
  have hB2 := hC.2.2.2.2
  have hQG : Q * G < 4096 := hM.2.2.2.2.2.1
  have hG8 : 8 ≤ G := hM.2.1
  have hQG8 : G ≤ Q * G := Nat.le_mul_of_pos_left G hQ1
  have h2r : InR G Q 2 := ⟨by omega, by omega⟩
  have e2 : (2 : Int32).toInt = ((2 : Nat) : Int) := by decide
  have h8 := inR_div h2r
  obtain ⟨kn0, k1, k2⟩ := fill8_loop (N := N) (NW := NW) N kn 0 0 (by decide) (by omega) (by omega) (fun b hb => by omega)
  obtain ⟨ca0, a1, a2⟩ := clearca_loop (N := N) (nb := nb) (dk := dk) (gg := gg) (mp := mp) (fx := fx) (qq := qq) (tn := tn) (oq := oq) (pq := pq) (fo := fo) (mn := 0) (fd := fd) N ca 0 0 (by decide) (by omega) (by omega) (fun b hb => by omega)
  unfold f_S_treeFault f_J_fill8 f_M_tree
  rw [k1, a2, f_M_tree_7, if_pos (show (4200 : Int32) ≤ 4200 by decide)]
  simp only [bd1]
  rw [isUsed_eq hC hL e2 (by omega) h8, misUsed_eq hC hS hM e2 (by omega) h8]
  simp only []
  by_cases cu : usedB wd Bk G M 2 = true
  · rw [if_pos cu, if_neg (by decide), if_neg (by decide)]
    rw [ctypeOf_eq hC hL e2 (by omega) h8, mtypeOf_eq hC hS hM e2 (by omega) h8]
    simp only []
    have q1 : Int32.ofNat (tyN wd Bk G M 2) = 16384 ↔ tyN wd Bk G M 2 = 16384 := is32 (tyN_lt 2) (by decide)
    simp only [q1]
    by_cases ct : tyN wd Bk G M 2 = 16384
    · rw [if_pos ct, if_pos ct]
      obtain ⟨rw1, tk1, tn1, ew1, ew2, hw⟩ := whole_sim (N := N) (fx := fx) hC hnb hS hL hM e2 (by omega) h8 (by omega) hT
      rw [ew1, ew2]
      simp only [bd2]
      rcases hw with h0 | ⟨h1, hT1, hW1⟩
      · left
        subst h0
        rw [if_pos rfl, if_pos rfl]
        exact ⟨4, _, _, _, _, _, _, _, _, _, _, _, _, _, _, _, _, _, _, _, Or.inl rfl, rfl, rfl⟩
      · subst h1
        rw [if_neg (by decide), if_neg (by decide)]
        rw [stand_eq (c := 0) e2 (by omega) (by omega) (by decide) (by omega), comes_eq hC hS hM (c := 0) (d := 2) e2 h2r (by decide) (by omega) e2 (by omega)]
        simp only [bd5]
        rw [if_neg (by omega)]
        have hk0 : ∀ i, i < 4097 → kn0 i = 0 := k2
        rcases tree_loop (N := N) (nb := nb) (dk := dk) (gg := gg) (mp := mp) (fx := fx) (qq := qq) hC hnb hS hL hM hN hI hq N N 0 1 dr es of od pl hd tk1 (upd kn0 2 1) (upd li 0 2) (upd pa 0 2) (upd ins 0 0) (0 + 1) tn1 (upd oq 0 2) (upd pq 2 2) (upd fo 2 0) (upd ca0 2 1) fd 0 (by decide) (by omega) (by omega) (by omega) (by
          refine ⟨hT1, ?_, ?_, ?_, ?_, ?_, by omega, upd_at _ _ _⟩
          · intro j hj
            have : j = 0 := by omega
            subst this
            exact ⟨2, by rw [upd_at]; exact e2, h2r, by rw [upd_at, upd_at], upd_at _ _ _, by rw [upd_at, upd_at], by rw [upd_at, upd_at], hW1, 0, by omega, by rw [upd_at, upd_at], 2, by rw [upd_at]; exact e2, ct⟩
          · intro i hi
            by_cases ei : i = 2
            · subst ei
              rw [upd_at, upd_at]
              constructor
              · intro h; exact absurd h (by decide)
              · intro h; exact absurd rfl h
            · rw [upd_ne _ _ _ ei, upd_ne _ _ _ ei, a1 i (by omega), hk0 i hi]
              constructor
              · intro _; decide
              · intro _; rfl
          · intro j j' hj hj' _; omega
          · rw [cntK_upd (by omega) (by rw [hk0 2 (by omega)]; decide) _ h2r.2, cntK_zero _ (fun i hi => by rw [hk0 i (by omega)]; decide)]
          · intro i hi hk
            by_cases ei : i = 2
            · subst ei
              exact ⟨0, by omega, by rw [upd_at]; exact e2⟩
            · rw [upd_ne _ _ _ ei, hk0 i (by have := hi.2; omega)] at hk
              exact absurd hk (by decide)) (by decide) (fun j hj => by omega) with h | ⟨dr', es', of', od', pl', hd', tk', kn', li', pa', ins', cm', tn', oq', pq', fo', ca', fd', c', b1, b2, b3, b4, b5⟩
        · exact Or.inl h
        · exact Or.inr ⟨dr', es', of', od', pl', hd', tk', kn', li', pa', ins', cm', tn', oq', pq', fo', ca', fd', c', b1, b2, b3, b4, b5, ct⟩
    · left
      rw [if_neg ct, if_neg ct]
      exact ⟨4, _, _, _, _, _, _, _, _, _, _, _, _, _, _, _, _, _, _, _, Or.inl rfl, rfl, rfl⟩
  · left
    rw [if_neg cu]
    first | rw [if_pos rfl, if_pos rfl] | rw [if_pos trivial, if_pos trivial]
    exact ⟨4, _, _, _, _, _, _, _, _, _, _, _, _, _, _, _, _, _, _, _, Or.inl rfl, rfl, rfl⟩
end TS
