/-! one call on a fresh object: the claim -/
theorem i_vc : Claimed_1_1 ∧ Claimed_1_2 := vc_open (N := 524289) (Rel := RelP) ⟨p1_sims (Nat.le_refl _), p1_down, p1_fresh⟩
