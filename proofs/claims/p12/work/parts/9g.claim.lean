/-! the claim -/
theorem i_vc : Claimed_1_1 ∧ Claimed_1_2 := vc_open (N := 524289) (Rel := fun _ => RelW Z1 (XF Snd)) (whole_good (Nat.le_refl _) ⟨core (Nat.le_refl _), snd_items (Nat.le_refl _), snd_letter (Nat.le_refl _), snd_about (Nat.le_refl _), snd_content (Nat.le_refl _), snd_enter (Nat.le_refl _), snd_up (Nat.le_refl _)⟩)
