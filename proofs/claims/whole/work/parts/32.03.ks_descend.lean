theorem ks_descend (l : Launch) (dC : Nat → ClassId) (dI : Nat → Nat → Nat) : ∀ e9, ks_Dsc l dC dI e9 := by
  intro e9
  induction e9 with
  | zero => exact ks_Dsc_step l dC dI 0 (fun e8 h => absurd h (by omega))
  | succ e9 ih => exact ks_Dsc_step l dC dI (e9 + 1) (fun e8 h => by have : e8 = e9 := by omega
                                                                     rw [this]; exact ih)
