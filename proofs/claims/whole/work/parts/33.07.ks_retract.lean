set_option maxHeartbeats 4000000 in
set_option maxRecDepth 100000 in
/-- retract -/
theorem ks_retract (l : Launch) (dC : Nat → ClassId) (dI : Nat → Nat → Nat) (xa ra sa aa : Nat) (N : Nat) (kc kl mp mm km : Int32) (ac : Nat) (x0 : Int32) (hac : ac ≤ 40) : ks_Mi l yX3_retract wsX3_retract ({ frames := 0, cells := 0, slots := 0, locals := 0 }) (dC, dI) [.ref xa, .int x0] [(xa, .inr (3, [.int (nI N), .ref ra, .ref sa, .ref aa, .int (nI ac), .int kc, .int kl, .int mp, .int mm, .int km]))] [] 0 0 (S := Nat) (fun r u => (r = -1 ∧ (x0 < 0 ∨ nI ac < x0) ∧ u = ac) ∨ (∃ j, x0 = nI j ∧ j ≤ ac ∧ u = ac - j ∧ r = nI (ac - j))) (fun u => [(xa, .inr (3, [.int (nI N), .ref ra, .ref sa, .ref aa, .int (nI u), .int kc, .int kl, .int mp, .int mm, .int km]))]) (fun u => []) := by
  intro sz
  refine Met.ofW (cc := cX3_retract) (maxL := 2) (ret := (some .int)) (by decide) rfl ?_
  intro p e s m args below meth c s₁ B9 hml hv
  obtain ⟨rfl, hsz, hP, hK, hD0, hNW⟩ := hv
  have hx := B9.exec
  have hb := B9.bytes
  have hr := B9.returns
  have hts := atoms_spec (ws := wsX3_retract) B9.pre
  have hown : s.vm.findClass RX3 = some m.cls := findClass_of_methodNamed B9.named
  have hlocks := B9.notSynchronized
  subst hsz
  have hD := hD0.self (sz := s.heap.size)
  generalize hAe : va_A [(xa, .inr (3, [.int (nI N), .ref ra, .ref sa, .ref aa, .int (nI ac), .int kc, .int kl, .int mp, .int mm, .int km]))] s.heap.size = A at hD ⊢
  have hA : ∀ q : Nat, s.heap.size ≤ q → A q := fun q h => by rw [← hAe]; exact Or.inr h
  have hS : va_S A s.heap s.heap [] := va_S.rf
  have hiX3 : ∀ w ∈ u_ws RX3 TX3 10, w ∈ wsX3_retract := by decide +kernel
  have f71 := hts (.fieldLink RX3 71 "LessonSolver" "assumptionCount" "I") (by decide +kernel)
  have hl := lv_entry ([.ref xa, .int x0]) (n := 2) (Nat.le_of_ble_eq_true rfl)
  rw [lg_entry_eq]
  generalize (lg_sl ([.ref xa, .int x0]) ++ List.replicate (2 - (lg_sl ([.ref xa, .int x0])).length) Slot.unset).toArray = ls at hl ⊢
  have hl : lv_has ls 2 [(0, .ref xa), (1, .int x0)] := hl
  refine lv_iload_n hx hb dX3_retract_0 rfl (lv_at hl 1 rfl) ?_
  refine lv_if_lt (tgt := 12) hx hb dX3_retract_1 (by decide) (fun c1 => ?_) (fun c1 => ?_)
  · -- 1: jumps
    have hno : x0 < 0 ∨ nI ac < x0 := Or.inl c1
    refine lv_iconst (v := -1) hx hb dX3_retract_12 (by decide) ?_
    have hP9 : va_P (dC, dI) ksCl [(xa, .inr (3, [.int (nI N), .ref ra, .ref sa, .ref aa, .int (nI ac), .int kc, .int kl, .int mp, .int mm, .int km]))] _ := hP
    have hD9 : va_D A [(xa, .inr (3, [.int (nI N), .ref ra, .ref sa, .ref aa, .int (nI ac), .int kc, .int kl, .int mp, .int mm, .int km]))] := hD
    have hK9 : va_K (dC, dI) ksCl [] s := hK
    exact W.iret (v := -1) hx hb hr (fun t ht hW9 => ⟨⟨-1, ac, rfl, Or.inl ⟨rfl, hno, rfl⟩, by rw [ht]; exact hP9, va_K.moved hW9.alike hK9, hD9⟩, hS.F ht⟩) hS.2.2 dX3_retract_13
  · -- 1: goes on
    obtain ⟨j, hj, ej⟩ := nI_of c1
    subst ej
    refine lv_iload_n hx hb dX3_retract_4 rfl (lv_at hl 1 rfl) ?_
    refine lv_aload_n hx hb dX3_retract_5 rfl (lv_at hl 0 rfl) ?_
    refine va_get (D := (dC, dI)) (ci := 3) (v := .int (nI ac)) (C := RX3) (T := TX3) (N := 10) hx hb hts hiX3 hown hK hP 0 rfl rfl 4 (by decide) f71 (fun _ h9 => h9) rfl dX3_retract_6 ?_
    refine lv_icmp_le (tgt := 14) hx hb dX3_retract_9 (by decide) (fun c9 => ?_) (fun c9 => ?_)
    · -- 9: jumps
      have hja : j ≤ ac := (nI_leI hj (by omega)).mp c9
      refine lv_aload_n hx hb dX3_retract_14 rfl (lv_at hl 0 rfl) ?_
      refine lv_dup hx hb dX3_retract_15 rfl ?_
      refine va_get (D := (dC, dI)) (ci := 3) (v := .int (nI ac)) (C := RX3) (T := TX3) (N := 10) hx hb hts hiX3 hown hK hP 0 rfl rfl 4 (by decide) f71 (fun _ h9 => h9) rfl dX3_retract_16 ?_
      refine lv_iload_n hx hb dX3_retract_19 rfl (lv_at hl 1 rfl) ?_
      refine lv_isub hx hb dX3_retract_20 ?_
      refine ks_top (y := nI (ac - j)) (pk_sub hja) ?_
      refine va_put (D := (dC, dI)) (ci := 3) (v := .int (nI (ac - j))) (ty := .int) (C := RX3) (T := TX3) (N := 10) hx hb hts hiX3 tyX3 tyX3_ok nmX3 hown hK hP hD hS 0 rfl rfl 4 (by decide) f71 (fun _ h9 => h9) rfl (by decide +kernel) rfl rfl (Nat.le_of_ble_eq_true rfl) dX3_retract_21 (fun H locs hP hD hS => ?_)
      have hP : va_P (dC, dI) ksCl [(xa, .inr (3, [.int (nI N), .ref ra, .ref sa, .ref aa, .int (nI (ac - j)), .int kc, .int kl, .int mp, .int mm, .int km]))] H := hP
      have hD : va_D A [(xa, .inr (3, [.int (nI N), .ref ra, .ref sa, .ref aa, .int (nI (ac - j)), .int kc, .int kl, .int mp, .int mm, .int km]))] := hD
      refine lv_aload_n hx hb dX3_retract_24 rfl (lv_at hl 0 rfl) ?_
      refine va_get (D := (dC, dI)) (ci := 3) (v := .int (nI (ac - j))) (C := RX3) (T := TX3) (N := 10) hx hb hts hiX3 hown hK hP 0 rfl rfl 4 (by decide) f71 (fun _ h9 => h9) rfl dX3_retract_25 ?_
      have hP9 : va_P (dC, dI) ksCl [(xa, .inr (3, [.int (nI N), .ref ra, .ref sa, .ref aa, .int (nI (ac - j)), .int kc, .int kl, .int mp, .int mm, .int km]))] _ := hP
      have hD9 : va_D A [(xa, .inr (3, [.int (nI N), .ref ra, .ref sa, .ref aa, .int (nI (ac - j)), .int kc, .int kl, .int mp, .int mm, .int km]))] := hD
      have hK9 : va_K (dC, dI) ksCl [] s := hK
      exact W.iret (v := nI (ac - j)) hx hb hr (fun t ht hW9 => ⟨⟨nI (ac - j), (ac - j), rfl, Or.inr ⟨j, rfl, hja, rfl, rfl⟩, by rw [ht]; exact hP9, va_K.moved hW9.alike hK9, hD9⟩, hS.F ht⟩) hS.2.2 dX3_retract_28
    · -- 9: goes on
      have hno : nI j < 0 ∨ nI ac < nI j := Or.inr (by rw [Int32.not_le] at c9; exact c9)
      refine lv_iconst (v := -1) hx hb dX3_retract_12 (by decide) ?_
      have hP9 : va_P (dC, dI) ksCl [(xa, .inr (3, [.int (nI N), .ref ra, .ref sa, .ref aa, .int (nI ac), .int kc, .int kl, .int mp, .int mm, .int km]))] _ := hP
      have hD9 : va_D A [(xa, .inr (3, [.int (nI N), .ref ra, .ref sa, .ref aa, .int (nI ac), .int kc, .int kl, .int mp, .int mm, .int km]))] := hD
      have hK9 : va_K (dC, dI) ksCl [] s := hK
      exact W.iret (v := -1) hx hb hr (fun t ht hW9 => ⟨⟨-1, ac, rfl, Or.inl ⟨rfl, hno, rfl⟩, by rw [ht]; exact hP9, va_K.moved hW9.alike hK9, hD9⟩, hS.F ht⟩) hS.2.2 dX3_retract_13
