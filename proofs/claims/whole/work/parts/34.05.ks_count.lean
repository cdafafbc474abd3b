set_option maxHeartbeats 4000000 in
set_option maxRecDepth 100000 in
/-- count -/
theorem ks_count (l : Launch) (dC : Nat → ClassId) (dI : Nat → Nat → Nat) (xa ra sa aa ta qa : Nat) (N : Nat) (ac kc kl mp mm km lap x0 : Int32) : ks_Mi l yX3_count wsX3_count ({ frames := 0, cells := 0, slots := 0, locals := 0 }) (dC, dI) [.ref xa, .int x0] [(xa, .inr (3, [.int (nI N), .ref ra, .ref sa, .ref aa, .int ac, .int kc, .int kl, .int mp, .int mm, .int km])), (sa, .inr (1, [.int (nI N), .ref ra, .ref ta, .ref qa, .int lap]))] [] 0 0 (S := Unit) (fun r _ => r = (if x0 = 0 then kc else if x0 = 1 then kl else if x0 = 2 then ac else if x0 = 3 then km else if x0 = 4 then lap else -1)) (fun _ => [(xa, .inr (3, [.int (nI N), .ref ra, .ref sa, .ref aa, .int ac, .int kc, .int kl, .int mp, .int mm, .int km])), (sa, .inr (1, [.int (nI N), .ref ra, .ref ta, .ref qa, .int lap]))]) (fun _ => []) := by
  intro sz
  refine Met.ofW (cc := cX3_count) (maxL := 2) (ret := (some .int)) (by decide) rfl ?_
  intro p e s m args below meth c s₁ B9 hml hv
  obtain ⟨rfl, hsz, hP, hK, hD0, hNW⟩ := hv
  have hx := B9.exec
  have hb := B9.bytes
  have hr := B9.returns
  have hts := atoms_spec (ws := wsX3_count) B9.pre
  have hown : s.vm.findClass RX3 = some m.cls := findClass_of_methodNamed B9.named
  have hlocks := B9.notSynchronized
  subst hsz
  have hD := hD0.self (sz := s.heap.size)
  generalize hAe : va_A [(xa, .inr (3, [.int (nI N), .ref ra, .ref sa, .ref aa, .int ac, .int kc, .int kl, .int mp, .int mm, .int km])), (sa, .inr (1, [.int (nI N), .ref ra, .ref ta, .ref qa, .int lap]))] s.heap.size = A at hD ⊢
  have hA : ∀ q : Nat, s.heap.size ≤ q → A q := fun q h => by rw [← hAe]; exact Or.inr h
  have hS : va_S A s.heap s.heap [] := va_S.rf
  have hiX3 : ∀ w ∈ u_ws RX3 TX3 10, w ∈ wsX3_count := by decide +kernel
  have hiX1 : ∀ w ∈ u_ws RX1 TX1 5, w ∈ wsX3_count := by decide +kernel
  have f34 := hts (.fieldLink RX3 34 "LessonSolver" "search" "LLessonSolver$Search;") (by decide +kernel)
  have f46 := hts (.fieldLink RX3 46 "LessonSolver" "madeLength" "I") (by decide +kernel)
  have f59 := hts (.fieldLink RX3 59 "LessonSolver" "clauseCount" "I") (by decide +kernel)
  have f62 := hts (.fieldLink RX3 62 "LessonSolver" "literalCount" "I") (by decide +kernel)
  have f71 := hts (.fieldLink RX3 71 "LessonSolver" "assumptionCount" "I") (by decide +kernel)
  have f80 := va_Nw.use (A := ([.ref xa, .int x0] : List Value).toArray) rfl (hNW (.fieldLinkNest RX3 80 "LessonSolver$Search" "lapses" "I" "LessonSolver") (by decide +kernel))
  have hl := lv_entry ([.ref xa, .int x0]) (n := 2) (Nat.le_of_ble_eq_true rfl)
  rw [lg_entry_eq]
  generalize (lg_sl ([.ref xa, .int x0]) ++ List.replicate (2 - (lg_sl ([.ref xa, .int x0])).length) Slot.unset).toArray = ls at hl ⊢
  have hl : lv_has ls 2 [(0, .ref xa), (1, .int x0)] := hl
  refine lv_iload_n hx hb dX3_count_0 rfl (lv_at hl 1 rfl) ?_
  by_cases hsw : x0.toInt < 0 ∨ 4 < x0.toInt
  · refine lv_tableOut (tgt := 64) hx hb dX3_count_1 hsw (by decide) ?_
    have n0 : ¬ x0 = 0 := fun q => by rw [q] at hsw; revert hsw; decide
    have n1 : ¬ x0 = 1 := fun q => by rw [q] at hsw; revert hsw; decide
    have n2 : ¬ x0 = 2 := fun q => by rw [q] at hsw; revert hsw; decide
    have n3 : ¬ x0 = 3 := fun q => by rw [q] at hsw; revert hsw; decide
    have n4 : ¬ x0 = 4 := fun q => by rw [q] at hsw; revert hsw; decide
    refine lv_iconst (v := -1) hx hb dX3_count_64 (by decide) ?_
    have hP9 : va_P (dC, dI) ksCl [(xa, .inr (3, [.int (nI N), .ref ra, .ref sa, .ref aa, .int ac, .int kc, .int kl, .int mp, .int mm, .int km])), (sa, .inr (1, [.int (nI N), .ref ra, .ref ta, .ref qa, .int lap]))] _ := hP
    have hD9 : va_D A [(xa, .inr (3, [.int (nI N), .ref ra, .ref sa, .ref aa, .int ac, .int kc, .int kl, .int mp, .int mm, .int km])), (sa, .inr (1, [.int (nI N), .ref ra, .ref ta, .ref qa, .int lap]))] := hD
    have hK9 : va_K (dC, dI) ksCl [] s := hK
    exact W.iret (v := -1) hx hb hr (fun t ht hW9 => ⟨⟨-1, (), rfl, by rw [if_neg n0, if_neg n1, if_neg n2, if_neg n3, if_neg n4], by rw [ht]; exact hP9, va_K.moved hW9.alike hK9, hD9⟩, hS.F ht⟩) hS.2.2 dX3_count_65
  · have hsw2 : x0 = 0 ∨ x0 = 1 ∨ x0 = 2 ∨ x0 = 3 ∨ x0 = 4 := by
      have e9 : x0.toInt = 0 ∨ x0.toInt = 1 ∨ x0.toInt = 2 ∨ x0.toInt = 3 ∨ x0.toInt = 4 := by omega
      rcases e9 with e9 | e9 | e9 | e9 | e9
      · exact Or.inl (Int32.toInt_inj.mp e9)
      · exact Or.inr (Or.inl (Int32.toInt_inj.mp e9))
      · exact Or.inr (Or.inr (Or.inl (Int32.toInt_inj.mp e9)))
      · exact Or.inr (Or.inr (Or.inr (Or.inl (Int32.toInt_inj.mp e9))))
      · exact Or.inr (Or.inr (Or.inr (Or.inr (Int32.toInt_inj.mp e9))))
    rcases hsw2 with hsw2 | hsw2 | hsw2 | hsw2 | hsw2
    · subst hsw2
      refine lv_tableIn (tgt := 36) hx hb dX3_count_1 (by decide) (by decide) rfl (by decide) ?_
      refine lv_aload_n hx hb dX3_count_36 rfl (lv_at hl 0 rfl) ?_
      refine va_get (D := (dC, dI)) (ci := 3) (v := .int kc) (C := RX3) (T := TX3) (N := 10) hx hb hts hiX3 hown hK hP 0 rfl rfl 5 (by decide) f59 (fun _ h9 => h9) rfl dX3_count_37 ?_
      have hP9 : va_P (dC, dI) ksCl [(xa, .inr (3, [.int (nI N), .ref ra, .ref sa, .ref aa, .int ac, .int kc, .int kl, .int mp, .int mm, .int km])), (sa, .inr (1, [.int (nI N), .ref ra, .ref ta, .ref qa, .int lap]))] _ := hP
      have hD9 : va_D A [(xa, .inr (3, [.int (nI N), .ref ra, .ref sa, .ref aa, .int ac, .int kc, .int kl, .int mp, .int mm, .int km])), (sa, .inr (1, [.int (nI N), .ref ra, .ref ta, .ref qa, .int lap]))] := hD
      have hK9 : va_K (dC, dI) ksCl [] s := hK
      exact W.iret (v := kc) hx hb hr (fun t ht hW9 => ⟨⟨kc, (), rfl, rfl, by rw [ht]; exact hP9, va_K.moved hW9.alike hK9, hD9⟩, hS.F ht⟩) hS.2.2 dX3_count_40
    · subst hsw2
      refine lv_tableIn (tgt := 41) hx hb dX3_count_1 (by decide) (by decide) rfl (by decide) ?_
      refine lv_aload_n hx hb dX3_count_41 rfl (lv_at hl 0 rfl) ?_
      refine va_get (D := (dC, dI)) (ci := 3) (v := .int kl) (C := RX3) (T := TX3) (N := 10) hx hb hts hiX3 hown hK hP 0 rfl rfl 6 (by decide) f62 (fun _ h9 => h9) rfl dX3_count_42 ?_
      have hP9 : va_P (dC, dI) ksCl [(xa, .inr (3, [.int (nI N), .ref ra, .ref sa, .ref aa, .int ac, .int kc, .int kl, .int mp, .int mm, .int km])), (sa, .inr (1, [.int (nI N), .ref ra, .ref ta, .ref qa, .int lap]))] _ := hP
      have hD9 : va_D A [(xa, .inr (3, [.int (nI N), .ref ra, .ref sa, .ref aa, .int ac, .int kc, .int kl, .int mp, .int mm, .int km])), (sa, .inr (1, [.int (nI N), .ref ra, .ref ta, .ref qa, .int lap]))] := hD
      have hK9 : va_K (dC, dI) ksCl [] s := hK
      exact W.iret (v := kl) hx hb hr (fun t ht hW9 => ⟨⟨kl, (), rfl, rfl, by rw [ht]; exact hP9, va_K.moved hW9.alike hK9, hD9⟩, hS.F ht⟩) hS.2.2 dX3_count_45
    · subst hsw2
      refine lv_tableIn (tgt := 46) hx hb dX3_count_1 (by decide) (by decide) rfl (by decide) ?_
      refine lv_aload_n hx hb dX3_count_46 rfl (lv_at hl 0 rfl) ?_
      refine va_get (D := (dC, dI)) (ci := 3) (v := .int ac) (C := RX3) (T := TX3) (N := 10) hx hb hts hiX3 hown hK hP 0 rfl rfl 4 (by decide) f71 (fun _ h9 => h9) rfl dX3_count_47 ?_
      have hP9 : va_P (dC, dI) ksCl [(xa, .inr (3, [.int (nI N), .ref ra, .ref sa, .ref aa, .int ac, .int kc, .int kl, .int mp, .int mm, .int km])), (sa, .inr (1, [.int (nI N), .ref ra, .ref ta, .ref qa, .int lap]))] _ := hP
      have hD9 : va_D A [(xa, .inr (3, [.int (nI N), .ref ra, .ref sa, .ref aa, .int ac, .int kc, .int kl, .int mp, .int mm, .int km])), (sa, .inr (1, [.int (nI N), .ref ra, .ref ta, .ref qa, .int lap]))] := hD
      have hK9 : va_K (dC, dI) ksCl [] s := hK
      exact W.iret (v := ac) hx hb hr (fun t ht hW9 => ⟨⟨ac, (), rfl, rfl, by rw [ht]; exact hP9, va_K.moved hW9.alike hK9, hD9⟩, hS.F ht⟩) hS.2.2 dX3_count_50
    · subst hsw2
      refine lv_tableIn (tgt := 51) hx hb dX3_count_1 (by decide) (by decide) rfl (by decide) ?_
      refine lv_aload_n hx hb dX3_count_51 rfl (lv_at hl 0 rfl) ?_
      refine va_get (D := (dC, dI)) (ci := 3) (v := .int km) (C := RX3) (T := TX3) (N := 10) hx hb hts hiX3 hown hK hP 0 rfl rfl 9 (by decide) f46 (fun _ h9 => h9) rfl dX3_count_52 ?_
      have hP9 : va_P (dC, dI) ksCl [(xa, .inr (3, [.int (nI N), .ref ra, .ref sa, .ref aa, .int ac, .int kc, .int kl, .int mp, .int mm, .int km])), (sa, .inr (1, [.int (nI N), .ref ra, .ref ta, .ref qa, .int lap]))] _ := hP
      have hD9 : va_D A [(xa, .inr (3, [.int (nI N), .ref ra, .ref sa, .ref aa, .int ac, .int kc, .int kl, .int mp, .int mm, .int km])), (sa, .inr (1, [.int (nI N), .ref ra, .ref ta, .ref qa, .int lap]))] := hD
      have hK9 : va_K (dC, dI) ksCl [] s := hK
      exact W.iret (v := km) hx hb hr (fun t ht hW9 => ⟨⟨km, (), rfl, rfl, by rw [ht]; exact hP9, va_K.moved hW9.alike hK9, hD9⟩, hS.F ht⟩) hS.2.2 dX3_count_55
    · subst hsw2
      refine lv_tableIn (tgt := 56) hx hb dX3_count_1 (by decide) (by decide) rfl (by decide) ?_
      refine lv_aload_n hx hb dX3_count_56 rfl (lv_at hl 0 rfl) ?_
      refine va_get (D := (dC, dI)) (ci := 3) (v := .ref sa) (C := RX3) (T := TX3) (N := 10) hx hb hts hiX3 hown hK hP 0 rfl rfl 2 (by decide) f34 (fun _ h9 => h9) rfl dX3_count_57 ?_
      refine va_getN (D := (dC, dI)) (ci := 1) (v := .int lap) (C := RX1) (T := TX1) (N := 5) hx hb hts hiX1 hown hK hP 1 rfl rfl 4 (by decide) f80 (fun _ h9 => h9) rfl dX3_count_60 ?_
      have hP9 : va_P (dC, dI) ksCl [(xa, .inr (3, [.int (nI N), .ref ra, .ref sa, .ref aa, .int ac, .int kc, .int kl, .int mp, .int mm, .int km])), (sa, .inr (1, [.int (nI N), .ref ra, .ref ta, .ref qa, .int lap]))] _ := hP
      have hD9 : va_D A [(xa, .inr (3, [.int (nI N), .ref ra, .ref sa, .ref aa, .int ac, .int kc, .int kl, .int mp, .int mm, .int km])), (sa, .inr (1, [.int (nI N), .ref ra, .ref ta, .ref qa, .int lap]))] := hD
      have hK9 : va_K (dC, dI) ksCl [] s := hK
      exact W.iret (v := lap) hx hb hr (fun t ht hW9 => ⟨⟨lap, (), rfl, rfl, by rw [ht]; exact hP9, va_K.moved hW9.alike hK9, hD9⟩, hS.F ht⟩) hS.2.2 dX3_count_63
