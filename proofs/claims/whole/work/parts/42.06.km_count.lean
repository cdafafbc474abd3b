set_option maxHeartbeats 4000000 in
set_option maxRecDepth 100000 in
/-- the reference: count -/
theorem km_count (l : Launch) (dC : Nat → ClassId) (dI : Nat → Nat → Nat) (xm m1 m2 m3 m4 m5 wd : Nat) (N : Nat) (th km kc kl ac : Int32) (x0 : Int32) : ks_Mi l yX4_count wsX4_count ({ frames := 0, cells := 0, slots := 0, locals := 0 }) (dC, dI) [.ref xm, .int x0] [(xm, .inr (4, [.int th, .int (nI N), .int (nI wd), .ref m1, .ref m2, .ref m3, .ref m4, .ref m5, .int km, .int kc, .int kl, .int ac]))] [] 0 0 (S := Unit) (fun r _ => r = (if x0 = 0 then kc else if x0 = 1 then kl else if x0 = 2 then ac else if x0 = 3 then km else if x0 = 4 then 0 else -1)) (fun _ => [(xm, .inr (4, [.int 0, .int (nI N), .int (nI wd), .ref m1, .ref m2, .ref m3, .ref m4, .ref m5, .int km, .int kc, .int kl, .int ac]))]) (fun _ => []) := by
  intro sz
  refine Met.ofW (cc := cX4_count) (maxL := 2) (ret := (some .int)) (by decide) rfl ?_
  intro p e s m args below meth c s₁ B9 hml hv
  obtain ⟨rfl, hsz, hP, hK, hD0, hNW⟩ := hv
  have hx := B9.exec
  have hb := B9.bytes
  have hr := B9.returns
  have hts := atoms_spec (ws := wsX4_count) B9.pre
  have hown : s.vm.findClass RX4 = some m.cls := findClass_of_methodNamed B9.named
  have hlocks := B9.notSynchronized
  subst hsz
  have hD := hD0.self (sz := s.heap.size)
  generalize hAe : va_A [(xm, .inr (4, [.int th, .int (nI N), .int (nI wd), .ref m1, .ref m2, .ref m3, .ref m4, .ref m5, .int km, .int kc, .int kl, .int ac]))] s.heap.size = A at hD ⊢
  have hA : ∀ q : Nat, s.heap.size ≤ q → A q := fun q h => by rw [← hAe]; exact Or.inr h
  have hS : va_S A s.heap s.heap [] := va_S.rf
  have hiX4 : ∀ w ∈ u_ws RX4 TM 12, w ∈ wsX4_count := by decide +kernel
  have f36 := hts (.fieldLink RX4 36 "LessonSolverModel" "thrown" "I") (by decide +kernel)
  have f41 := hts (.fieldLink RX4 41 "LessonSolverModel" "made" "I") (by decide +kernel)
  have f44 := hts (.fieldLink RX4 44 "LessonSolverModel" "clauses" "I") (by decide +kernel)
  have f47 := hts (.fieldLink RX4 47 "LessonSolverModel" "literals" "I") (by decide +kernel)
  have f50 := hts (.fieldLink RX4 50 "LessonSolverModel" "assumptions" "I") (by decide +kernel)
  have hl := lv_entry ([.ref xm, .int x0]) (n := 2) (Nat.le_of_ble_eq_true rfl)
  rw [lg_entry_eq]
  generalize (lg_sl ([.ref xm, .int x0]) ++ List.replicate (2 - (lg_sl ([.ref xm, .int x0])).length) Slot.unset).toArray = ls at hl ⊢
  have hl : lv_has ls 2 [(0, .ref xm), (1, .int x0)] := hl
  refine lv_aload_n hx hb dX4_count_0 rfl (lv_at hl 0 rfl) ?_
  refine lv_iconst (v := 0) hx hb dX4_count_1 (by decide) ?_
  refine va_put (D := (dC, dI)) (ci := 4) (v := .int 0) (ty := .int) (C := RX4) (T := TM) (N := 12) hx hb hts hiX4 tyM tyM_ok nmM hown hK hP hD hS 0 rfl rfl 0 (by decide) f36 (fun _ h9 => h9) rfl (by decide +kernel) rfl rfl (Nat.le_of_ble_eq_true rfl) dX4_count_2 (fun H locs hP hD hS => ?_)
  have hP : va_P (dC, dI) ksCl [(xm, .inr (4, [.int 0, .int (nI N), .int (nI wd), .ref m1, .ref m2, .ref m3, .ref m4, .ref m5, .int km, .int kc, .int kl, .int ac]))] H := hP
  have hD : va_D A [(xm, .inr (4, [.int 0, .int (nI N), .int (nI wd), .ref m1, .ref m2, .ref m3, .ref m4, .ref m5, .int km, .int kc, .int kl, .int ac]))] := hD
  refine lv_iload_n hx hb dX4_count_5 rfl (lv_at hl 1 rfl) ?_
  by_cases hsw : x0.toInt < 0 ∨ 4 < x0.toInt
  · refine lv_tableOut (tgt := 62) hx hb dX4_count_6 hsw (by decide) ?_
    have n0 : ¬ x0 = 0 := fun q => by rw [q] at hsw; revert hsw; decide
    have n1 : ¬ x0 = 1 := fun q => by rw [q] at hsw; revert hsw; decide
    have n2 : ¬ x0 = 2 := fun q => by rw [q] at hsw; revert hsw; decide
    have n3 : ¬ x0 = 3 := fun q => by rw [q] at hsw; revert hsw; decide
    have n4 : ¬ x0 = 4 := fun q => by rw [q] at hsw; revert hsw; decide
    refine lv_iconst (v := -1) hx hb dX4_count_62 (by decide) ?_
    have hP9 : va_P (dC, dI) ksCl [(xm, .inr (4, [.int 0, .int (nI N), .int (nI wd), .ref m1, .ref m2, .ref m3, .ref m4, .ref m5, .int km, .int kc, .int kl, .int ac]))] _ := hP
    have hD9 : va_D A [(xm, .inr (4, [.int 0, .int (nI N), .int (nI wd), .ref m1, .ref m2, .ref m3, .ref m4, .ref m5, .int km, .int kc, .int kl, .int ac]))] := hD
    have hK9 : va_K (dC, dI) ksCl [] s := hK
    exact W.iret (v := -1) hx hb hr (fun t ht hW9 => ⟨⟨-1, (), rfl, by rw [if_neg n0, if_neg n1, if_neg n2, if_neg n3, if_neg n4], by rw [ht]; exact hP9, va_K.moved hW9.alike hK9, hD9⟩, hS.F ht⟩) hS.2.2 dX4_count_63
  · have hsw2 : x0 = 0 ∨ x0 = 1 ∨ x0 = 2 ∨ x0 = 3 ∨ x0 = 4 := by
      have e9 : x0.toInt = 0 ∨ x0.toInt = 1 ∨ x0.toInt = 2 ∨ x0.toInt = 3 ∨ x0.toInt = 4 := by omega
      rcases e9 with e9 | e9 | e9 | e9 | e9
      · exact Or.inl (Int32.toInt_inj.mp e9)
      · exact Or.inr (Or.inl (Int32.toInt_inj.mp e9))
      · exact Or.inr (Or.inr (Or.inl (Int32.toInt_inj.mp e9)))
      · exact Or.inr (Or.inr (Or.inr (Or.inl (Int32.toInt_inj.mp e9))))
      · exact Or.inr (Or.inr (Or.inr (Or.inr (Int32.toInt_inj.mp e9))))
    rcases hsw2 with hsw2 | hsw2 | hsw2 | hsw2 | hsw2
    · subst hsw2
      refine lv_tableIn (tgt := 40) hx hb dX4_count_6 (by decide) (by decide) rfl (by decide) ?_
      refine lv_aload_n hx hb dX4_count_40 rfl (lv_at hl 0 rfl) ?_
      refine va_get (D := (dC, dI)) (ci := 4) (v := .int kc) (C := RX4) (T := TM) (N := 12) hx hb hts hiX4 hown hK hP 0 rfl rfl 9 (by decide) f44 (fun _ h9 => h9) rfl dX4_count_41 ?_
      have hP9 : va_P (dC, dI) ksCl [(xm, .inr (4, [.int 0, .int (nI N), .int (nI wd), .ref m1, .ref m2, .ref m3, .ref m4, .ref m5, .int km, .int kc, .int kl, .int ac]))] _ := hP
      have hD9 : va_D A [(xm, .inr (4, [.int 0, .int (nI N), .int (nI wd), .ref m1, .ref m2, .ref m3, .ref m4, .ref m5, .int km, .int kc, .int kl, .int ac]))] := hD
      have hK9 : va_K (dC, dI) ksCl [] s := hK
      exact W.iret (v := kc) hx hb hr (fun t ht hW9 => ⟨⟨kc, (), rfl, rfl, by rw [ht]; exact hP9, va_K.moved hW9.alike hK9, hD9⟩, hS.F ht⟩) hS.2.2 dX4_count_44
    · subst hsw2
      refine lv_tableIn (tgt := 45) hx hb dX4_count_6 (by decide) (by decide) rfl (by decide) ?_
      refine lv_aload_n hx hb dX4_count_45 rfl (lv_at hl 0 rfl) ?_
      refine va_get (D := (dC, dI)) (ci := 4) (v := .int kl) (C := RX4) (T := TM) (N := 12) hx hb hts hiX4 hown hK hP 0 rfl rfl 10 (by decide) f47 (fun _ h9 => h9) rfl dX4_count_46 ?_
      have hP9 : va_P (dC, dI) ksCl [(xm, .inr (4, [.int 0, .int (nI N), .int (nI wd), .ref m1, .ref m2, .ref m3, .ref m4, .ref m5, .int km, .int kc, .int kl, .int ac]))] _ := hP
      have hD9 : va_D A [(xm, .inr (4, [.int 0, .int (nI N), .int (nI wd), .ref m1, .ref m2, .ref m3, .ref m4, .ref m5, .int km, .int kc, .int kl, .int ac]))] := hD
      have hK9 : va_K (dC, dI) ksCl [] s := hK
      exact W.iret (v := kl) hx hb hr (fun t ht hW9 => ⟨⟨kl, (), rfl, rfl, by rw [ht]; exact hP9, va_K.moved hW9.alike hK9, hD9⟩, hS.F ht⟩) hS.2.2 dX4_count_49
    · subst hsw2
      refine lv_tableIn (tgt := 50) hx hb dX4_count_6 (by decide) (by decide) rfl (by decide) ?_
      refine lv_aload_n hx hb dX4_count_50 rfl (lv_at hl 0 rfl) ?_
      refine va_get (D := (dC, dI)) (ci := 4) (v := .int ac) (C := RX4) (T := TM) (N := 12) hx hb hts hiX4 hown hK hP 0 rfl rfl 11 (by decide) f50 (fun _ h9 => h9) rfl dX4_count_51 ?_
      have hP9 : va_P (dC, dI) ksCl [(xm, .inr (4, [.int 0, .int (nI N), .int (nI wd), .ref m1, .ref m2, .ref m3, .ref m4, .ref m5, .int km, .int kc, .int kl, .int ac]))] _ := hP
      have hD9 : va_D A [(xm, .inr (4, [.int 0, .int (nI N), .int (nI wd), .ref m1, .ref m2, .ref m3, .ref m4, .ref m5, .int km, .int kc, .int kl, .int ac]))] := hD
      have hK9 : va_K (dC, dI) ksCl [] s := hK
      exact W.iret (v := ac) hx hb hr (fun t ht hW9 => ⟨⟨ac, (), rfl, rfl, by rw [ht]; exact hP9, va_K.moved hW9.alike hK9, hD9⟩, hS.F ht⟩) hS.2.2 dX4_count_54
    · subst hsw2
      refine lv_tableIn (tgt := 55) hx hb dX4_count_6 (by decide) (by decide) rfl (by decide) ?_
      refine lv_aload_n hx hb dX4_count_55 rfl (lv_at hl 0 rfl) ?_
      refine va_get (D := (dC, dI)) (ci := 4) (v := .int km) (C := RX4) (T := TM) (N := 12) hx hb hts hiX4 hown hK hP 0 rfl rfl 8 (by decide) f41 (fun _ h9 => h9) rfl dX4_count_56 ?_
      have hP9 : va_P (dC, dI) ksCl [(xm, .inr (4, [.int 0, .int (nI N), .int (nI wd), .ref m1, .ref m2, .ref m3, .ref m4, .ref m5, .int km, .int kc, .int kl, .int ac]))] _ := hP
      have hD9 : va_D A [(xm, .inr (4, [.int 0, .int (nI N), .int (nI wd), .ref m1, .ref m2, .ref m3, .ref m4, .ref m5, .int km, .int kc, .int kl, .int ac]))] := hD
      have hK9 : va_K (dC, dI) ksCl [] s := hK
      exact W.iret (v := km) hx hb hr (fun t ht hW9 => ⟨⟨km, (), rfl, rfl, by rw [ht]; exact hP9, va_K.moved hW9.alike hK9, hD9⟩, hS.F ht⟩) hS.2.2 dX4_count_59
    · subst hsw2
      refine lv_tableIn (tgt := 60) hx hb dX4_count_6 (by decide) (by decide) rfl (by decide) ?_
      refine lv_iconst (v := 0) hx hb dX4_count_60 (by decide) ?_
      have hP9 : va_P (dC, dI) ksCl [(xm, .inr (4, [.int 0, .int (nI N), .int (nI wd), .ref m1, .ref m2, .ref m3, .ref m4, .ref m5, .int km, .int kc, .int kl, .int ac]))] _ := hP
      have hD9 : va_D A [(xm, .inr (4, [.int 0, .int (nI N), .int (nI wd), .ref m1, .ref m2, .ref m3, .ref m4, .ref m5, .int km, .int kc, .int kl, .int ac]))] := hD
      have hK9 : va_K (dC, dI) ksCl [] s := hK
      exact W.iret (v := 0) hx hb hr (fun t ht hW9 => ⟨⟨0, (), rfl, rfl, by rw [ht]; exact hP9, va_K.moved hW9.alike hK9, hD9⟩, hS.F ht⟩) hS.2.2 dX4_count_61
