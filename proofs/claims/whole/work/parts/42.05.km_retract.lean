set_option maxHeartbeats 4000000 in
set_option maxRecDepth 100000 in
/-- the reference: retract -/
theorem km_retract (l : Launch) (dC : Nat → ClassId) (dI : Nat → Nat → Nat) (xm m1 m2 m3 m4 m5 wd : Nat) (N : Nat) (th km kc kl : Int32) (ac : Nat) (x0 : Int32) (hac : ac ≤ 40) : ks_Mi l yX4_retract wsX4_retract ({ frames := 0, cells := 0, slots := 0, locals := 0 }) (dC, dI) [.ref xm, .int x0] [(xm, .inr (4, [.int th, .int (nI N), .int (nI wd), .ref m1, .ref m2, .ref m3, .ref m4, .ref m5, .int km, .int kc, .int kl, .int (nI ac)]))] [] 0 0 (S := Nat) (fun r u => (r = -1 ∧ (x0 < 0 ∨ nI ac < x0) ∧ u = ac) ∨ (∃ j, x0 = nI j ∧ j ≤ ac ∧ u = ac - j ∧ r = nI (ac - j))) (fun u => [(xm, .inr (4, [.int 0, .int (nI N), .int (nI wd), .ref m1, .ref m2, .ref m3, .ref m4, .ref m5, .int km, .int kc, .int kl, .int (nI u)]))]) (fun u => []) := by
  intro sz
  refine Met.ofW (cc := cX4_retract) (maxL := 2) (ret := (some .int)) (by decide) rfl ?_
  intro p e s m args below meth c s₁ B9 hml hv
  obtain ⟨rfl, hsz, hP, hK, hD0, hNW⟩ := hv
  have hx := B9.exec
  have hb := B9.bytes
  have hr := B9.returns
  have hts := atoms_spec (ws := wsX4_retract) B9.pre
  have hown : s.vm.findClass RX4 = some m.cls := findClass_of_methodNamed B9.named
  have hlocks := B9.notSynchronized
  subst hsz
  have hD := hD0.self (sz := s.heap.size)
  generalize hAe : va_A [(xm, .inr (4, [.int th, .int (nI N), .int (nI wd), .ref m1, .ref m2, .ref m3, .ref m4, .ref m5, .int km, .int kc, .int kl, .int (nI ac)]))] s.heap.size = A at hD ⊢
  have hA : ∀ q : Nat, s.heap.size ≤ q → A q := fun q h => by rw [← hAe]; exact Or.inr h
  have hS : va_S A s.heap s.heap [] := va_S.rf
  have hiX4 : ∀ w ∈ u_ws RX4 TM 12, w ∈ wsX4_retract := by decide +kernel
  have f36 := hts (.fieldLink RX4 36 "LessonSolverModel" "thrown" "I") (by decide +kernel)
  have f50 := hts (.fieldLink RX4 50 "LessonSolverModel" "assumptions" "I") (by decide +kernel)
  have hl := lv_entry ([.ref xm, .int x0]) (n := 2) (Nat.le_of_ble_eq_true rfl)
  rw [lg_entry_eq]
  generalize (lg_sl ([.ref xm, .int x0]) ++ List.replicate (2 - (lg_sl ([.ref xm, .int x0])).length) Slot.unset).toArray = ls at hl ⊢
  have hl : lv_has ls 2 [(0, .ref xm), (1, .int x0)] := hl
  refine lv_aload_n hx hb dX4_retract_0 rfl (lv_at hl 0 rfl) ?_
  refine lv_iconst (v := 0) hx hb dX4_retract_1 (by decide) ?_
  refine va_put (D := (dC, dI)) (ci := 4) (v := .int 0) (ty := .int) (C := RX4) (T := TM) (N := 12) hx hb hts hiX4 tyM tyM_ok nmM hown hK hP hD hS 0 rfl rfl 0 (by decide) f36 (fun _ h9 => h9) rfl (by decide +kernel) rfl rfl (Nat.le_of_ble_eq_true rfl) dX4_retract_2 (fun H locs hP hD hS => ?_)
  have hP : va_P (dC, dI) ksCl [(xm, .inr (4, [.int 0, .int (nI N), .int (nI wd), .ref m1, .ref m2, .ref m3, .ref m4, .ref m5, .int km, .int kc, .int kl, .int (nI ac)]))] H := hP
  have hD : va_D A [(xm, .inr (4, [.int 0, .int (nI N), .int (nI wd), .ref m1, .ref m2, .ref m3, .ref m4, .ref m5, .int km, .int kc, .int kl, .int (nI ac)]))] := hD
  refine lv_iload_n hx hb dX4_retract_5 rfl (lv_at hl 1 rfl) ?_
  refine lv_if_lt (tgt := 17) hx hb dX4_retract_6 (by decide) (fun c6 => ?_) (fun c6 => ?_)
  · -- 6: jumps
    have hno : x0 < 0 ∨ nI ac < x0 := Or.inl c6
    refine lv_iconst (v := -1) hx hb dX4_retract_17 (by decide) ?_
    have hP9 : va_P (dC, dI) ksCl [(xm, .inr (4, [.int 0, .int (nI N), .int (nI wd), .ref m1, .ref m2, .ref m3, .ref m4, .ref m5, .int km, .int kc, .int kl, .int (nI ac)]))] _ := hP
    have hD9 : va_D A [(xm, .inr (4, [.int 0, .int (nI N), .int (nI wd), .ref m1, .ref m2, .ref m3, .ref m4, .ref m5, .int km, .int kc, .int kl, .int (nI ac)]))] := hD
    have hK9 : va_K (dC, dI) ksCl [] s := hK
    exact W.iret (v := -1) hx hb hr (fun t ht hW9 => ⟨⟨-1, ac, rfl, Or.inl ⟨rfl, hno, rfl⟩, by rw [ht]; exact hP9, va_K.moved hW9.alike hK9, hD9⟩, hS.F ht⟩) hS.2.2 dX4_retract_18
  · -- 6: goes on
    obtain ⟨j, hj, ej⟩ := nI_of c6
    subst ej
    refine lv_iload_n hx hb dX4_retract_9 rfl (lv_at hl 1 rfl) ?_
    refine lv_aload_n hx hb dX4_retract_10 rfl (lv_at hl 0 rfl) ?_
    refine va_get (D := (dC, dI)) (ci := 4) (v := .int (nI ac)) (C := RX4) (T := TM) (N := 12) hx hb hts hiX4 hown hK hP 0 rfl rfl 11 (by decide) f50 (fun _ h9 => h9) rfl dX4_retract_11 ?_
    refine lv_icmp_le (tgt := 19) hx hb dX4_retract_14 (by decide) (fun c14 => ?_) (fun c14 => ?_)
    · -- 14: jumps
      have hja : j ≤ ac := (nI_leI hj (by omega)).mp c14
      refine lv_aload_n hx hb dX4_retract_19 rfl (lv_at hl 0 rfl) ?_
      refine lv_dup hx hb dX4_retract_20 rfl ?_
      refine va_get (D := (dC, dI)) (ci := 4) (v := .int (nI ac)) (C := RX4) (T := TM) (N := 12) hx hb hts hiX4 hown hK hP 0 rfl rfl 11 (by decide) f50 (fun _ h9 => h9) rfl dX4_retract_21 ?_
      refine lv_iload_n hx hb dX4_retract_24 rfl (lv_at hl 1 rfl) ?_
      refine lv_isub hx hb dX4_retract_25 ?_
      refine ks_top (y := nI (ac - j)) (pk_sub hja) ?_
      refine va_put (D := (dC, dI)) (ci := 4) (v := .int (nI (ac - j))) (ty := .int) (C := RX4) (T := TM) (N := 12) hx hb hts hiX4 tyM tyM_ok nmM hown hK hP hD hS 0 rfl rfl 11 (by decide) f50 (fun _ h9 => h9) rfl (by decide +kernel) rfl rfl (Nat.le_of_ble_eq_true rfl) dX4_retract_26 (fun H locs hP hD hS => ?_)
      have hP : va_P (dC, dI) ksCl [(xm, .inr (4, [.int 0, .int (nI N), .int (nI wd), .ref m1, .ref m2, .ref m3, .ref m4, .ref m5, .int km, .int kc, .int kl, .int (nI (ac - j))]))] H := hP
      have hD : va_D A [(xm, .inr (4, [.int 0, .int (nI N), .int (nI wd), .ref m1, .ref m2, .ref m3, .ref m4, .ref m5, .int km, .int kc, .int kl, .int (nI (ac - j))]))] := hD
      refine lv_aload_n hx hb dX4_retract_29 rfl (lv_at hl 0 rfl) ?_
      refine va_get (D := (dC, dI)) (ci := 4) (v := .int (nI (ac - j))) (C := RX4) (T := TM) (N := 12) hx hb hts hiX4 hown hK hP 0 rfl rfl 11 (by decide) f50 (fun _ h9 => h9) rfl dX4_retract_30 ?_
      have hP9 : va_P (dC, dI) ksCl [(xm, .inr (4, [.int 0, .int (nI N), .int (nI wd), .ref m1, .ref m2, .ref m3, .ref m4, .ref m5, .int km, .int kc, .int kl, .int (nI (ac - j))]))] _ := hP
      have hD9 : va_D A [(xm, .inr (4, [.int 0, .int (nI N), .int (nI wd), .ref m1, .ref m2, .ref m3, .ref m4, .ref m5, .int km, .int kc, .int kl, .int (nI (ac - j))]))] := hD
      have hK9 : va_K (dC, dI) ksCl [] s := hK
      exact W.iret (v := nI (ac - j)) hx hb hr (fun t ht hW9 => ⟨⟨nI (ac - j), (ac - j), rfl, Or.inr ⟨j, rfl, hja, rfl, rfl⟩, by rw [ht]; exact hP9, va_K.moved hW9.alike hK9, hD9⟩, hS.F ht⟩) hS.2.2 dX4_retract_33
    · -- 14: goes on
      have hno : nI j < 0 ∨ nI ac < nI j := Or.inr (by rw [Int32.not_le] at c14; exact c14)
      refine lv_iconst (v := -1) hx hb dX4_retract_17 (by decide) ?_
      have hP9 : va_P (dC, dI) ksCl [(xm, .inr (4, [.int 0, .int (nI N), .int (nI wd), .ref m1, .ref m2, .ref m3, .ref m4, .ref m5, .int km, .int kc, .int kl, .int (nI ac)]))] _ := hP
      have hD9 : va_D A [(xm, .inr (4, [.int 0, .int (nI N), .int (nI wd), .ref m1, .ref m2, .ref m3, .ref m4, .ref m5, .int km, .int kc, .int kl, .int (nI ac)]))] := hD
      have hK9 : va_K (dC, dI) ksCl [] s := hK
      exact W.iret (v := -1) hx hb hr (fun t ht hW9 => ⟨⟨-1, ac, rfl, Or.inl ⟨rfl, hno, rfl⟩, by rw [ht]; exact hP9, va_K.moved hW9.alike hK9, hD9⟩, hS.F ht⟩) hS.2.2 dX4_retract_18
