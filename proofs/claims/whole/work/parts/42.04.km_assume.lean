set_option maxHeartbeats 4000000 in
set_option maxRecDepth 100000 in
/-- the reference: assume -/
theorem km_assume (l : Launch) (dC : Nat → ClassId) (dI : Nat → Nat → Nat) (xm m1 m2 m3 m4 m5 wd : Nat) (c5 : ClassId) (N : Nat) (th km kc kl : Int32) (AS : Nat → Int32) (ac : Nat) (x0 : Int32) (hN : N ≤ 16) (hac : ac ≤ 40) : ks_Mi l yX4_assume wsX4_assume ({ frames := 1, cells := 0, slots := 0, locals := 21 }) (dC, dI) [.ref xm, .int x0] [(xm, .inr (4, [.int th, .int (nI N), .int (nI wd), .ref m1, .ref m2, .ref m3, .ref m4, .ref m5, .int km, .int kc, .int kl, .int (nI ac)])), (m5, .inl (c5, 40, .inl AS))] [(c5, .int)] 0 0 (S := (Nat → Int32) × Nat) (fun r u => (r = -1 ∧ ((¬ ∃ v, ks_lit N x0 v) ∨ 40 ≤ ac) ∧ u = (AS, ac)) ∨ (r = nI (ac + 1) ∧ ac < 40 ∧ (∃ v, ks_lit N x0 v) ∧ u = (upd AS ac x0, ac + 1))) (fun u => [(xm, .inr (4, [.int 0, .int (nI N), .int (nI wd), .ref m1, .ref m2, .ref m3, .ref m4, .ref m5, .int km, .int kc, .int kl, .int (nI u.2)])), (m5, .inl (c5, 40, .inl u.1))]) (fun u => [(c5, .int)]) := by
  intro sz
  refine Met.ofW (cc := cX4_assume) (maxL := 2) (ret := (some .int)) (by decide) rfl ?_
  intro p e s m args below meth c s₁ B9 hml hv
  obtain ⟨rfl, hsz, hP, hK, hD0, hNW⟩ := hv
  have hx := B9.exec
  have hb := B9.bytes
  have hr := B9.returns
  have hts := atoms_spec (ws := wsX4_assume) B9.pre
  have hown : s.vm.findClass RX4 = some m.cls := findClass_of_methodNamed B9.named
  have hlocks := B9.notSynchronized
  subst hsz
  have hD := hD0.self (sz := s.heap.size)
  generalize hAe : va_A [(xm, .inr (4, [.int th, .int (nI N), .int (nI wd), .ref m1, .ref m2, .ref m3, .ref m4, .ref m5, .int km, .int kc, .int kl, .int (nI ac)])), (m5, .inl (c5, 40, .inl AS))] s.heap.size = A at hD ⊢
  have hA : ∀ q : Nat, s.heap.size ≤ q → A q := fun q h => by rw [← hAe]; exact Or.inr h
  have hS : va_S A s.heap s.heap [] := va_S.rf
  have hiX4 : ∀ w ∈ u_ws RX4 TM 12, w ∈ wsX4_assume := by decide +kernel
  have f23 := hts (.fieldLink RX4 23 "LessonSolverModel" "assumed" "[I") (by decide +kernel)
  have f36 := hts (.fieldLink RX4 36 "LessonSolverModel" "thrown" "I") (by decide +kernel)
  have f50 := hts (.fieldLink RX4 50 "LessonSolverModel" "assumptions" "I") (by decide +kernel)
  have hl := lv_entry ([.ref xm, .int x0]) (n := 2) (Nat.le_of_ble_eq_true rfl)
  rw [lg_entry_eq]
  generalize (lg_sl ([.ref xm, .int x0]) ++ List.replicate (2 - (lg_sl ([.ref xm, .int x0])).length) Slot.unset).toArray = ls at hl ⊢
  have hl : lv_has ls 2 [(0, .ref xm), (1, .int x0)] := hl
  refine lv_aload_n hx hb dX4_assume_0 rfl (lv_at hl 0 rfl) ?_
  refine lv_iconst (v := 0) hx hb dX4_assume_1 (by decide) ?_
  refine va_put (D := (dC, dI)) (ci := 4) (v := .int 0) (ty := .int) (C := RX4) (T := TM) (N := 12) hx hb hts hiX4 tyM tyM_ok nmM hown hK hP hD hS 0 rfl rfl 0 (by decide) f36 (fun _ h9 => h9) rfl (by decide +kernel) rfl rfl (Nat.le_of_ble_eq_true rfl) dX4_assume_2 (fun H locs hP hD hS => ?_)
  have hP : va_P (dC, dI) ksCl [(xm, .inr (4, [.int 0, .int (nI N), .int (nI wd), .ref m1, .ref m2, .ref m3, .ref m4, .ref m5, .int km, .int kc, .int kl, .int (nI ac)])), (m5, .inl (c5, 40, .inl AS))] H := hP
  have hD : va_D A [(xm, .inr (4, [.int 0, .int (nI N), .int (nI wd), .ref m1, .ref m2, .ref m3, .ref m4, .ref m5, .int km, .int kc, .int kl, .int (nI ac)])), (m5, .inl (c5, 40, .inl AS))] := hD
  refine lv_aload_n hx hb dX4_assume_5 rfl (lv_at hl 0 rfl) ?_
  refine lv_iload_n hx hb dX4_assume_6 rfl (lv_at hl 1 rfl) ?_
  refine ks_calliV (As := [.int x0]) (rest := []) (wr := [(m5, .inl (c5, 40, .inl AS))]) (wz := fun _ => [(xm, .inr (4, [.int 0, .int (nI N), .int (nI wd), .ref m1, .ref m2, .ref m3, .ref m4, .ref m5, .int km, .int kc, .int kl, .int (nI ac)])), (m5, .inl (c5, 40, .inl AS))]) ⟨hx, hb, hml, hown, hts⟩ (km_isLiteral l dC dI xm m1 m2 m3 m4 m5 wd N 0 km kc kl (nI ac) x0 hN) (cwV 1 hts gX4_assume_X4_isLiteral rfl rfl rfl (by decide +kernel) ⟨Nat.le_of_ble_eq_true rfl, Nat.le_of_ble_eq_true rfl⟩) hK hP hD hS hA hNW [0] [1] [] [1, 0] rfl rfl rfl rfl (by decide) (by decide) (by decide) (ci := 4) (q0 := 0) rfl rfl rfl (fun _ => rfl) (fun _ => rfl) (by decide) rfl hl.1 rfl (Nat.le_of_ble_eq_true rfl) dX4_assume_7 ⟨Nat.le_of_ble_eq_true rfl, Nat.le_of_ble_eq_true rfl⟩ (fun r1 u9 H locs hw9 hK9 hP hD hS => ?_)
  have hw1 := hw9
  have hP : va_P (dC, dI) ksCl [(xm, .inr (4, [.int 0, .int (nI N), .int (nI wd), .ref m1, .ref m2, .ref m3, .ref m4, .ref m5, .int km, .int kc, .int kl, .int (nI ac)])), (m5, .inl (c5, 40, .inl AS))] H := hP
  have hD : va_D A [(xm, .inr (4, [.int 0, .int (nI N), .int (nI wd), .ref m1, .ref m2, .ref m3, .ref m4, .ref m5, .int km, .int kc, .int kl, .int (nI ac)])), (m5, .inl (c5, 40, .inl AS))] := hD
  refine lv_if_eq (tgt := 22) hx hb dX4_assume_10 (by decide) (fun c10 => ?_) (fun c10 => ?_)
  · -- 10: jumps
    have hno : (¬ ∃ v, ks_lit N x0 v) ∨ 40 ≤ ac := Or.inl (by
      rcases hw1 with q | q
      · exact absurd (q.1.symm.trans c10) (by decide)
      · exact q.2)
    refine lv_iconst (v := -1) hx hb dX4_assume_22 (by decide) ?_
    have hP9 : va_P (dC, dI) ksCl [(xm, .inr (4, [.int 0, .int (nI N), .int (nI wd), .ref m1, .ref m2, .ref m3, .ref m4, .ref m5, .int km, .int kc, .int kl, .int (nI ac)])), (m5, .inl (c5, 40, .inl AS))] _ := hP
    have hD9 : va_D A [(xm, .inr (4, [.int 0, .int (nI N), .int (nI wd), .ref m1, .ref m2, .ref m3, .ref m4, .ref m5, .int km, .int kc, .int kl, .int (nI ac)])), (m5, .inl (c5, 40, .inl AS))] := hD
    have hK9 : va_K (dC, dI) ksCl [(c5, .int)] s := hK
    exact W.iret (v := -1) hx hb hr (fun t ht hW9 => ⟨⟨-1, (AS, ac), rfl, Or.inl ⟨rfl, hno, rfl⟩, by rw [ht]; exact hP9, va_K.moved hW9.alike hK9, hD9⟩, hS.F ht⟩) hS.2.2 dX4_assume_23
  · -- 10: goes on
    have hv : ∃ v, ks_lit N x0 v := by
      rcases hw1 with q | q
      · exact q.2
      · exact absurd q.1 c10
    refine lv_aload_n hx hb dX4_assume_13 rfl (lv_at hl 0 rfl) ?_
    refine va_get (D := (dC, dI)) (ci := 4) (v := .int (nI ac)) (C := RX4) (T := TM) (N := 12) hx hb hts hiX4 hown hK hP 0 rfl rfl 11 (by decide) f50 (fun _ h9 => h9) rfl dX4_assume_14 ?_
    refine lv_bipush (v := nI 40) hx hb dX4_assume_17 (by decide) ?_
    refine lv_icmp_ne (tgt := 24) hx hb dX4_assume_19 (by decide) (fun c19 => ?_) (fun c19 => ?_)
    · -- 19: jumps
      have h40 : ac < 40 := by
        rcases Nat.lt_or_ge ac 40 with q | q
        · exact q
        · exact absurd (by rw [show ac = 40 by omega]) c19
      refine lv_aload_n hx hb dX4_assume_24 rfl (lv_at hl 0 rfl) ?_
      refine va_get (D := (dC, dI)) (ci := 4) (v := .ref m5) (C := RX4) (T := TM) (N := 12) hx hb hts hiX4 hown hK hP 0 rfl rfl 7 (by decide) f23 (fun _ h9 => h9) rfl dX4_assume_25 ?_
      refine lv_aload_n hx hb dX4_assume_28 rfl (lv_at hl 0 rfl) ?_
      refine va_get (D := (dC, dI)) (ci := 4) (v := .int (nI ac)) (C := RX4) (T := TM) (N := 12) hx hb hts hiX4 hown hK hP 0 rfl rfl 11 (by decide) f50 (fun _ h9 => h9) rfl dX4_assume_29 ?_
      refine lv_iload_n hx hb dX4_assume_32 rfl (lv_at hl 1 rfl) ?_
      refine ks_ast hx hb hK hP hD hS 1 0 rfl rfl (j := ac) (by omega) (by decide) dX4_assume_33 (fun H locs hP hD hS => ?_)
      have hP : va_P (dC, dI) ksCl [(xm, .inr (4, [.int 0, .int (nI N), .int (nI wd), .ref m1, .ref m2, .ref m3, .ref m4, .ref m5, .int km, .int kc, .int kl, .int (nI ac)])), (m5, .inl (c5, 40, .inl (upd AS ac x0)))] H := hP
      have hD : va_D A [(xm, .inr (4, [.int 0, .int (nI N), .int (nI wd), .ref m1, .ref m2, .ref m3, .ref m4, .ref m5, .int km, .int kc, .int kl, .int (nI ac)])), (m5, .inl (c5, 40, .inl (upd AS ac x0)))] := hD
      refine lv_aload_n hx hb dX4_assume_34 rfl (lv_at hl 0 rfl) ?_
      refine lv_dup hx hb dX4_assume_35 rfl ?_
      refine va_get (D := (dC, dI)) (ci := 4) (v := .int (nI ac)) (C := RX4) (T := TM) (N := 12) hx hb hts hiX4 hown hK hP 0 rfl rfl 11 (by decide) f50 (fun _ h9 => h9) rfl dX4_assume_36 ?_
      refine lv_iconst (v := 1) hx hb dX4_assume_39 (by decide) ?_
      refine lv_iadd hx hb dX4_assume_40 ?_
      refine ks_top (y := nI (ac + 1)) (nI_1 ac) ?_
      refine va_put (D := (dC, dI)) (ci := 4) (v := .int (nI (ac + 1))) (ty := .int) (C := RX4) (T := TM) (N := 12) hx hb hts hiX4 tyM tyM_ok nmM hown hK hP hD hS 0 rfl rfl 11 (by decide) f50 (fun _ h9 => h9) rfl (by decide +kernel) rfl rfl (Nat.le_of_ble_eq_true rfl) dX4_assume_41 (fun H locs hP hD hS => ?_)
      have hP : va_P (dC, dI) ksCl [(xm, .inr (4, [.int 0, .int (nI N), .int (nI wd), .ref m1, .ref m2, .ref m3, .ref m4, .ref m5, .int km, .int kc, .int kl, .int (nI (ac + 1))])), (m5, .inl (c5, 40, .inl (upd AS ac x0)))] H := hP
      have hD : va_D A [(xm, .inr (4, [.int 0, .int (nI N), .int (nI wd), .ref m1, .ref m2, .ref m3, .ref m4, .ref m5, .int km, .int kc, .int kl, .int (nI (ac + 1))])), (m5, .inl (c5, 40, .inl (upd AS ac x0)))] := hD
      refine lv_aload_n hx hb dX4_assume_44 rfl (lv_at hl 0 rfl) ?_
      refine va_get (D := (dC, dI)) (ci := 4) (v := .int (nI (ac + 1))) (C := RX4) (T := TM) (N := 12) hx hb hts hiX4 hown hK hP 0 rfl rfl 11 (by decide) f50 (fun _ h9 => h9) rfl dX4_assume_45 ?_
      have hP9 : va_P (dC, dI) ksCl [(xm, .inr (4, [.int 0, .int (nI N), .int (nI wd), .ref m1, .ref m2, .ref m3, .ref m4, .ref m5, .int km, .int kc, .int kl, .int (nI (ac + 1))])), (m5, .inl (c5, 40, .inl (upd AS ac x0)))] _ := hP
      have hD9 : va_D A [(xm, .inr (4, [.int 0, .int (nI N), .int (nI wd), .ref m1, .ref m2, .ref m3, .ref m4, .ref m5, .int km, .int kc, .int kl, .int (nI (ac + 1))])), (m5, .inl (c5, 40, .inl (upd AS ac x0)))] := hD
      have hK9 : va_K (dC, dI) ksCl [(c5, .int)] s := hK
      exact W.iret (v := nI (ac + 1)) hx hb hr (fun t ht hW9 => ⟨⟨nI (ac + 1), (upd AS ac x0, ac + 1), rfl, Or.inr ⟨rfl, h40, hv, rfl⟩, by rw [ht]; exact hP9, va_K.moved hW9.alike hK9, hD9⟩, hS.F ht⟩) hS.2.2 dX4_assume_48
    · -- 19: goes on
      have hno : (¬ ∃ v, ks_lit N x0 v) ∨ 40 ≤ ac := Or.inr (by
        have := (nI_eq (by omega) (by decide)).mp c19
        omega)
      refine lv_iconst (v := -1) hx hb dX4_assume_22 (by decide) ?_
      have hP9 : va_P (dC, dI) ksCl [(xm, .inr (4, [.int 0, .int (nI N), .int (nI wd), .ref m1, .ref m2, .ref m3, .ref m4, .ref m5, .int km, .int kc, .int kl, .int (nI ac)])), (m5, .inl (c5, 40, .inl AS))] _ := hP
      have hD9 : va_D A [(xm, .inr (4, [.int 0, .int (nI N), .int (nI wd), .ref m1, .ref m2, .ref m3, .ref m4, .ref m5, .int km, .int kc, .int kl, .int (nI ac)])), (m5, .inl (c5, 40, .inl AS))] := hD
      have hK9 : va_K (dC, dI) ksCl [(c5, .int)] s := hK
      exact W.iret (v := -1) hx hb hr (fun t ht hW9 => ⟨⟨-1, (AS, ac), rfl, Or.inl ⟨rfl, hno, rfl⟩, by rw [ht]; exact hP9, va_K.moved hW9.alike hK9, hD9⟩, hS.F ht⟩) hS.2.2 dX4_assume_23
