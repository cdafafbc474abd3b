set_option maxHeartbeats 4000000 in
set_option maxRecDepth 100000 in
/-- the reference: add -/
theorem km_add (l : Launch) (dC : Nat → ClassId) (dI : Nat → Nat → Nat) (xm m1 m2 m3 m4 m5 wd : Nat) (c4 : ClassId) (N : Nat) (th kc kl ac : Int32) (MK : Nat → Int32) (km : Nat) (x0 : Int32) (hN : N ≤ 16) (hkm : km ≤ 20) : ks_Mi l yX4_add wsX4_add ({ frames := 1, cells := 0, slots := 0, locals := 21 }) (dC, dI) [.ref xm, .int x0] [(xm, .inr (4, [.int th, .int (nI N), .int (nI wd), .ref m1, .ref m2, .ref m3, .ref m4, .ref m5, .int (nI km), .int kc, .int kl, .int ac])), (m4, .inl (c4, 20, .inl MK))] [(c4, .int)] 0 0 (S := (Nat → Int32) × Nat) (fun r u => (r = 0 ∧ ((¬ ∃ v, ks_lit N x0 v) ∨ 20 ≤ km) ∧ u = (MK, km)) ∨ (r = 1 ∧ km < 20 ∧ (∃ v, ks_lit N x0 v) ∧ u = (upd MK km x0, km + 1))) (fun u => [(xm, .inr (4, [.int 0, .int (nI N), .int (nI wd), .ref m1, .ref m2, .ref m3, .ref m4, .ref m5, .int (nI u.2), .int kc, .int kl, .int ac])), (m4, .inl (c4, 20, .inl u.1))]) (fun u => [(c4, .int)]) := by
  intro sz
  refine Met.ofW (cc := cX4_add) (maxL := 2) (ret := (some .boolean)) (by decide) rfl ?_
  intro p e s m args below meth c s₁ B9 hml hv
  obtain ⟨rfl, hsz, hP, hK, hD0, hNW⟩ := hv
  have hx := B9.exec
  have hb := B9.bytes
  have hr := B9.returns
  have hts := atoms_spec (ws := wsX4_add) B9.pre
  have hown : s.vm.findClass RX4 = some m.cls := findClass_of_methodNamed B9.named
  have hlocks := B9.notSynchronized
  subst hsz
  have hD := hD0.self (sz := s.heap.size)
  generalize hAe : va_A [(xm, .inr (4, [.int th, .int (nI N), .int (nI wd), .ref m1, .ref m2, .ref m3, .ref m4, .ref m5, .int (nI km), .int kc, .int kl, .int ac])), (m4, .inl (c4, 20, .inl MK))] s.heap.size = A at hD ⊢
  have hA : ∀ q : Nat, s.heap.size ≤ q → A q := fun q h => by rw [← hAe]; exact Or.inr h
  have hS : va_S A s.heap s.heap [] := va_S.rf
  have hiX4 : ∀ w ∈ u_ws RX4 TM 12, w ∈ wsX4_add := by decide +kernel
  have f19 := hts (.fieldLink RX4 19 "LessonSolverModel" "making" "[I") (by decide +kernel)
  have f36 := hts (.fieldLink RX4 36 "LessonSolverModel" "thrown" "I") (by decide +kernel)
  have f41 := hts (.fieldLink RX4 41 "LessonSolverModel" "made" "I") (by decide +kernel)
  have hl := lv_entry ([.ref xm, .int x0]) (n := 2) (Nat.le_of_ble_eq_true rfl)
  rw [lg_entry_eq]
  generalize (lg_sl ([.ref xm, .int x0]) ++ List.replicate (2 - (lg_sl ([.ref xm, .int x0])).length) Slot.unset).toArray = ls at hl ⊢
  have hl : lv_has ls 2 [(0, .ref xm), (1, .int x0)] := hl
  refine lv_aload_n hx hb dX4_add_0 rfl (lv_at hl 0 rfl) ?_
  refine lv_iconst (v := 0) hx hb dX4_add_1 (by decide) ?_
  refine va_put (D := (dC, dI)) (ci := 4) (v := .int 0) (ty := .int) (C := RX4) (T := TM) (N := 12) hx hb hts hiX4 tyM tyM_ok nmM hown hK hP hD hS 0 rfl rfl 0 (by decide) f36 (fun _ h9 => h9) rfl (by decide +kernel) rfl rfl (Nat.le_of_ble_eq_true rfl) dX4_add_2 (fun H locs hP hD hS => ?_)
  have hP : va_P (dC, dI) ksCl [(xm, .inr (4, [.int 0, .int (nI N), .int (nI wd), .ref m1, .ref m2, .ref m3, .ref m4, .ref m5, .int (nI km), .int kc, .int kl, .int ac])), (m4, .inl (c4, 20, .inl MK))] H := hP
  have hD : va_D A [(xm, .inr (4, [.int 0, .int (nI N), .int (nI wd), .ref m1, .ref m2, .ref m3, .ref m4, .ref m5, .int (nI km), .int kc, .int kl, .int ac])), (m4, .inl (c4, 20, .inl MK))] := hD
  refine lv_aload_n hx hb dX4_add_5 rfl (lv_at hl 0 rfl) ?_
  refine lv_iload_n hx hb dX4_add_6 rfl (lv_at hl 1 rfl) ?_
  refine ks_calliV (As := [.int x0]) (rest := []) (wr := [(m4, .inl (c4, 20, .inl MK))]) (wz := fun _ => [(xm, .inr (4, [.int 0, .int (nI N), .int (nI wd), .ref m1, .ref m2, .ref m3, .ref m4, .ref m5, .int (nI km), .int kc, .int kl, .int ac])), (m4, .inl (c4, 20, .inl MK))]) ⟨hx, hb, hml, hown, hts⟩ (km_isLiteral l dC dI xm m1 m2 m3 m4 m5 wd N 0 (nI km) kc kl ac x0 hN) (cwV 1 hts gX4_add_X4_isLiteral rfl rfl rfl (by decide +kernel) ⟨Nat.le_of_ble_eq_true rfl, Nat.le_of_ble_eq_true rfl⟩) hK hP hD hS hA hNW [0] [1] [] [1, 0] rfl rfl rfl rfl (by decide) (by decide) (by decide) (ci := 4) (q0 := 0) rfl rfl rfl (fun _ => rfl) (fun _ => rfl) (by decide) rfl hl.1 rfl (Nat.le_of_ble_eq_true rfl) dX4_add_7 ⟨Nat.le_of_ble_eq_true rfl, Nat.le_of_ble_eq_true rfl⟩ (fun r1 u9 H locs hw9 hK9 hP hD hS => ?_)
  have hw1 := hw9
  have hP : va_P (dC, dI) ksCl [(xm, .inr (4, [.int 0, .int (nI N), .int (nI wd), .ref m1, .ref m2, .ref m3, .ref m4, .ref m5, .int (nI km), .int kc, .int kl, .int ac])), (m4, .inl (c4, 20, .inl MK))] H := hP
  have hD : va_D A [(xm, .inr (4, [.int 0, .int (nI N), .int (nI wd), .ref m1, .ref m2, .ref m3, .ref m4, .ref m5, .int (nI km), .int kc, .int kl, .int ac])), (m4, .inl (c4, 20, .inl MK))] := hD
  refine lv_if_eq (tgt := 22) hx hb dX4_add_10 (by decide) (fun c10 => ?_) (fun c10 => ?_)
  · -- 10: jumps
    have hno : (¬ ∃ v, ks_lit N x0 v) ∨ 20 ≤ km := Or.inl (by
      rcases hw1 with q | q
      · exact absurd (q.1.symm.trans c10) (by decide)
      · exact q.2)
    refine lv_iconst (v := 0) hx hb dX4_add_22 (by decide) ?_
    have hP9 : va_P (dC, dI) ksCl [(xm, .inr (4, [.int 0, .int (nI N), .int (nI wd), .ref m1, .ref m2, .ref m3, .ref m4, .ref m5, .int (nI km), .int kc, .int kl, .int ac])), (m4, .inl (c4, 20, .inl MK))] _ := hP
    have hD9 : va_D A [(xm, .inr (4, [.int 0, .int (nI N), .int (nI wd), .ref m1, .ref m2, .ref m3, .ref m4, .ref m5, .int (nI km), .int kc, .int kl, .int ac])), (m4, .inl (c4, 20, .inl MK))] := hD
    have hK9 : va_K (dC, dI) ksCl [(c4, .int)] s := hK
    exact W.zret (v := 0) (ty := .boolean) hx hb hr (by decide) (fun t ht hW9 => ⟨⟨0, (MK, km), rfl, Or.inl ⟨rfl, hno, rfl⟩, by rw [ht]; exact hP9, va_K.moved hW9.alike hK9, hD9⟩, hS.F ht⟩) hS.2.2 dX4_add_23
  · -- 10: goes on
    have hv : ∃ v, ks_lit N x0 v := by
      rcases hw1 with q | q
      · exact q.2
      · exact absurd q.1 c10
    refine lv_aload_n hx hb dX4_add_13 rfl (lv_at hl 0 rfl) ?_
    refine va_get (D := (dC, dI)) (ci := 4) (v := .int (nI km)) (C := RX4) (T := TM) (N := 12) hx hb hts hiX4 hown hK hP 0 rfl rfl 8 (by decide) f41 (fun _ h9 => h9) rfl dX4_add_14 ?_
    refine lv_bipush (v := nI 20) hx hb dX4_add_17 (by decide) ?_
    refine lv_icmp_ne (tgt := 24) hx hb dX4_add_19 (by decide) (fun c19 => ?_) (fun c19 => ?_)
    · -- 19: jumps
      have h20 : km < 20 := by
        rcases Nat.lt_or_ge km 20 with q | q
        · exact q
        · exact absurd (by rw [show km = 20 by omega]) c19
      refine lv_aload_n hx hb dX4_add_24 rfl (lv_at hl 0 rfl) ?_
      refine va_get (D := (dC, dI)) (ci := 4) (v := .ref m4) (C := RX4) (T := TM) (N := 12) hx hb hts hiX4 hown hK hP 0 rfl rfl 6 (by decide) f19 (fun _ h9 => h9) rfl dX4_add_25 ?_
      refine lv_aload_n hx hb dX4_add_28 rfl (lv_at hl 0 rfl) ?_
      refine va_get (D := (dC, dI)) (ci := 4) (v := .int (nI km)) (C := RX4) (T := TM) (N := 12) hx hb hts hiX4 hown hK hP 0 rfl rfl 8 (by decide) f41 (fun _ h9 => h9) rfl dX4_add_29 ?_
      refine lv_iload_n hx hb dX4_add_32 rfl (lv_at hl 1 rfl) ?_
      refine ks_ast hx hb hK hP hD hS 1 0 rfl rfl (j := km) (by omega) (by decide) dX4_add_33 (fun H locs hP hD hS => ?_)
      have hP : va_P (dC, dI) ksCl [(xm, .inr (4, [.int 0, .int (nI N), .int (nI wd), .ref m1, .ref m2, .ref m3, .ref m4, .ref m5, .int (nI km), .int kc, .int kl, .int ac])), (m4, .inl (c4, 20, .inl (upd MK km x0)))] H := hP
      have hD : va_D A [(xm, .inr (4, [.int 0, .int (nI N), .int (nI wd), .ref m1, .ref m2, .ref m3, .ref m4, .ref m5, .int (nI km), .int kc, .int kl, .int ac])), (m4, .inl (c4, 20, .inl (upd MK km x0)))] := hD
      refine lv_aload_n hx hb dX4_add_34 rfl (lv_at hl 0 rfl) ?_
      refine lv_dup hx hb dX4_add_35 rfl ?_
      refine va_get (D := (dC, dI)) (ci := 4) (v := .int (nI km)) (C := RX4) (T := TM) (N := 12) hx hb hts hiX4 hown hK hP 0 rfl rfl 8 (by decide) f41 (fun _ h9 => h9) rfl dX4_add_36 ?_
      refine lv_iconst (v := 1) hx hb dX4_add_39 (by decide) ?_
      refine lv_iadd hx hb dX4_add_40 ?_
      refine ks_top (y := nI (km + 1)) (nI_1 km) ?_
      refine va_put (D := (dC, dI)) (ci := 4) (v := .int (nI (km + 1))) (ty := .int) (C := RX4) (T := TM) (N := 12) hx hb hts hiX4 tyM tyM_ok nmM hown hK hP hD hS 0 rfl rfl 8 (by decide) f41 (fun _ h9 => h9) rfl (by decide +kernel) rfl rfl (Nat.le_of_ble_eq_true rfl) dX4_add_41 (fun H locs hP hD hS => ?_)
      have hP : va_P (dC, dI) ksCl [(xm, .inr (4, [.int 0, .int (nI N), .int (nI wd), .ref m1, .ref m2, .ref m3, .ref m4, .ref m5, .int (nI (km + 1)), .int kc, .int kl, .int ac])), (m4, .inl (c4, 20, .inl (upd MK km x0)))] H := hP
      have hD : va_D A [(xm, .inr (4, [.int 0, .int (nI N), .int (nI wd), .ref m1, .ref m2, .ref m3, .ref m4, .ref m5, .int (nI (km + 1)), .int kc, .int kl, .int ac])), (m4, .inl (c4, 20, .inl (upd MK km x0)))] := hD
      refine lv_iconst (v := 1) hx hb dX4_add_44 (by decide) ?_
      have hP9 : va_P (dC, dI) ksCl [(xm, .inr (4, [.int 0, .int (nI N), .int (nI wd), .ref m1, .ref m2, .ref m3, .ref m4, .ref m5, .int (nI (km + 1)), .int kc, .int kl, .int ac])), (m4, .inl (c4, 20, .inl (upd MK km x0)))] _ := hP
      have hD9 : va_D A [(xm, .inr (4, [.int 0, .int (nI N), .int (nI wd), .ref m1, .ref m2, .ref m3, .ref m4, .ref m5, .int (nI (km + 1)), .int kc, .int kl, .int ac])), (m4, .inl (c4, 20, .inl (upd MK km x0)))] := hD
      have hK9 : va_K (dC, dI) ksCl [(c4, .int)] s := hK
      exact W.zret (v := 1) (ty := .boolean) hx hb hr (by decide) (fun t ht hW9 => ⟨⟨1, (upd MK km x0, km + 1), rfl, Or.inr ⟨rfl, h20, hv, rfl⟩, by rw [ht]; exact hP9, va_K.moved hW9.alike hK9, hD9⟩, hS.F ht⟩) hS.2.2 dX4_add_45
    · -- 19: goes on
      have hno : (¬ ∃ v, ks_lit N x0 v) ∨ 20 ≤ km := Or.inr (by
        have := (nI_eq (by omega) (by decide)).mp c19
        omega)
      refine lv_iconst (v := 0) hx hb dX4_add_22 (by decide) ?_
      have hP9 : va_P (dC, dI) ksCl [(xm, .inr (4, [.int 0, .int (nI N), .int (nI wd), .ref m1, .ref m2, .ref m3, .ref m4, .ref m5, .int (nI km), .int kc, .int kl, .int ac])), (m4, .inl (c4, 20, .inl MK))] _ := hP
      have hD9 : va_D A [(xm, .inr (4, [.int 0, .int (nI N), .int (nI wd), .ref m1, .ref m2, .ref m3, .ref m4, .ref m5, .int (nI km), .int kc, .int kl, .int ac])), (m4, .inl (c4, 20, .inl MK))] := hD
      have hK9 : va_K (dC, dI) ksCl [(c4, .int)] s := hK
      exact W.zret (v := 0) (ty := .boolean) hx hb hr (by decide) (fun t ht hW9 => ⟨⟨0, (MK, km), rfl, Or.inl ⟨rfl, hno, rfl⟩, by rw [ht]; exact hP9, va_K.moved hW9.alike hK9, hD9⟩, hS.F ht⟩) hS.2.2 dX4_add_23
