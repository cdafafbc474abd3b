set_option maxHeartbeats 4000000 in
set_option maxRecDepth 100000 in
/-- LessonSolverModel(variables) -/
theorem km_init (l : Launch) (dC : Nat → ClassId) (dI : Nat → Nat → Nat) (xm : Nat) (x0 : Int32) : ks_Mv l yX4_init wsX4_init ({ frames := 1, cells := 5, slots := 3132, locals := 21 }) (dC, dI) [.ref xm, .int x0] [(xm, .inr (4, [.int 0, .int 0, .int 0, .null, .null, .null, .null, .null, .int 0, .int 0, .int 0, .int 0]))] [] 5 3132 (S := Nat × Nat × Nat × Nat × Nat × ClassId × ClassId × ClassId × ClassId × ClassId × (Nat → Int64)) (fun u => ks_TT (ks_N x0) u.2.2.2.2.2.2.2.2.2.2 (fun _ => True)) (fun u => [(xm, .inr (4, [.int 0, .int (nI (ks_N x0)), .int (nI (ks_wd (ks_N x0))), .ref u.1, .ref u.2.1, .ref u.2.2.1, .ref u.2.2.2.1, .ref u.2.2.2.2.1, .int (nI 0), .int (nI 0), .int (nI 0), .int (nI 0)])), (u.1, .inl (u.2.2.2.2.2.1, 1024, .inr (.inl u.2.2.2.2.2.2.2.2.2.2))), (u.2.1, .inl (u.2.2.2.2.2.2.1, 1024, .inr (.inl (fun _ => 0)))), (u.2.2.1, .inl (u.2.2.2.2.2.2.2.1, 1024, .inr (.inl (fun _ => 0)))), (u.2.2.2.1, .inl (u.2.2.2.2.2.2.2.2.1, 20, .inl (fun _ => 0))), (u.2.2.2.2.1, .inl (u.2.2.2.2.2.2.2.2.2.1, 40, .inl (fun _ => 0)))]) (fun u => [(u.2.2.2.2.2.1, .long), (u.2.2.2.2.2.2.1, .long), (u.2.2.2.2.2.2.2.1, .long), (u.2.2.2.2.2.2.2.2.1, .int), (u.2.2.2.2.2.2.2.2.2.1, .int)]) := by
  intro sz
  refine Met.ofW (cc := cX4_init) (maxL := 2) (ret := none) (by decide) rfl ?_
  intro p e s m args below meth c s₁ B9 hml hv
  obtain ⟨rfl, hsz, hP, hK, hD0, hNW⟩ := hv
  have hx := B9.exec
  have hb := B9.bytes
  have hr := B9.returns
  have hts := atoms_spec (ws := wsX4_init) B9.pre
  have hown : s.vm.findClass RX4 = some m.cls := findClass_of_methodNamed B9.named
  have hlocks := B9.notSynchronized
  have hin : meth.name = "<init>" := (name_of_methodNamed B9.named B9.method).1
  subst hsz
  have hD := hD0.self (sz := s.heap.size)
  generalize hAe : va_A [(xm, .inr (4, [.int 0, .int 0, .int 0, .null, .null, .null, .null, .null, .int 0, .int 0, .int 0, .int 0]))] s.heap.size = A at hD ⊢
  have hA : ∀ q : Nat, s.heap.size ≤ q → A q := fun q h => by rw [← hAe]; exact Or.inr h
  have hS : va_S A s.heap s.heap [] := va_S.rf
  have hiX4 : ∀ w ∈ u_ws RX4 TM 12, w ∈ wsX4_init := by decide +kernel
  have f7 := hts (.fieldLink RX4 7 "LessonSolverModel" "all" "[J") (by decide +kernel)
  have f13 := hts (.fieldLink RX4 13 "LessonSolverModel" "left" "[J") (by decide +kernel)
  have f16 := hts (.fieldLink RX4 16 "LessonSolverModel" "clause" "[J") (by decide +kernel)
  have f19 := hts (.fieldLink RX4 19 "LessonSolverModel" "making" "[I") (by decide +kernel)
  have f23 := hts (.fieldLink RX4 23 "LessonSolverModel" "assumed" "[I") (by decide +kernel)
  have f26 := hts (.fieldLink RX4 26 "LessonSolverModel" "n" "I") (by decide +kernel)
  have f30 := hts (.fieldLink RX4 30 "LessonSolverModel" "words" "I") (by decide +kernel)
  have haril := hts (.arrayClass (newarray.typeOf .long)) (by decide +kernel)
  have hari := hts (.arrayClass (newarray.typeOf .int)) (by decide +kernel)
  have hl := lv_entry ([.ref xm, .int x0]) (n := 2) (Nat.le_of_ble_eq_true rfl)
  rw [lg_entry_eq]
  generalize (lg_sl ([.ref xm, .int x0]) ++ List.replicate (2 - (lg_sl ([.ref xm, .int x0])).length) Slot.unset).toArray = ls at hl ⊢
  have hl : lv_has ls 2 [(0, .ref xm), (1, .int x0)] := hl
  refine lv_aload_n hx hb dX4_init_0 rfl (lv_at hl 0 rfl) ?_
  refine W.objInit hx hb hown (hts (.methodLink RX4 1 objectInit) (by decide +kernel)) (hts (.instanceMethod objectInit) (by decide +kernel)) (hts (.code objectInit ⟨#[0xb1]⟩ 1 none) (by decide +kernel)) rfl (by rw [hml]; exact hl.1) rfl dX4_init_1 (Nat.le_of_ble_eq_true rfl) (Nat.le_of_ble_eq_true rfl) ?_
  refine W.eq (g2 := F0 m 4 ls []) rfl ?_
  refine lv_aload_n hx hb dX4_init_4 rfl (lv_at hl 0 rfl) ?_
  refine lv_sipush (v := nI 1024) hx hb dX4_init_5 (by decide) ?_
  refine va_newa (N' := 1024) (a0 := (1024, .inr (.inl (fun _ => 0)))) hx hb haril rfl hK hP hD hS hA (fun _ => rfl) (by decide) (by decide) (by decide) (Nat.le_of_ble_eq_true rfl) (Nat.le_of_ble_eq_true rfl) dX4_init_8 (fun m1 c1 H hK hP hD hS => ?_)
  have hP : va_P (dC, dI) ksCl [(xm, .inr (4, [.int 0, .int 0, .int 0, .null, .null, .null, .null, .null, .int 0, .int 0, .int 0, .int 0])), (m1, .inl (c1, 1024, .inr (.inl (fun _ => 0))))] H := hP
  have hD : va_D A [(xm, .inr (4, [.int 0, .int 0, .int 0, .null, .null, .null, .null, .null, .int 0, .int 0, .int 0, .int 0])), (m1, .inl (c1, 1024, .inr (.inl (fun _ => 0))))] := hD
  have hK : va_K (dC, dI) ksCl [(c1, .long)] s := hK
  refine va_putF (D := (dC, dI)) (ci := 4) (v := .ref m1) (ty := .array .long) (C := RX4) (T := TM) (N := 12) hx hb hts hiX4 tyM tyM_ok nmM hown hK hP hD hS 0 rfl rfl 3 (by decide) f7 (fun _ h9 => h9) rfl hin rfl (by decide +kernel) rfl rfl (Nat.le_of_ble_eq_true rfl) dX4_init_10 (fun H locs hP hD hS => ?_)
  have hP : va_P (dC, dI) ksCl [(xm, .inr (4, [.int 0, .int 0, .int 0, .ref m1, .null, .null, .null, .null, .int 0, .int 0, .int 0, .int 0])), (m1, .inl (c1, 1024, .inr (.inl (fun _ => 0))))] H := hP
  have hD : va_D A [(xm, .inr (4, [.int 0, .int 0, .int 0, .ref m1, .null, .null, .null, .null, .int 0, .int 0, .int 0, .int 0])), (m1, .inl (c1, 1024, .inr (.inl (fun _ => 0))))] := hD
  refine lv_aload_n hx hb dX4_init_13 rfl (lv_at hl 0 rfl) ?_
  refine lv_sipush (v := nI 1024) hx hb dX4_init_14 (by decide) ?_
  refine va_newa (N' := 1024) (a0 := (1024, .inr (.inl (fun _ => 0)))) hx hb haril rfl hK hP hD hS hA (fun _ => rfl) (by decide) (by decide) (by decide) (Nat.le_of_ble_eq_true rfl) (Nat.le_of_ble_eq_true rfl) dX4_init_17 (fun m2 c2 H hK hP hD hS => ?_)
  have hP : va_P (dC, dI) ksCl [(xm, .inr (4, [.int 0, .int 0, .int 0, .ref m1, .null, .null, .null, .null, .int 0, .int 0, .int 0, .int 0])), (m1, .inl (c1, 1024, .inr (.inl (fun _ => 0)))), (m2, .inl (c2, 1024, .inr (.inl (fun _ => 0))))] H := hP
  have hD : va_D A [(xm, .inr (4, [.int 0, .int 0, .int 0, .ref m1, .null, .null, .null, .null, .int 0, .int 0, .int 0, .int 0])), (m1, .inl (c1, 1024, .inr (.inl (fun _ => 0)))), (m2, .inl (c2, 1024, .inr (.inl (fun _ => 0))))] := hD
  have hK : va_K (dC, dI) ksCl [(c1, .long), (c2, .long)] s := hK
  refine va_putF (D := (dC, dI)) (ci := 4) (v := .ref m2) (ty := .array .long) (C := RX4) (T := TM) (N := 12) hx hb hts hiX4 tyM tyM_ok nmM hown hK hP hD hS 0 rfl rfl 4 (by decide) f13 (fun _ h9 => h9) rfl hin rfl (by decide +kernel) rfl rfl (Nat.le_of_ble_eq_true rfl) dX4_init_19 (fun H locs hP hD hS => ?_)
  have hP : va_P (dC, dI) ksCl [(xm, .inr (4, [.int 0, .int 0, .int 0, .ref m1, .ref m2, .null, .null, .null, .int 0, .int 0, .int 0, .int 0])), (m1, .inl (c1, 1024, .inr (.inl (fun _ => 0)))), (m2, .inl (c2, 1024, .inr (.inl (fun _ => 0))))] H := hP
  have hD : va_D A [(xm, .inr (4, [.int 0, .int 0, .int 0, .ref m1, .ref m2, .null, .null, .null, .int 0, .int 0, .int 0, .int 0])), (m1, .inl (c1, 1024, .inr (.inl (fun _ => 0)))), (m2, .inl (c2, 1024, .inr (.inl (fun _ => 0))))] := hD
  refine lv_aload_n hx hb dX4_init_22 rfl (lv_at hl 0 rfl) ?_
  refine lv_sipush (v := nI 1024) hx hb dX4_init_23 (by decide) ?_
  refine va_newa (N' := 1024) (a0 := (1024, .inr (.inl (fun _ => 0)))) hx hb haril rfl hK hP hD hS hA (fun _ => rfl) (by decide) (by decide) (by decide) (Nat.le_of_ble_eq_true rfl) (Nat.le_of_ble_eq_true rfl) dX4_init_26 (fun m3 c3 H hK hP hD hS => ?_)
  have hP : va_P (dC, dI) ksCl [(xm, .inr (4, [.int 0, .int 0, .int 0, .ref m1, .ref m2, .null, .null, .null, .int 0, .int 0, .int 0, .int 0])), (m1, .inl (c1, 1024, .inr (.inl (fun _ => 0)))), (m2, .inl (c2, 1024, .inr (.inl (fun _ => 0)))), (m3, .inl (c3, 1024, .inr (.inl (fun _ => 0))))] H := hP
  have hD : va_D A [(xm, .inr (4, [.int 0, .int 0, .int 0, .ref m1, .ref m2, .null, .null, .null, .int 0, .int 0, .int 0, .int 0])), (m1, .inl (c1, 1024, .inr (.inl (fun _ => 0)))), (m2, .inl (c2, 1024, .inr (.inl (fun _ => 0)))), (m3, .inl (c3, 1024, .inr (.inl (fun _ => 0))))] := hD
  have hK : va_K (dC, dI) ksCl [(c1, .long), (c2, .long), (c3, .long)] s := hK
  refine va_putF (D := (dC, dI)) (ci := 4) (v := .ref m3) (ty := .array .long) (C := RX4) (T := TM) (N := 12) hx hb hts hiX4 tyM tyM_ok nmM hown hK hP hD hS 0 rfl rfl 5 (by decide) f16 (fun _ h9 => h9) rfl hin rfl (by decide +kernel) rfl rfl (Nat.le_of_ble_eq_true rfl) dX4_init_28 (fun H locs hP hD hS => ?_)
  have hP : va_P (dC, dI) ksCl [(xm, .inr (4, [.int 0, .int 0, .int 0, .ref m1, .ref m2, .ref m3, .null, .null, .int 0, .int 0, .int 0, .int 0])), (m1, .inl (c1, 1024, .inr (.inl (fun _ => 0)))), (m2, .inl (c2, 1024, .inr (.inl (fun _ => 0)))), (m3, .inl (c3, 1024, .inr (.inl (fun _ => 0))))] H := hP
  have hD : va_D A [(xm, .inr (4, [.int 0, .int 0, .int 0, .ref m1, .ref m2, .ref m3, .null, .null, .int 0, .int 0, .int 0, .int 0])), (m1, .inl (c1, 1024, .inr (.inl (fun _ => 0)))), (m2, .inl (c2, 1024, .inr (.inl (fun _ => 0)))), (m3, .inl (c3, 1024, .inr (.inl (fun _ => 0))))] := hD
  refine lv_aload_n hx hb dX4_init_31 rfl (lv_at hl 0 rfl) ?_
  refine lv_bipush (v := nI 20) hx hb dX4_init_32 (by decide) ?_
  refine va_newa (N' := 20) (a0 := (20, .inl (fun _ => 0))) hx hb hari rfl hK hP hD hS hA (fun _ => rfl) (by decide) (by decide) (by decide) (Nat.le_of_ble_eq_true rfl) (Nat.le_of_ble_eq_true rfl) dX4_init_34 (fun m4 c4 H hK hP hD hS => ?_)
  have hP : va_P (dC, dI) ksCl [(xm, .inr (4, [.int 0, .int 0, .int 0, .ref m1, .ref m2, .ref m3, .null, .null, .int 0, .int 0, .int 0, .int 0])), (m1, .inl (c1, 1024, .inr (.inl (fun _ => 0)))), (m2, .inl (c2, 1024, .inr (.inl (fun _ => 0)))), (m3, .inl (c3, 1024, .inr (.inl (fun _ => 0)))), (m4, .inl (c4, 20, .inl (fun _ => 0)))] H := hP
  have hD : va_D A [(xm, .inr (4, [.int 0, .int 0, .int 0, .ref m1, .ref m2, .ref m3, .null, .null, .int 0, .int 0, .int 0, .int 0])), (m1, .inl (c1, 1024, .inr (.inl (fun _ => 0)))), (m2, .inl (c2, 1024, .inr (.inl (fun _ => 0)))), (m3, .inl (c3, 1024, .inr (.inl (fun _ => 0)))), (m4, .inl (c4, 20, .inl (fun _ => 0)))] := hD
  have hK : va_K (dC, dI) ksCl [(c1, .long), (c2, .long), (c3, .long), (c4, .int)] s := hK
  refine va_putF (D := (dC, dI)) (ci := 4) (v := .ref m4) (ty := .array .int) (C := RX4) (T := TM) (N := 12) hx hb hts hiX4 tyM tyM_ok nmM hown hK hP hD hS 0 rfl rfl 6 (by decide) f19 (fun _ h9 => h9) rfl hin rfl (by decide +kernel) rfl rfl (Nat.le_of_ble_eq_true rfl) dX4_init_36 (fun H locs hP hD hS => ?_)
  have hP : va_P (dC, dI) ksCl [(xm, .inr (4, [.int 0, .int 0, .int 0, .ref m1, .ref m2, .ref m3, .ref m4, .null, .int 0, .int 0, .int 0, .int 0])), (m1, .inl (c1, 1024, .inr (.inl (fun _ => 0)))), (m2, .inl (c2, 1024, .inr (.inl (fun _ => 0)))), (m3, .inl (c3, 1024, .inr (.inl (fun _ => 0)))), (m4, .inl (c4, 20, .inl (fun _ => 0)))] H := hP
  have hD : va_D A [(xm, .inr (4, [.int 0, .int 0, .int 0, .ref m1, .ref m2, .ref m3, .ref m4, .null, .int 0, .int 0, .int 0, .int 0])), (m1, .inl (c1, 1024, .inr (.inl (fun _ => 0)))), (m2, .inl (c2, 1024, .inr (.inl (fun _ => 0)))), (m3, .inl (c3, 1024, .inr (.inl (fun _ => 0)))), (m4, .inl (c4, 20, .inl (fun _ => 0)))] := hD
  refine lv_aload_n hx hb dX4_init_39 rfl (lv_at hl 0 rfl) ?_
  refine lv_bipush (v := nI 40) hx hb dX4_init_40 (by decide) ?_
  refine va_newa (N' := 40) (a0 := (40, .inl (fun _ => 0))) hx hb hari rfl hK hP hD hS hA (fun _ => rfl) (by decide) (by decide) (by decide) (Nat.le_of_ble_eq_true rfl) (Nat.le_of_ble_eq_true rfl) dX4_init_42 (fun m5 c5 H hK hP hD hS => ?_)
  have hP : va_P (dC, dI) ksCl [(xm, .inr (4, [.int 0, .int 0, .int 0, .ref m1, .ref m2, .ref m3, .ref m4, .null, .int 0, .int 0, .int 0, .int 0])), (m1, .inl (c1, 1024, .inr (.inl (fun _ => 0)))), (m2, .inl (c2, 1024, .inr (.inl (fun _ => 0)))), (m3, .inl (c3, 1024, .inr (.inl (fun _ => 0)))), (m4, .inl (c4, 20, .inl (fun _ => 0))), (m5, .inl (c5, 40, .inl (fun _ => 0)))] H := hP
  have hD : va_D A [(xm, .inr (4, [.int 0, .int 0, .int 0, .ref m1, .ref m2, .ref m3, .ref m4, .null, .int 0, .int 0, .int 0, .int 0])), (m1, .inl (c1, 1024, .inr (.inl (fun _ => 0)))), (m2, .inl (c2, 1024, .inr (.inl (fun _ => 0)))), (m3, .inl (c3, 1024, .inr (.inl (fun _ => 0)))), (m4, .inl (c4, 20, .inl (fun _ => 0))), (m5, .inl (c5, 40, .inl (fun _ => 0)))] := hD
  have hK : va_K (dC, dI) ksCl [(c1, .long), (c2, .long), (c3, .long), (c4, .int), (c5, .int)] s := hK
  refine va_putF (D := (dC, dI)) (ci := 4) (v := .ref m5) (ty := .array .int) (C := RX4) (T := TM) (N := 12) hx hb hts hiX4 tyM tyM_ok nmM hown hK hP hD hS 0 rfl rfl 7 (by decide) f23 (fun _ h9 => h9) rfl hin rfl (by decide +kernel) rfl rfl (Nat.le_of_ble_eq_true rfl) dX4_init_44 (fun H locs hP hD hS => ?_)
  have hP : va_P (dC, dI) ksCl [(xm, .inr (4, [.int 0, .int 0, .int 0, .ref m1, .ref m2, .ref m3, .ref m4, .ref m5, .int 0, .int 0, .int 0, .int 0])), (m1, .inl (c1, 1024, .inr (.inl (fun _ => 0)))), (m2, .inl (c2, 1024, .inr (.inl (fun _ => 0)))), (m3, .inl (c3, 1024, .inr (.inl (fun _ => 0)))), (m4, .inl (c4, 20, .inl (fun _ => 0))), (m5, .inl (c5, 40, .inl (fun _ => 0)))] H := hP
  have hD : va_D A [(xm, .inr (4, [.int 0, .int 0, .int 0, .ref m1, .ref m2, .ref m3, .ref m4, .ref m5, .int 0, .int 0, .int 0, .int 0])), (m1, .inl (c1, 1024, .inr (.inl (fun _ => 0)))), (m2, .inl (c2, 1024, .inr (.inl (fun _ => 0)))), (m3, .inl (c3, 1024, .inr (.inl (fun _ => 0)))), (m4, .inl (c4, 20, .inl (fun _ => 0))), (m5, .inl (c5, 40, .inl (fun _ => 0)))] := hD
  refine lv_aload_n hx hb dX4_init_47 rfl (lv_at hl 0 rfl) ?_
  refine lv_iload_n hx hb dX4_init_48 rfl (lv_at hl 1 rfl) ?_
  refine lv_iconst (v := 1) hx hb dX4_init_49 (by decide) ?_
  refine lv_icmp_ge (tgt := 57) hx hb dX4_init_50 (by decide) (fun c50 => ?_) (fun c50 => ?_)
  · -- 50: jumps
    refine lv_iload_n hx hb dX4_init_57 rfl (lv_at hl 1 rfl) ?_
    refine lv_bipush (v := nI 16) hx hb dX4_init_58 (by decide) ?_
    refine lv_icmp_le (tgt := 68) hx hb dX4_init_60 (by decide) (fun c60 => ?_) (fun c60 => ?_)
    · -- 60: jumps
      refine lv_iload_n hx hb dX4_init_68 rfl (lv_at hl 1 rfl) ?_
      refine ks_top (y := nI (ks_N x0)) (ks_N_mid c50 c60) ?_
      refine va_putF (D := (dC, dI)) (ci := 4) (v := .int (nI (ks_N x0))) (ty := .int) (C := RX4) (T := TM) (N := 12) hx hb hts hiX4 tyM tyM_ok nmM hown hK hP hD hS 0 rfl rfl 1 (by decide) f26 (fun _ h9 => h9) rfl hin rfl (by decide +kernel) rfl rfl (Nat.le_of_ble_eq_true rfl) dX4_init_69 (fun H locs hP hD hS => ?_)
      have hP : va_P (dC, dI) ksCl [(xm, .inr (4, [.int 0, .int (nI (ks_N x0)), .int 0, .ref m1, .ref m2, .ref m3, .ref m4, .ref m5, .int 0, .int 0, .int 0, .int 0])), (m1, .inl (c1, 1024, .inr (.inl (fun _ => 0)))), (m2, .inl (c2, 1024, .inr (.inl (fun _ => 0)))), (m3, .inl (c3, 1024, .inr (.inl (fun _ => 0)))), (m4, .inl (c4, 20, .inl (fun _ => 0))), (m5, .inl (c5, 40, .inl (fun _ => 0)))] H := hP
      have hD : va_D A [(xm, .inr (4, [.int 0, .int (nI (ks_N x0)), .int 0, .ref m1, .ref m2, .ref m3, .ref m4, .ref m5, .int 0, .int 0, .int 0, .int 0])), (m1, .inl (c1, 1024, .inr (.inl (fun _ => 0)))), (m2, .inl (c2, 1024, .inr (.inl (fun _ => 0)))), (m3, .inl (c3, 1024, .inr (.inl (fun _ => 0)))), (m4, .inl (c4, 20, .inl (fun _ => 0))), (m5, .inl (c5, 40, .inl (fun _ => 0)))] := hD
      refine lv_aload_n hx hb dX4_init_72 rfl (lv_at hl 0 rfl) ?_
      refine lv_aload_n hx hb dX4_init_73 rfl (lv_at hl 0 rfl) ?_
      refine va_get (D := (dC, dI)) (ci := 4) (v := .int (nI (ks_N x0))) (C := RX4) (T := TM) (N := 12) hx hb hts hiX4 hown hK hP 0 rfl rfl 1 (by decide) f26 (fun _ h9 => h9) rfl dX4_init_74 ?_
      refine lv_bipush (v := nI 6) hx hb dX4_init_77 (by decide) ?_
      refine lv_icmp_ge (tgt := 86) hx hb dX4_init_79 (by decide) (fun c79 => ?_) (fun c79 => ?_)
      · -- 79: jumps
        have h6 : 6 ≤ ks_N x0 := by
          rcases Nat.lt_or_ge (ks_N x0) 6 with q | q
          · exact absurd c79 (nI_ge q (by decide))
          · exact q
        refine lv_iconst (v := 1) hx hb dX4_init_86 (by decide) ?_
        refine lv_aload_n hx hb dX4_init_87 rfl (lv_at hl 0 rfl) ?_
        refine va_get (D := (dC, dI)) (ci := 4) (v := .int (nI (ks_N x0))) (C := RX4) (T := TM) (N := 12) hx hb hts hiX4 hown hK hP 0 rfl rfl 1 (by decide) f26 (fun _ h9 => h9) rfl dX4_init_88 ?_
        refine lv_bipush (v := nI 6) hx hb dX4_init_91 (by decide) ?_
        refine lv_isub hx hb dX4_init_93 ?_
        refine ks_top (y := nI (ks_N x0 - 6)) (pk_sub h6) ?_
        refine lv_ishl hx hb dX4_init_94 ?_
        refine ks_top (y := nI (ks_wd (ks_N x0))) (ks_wd_sh (ks_N x0) (ks_N_le x0) h6) ?_
        refine va_putF (D := (dC, dI)) (ci := 4) (v := .int (nI (ks_wd (ks_N x0)))) (ty := .int) (C := RX4) (T := TM) (N := 12) hx hb hts hiX4 tyM tyM_ok nmM hown hK hP hD hS 0 rfl rfl 2 (by decide) f30 (fun _ h9 => h9) rfl hin rfl (by decide +kernel) rfl rfl (Nat.le_of_ble_eq_true rfl) dX4_init_95 (fun H locs hP hD hS => ?_)
        have hP : va_P (dC, dI) ksCl [(xm, .inr (4, [.int 0, .int (nI (ks_N x0)), .int (nI (ks_wd (ks_N x0))), .ref m1, .ref m2, .ref m3, .ref m4, .ref m5, .int 0, .int 0, .int 0, .int 0])), (m1, .inl (c1, 1024, .inr (.inl (fun _ => 0)))), (m2, .inl (c2, 1024, .inr (.inl (fun _ => 0)))), (m3, .inl (c3, 1024, .inr (.inl (fun _ => 0)))), (m4, .inl (c4, 20, .inl (fun _ => 0))), (m5, .inl (c5, 40, .inl (fun _ => 0)))] H := hP
        have hD : va_D A [(xm, .inr (4, [.int 0, .int (nI (ks_N x0)), .int (nI (ks_wd (ks_N x0))), .ref m1, .ref m2, .ref m3, .ref m4, .ref m5, .int 0, .int 0, .int 0, .int 0])), (m1, .inl (c1, 1024, .inr (.inl (fun _ => 0)))), (m2, .inl (c2, 1024, .inr (.inl (fun _ => 0)))), (m3, .inl (c3, 1024, .inr (.inl (fun _ => 0)))), (m4, .inl (c4, 20, .inl (fun _ => 0))), (m5, .inl (c5, 40, .inl (fun _ => 0)))] := hD
        refine lv_aload_n hx hb dX4_init_98 rfl (lv_at hl 0 rfl) ?_
        refine ks_callvV (As := []) (rest := []) (wr := [(m2, .inl (c2, 1024, .inr (.inl (fun _ => 0)))), (m3, .inl (c3, 1024, .inr (.inl (fun _ => 0)))), (m4, .inl (c4, 20, .inl (fun _ => 0))), (m5, .inl (c5, 40, .inl (fun _ => 0)))]) (wz := fun u => [(xm, .inr (4, [.int 0, .int (nI (ks_N x0)), .int (nI (ks_wd (ks_N x0))), .ref m1, .ref m2, .ref m3, .ref m4, .ref m5, .int (nI 0), .int (nI 0), .int (nI 0), .int (nI 0)])), (m1, .inl (c1, 1024, .inr (.inl u))), (m2, .inl (c2, 1024, .inr (.inl (fun _ => 0)))), (m3, .inl (c3, 1024, .inr (.inl (fun _ => 0)))), (m4, .inl (c4, 20, .inl (fun _ => 0))), (m5, .inl (c5, 40, .inl (fun _ => 0)))]) ⟨hx, hb, hml, hown, hts⟩ (km_clear l dC dI xm m1 m2 m3 m4 m5 (ks_wd (ks_N x0)) c1 (ks_N x0) 0 0 0 0 0 (fun _ => 0) (ks_N_le x0) rfl) (cwV 0 hts gX4_init_X4_clear rfl rfl rfl (by decide +kernel) ⟨Nat.le_of_ble_eq_true rfl, Nat.le_of_ble_eq_true rfl⟩) hK hP hD hS hA hNW [0, 1] [2, 3, 4, 5] [0] [4, 5, 0, 1, 2, 3] rfl rfl rfl rfl (by decide) (by decide) (by decide) (ci := 4) (q0 := 0) rfl rfl rfl (fun _ => rfl) (fun _ => rfl) (by decide) rfl hl.1 rfl (Nat.le_of_ble_eq_true rfl) dX4_init_99 ⟨Nat.le_of_ble_eq_true rfl, Nat.le_of_ble_eq_true rfl⟩ (fun A1 H locs hw9 hK9 hP hD hS => ?_)
        have hP : va_P (dC, dI) ksCl [(xm, .inr (4, [.int 0, .int (nI (ks_N x0)), .int (nI (ks_wd (ks_N x0))), .ref m1, .ref m2, .ref m3, .ref m4, .ref m5, .int (nI 0), .int (nI 0), .int (nI 0), .int (nI 0)])), (m1, .inl (c1, 1024, .inr (.inl A1))), (m2, .inl (c2, 1024, .inr (.inl (fun _ => 0)))), (m3, .inl (c3, 1024, .inr (.inl (fun _ => 0)))), (m4, .inl (c4, 20, .inl (fun _ => 0))), (m5, .inl (c5, 40, .inl (fun _ => 0)))] H := hP
        have hD : va_D A [(xm, .inr (4, [.int 0, .int (nI (ks_N x0)), .int (nI (ks_wd (ks_N x0))), .ref m1, .ref m2, .ref m3, .ref m4, .ref m5, .int (nI 0), .int (nI 0), .int (nI 0), .int (nI 0)])), (m1, .inl (c1, 1024, .inr (.inl A1))), (m2, .inl (c2, 1024, .inr (.inl (fun _ => 0)))), (m3, .inl (c3, 1024, .inr (.inl (fun _ => 0)))), (m4, .inl (c4, 20, .inl (fun _ => 0))), (m5, .inl (c5, 40, .inl (fun _ => 0)))] := hD
        have hP9 : va_P (dC, dI) ksCl [(xm, .inr (4, [.int 0, .int (nI (ks_N x0)), .int (nI (ks_wd (ks_N x0))), .ref m1, .ref m2, .ref m3, .ref m4, .ref m5, .int (nI 0), .int (nI 0), .int (nI 0), .int (nI 0)])), (m1, .inl (c1, 1024, .inr (.inl A1))), (m2, .inl (c2, 1024, .inr (.inl (fun _ => 0)))), (m3, .inl (c3, 1024, .inr (.inl (fun _ => 0)))), (m4, .inl (c4, 20, .inl (fun _ => 0))), (m5, .inl (c5, 40, .inl (fun _ => 0)))] _ := hP
        have hD9 : va_D A [(xm, .inr (4, [.int 0, .int (nI (ks_N x0)), .int (nI (ks_wd (ks_N x0))), .ref m1, .ref m2, .ref m3, .ref m4, .ref m5, .int (nI 0), .int (nI 0), .int (nI 0), .int (nI 0)])), (m1, .inl (c1, 1024, .inr (.inl A1))), (m2, .inl (c2, 1024, .inr (.inl (fun _ => 0)))), (m3, .inl (c3, 1024, .inr (.inl (fun _ => 0)))), (m4, .inl (c4, 20, .inl (fun _ => 0))), (m5, .inl (c5, 40, .inl (fun _ => 0)))] := hD
        have hK9 : va_K (dC, dI) ksCl [(c1, .long), (c2, .long), (c3, .long), (c4, .int), (c5, .int)] s := hK
        refine W.widen (k := 5) (n := 3132) (by omega) (by omega) ?_
        exact W.vret hx hb hr (fun t ht hW9 => ⟨⟨(m1, m2, m3, m4, m5, c1, c2, c3, c4, c5, A1), rfl, hw9, by rw [ht]; exact hP9, va_K.moved hW9.alike hK9, hD9⟩, hS.F ht⟩) hS.2.2 dX4_init_102
      · -- 79: goes on
        have h6 : ks_N x0 < 6 := by
          rcases Nat.lt_or_ge (ks_N x0) 6 with q | q
          · exact q
          · exact absurd (nI_le q (by have := ks_N_le x0; omega)) c79
        refine lv_iconst (v := 1) hx hb dX4_init_82 (by decide) ?_
        refine lv_goto (tgt := 95) hx hb dX4_init_83 (by decide) ?_
        refine ks_top (y := nI (ks_wd (ks_N x0))) ((by rw [ks_wd_sm h6]; rfl)) ?_
        refine va_putF (D := (dC, dI)) (ci := 4) (v := .int (nI (ks_wd (ks_N x0)))) (ty := .int) (C := RX4) (T := TM) (N := 12) hx hb hts hiX4 tyM tyM_ok nmM hown hK hP hD hS 0 rfl rfl 2 (by decide) f30 (fun _ h9 => h9) rfl hin rfl (by decide +kernel) rfl rfl (Nat.le_of_ble_eq_true rfl) dX4_init_95 (fun H locs hP hD hS => ?_)
        have hP : va_P (dC, dI) ksCl [(xm, .inr (4, [.int 0, .int (nI (ks_N x0)), .int (nI (ks_wd (ks_N x0))), .ref m1, .ref m2, .ref m3, .ref m4, .ref m5, .int 0, .int 0, .int 0, .int 0])), (m1, .inl (c1, 1024, .inr (.inl (fun _ => 0)))), (m2, .inl (c2, 1024, .inr (.inl (fun _ => 0)))), (m3, .inl (c3, 1024, .inr (.inl (fun _ => 0)))), (m4, .inl (c4, 20, .inl (fun _ => 0))), (m5, .inl (c5, 40, .inl (fun _ => 0)))] H := hP
        have hD : va_D A [(xm, .inr (4, [.int 0, .int (nI (ks_N x0)), .int (nI (ks_wd (ks_N x0))), .ref m1, .ref m2, .ref m3, .ref m4, .ref m5, .int 0, .int 0, .int 0, .int 0])), (m1, .inl (c1, 1024, .inr (.inl (fun _ => 0)))), (m2, .inl (c2, 1024, .inr (.inl (fun _ => 0)))), (m3, .inl (c3, 1024, .inr (.inl (fun _ => 0)))), (m4, .inl (c4, 20, .inl (fun _ => 0))), (m5, .inl (c5, 40, .inl (fun _ => 0)))] := hD
        refine lv_aload_n hx hb dX4_init_98 rfl (lv_at hl 0 rfl) ?_
        refine ks_callvV (As := []) (rest := []) (wr := [(m2, .inl (c2, 1024, .inr (.inl (fun _ => 0)))), (m3, .inl (c3, 1024, .inr (.inl (fun _ => 0)))), (m4, .inl (c4, 20, .inl (fun _ => 0))), (m5, .inl (c5, 40, .inl (fun _ => 0)))]) (wz := fun u => [(xm, .inr (4, [.int 0, .int (nI (ks_N x0)), .int (nI (ks_wd (ks_N x0))), .ref m1, .ref m2, .ref m3, .ref m4, .ref m5, .int (nI 0), .int (nI 0), .int (nI 0), .int (nI 0)])), (m1, .inl (c1, 1024, .inr (.inl u))), (m2, .inl (c2, 1024, .inr (.inl (fun _ => 0)))), (m3, .inl (c3, 1024, .inr (.inl (fun _ => 0)))), (m4, .inl (c4, 20, .inl (fun _ => 0))), (m5, .inl (c5, 40, .inl (fun _ => 0)))]) ⟨hx, hb, hml, hown, hts⟩ (km_clear l dC dI xm m1 m2 m3 m4 m5 (ks_wd (ks_N x0)) c1 (ks_N x0) 0 0 0 0 0 (fun _ => 0) (ks_N_le x0) rfl) (cwV 0 hts gX4_init_X4_clear rfl rfl rfl (by decide +kernel) ⟨Nat.le_of_ble_eq_true rfl, Nat.le_of_ble_eq_true rfl⟩) hK hP hD hS hA hNW [0, 1] [2, 3, 4, 5] [0] [4, 5, 0, 1, 2, 3] rfl rfl rfl rfl (by decide) (by decide) (by decide) (ci := 4) (q0 := 0) rfl rfl rfl (fun _ => rfl) (fun _ => rfl) (by decide) rfl hl.1 rfl (Nat.le_of_ble_eq_true rfl) dX4_init_99 ⟨Nat.le_of_ble_eq_true rfl, Nat.le_of_ble_eq_true rfl⟩ (fun A1 H locs hw9 hK9 hP hD hS => ?_)
        have hP : va_P (dC, dI) ksCl [(xm, .inr (4, [.int 0, .int (nI (ks_N x0)), .int (nI (ks_wd (ks_N x0))), .ref m1, .ref m2, .ref m3, .ref m4, .ref m5, .int (nI 0), .int (nI 0), .int (nI 0), .int (nI 0)])), (m1, .inl (c1, 1024, .inr (.inl A1))), (m2, .inl (c2, 1024, .inr (.inl (fun _ => 0)))), (m3, .inl (c3, 1024, .inr (.inl (fun _ => 0)))), (m4, .inl (c4, 20, .inl (fun _ => 0))), (m5, .inl (c5, 40, .inl (fun _ => 0)))] H := hP
        have hD : va_D A [(xm, .inr (4, [.int 0, .int (nI (ks_N x0)), .int (nI (ks_wd (ks_N x0))), .ref m1, .ref m2, .ref m3, .ref m4, .ref m5, .int (nI 0), .int (nI 0), .int (nI 0), .int (nI 0)])), (m1, .inl (c1, 1024, .inr (.inl A1))), (m2, .inl (c2, 1024, .inr (.inl (fun _ => 0)))), (m3, .inl (c3, 1024, .inr (.inl (fun _ => 0)))), (m4, .inl (c4, 20, .inl (fun _ => 0))), (m5, .inl (c5, 40, .inl (fun _ => 0)))] := hD
        have hP9 : va_P (dC, dI) ksCl [(xm, .inr (4, [.int 0, .int (nI (ks_N x0)), .int (nI (ks_wd (ks_N x0))), .ref m1, .ref m2, .ref m3, .ref m4, .ref m5, .int (nI 0), .int (nI 0), .int (nI 0), .int (nI 0)])), (m1, .inl (c1, 1024, .inr (.inl A1))), (m2, .inl (c2, 1024, .inr (.inl (fun _ => 0)))), (m3, .inl (c3, 1024, .inr (.inl (fun _ => 0)))), (m4, .inl (c4, 20, .inl (fun _ => 0))), (m5, .inl (c5, 40, .inl (fun _ => 0)))] _ := hP
        have hD9 : va_D A [(xm, .inr (4, [.int 0, .int (nI (ks_N x0)), .int (nI (ks_wd (ks_N x0))), .ref m1, .ref m2, .ref m3, .ref m4, .ref m5, .int (nI 0), .int (nI 0), .int (nI 0), .int (nI 0)])), (m1, .inl (c1, 1024, .inr (.inl A1))), (m2, .inl (c2, 1024, .inr (.inl (fun _ => 0)))), (m3, .inl (c3, 1024, .inr (.inl (fun _ => 0)))), (m4, .inl (c4, 20, .inl (fun _ => 0))), (m5, .inl (c5, 40, .inl (fun _ => 0)))] := hD
        have hK9 : va_K (dC, dI) ksCl [(c1, .long), (c2, .long), (c3, .long), (c4, .int), (c5, .int)] s := hK
        refine W.widen (k := 5) (n := 3132) (by omega) (by omega) ?_
        exact W.vret hx hb hr (fun t ht hW9 => ⟨⟨(m1, m2, m3, m4, m5, c1, c2, c3, c4, c5, A1), rfl, hw9, by rw [ht]; exact hP9, va_K.moved hW9.alike hK9, hD9⟩, hS.F ht⟩) hS.2.2 dX4_init_102
    · -- 60: goes on
      refine lv_bipush (v := nI 16) hx hb dX4_init_63 (by decide) ?_
      refine lv_goto (tgt := 69) hx hb dX4_init_65 (by decide) ?_
      refine ks_top (y := nI (ks_N x0)) (ks_N_hi c60) ?_
      refine va_putF (D := (dC, dI)) (ci := 4) (v := .int (nI (ks_N x0))) (ty := .int) (C := RX4) (T := TM) (N := 12) hx hb hts hiX4 tyM tyM_ok nmM hown hK hP hD hS 0 rfl rfl 1 (by decide) f26 (fun _ h9 => h9) rfl hin rfl (by decide +kernel) rfl rfl (Nat.le_of_ble_eq_true rfl) dX4_init_69 (fun H locs hP hD hS => ?_)
      have hP : va_P (dC, dI) ksCl [(xm, .inr (4, [.int 0, .int (nI (ks_N x0)), .int 0, .ref m1, .ref m2, .ref m3, .ref m4, .ref m5, .int 0, .int 0, .int 0, .int 0])), (m1, .inl (c1, 1024, .inr (.inl (fun _ => 0)))), (m2, .inl (c2, 1024, .inr (.inl (fun _ => 0)))), (m3, .inl (c3, 1024, .inr (.inl (fun _ => 0)))), (m4, .inl (c4, 20, .inl (fun _ => 0))), (m5, .inl (c5, 40, .inl (fun _ => 0)))] H := hP
      have hD : va_D A [(xm, .inr (4, [.int 0, .int (nI (ks_N x0)), .int 0, .ref m1, .ref m2, .ref m3, .ref m4, .ref m5, .int 0, .int 0, .int 0, .int 0])), (m1, .inl (c1, 1024, .inr (.inl (fun _ => 0)))), (m2, .inl (c2, 1024, .inr (.inl (fun _ => 0)))), (m3, .inl (c3, 1024, .inr (.inl (fun _ => 0)))), (m4, .inl (c4, 20, .inl (fun _ => 0))), (m5, .inl (c5, 40, .inl (fun _ => 0)))] := hD
      refine lv_aload_n hx hb dX4_init_72 rfl (lv_at hl 0 rfl) ?_
      refine lv_aload_n hx hb dX4_init_73 rfl (lv_at hl 0 rfl) ?_
      refine va_get (D := (dC, dI)) (ci := 4) (v := .int (nI (ks_N x0))) (C := RX4) (T := TM) (N := 12) hx hb hts hiX4 hown hK hP 0 rfl rfl 1 (by decide) f26 (fun _ h9 => h9) rfl dX4_init_74 ?_
      refine lv_bipush (v := nI 6) hx hb dX4_init_77 (by decide) ?_
      refine lv_icmp_ge (tgt := 86) hx hb dX4_init_79 (by decide) (fun c79 => ?_) (fun c79 => ?_)
      · -- 79: jumps
        have h6 : 6 ≤ ks_N x0 := by
          rcases Nat.lt_or_ge (ks_N x0) 6 with q | q
          · exact absurd c79 (nI_ge q (by decide))
          · exact q
        refine lv_iconst (v := 1) hx hb dX4_init_86 (by decide) ?_
        refine lv_aload_n hx hb dX4_init_87 rfl (lv_at hl 0 rfl) ?_
        refine va_get (D := (dC, dI)) (ci := 4) (v := .int (nI (ks_N x0))) (C := RX4) (T := TM) (N := 12) hx hb hts hiX4 hown hK hP 0 rfl rfl 1 (by decide) f26 (fun _ h9 => h9) rfl dX4_init_88 ?_
        refine lv_bipush (v := nI 6) hx hb dX4_init_91 (by decide) ?_
        refine lv_isub hx hb dX4_init_93 ?_
        refine ks_top (y := nI (ks_N x0 - 6)) (pk_sub h6) ?_
        refine lv_ishl hx hb dX4_init_94 ?_
        refine ks_top (y := nI (ks_wd (ks_N x0))) (ks_wd_sh (ks_N x0) (ks_N_le x0) h6) ?_
        refine va_putF (D := (dC, dI)) (ci := 4) (v := .int (nI (ks_wd (ks_N x0)))) (ty := .int) (C := RX4) (T := TM) (N := 12) hx hb hts hiX4 tyM tyM_ok nmM hown hK hP hD hS 0 rfl rfl 2 (by decide) f30 (fun _ h9 => h9) rfl hin rfl (by decide +kernel) rfl rfl (Nat.le_of_ble_eq_true rfl) dX4_init_95 (fun H locs hP hD hS => ?_)
        have hP : va_P (dC, dI) ksCl [(xm, .inr (4, [.int 0, .int (nI (ks_N x0)), .int (nI (ks_wd (ks_N x0))), .ref m1, .ref m2, .ref m3, .ref m4, .ref m5, .int 0, .int 0, .int 0, .int 0])), (m1, .inl (c1, 1024, .inr (.inl (fun _ => 0)))), (m2, .inl (c2, 1024, .inr (.inl (fun _ => 0)))), (m3, .inl (c3, 1024, .inr (.inl (fun _ => 0)))), (m4, .inl (c4, 20, .inl (fun _ => 0))), (m5, .inl (c5, 40, .inl (fun _ => 0)))] H := hP
        have hD : va_D A [(xm, .inr (4, [.int 0, .int (nI (ks_N x0)), .int (nI (ks_wd (ks_N x0))), .ref m1, .ref m2, .ref m3, .ref m4, .ref m5, .int 0, .int 0, .int 0, .int 0])), (m1, .inl (c1, 1024, .inr (.inl (fun _ => 0)))), (m2, .inl (c2, 1024, .inr (.inl (fun _ => 0)))), (m3, .inl (c3, 1024, .inr (.inl (fun _ => 0)))), (m4, .inl (c4, 20, .inl (fun _ => 0))), (m5, .inl (c5, 40, .inl (fun _ => 0)))] := hD
        refine lv_aload_n hx hb dX4_init_98 rfl (lv_at hl 0 rfl) ?_
        refine ks_callvV (As := []) (rest := []) (wr := [(m2, .inl (c2, 1024, .inr (.inl (fun _ => 0)))), (m3, .inl (c3, 1024, .inr (.inl (fun _ => 0)))), (m4, .inl (c4, 20, .inl (fun _ => 0))), (m5, .inl (c5, 40, .inl (fun _ => 0)))]) (wz := fun u => [(xm, .inr (4, [.int 0, .int (nI (ks_N x0)), .int (nI (ks_wd (ks_N x0))), .ref m1, .ref m2, .ref m3, .ref m4, .ref m5, .int (nI 0), .int (nI 0), .int (nI 0), .int (nI 0)])), (m1, .inl (c1, 1024, .inr (.inl u))), (m2, .inl (c2, 1024, .inr (.inl (fun _ => 0)))), (m3, .inl (c3, 1024, .inr (.inl (fun _ => 0)))), (m4, .inl (c4, 20, .inl (fun _ => 0))), (m5, .inl (c5, 40, .inl (fun _ => 0)))]) ⟨hx, hb, hml, hown, hts⟩ (km_clear l dC dI xm m1 m2 m3 m4 m5 (ks_wd (ks_N x0)) c1 (ks_N x0) 0 0 0 0 0 (fun _ => 0) (ks_N_le x0) rfl) (cwV 0 hts gX4_init_X4_clear rfl rfl rfl (by decide +kernel) ⟨Nat.le_of_ble_eq_true rfl, Nat.le_of_ble_eq_true rfl⟩) hK hP hD hS hA hNW [0, 1] [2, 3, 4, 5] [0] [4, 5, 0, 1, 2, 3] rfl rfl rfl rfl (by decide) (by decide) (by decide) (ci := 4) (q0 := 0) rfl rfl rfl (fun _ => rfl) (fun _ => rfl) (by decide) rfl hl.1 rfl (Nat.le_of_ble_eq_true rfl) dX4_init_99 ⟨Nat.le_of_ble_eq_true rfl, Nat.le_of_ble_eq_true rfl⟩ (fun A1 H locs hw9 hK9 hP hD hS => ?_)
        have hP : va_P (dC, dI) ksCl [(xm, .inr (4, [.int 0, .int (nI (ks_N x0)), .int (nI (ks_wd (ks_N x0))), .ref m1, .ref m2, .ref m3, .ref m4, .ref m5, .int (nI 0), .int (nI 0), .int (nI 0), .int (nI 0)])), (m1, .inl (c1, 1024, .inr (.inl A1))), (m2, .inl (c2, 1024, .inr (.inl (fun _ => 0)))), (m3, .inl (c3, 1024, .inr (.inl (fun _ => 0)))), (m4, .inl (c4, 20, .inl (fun _ => 0))), (m5, .inl (c5, 40, .inl (fun _ => 0)))] H := hP
        have hD : va_D A [(xm, .inr (4, [.int 0, .int (nI (ks_N x0)), .int (nI (ks_wd (ks_N x0))), .ref m1, .ref m2, .ref m3, .ref m4, .ref m5, .int (nI 0), .int (nI 0), .int (nI 0), .int (nI 0)])), (m1, .inl (c1, 1024, .inr (.inl A1))), (m2, .inl (c2, 1024, .inr (.inl (fun _ => 0)))), (m3, .inl (c3, 1024, .inr (.inl (fun _ => 0)))), (m4, .inl (c4, 20, .inl (fun _ => 0))), (m5, .inl (c5, 40, .inl (fun _ => 0)))] := hD
        have hP9 : va_P (dC, dI) ksCl [(xm, .inr (4, [.int 0, .int (nI (ks_N x0)), .int (nI (ks_wd (ks_N x0))), .ref m1, .ref m2, .ref m3, .ref m4, .ref m5, .int (nI 0), .int (nI 0), .int (nI 0), .int (nI 0)])), (m1, .inl (c1, 1024, .inr (.inl A1))), (m2, .inl (c2, 1024, .inr (.inl (fun _ => 0)))), (m3, .inl (c3, 1024, .inr (.inl (fun _ => 0)))), (m4, .inl (c4, 20, .inl (fun _ => 0))), (m5, .inl (c5, 40, .inl (fun _ => 0)))] _ := hP
        have hD9 : va_D A [(xm, .inr (4, [.int 0, .int (nI (ks_N x0)), .int (nI (ks_wd (ks_N x0))), .ref m1, .ref m2, .ref m3, .ref m4, .ref m5, .int (nI 0), .int (nI 0), .int (nI 0), .int (nI 0)])), (m1, .inl (c1, 1024, .inr (.inl A1))), (m2, .inl (c2, 1024, .inr (.inl (fun _ => 0)))), (m3, .inl (c3, 1024, .inr (.inl (fun _ => 0)))), (m4, .inl (c4, 20, .inl (fun _ => 0))), (m5, .inl (c5, 40, .inl (fun _ => 0)))] := hD
        have hK9 : va_K (dC, dI) ksCl [(c1, .long), (c2, .long), (c3, .long), (c4, .int), (c5, .int)] s := hK
        refine W.widen (k := 5) (n := 3132) (by omega) (by omega) ?_
        exact W.vret hx hb hr (fun t ht hW9 => ⟨⟨(m1, m2, m3, m4, m5, c1, c2, c3, c4, c5, A1), rfl, hw9, by rw [ht]; exact hP9, va_K.moved hW9.alike hK9, hD9⟩, hS.F ht⟩) hS.2.2 dX4_init_102
      · -- 79: goes on
        have h6 : ks_N x0 < 6 := by
          rcases Nat.lt_or_ge (ks_N x0) 6 with q | q
          · exact q
          · exact absurd (nI_le q (by have := ks_N_le x0; omega)) c79
        refine lv_iconst (v := 1) hx hb dX4_init_82 (by decide) ?_
        refine lv_goto (tgt := 95) hx hb dX4_init_83 (by decide) ?_
        refine ks_top (y := nI (ks_wd (ks_N x0))) ((by rw [ks_wd_sm h6]; rfl)) ?_
        refine va_putF (D := (dC, dI)) (ci := 4) (v := .int (nI (ks_wd (ks_N x0)))) (ty := .int) (C := RX4) (T := TM) (N := 12) hx hb hts hiX4 tyM tyM_ok nmM hown hK hP hD hS 0 rfl rfl 2 (by decide) f30 (fun _ h9 => h9) rfl hin rfl (by decide +kernel) rfl rfl (Nat.le_of_ble_eq_true rfl) dX4_init_95 (fun H locs hP hD hS => ?_)
        have hP : va_P (dC, dI) ksCl [(xm, .inr (4, [.int 0, .int (nI (ks_N x0)), .int (nI (ks_wd (ks_N x0))), .ref m1, .ref m2, .ref m3, .ref m4, .ref m5, .int 0, .int 0, .int 0, .int 0])), (m1, .inl (c1, 1024, .inr (.inl (fun _ => 0)))), (m2, .inl (c2, 1024, .inr (.inl (fun _ => 0)))), (m3, .inl (c3, 1024, .inr (.inl (fun _ => 0)))), (m4, .inl (c4, 20, .inl (fun _ => 0))), (m5, .inl (c5, 40, .inl (fun _ => 0)))] H := hP
        have hD : va_D A [(xm, .inr (4, [.int 0, .int (nI (ks_N x0)), .int (nI (ks_wd (ks_N x0))), .ref m1, .ref m2, .ref m3, .ref m4, .ref m5, .int 0, .int 0, .int 0, .int 0])), (m1, .inl (c1, 1024, .inr (.inl (fun _ => 0)))), (m2, .inl (c2, 1024, .inr (.inl (fun _ => 0)))), (m3, .inl (c3, 1024, .inr (.inl (fun _ => 0)))), (m4, .inl (c4, 20, .inl (fun _ => 0))), (m5, .inl (c5, 40, .inl (fun _ => 0)))] := hD
        refine lv_aload_n hx hb dX4_init_98 rfl (lv_at hl 0 rfl) ?_
        refine ks_callvV (As := []) (rest := []) (wr := [(m2, .inl (c2, 1024, .inr (.inl (fun _ => 0)))), (m3, .inl (c3, 1024, .inr (.inl (fun _ => 0)))), (m4, .inl (c4, 20, .inl (fun _ => 0))), (m5, .inl (c5, 40, .inl (fun _ => 0)))]) (wz := fun u => [(xm, .inr (4, [.int 0, .int (nI (ks_N x0)), .int (nI (ks_wd (ks_N x0))), .ref m1, .ref m2, .ref m3, .ref m4, .ref m5, .int (nI 0), .int (nI 0), .int (nI 0), .int (nI 0)])), (m1, .inl (c1, 1024, .inr (.inl u))), (m2, .inl (c2, 1024, .inr (.inl (fun _ => 0)))), (m3, .inl (c3, 1024, .inr (.inl (fun _ => 0)))), (m4, .inl (c4, 20, .inl (fun _ => 0))), (m5, .inl (c5, 40, .inl (fun _ => 0)))]) ⟨hx, hb, hml, hown, hts⟩ (km_clear l dC dI xm m1 m2 m3 m4 m5 (ks_wd (ks_N x0)) c1 (ks_N x0) 0 0 0 0 0 (fun _ => 0) (ks_N_le x0) rfl) (cwV 0 hts gX4_init_X4_clear rfl rfl rfl (by decide +kernel) ⟨Nat.le_of_ble_eq_true rfl, Nat.le_of_ble_eq_true rfl⟩) hK hP hD hS hA hNW [0, 1] [2, 3, 4, 5] [0] [4, 5, 0, 1, 2, 3] rfl rfl rfl rfl (by decide) (by decide) (by decide) (ci := 4) (q0 := 0) rfl rfl rfl (fun _ => rfl) (fun _ => rfl) (by decide) rfl hl.1 rfl (Nat.le_of_ble_eq_true rfl) dX4_init_99 ⟨Nat.le_of_ble_eq_true rfl, Nat.le_of_ble_eq_true rfl⟩ (fun A1 H locs hw9 hK9 hP hD hS => ?_)
        have hP : va_P (dC, dI) ksCl [(xm, .inr (4, [.int 0, .int (nI (ks_N x0)), .int (nI (ks_wd (ks_N x0))), .ref m1, .ref m2, .ref m3, .ref m4, .ref m5, .int (nI 0), .int (nI 0), .int (nI 0), .int (nI 0)])), (m1, .inl (c1, 1024, .inr (.inl A1))), (m2, .inl (c2, 1024, .inr (.inl (fun _ => 0)))), (m3, .inl (c3, 1024, .inr (.inl (fun _ => 0)))), (m4, .inl (c4, 20, .inl (fun _ => 0))), (m5, .inl (c5, 40, .inl (fun _ => 0)))] H := hP
        have hD : va_D A [(xm, .inr (4, [.int 0, .int (nI (ks_N x0)), .int (nI (ks_wd (ks_N x0))), .ref m1, .ref m2, .ref m3, .ref m4, .ref m5, .int (nI 0), .int (nI 0), .int (nI 0), .int (nI 0)])), (m1, .inl (c1, 1024, .inr (.inl A1))), (m2, .inl (c2, 1024, .inr (.inl (fun _ => 0)))), (m3, .inl (c3, 1024, .inr (.inl (fun _ => 0)))), (m4, .inl (c4, 20, .inl (fun _ => 0))), (m5, .inl (c5, 40, .inl (fun _ => 0)))] := hD
        have hP9 : va_P (dC, dI) ksCl [(xm, .inr (4, [.int 0, .int (nI (ks_N x0)), .int (nI (ks_wd (ks_N x0))), .ref m1, .ref m2, .ref m3, .ref m4, .ref m5, .int (nI 0), .int (nI 0), .int (nI 0), .int (nI 0)])), (m1, .inl (c1, 1024, .inr (.inl A1))), (m2, .inl (c2, 1024, .inr (.inl (fun _ => 0)))), (m3, .inl (c3, 1024, .inr (.inl (fun _ => 0)))), (m4, .inl (c4, 20, .inl (fun _ => 0))), (m5, .inl (c5, 40, .inl (fun _ => 0)))] _ := hP
        have hD9 : va_D A [(xm, .inr (4, [.int 0, .int (nI (ks_N x0)), .int (nI (ks_wd (ks_N x0))), .ref m1, .ref m2, .ref m3, .ref m4, .ref m5, .int (nI 0), .int (nI 0), .int (nI 0), .int (nI 0)])), (m1, .inl (c1, 1024, .inr (.inl A1))), (m2, .inl (c2, 1024, .inr (.inl (fun _ => 0)))), (m3, .inl (c3, 1024, .inr (.inl (fun _ => 0)))), (m4, .inl (c4, 20, .inl (fun _ => 0))), (m5, .inl (c5, 40, .inl (fun _ => 0)))] := hD
        have hK9 : va_K (dC, dI) ksCl [(c1, .long), (c2, .long), (c3, .long), (c4, .int), (c5, .int)] s := hK
        refine W.widen (k := 5) (n := 3132) (by omega) (by omega) ?_
        exact W.vret hx hb hr (fun t ht hW9 => ⟨⟨(m1, m2, m3, m4, m5, c1, c2, c3, c4, c5, A1), rfl, hw9, by rw [ht]; exact hP9, va_K.moved hW9.alike hK9, hD9⟩, hS.F ht⟩) hS.2.2 dX4_init_102
  · -- 50: goes on
    refine lv_iconst (v := 1) hx hb dX4_init_53 (by decide) ?_
    refine lv_goto (tgt := 69) hx hb dX4_init_54 (by decide) ?_
    refine ks_top (y := nI (ks_N x0)) (ks_N_lo c50) ?_
    refine va_putF (D := (dC, dI)) (ci := 4) (v := .int (nI (ks_N x0))) (ty := .int) (C := RX4) (T := TM) (N := 12) hx hb hts hiX4 tyM tyM_ok nmM hown hK hP hD hS 0 rfl rfl 1 (by decide) f26 (fun _ h9 => h9) rfl hin rfl (by decide +kernel) rfl rfl (Nat.le_of_ble_eq_true rfl) dX4_init_69 (fun H locs hP hD hS => ?_)
    have hP : va_P (dC, dI) ksCl [(xm, .inr (4, [.int 0, .int (nI (ks_N x0)), .int 0, .ref m1, .ref m2, .ref m3, .ref m4, .ref m5, .int 0, .int 0, .int 0, .int 0])), (m1, .inl (c1, 1024, .inr (.inl (fun _ => 0)))), (m2, .inl (c2, 1024, .inr (.inl (fun _ => 0)))), (m3, .inl (c3, 1024, .inr (.inl (fun _ => 0)))), (m4, .inl (c4, 20, .inl (fun _ => 0))), (m5, .inl (c5, 40, .inl (fun _ => 0)))] H := hP
    have hD : va_D A [(xm, .inr (4, [.int 0, .int (nI (ks_N x0)), .int 0, .ref m1, .ref m2, .ref m3, .ref m4, .ref m5, .int 0, .int 0, .int 0, .int 0])), (m1, .inl (c1, 1024, .inr (.inl (fun _ => 0)))), (m2, .inl (c2, 1024, .inr (.inl (fun _ => 0)))), (m3, .inl (c3, 1024, .inr (.inl (fun _ => 0)))), (m4, .inl (c4, 20, .inl (fun _ => 0))), (m5, .inl (c5, 40, .inl (fun _ => 0)))] := hD
    refine lv_aload_n hx hb dX4_init_72 rfl (lv_at hl 0 rfl) ?_
    refine lv_aload_n hx hb dX4_init_73 rfl (lv_at hl 0 rfl) ?_
    refine va_get (D := (dC, dI)) (ci := 4) (v := .int (nI (ks_N x0))) (C := RX4) (T := TM) (N := 12) hx hb hts hiX4 hown hK hP 0 rfl rfl 1 (by decide) f26 (fun _ h9 => h9) rfl dX4_init_74 ?_
    refine lv_bipush (v := nI 6) hx hb dX4_init_77 (by decide) ?_
    refine lv_icmp_ge (tgt := 86) hx hb dX4_init_79 (by decide) (fun c79 => ?_) (fun c79 => ?_)
    · -- 79: jumps
      have h6 : 6 ≤ ks_N x0 := by
        rcases Nat.lt_or_ge (ks_N x0) 6 with q | q
        · exact absurd c79 (nI_ge q (by decide))
        · exact q
      refine lv_iconst (v := 1) hx hb dX4_init_86 (by decide) ?_
      refine lv_aload_n hx hb dX4_init_87 rfl (lv_at hl 0 rfl) ?_
      refine va_get (D := (dC, dI)) (ci := 4) (v := .int (nI (ks_N x0))) (C := RX4) (T := TM) (N := 12) hx hb hts hiX4 hown hK hP 0 rfl rfl 1 (by decide) f26 (fun _ h9 => h9) rfl dX4_init_88 ?_
      refine lv_bipush (v := nI 6) hx hb dX4_init_91 (by decide) ?_
      refine lv_isub hx hb dX4_init_93 ?_
      refine ks_top (y := nI (ks_N x0 - 6)) (pk_sub h6) ?_
      refine lv_ishl hx hb dX4_init_94 ?_
      refine ks_top (y := nI (ks_wd (ks_N x0))) (ks_wd_sh (ks_N x0) (ks_N_le x0) h6) ?_
      refine va_putF (D := (dC, dI)) (ci := 4) (v := .int (nI (ks_wd (ks_N x0)))) (ty := .int) (C := RX4) (T := TM) (N := 12) hx hb hts hiX4 tyM tyM_ok nmM hown hK hP hD hS 0 rfl rfl 2 (by decide) f30 (fun _ h9 => h9) rfl hin rfl (by decide +kernel) rfl rfl (Nat.le_of_ble_eq_true rfl) dX4_init_95 (fun H locs hP hD hS => ?_)
      have hP : va_P (dC, dI) ksCl [(xm, .inr (4, [.int 0, .int (nI (ks_N x0)), .int (nI (ks_wd (ks_N x0))), .ref m1, .ref m2, .ref m3, .ref m4, .ref m5, .int 0, .int 0, .int 0, .int 0])), (m1, .inl (c1, 1024, .inr (.inl (fun _ => 0)))), (m2, .inl (c2, 1024, .inr (.inl (fun _ => 0)))), (m3, .inl (c3, 1024, .inr (.inl (fun _ => 0)))), (m4, .inl (c4, 20, .inl (fun _ => 0))), (m5, .inl (c5, 40, .inl (fun _ => 0)))] H := hP
      have hD : va_D A [(xm, .inr (4, [.int 0, .int (nI (ks_N x0)), .int (nI (ks_wd (ks_N x0))), .ref m1, .ref m2, .ref m3, .ref m4, .ref m5, .int 0, .int 0, .int 0, .int 0])), (m1, .inl (c1, 1024, .inr (.inl (fun _ => 0)))), (m2, .inl (c2, 1024, .inr (.inl (fun _ => 0)))), (m3, .inl (c3, 1024, .inr (.inl (fun _ => 0)))), (m4, .inl (c4, 20, .inl (fun _ => 0))), (m5, .inl (c5, 40, .inl (fun _ => 0)))] := hD
      refine lv_aload_n hx hb dX4_init_98 rfl (lv_at hl 0 rfl) ?_
      refine ks_callvV (As := []) (rest := []) (wr := [(m2, .inl (c2, 1024, .inr (.inl (fun _ => 0)))), (m3, .inl (c3, 1024, .inr (.inl (fun _ => 0)))), (m4, .inl (c4, 20, .inl (fun _ => 0))), (m5, .inl (c5, 40, .inl (fun _ => 0)))]) (wz := fun u => [(xm, .inr (4, [.int 0, .int (nI (ks_N x0)), .int (nI (ks_wd (ks_N x0))), .ref m1, .ref m2, .ref m3, .ref m4, .ref m5, .int (nI 0), .int (nI 0), .int (nI 0), .int (nI 0)])), (m1, .inl (c1, 1024, .inr (.inl u))), (m2, .inl (c2, 1024, .inr (.inl (fun _ => 0)))), (m3, .inl (c3, 1024, .inr (.inl (fun _ => 0)))), (m4, .inl (c4, 20, .inl (fun _ => 0))), (m5, .inl (c5, 40, .inl (fun _ => 0)))]) ⟨hx, hb, hml, hown, hts⟩ (km_clear l dC dI xm m1 m2 m3 m4 m5 (ks_wd (ks_N x0)) c1 (ks_N x0) 0 0 0 0 0 (fun _ => 0) (ks_N_le x0) rfl) (cwV 0 hts gX4_init_X4_clear rfl rfl rfl (by decide +kernel) ⟨Nat.le_of_ble_eq_true rfl, Nat.le_of_ble_eq_true rfl⟩) hK hP hD hS hA hNW [0, 1] [2, 3, 4, 5] [0] [4, 5, 0, 1, 2, 3] rfl rfl rfl rfl (by decide) (by decide) (by decide) (ci := 4) (q0 := 0) rfl rfl rfl (fun _ => rfl) (fun _ => rfl) (by decide) rfl hl.1 rfl (Nat.le_of_ble_eq_true rfl) dX4_init_99 ⟨Nat.le_of_ble_eq_true rfl, Nat.le_of_ble_eq_true rfl⟩ (fun A1 H locs hw9 hK9 hP hD hS => ?_)
      have hP : va_P (dC, dI) ksCl [(xm, .inr (4, [.int 0, .int (nI (ks_N x0)), .int (nI (ks_wd (ks_N x0))), .ref m1, .ref m2, .ref m3, .ref m4, .ref m5, .int (nI 0), .int (nI 0), .int (nI 0), .int (nI 0)])), (m1, .inl (c1, 1024, .inr (.inl A1))), (m2, .inl (c2, 1024, .inr (.inl (fun _ => 0)))), (m3, .inl (c3, 1024, .inr (.inl (fun _ => 0)))), (m4, .inl (c4, 20, .inl (fun _ => 0))), (m5, .inl (c5, 40, .inl (fun _ => 0)))] H := hP
      have hD : va_D A [(xm, .inr (4, [.int 0, .int (nI (ks_N x0)), .int (nI (ks_wd (ks_N x0))), .ref m1, .ref m2, .ref m3, .ref m4, .ref m5, .int (nI 0), .int (nI 0), .int (nI 0), .int (nI 0)])), (m1, .inl (c1, 1024, .inr (.inl A1))), (m2, .inl (c2, 1024, .inr (.inl (fun _ => 0)))), (m3, .inl (c3, 1024, .inr (.inl (fun _ => 0)))), (m4, .inl (c4, 20, .inl (fun _ => 0))), (m5, .inl (c5, 40, .inl (fun _ => 0)))] := hD
      have hP9 : va_P (dC, dI) ksCl [(xm, .inr (4, [.int 0, .int (nI (ks_N x0)), .int (nI (ks_wd (ks_N x0))), .ref m1, .ref m2, .ref m3, .ref m4, .ref m5, .int (nI 0), .int (nI 0), .int (nI 0), .int (nI 0)])), (m1, .inl (c1, 1024, .inr (.inl A1))), (m2, .inl (c2, 1024, .inr (.inl (fun _ => 0)))), (m3, .inl (c3, 1024, .inr (.inl (fun _ => 0)))), (m4, .inl (c4, 20, .inl (fun _ => 0))), (m5, .inl (c5, 40, .inl (fun _ => 0)))] _ := hP
      have hD9 : va_D A [(xm, .inr (4, [.int 0, .int (nI (ks_N x0)), .int (nI (ks_wd (ks_N x0))), .ref m1, .ref m2, .ref m3, .ref m4, .ref m5, .int (nI 0), .int (nI 0), .int (nI 0), .int (nI 0)])), (m1, .inl (c1, 1024, .inr (.inl A1))), (m2, .inl (c2, 1024, .inr (.inl (fun _ => 0)))), (m3, .inl (c3, 1024, .inr (.inl (fun _ => 0)))), (m4, .inl (c4, 20, .inl (fun _ => 0))), (m5, .inl (c5, 40, .inl (fun _ => 0)))] := hD
      have hK9 : va_K (dC, dI) ksCl [(c1, .long), (c2, .long), (c3, .long), (c4, .int), (c5, .int)] s := hK
      refine W.widen (k := 5) (n := 3132) (by omega) (by omega) ?_
      exact W.vret hx hb hr (fun t ht hW9 => ⟨⟨(m1, m2, m3, m4, m5, c1, c2, c3, c4, c5, A1), rfl, hw9, by rw [ht]; exact hP9, va_K.moved hW9.alike hK9, hD9⟩, hS.F ht⟩) hS.2.2 dX4_init_102
    · -- 79: goes on
      have h6 : ks_N x0 < 6 := by
        rcases Nat.lt_or_ge (ks_N x0) 6 with q | q
        · exact q
        · exact absurd (nI_le q (by have := ks_N_le x0; omega)) c79
      refine lv_iconst (v := 1) hx hb dX4_init_82 (by decide) ?_
      refine lv_goto (tgt := 95) hx hb dX4_init_83 (by decide) ?_
      refine ks_top (y := nI (ks_wd (ks_N x0))) ((by rw [ks_wd_sm h6]; rfl)) ?_
      refine va_putF (D := (dC, dI)) (ci := 4) (v := .int (nI (ks_wd (ks_N x0)))) (ty := .int) (C := RX4) (T := TM) (N := 12) hx hb hts hiX4 tyM tyM_ok nmM hown hK hP hD hS 0 rfl rfl 2 (by decide) f30 (fun _ h9 => h9) rfl hin rfl (by decide +kernel) rfl rfl (Nat.le_of_ble_eq_true rfl) dX4_init_95 (fun H locs hP hD hS => ?_)
      have hP : va_P (dC, dI) ksCl [(xm, .inr (4, [.int 0, .int (nI (ks_N x0)), .int (nI (ks_wd (ks_N x0))), .ref m1, .ref m2, .ref m3, .ref m4, .ref m5, .int 0, .int 0, .int 0, .int 0])), (m1, .inl (c1, 1024, .inr (.inl (fun _ => 0)))), (m2, .inl (c2, 1024, .inr (.inl (fun _ => 0)))), (m3, .inl (c3, 1024, .inr (.inl (fun _ => 0)))), (m4, .inl (c4, 20, .inl (fun _ => 0))), (m5, .inl (c5, 40, .inl (fun _ => 0)))] H := hP
      have hD : va_D A [(xm, .inr (4, [.int 0, .int (nI (ks_N x0)), .int (nI (ks_wd (ks_N x0))), .ref m1, .ref m2, .ref m3, .ref m4, .ref m5, .int 0, .int 0, .int 0, .int 0])), (m1, .inl (c1, 1024, .inr (.inl (fun _ => 0)))), (m2, .inl (c2, 1024, .inr (.inl (fun _ => 0)))), (m3, .inl (c3, 1024, .inr (.inl (fun _ => 0)))), (m4, .inl (c4, 20, .inl (fun _ => 0))), (m5, .inl (c5, 40, .inl (fun _ => 0)))] := hD
      refine lv_aload_n hx hb dX4_init_98 rfl (lv_at hl 0 rfl) ?_
      refine ks_callvV (As := []) (rest := []) (wr := [(m2, .inl (c2, 1024, .inr (.inl (fun _ => 0)))), (m3, .inl (c3, 1024, .inr (.inl (fun _ => 0)))), (m4, .inl (c4, 20, .inl (fun _ => 0))), (m5, .inl (c5, 40, .inl (fun _ => 0)))]) (wz := fun u => [(xm, .inr (4, [.int 0, .int (nI (ks_N x0)), .int (nI (ks_wd (ks_N x0))), .ref m1, .ref m2, .ref m3, .ref m4, .ref m5, .int (nI 0), .int (nI 0), .int (nI 0), .int (nI 0)])), (m1, .inl (c1, 1024, .inr (.inl u))), (m2, .inl (c2, 1024, .inr (.inl (fun _ => 0)))), (m3, .inl (c3, 1024, .inr (.inl (fun _ => 0)))), (m4, .inl (c4, 20, .inl (fun _ => 0))), (m5, .inl (c5, 40, .inl (fun _ => 0)))]) ⟨hx, hb, hml, hown, hts⟩ (km_clear l dC dI xm m1 m2 m3 m4 m5 (ks_wd (ks_N x0)) c1 (ks_N x0) 0 0 0 0 0 (fun _ => 0) (ks_N_le x0) rfl) (cwV 0 hts gX4_init_X4_clear rfl rfl rfl (by decide +kernel) ⟨Nat.le_of_ble_eq_true rfl, Nat.le_of_ble_eq_true rfl⟩) hK hP hD hS hA hNW [0, 1] [2, 3, 4, 5] [0] [4, 5, 0, 1, 2, 3] rfl rfl rfl rfl (by decide) (by decide) (by decide) (ci := 4) (q0 := 0) rfl rfl rfl (fun _ => rfl) (fun _ => rfl) (by decide) rfl hl.1 rfl (Nat.le_of_ble_eq_true rfl) dX4_init_99 ⟨Nat.le_of_ble_eq_true rfl, Nat.le_of_ble_eq_true rfl⟩ (fun A1 H locs hw9 hK9 hP hD hS => ?_)
      have hP : va_P (dC, dI) ksCl [(xm, .inr (4, [.int 0, .int (nI (ks_N x0)), .int (nI (ks_wd (ks_N x0))), .ref m1, .ref m2, .ref m3, .ref m4, .ref m5, .int (nI 0), .int (nI 0), .int (nI 0), .int (nI 0)])), (m1, .inl (c1, 1024, .inr (.inl A1))), (m2, .inl (c2, 1024, .inr (.inl (fun _ => 0)))), (m3, .inl (c3, 1024, .inr (.inl (fun _ => 0)))), (m4, .inl (c4, 20, .inl (fun _ => 0))), (m5, .inl (c5, 40, .inl (fun _ => 0)))] H := hP
      have hD : va_D A [(xm, .inr (4, [.int 0, .int (nI (ks_N x0)), .int (nI (ks_wd (ks_N x0))), .ref m1, .ref m2, .ref m3, .ref m4, .ref m5, .int (nI 0), .int (nI 0), .int (nI 0), .int (nI 0)])), (m1, .inl (c1, 1024, .inr (.inl A1))), (m2, .inl (c2, 1024, .inr (.inl (fun _ => 0)))), (m3, .inl (c3, 1024, .inr (.inl (fun _ => 0)))), (m4, .inl (c4, 20, .inl (fun _ => 0))), (m5, .inl (c5, 40, .inl (fun _ => 0)))] := hD
      have hP9 : va_P (dC, dI) ksCl [(xm, .inr (4, [.int 0, .int (nI (ks_N x0)), .int (nI (ks_wd (ks_N x0))), .ref m1, .ref m2, .ref m3, .ref m4, .ref m5, .int (nI 0), .int (nI 0), .int (nI 0), .int (nI 0)])), (m1, .inl (c1, 1024, .inr (.inl A1))), (m2, .inl (c2, 1024, .inr (.inl (fun _ => 0)))), (m3, .inl (c3, 1024, .inr (.inl (fun _ => 0)))), (m4, .inl (c4, 20, .inl (fun _ => 0))), (m5, .inl (c5, 40, .inl (fun _ => 0)))] _ := hP
      have hD9 : va_D A [(xm, .inr (4, [.int 0, .int (nI (ks_N x0)), .int (nI (ks_wd (ks_N x0))), .ref m1, .ref m2, .ref m3, .ref m4, .ref m5, .int (nI 0), .int (nI 0), .int (nI 0), .int (nI 0)])), (m1, .inl (c1, 1024, .inr (.inl A1))), (m2, .inl (c2, 1024, .inr (.inl (fun _ => 0)))), (m3, .inl (c3, 1024, .inr (.inl (fun _ => 0)))), (m4, .inl (c4, 20, .inl (fun _ => 0))), (m5, .inl (c5, 40, .inl (fun _ => 0)))] := hD
      have hK9 : va_K (dC, dI) ksCl [(c1, .long), (c2, .long), (c3, .long), (c4, .int), (c5, .int)] s := hK
      refine W.widen (k := 5) (n := 3132) (by omega) (by omega) ?_
      exact W.vret hx hb hr (fun t ht hW9 => ⟨⟨(m1, m2, m3, m4, m5, c1, c2, c3, c4, c5, A1), rfl, hw9, by rw [ht]; exact hP9, va_K.moved hW9.alike hK9, hD9⟩, hS.F ht⟩) hS.2.2 dX4_init_102
