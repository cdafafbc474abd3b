set_option maxHeartbeats 4000000 in
set_option maxRecDepth 100000 in
/-- goBackTo -/
theorem ks_goBack (l : Launch) (dC : Nat → ClassId) (dI : Nat → Nat → Nat) (ta tb tr : Nat) (cB cR : ClassId) (B Rs : Nat → Int32) (k mk : Nat) (o z : Int32) (hk : k ≤ 16) (hm : mk ≤ k) : ks_Mv l yX2_goBackTo wsX2_goBackTo ({ frames := 1, cells := 0, slots := 0, locals := 15 }) (dC, dI) [.ref ta, .int (nI mk)] [(ta, .inr (2, [.ref tb, .ref tr, .int (nI k), .int o, .int z])), (tb, .inl (cB, 16, .inl B)), (tr, .inl (cR, 16, .inl Rs))] [(cB, .int), (cR, .int)] 0 0 (S := Int32 × Int32) (fun u => ks_cut B mk k o u.1 ∧ ks_cut B mk k z u.2) (fun u => [(ta, .inr (2, [.ref tb, .ref tr, .int (nI mk), .int u.1, .int u.2])), (tb, .inl (cB, 16, .inl B)), (tr, .inl (cR, 16, .inl Rs))]) (fun u => [(cB, .int), (cR, .int)]) := by
  intro sz
  refine Met.ofW (cc := cX2_goBackTo) (maxL := 3) (ret := none) (by decide) rfl ?_
  intro p e s m args below meth c s₁ B9 hml hv
  obtain ⟨rfl, hsz, hP, hK, hD0, hNW⟩ := hv
  have hx := B9.exec
  have hb := B9.bytes
  have hr := B9.returns
  have hts := atoms_spec (ws := wsX2_goBackTo) B9.pre
  have hown : s.vm.findClass RX2 = some m.cls := findClass_of_methodNamed B9.named
  have hlocks := B9.notSynchronized
  subst hsz
  have hD := hD0.self (sz := s.heap.size)
  generalize hAe : va_A [(ta, .inr (2, [.ref tb, .ref tr, .int (nI k), .int o, .int z])), (tb, .inl (cB, 16, .inl B)), (tr, .inl (cR, 16, .inl Rs))] s.heap.size = A at hD ⊢
  have hA : ∀ q : Nat, s.heap.size ≤ q → A q := fun q h => by rw [← hAe]; exact Or.inr h
  have hS : va_S A s.heap s.heap [] := va_S.rf
  have hiX2 : ∀ w ∈ u_ws RX2 TX2 5, w ∈ wsX2_goBackTo := by decide +kernel
  have f9 := hts (.fieldLink RX2 9 "LessonSolver$Trail" "bits" "[I") (by decide +kernel)
  have f18 := hts (.fieldLink RX2 18 "LessonSolver$Trail" "length" "I") (by decide +kernel)
  have f22 := hts (.fieldLink RX2 22 "LessonSolver$Trail" "ones" "I") (by decide +kernel)
  have f25 := hts (.fieldLink RX2 25 "LessonSolver$Trail" "zeros" "I") (by decide +kernel)
  have hl := lv_entry ([.ref ta, .int (nI mk)]) (n := 3) (Nat.le_of_ble_eq_true rfl)
  rw [lg_entry_eq]
  generalize (lg_sl ([.ref ta, .int (nI mk)]) ++ List.replicate (3 - (lg_sl ([.ref ta, .int (nI mk)])).length) Slot.unset).toArray = ls at hl ⊢
  have hl : lv_has ls 3 [(0, .ref ta), (1, .int (nI mk))] := hl
  refine lv_iconst (v := 0) hx hb dX2_goBackTo_0 (by decide) ?_
  refine lv_iload_n hx hb dX2_goBackTo_1 rfl (lv_at hl 1 rfl) ?_
  refine va_mmax hx hb (by rw [hml]; exact hl.1.symm) hown (hts (.methodLink RX2 32 Lib.Math.max.name) (by decide +kernel)) (hts (.static Lib.Math.max.name) (by decide +kernel)) (hts (.initialized "java/lang/Math") (by decide +kernel)) (hts (.code Lib.Math.max.name Lib.Math.max.code 2 (some .int)) (by decide +kernel)) (Nat.le_of_ble_eq_true rfl) (Nat.le_of_ble_eq_true rfl) (Nat.le_of_ble_eq_true rfl) (Nat.le_of_ble_eq_true rfl) dX2_goBackTo_2 ?_
  refine ks_top (y := nI mk) (ks_max0 (by omega)) ?_
  refine lv_istore_n (lv' := [(2, .int (nI mk)), (0, .ref ta), (1, .int (nI mk))]) hx hb dX2_goBackTo_5 rfl hl (by decide) rfl (fun ls hl => ?_)
  refine ks_wl (σ := Nat × Int32 × Int32) (fun n x H locs ls => (mk ≤ x.1) ∧ (x.1 ≤ k) ∧ (n + x.1 = k + 1) ∧ (ks_cut B mk x.1 o x.2.1) ∧ (ks_cut B mk x.1 z x.2.2) ∧ va_P (dC, dI) ksCl [(ta, .inr (2, [.ref tb, .ref tr, .int (nI k), .int x.2.1, .int x.2.2])), (tb, .inl (cB, 16, .inl B)), (tr, .inl (cR, 16, .inl Rs))] H ∧ va_D A [(ta, .inr (2, [.ref tb, .ref tr, .int (nI k), .int x.2.1, .int x.2.2])), (tb, .inl (cB, 16, .inl B)), (tr, .inl (cR, 16, .inl Rs))] ∧ va_S A s.heap H locs ∧ lv_has ls 3 [(0, .ref ta), (1, .int (nI mk)), (2, .int (nI x.1))]) 6 ?_ ?_ (k + 1 - mk) (mk, o, z) _ _ ls ⟨Nat.le_refl mk, hm, by show k + 1 - mk + mk = k + 1; omega, ks_cut.zero B mk o, ks_cut.zero B mk z, hP, hD, hS, lv_sub hl [1, 2, 0] rfl⟩
  · -- loop at 6
    intro n x H locs ls h9 ih
    obtain ⟨j, o1, z1⟩ := x
    obtain ⟨i1, i2, i3, i4, i5, hP, hD, hS, hl⟩ := h9
    have i1 : mk ≤ j := i1
    have i2 : j ≤ k := i2
    have i3 : (n + 1) + j = k + 1 := i3
    have i4 : ks_cut B mk j o o1 := i4
    have i5 : ks_cut B mk j z z1 := i5
    have hP : va_P (dC, dI) ksCl [(ta, .inr (2, [.ref tb, .ref tr, .int (nI k), .int o1, .int z1])), (tb, .inl (cB, 16, .inl B)), (tr, .inl (cR, 16, .inl Rs))] H := hP
    have hD : va_D A [(ta, .inr (2, [.ref tb, .ref tr, .int (nI k), .int o1, .int z1])), (tb, .inl (cB, 16, .inl B)), (tr, .inl (cR, 16, .inl Rs))] := hD
    have hl : lv_has ls 3 [(0, .ref ta), (1, .int (nI mk)), (2, .int (nI j))] := hl
    refine lv_iload_n hx hb dX2_goBackTo_6 rfl (lv_at hl 2 rfl) ?_
    refine lv_aload_n hx hb dX2_goBackTo_7 rfl (lv_at hl 0 rfl) ?_
    refine va_get (D := (dC, dI)) (ci := 2) (v := .int (nI k)) (C := RX2) (T := TX2) (N := 5) hx hb hts hiX2 hown hK hP 0 rfl rfl 2 (by decide) f18 (fun _ h9 => h9) rfl dX2_goBackTo_8 ?_
    refine lv_icmp_ge (tgt := 54) hx hb dX2_goBackTo_11 (by decide) (fun c11 => ?_) (fun c11 => ?_)
    · -- 11: jumps
      have hjk : k ≤ j := by
        rcases Nat.lt_or_ge j k with q | q
        · exact absurd c11 (nI_ge q (by omega))
        · exact q
      have ej : j = k := by omega
      rw [ej] at i4 i5
      refine lv_aload_n hx hb dX2_goBackTo_54 rfl (lv_at hl 0 rfl) ?_
      refine lv_iconst (v := 0) hx hb dX2_goBackTo_55 (by decide) ?_
      refine lv_iload_n hx hb dX2_goBackTo_56 rfl (lv_at hl 1 rfl) ?_
      refine lv_aload_n hx hb dX2_goBackTo_57 rfl (lv_at hl 0 rfl) ?_
      refine va_get (D := (dC, dI)) (ci := 2) (v := .int (nI k)) (C := RX2) (T := TX2) (N := 5) hx hb hts hiX2 hown hK hP 0 rfl rfl 2 (by decide) f18 (fun _ h9 => h9) rfl dX2_goBackTo_58 ?_
      refine va_mmin hx hb (by rw [hml]; exact hl.1.symm) hown (hts (.methodLink RX2 38 Lib.Math.min.name) (by decide +kernel)) (hts (.static Lib.Math.min.name) (by decide +kernel)) (hts (.initialized "java/lang/Math") (by decide +kernel)) (hts (.code Lib.Math.min.name Lib.Math.min.code 2 (some .int)) (by decide +kernel)) (Nat.le_of_ble_eq_true rfl) (Nat.le_of_ble_eq_true rfl) (Nat.le_of_ble_eq_true rfl) (Nat.le_of_ble_eq_true rfl) dX2_goBackTo_61 ?_
      refine ks_top (y := nI mk) (ks_min (by omega) (by omega)) ?_
      refine va_mmax hx hb (by rw [hml]; exact hl.1.symm) hown (hts (.methodLink RX2 32 Lib.Math.max.name) (by decide +kernel)) (hts (.static Lib.Math.max.name) (by decide +kernel)) (hts (.initialized "java/lang/Math") (by decide +kernel)) (hts (.code Lib.Math.max.name Lib.Math.max.code 2 (some .int)) (by decide +kernel)) (Nat.le_of_ble_eq_true rfl) (Nat.le_of_ble_eq_true rfl) (Nat.le_of_ble_eq_true rfl) (Nat.le_of_ble_eq_true rfl) dX2_goBackTo_64 ?_
      refine ks_top (y := nI mk) (ks_max0 (by omega)) ?_
      refine va_put (D := (dC, dI)) (ci := 2) (v := .int (nI mk)) (ty := .int) (C := RX2) (T := TX2) (N := 5) hx hb hts hiX2 tyX2 tyX2_ok nmX2 hown hK hP hD hS 0 rfl rfl 2 (by decide) f18 (fun _ h9 => h9) rfl (by decide +kernel) rfl rfl (Nat.le_of_ble_eq_true rfl) dX2_goBackTo_67 (fun H locs hP hD hS => ?_)
      have hP : va_P (dC, dI) ksCl [(ta, .inr (2, [.ref tb, .ref tr, .int (nI mk), .int o1, .int z1])), (tb, .inl (cB, 16, .inl B)), (tr, .inl (cR, 16, .inl Rs))] H := hP
      have hD : va_D A [(ta, .inr (2, [.ref tb, .ref tr, .int (nI mk), .int o1, .int z1])), (tb, .inl (cB, 16, .inl B)), (tr, .inl (cR, 16, .inl Rs))] := hD
      have hP9 : va_P (dC, dI) ksCl [(ta, .inr (2, [.ref tb, .ref tr, .int (nI mk), .int o1, .int z1])), (tb, .inl (cB, 16, .inl B)), (tr, .inl (cR, 16, .inl Rs))] _ := hP
      have hD9 : va_D A [(ta, .inr (2, [.ref tb, .ref tr, .int (nI mk), .int o1, .int z1])), (tb, .inl (cB, 16, .inl B)), (tr, .inl (cR, 16, .inl Rs))] := hD
      have hK9 : va_K (dC, dI) ksCl [(cB, .int), (cR, .int)] s := hK
      exact W.vret hx hb hr (fun t ht hW9 => ⟨⟨(o1, z1), rfl, ⟨i4, i5⟩, by rw [ht]; exact hP9, va_K.moved hW9.alike hK9, hD9⟩, hS.F ht⟩) hS.2.2 dX2_goBackTo_70
    · -- 11: goes on
      have hjk : j < k := by
        rcases Nat.lt_or_ge j k with q | q
        · exact q
        · exact absurd (nI_le q (by omega)) c11
      refine lv_aload_n hx hb dX2_goBackTo_14 rfl (lv_at hl 0 rfl) ?_
      refine lv_dup hx hb dX2_goBackTo_15 rfl ?_
      refine va_get (D := (dC, dI)) (ci := 2) (v := .int o1) (C := RX2) (T := TX2) (N := 5) hx hb hts hiX2 hown hK hP 0 rfl rfl 3 (by decide) f22 (fun _ h9 => h9) rfl dX2_goBackTo_16 ?_
      refine lv_aload_n hx hb dX2_goBackTo_19 rfl (lv_at hl 0 rfl) ?_
      refine va_get (D := (dC, dI)) (ci := 2) (v := .ref tb) (C := RX2) (T := TX2) (N := 5) hx hb hts hiX2 hown hK hP 0 rfl rfl 0 (by decide) f9 (fun _ h9 => h9) rfl dX2_goBackTo_20 ?_
      refine lv_iload_n hx hb dX2_goBackTo_23 rfl (lv_at hl 2 rfl) ?_
      refine ks_ald hx hb hK hP 1 0 rfl rfl (j := j) (by omega) (by decide) dX2_goBackTo_24 ?_
      refine lv_iconst (v := -1) hx hb dX2_goBackTo_25 (by decide) ?_
      refine lv_ixor hx hb dX2_goBackTo_26 ?_
      refine lv_iand hx hb dX2_goBackTo_27 ?_
      refine lv_topi (fun v28 ev28 => ?_)
      refine va_put (D := (dC, dI)) (ci := 2) (v := .int v28) (ty := .int) (C := RX2) (T := TX2) (N := 5) hx hb hts hiX2 tyX2 tyX2_ok nmX2 hown hK hP hD hS 0 rfl rfl 3 (by decide) f22 (fun _ h9 => h9) rfl (by decide +kernel) rfl rfl (Nat.le_of_ble_eq_true rfl) dX2_goBackTo_28 (fun H locs hP hD hS => ?_)
      have hP : va_P (dC, dI) ksCl [(ta, .inr (2, [.ref tb, .ref tr, .int (nI k), .int v28, .int z1])), (tb, .inl (cB, 16, .inl B)), (tr, .inl (cR, 16, .inl Rs))] H := hP
      have hD : va_D A [(ta, .inr (2, [.ref tb, .ref tr, .int (nI k), .int v28, .int z1])), (tb, .inl (cB, 16, .inl B)), (tr, .inl (cR, 16, .inl Rs))] := hD
      refine lv_aload_n hx hb dX2_goBackTo_31 rfl (lv_at hl 0 rfl) ?_
      refine lv_dup hx hb dX2_goBackTo_32 rfl ?_
      refine va_get (D := (dC, dI)) (ci := 2) (v := .int z1) (C := RX2) (T := TX2) (N := 5) hx hb hts hiX2 hown hK hP 0 rfl rfl 4 (by decide) f25 (fun _ h9 => h9) rfl dX2_goBackTo_33 ?_
      refine lv_aload_n hx hb dX2_goBackTo_36 rfl (lv_at hl 0 rfl) ?_
      refine va_get (D := (dC, dI)) (ci := 2) (v := .ref tb) (C := RX2) (T := TX2) (N := 5) hx hb hts hiX2 hown hK hP 0 rfl rfl 0 (by decide) f9 (fun _ h9 => h9) rfl dX2_goBackTo_37 ?_
      refine lv_iload_n hx hb dX2_goBackTo_40 rfl (lv_at hl 2 rfl) ?_
      refine ks_ald hx hb hK hP 1 0 rfl rfl (j := j) (by omega) (by decide) dX2_goBackTo_41 ?_
      refine lv_iconst (v := -1) hx hb dX2_goBackTo_42 (by decide) ?_
      refine lv_ixor hx hb dX2_goBackTo_43 ?_
      refine lv_iand hx hb dX2_goBackTo_44 ?_
      refine lv_topi (fun v45 ev45 => ?_)
      refine va_put (D := (dC, dI)) (ci := 2) (v := .int v45) (ty := .int) (C := RX2) (T := TX2) (N := 5) hx hb hts hiX2 tyX2 tyX2_ok nmX2 hown hK hP hD hS 0 rfl rfl 4 (by decide) f25 (fun _ h9 => h9) rfl (by decide +kernel) rfl rfl (Nat.le_of_ble_eq_true rfl) dX2_goBackTo_45 (fun H locs hP hD hS => ?_)
      have hP : va_P (dC, dI) ksCl [(ta, .inr (2, [.ref tb, .ref tr, .int (nI k), .int v28, .int v45])), (tb, .inl (cB, 16, .inl B)), (tr, .inl (cR, 16, .inl Rs))] H := hP
      have hD : va_D A [(ta, .inr (2, [.ref tb, .ref tr, .int (nI k), .int v28, .int v45])), (tb, .inl (cB, 16, .inl B)), (tr, .inl (cR, 16, .inl Rs))] := hD
      refine lv_iinc (v := nI (j + 1)) (lv' := [(2, .int (nI (j + 1))), (0, .ref ta), (1, .int (nI mk))]) hx hb dX2_goBackTo_48 hl (k := 2) rfl (nI_1 _) (by decide) rfl (fun ls hl => ?_)
      refine lv_goto (tgt := 6) hx hb dX2_goBackTo_51 (by decide) ?_
      exact ih (j + 1, v28, v45) _ _ _ ⟨by omega, hjk, by omega, by rw [ev28]; exact i4.step i1, by rw [ev45]; exact i5.step i1, hP, hD, hS, lv_sub hl [1, 2, 0] rfl⟩
  · intro x H locs ls h9
    obtain ⟨i1, i2, i3, i4, i5, -, -, -, -⟩ := h9
    try dsimp only at i1 i2 i3
    omega
