set_option maxHeartbeats 4000000 in
set_option maxRecDepth 100000 in
/-- assign: a place more -/
theorem ks_assign (l : Launch) (dC : Nat → ClassId) (dI : Nat → Nat → Nat) (ta tb tr : Nat) (cB cR : ClassId) (B Rs : Nat → Int32) (k : Nat) (o z f r : Int32) (v : Bool) (hk : k < 16) : ks_Mv l yX2_assign wsX2_assign ({ frames := 0, cells := 0, slots := 0, locals := 0 }) (dC, dI) [.ref ta, .int f, .int (ks_b v), .int r] [(ta, .inr (2, [.ref tb, .ref tr, .int (nI k), .int o, .int z])), (tb, .inl (cB, 16, .inl B)), (tr, .inl (cR, 16, .inl Rs))] [(cB, .int), (cR, .int)] 0 0 (S := Unit) (fun _ => True) (fun _ => [(ta, .inr (2, [.ref tb, .ref tr, .int (nI (k + 1)), .int (if v = true then o ||| f else o), .int (if v = true then z else z ||| f)])), (tb, .inl (cB, 16, .inl (upd B k f))), (tr, .inl (cR, 16, .inl (upd Rs k r)))]) (fun _ => [(cB, .int), (cR, .int)]) := by
  intro sz
  refine Met.ofW (cc := cX2_assign) (maxL := 4) (ret := none) (by decide) rfl ?_
  intro p e s m args below meth c s₁ B9 hml hv
  obtain ⟨rfl, hsz, hP, hK, hD0, hNW⟩ := hv
  have hx := B9.exec
  have hb := B9.bytes
  have hr := B9.returns
  have hts := atoms_spec (ws := wsX2_assign) B9.pre
  have hown : s.vm.findClass RX2 = some m.cls := findClass_of_methodNamed B9.named
  have hlocks := B9.notSynchronized
  subst hsz
  have hD := hD0.self (sz := s.heap.size)
  generalize hAe : va_A [(ta, .inr (2, [.ref tb, .ref tr, .int (nI k), .int o, .int z])), (tb, .inl (cB, 16, .inl B)), (tr, .inl (cR, 16, .inl Rs))] s.heap.size = A at hD ⊢
  have hA : ∀ q : Nat, s.heap.size ≤ q → A q := fun q h => by rw [← hAe]; exact Or.inr h
  have hS : va_S A s.heap s.heap [] := va_S.rf
  have hiX2 : ∀ w ∈ u_ws RX2 TX2 5, w ∈ wsX2_assign := by decide +kernel
  have f9 := hts (.fieldLink RX2 9 "LessonSolver$Trail" "bits" "[I") (by decide +kernel)
  have f15 := hts (.fieldLink RX2 15 "LessonSolver$Trail" "reasons" "[I") (by decide +kernel)
  have f18 := hts (.fieldLink RX2 18 "LessonSolver$Trail" "length" "I") (by decide +kernel)
  have f22 := hts (.fieldLink RX2 22 "LessonSolver$Trail" "ones" "I") (by decide +kernel)
  have f25 := hts (.fieldLink RX2 25 "LessonSolver$Trail" "zeros" "I") (by decide +kernel)
  have hl := lv_entry ([.ref ta, .int f, .int (ks_b v), .int r]) (n := 4) (Nat.le_of_ble_eq_true rfl)
  rw [lg_entry_eq]
  generalize (lg_sl ([.ref ta, .int f, .int (ks_b v), .int r]) ++ List.replicate (4 - (lg_sl ([.ref ta, .int f, .int (ks_b v), .int r])).length) Slot.unset).toArray = ls at hl ⊢
  have hl : lv_has ls 4 [(0, .ref ta), (1, .int f), (2, .int (ks_b v)), (3, .int r)] := hl
  refine lv_aload_n hx hb dX2_assign_0 rfl (lv_at hl 0 rfl) ?_
  refine va_get (D := (dC, dI)) (ci := 2) (v := .int (nI k)) (C := RX2) (T := TX2) (N := 5) hx hb hts hiX2 hown hK hP 0 rfl rfl 2 (by decide) f18 (fun _ h9 => h9) rfl dX2_assign_1 ?_
  refine lv_aload_n hx hb dX2_assign_4 rfl (lv_at hl 0 rfl) ?_
  refine va_get (D := (dC, dI)) (ci := 2) (v := .ref tb) (C := RX2) (T := TX2) (N := 5) hx hb hts hiX2 hown hK hP 0 rfl rfl 0 (by decide) f9 (fun _ h9 => h9) rfl dX2_assign_5 ?_
  refine va_alen (v := nI 16) hx hb hK hP 1 0 rfl rfl rfl dX2_assign_8 ?_
  refine lv_icmp_lt (tgt := 13) hx hb dX2_assign_9 (by decide) (fun c9 => ?_) (fun c9 => absurd (nI_lt hk (by decide)) c9)
  refine lv_aload_n hx hb dX2_assign_13 rfl (lv_at hl 0 rfl) ?_
  refine va_get (D := (dC, dI)) (ci := 2) (v := .ref tb) (C := RX2) (T := TX2) (N := 5) hx hb hts hiX2 hown hK hP 0 rfl rfl 0 (by decide) f9 (fun _ h9 => h9) rfl dX2_assign_14 ?_
  refine lv_aload_n hx hb dX2_assign_17 rfl (lv_at hl 0 rfl) ?_
  refine va_get (D := (dC, dI)) (ci := 2) (v := .int (nI k)) (C := RX2) (T := TX2) (N := 5) hx hb hts hiX2 hown hK hP 0 rfl rfl 2 (by decide) f18 (fun _ h9 => h9) rfl dX2_assign_18 ?_
  refine lv_iload_n hx hb dX2_assign_21 rfl (lv_at hl 1 rfl) ?_
  refine ks_ast hx hb hK hP hD hS 1 0 rfl rfl (j := k) (hk) (by decide) dX2_assign_22 (fun H locs hP hD hS => ?_)
  have hP : va_P (dC, dI) ksCl [(ta, .inr (2, [.ref tb, .ref tr, .int (nI k), .int o, .int z])), (tb, .inl (cB, 16, .inl (upd B k f))), (tr, .inl (cR, 16, .inl Rs))] H := hP
  have hD : va_D A [(ta, .inr (2, [.ref tb, .ref tr, .int (nI k), .int o, .int z])), (tb, .inl (cB, 16, .inl (upd B k f))), (tr, .inl (cR, 16, .inl Rs))] := hD
  refine lv_aload_n hx hb dX2_assign_23 rfl (lv_at hl 0 rfl) ?_
  refine va_get (D := (dC, dI)) (ci := 2) (v := .ref tr) (C := RX2) (T := TX2) (N := 5) hx hb hts hiX2 hown hK hP 0 rfl rfl 1 (by decide) f15 (fun _ h9 => h9) rfl dX2_assign_24 ?_
  refine lv_aload_n hx hb dX2_assign_27 rfl (lv_at hl 0 rfl) ?_
  refine va_get (D := (dC, dI)) (ci := 2) (v := .int (nI k)) (C := RX2) (T := TX2) (N := 5) hx hb hts hiX2 hown hK hP 0 rfl rfl 2 (by decide) f18 (fun _ h9 => h9) rfl dX2_assign_28 ?_
  refine lv_iload_n hx hb dX2_assign_31 rfl (lv_at hl 3 rfl) ?_
  refine ks_ast hx hb hK hP hD hS 2 1 rfl rfl (j := k) (hk) (by decide) dX2_assign_32 (fun H locs hP hD hS => ?_)
  have hP : va_P (dC, dI) ksCl [(ta, .inr (2, [.ref tb, .ref tr, .int (nI k), .int o, .int z])), (tb, .inl (cB, 16, .inl (upd B k f))), (tr, .inl (cR, 16, .inl (upd Rs k r)))] H := hP
  have hD : va_D A [(ta, .inr (2, [.ref tb, .ref tr, .int (nI k), .int o, .int z])), (tb, .inl (cB, 16, .inl (upd B k f))), (tr, .inl (cR, 16, .inl (upd Rs k r)))] := hD
  refine lv_aload_n hx hb dX2_assign_33 rfl (lv_at hl 0 rfl) ?_
  refine lv_dup hx hb dX2_assign_34 rfl ?_
  refine va_get (D := (dC, dI)) (ci := 2) (v := .int (nI k)) (C := RX2) (T := TX2) (N := 5) hx hb hts hiX2 hown hK hP 0 rfl rfl 2 (by decide) f18 (fun _ h9 => h9) rfl dX2_assign_35 ?_
  refine lv_iconst (v := 1) hx hb dX2_assign_38 (by decide) ?_
  refine lv_iadd hx hb dX2_assign_39 ?_
  refine ks_top (y := nI (k + 1)) (nI_1 k) ?_
  refine va_put (D := (dC, dI)) (ci := 2) (v := .int (nI (k + 1))) (ty := .int) (C := RX2) (T := TX2) (N := 5) hx hb hts hiX2 tyX2 tyX2_ok nmX2 hown hK hP hD hS 0 rfl rfl 2 (by decide) f18 (fun _ h9 => h9) rfl (by decide +kernel) rfl rfl (Nat.le_of_ble_eq_true rfl) dX2_assign_40 (fun H locs hP hD hS => ?_)
  have hP : va_P (dC, dI) ksCl [(ta, .inr (2, [.ref tb, .ref tr, .int (nI (k + 1)), .int o, .int z])), (tb, .inl (cB, 16, .inl (upd B k f))), (tr, .inl (cR, 16, .inl (upd Rs k r)))] H := hP
  have hD : va_D A [(ta, .inr (2, [.ref tb, .ref tr, .int (nI (k + 1)), .int o, .int z])), (tb, .inl (cB, 16, .inl (upd B k f))), (tr, .inl (cR, 16, .inl (upd Rs k r)))] := hD
  refine lv_iload_n hx hb dX2_assign_43 rfl (lv_at hl 2 rfl) ?_
  refine lv_if_eq (tgt := 60) hx hb dX2_assign_44 (by decide) (fun c44 => ?_) (fun c44 => ?_)
  · -- 44: jumps
    cases v
    case true => exact absurd c44 (by decide)
    refine lv_aload_n hx hb dX2_assign_60 rfl (lv_at hl 0 rfl) ?_
    refine lv_dup hx hb dX2_assign_61 rfl ?_
    refine va_get (D := (dC, dI)) (ci := 2) (v := .int z) (C := RX2) (T := TX2) (N := 5) hx hb hts hiX2 hown hK hP 0 rfl rfl 4 (by decide) f25 (fun _ h9 => h9) rfl dX2_assign_62 ?_
    refine lv_iload_n hx hb dX2_assign_65 rfl (lv_at hl 1 rfl) ?_
    refine lv_ior hx hb dX2_assign_66 ?_
    refine va_put (D := (dC, dI)) (ci := 2) (v := .int (z ||| f)) (ty := .int) (C := RX2) (T := TX2) (N := 5) hx hb hts hiX2 tyX2 tyX2_ok nmX2 hown hK hP hD hS 0 rfl rfl 4 (by decide) f25 (fun _ h9 => h9) rfl (by decide +kernel) rfl rfl (Nat.le_of_ble_eq_true rfl) dX2_assign_67 (fun H locs hP hD hS => ?_)
    have hP : va_P (dC, dI) ksCl [(ta, .inr (2, [.ref tb, .ref tr, .int (nI (k + 1)), .int o, .int (z ||| f)])), (tb, .inl (cB, 16, .inl (upd B k f))), (tr, .inl (cR, 16, .inl (upd Rs k r)))] H := hP
    have hD : va_D A [(ta, .inr (2, [.ref tb, .ref tr, .int (nI (k + 1)), .int o, .int (z ||| f)])), (tb, .inl (cB, 16, .inl (upd B k f))), (tr, .inl (cR, 16, .inl (upd Rs k r)))] := hD
    have hP9 : va_P (dC, dI) ksCl [(ta, .inr (2, [.ref tb, .ref tr, .int (nI (k + 1)), .int o, .int (z ||| f)])), (tb, .inl (cB, 16, .inl (upd B k f))), (tr, .inl (cR, 16, .inl (upd Rs k r)))] _ := hP
    have hD9 : va_D A [(ta, .inr (2, [.ref tb, .ref tr, .int (nI (k + 1)), .int o, .int (z ||| f)])), (tb, .inl (cB, 16, .inl (upd B k f))), (tr, .inl (cR, 16, .inl (upd Rs k r)))] := hD
    have hK9 : va_K (dC, dI) ksCl [(cB, .int), (cR, .int)] s := hK
    exact W.vret hx hb hr (fun t ht hW9 => ⟨⟨(), rfl, trivial, by rw [ht]; exact hP9, va_K.moved hW9.alike hK9, hD9⟩, hS.F ht⟩) hS.2.2 dX2_assign_70
  · -- 44: goes on
    cases v
    case false => exact absurd rfl c44
    refine lv_aload_n hx hb dX2_assign_47 rfl (lv_at hl 0 rfl) ?_
    refine lv_dup hx hb dX2_assign_48 rfl ?_
    refine va_get (D := (dC, dI)) (ci := 2) (v := .int o) (C := RX2) (T := TX2) (N := 5) hx hb hts hiX2 hown hK hP 0 rfl rfl 3 (by decide) f22 (fun _ h9 => h9) rfl dX2_assign_49 ?_
    refine lv_iload_n hx hb dX2_assign_52 rfl (lv_at hl 1 rfl) ?_
    refine lv_ior hx hb dX2_assign_53 ?_
    refine va_put (D := (dC, dI)) (ci := 2) (v := .int (o ||| f)) (ty := .int) (C := RX2) (T := TX2) (N := 5) hx hb hts hiX2 tyX2 tyX2_ok nmX2 hown hK hP hD hS 0 rfl rfl 3 (by decide) f22 (fun _ h9 => h9) rfl (by decide +kernel) rfl rfl (Nat.le_of_ble_eq_true rfl) dX2_assign_54 (fun H locs hP hD hS => ?_)
    have hP : va_P (dC, dI) ksCl [(ta, .inr (2, [.ref tb, .ref tr, .int (nI (k + 1)), .int (o ||| f), .int z])), (tb, .inl (cB, 16, .inl (upd B k f))), (tr, .inl (cR, 16, .inl (upd Rs k r)))] H := hP
    have hD : va_D A [(ta, .inr (2, [.ref tb, .ref tr, .int (nI (k + 1)), .int (o ||| f), .int z])), (tb, .inl (cB, 16, .inl (upd B k f))), (tr, .inl (cR, 16, .inl (upd Rs k r)))] := hD
    refine lv_goto (tgt := 70) hx hb dX2_assign_57 (by decide) ?_
    have hP9 : va_P (dC, dI) ksCl [(ta, .inr (2, [.ref tb, .ref tr, .int (nI (k + 1)), .int (o ||| f), .int z])), (tb, .inl (cB, 16, .inl (upd B k f))), (tr, .inl (cR, 16, .inl (upd Rs k r)))] _ := hP
    have hD9 : va_D A [(ta, .inr (2, [.ref tb, .ref tr, .int (nI (k + 1)), .int (o ||| f), .int z])), (tb, .inl (cB, 16, .inl (upd B k f))), (tr, .inl (cR, 16, .inl (upd Rs k r)))] := hD
    have hK9 : va_K (dC, dI) ksCl [(cB, .int), (cR, .int)] s := hK
    exact W.vret hx hb hr (fun t ht hW9 => ⟨⟨(), rfl, trivial, by rw [ht]; exact hP9, va_K.moved hW9.alike hK9, hD9⟩, hS.F ht⟩) hS.2.2 dX2_assign_70
