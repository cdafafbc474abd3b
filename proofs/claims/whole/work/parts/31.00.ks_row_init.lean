set_option maxHeartbeats 4000000 in
set_option maxRecDepth 100000 in
/-- ClauseRow() -/
theorem ks_row_init (l : Launch) (dC : Nat → ClassId) (dI : Nat → Nat → Nat) (ra : Nat) : ks_Mv l yX0_init wsX0_init ({ frames := 1, cells := 2, slots := 1328, locals := 12 }) (dC, dI) [.ref ra] [(ra, .inr (0, [.null, .null, .int 0, .int 0]))] [] 2 1328 (S := Nat × Nat × ClassId × ClassId) (fun _ => True) (fun u => [(ra, .inr (0, [.ref u.1, .ref u.2.1, .int 0, .int 0])), (u.1, .inl (u.2.2.1, 664, .inl (fun _ => 0))), (u.2.1, .inl (u.2.2.2, 664, .inl (fun _ => 0)))]) (fun u => [(u.2.2.1, .int), (u.2.2.2, .int)]) := by
  intro sz
  refine Met.ofW (cc := cX0_init) (maxL := 1) (ret := none) (by decide) rfl ?_
  intro p e s m args below meth c s₁ B9 hml hv
  obtain ⟨rfl, hsz, hP, hK, hD0, hNW⟩ := hv
  have hx := B9.exec
  have hb := B9.bytes
  have hr := B9.returns
  have hts := atoms_spec (ws := wsX0_init) B9.pre
  have hown : s.vm.findClass RX0 = some m.cls := findClass_of_methodNamed B9.named
  have hlocks := B9.notSynchronized
  have hin : meth.name = "<init>" := (name_of_methodNamed B9.named B9.method).1
  subst hsz
  have hD := hD0.self (sz := s.heap.size)
  generalize hAe : va_A [(ra, .inr (0, [.null, .null, .int 0, .int 0]))] s.heap.size = A at hD ⊢
  have hA : ∀ q : Nat, s.heap.size ≤ q → A q := fun q h => by rw [← hAe]; exact Or.inr h
  have hS : va_S A s.heap s.heap [] := va_S.rf
  have hiX0 : ∀ w ∈ u_ws RX0 TX0 4, w ∈ wsX0_init := by decide +kernel
  have f9 := hts (.fieldLink RX0 9 "LessonSolver$ClauseRow" "plus" "[I") (by decide +kernel)
  have f15 := hts (.fieldLink RX0 15 "LessonSolver$ClauseRow" "minus" "[I") (by decide +kernel)
  have hari := hts (.arrayClass (newarray.typeOf .int)) (by decide +kernel)
  have hl := lv_entry ([.ref ra]) (n := 1) (Nat.le_of_ble_eq_true rfl)
  rw [lg_entry_eq]
  generalize (lg_sl ([.ref ra]) ++ List.replicate (1 - (lg_sl ([.ref ra])).length) Slot.unset).toArray = ls at hl ⊢
  have hl : lv_has ls 1 [(0, .ref ra)] := hl
  refine lv_aload_n hx hb dX0_init_0 rfl (lv_at hl 0 rfl) ?_
  refine W.objInit hx hb hown (hts (.methodLink RX0 3 objectInit) (by decide +kernel)) (hts (.instanceMethod objectInit) (by decide +kernel)) (hts (.code objectInit ⟨#[0xb1]⟩ 1 none) (by decide +kernel)) rfl (by rw [hml]; exact hl.1) rfl dX0_init_1 (Nat.le_of_ble_eq_true rfl) (Nat.le_of_ble_eq_true rfl) ?_
  refine W.eq (g2 := F0 m 4 ls []) rfl ?_
  refine lv_aload_n hx hb dX0_init_4 rfl (lv_at hl 0 rfl) ?_
  refine lv_sipush (v := nI 664) hx hb dX0_init_5 (by decide) ?_
  refine va_newa (N' := 664) (a0 := (664, .inl (fun _ => 0))) hx hb hari rfl hK hP hD hS hA (fun _ => rfl) (by decide) (by decide) (by decide) (Nat.le_of_ble_eq_true rfl) (Nat.le_of_ble_eq_true rfl) dX0_init_8 (fun rp cP H hK hP hD hS => ?_)
  have hP : va_P (dC, dI) ksCl [(ra, .inr (0, [.null, .null, .int 0, .int 0])), (rp, .inl (cP, 664, .inl (fun _ => 0)))] H := hP
  have hD : va_D A [(ra, .inr (0, [.null, .null, .int 0, .int 0])), (rp, .inl (cP, 664, .inl (fun _ => 0)))] := hD
  have hK : va_K (dC, dI) ksCl [(cP, .int)] s := hK
  refine va_putF (D := (dC, dI)) (ci := 0) (v := .ref rp) (ty := .array .int) (C := RX0) (T := TX0) (N := 4) hx hb hts hiX0 tyX0 tyX0_ok nmX0 hown hK hP hD hS 0 rfl rfl 0 (by decide) f9 (fun _ h9 => h9) rfl hin rfl (by decide +kernel) rfl rfl (Nat.le_of_ble_eq_true rfl) dX0_init_10 (fun H locs hP hD hS => ?_)
  have hP : va_P (dC, dI) ksCl [(ra, .inr (0, [.ref rp, .null, .int 0, .int 0])), (rp, .inl (cP, 664, .inl (fun _ => 0)))] H := hP
  have hD : va_D A [(ra, .inr (0, [.ref rp, .null, .int 0, .int 0])), (rp, .inl (cP, 664, .inl (fun _ => 0)))] := hD
  refine lv_aload_n hx hb dX0_init_13 rfl (lv_at hl 0 rfl) ?_
  refine lv_sipush (v := nI 664) hx hb dX0_init_14 (by decide) ?_
  refine va_newa (N' := 664) (a0 := (664, .inl (fun _ => 0))) hx hb hari rfl hK hP hD hS hA (fun _ => rfl) (by decide) (by decide) (by decide) (Nat.le_of_ble_eq_true rfl) (Nat.le_of_ble_eq_true rfl) dX0_init_17 (fun rq cM H hK hP hD hS => ?_)
  have hP : va_P (dC, dI) ksCl [(ra, .inr (0, [.ref rp, .null, .int 0, .int 0])), (rp, .inl (cP, 664, .inl (fun _ => 0))), (rq, .inl (cM, 664, .inl (fun _ => 0)))] H := hP
  have hD : va_D A [(ra, .inr (0, [.ref rp, .null, .int 0, .int 0])), (rp, .inl (cP, 664, .inl (fun _ => 0))), (rq, .inl (cM, 664, .inl (fun _ => 0)))] := hD
  have hK : va_K (dC, dI) ksCl [(cP, .int), (cM, .int)] s := hK
  refine va_putF (D := (dC, dI)) (ci := 0) (v := .ref rq) (ty := .array .int) (C := RX0) (T := TX0) (N := 4) hx hb hts hiX0 tyX0 tyX0_ok nmX0 hown hK hP hD hS 0 rfl rfl 1 (by decide) f15 (fun _ h9 => h9) rfl hin rfl (by decide +kernel) rfl rfl (Nat.le_of_ble_eq_true rfl) dX0_init_19 (fun H locs hP hD hS => ?_)
  have hP : va_P (dC, dI) ksCl [(ra, .inr (0, [.ref rp, .ref rq, .int 0, .int 0])), (rp, .inl (cP, 664, .inl (fun _ => 0))), (rq, .inl (cM, 664, .inl (fun _ => 0)))] H := hP
  have hD : va_D A [(ra, .inr (0, [.ref rp, .ref rq, .int 0, .int 0])), (rp, .inl (cP, 664, .inl (fun _ => 0))), (rq, .inl (cM, 664, .inl (fun _ => 0)))] := hD
  have hP9 : va_P (dC, dI) ksCl [(ra, .inr (0, [.ref rp, .ref rq, .int 0, .int 0])), (rp, .inl (cP, 664, .inl (fun _ => 0))), (rq, .inl (cM, 664, .inl (fun _ => 0)))] _ := hP
  have hD9 : va_D A [(ra, .inr (0, [.ref rp, .ref rq, .int 0, .int 0])), (rp, .inl (cP, 664, .inl (fun _ => 0))), (rq, .inl (cM, 664, .inl (fun _ => 0)))] := hD
  have hK9 : va_K (dC, dI) ksCl [(cP, .int), (cM, .int)] s := hK
  refine W.widen (k := 2) (n := 1328) (by omega) (by omega) ?_
  exact W.vret hx hb hr (fun t ht hW9 => ⟨⟨(rp, rq, cP, cM), rfl, trivial, by rw [ht]; exact hP9, va_K.moved hW9.alike hK9, hD9⟩, hS.F ht⟩) hS.2.2 dX0_init_22
