set_option maxHeartbeats 4000000 in
set_option maxRecDepth 100000 in
/-- Trail() -/
theorem ks_trail_init (l : Launch) (dC : Nat → ClassId) (dI : Nat → Nat → Nat) (ta : Nat) : ks_Mv l yX2_init wsX2_init ({ frames := 1, cells := 2, slots := 32, locals := 12 }) (dC, dI) [.ref ta] [(ta, .inr (2, [.null, .null, .int 0, .int 0, .int 0]))] [] 2 32 (S := Nat × Nat × ClassId × ClassId) (fun _ => True) (fun u => [(ta, .inr (2, [.ref u.1, .ref u.2.1, .int 0, .int 0, .int 0])), (u.1, .inl (u.2.2.1, 16, .inl (fun _ => 0))), (u.2.1, .inl (u.2.2.2, 16, .inl (fun _ => 0)))]) (fun u => [(u.2.2.1, .int), (u.2.2.2, .int)]) := by
  intro sz
  refine Met.ofW (cc := cX2_init) (maxL := 1) (ret := none) (by decide) rfl ?_
  intro p e s m args below meth c s₁ B9 hml hv
  obtain ⟨rfl, hsz, hP, hK, hD0, hNW⟩ := hv
  have hx := B9.exec
  have hb := B9.bytes
  have hr := B9.returns
  have hts := atoms_spec (ws := wsX2_init) B9.pre
  have hown : s.vm.findClass RX2 = some m.cls := findClass_of_methodNamed B9.named
  have hlocks := B9.notSynchronized
  have hin : meth.name = "<init>" := (name_of_methodNamed B9.named B9.method).1
  subst hsz
  have hD := hD0.self (sz := s.heap.size)
  generalize hAe : va_A [(ta, .inr (2, [.null, .null, .int 0, .int 0, .int 0]))] s.heap.size = A at hD ⊢
  have hA : ∀ q : Nat, s.heap.size ≤ q → A q := fun q h => by rw [← hAe]; exact Or.inr h
  have hS : va_S A s.heap s.heap [] := va_S.rf
  have hiX2 : ∀ w ∈ u_ws RX2 TX2 5, w ∈ wsX2_init := by decide +kernel
  have f9 := hts (.fieldLink RX2 9 "LessonSolver$Trail" "bits" "[I") (by decide +kernel)
  have f15 := hts (.fieldLink RX2 15 "LessonSolver$Trail" "reasons" "[I") (by decide +kernel)
  have hari := hts (.arrayClass (newarray.typeOf .int)) (by decide +kernel)
  have hl := lv_entry ([.ref ta]) (n := 1) (Nat.le_of_ble_eq_true rfl)
  rw [lg_entry_eq]
  generalize (lg_sl ([.ref ta]) ++ List.replicate (1 - (lg_sl ([.ref ta])).length) Slot.unset).toArray = ls at hl ⊢
  have hl : lv_has ls 1 [(0, .ref ta)] := hl
  refine lv_aload_n hx hb dX2_init_0 rfl (lv_at hl 0 rfl) ?_
  refine W.objInit hx hb hown (hts (.methodLink RX2 3 objectInit) (by decide +kernel)) (hts (.instanceMethod objectInit) (by decide +kernel)) (hts (.code objectInit ⟨#[0xb1]⟩ 1 none) (by decide +kernel)) rfl (by rw [hml]; exact hl.1) rfl dX2_init_1 (Nat.le_of_ble_eq_true rfl) (Nat.le_of_ble_eq_true rfl) ?_
  refine W.eq (g2 := F0 m 4 ls []) rfl ?_
  refine lv_aload_n hx hb dX2_init_4 rfl (lv_at hl 0 rfl) ?_
  refine lv_bipush (v := nI 16) hx hb dX2_init_5 (by decide) ?_
  refine va_newa (N' := 16) (a0 := (16, .inl (fun _ => 0))) hx hb hari rfl hK hP hD hS hA (fun _ => rfl) (by decide) (by decide) (by decide) (Nat.le_of_ble_eq_true rfl) (Nat.le_of_ble_eq_true rfl) dX2_init_7 (fun tb cB H hK hP hD hS => ?_)
  have hP : va_P (dC, dI) ksCl [(ta, .inr (2, [.null, .null, .int 0, .int 0, .int 0])), (tb, .inl (cB, 16, .inl (fun _ => 0)))] H := hP
  have hD : va_D A [(ta, .inr (2, [.null, .null, .int 0, .int 0, .int 0])), (tb, .inl (cB, 16, .inl (fun _ => 0)))] := hD
  have hK : va_K (dC, dI) ksCl [(cB, .int)] s := hK
  refine va_putF (D := (dC, dI)) (ci := 2) (v := .ref tb) (ty := .array .int) (C := RX2) (T := TX2) (N := 5) hx hb hts hiX2 tyX2 tyX2_ok nmX2 hown hK hP hD hS 0 rfl rfl 0 (by decide) f9 (fun _ h9 => h9) rfl hin rfl (by decide +kernel) rfl rfl (Nat.le_of_ble_eq_true rfl) dX2_init_9 (fun H locs hP hD hS => ?_)
  have hP : va_P (dC, dI) ksCl [(ta, .inr (2, [.ref tb, .null, .int 0, .int 0, .int 0])), (tb, .inl (cB, 16, .inl (fun _ => 0)))] H := hP
  have hD : va_D A [(ta, .inr (2, [.ref tb, .null, .int 0, .int 0, .int 0])), (tb, .inl (cB, 16, .inl (fun _ => 0)))] := hD
  refine lv_aload_n hx hb dX2_init_12 rfl (lv_at hl 0 rfl) ?_
  refine lv_bipush (v := nI 16) hx hb dX2_init_13 (by decide) ?_
  refine va_newa (N' := 16) (a0 := (16, .inl (fun _ => 0))) hx hb hari rfl hK hP hD hS hA (fun _ => rfl) (by decide) (by decide) (by decide) (Nat.le_of_ble_eq_true rfl) (Nat.le_of_ble_eq_true rfl) dX2_init_15 (fun tr cR H hK hP hD hS => ?_)
  have hP : va_P (dC, dI) ksCl [(ta, .inr (2, [.ref tb, .null, .int 0, .int 0, .int 0])), (tb, .inl (cB, 16, .inl (fun _ => 0))), (tr, .inl (cR, 16, .inl (fun _ => 0)))] H := hP
  have hD : va_D A [(ta, .inr (2, [.ref tb, .null, .int 0, .int 0, .int 0])), (tb, .inl (cB, 16, .inl (fun _ => 0))), (tr, .inl (cR, 16, .inl (fun _ => 0)))] := hD
  have hK : va_K (dC, dI) ksCl [(cB, .int), (cR, .int)] s := hK
  refine va_putF (D := (dC, dI)) (ci := 2) (v := .ref tr) (ty := .array .int) (C := RX2) (T := TX2) (N := 5) hx hb hts hiX2 tyX2 tyX2_ok nmX2 hown hK hP hD hS 0 rfl rfl 1 (by decide) f15 (fun _ h9 => h9) rfl hin rfl (by decide +kernel) rfl rfl (Nat.le_of_ble_eq_true rfl) dX2_init_17 (fun H locs hP hD hS => ?_)
  have hP : va_P (dC, dI) ksCl [(ta, .inr (2, [.ref tb, .ref tr, .int 0, .int 0, .int 0])), (tb, .inl (cB, 16, .inl (fun _ => 0))), (tr, .inl (cR, 16, .inl (fun _ => 0)))] H := hP
  have hD : va_D A [(ta, .inr (2, [.ref tb, .ref tr, .int 0, .int 0, .int 0])), (tb, .inl (cB, 16, .inl (fun _ => 0))), (tr, .inl (cR, 16, .inl (fun _ => 0)))] := hD
  have hP9 : va_P (dC, dI) ksCl [(ta, .inr (2, [.ref tb, .ref tr, .int 0, .int 0, .int 0])), (tb, .inl (cB, 16, .inl (fun _ => 0))), (tr, .inl (cR, 16, .inl (fun _ => 0)))] _ := hP
  have hD9 : va_D A [(ta, .inr (2, [.ref tb, .ref tr, .int 0, .int 0, .int 0])), (tb, .inl (cB, 16, .inl (fun _ => 0))), (tr, .inl (cR, 16, .inl (fun _ => 0)))] := hD
  have hK9 : va_K (dC, dI) ksCl [(cB, .int), (cR, .int)] s := hK
  refine W.widen (k := 2) (n := 32) (by omega) (by omega) ?_
  exact W.vret hx hb hr (fun t ht hW9 => ⟨⟨(tb, tr, cB, cR), rfl, trivial, by rw [ht]; exact hP9, va_K.moved hW9.alike hK9, hD9⟩, hS.F ht⟩) hS.2.2 dX2_init_20
