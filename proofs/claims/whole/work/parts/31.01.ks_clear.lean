set_option maxHeartbeats 4000000 in
set_option maxRecDepth 100000 in
/-- clear -/
theorem ks_clear (l : Launch) (dC : Nat → ClassId) (dI : Nat → Nat → Nat) (ra rp rq : Nat) (g n : Int32) : ks_Mv l yX0_clear wsX0_clear ({ frames := 0, cells := 0, slots := 0, locals := 0 }) (dC, dI) [.ref ra] [(ra, .inr (0, [.ref rp, .ref rq, .int g, .int n]))] [] 0 0 (S := Unit) (fun _ => True) (fun _ => [(ra, .inr (0, [.ref rp, .ref rq, .int (nI 0), .int (nI 0)]))]) (fun _ => []) := by
  intro sz
  refine Met.ofW (cc := cX0_clear) (maxL := 1) (ret := none) (by decide) rfl ?_
  intro p e s m args below meth c s₁ B9 hml hv
  obtain ⟨rfl, hsz, hP, hK, hD0, hNW⟩ := hv
  have hx := B9.exec
  have hb := B9.bytes
  have hr := B9.returns
  have hts := atoms_spec (ws := wsX0_clear) B9.pre
  have hown : s.vm.findClass RX0 = some m.cls := findClass_of_methodNamed B9.named
  have hlocks := B9.notSynchronized
  subst hsz
  have hD := hD0.self (sz := s.heap.size)
  generalize hAe : va_A [(ra, .inr (0, [.ref rp, .ref rq, .int g, .int n]))] s.heap.size = A at hD ⊢
  have hA : ∀ q : Nat, s.heap.size ≤ q → A q := fun q h => by rw [← hAe]; exact Or.inr h
  have hS : va_S A s.heap s.heap [] := va_S.rf
  have hiX0 : ∀ w ∈ u_ws RX0 TX0 4, w ∈ wsX0_clear := by decide +kernel
  have f18 := hts (.fieldLink RX0 18 "LessonSolver$ClauseRow" "given" "I") (by decide +kernel)
  have f22 := hts (.fieldLink RX0 22 "LessonSolver$ClauseRow" "size" "I") (by decide +kernel)
  have hl := lv_entry ([.ref ra]) (n := 1) (Nat.le_of_ble_eq_true rfl)
  rw [lg_entry_eq]
  generalize (lg_sl ([.ref ra]) ++ List.replicate (1 - (lg_sl ([.ref ra])).length) Slot.unset).toArray = ls at hl ⊢
  have hl : lv_has ls 1 [(0, .ref ra)] := hl
  refine lv_aload_n hx hb dX0_clear_0 rfl (lv_at hl 0 rfl) ?_
  refine lv_iconst (v := nI 0) hx hb dX0_clear_1 (by decide) ?_
  refine va_put (D := (dC, dI)) (ci := 0) (v := .int (nI 0)) (ty := .int) (C := RX0) (T := TX0) (N := 4) hx hb hts hiX0 tyX0 tyX0_ok nmX0 hown hK hP hD hS 0 rfl rfl 2 (by decide) f18 (fun _ h9 => h9) rfl (by decide +kernel) rfl rfl (Nat.le_of_ble_eq_true rfl) dX0_clear_2 (fun H locs hP hD hS => ?_)
  have hP : va_P (dC, dI) ksCl [(ra, .inr (0, [.ref rp, .ref rq, .int (nI 0), .int n]))] H := hP
  have hD : va_D A [(ra, .inr (0, [.ref rp, .ref rq, .int (nI 0), .int n]))] := hD
  refine lv_aload_n hx hb dX0_clear_5 rfl (lv_at hl 0 rfl) ?_
  refine lv_iconst (v := nI 0) hx hb dX0_clear_6 (by decide) ?_
  refine va_put (D := (dC, dI)) (ci := 0) (v := .int (nI 0)) (ty := .int) (C := RX0) (T := TX0) (N := 4) hx hb hts hiX0 tyX0 tyX0_ok nmX0 hown hK hP hD hS 0 rfl rfl 3 (by decide) f22 (fun _ h9 => h9) rfl (by decide +kernel) rfl rfl (Nat.le_of_ble_eq_true rfl) dX0_clear_7 (fun H locs hP hD hS => ?_)
  have hP : va_P (dC, dI) ksCl [(ra, .inr (0, [.ref rp, .ref rq, .int (nI 0), .int (nI 0)]))] H := hP
  have hD : va_D A [(ra, .inr (0, [.ref rp, .ref rq, .int (nI 0), .int (nI 0)]))] := hD
  have hP9 : va_P (dC, dI) ksCl [(ra, .inr (0, [.ref rp, .ref rq, .int (nI 0), .int (nI 0)]))] _ := hP
  have hD9 : va_D A [(ra, .inr (0, [.ref rp, .ref rq, .int (nI 0), .int (nI 0)]))] := hD
  have hK9 : va_K (dC, dI) ksCl [] s := hK
  exact W.vret hx hb hr (fun t ht hW9 => ⟨⟨(), rfl, trivial, by rw [ht]; exact hP9, va_K.moved hW9.alike hK9, hD9⟩, hS.F ht⟩) hS.2.2 dX0_clear_10
