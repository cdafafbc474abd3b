set_option maxHeartbeats 4000000 in
set_option maxRecDepth 100000 in
/-- forgetLessonsIfMany -/
theorem ks_forget (l : Launch) (dC : Nat → ClassId) (dI : Nat → Nat → Nat) (ra rp rq : Nat) (g nr : Nat) (hgn : g ≤ nr) : ks_Mv l yX0_forgetLessonsIfMany wsX0_forgetLessonsIfMany ({ frames := 0, cells := 0, slots := 0, locals := 0 }) (dC, dI) [.ref ra] [(ra, .inr (0, [.ref rp, .ref rq, .int (nI g), .int (nI nr)]))] [] 0 0 (S := Nat) (fun u => u = nr ∨ u = g) (fun u => [(ra, .inr (0, [.ref rp, .ref rq, .int (nI g), .int (nI u)]))]) (fun u => []) := by
  intro sz
  refine Met.ofW (cc := cX0_forgetLessonsIfMany) (maxL := 1) (ret := none) (by decide) rfl ?_
  intro p e s m args below meth c s₁ B9 hml hv
  obtain ⟨rfl, hsz, hP, hK, hD0, hNW⟩ := hv
  have hx := B9.exec
  have hb := B9.bytes
  have hr := B9.returns
  have hts := atoms_spec (ws := wsX0_forgetLessonsIfMany) B9.pre
  have hown : s.vm.findClass RX0 = some m.cls := findClass_of_methodNamed B9.named
  have hlocks := B9.notSynchronized
  subst hsz
  have hD := hD0.self (sz := s.heap.size)
  generalize hAe : va_A [(ra, .inr (0, [.ref rp, .ref rq, .int (nI g), .int (nI nr)]))] s.heap.size = A at hD ⊢
  have hA : ∀ q : Nat, s.heap.size ≤ q → A q := fun q h => by rw [← hAe]; exact Or.inr h
  have hS : va_S A s.heap s.heap [] := va_S.rf
  have hiX0 : ∀ w ∈ u_ws RX0 TX0 4, w ∈ wsX0_forgetLessonsIfMany := by decide +kernel
  have f18 := hts (.fieldLink RX0 18 "LessonSolver$ClauseRow" "given" "I") (by decide +kernel)
  have f22 := hts (.fieldLink RX0 22 "LessonSolver$ClauseRow" "size" "I") (by decide +kernel)
  have hl := lv_entry ([.ref ra]) (n := 1) (Nat.le_of_ble_eq_true rfl)
  rw [lg_entry_eq]
  generalize (lg_sl ([.ref ra]) ++ List.replicate (1 - (lg_sl ([.ref ra])).length) Slot.unset).toArray = ls at hl ⊢
  have hl : lv_has ls 1 [(0, .ref ra)] := hl
  refine lv_aload_n hx hb dX0_forgetLessonsIfMany_0 rfl (lv_at hl 0 rfl) ?_
  refine va_get (D := (dC, dI)) (ci := 0) (v := .int (nI nr)) (C := RX0) (T := TX0) (N := 4) hx hb hts hiX0 hown hK hP 0 rfl rfl 3 (by decide) f22 (fun _ h9 => h9) rfl dX0_forgetLessonsIfMany_1 ?_
  refine lv_aload_n hx hb dX0_forgetLessonsIfMany_4 rfl (lv_at hl 0 rfl) ?_
  refine va_get (D := (dC, dI)) (ci := 0) (v := .int (nI g)) (C := RX0) (T := TX0) (N := 4) hx hb hts hiX0 hown hK hP 0 rfl rfl 2 (by decide) f18 (fun _ h9 => h9) rfl dX0_forgetLessonsIfMany_5 ?_
  refine lv_isub hx hb dX0_forgetLessonsIfMany_8 ?_
  refine ks_top (y := nI (nr - g)) (pk_sub hgn) ?_
  refine lv_bipush (v := nI 32) hx hb dX0_forgetLessonsIfMany_9 (by decide) ?_
  refine lv_icmp_le (tgt := 22) hx hb dX0_forgetLessonsIfMany_11 (by decide) (fun c11 => ?_) (fun c11 => ?_)
  · -- 11: jumps
    have hP9 : va_P (dC, dI) ksCl [(ra, .inr (0, [.ref rp, .ref rq, .int (nI g), .int (nI nr)]))] _ := hP
    have hD9 : va_D A [(ra, .inr (0, [.ref rp, .ref rq, .int (nI g), .int (nI nr)]))] := hD
    have hK9 : va_K (dC, dI) ksCl [] s := hK
    exact W.vret hx hb hr (fun t ht hW9 => ⟨⟨nr, rfl, Or.inl rfl, by rw [ht]; exact hP9, va_K.moved hW9.alike hK9, hD9⟩, hS.F ht⟩) hS.2.2 dX0_forgetLessonsIfMany_22
  · -- 11: goes on
    refine lv_aload_n hx hb dX0_forgetLessonsIfMany_14 rfl (lv_at hl 0 rfl) ?_
    refine lv_aload_n hx hb dX0_forgetLessonsIfMany_15 rfl (lv_at hl 0 rfl) ?_
    refine va_get (D := (dC, dI)) (ci := 0) (v := .int (nI g)) (C := RX0) (T := TX0) (N := 4) hx hb hts hiX0 hown hK hP 0 rfl rfl 2 (by decide) f18 (fun _ h9 => h9) rfl dX0_forgetLessonsIfMany_16 ?_
    refine va_put (D := (dC, dI)) (ci := 0) (v := .int (nI g)) (ty := .int) (C := RX0) (T := TX0) (N := 4) hx hb hts hiX0 tyX0 tyX0_ok nmX0 hown hK hP hD hS 0 rfl rfl 3 (by decide) f22 (fun _ h9 => h9) rfl (by decide +kernel) rfl rfl (Nat.le_of_ble_eq_true rfl) dX0_forgetLessonsIfMany_19 (fun H locs hP hD hS => ?_)
    have hP : va_P (dC, dI) ksCl [(ra, .inr (0, [.ref rp, .ref rq, .int (nI g), .int (nI g)]))] H := hP
    have hD : va_D A [(ra, .inr (0, [.ref rp, .ref rq, .int (nI g), .int (nI g)]))] := hD
    have hP9 : va_P (dC, dI) ksCl [(ra, .inr (0, [.ref rp, .ref rq, .int (nI g), .int (nI g)]))] _ := hP
    have hD9 : va_D A [(ra, .inr (0, [.ref rp, .ref rq, .int (nI g), .int (nI g)]))] := hD
    have hK9 : va_K (dC, dI) ksCl [] s := hK
    exact W.vret hx hb hr (fun t ht hW9 => ⟨⟨g, rfl, Or.inr rfl, by rw [ht]; exact hP9, va_K.moved hW9.alike hK9, hD9⟩, hS.F ht⟩) hS.2.2 dX0_forgetLessonsIfMany_22
