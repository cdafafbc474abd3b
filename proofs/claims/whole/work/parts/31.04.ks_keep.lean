set_option maxHeartbeats 4000000 in
set_option maxRecDepth 100000 in
/-- keepLesson -/
theorem ks_keep (l : Launch) (dC : Nat → ClassId) (dI : Nat → Nat → Nat) (ra rp rq : Nat) (cP cM : ClassId) (P M : Nat → Int32) (g nr : Nat) (p0 m0 : Int32) (hgn : g ≤ nr) (hn1 : nr < g + 64) (hn : nr < 664) : ks_Mv l yX0_keepLesson wsX0_keepLesson ({ frames := 1, cells := 0, slots := 0, locals := 20 }) (dC, dI) [.ref ra, .int p0, .int m0] [(ra, .inr (0, [.ref rp, .ref rq, .int (nI g), .int (nI nr)])), (rp, .inl (cP, 664, .inl P)), (rq, .inl (cM, 664, .inl M))] [(cP, .int), (cM, .int)] 0 0 (S := Unit) (fun _ => True) (fun _ => [(ra, .inr (0, [.ref rp, .ref rq, .int (nI g), .int (nI (nr + 1))])), (rp, .inl (cP, 664, .inl (upd P nr p0))), (rq, .inl (cM, 664, .inl (upd M nr m0)))]) (fun _ => [(cP, .int), (cM, .int)]) := by
  intro sz
  refine Met.ofW (cc := cX0_keepLesson) (maxL := 3) (ret := none) (by decide) rfl ?_
  intro p e s m args below meth c s₁ B9 hml hv
  obtain ⟨rfl, hsz, hP, hK, hD0, hNW⟩ := hv
  have hx := B9.exec
  have hb := B9.bytes
  have hr := B9.returns
  have hts := atoms_spec (ws := wsX0_keepLesson) B9.pre
  have hown : s.vm.findClass RX0 = some m.cls := findClass_of_methodNamed B9.named
  have hlocks := B9.notSynchronized
  subst hsz
  have hD := hD0.self (sz := s.heap.size)
  generalize hAe : va_A [(ra, .inr (0, [.ref rp, .ref rq, .int (nI g), .int (nI nr)])), (rp, .inl (cP, 664, .inl P)), (rq, .inl (cM, 664, .inl M))] s.heap.size = A at hD ⊢
  have hA : ∀ q : Nat, s.heap.size ≤ q → A q := fun q h => by rw [← hAe]; exact Or.inr h
  have hS : va_S A s.heap s.heap [] := va_S.rf
  have hiX0 : ∀ w ∈ u_ws RX0 TX0 4, w ∈ wsX0_keepLesson := by decide +kernel
  have f9 := hts (.fieldLink RX0 9 "LessonSolver$ClauseRow" "plus" "[I") (by decide +kernel)
  have f15 := hts (.fieldLink RX0 15 "LessonSolver$ClauseRow" "minus" "[I") (by decide +kernel)
  have f22 := hts (.fieldLink RX0 22 "LessonSolver$ClauseRow" "size" "I") (by decide +kernel)
  have hl := lv_entry ([.ref ra, .int p0, .int m0]) (n := 3) (Nat.le_of_ble_eq_true rfl)
  rw [lg_entry_eq]
  generalize (lg_sl ([.ref ra, .int p0, .int m0]) ++ List.replicate (3 - (lg_sl ([.ref ra, .int p0, .int m0])).length) Slot.unset).toArray = ls at hl ⊢
  have hl : lv_has ls 3 [(0, .ref ra), (1, .int p0), (2, .int m0)] := hl
  refine lv_aload_n hx hb dX0_keepLesson_0 rfl (lv_at hl 0 rfl) ?_
  refine ks_calliV (As := []) (rest := []) (wr := []) (wz := fun _ => [(ra, .inr (0, [.ref rp, .ref rq, .int (nI g), .int (nI nr)])), (rp, .inl (cP, 664, .inl P)), (rq, .inl (cM, 664, .inl M))]) ⟨hx, hb, hml, hown, hts⟩ (ks_hasRoom l dC dI ra rp rq cP cM P M g nr hgn (by omega)) (cwV 0 hts gX0_keepLesson_X0_hasRoomForLesson rfl rfl rfl (by decide +kernel) ⟨Nat.le_of_ble_eq_true rfl, Nat.le_of_ble_eq_true rfl⟩) hK hP hD hS hA hNW [0, 1, 2] [] [0, 1] [0, 1, 2] rfl rfl rfl rfl (by decide) (by decide) (by decide) (ci := 0) (q0 := 0) rfl rfl rfl (fun _ => rfl) (fun _ => rfl) (by decide) rfl hl.1 rfl (Nat.le_of_ble_eq_true rfl) dX0_keepLesson_1 ⟨Nat.le_of_ble_eq_true rfl, Nat.le_of_ble_eq_true rfl⟩ (fun r1 u9 H locs hw9 hK9 hP hD hS => ?_)
  have er : r1 = 1 := by
    rcases hw9 with q | q
    · exact q.1
    · exact absurd ⟨hn1, hn⟩ q.2
  have hP : va_P (dC, dI) ksCl [(ra, .inr (0, [.ref rp, .ref rq, .int (nI g), .int (nI nr)])), (rp, .inl (cP, 664, .inl P)), (rq, .inl (cM, 664, .inl M))] H := hP
  have hD : va_D A [(ra, .inr (0, [.ref rp, .ref rq, .int (nI g), .int (nI nr)])), (rp, .inl (cP, 664, .inl P)), (rq, .inl (cM, 664, .inl M))] := hD
  refine lv_if_eq (tgt := 37) hx hb dX0_keepLesson_4 (by decide) (fun c4 => absurd (er.symm.trans c4) (by decide)) (fun c4 => ?_)
  refine lv_aload_n hx hb dX0_keepLesson_7 rfl (lv_at hl 0 rfl) ?_
  refine va_get (D := (dC, dI)) (ci := 0) (v := .ref rp) (C := RX0) (T := TX0) (N := 4) hx hb hts hiX0 hown hK hP 0 rfl rfl 0 (by decide) f9 (fun _ h9 => h9) rfl dX0_keepLesson_8 ?_
  refine lv_aload_n hx hb dX0_keepLesson_11 rfl (lv_at hl 0 rfl) ?_
  refine va_get (D := (dC, dI)) (ci := 0) (v := .int (nI nr)) (C := RX0) (T := TX0) (N := 4) hx hb hts hiX0 hown hK hP 0 rfl rfl 3 (by decide) f22 (fun _ h9 => h9) rfl dX0_keepLesson_12 ?_
  refine lv_iload_n hx hb dX0_keepLesson_15 rfl (lv_at hl 1 rfl) ?_
  refine ks_ast hx hb hK hP hD hS 1 0 rfl rfl (j := nr) (by omega) (by decide) dX0_keepLesson_16 (fun H locs hP hD hS => ?_)
  have hP : va_P (dC, dI) ksCl [(ra, .inr (0, [.ref rp, .ref rq, .int (nI g), .int (nI nr)])), (rp, .inl (cP, 664, .inl (upd P nr p0))), (rq, .inl (cM, 664, .inl M))] H := hP
  have hD : va_D A [(ra, .inr (0, [.ref rp, .ref rq, .int (nI g), .int (nI nr)])), (rp, .inl (cP, 664, .inl (upd P nr p0))), (rq, .inl (cM, 664, .inl M))] := hD
  refine lv_aload_n hx hb dX0_keepLesson_17 rfl (lv_at hl 0 rfl) ?_
  refine va_get (D := (dC, dI)) (ci := 0) (v := .ref rq) (C := RX0) (T := TX0) (N := 4) hx hb hts hiX0 hown hK hP 0 rfl rfl 1 (by decide) f15 (fun _ h9 => h9) rfl dX0_keepLesson_18 ?_
  refine lv_aload_n hx hb dX0_keepLesson_21 rfl (lv_at hl 0 rfl) ?_
  refine va_get (D := (dC, dI)) (ci := 0) (v := .int (nI nr)) (C := RX0) (T := TX0) (N := 4) hx hb hts hiX0 hown hK hP 0 rfl rfl 3 (by decide) f22 (fun _ h9 => h9) rfl dX0_keepLesson_22 ?_
  refine lv_iload_n hx hb dX0_keepLesson_25 rfl (lv_at hl 2 rfl) ?_
  refine ks_ast hx hb hK hP hD hS 2 1 rfl rfl (j := nr) (by omega) (by decide) dX0_keepLesson_26 (fun H locs hP hD hS => ?_)
  have hP : va_P (dC, dI) ksCl [(ra, .inr (0, [.ref rp, .ref rq, .int (nI g), .int (nI nr)])), (rp, .inl (cP, 664, .inl (upd P nr p0))), (rq, .inl (cM, 664, .inl (upd M nr m0)))] H := hP
  have hD : va_D A [(ra, .inr (0, [.ref rp, .ref rq, .int (nI g), .int (nI nr)])), (rp, .inl (cP, 664, .inl (upd P nr p0))), (rq, .inl (cM, 664, .inl (upd M nr m0)))] := hD
  refine lv_aload_n hx hb dX0_keepLesson_27 rfl (lv_at hl 0 rfl) ?_
  refine lv_dup hx hb dX0_keepLesson_28 rfl ?_
  refine va_get (D := (dC, dI)) (ci := 0) (v := .int (nI nr)) (C := RX0) (T := TX0) (N := 4) hx hb hts hiX0 hown hK hP 0 rfl rfl 3 (by decide) f22 (fun _ h9 => h9) rfl dX0_keepLesson_29 ?_
  refine lv_iconst (v := 1) hx hb dX0_keepLesson_32 (by decide) ?_
  refine lv_iadd hx hb dX0_keepLesson_33 ?_
  refine ks_top (y := nI (nr + 1)) (nI_1 nr) ?_
  refine va_put (D := (dC, dI)) (ci := 0) (v := .int (nI (nr + 1))) (ty := .int) (C := RX0) (T := TX0) (N := 4) hx hb hts hiX0 tyX0 tyX0_ok nmX0 hown hK hP hD hS 0 rfl rfl 3 (by decide) f22 (fun _ h9 => h9) rfl (by decide +kernel) rfl rfl (Nat.le_of_ble_eq_true rfl) dX0_keepLesson_34 (fun H locs hP hD hS => ?_)
  have hP : va_P (dC, dI) ksCl [(ra, .inr (0, [.ref rp, .ref rq, .int (nI g), .int (nI (nr + 1))])), (rp, .inl (cP, 664, .inl (upd P nr p0))), (rq, .inl (cM, 664, .inl (upd M nr m0)))] H := hP
  have hD : va_D A [(ra, .inr (0, [.ref rp, .ref rq, .int (nI g), .int (nI (nr + 1))])), (rp, .inl (cP, 664, .inl (upd P nr p0))), (rq, .inl (cM, 664, .inl (upd M nr m0)))] := hD
  have hP9 : va_P (dC, dI) ksCl [(ra, .inr (0, [.ref rp, .ref rq, .int (nI g), .int (nI (nr + 1))])), (rp, .inl (cP, 664, .inl (upd P nr p0))), (rq, .inl (cM, 664, .inl (upd M nr m0)))] _ := hP
  have hD9 : va_D A [(ra, .inr (0, [.ref rp, .ref rq, .int (nI g), .int (nI (nr + 1))])), (rp, .inl (cP, 664, .inl (upd P nr p0))), (rq, .inl (cM, 664, .inl (upd M nr m0)))] := hD
  have hK9 : va_K (dC, dI) ksCl [(cP, .int), (cM, .int)] s := hK
  exact W.vret hx hb hr (fun t ht hW9 => ⟨⟨(), rfl, trivial, by rw [ht]; exact hP9, va_K.moved hW9.alike hK9, hD9⟩, hS.F ht⟩) hS.2.2 dX0_keepLesson_37
