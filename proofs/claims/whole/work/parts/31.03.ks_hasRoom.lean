set_option maxHeartbeats 4000000 in
set_option maxRecDepth 100000 in
/-- hasRoomForLesson -/
theorem ks_hasRoom (l : Launch) (dC : Nat → ClassId) (dI : Nat → Nat → Nat) (ra rp rq : Nat) (cP cM : ClassId) (P M : Nat → Int32) (g nr : Nat) (hgn : g ≤ nr) (hn : nr ≤ 664) : ks_Mi l yX0_hasRoomForLesson wsX0_hasRoomForLesson ({ frames := 0, cells := 0, slots := 0, locals := 0 }) (dC, dI) [.ref ra] [(ra, .inr (0, [.ref rp, .ref rq, .int (nI g), .int (nI nr)])), (rp, .inl (cP, 664, .inl P)), (rq, .inl (cM, 664, .inl M))] [(cP, .int), (cM, .int)] 0 0 (S := Unit) (fun r _ => (r = 1 ∧ nr < g + 64 ∧ nr < 664) ∨ (r = 0 ∧ ¬ (nr < g + 64 ∧ nr < 664))) (fun _ => [(ra, .inr (0, [.ref rp, .ref rq, .int (nI g), .int (nI nr)])), (rp, .inl (cP, 664, .inl P)), (rq, .inl (cM, 664, .inl M))]) (fun _ => [(cP, .int), (cM, .int)]) := by
  intro sz
  refine Met.ofW (cc := cX0_hasRoomForLesson) (maxL := 1) (ret := (some .boolean)) (by decide) rfl ?_
  intro p e s m args below meth c s₁ B9 hml hv
  obtain ⟨rfl, hsz, hP, hK, hD0, hNW⟩ := hv
  have hx := B9.exec
  have hb := B9.bytes
  have hr := B9.returns
  have hts := atoms_spec (ws := wsX0_hasRoomForLesson) B9.pre
  have hown : s.vm.findClass RX0 = some m.cls := findClass_of_methodNamed B9.named
  have hlocks := B9.notSynchronized
  subst hsz
  have hD := hD0.self (sz := s.heap.size)
  generalize hAe : va_A [(ra, .inr (0, [.ref rp, .ref rq, .int (nI g), .int (nI nr)])), (rp, .inl (cP, 664, .inl P)), (rq, .inl (cM, 664, .inl M))] s.heap.size = A at hD ⊢
  have hA : ∀ q : Nat, s.heap.size ≤ q → A q := fun q h => by rw [← hAe]; exact Or.inr h
  have hS : va_S A s.heap s.heap [] := va_S.rf
  have hiX0 : ∀ w ∈ u_ws RX0 TX0 4, w ∈ wsX0_hasRoomForLesson := by decide +kernel
  have f9 := hts (.fieldLink RX0 9 "LessonSolver$ClauseRow" "plus" "[I") (by decide +kernel)
  have f18 := hts (.fieldLink RX0 18 "LessonSolver$ClauseRow" "given" "I") (by decide +kernel)
  have f22 := hts (.fieldLink RX0 22 "LessonSolver$ClauseRow" "size" "I") (by decide +kernel)
  have hl := lv_entry ([.ref ra]) (n := 1) (Nat.le_of_ble_eq_true rfl)
  rw [lg_entry_eq]
  generalize (lg_sl ([.ref ra]) ++ List.replicate (1 - (lg_sl ([.ref ra])).length) Slot.unset).toArray = ls at hl ⊢
  have hl : lv_has ls 1 [(0, .ref ra)] := hl
  refine lv_aload_n hx hb dX0_hasRoomForLesson_0 rfl (lv_at hl 0 rfl) ?_
  refine va_get (D := (dC, dI)) (ci := 0) (v := .int (nI nr)) (C := RX0) (T := TX0) (N := 4) hx hb hts hiX0 hown hK hP 0 rfl rfl 3 (by decide) f22 (fun _ h9 => h9) rfl dX0_hasRoomForLesson_1 ?_
  refine lv_aload_n hx hb dX0_hasRoomForLesson_4 rfl (lv_at hl 0 rfl) ?_
  refine va_get (D := (dC, dI)) (ci := 0) (v := .int (nI g)) (C := RX0) (T := TX0) (N := 4) hx hb hts hiX0 hown hK hP 0 rfl rfl 2 (by decide) f18 (fun _ h9 => h9) rfl dX0_hasRoomForLesson_5 ?_
  refine lv_isub hx hb dX0_hasRoomForLesson_8 ?_
  refine ks_top (y := nI (nr - g)) (pk_sub hgn) ?_
  refine lv_bipush (v := nI 64) hx hb dX0_hasRoomForLesson_9 (by decide) ?_
  refine lv_icmp_ge (tgt := 30) hx hb dX0_hasRoomForLesson_11 (by decide) (fun c11 => ?_) (fun c11 => ?_)
  · -- 11: jumps
    have h1 : 64 ≤ nr - g := by
      rcases Nat.lt_or_ge (nr - g) 64 with q | q
      · exact absurd c11 (nI_ge q (by omega))
      · exact q
    have hz : (0 : Int32) = 0 ∧ ¬ (nr < g + 64 ∧ nr < 664) := ⟨rfl, by omega⟩
    refine lv_iconst (v := 0) hx hb dX0_hasRoomForLesson_30 (by decide) ?_
    have hP9 : va_P (dC, dI) ksCl [(ra, .inr (0, [.ref rp, .ref rq, .int (nI g), .int (nI nr)])), (rp, .inl (cP, 664, .inl P)), (rq, .inl (cM, 664, .inl M))] _ := hP
    have hD9 : va_D A [(ra, .inr (0, [.ref rp, .ref rq, .int (nI g), .int (nI nr)])), (rp, .inl (cP, 664, .inl P)), (rq, .inl (cM, 664, .inl M))] := hD
    have hK9 : va_K (dC, dI) ksCl [(cP, .int), (cM, .int)] s := hK
    exact W.zret (v := 0) (ty := .boolean) hx hb hr (by decide) (fun t ht hW9 => ⟨⟨0, (), rfl, Or.inr hz, by rw [ht]; exact hP9, va_K.moved hW9.alike hK9, hD9⟩, hS.F ht⟩) hS.2.2 dX0_hasRoomForLesson_31
  · -- 11: goes on
    have h1 : nr - g < 64 := by
      rcases Nat.lt_or_ge (nr - g) 64 with q | q
      · exact q
      · exact absurd (nI_le q (by omega)) c11
    refine lv_aload_n hx hb dX0_hasRoomForLesson_14 rfl (lv_at hl 0 rfl) ?_
    refine va_get (D := (dC, dI)) (ci := 0) (v := .int (nI nr)) (C := RX0) (T := TX0) (N := 4) hx hb hts hiX0 hown hK hP 0 rfl rfl 3 (by decide) f22 (fun _ h9 => h9) rfl dX0_hasRoomForLesson_15 ?_
    refine lv_aload_n hx hb dX0_hasRoomForLesson_18 rfl (lv_at hl 0 rfl) ?_
    refine va_get (D := (dC, dI)) (ci := 0) (v := .ref rp) (C := RX0) (T := TX0) (N := 4) hx hb hts hiX0 hown hK hP 0 rfl rfl 0 (by decide) f9 (fun _ h9 => h9) rfl dX0_hasRoomForLesson_19 ?_
    refine va_alen (v := nI 664) hx hb hK hP 1 0 rfl rfl rfl dX0_hasRoomForLesson_22 ?_
    refine lv_icmp_ge (tgt := 30) hx hb dX0_hasRoomForLesson_23 (by decide) (fun c23 => ?_) (fun c23 => ?_)
    · -- 23: jumps
      have h2 : 664 ≤ nr := by
        rcases Nat.lt_or_ge nr 664 with q | q
        · exact absurd c23 (nI_ge q (by omega))
        · exact q
      have hz : (0 : Int32) = 0 ∧ ¬ (nr < g + 64 ∧ nr < 664) := ⟨rfl, by omega⟩
      refine lv_iconst (v := 0) hx hb dX0_hasRoomForLesson_30 (by decide) ?_
      have hP9 : va_P (dC, dI) ksCl [(ra, .inr (0, [.ref rp, .ref rq, .int (nI g), .int (nI nr)])), (rp, .inl (cP, 664, .inl P)), (rq, .inl (cM, 664, .inl M))] _ := hP
      have hD9 : va_D A [(ra, .inr (0, [.ref rp, .ref rq, .int (nI g), .int (nI nr)])), (rp, .inl (cP, 664, .inl P)), (rq, .inl (cM, 664, .inl M))] := hD
      have hK9 : va_K (dC, dI) ksCl [(cP, .int), (cM, .int)] s := hK
      exact W.zret (v := 0) (ty := .boolean) hx hb hr (by decide) (fun t ht hW9 => ⟨⟨0, (), rfl, Or.inr hz, by rw [ht]; exact hP9, va_K.moved hW9.alike hK9, hD9⟩, hS.F ht⟩) hS.2.2 dX0_hasRoomForLesson_31
    · -- 23: goes on
      have h2 : nr < 664 := by
        rcases Nat.lt_or_ge nr 664 with q | q
        · exact q
        · exact absurd (nI_le q (by omega)) c23
      refine lv_iconst (v := 1) hx hb dX0_hasRoomForLesson_26 (by decide) ?_
      refine lv_goto (tgt := 31) hx hb dX0_hasRoomForLesson_27 (by decide) ?_
      have hP9 : va_P (dC, dI) ksCl [(ra, .inr (0, [.ref rp, .ref rq, .int (nI g), .int (nI nr)])), (rp, .inl (cP, 664, .inl P)), (rq, .inl (cM, 664, .inl M))] _ := hP
      have hD9 : va_D A [(ra, .inr (0, [.ref rp, .ref rq, .int (nI g), .int (nI nr)])), (rp, .inl (cP, 664, .inl P)), (rq, .inl (cM, 664, .inl M))] := hD
      have hK9 : va_K (dC, dI) ksCl [(cP, .int), (cM, .int)] s := hK
      exact W.zret (v := 1) (ty := .boolean) hx hb hr (by decide) (fun t ht hW9 => ⟨⟨1, (), rfl, Or.inl ⟨rfl, by omega, by omega⟩, by rw [ht]; exact hP9, va_K.moved hW9.alike hK9, hD9⟩, hS.F ht⟩) hS.2.2 dX0_hasRoomForLesson_31
