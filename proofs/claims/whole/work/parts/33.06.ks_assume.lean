set_option maxHeartbeats 4000000 in
set_option maxRecDepth 100000 in
/-- assume -/
theorem ks_assume (l : Launch) (dC : Nat → ClassId) (dI : Nat → Nat → Nat) (xa ra sa aa : Nat) (cA : ClassId) (N : Nat) (kc kl mp mm km : Int32) (AS : Nat → Int32) (ac : Nat) (x0 : Int32) (hN : N ≤ 16) (hac : ac ≤ 40) : ks_Mi l yX3_assume wsX3_assume ({ frames := 1, cells := 0, slots := 0, locals := 21 }) (dC, dI) [.ref xa, .int x0] [(xa, .inr (3, [.int (nI N), .ref ra, .ref sa, .ref aa, .int (nI ac), .int kc, .int kl, .int mp, .int mm, .int km])), (aa, .inl (cA, 40, .inl AS))] [(cA, .int)] 0 0 (S := (Nat → Int32) × Nat) (fun r u => (r = -1 ∧ ((¬ ∃ v, ks_lit N x0 v) ∨ 40 ≤ ac) ∧ u = (AS, ac)) ∨ (r = nI (ac + 1) ∧ ac < 40 ∧ (∃ v, ks_lit N x0 v) ∧ u = (upd AS ac x0, ac + 1))) (fun u => [(xa, .inr (3, [.int (nI N), .ref ra, .ref sa, .ref aa, .int (nI u.2), .int kc, .int kl, .int mp, .int mm, .int km])), (aa, .inl (cA, 40, .inl u.1))]) (fun u => [(cA, .int)]) := by
  intro sz
  refine Met.ofW (cc := cX3_assume) (maxL := 2) (ret := (some .int)) (by decide) rfl ?_
  intro p e s m args below meth c s₁ B9 hml hv
  obtain ⟨rfl, hsz, hP, hK, hD0, hNW⟩ := hv
  have hx := B9.exec
  have hb := B9.bytes
  have hr := B9.returns
  have hts := atoms_spec (ws := wsX3_assume) B9.pre
  have hown : s.vm.findClass RX3 = some m.cls := findClass_of_methodNamed B9.named
  have hlocks := B9.notSynchronized
  subst hsz
  have hD := hD0.self (sz := s.heap.size)
  generalize hAe : va_A [(xa, .inr (3, [.int (nI N), .ref ra, .ref sa, .ref aa, .int (nI ac), .int kc, .int kl, .int mp, .int mm, .int km])), (aa, .inl (cA, 40, .inl AS))] s.heap.size = A at hD ⊢
  have hA : ∀ q : Nat, s.heap.size ≤ q → A q := fun q h => by rw [← hAe]; exact Or.inr h
  have hS : va_S A s.heap s.heap [] := va_S.rf
  have hiX3 : ∀ w ∈ u_ws RX3 TX3 10, w ∈ wsX3_assume := by decide +kernel
  have f38 := hts (.fieldLink RX3 38 "LessonSolver" "assumptions" "[I") (by decide +kernel)
  have f71 := hts (.fieldLink RX3 71 "LessonSolver" "assumptionCount" "I") (by decide +kernel)
  have hl := lv_entry ([.ref xa, .int x0]) (n := 2) (Nat.le_of_ble_eq_true rfl)
  rw [lg_entry_eq]
  generalize (lg_sl ([.ref xa, .int x0]) ++ List.replicate (2 - (lg_sl ([.ref xa, .int x0])).length) Slot.unset).toArray = ls at hl ⊢
  have hl : lv_has ls 2 [(0, .ref xa), (1, .int x0)] := hl
  refine lv_aload_n hx hb dX3_assume_0 rfl (lv_at hl 0 rfl) ?_
  refine lv_iload_n hx hb dX3_assume_1 rfl (lv_at hl 1 rfl) ?_
  refine ks_calliV (As := [.int x0]) (rest := []) (wr := [(aa, .inl (cA, 40, .inl AS))]) (wz := fun _ => [(xa, .inr (3, [.int (nI N), .ref ra, .ref sa, .ref aa, .int (nI ac), .int kc, .int kl, .int mp, .int mm, .int km])), (aa, .inl (cA, 40, .inl AS))]) ⟨hx, hb, hml, hown, hts⟩ (ks_isLiteral l dC dI xa ra sa aa N (nI ac) kc kl mp mm km x0 hN) (cwV 1 hts gX3_assume_X3_isLiteral rfl rfl rfl (by decide +kernel) ⟨Nat.le_of_ble_eq_true rfl, Nat.le_of_ble_eq_true rfl⟩) hK hP hD hS hA hNW [0] [1] [] [1, 0] rfl rfl rfl rfl (by decide) (by decide) (by decide) (ci := 3) (q0 := 0) rfl rfl rfl (fun _ => rfl) (fun _ => rfl) (by decide) rfl hl.1 rfl (Nat.le_of_ble_eq_true rfl) dX3_assume_2 ⟨Nat.le_of_ble_eq_true rfl, Nat.le_of_ble_eq_true rfl⟩ (fun r1 u9 H locs hw9 hK9 hP hD hS => ?_)
  have hw1 := hw9
  have hP : va_P (dC, dI) ksCl [(xa, .inr (3, [.int (nI N), .ref ra, .ref sa, .ref aa, .int (nI ac), .int kc, .int kl, .int mp, .int mm, .int km])), (aa, .inl (cA, 40, .inl AS))] H := hP
  have hD : va_D A [(xa, .inr (3, [.int (nI N), .ref ra, .ref sa, .ref aa, .int (nI ac), .int kc, .int kl, .int mp, .int mm, .int km])), (aa, .inl (cA, 40, .inl AS))] := hD
  refine lv_if_eq (tgt := 17) hx hb dX3_assume_5 (by decide) (fun c5 => ?_) (fun c5 => ?_)
  · -- 5: jumps
    have hno : (¬ ∃ v, ks_lit N x0 v) ∨ 40 ≤ ac := Or.inl (by
      rcases hw1 with q | q
      · exact absurd (q.1.symm.trans c5) (by decide)
      · exact q.2)
    refine lv_iconst (v := -1) hx hb dX3_assume_17 (by decide) ?_
    have hP9 : va_P (dC, dI) ksCl [(xa, .inr (3, [.int (nI N), .ref ra, .ref sa, .ref aa, .int (nI ac), .int kc, .int kl, .int mp, .int mm, .int km])), (aa, .inl (cA, 40, .inl AS))] _ := hP
    have hD9 : va_D A [(xa, .inr (3, [.int (nI N), .ref ra, .ref sa, .ref aa, .int (nI ac), .int kc, .int kl, .int mp, .int mm, .int km])), (aa, .inl (cA, 40, .inl AS))] := hD
    have hK9 : va_K (dC, dI) ksCl [(cA, .int)] s := hK
    exact W.iret (v := -1) hx hb hr (fun t ht hW9 => ⟨⟨-1, (AS, ac), rfl, Or.inl ⟨rfl, hno, rfl⟩, by rw [ht]; exact hP9, va_K.moved hW9.alike hK9, hD9⟩, hS.F ht⟩) hS.2.2 dX3_assume_18
  · -- 5: goes on
    refine lv_aload_n hx hb dX3_assume_8 rfl (lv_at hl 0 rfl) ?_
    refine va_get (D := (dC, dI)) (ci := 3) (v := .int (nI ac)) (C := RX3) (T := TX3) (N := 10) hx hb hts hiX3 hown hK hP 0 rfl rfl 4 (by decide) f71 (fun _ h9 => h9) rfl dX3_assume_9 ?_
    refine lv_bipush (v := nI 40) hx hb dX3_assume_12 (by decide) ?_
    refine lv_icmp_lt (tgt := 19) hx hb dX3_assume_14 (by decide) (fun c14 => ?_) (fun c14 => ?_)
    · -- 14: jumps
      have h40 : ac < 40 := (nI_ltI (by omega) (by decide)).mp c14
      have hv : ∃ v, ks_lit N x0 v := by
        rcases hw1 with q | q
        · exact q.2
        · exact absurd q.1 c5
      refine lv_aload_n hx hb dX3_assume_19 rfl (lv_at hl 0 rfl) ?_
      refine va_get (D := (dC, dI)) (ci := 3) (v := .ref aa) (C := RX3) (T := TX3) (N := 10) hx hb hts hiX3 hown hK hP 0 rfl rfl 3 (by decide) f38 (fun _ h9 => h9) rfl dX3_assume_20 ?_
      refine lv_aload_n hx hb dX3_assume_23 rfl (lv_at hl 0 rfl) ?_
      refine va_get (D := (dC, dI)) (ci := 3) (v := .int (nI ac)) (C := RX3) (T := TX3) (N := 10) hx hb hts hiX3 hown hK hP 0 rfl rfl 4 (by decide) f71 (fun _ h9 => h9) rfl dX3_assume_24 ?_
      refine lv_iload_n hx hb dX3_assume_27 rfl (lv_at hl 1 rfl) ?_
      refine ks_ast hx hb hK hP hD hS 1 0 rfl rfl (j := ac) (by omega) (by decide) dX3_assume_28 (fun H locs hP hD hS => ?_)
      have hP : va_P (dC, dI) ksCl [(xa, .inr (3, [.int (nI N), .ref ra, .ref sa, .ref aa, .int (nI ac), .int kc, .int kl, .int mp, .int mm, .int km])), (aa, .inl (cA, 40, .inl (upd AS ac x0)))] H := hP
      have hD : va_D A [(xa, .inr (3, [.int (nI N), .ref ra, .ref sa, .ref aa, .int (nI ac), .int kc, .int kl, .int mp, .int mm, .int km])), (aa, .inl (cA, 40, .inl (upd AS ac x0)))] := hD
      refine lv_aload_n hx hb dX3_assume_29 rfl (lv_at hl 0 rfl) ?_
      refine lv_dup hx hb dX3_assume_30 rfl ?_
      refine va_get (D := (dC, dI)) (ci := 3) (v := .int (nI ac)) (C := RX3) (T := TX3) (N := 10) hx hb hts hiX3 hown hK hP 0 rfl rfl 4 (by decide) f71 (fun _ h9 => h9) rfl dX3_assume_31 ?_
      refine lv_iconst (v := 1) hx hb dX3_assume_34 (by decide) ?_
      refine lv_iadd hx hb dX3_assume_35 ?_
      refine ks_top (y := nI (ac + 1)) (nI_1 ac) ?_
      refine va_put (D := (dC, dI)) (ci := 3) (v := .int (nI (ac + 1))) (ty := .int) (C := RX3) (T := TX3) (N := 10) hx hb hts hiX3 tyX3 tyX3_ok nmX3 hown hK hP hD hS 0 rfl rfl 4 (by decide) f71 (fun _ h9 => h9) rfl (by decide +kernel) rfl rfl (Nat.le_of_ble_eq_true rfl) dX3_assume_36 (fun H locs hP hD hS => ?_)
      have hP : va_P (dC, dI) ksCl [(xa, .inr (3, [.int (nI N), .ref ra, .ref sa, .ref aa, .int (nI (ac + 1)), .int kc, .int kl, .int mp, .int mm, .int km])), (aa, .inl (cA, 40, .inl (upd AS ac x0)))] H := hP
      have hD : va_D A [(xa, .inr (3, [.int (nI N), .ref ra, .ref sa, .ref aa, .int (nI (ac + 1)), .int kc, .int kl, .int mp, .int mm, .int km])), (aa, .inl (cA, 40, .inl (upd AS ac x0)))] := hD
      refine lv_aload_n hx hb dX3_assume_39 rfl (lv_at hl 0 rfl) ?_
      refine va_get (D := (dC, dI)) (ci := 3) (v := .int (nI (ac + 1))) (C := RX3) (T := TX3) (N := 10) hx hb hts hiX3 hown hK hP 0 rfl rfl 4 (by decide) f71 (fun _ h9 => h9) rfl dX3_assume_40 ?_
      have hP9 : va_P (dC, dI) ksCl [(xa, .inr (3, [.int (nI N), .ref ra, .ref sa, .ref aa, .int (nI (ac + 1)), .int kc, .int kl, .int mp, .int mm, .int km])), (aa, .inl (cA, 40, .inl (upd AS ac x0)))] _ := hP
      have hD9 : va_D A [(xa, .inr (3, [.int (nI N), .ref ra, .ref sa, .ref aa, .int (nI (ac + 1)), .int kc, .int kl, .int mp, .int mm, .int km])), (aa, .inl (cA, 40, .inl (upd AS ac x0)))] := hD
      have hK9 : va_K (dC, dI) ksCl [(cA, .int)] s := hK
      exact W.iret (v := nI (ac + 1)) hx hb hr (fun t ht hW9 => ⟨⟨nI (ac + 1), (upd AS ac x0, ac + 1), rfl, Or.inr ⟨rfl, h40, hv, rfl⟩, by rw [ht]; exact hP9, va_K.moved hW9.alike hK9, hD9⟩, hS.F ht⟩) hS.2.2 dX3_assume_43
    · -- 14: goes on
      have hno : (¬ ∃ v, ks_lit N x0 v) ∨ 40 ≤ ac := Or.inr (by
        rcases Nat.lt_or_ge ac 40 with q | q
        · exact absurd (nI_lt q (by decide)) c14
        · exact q)
      refine lv_iconst (v := -1) hx hb dX3_assume_17 (by decide) ?_
      have hP9 : va_P (dC, dI) ksCl [(xa, .inr (3, [.int (nI N), .ref ra, .ref sa, .ref aa, .int (nI ac), .int kc, .int kl, .int mp, .int mm, .int km])), (aa, .inl (cA, 40, .inl AS))] _ := hP
      have hD9 : va_D A [(xa, .inr (3, [.int (nI N), .ref ra, .ref sa, .ref aa, .int (nI ac), .int kc, .int kl, .int mp, .int mm, .int km])), (aa, .inl (cA, 40, .inl AS))] := hD
      have hK9 : va_K (dC, dI) ksCl [(cA, .int)] s := hK
      exact W.iret (v := -1) hx hb hr (fun t ht hW9 => ⟨⟨-1, (AS, ac), rfl, Or.inl ⟨rfl, hno, rfl⟩, by rw [ht]; exact hP9, va_K.moved hW9.alike hK9, hD9⟩, hS.F ht⟩) hS.2.2 dX3_assume_18
