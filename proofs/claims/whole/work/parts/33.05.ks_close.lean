set_option maxHeartbeats 4000000 in
set_option maxRecDepth 100000 in
/-- close -/
theorem ks_close (l : Launch) (dC : Nat → ClassId) (dI : Nat → Nat → Nat) (xa sa aa : Nat) (ra rp rq : Nat) (cP cM : ClassId) (N : Nat) (ac mp mm : Int32) (kc kl km : Nat) (P M : Nat → Int32) (g nr : Nat) (hW : ks_W N P M g nr) (hgk : g ≤ kc) (hkc : kc ≤ 600) (hkl : kl ≤ 4000) (hkm : km ≤ 20) (hmk : ks_in N mp mm) : ks_Mi l yX3_close wsX3_close ({ frames := 2, cells := 0, slots := 0, locals := 42 }) (dC, dI) [.ref xa] [(xa, .inr (3, [.int (nI N), .ref ra, .ref sa, .ref aa, .int ac, .int (nI kc), .int (nI kl), .int mp, .int mm, .int (nI km)])), (ra, .inr (0, [.ref rp, .ref rq, .int (nI g), .int (nI nr)])), (rp, .inl (cP, 664, .inl P)), (rq, .inl (cM, 664, .inl M))] [(cP, .int), (cM, .int)] 0 0 (S := (Nat → Int32) × (Nat → Int32) × Nat × Nat × Nat × Nat) (fun r u => (r = -1 ∧ ¬ (kc < 600 ∧ kl + km ≤ 4000) ∧ u = (P, M, g, nr, kc, kl)) ∨ (r = nI (kc + 1) ∧ kc < 600 ∧ kl + km ≤ 4000 ∧ u.2.2.2.2.1 = kc + 1 ∧ u.2.2.2.2.2 = kl + km ∧ ks_W N u.1 u.2.1 u.2.2.1 u.2.2.2.1 ∧ u.2.2.1 ≤ kc + 1 ∧ ∀ a, ks_M u.1 u.2.1 u.2.2.1 a ↔ ks_M P M g a ∧ ks_T mp mm a)) (fun u => [(xa, .inr (3, [.int (nI N), .ref ra, .ref sa, .ref aa, .int ac, .int (nI u.2.2.2.2.1), .int (nI u.2.2.2.2.2), .int 0, .int 0, .int (nI 0)])), (ra, .inr (0, [.ref rp, .ref rq, .int (nI u.2.2.1), .int (nI u.2.2.2.1)])), (rp, .inl (cP, 664, .inl u.1)), (rq, .inl (cM, 664, .inl u.2.1))]) (fun u => [(cP, .int), (cM, .int)]) := by
  intro sz
  refine Met.ofW (cc := cX3_close) (maxL := 2) (ret := (some .int)) (by decide) rfl ?_
  intro p e s m args below meth c s₁ B9 hml hv
  obtain ⟨rfl, hsz, hP, hK, hD0, hNW⟩ := hv
  have hx := B9.exec
  have hb := B9.bytes
  have hr := B9.returns
  have hts := atoms_spec (ws := wsX3_close) B9.pre
  have hown : s.vm.findClass RX3 = some m.cls := findClass_of_methodNamed B9.named
  have hlocks := B9.notSynchronized
  subst hsz
  have hD := hD0.self (sz := s.heap.size)
  generalize hAe : va_A [(xa, .inr (3, [.int (nI N), .ref ra, .ref sa, .ref aa, .int ac, .int (nI kc), .int (nI kl), .int mp, .int mm, .int (nI km)])), (ra, .inr (0, [.ref rp, .ref rq, .int (nI g), .int (nI nr)])), (rp, .inl (cP, 664, .inl P)), (rq, .inl (cM, 664, .inl M))] s.heap.size = A at hD ⊢
  have hA : ∀ q : Nat, s.heap.size ≤ q → A q := fun q h => by rw [← hAe]; exact Or.inr h
  have hS : va_S A s.heap s.heap [] := va_S.rf
  have hiX3 : ∀ w ∈ u_ws RX3 TX3 10, w ∈ wsX3_close := by decide +kernel
  have f46 := hts (.fieldLink RX3 46 "LessonSolver" "madeLength" "I") (by decide +kernel)
  have f59 := hts (.fieldLink RX3 59 "LessonSolver" "clauseCount" "I") (by decide +kernel)
  have f62 := hts (.fieldLink RX3 62 "LessonSolver" "literalCount" "I") (by decide +kernel)
  have hl := lv_entry ([.ref xa]) (n := 2) (Nat.le_of_ble_eq_true rfl)
  rw [lg_entry_eq]
  generalize (lg_sl ([.ref xa]) ++ List.replicate (2 - (lg_sl ([.ref xa])).length) Slot.unset).toArray = ls at hl ⊢
  have hl : lv_has ls 2 [(0, .ref xa)] := hl
  refine lv_aload_n hx hb dX3_close_0 rfl (lv_at hl 0 rfl) ?_
  refine va_get (D := (dC, dI)) (ci := 3) (v := .int (nI kc)) (C := RX3) (T := TX3) (N := 10) hx hb hts hiX3 hown hK hP 0 rfl rfl 5 (by decide) f59 (fun _ h9 => h9) rfl dX3_close_1 ?_
  refine lv_sipush (v := nI 600) hx hb dX3_close_4 (by decide) ?_
  refine lv_icmp_ge (tgt := 29) hx hb dX3_close_7 (by decide) (fun c7 => ?_) (fun c7 => ?_)
  · -- 7: jumps
    have h600 : 600 ≤ kc := by
      rcases Nat.lt_or_ge kc 600 with q | q
      · exact absurd c7 (nI_ge q (by omega))
      · exact q
    have hno : ¬ (kc < 600 ∧ kl + km ≤ 4000) := by omega
    refine lv_iconst (v := 0) hx hb dX3_close_29 (by decide) ?_
    refine lv_istore_n (lv' := [(1, .int 0), (0, .ref xa)]) hx hb dX3_close_30 rfl hl (by decide) rfl (fun ls hl => ?_)
    refine lv_iload_n hx hb dX3_close_31 rfl (lv_at hl 0 rfl) ?_
    refine lv_if_eq (tgt := 62) hx hb dX3_close_32 (by decide) (fun c32 => ?_) (fun c32 => absurd rfl c32)
    refine lv_aload_n hx hb dX3_close_62 rfl (lv_at hl 1 rfl) ?_
    refine ks_callvV (As := []) (rest := []) (wr := [(ra, .inr (0, [.ref rp, .ref rq, .int (nI g), .int (nI nr)])), (rp, .inl (cP, 664, .inl P)), (rq, .inl (cM, 664, .inl M))]) (wz := fun _ => [(xa, .inr (3, [.int (nI N), .ref ra, .ref sa, .ref aa, .int ac, .int (nI kc), .int (nI kl), .int 0, .int 0, .int (nI 0)])), (ra, .inr (0, [.ref rp, .ref rq, .int (nI g), .int (nI nr)])), (rp, .inl (cP, 664, .inl P)), (rq, .inl (cM, 664, .inl M))]) ⟨hx, hb, hml, hown, hts⟩ (ks_forgetMade l dC dI xa ra sa aa N ac (nI kc) (nI kl) mp mm (nI km)) (cwV 0 hts gX3_close_X3_forgetMadeClause rfl rfl rfl (by decide +kernel) ⟨Nat.le_of_ble_eq_true rfl, Nat.le_of_ble_eq_true rfl⟩) hK hP hD hS hA hNW [0] [1, 2, 3] [] [3, 0, 1, 2] rfl rfl rfl rfl (by decide) (by decide) (by decide) (ci := 3) (q0 := 0) rfl rfl rfl (fun _ => rfl) (fun _ => rfl) (by decide) rfl hl.1 rfl (Nat.le_of_ble_eq_true rfl) dX3_close_63 ⟨Nat.le_of_ble_eq_true rfl, Nat.le_of_ble_eq_true rfl⟩ (fun u9 H locs hw9 hK9 hP hD hS => ?_)
    have hP : va_P (dC, dI) ksCl [(xa, .inr (3, [.int (nI N), .ref ra, .ref sa, .ref aa, .int ac, .int (nI kc), .int (nI kl), .int 0, .int 0, .int (nI 0)])), (ra, .inr (0, [.ref rp, .ref rq, .int (nI g), .int (nI nr)])), (rp, .inl (cP, 664, .inl P)), (rq, .inl (cM, 664, .inl M))] H := hP
    have hD : va_D A [(xa, .inr (3, [.int (nI N), .ref ra, .ref sa, .ref aa, .int ac, .int (nI kc), .int (nI kl), .int 0, .int 0, .int (nI 0)])), (ra, .inr (0, [.ref rp, .ref rq, .int (nI g), .int (nI nr)])), (rp, .inl (cP, 664, .inl P)), (rq, .inl (cM, 664, .inl M))] := hD
    refine lv_iload_n hx hb dX3_close_66 rfl (lv_at hl 0 rfl) ?_
    refine lv_if_eq (tgt := 77) hx hb dX3_close_67 (by decide) (fun c67 => ?_) (fun c67 => absurd rfl c67)
    refine lv_iconst (v := -1) hx hb dX3_close_77 (by decide) ?_
    have hP9 : va_P (dC, dI) ksCl [(xa, .inr (3, [.int (nI N), .ref ra, .ref sa, .ref aa, .int ac, .int (nI kc), .int (nI kl), .int 0, .int 0, .int (nI 0)])), (ra, .inr (0, [.ref rp, .ref rq, .int (nI g), .int (nI nr)])), (rp, .inl (cP, 664, .inl P)), (rq, .inl (cM, 664, .inl M))] _ := hP
    have hD9 : va_D A [(xa, .inr (3, [.int (nI N), .ref ra, .ref sa, .ref aa, .int ac, .int (nI kc), .int (nI kl), .int 0, .int 0, .int (nI 0)])), (ra, .inr (0, [.ref rp, .ref rq, .int (nI g), .int (nI nr)])), (rp, .inl (cP, 664, .inl P)), (rq, .inl (cM, 664, .inl M))] := hD
    have hK9 : va_K (dC, dI) ksCl [(cP, .int), (cM, .int)] s := hK
    exact W.iret (v := -1) hx hb hr (fun t ht hW9 => ⟨⟨-1, (P, M, g, nr, kc, kl), rfl, Or.inl ⟨rfl, hno, rfl⟩, by rw [ht]; exact hP9, va_K.moved hW9.alike hK9, hD9⟩, hS.F ht⟩) hS.2.2 dX3_close_78
  · -- 7: goes on
    have h600 : kc < 600 := by
      rcases Nat.lt_or_ge kc 600 with q | q
      · exact q
      · exact absurd (nI_le q (by omega)) c7
    refine lv_aload_n hx hb dX3_close_10 rfl (lv_at hl 0 rfl) ?_
    refine va_get (D := (dC, dI)) (ci := 3) (v := .int (nI kl)) (C := RX3) (T := TX3) (N := 10) hx hb hts hiX3 hown hK hP 0 rfl rfl 6 (by decide) f62 (fun _ h9 => h9) rfl dX3_close_11 ?_
    refine lv_aload_n hx hb dX3_close_14 rfl (lv_at hl 0 rfl) ?_
    refine va_get (D := (dC, dI)) (ci := 3) (v := .int (nI km)) (C := RX3) (T := TX3) (N := 10) hx hb hts hiX3 hown hK hP 0 rfl rfl 9 (by decide) f46 (fun _ h9 => h9) rfl dX3_close_15 ?_
    refine lv_iadd hx hb dX3_close_18 ?_
    refine ks_top (y := nI (kl + km)) (nI_add kl km) ?_
    refine lv_sipush (v := nI 4000) hx hb dX3_close_19 (by decide) ?_
    refine lv_icmp_gt (tgt := 29) hx hb dX3_close_22 (by decide) (fun c22 => ?_) (fun c22 => ?_)
    · -- 22: jumps
      have h4 : 4000 < kl + km := (nI_ltI (by decide) (by omega)).mp c22
      have hno : ¬ (kc < 600 ∧ kl + km ≤ 4000) := by omega
      refine lv_iconst (v := 0) hx hb dX3_close_29 (by decide) ?_
      refine lv_istore_n (lv' := [(1, .int 0), (0, .ref xa)]) hx hb dX3_close_30 rfl hl (by decide) rfl (fun ls hl => ?_)
      refine lv_iload_n hx hb dX3_close_31 rfl (lv_at hl 0 rfl) ?_
      refine lv_if_eq (tgt := 62) hx hb dX3_close_32 (by decide) (fun c32 => ?_) (fun c32 => absurd rfl c32)
      refine lv_aload_n hx hb dX3_close_62 rfl (lv_at hl 1 rfl) ?_
      refine ks_callvV (As := []) (rest := []) (wr := [(ra, .inr (0, [.ref rp, .ref rq, .int (nI g), .int (nI nr)])), (rp, .inl (cP, 664, .inl P)), (rq, .inl (cM, 664, .inl M))]) (wz := fun _ => [(xa, .inr (3, [.int (nI N), .ref ra, .ref sa, .ref aa, .int ac, .int (nI kc), .int (nI kl), .int 0, .int 0, .int (nI 0)])), (ra, .inr (0, [.ref rp, .ref rq, .int (nI g), .int (nI nr)])), (rp, .inl (cP, 664, .inl P)), (rq, .inl (cM, 664, .inl M))]) ⟨hx, hb, hml, hown, hts⟩ (ks_forgetMade l dC dI xa ra sa aa N ac (nI kc) (nI kl) mp mm (nI km)) (cwV 0 hts gX3_close_X3_forgetMadeClause rfl rfl rfl (by decide +kernel) ⟨Nat.le_of_ble_eq_true rfl, Nat.le_of_ble_eq_true rfl⟩) hK hP hD hS hA hNW [0] [1, 2, 3] [] [3, 0, 1, 2] rfl rfl rfl rfl (by decide) (by decide) (by decide) (ci := 3) (q0 := 0) rfl rfl rfl (fun _ => rfl) (fun _ => rfl) (by decide) rfl hl.1 rfl (Nat.le_of_ble_eq_true rfl) dX3_close_63 ⟨Nat.le_of_ble_eq_true rfl, Nat.le_of_ble_eq_true rfl⟩ (fun u9 H locs hw9 hK9 hP hD hS => ?_)
      have hP : va_P (dC, dI) ksCl [(xa, .inr (3, [.int (nI N), .ref ra, .ref sa, .ref aa, .int ac, .int (nI kc), .int (nI kl), .int 0, .int 0, .int (nI 0)])), (ra, .inr (0, [.ref rp, .ref rq, .int (nI g), .int (nI nr)])), (rp, .inl (cP, 664, .inl P)), (rq, .inl (cM, 664, .inl M))] H := hP
      have hD : va_D A [(xa, .inr (3, [.int (nI N), .ref ra, .ref sa, .ref aa, .int ac, .int (nI kc), .int (nI kl), .int 0, .int 0, .int (nI 0)])), (ra, .inr (0, [.ref rp, .ref rq, .int (nI g), .int (nI nr)])), (rp, .inl (cP, 664, .inl P)), (rq, .inl (cM, 664, .inl M))] := hD
      refine lv_iload_n hx hb dX3_close_66 rfl (lv_at hl 0 rfl) ?_
      refine lv_if_eq (tgt := 77) hx hb dX3_close_67 (by decide) (fun c67 => ?_) (fun c67 => absurd rfl c67)
      refine lv_iconst (v := -1) hx hb dX3_close_77 (by decide) ?_
      have hP9 : va_P (dC, dI) ksCl [(xa, .inr (3, [.int (nI N), .ref ra, .ref sa, .ref aa, .int ac, .int (nI kc), .int (nI kl), .int 0, .int 0, .int (nI 0)])), (ra, .inr (0, [.ref rp, .ref rq, .int (nI g), .int (nI nr)])), (rp, .inl (cP, 664, .inl P)), (rq, .inl (cM, 664, .inl M))] _ := hP
      have hD9 : va_D A [(xa, .inr (3, [.int (nI N), .ref ra, .ref sa, .ref aa, .int ac, .int (nI kc), .int (nI kl), .int 0, .int 0, .int (nI 0)])), (ra, .inr (0, [.ref rp, .ref rq, .int (nI g), .int (nI nr)])), (rp, .inl (cP, 664, .inl P)), (rq, .inl (cM, 664, .inl M))] := hD
      have hK9 : va_K (dC, dI) ksCl [(cP, .int), (cM, .int)] s := hK
      exact W.iret (v := -1) hx hb hr (fun t ht hW9 => ⟨⟨-1, (P, M, g, nr, kc, kl), rfl, Or.inl ⟨rfl, hno, rfl⟩, by rw [ht]; exact hP9, va_K.moved hW9.alike hK9, hD9⟩, hS.F ht⟩) hS.2.2 dX3_close_78
    · -- 22: goes on
      have h4 : kl + km ≤ 4000 := by
        rcases Nat.lt_or_ge 4000 (kl + km) with q | q
        · exact absurd (nI_lt q (by omega)) c22
        · exact q
      refine lv_iconst (v := 1) hx hb dX3_close_25 (by decide) ?_
      refine lv_goto (tgt := 30) hx hb dX3_close_26 (by decide) ?_
      refine lv_istore_n (lv' := [(1, .int 1), (0, .ref xa)]) hx hb dX3_close_30 rfl hl (by decide) rfl (fun ls hl => ?_)
      refine lv_iload_n hx hb dX3_close_31 rfl (lv_at hl 0 rfl) ?_
      refine lv_if_eq (tgt := 62) hx hb dX3_close_32 (by decide) (fun c32 => absurd c32 (by decide)) (fun c32 => ?_)
      refine lv_aload_n hx hb dX3_close_35 rfl (lv_at hl 1 rfl) ?_
      refine lv_dup hx hb dX3_close_36 rfl ?_
      refine va_get (D := (dC, dI)) (ci := 3) (v := .int (nI kc)) (C := RX3) (T := TX3) (N := 10) hx hb hts hiX3 hown hK hP 0 rfl rfl 5 (by decide) f59 (fun _ h9 => h9) rfl dX3_close_37 ?_
      refine lv_iconst (v := 1) hx hb dX3_close_40 (by decide) ?_
      refine lv_iadd hx hb dX3_close_41 ?_
      refine ks_top (y := nI (kc + 1)) (nI_1 kc) ?_
      refine va_put (D := (dC, dI)) (ci := 3) (v := .int (nI (kc + 1))) (ty := .int) (C := RX3) (T := TX3) (N := 10) hx hb hts hiX3 tyX3 tyX3_ok nmX3 hown hK hP hD hS 0 rfl rfl 5 (by decide) f59 (fun _ h9 => h9) rfl (by decide +kernel) rfl rfl (Nat.le_of_ble_eq_true rfl) dX3_close_42 (fun H locs hP hD hS => ?_)
      have hP : va_P (dC, dI) ksCl [(xa, .inr (3, [.int (nI N), .ref ra, .ref sa, .ref aa, .int ac, .int (nI (kc + 1)), .int (nI kl), .int mp, .int mm, .int (nI km)])), (ra, .inr (0, [.ref rp, .ref rq, .int (nI g), .int (nI nr)])), (rp, .inl (cP, 664, .inl P)), (rq, .inl (cM, 664, .inl M))] H := hP
      have hD : va_D A [(xa, .inr (3, [.int (nI N), .ref ra, .ref sa, .ref aa, .int ac, .int (nI (kc + 1)), .int (nI kl), .int mp, .int mm, .int (nI km)])), (ra, .inr (0, [.ref rp, .ref rq, .int (nI g), .int (nI nr)])), (rp, .inl (cP, 664, .inl P)), (rq, .inl (cM, 664, .inl M))] := hD
      refine lv_aload_n hx hb dX3_close_45 rfl (lv_at hl 1 rfl) ?_
      refine lv_dup hx hb dX3_close_46 rfl ?_
      refine va_get (D := (dC, dI)) (ci := 3) (v := .int (nI kl)) (C := RX3) (T := TX3) (N := 10) hx hb hts hiX3 hown hK hP 0 rfl rfl 6 (by decide) f62 (fun _ h9 => h9) rfl dX3_close_47 ?_
      refine lv_aload_n hx hb dX3_close_50 rfl (lv_at hl 1 rfl) ?_
      refine va_get (D := (dC, dI)) (ci := 3) (v := .int (nI km)) (C := RX3) (T := TX3) (N := 10) hx hb hts hiX3 hown hK hP 0 rfl rfl 9 (by decide) f46 (fun _ h9 => h9) rfl dX3_close_51 ?_
      refine lv_iadd hx hb dX3_close_54 ?_
      refine ks_top (y := nI (kl + km)) (nI_add kl km) ?_
      refine va_put (D := (dC, dI)) (ci := 3) (v := .int (nI (kl + km))) (ty := .int) (C := RX3) (T := TX3) (N := 10) hx hb hts hiX3 tyX3 tyX3_ok nmX3 hown hK hP hD hS 0 rfl rfl 6 (by decide) f62 (fun _ h9 => h9) rfl (by decide +kernel) rfl rfl (Nat.le_of_ble_eq_true rfl) dX3_close_55 (fun H locs hP hD hS => ?_)
      have hP : va_P (dC, dI) ksCl [(xa, .inr (3, [.int (nI N), .ref ra, .ref sa, .ref aa, .int ac, .int (nI (kc + 1)), .int (nI (kl + km)), .int mp, .int mm, .int (nI km)])), (ra, .inr (0, [.ref rp, .ref rq, .int (nI g), .int (nI nr)])), (rp, .inl (cP, 664, .inl P)), (rq, .inl (cM, 664, .inl M))] H := hP
      have hD : va_D A [(xa, .inr (3, [.int (nI N), .ref ra, .ref sa, .ref aa, .int ac, .int (nI (kc + 1)), .int (nI (kl + km)), .int mp, .int mm, .int (nI km)])), (ra, .inr (0, [.ref rp, .ref rq, .int (nI g), .int (nI nr)])), (rp, .inl (cP, 664, .inl P)), (rq, .inl (cM, 664, .inl M))] := hD
      refine lv_aload_n hx hb dX3_close_58 rfl (lv_at hl 1 rfl) ?_
      refine ks_callvV (As := []) (rest := []) (wr := []) (wz := fun u => [(xa, .inr (3, [.int (nI N), .ref ra, .ref sa, .ref aa, .int ac, .int (nI (kc + 1)), .int (nI (kl + km)), .int mp, .int mm, .int (nI km)])), (ra, .inr (0, [.ref rp, .ref rq, .int (nI u.2.2.1), .int (nI u.2.2.2)])), (rp, .inl (cP, 664, .inl u.1)), (rq, .inl (cM, 664, .inl u.2.1))]) ⟨hx, hb, hml, hown, hts⟩ (ks_takeMade l dC dI xa sa aa ra rp rq cP cM N ac (nI (kc + 1)) (nI (kl + km)) mp mm (nI km) P M g nr hW (by omega) hmk) (cwV 0 hts gX3_close_X3_takeMadeClause rfl rfl rfl (by decide +kernel) ⟨Nat.le_of_ble_eq_true rfl, Nat.le_of_ble_eq_true rfl⟩) hK hP hD hS hA hNW [0, 1, 2, 3] [] [0, 1] [0, 1, 2, 3] rfl rfl rfl rfl (by decide) (by decide) (by decide) (ci := 3) (q0 := 0) rfl rfl rfl (fun _ => rfl) (fun _ => rfl) (by decide) rfl hl.1 rfl (Nat.le_of_ble_eq_true rfl) dX3_close_59 ⟨Nat.le_of_ble_eq_true rfl, Nat.le_of_ble_eq_true rfl⟩ (fun u9 H locs hw9 hK9 hP hD hS => ?_)
      obtain ⟨P1, M1, g1, n1⟩ := u9
      obtain ⟨t1, t2, t3⟩ := hw9
      have hP : va_P (dC, dI) ksCl [(xa, .inr (3, [.int (nI N), .ref ra, .ref sa, .ref aa, .int ac, .int (nI (kc + 1)), .int (nI (kl + km)), .int mp, .int mm, .int (nI km)])), (ra, .inr (0, [.ref rp, .ref rq, .int (nI g1), .int (nI n1)])), (rp, .inl (cP, 664, .inl P1)), (rq, .inl (cM, 664, .inl M1))] H := hP
      have hD : va_D A [(xa, .inr (3, [.int (nI N), .ref ra, .ref sa, .ref aa, .int ac, .int (nI (kc + 1)), .int (nI (kl + km)), .int mp, .int mm, .int (nI km)])), (ra, .inr (0, [.ref rp, .ref rq, .int (nI g1), .int (nI n1)])), (rp, .inl (cP, 664, .inl P1)), (rq, .inl (cM, 664, .inl M1))] := hD
      refine lv_aload_n hx hb dX3_close_62 rfl (lv_at hl 1 rfl) ?_
      refine ks_callvV (As := []) (rest := []) (wr := [(ra, .inr (0, [.ref rp, .ref rq, .int (nI g1), .int (nI n1)])), (rp, .inl (cP, 664, .inl P1)), (rq, .inl (cM, 664, .inl M1))]) (wz := fun _ => [(xa, .inr (3, [.int (nI N), .ref ra, .ref sa, .ref aa, .int ac, .int (nI (kc + 1)), .int (nI (kl + km)), .int 0, .int 0, .int (nI 0)])), (ra, .inr (0, [.ref rp, .ref rq, .int (nI g1), .int (nI n1)])), (rp, .inl (cP, 664, .inl P1)), (rq, .inl (cM, 664, .inl M1))]) ⟨hx, hb, hml, hown, hts⟩ (ks_forgetMade l dC dI xa ra sa aa N ac (nI (kc + 1)) (nI (kl + km)) mp mm (nI km)) (cwV 0 hts gX3_close_X3_forgetMadeClause rfl rfl rfl (by decide +kernel) ⟨Nat.le_of_ble_eq_true rfl, Nat.le_of_ble_eq_true rfl⟩) hK hP hD hS hA hNW [0] [1, 2, 3] [] [3, 0, 1, 2] rfl rfl rfl rfl (by decide) (by decide) (by decide) (ci := 3) (q0 := 0) rfl rfl rfl (fun _ => rfl) (fun _ => rfl) (by decide) rfl hl.1 rfl (Nat.le_of_ble_eq_true rfl) dX3_close_63 ⟨Nat.le_of_ble_eq_true rfl, Nat.le_of_ble_eq_true rfl⟩ (fun u9 H locs hw9 hK9 hP hD hS => ?_)
      have hP : va_P (dC, dI) ksCl [(xa, .inr (3, [.int (nI N), .ref ra, .ref sa, .ref aa, .int ac, .int (nI (kc + 1)), .int (nI (kl + km)), .int 0, .int 0, .int (nI 0)])), (ra, .inr (0, [.ref rp, .ref rq, .int (nI g1), .int (nI n1)])), (rp, .inl (cP, 664, .inl P1)), (rq, .inl (cM, 664, .inl M1))] H := hP
      have hD : va_D A [(xa, .inr (3, [.int (nI N), .ref ra, .ref sa, .ref aa, .int ac, .int (nI (kc + 1)), .int (nI (kl + km)), .int 0, .int 0, .int (nI 0)])), (ra, .inr (0, [.ref rp, .ref rq, .int (nI g1), .int (nI n1)])), (rp, .inl (cP, 664, .inl P1)), (rq, .inl (cM, 664, .inl M1))] := hD
      refine lv_iload_n hx hb dX3_close_66 rfl (lv_at hl 0 rfl) ?_
      refine lv_if_eq (tgt := 77) hx hb dX3_close_67 (by decide) (fun c67 => absurd c67 (by decide)) (fun c67 => ?_)
      refine lv_aload_n hx hb dX3_close_70 rfl (lv_at hl 1 rfl) ?_
      refine va_get (D := (dC, dI)) (ci := 3) (v := .int (nI (kc + 1))) (C := RX3) (T := TX3) (N := 10) hx hb hts hiX3 hown hK hP 0 rfl rfl 5 (by decide) f59 (fun _ h9 => h9) rfl dX3_close_71 ?_
      refine lv_goto (tgt := 78) hx hb dX3_close_74 (by decide) ?_
      have hP9 : va_P (dC, dI) ksCl [(xa, .inr (3, [.int (nI N), .ref ra, .ref sa, .ref aa, .int ac, .int (nI (kc + 1)), .int (nI (kl + km)), .int 0, .int 0, .int (nI 0)])), (ra, .inr (0, [.ref rp, .ref rq, .int (nI g1), .int (nI n1)])), (rp, .inl (cP, 664, .inl P1)), (rq, .inl (cM, 664, .inl M1))] _ := hP
      have hD9 : va_D A [(xa, .inr (3, [.int (nI N), .ref ra, .ref sa, .ref aa, .int ac, .int (nI (kc + 1)), .int (nI (kl + km)), .int 0, .int 0, .int (nI 0)])), (ra, .inr (0, [.ref rp, .ref rq, .int (nI g1), .int (nI n1)])), (rp, .inl (cP, 664, .inl P1)), (rq, .inl (cM, 664, .inl M1))] := hD
      have hK9 : va_K (dC, dI) ksCl [(cP, .int), (cM, .int)] s := hK
      exact W.iret (v := nI (kc + 1)) hx hb hr (fun t ht hW9 => ⟨⟨nI (kc + 1), (P1, M1, g1, n1, kc + 1, kl + km), rfl, Or.inr ⟨rfl, h600, h4, rfl, rfl, t1, Nat.le_trans t2 (by omega), t3⟩, by rw [ht]; exact hP9, va_K.moved hW9.alike hK9, hD9⟩, hS.F ht⟩) hS.2.2 dX3_close_78
