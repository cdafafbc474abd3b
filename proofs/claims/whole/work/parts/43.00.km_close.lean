set_option maxHeartbeats 4000000 in
set_option maxRecDepth 100000 in
/-- the reference: close -/
theorem km_close (l : Launch) (dC : Nat → ClassId) (dI : Nat → Nat → Nat) (xm m1 m2 m3 m4 m5 wd : Nat) (c1 c4 : ClassId) (N : Nat) (th ac : Int32) (km kc kl : Nat) (A0 : Nat → Int64) (MK : Nat → Int32) (F : (Nat → Bool) → Prop) (hN : N ≤ 16) (hwd : wd = ks_wd N) (hkm : km ≤ 20) (hkc : kc ≤ 600) (hkl : kl ≤ 4000) (hlit : ∀ j, j < km → ∃ v, ks_lit N (MK j) v) (hT : ks_TT N A0 F) : ks_Mi l yX4_close wsX4_close ({ frames := 1, cells := 0, slots := 0, locals := 25 }) (dC, dI) [.ref xm] [(xm, .inr (4, [.int th, .int (nI N), .int (nI wd), .ref m1, .ref m2, .ref m3, .ref m4, .ref m5, .int (nI km), .int (nI kc), .int (nI kl), .int ac])), (m1, .inl (c1, 1024, .inr (.inl A0))), (m4, .inl (c4, 20, .inl MK))] [(c1, .long), (c4, .int)] 0 0 (S := (Nat → Int64) × Nat × Nat) (fun r u => (r = -1 ∧ ¬ (kc < 600 ∧ kl + km ≤ 4000) ∧ u = (A0, kc, kl)) ∨ (r = nI (kc + 1) ∧ kc < 600 ∧ kl + km ≤ 4000 ∧ u.2 = (kc + 1, kl + km) ∧ ks_TT N u.1 (fun a => F a ∧ ks_mkT N MK km a))) (fun u => [(xm, .inr (4, [.int 0, .int (nI N), .int (nI wd), .ref m1, .ref m2, .ref m3, .ref m4, .ref m5, .int (nI 0), .int (nI u.2.1), .int (nI u.2.2), .int ac])), (m1, .inl (c1, 1024, .inr (.inl u.1))), (m4, .inl (c4, 20, .inl MK))]) (fun u => [(c1, .long), (c4, .int)]) := by
  intro sz
  refine Met.ofW (cc := cX4_close) (maxL := 6) (ret := (some .int)) (by decide) rfl ?_
  intro p e s m args below meth c s₁ B9 hml hv
  obtain ⟨rfl, hsz, hP, hK, hD0, hNW⟩ := hv
  have hx := B9.exec
  have hb := B9.bytes
  have hr := B9.returns
  have hts := atoms_spec (ws := wsX4_close) B9.pre
  have hown : s.vm.findClass RX4 = some m.cls := findClass_of_methodNamed B9.named
  have hlocks := B9.notSynchronized
  subst hsz
  have hD := hD0.self (sz := s.heap.size)
  generalize hAe : va_A [(xm, .inr (4, [.int th, .int (nI N), .int (nI wd), .ref m1, .ref m2, .ref m3, .ref m4, .ref m5, .int (nI km), .int (nI kc), .int (nI kl), .int ac])), (m1, .inl (c1, 1024, .inr (.inl A0))), (m4, .inl (c4, 20, .inl MK))] s.heap.size = A at hD ⊢
  have hA : ∀ q : Nat, s.heap.size ≤ q → A q := fun q h => by rw [← hAe]; exact Or.inr h
  have hS : va_S A s.heap s.heap [] := va_S.rf
  have hiX4 : ∀ w ∈ u_ws RX4 TM 12, w ∈ wsX4_close := by decide +kernel
  have f7 := hts (.fieldLink RX4 7 "LessonSolverModel" "all" "[J") (by decide +kernel)
  have f19 := hts (.fieldLink RX4 19 "LessonSolverModel" "making" "[I") (by decide +kernel)
  have f30 := hts (.fieldLink RX4 30 "LessonSolverModel" "words" "I") (by decide +kernel)
  have f36 := hts (.fieldLink RX4 36 "LessonSolverModel" "thrown" "I") (by decide +kernel)
  have f41 := hts (.fieldLink RX4 41 "LessonSolverModel" "made" "I") (by decide +kernel)
  have f44 := hts (.fieldLink RX4 44 "LessonSolverModel" "clauses" "I") (by decide +kernel)
  have f47 := hts (.fieldLink RX4 47 "LessonSolverModel" "literals" "I") (by decide +kernel)
  have hl := lv_entry ([.ref xm]) (n := 6) (Nat.le_of_ble_eq_true rfl)
  rw [lg_entry_eq]
  generalize (lg_sl ([.ref xm]) ++ List.replicate (6 - (lg_sl ([.ref xm])).length) Slot.unset).toArray = ls at hl ⊢
  have hl : lv_has ls 6 [(0, .ref xm)] := hl
  have hwl : 1 ≤ wd ∧ wd ≤ 1024 := by rw [hwd]; exact ks_wd_le N hN
  refine lv_aload_n hx hb dX4_close_0 rfl (lv_at hl 0 rfl) ?_
  refine lv_iconst (v := 0) hx hb dX4_close_1 (by decide) ?_
  refine va_put (D := (dC, dI)) (ci := 4) (v := .int 0) (ty := .int) (C := RX4) (T := TM) (N := 12) hx hb hts hiX4 tyM tyM_ok nmM hown hK hP hD hS 0 rfl rfl 0 (by decide) f36 (fun _ h9 => h9) rfl (by decide +kernel) rfl rfl (Nat.le_of_ble_eq_true rfl) dX4_close_2 (fun H locs hP hD hS => ?_)
  have hP : va_P (dC, dI) ksCl [(xm, .inr (4, [.int 0, .int (nI N), .int (nI wd), .ref m1, .ref m2, .ref m3, .ref m4, .ref m5, .int (nI km), .int (nI kc), .int (nI kl), .int ac])), (m1, .inl (c1, 1024, .inr (.inl A0))), (m4, .inl (c4, 20, .inl MK))] H := hP
  have hD : va_D A [(xm, .inr (4, [.int 0, .int (nI N), .int (nI wd), .ref m1, .ref m2, .ref m3, .ref m4, .ref m5, .int (nI km), .int (nI kc), .int (nI kl), .int ac])), (m1, .inl (c1, 1024, .inr (.inl A0))), (m4, .inl (c4, 20, .inl MK))] := hD
  refine lv_aload_n hx hb dX4_close_5 rfl (lv_at hl 0 rfl) ?_
  refine va_get (D := (dC, dI)) (ci := 4) (v := .int (nI km)) (C := RX4) (T := TM) (N := 12) hx hb hts hiX4 hown hK hP 0 rfl rfl 8 (by decide) f41 (fun _ h9 => h9) rfl dX4_close_6 ?_
  refine lv_istore_n (lv' := [(1, .int (nI km)), (0, .ref xm)]) hx hb dX4_close_9 rfl hl (by decide) rfl (fun ls hl => ?_)
  refine lv_aload_n hx hb dX4_close_10 rfl (lv_at hl 1 rfl) ?_
  refine lv_iconst (v := nI 0) hx hb dX4_close_11 (by decide) ?_
  refine va_put (D := (dC, dI)) (ci := 4) (v := .int (nI 0)) (ty := .int) (C := RX4) (T := TM) (N := 12) hx hb hts hiX4 tyM tyM_ok nmM hown hK hP hD hS 0 rfl rfl 8 (by decide) f41 (fun _ h9 => h9) rfl (by decide +kernel) rfl rfl (Nat.le_of_ble_eq_true rfl) dX4_close_12 (fun H locs hP hD hS => ?_)
  have hP : va_P (dC, dI) ksCl [(xm, .inr (4, [.int 0, .int (nI N), .int (nI wd), .ref m1, .ref m2, .ref m3, .ref m4, .ref m5, .int (nI 0), .int (nI kc), .int (nI kl), .int ac])), (m1, .inl (c1, 1024, .inr (.inl A0))), (m4, .inl (c4, 20, .inl MK))] H := hP
  have hD : va_D A [(xm, .inr (4, [.int 0, .int (nI N), .int (nI wd), .ref m1, .ref m2, .ref m3, .ref m4, .ref m5, .int (nI 0), .int (nI kc), .int (nI kl), .int ac])), (m1, .inl (c1, 1024, .inr (.inl A0))), (m4, .inl (c4, 20, .inl MK))] := hD
  refine lv_aload_n hx hb dX4_close_15 rfl (lv_at hl 1 rfl) ?_
  refine va_get (D := (dC, dI)) (ci := 4) (v := .int (nI kc)) (C := RX4) (T := TM) (N := 12) hx hb hts hiX4 hown hK hP 0 rfl rfl 9 (by decide) f44 (fun _ h9 => h9) rfl dX4_close_16 ?_
  refine lv_sipush (v := nI 600) hx hb dX4_close_19 (by decide) ?_
  refine lv_icmp_eq (tgt := 37) hx hb dX4_close_22 (by decide) (fun c22 => ?_) (fun c22 => ?_)
  · -- 22: jumps
    have hno : ¬ (kc < 600 ∧ kl + km ≤ 4000) := by have := (nI_eq (by omega) (by decide)).mp c22; omega
    refine lv_iconst (v := -1) hx hb dX4_close_37 (by decide) ?_
    have hP9 : va_P (dC, dI) ksCl [(xm, .inr (4, [.int 0, .int (nI N), .int (nI wd), .ref m1, .ref m2, .ref m3, .ref m4, .ref m5, .int (nI 0), .int (nI kc), .int (nI kl), .int ac])), (m1, .inl (c1, 1024, .inr (.inl A0))), (m4, .inl (c4, 20, .inl MK))] _ := hP
    have hD9 : va_D A [(xm, .inr (4, [.int 0, .int (nI N), .int (nI wd), .ref m1, .ref m2, .ref m3, .ref m4, .ref m5, .int (nI 0), .int (nI kc), .int (nI kl), .int ac])), (m1, .inl (c1, 1024, .inr (.inl A0))), (m4, .inl (c4, 20, .inl MK))] := hD
    have hK9 : va_K (dC, dI) ksCl [(c1, .long), (c4, .int)] s := hK
    exact W.iret (v := -1) hx hb hr (fun t ht hW9 => ⟨⟨-1, (A0, kc, kl), rfl, Or.inl ⟨rfl, hno, rfl⟩, by rw [ht]; exact hP9, va_K.moved hW9.alike hK9, hD9⟩, hS.F ht⟩) hS.2.2 dX4_close_38
  · -- 22: goes on
    have h600 : kc < 600 := by
      rcases Nat.lt_or_ge kc 600 with q | q
      · exact q
      · exact absurd (by rw [show kc = 600 by omega]) c22
    refine lv_aload_n hx hb dX4_close_25 rfl (lv_at hl 1 rfl) ?_
    refine va_get (D := (dC, dI)) (ci := 4) (v := .int (nI kl)) (C := RX4) (T := TM) (N := 12) hx hb hts hiX4 hown hK hP 0 rfl rfl 10 (by decide) f47 (fun _ h9 => h9) rfl dX4_close_26 ?_
    refine lv_iload_n hx hb dX4_close_29 rfl (lv_at hl 0 rfl) ?_
    refine lv_iadd hx hb dX4_close_30 ?_
    refine ks_top (y := nI (kl + km)) (nI_add kl km) ?_
    refine lv_sipush (v := nI 4000) hx hb dX4_close_31 (by decide) ?_
    refine lv_icmp_le (tgt := 39) hx hb dX4_close_34 (by decide) (fun c34 => ?_) (fun c34 => ?_)
    · -- 34: jumps
      have h4 : kl + km ≤ 4000 := (nI_leI (by omega) (by decide)).mp c34
      refine lv_iconst (v := nI 0) hx hb dX4_close_39 (by decide) ?_
      refine lv_istore_n (lv' := [(2, .int (nI 0)), (1, .int (nI km)), (0, .ref xm)]) hx hb dX4_close_40 rfl hl (by decide) rfl (fun ls hl => ?_)
      refine ks_wl (σ := Nat × (Nat → Int64)) (fun n x H locs ls => (x.1 ≤ wd) ∧ (n + x.1 = wd + 1) ∧ (ks_TC N A0 x.2 (ks_mkT N MK km) x.1) ∧ va_P (dC, dI) ksCl [(xm, .inr (4, [.int 0, .int (nI N), .int (nI wd), .ref m1, .ref m2, .ref m3, .ref m4, .ref m5, .int (nI 0), .int (nI kc), .int (nI kl), .int ac])), (m1, .inl (c1, 1024, .inr (.inl x.2))), (m4, .inl (c4, 20, .inl MK))] H ∧ va_D A [(xm, .inr (4, [.int 0, .int (nI N), .int (nI wd), .ref m1, .ref m2, .ref m3, .ref m4, .ref m5, .int (nI 0), .int (nI kc), .int (nI kl), .int ac])), (m1, .inl (c1, 1024, .inr (.inl x.2))), (m4, .inl (c4, 20, .inl MK))] ∧ va_S A s.heap H locs ∧ lv_has ls 6 [(0, .ref xm), (1, .int (nI km)), (2, .int (nI x.1))]) 41 ?_ ?_ (wd + 1) (0, A0) _ _ ls ⟨Nat.zero_le _, rfl, ks_TC.zero N A0 _, hP, hD, hS, lv_sub hl [2, 1, 0] rfl⟩
      · -- loop at 41
        intro n1 x H locs ls h9 ih1
        obtain ⟨w, A1⟩ := x
        obtain ⟨w1, w2, w3, hP, hD, hS, hl⟩ := h9
        have w1 : w ≤ wd := w1
        have w2 : (n1 + 1) + w = wd + 1 := w2
        have w3 : ks_TC N A0 A1 (ks_mkT N MK km) w := w3
        have hP : va_P (dC, dI) ksCl [(xm, .inr (4, [.int 0, .int (nI N), .int (nI wd), .ref m1, .ref m2, .ref m3, .ref m4, .ref m5, .int (nI 0), .int (nI kc), .int (nI kl), .int ac])), (m1, .inl (c1, 1024, .inr (.inl A1))), (m4, .inl (c4, 20, .inl MK))] H := hP
        have hD : va_D A [(xm, .inr (4, [.int 0, .int (nI N), .int (nI wd), .ref m1, .ref m2, .ref m3, .ref m4, .ref m5, .int (nI 0), .int (nI kc), .int (nI kl), .int ac])), (m1, .inl (c1, 1024, .inr (.inl A1))), (m4, .inl (c4, 20, .inl MK))] := hD
        have hl : lv_has ls 6 [(0, .ref xm), (1, .int (nI km)), (2, .int (nI w))] := hl
        refine lv_iload_n hx hb dX4_close_41 rfl (lv_at hl 2 rfl) ?_
        refine lv_aload_n hx hb dX4_close_42 rfl (lv_at hl 0 rfl) ?_
        refine va_get (D := (dC, dI)) (ci := 4) (v := .int (nI wd)) (C := RX4) (T := TM) (N := 12) hx hb hts hiX4 hown hK hP 0 rfl rfl 2 (by decide) f30 (fun _ h9 => h9) rfl dX4_close_43 ?_
        refine lv_icmp_ge (tgt := 101) hx hb dX4_close_46 (by decide) (fun c46 => ?_) (fun c46 => ?_)
        · -- 46: jumps
          have hw : wd ≤ w := by
            rcases Nat.lt_or_ge w wd with q | q
            · exact absurd c46 (nI_ge q (by omega))
            · exact q
          have ew : w = ks_wd N := by omega
          rw [ew] at w3
          refine lv_aload_n hx hb dX4_close_101 rfl (lv_at hl 0 rfl) ?_
          refine lv_dup hx hb dX4_close_102 rfl ?_
          refine va_get (D := (dC, dI)) (ci := 4) (v := .int (nI kl)) (C := RX4) (T := TM) (N := 12) hx hb hts hiX4 hown hK hP 0 rfl rfl 10 (by decide) f47 (fun _ h9 => h9) rfl dX4_close_103 ?_
          refine lv_iload_n hx hb dX4_close_106 rfl (lv_at hl 1 rfl) ?_
          refine lv_iadd hx hb dX4_close_107 ?_
          refine ks_top (y := nI (kl + km)) (nI_add kl km) ?_
          refine va_put (D := (dC, dI)) (ci := 4) (v := .int (nI (kl + km))) (ty := .int) (C := RX4) (T := TM) (N := 12) hx hb hts hiX4 tyM tyM_ok nmM hown hK hP hD hS 0 rfl rfl 10 (by decide) f47 (fun _ h9 => h9) rfl (by decide +kernel) rfl rfl (Nat.le_of_ble_eq_true rfl) dX4_close_108 (fun H locs hP hD hS => ?_)
          have hP : va_P (dC, dI) ksCl [(xm, .inr (4, [.int 0, .int (nI N), .int (nI wd), .ref m1, .ref m2, .ref m3, .ref m4, .ref m5, .int (nI 0), .int (nI kc), .int (nI (kl + km)), .int ac])), (m1, .inl (c1, 1024, .inr (.inl A1))), (m4, .inl (c4, 20, .inl MK))] H := hP
          have hD : va_D A [(xm, .inr (4, [.int 0, .int (nI N), .int (nI wd), .ref m1, .ref m2, .ref m3, .ref m4, .ref m5, .int (nI 0), .int (nI kc), .int (nI (kl + km)), .int ac])), (m1, .inl (c1, 1024, .inr (.inl A1))), (m4, .inl (c4, 20, .inl MK))] := hD
          refine lv_aload_n hx hb dX4_close_111 rfl (lv_at hl 0 rfl) ?_
          refine lv_dup hx hb dX4_close_112 rfl ?_
          refine va_get (D := (dC, dI)) (ci := 4) (v := .int (nI kc)) (C := RX4) (T := TM) (N := 12) hx hb hts hiX4 hown hK hP 0 rfl rfl 9 (by decide) f44 (fun _ h9 => h9) rfl dX4_close_113 ?_
          refine lv_iconst (v := 1) hx hb dX4_close_116 (by decide) ?_
          refine lv_iadd hx hb dX4_close_117 ?_
          refine ks_top (y := nI (kc + 1)) (nI_1 kc) ?_
          refine va_put (D := (dC, dI)) (ci := 4) (v := .int (nI (kc + 1))) (ty := .int) (C := RX4) (T := TM) (N := 12) hx hb hts hiX4 tyM tyM_ok nmM hown hK hP hD hS 0 rfl rfl 9 (by decide) f44 (fun _ h9 => h9) rfl (by decide +kernel) rfl rfl (Nat.le_of_ble_eq_true rfl) dX4_close_118 (fun H locs hP hD hS => ?_)
          have hP : va_P (dC, dI) ksCl [(xm, .inr (4, [.int 0, .int (nI N), .int (nI wd), .ref m1, .ref m2, .ref m3, .ref m4, .ref m5, .int (nI 0), .int (nI (kc + 1)), .int (nI (kl + km)), .int ac])), (m1, .inl (c1, 1024, .inr (.inl A1))), (m4, .inl (c4, 20, .inl MK))] H := hP
          have hD : va_D A [(xm, .inr (4, [.int 0, .int (nI N), .int (nI wd), .ref m1, .ref m2, .ref m3, .ref m4, .ref m5, .int (nI 0), .int (nI (kc + 1)), .int (nI (kl + km)), .int ac])), (m1, .inl (c1, 1024, .inr (.inl A1))), (m4, .inl (c4, 20, .inl MK))] := hD
          refine lv_aload_n hx hb dX4_close_121 rfl (lv_at hl 0 rfl) ?_
          refine va_get (D := (dC, dI)) (ci := 4) (v := .int (nI (kc + 1))) (C := RX4) (T := TM) (N := 12) hx hb hts hiX4 hown hK hP 0 rfl rfl 9 (by decide) f44 (fun _ h9 => h9) rfl dX4_close_122 ?_
          have hP9 : va_P (dC, dI) ksCl [(xm, .inr (4, [.int 0, .int (nI N), .int (nI wd), .ref m1, .ref m2, .ref m3, .ref m4, .ref m5, .int (nI 0), .int (nI (kc + 1)), .int (nI (kl + km)), .int ac])), (m1, .inl (c1, 1024, .inr (.inl A1))), (m4, .inl (c4, 20, .inl MK))] _ := hP
          have hD9 : va_D A [(xm, .inr (4, [.int 0, .int (nI N), .int (nI wd), .ref m1, .ref m2, .ref m3, .ref m4, .ref m5, .int (nI 0), .int (nI (kc + 1)), .int (nI (kl + km)), .int ac])), (m1, .inl (c1, 1024, .inr (.inl A1))), (m4, .inl (c4, 20, .inl MK))] := hD
          have hK9 : va_K (dC, dI) ksCl [(c1, .long), (c4, .int)] s := hK
          exact W.iret (v := nI (kc + 1)) hx hb hr (fun t ht hW9 => ⟨⟨nI (kc + 1), (A1, kc + 1, kl + km), rfl, Or.inr ⟨rfl, h600, h4, rfl, w3.done hT⟩, by rw [ht]; exact hP9, va_K.moved hW9.alike hK9, hD9⟩, hS.F ht⟩) hS.2.2 dX4_close_125
        · -- 46: goes on
          have hw : w < wd := by
            rcases Nat.lt_or_ge w wd with q | q
            · exact q
            · exact absurd (nI_le q (by omega)) c46
          refine lv_lconst (v := 0) hx hb dX4_close_49 (by decide) ?_
          refine lv_lstore_n (lv' := [(3, .long 0), (0, .ref xm), (1, .int (nI km)), (2, .int (nI w))]) hx hb dX4_close_50 rfl hl (by decide) rfl (fun ls hl => ?_)
          refine lv_iconst (v := nI 0) hx hb dX4_close_51 (by decide) ?_
          refine lv_istore (lv' := [(5, .int (nI 0)), (3, .long 0), (0, .ref xm), (1, .int (nI km)), (2, .int (nI w))]) hx hb dX4_close_52 hl (by decide) rfl (fun ls hl => ?_)
          refine ks_wl (σ := Nat × Int64) (fun n x H locs ls => (x.1 ≤ km) ∧ (n + x.1 = km + 1) ∧ (ks_cw N MK w x.1 x.2) ∧ va_P (dC, dI) ksCl [(xm, .inr (4, [.int 0, .int (nI N), .int (nI wd), .ref m1, .ref m2, .ref m3, .ref m4, .ref m5, .int (nI 0), .int (nI kc), .int (nI kl), .int ac])), (m1, .inl (c1, 1024, .inr (.inl A1))), (m4, .inl (c4, 20, .inl MK))] H ∧ va_D A [(xm, .inr (4, [.int 0, .int (nI N), .int (nI wd), .ref m1, .ref m2, .ref m3, .ref m4, .ref m5, .int (nI 0), .int (nI kc), .int (nI kl), .int ac])), (m1, .inl (c1, 1024, .inr (.inl A1))), (m4, .inl (c4, 20, .inl MK))] ∧ va_S A s.heap H locs ∧ lv_has ls 6 [(0, .ref xm), (1, .int (nI km)), (2, .int (nI w)), (3, .long x.2), (5, .int (nI x.1))]) 54 ?_ ?_ (km + 1) (0, 0) _ _ ls ⟨Nat.zero_le _, rfl, ks_cw.zero N MK w, hP, hD, hS, lv_sub hl [2, 3, 4, 1, 0] rfl⟩
          · -- loop at 54
            intro n2 x H locs ls h9 ih2
            obtain ⟨k, x⟩ := x
            obtain ⟨i1, i2, i3, hP, hD, hS, hl⟩ := h9
            have i1 : k ≤ km := i1
            have i2 : (n2 + 1) + k = km + 1 := i2
            have i3 : ks_cw N MK w k x := i3
            have hP : va_P (dC, dI) ksCl [(xm, .inr (4, [.int 0, .int (nI N), .int (nI wd), .ref m1, .ref m2, .ref m3, .ref m4, .ref m5, .int (nI 0), .int (nI kc), .int (nI kl), .int ac])), (m1, .inl (c1, 1024, .inr (.inl A1))), (m4, .inl (c4, 20, .inl MK))] H := hP
            have hD : va_D A [(xm, .inr (4, [.int 0, .int (nI N), .int (nI wd), .ref m1, .ref m2, .ref m3, .ref m4, .ref m5, .int (nI 0), .int (nI kc), .int (nI kl), .int ac])), (m1, .inl (c1, 1024, .inr (.inl A1))), (m4, .inl (c4, 20, .inl MK))] := hD
            have hl : lv_has ls 6 [(0, .ref xm), (1, .int (nI km)), (2, .int (nI w)), (3, .long x), (5, .int (nI k))] := hl
            refine lv_iload hx hb dX4_close_54 (lv_at hl 4 rfl) ?_
            refine lv_iload_n hx hb dX4_close_56 rfl (lv_at hl 1 rfl) ?_
            refine lv_icmp_ge (tgt := 81) hx hb dX4_close_57 (by decide) (fun c57 => ?_) (fun c57 => ?_)
            · -- 57: jumps
              have hk : km ≤ k := by
                rcases Nat.lt_or_ge k km with q | q
                · exact absurd c57 (nI_ge q (by omega))
                · exact q
              have ek : k = km := by omega
              rw [ek] at i3
              have j3 := w3.step i3
              refine lv_aload_n hx hb dX4_close_81 rfl (lv_at hl 0 rfl) ?_
              refine va_get (D := (dC, dI)) (ci := 4) (v := .ref m1) (C := RX4) (T := TM) (N := 12) hx hb hts hiX4 hown hK hP 0 rfl rfl 3 (by decide) f7 (fun _ h9 => h9) rfl dX4_close_82 ?_
              refine lv_iload_n hx hb dX4_close_85 rfl (lv_at hl 2 rfl) ?_
              refine lv_aload_n hx hb dX4_close_86 rfl (lv_at hl 0 rfl) ?_
              refine va_get (D := (dC, dI)) (ci := 4) (v := .ref m1) (C := RX4) (T := TM) (N := 12) hx hb hts hiX4 hown hK hP 0 rfl rfl 3 (by decide) f7 (fun _ h9 => h9) rfl dX4_close_87 ?_
              refine lv_iload_n hx hb dX4_close_90 rfl (lv_at hl 2 rfl) ?_
              refine ks_lald hx hb hK hP 1 0 rfl rfl (j := w) (by omega) (by decide) dX4_close_91 ?_
              refine lv_lload_n hx hb dX4_close_92 rfl (lv_at hl 3 rfl) ?_
              refine lv_land hx hb dX4_close_93 ?_
              refine ks_last hx hb hK hP hD hS 1 0 rfl rfl (j := w) (by omega) (by decide) dX4_close_94 (fun H locs hP hD hS => ?_)
              have hP : va_P (dC, dI) ksCl [(xm, .inr (4, [.int 0, .int (nI N), .int (nI wd), .ref m1, .ref m2, .ref m3, .ref m4, .ref m5, .int (nI 0), .int (nI kc), .int (nI kl), .int ac])), (m1, .inl (c1, 1024, .inr (.inl (vp_updL A1 w ((A1 w) &&& x))))), (m4, .inl (c4, 20, .inl MK))] H := hP
              have hD : va_D A [(xm, .inr (4, [.int 0, .int (nI N), .int (nI wd), .ref m1, .ref m2, .ref m3, .ref m4, .ref m5, .int (nI 0), .int (nI kc), .int (nI kl), .int ac])), (m1, .inl (c1, 1024, .inr (.inl (vp_updL A1 w ((A1 w) &&& x))))), (m4, .inl (c4, 20, .inl MK))] := hD
              refine lv_iinc (v := nI (w + 1)) (lv' := [(2, .int (nI (w + 1))), (0, .ref xm), (1, .int (nI km)), (3, .long x), (5, .int (nI k))]) hx hb dX4_close_95 hl (k := 2) rfl (nI_1 _) (by decide) rfl (fun ls hl => ?_)
              refine lv_goto (tgt := 41) hx hb dX4_close_98 (by decide) ?_
              exact ih1 (w + 1, vp_updL A1 w ((A1 w) &&& x)) _ _ _ ⟨hw, by omega, j3, hP, hD, hS, lv_sub hl [1, 2, 0] rfl⟩
            · -- 57: goes on
              have hk : k < km := by
                rcases Nat.lt_or_ge k km with q | q
                · exact q
                · exact absurd (nI_le q (by omega)) c57
              obtain ⟨v0, hv⟩ := hlit k hk
              refine lv_lload_n hx hb dX4_close_60 rfl (lv_at hl 3 rfl) ?_
              refine lv_aload_n hx hb dX4_close_61 rfl (lv_at hl 0 rfl) ?_
              refine lv_aload_n hx hb dX4_close_62 rfl (lv_at hl 0 rfl) ?_
              refine va_get (D := (dC, dI)) (ci := 4) (v := .ref m4) (C := RX4) (T := TM) (N := 12) hx hb hts hiX4 hown hK hP 0 rfl rfl 6 (by decide) f19 (fun _ h9 => h9) rfl dX4_close_63 ?_
              refine lv_iload hx hb dX4_close_66 (lv_at hl 4 rfl) ?_
              refine ks_ald hx hb hK hP 2 1 rfl rfl (j := k) (by omega) (by decide) dX4_close_68 ?_
              refine lv_iload_n hx hb dX4_close_69 rfl (lv_at hl 2 rfl) ?_
              refine ks_calllV (As := [.int (MK k), .int (nI w)]) (rest := [.long x]) (wr := [(m1, .inl (c1, 1024, .inr (.inl A1))), (m4, .inl (c4, 20, .inl MK))]) (wz := fun _ => [(xm, .inr (4, [.int 0, .int (nI N), .int (nI wd), .ref m1, .ref m2, .ref m3, .ref m4, .ref m5, .int (nI 0), .int (nI kc), .int (nI kl), .int ac])), (m1, .inl (c1, 1024, .inr (.inl A1))), (m4, .inl (c4, 20, .inl MK))]) ⟨hx, hb, hml, hown, hts⟩ (km_row l dC dI xm m1 m2 m3 m4 m5 wd N 0 (nI 0) (nI kc) (nI kl) ac (MK k) v0 w hN hv (by omega)) (cwV 2 hts gX4_close_X4_row rfl rfl rfl (by decide +kernel) ⟨Nat.le_of_ble_eq_true rfl, Nat.le_of_ble_eq_true rfl⟩) hK hP hD hS hA hNW [0] [1, 2] [] [2, 0, 1] rfl rfl rfl rfl (by decide) (by decide) (by decide) (ci := 4) (q0 := 0) rfl rfl rfl (fun _ => rfl) (fun _ => rfl) (by decide) rfl hl.1 rfl (Nat.le_of_ble_eq_true rfl) dX4_close_70 ⟨Nat.le_of_ble_eq_true rfl, Nat.le_of_ble_eq_true rfl⟩ (fun r6 u9 H locs hw9 hK9 hP hD hS => ?_)
              have hrw : ks_rw N (MK k) w r6 := hw9
              have hP : va_P (dC, dI) ksCl [(xm, .inr (4, [.int 0, .int (nI N), .int (nI wd), .ref m1, .ref m2, .ref m3, .ref m4, .ref m5, .int (nI 0), .int (nI kc), .int (nI kl), .int ac])), (m1, .inl (c1, 1024, .inr (.inl A1))), (m4, .inl (c4, 20, .inl MK))] H := hP
              have hD : va_D A [(xm, .inr (4, [.int 0, .int (nI N), .int (nI wd), .ref m1, .ref m2, .ref m3, .ref m4, .ref m5, .int (nI 0), .int (nI kc), .int (nI kl), .int ac])), (m1, .inl (c1, 1024, .inr (.inl A1))), (m4, .inl (c4, 20, .inl MK))] := hD
              refine lv_lor hx hb dX4_close_73 ?_
              refine lv_lstore_n (lv' := [(3, .long (x ||| r6)), (0, .ref xm), (1, .int (nI km)), (2, .int (nI w)), (5, .int (nI k))]) hx hb dX4_close_74 rfl hl (by decide) rfl (fun ls hl => ?_)
              refine lv_iinc (v := nI (k + 1)) (lv' := [(5, .int (nI (k + 1))), (3, .long (x ||| r6)), (0, .ref xm), (1, .int (nI km)), (2, .int (nI w))]) hx hb dX4_close_75 hl (k := 4) rfl (nI_1 _) (by decide) rfl (fun ls hl => ?_)
              refine lv_goto (tgt := 54) hx hb dX4_close_78 (by decide) ?_
              exact ih2 (k + 1, x ||| r6) _ _ _ ⟨hk, by omega, i3.add hrw, hP, hD, hS, lv_sub hl [2, 3, 4, 1, 0] rfl⟩
          · intro x H locs ls h9
            obtain ⟨i1, i2, i3, -, -, -, -⟩ := h9
            try dsimp only at i1 i2
            omega
      · intro x H locs ls h9
        obtain ⟨w1, w2, w3, -, -, -, -⟩ := h9
        try dsimp only at w1 w2
        omega
    · -- 34: goes on
      have hno : ¬ (kc < 600 ∧ kl + km ≤ 4000) := fun q => c34 (nI_le q.2 (by decide))
      refine lv_iconst (v := -1) hx hb dX4_close_37 (by decide) ?_
      have hP9 : va_P (dC, dI) ksCl [(xm, .inr (4, [.int 0, .int (nI N), .int (nI wd), .ref m1, .ref m2, .ref m3, .ref m4, .ref m5, .int (nI 0), .int (nI kc), .int (nI kl), .int ac])), (m1, .inl (c1, 1024, .inr (.inl A0))), (m4, .inl (c4, 20, .inl MK))] _ := hP
      have hD9 : va_D A [(xm, .inr (4, [.int 0, .int (nI N), .int (nI wd), .ref m1, .ref m2, .ref m3, .ref m4, .ref m5, .int (nI 0), .int (nI kc), .int (nI kl), .int ac])), (m1, .inl (c1, 1024, .inr (.inl A0))), (m4, .inl (c4, 20, .inl MK))] := hD
      have hK9 : va_K (dC, dI) ksCl [(c1, .long), (c4, .int)] s := hK
      exact W.iret (v := -1) hx hb hr (fun t ht hW9 => ⟨⟨-1, (A0, kc, kl), rfl, Or.inl ⟨rfl, hno, rfl⟩, by rw [ht]; exact hP9, va_K.moved hW9.alike hK9, hD9⟩, hS.F ht⟩) hS.2.2 dX4_close_38
