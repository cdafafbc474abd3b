set_option maxHeartbeats 4000000 in
set_option maxRecDepth 100000 in
/-- the reference: clear -/
theorem km_clear (l : Launch) (dC : Nat → ClassId) (dI : Nat → Nat → Nat) (xm m1 m2 m3 m4 m5 wd : Nat) (c1 : ClassId) (N : Nat) (th km kc kl ac : Int32) (A0 : Nat → Int64) (hN : N ≤ 16) (hwd : wd = ks_wd N) : ks_Mv l yX4_clear wsX4_clear ({ frames := 0, cells := 0, slots := 0, locals := 0 }) (dC, dI) [.ref xm] [(xm, .inr (4, [.int th, .int (nI N), .int (nI wd), .ref m1, .ref m2, .ref m3, .ref m4, .ref m5, .int km, .int kc, .int kl, .int ac])), (m1, .inl (c1, 1024, .inr (.inl A0)))] [(c1, .long)] 0 0 (S := (Nat → Int64)) (fun u => ks_TT N u (fun _ => True)) (fun u => [(xm, .inr (4, [.int th, .int (nI N), .int (nI wd), .ref m1, .ref m2, .ref m3, .ref m4, .ref m5, .int (nI 0), .int (nI 0), .int (nI 0), .int (nI 0)])), (m1, .inl (c1, 1024, .inr (.inl u)))]) (fun u => [(c1, .long)]) := by
  intro sz
  refine Met.ofW (cc := cX4_clear) (maxL := 2) (ret := none) (by decide) rfl ?_
  intro p e s m args below meth c s₁ B9 hml hv
  obtain ⟨rfl, hsz, hP, hK, hD0, hNW⟩ := hv
  have hx := B9.exec
  have hb := B9.bytes
  have hr := B9.returns
  have hts := atoms_spec (ws := wsX4_clear) B9.pre
  have hown : s.vm.findClass RX4 = some m.cls := findClass_of_methodNamed B9.named
  have hlocks := B9.notSynchronized
  subst hsz
  have hD := hD0.self (sz := s.heap.size)
  generalize hAe : va_A [(xm, .inr (4, [.int th, .int (nI N), .int (nI wd), .ref m1, .ref m2, .ref m3, .ref m4, .ref m5, .int km, .int kc, .int kl, .int ac])), (m1, .inl (c1, 1024, .inr (.inl A0)))] s.heap.size = A at hD ⊢
  have hA : ∀ q : Nat, s.heap.size ≤ q → A q := fun q h => by rw [← hAe]; exact Or.inr h
  have hS : va_S A s.heap s.heap [] := va_S.rf
  have hiX4 : ∀ w ∈ u_ws RX4 TM 12, w ∈ wsX4_clear := by decide +kernel
  have f7 := hts (.fieldLink RX4 7 "LessonSolverModel" "all" "[J") (by decide +kernel)
  have f26 := hts (.fieldLink RX4 26 "LessonSolverModel" "n" "I") (by decide +kernel)
  have f30 := hts (.fieldLink RX4 30 "LessonSolverModel" "words" "I") (by decide +kernel)
  have f41 := hts (.fieldLink RX4 41 "LessonSolverModel" "made" "I") (by decide +kernel)
  have f44 := hts (.fieldLink RX4 44 "LessonSolverModel" "clauses" "I") (by decide +kernel)
  have f47 := hts (.fieldLink RX4 47 "LessonSolverModel" "literals" "I") (by decide +kernel)
  have f50 := hts (.fieldLink RX4 50 "LessonSolverModel" "assumptions" "I") (by decide +kernel)
  have k39 := hts (.constantLong RX4 39 (-1)) (by decide +kernel)
  have hl := lv_entry ([.ref xm]) (n := 2) (Nat.le_of_ble_eq_true rfl)
  rw [lg_entry_eq]
  generalize (lg_sl ([.ref xm]) ++ List.replicate (2 - (lg_sl ([.ref xm])).length) Slot.unset).toArray = ls at hl ⊢
  have hl : lv_has ls 2 [(0, .ref xm)] := hl
  have hwl : 1 ≤ wd ∧ wd ≤ 1024 := by rw [hwd]; exact ks_wd_le N hN
  refine lv_iconst (v := nI 0) hx hb dX4_clear_0 (by decide) ?_
  refine lv_istore_n (lv' := [(1, .int (nI 0)), (0, .ref xm)]) hx hb dX4_clear_1 rfl hl (by decide) rfl (fun ls hl => ?_)
  refine ks_wl (σ := Nat × (Nat → Int64)) (fun n x H locs ls => (x.1 ≤ wd) ∧ (n + x.1 = wd + 1) ∧ (ks_TL N x.2 (fun _ => True) x.1) ∧ va_P (dC, dI) ksCl [(xm, .inr (4, [.int th, .int (nI N), .int (nI wd), .ref m1, .ref m2, .ref m3, .ref m4, .ref m5, .int km, .int kc, .int kl, .int ac])), (m1, .inl (c1, 1024, .inr (.inl x.2)))] H ∧ va_D A [(xm, .inr (4, [.int th, .int (nI N), .int (nI wd), .ref m1, .ref m2, .ref m3, .ref m4, .ref m5, .int km, .int kc, .int kl, .int ac])), (m1, .inl (c1, 1024, .inr (.inl x.2)))] ∧ va_S A s.heap H locs ∧ lv_has ls 2 [(0, .ref xm), (1, .int (nI x.1))]) 2 ?_ ?_ (wd + 1) (0, A0) _ _ ls ⟨Nat.zero_le _, rfl, fun i hi => absurd hi (Nat.not_lt_zero i), hP, hD, hS, lv_sub hl [1, 0] rfl⟩
  · -- loop at 2
    intro n x H locs ls h9 ih
    obtain ⟨w, A1⟩ := x
    obtain ⟨i1, i2, i3, hP, hD, hS, hl⟩ := h9
    have i1 : w ≤ wd := i1
    have i2 : (n + 1) + w = wd + 1 := i2
    have i3 : ks_TL N A1 (fun _ => True) w := i3
    have hP : va_P (dC, dI) ksCl [(xm, .inr (4, [.int th, .int (nI N), .int (nI wd), .ref m1, .ref m2, .ref m3, .ref m4, .ref m5, .int km, .int kc, .int kl, .int ac])), (m1, .inl (c1, 1024, .inr (.inl A1)))] H := hP
    have hD : va_D A [(xm, .inr (4, [.int th, .int (nI N), .int (nI wd), .ref m1, .ref m2, .ref m3, .ref m4, .ref m5, .int km, .int kc, .int kl, .int ac])), (m1, .inl (c1, 1024, .inr (.inl A1)))] := hD
    have hl : lv_has ls 2 [(0, .ref xm), (1, .int (nI w))] := hl
    refine lv_iload_n hx hb dX4_clear_2 rfl (lv_at hl 1 rfl) ?_
    refine lv_aload_n hx hb dX4_clear_3 rfl (lv_at hl 0 rfl) ?_
    refine va_get (D := (dC, dI)) (ci := 4) (v := .int (nI wd)) (C := RX4) (T := TM) (N := 12) hx hb hts hiX4 hown hK hP 0 rfl rfl 2 (by decide) f30 (fun _ h9 => h9) rfl dX4_clear_4 ?_
    refine lv_icmp_ge (tgt := 47) hx hb dX4_clear_7 (by decide) (fun c7 => ?_) (fun c7 => ?_)
    · -- 7: jumps
      have hw : wd ≤ w := by
        rcases Nat.lt_or_ge w wd with q | q
        · exact absurd c7 (nI_ge q (by omega))
        · exact q
      have ew : w = ks_wd N := by omega
      rw [ew] at i3
      refine lv_aload_n hx hb dX4_clear_47 rfl (lv_at hl 0 rfl) ?_
      refine lv_iconst (v := nI 0) hx hb dX4_clear_48 (by decide) ?_
      refine va_put (D := (dC, dI)) (ci := 4) (v := .int (nI 0)) (ty := .int) (C := RX4) (T := TM) (N := 12) hx hb hts hiX4 tyM tyM_ok nmM hown hK hP hD hS 0 rfl rfl 8 (by decide) f41 (fun _ h9 => h9) rfl (by decide +kernel) rfl rfl (Nat.le_of_ble_eq_true rfl) dX4_clear_49 (fun H locs hP hD hS => ?_)
      have hP : va_P (dC, dI) ksCl [(xm, .inr (4, [.int th, .int (nI N), .int (nI wd), .ref m1, .ref m2, .ref m3, .ref m4, .ref m5, .int (nI 0), .int kc, .int kl, .int ac])), (m1, .inl (c1, 1024, .inr (.inl A1)))] H := hP
      have hD : va_D A [(xm, .inr (4, [.int th, .int (nI N), .int (nI wd), .ref m1, .ref m2, .ref m3, .ref m4, .ref m5, .int (nI 0), .int kc, .int kl, .int ac])), (m1, .inl (c1, 1024, .inr (.inl A1)))] := hD
      refine lv_aload_n hx hb dX4_clear_52 rfl (lv_at hl 0 rfl) ?_
      refine lv_iconst (v := nI 0) hx hb dX4_clear_53 (by decide) ?_
      refine va_put (D := (dC, dI)) (ci := 4) (v := .int (nI 0)) (ty := .int) (C := RX4) (T := TM) (N := 12) hx hb hts hiX4 tyM tyM_ok nmM hown hK hP hD hS 0 rfl rfl 9 (by decide) f44 (fun _ h9 => h9) rfl (by decide +kernel) rfl rfl (Nat.le_of_ble_eq_true rfl) dX4_clear_54 (fun H locs hP hD hS => ?_)
      have hP : va_P (dC, dI) ksCl [(xm, .inr (4, [.int th, .int (nI N), .int (nI wd), .ref m1, .ref m2, .ref m3, .ref m4, .ref m5, .int (nI 0), .int (nI 0), .int kl, .int ac])), (m1, .inl (c1, 1024, .inr (.inl A1)))] H := hP
      have hD : va_D A [(xm, .inr (4, [.int th, .int (nI N), .int (nI wd), .ref m1, .ref m2, .ref m3, .ref m4, .ref m5, .int (nI 0), .int (nI 0), .int kl, .int ac])), (m1, .inl (c1, 1024, .inr (.inl A1)))] := hD
      refine lv_aload_n hx hb dX4_clear_57 rfl (lv_at hl 0 rfl) ?_
      refine lv_iconst (v := nI 0) hx hb dX4_clear_58 (by decide) ?_
      refine va_put (D := (dC, dI)) (ci := 4) (v := .int (nI 0)) (ty := .int) (C := RX4) (T := TM) (N := 12) hx hb hts hiX4 tyM tyM_ok nmM hown hK hP hD hS 0 rfl rfl 10 (by decide) f47 (fun _ h9 => h9) rfl (by decide +kernel) rfl rfl (Nat.le_of_ble_eq_true rfl) dX4_clear_59 (fun H locs hP hD hS => ?_)
      have hP : va_P (dC, dI) ksCl [(xm, .inr (4, [.int th, .int (nI N), .int (nI wd), .ref m1, .ref m2, .ref m3, .ref m4, .ref m5, .int (nI 0), .int (nI 0), .int (nI 0), .int ac])), (m1, .inl (c1, 1024, .inr (.inl A1)))] H := hP
      have hD : va_D A [(xm, .inr (4, [.int th, .int (nI N), .int (nI wd), .ref m1, .ref m2, .ref m3, .ref m4, .ref m5, .int (nI 0), .int (nI 0), .int (nI 0), .int ac])), (m1, .inl (c1, 1024, .inr (.inl A1)))] := hD
      refine lv_aload_n hx hb dX4_clear_62 rfl (lv_at hl 0 rfl) ?_
      refine lv_iconst (v := nI 0) hx hb dX4_clear_63 (by decide) ?_
      refine va_put (D := (dC, dI)) (ci := 4) (v := .int (nI 0)) (ty := .int) (C := RX4) (T := TM) (N := 12) hx hb hts hiX4 tyM tyM_ok nmM hown hK hP hD hS 0 rfl rfl 11 (by decide) f50 (fun _ h9 => h9) rfl (by decide +kernel) rfl rfl (Nat.le_of_ble_eq_true rfl) dX4_clear_64 (fun H locs hP hD hS => ?_)
      have hP : va_P (dC, dI) ksCl [(xm, .inr (4, [.int th, .int (nI N), .int (nI wd), .ref m1, .ref m2, .ref m3, .ref m4, .ref m5, .int (nI 0), .int (nI 0), .int (nI 0), .int (nI 0)])), (m1, .inl (c1, 1024, .inr (.inl A1)))] H := hP
      have hD : va_D A [(xm, .inr (4, [.int th, .int (nI N), .int (nI wd), .ref m1, .ref m2, .ref m3, .ref m4, .ref m5, .int (nI 0), .int (nI 0), .int (nI 0), .int (nI 0)])), (m1, .inl (c1, 1024, .inr (.inl A1)))] := hD
      have hP9 : va_P (dC, dI) ksCl [(xm, .inr (4, [.int th, .int (nI N), .int (nI wd), .ref m1, .ref m2, .ref m3, .ref m4, .ref m5, .int (nI 0), .int (nI 0), .int (nI 0), .int (nI 0)])), (m1, .inl (c1, 1024, .inr (.inl A1)))] _ := hP
      have hD9 : va_D A [(xm, .inr (4, [.int th, .int (nI N), .int (nI wd), .ref m1, .ref m2, .ref m3, .ref m4, .ref m5, .int (nI 0), .int (nI 0), .int (nI 0), .int (nI 0)])), (m1, .inl (c1, 1024, .inr (.inl A1)))] := hD
      have hK9 : va_K (dC, dI) ksCl [(c1, .long)] s := hK
      exact W.vret hx hb hr (fun t ht hW9 => ⟨⟨A1, rfl, i3, by rw [ht]; exact hP9, va_K.moved hW9.alike hK9, hD9⟩, hS.F ht⟩) hS.2.2 dX4_clear_67
    · -- 7: goes on
      have hw : w < wd := by
        rcases Nat.lt_or_ge w wd with q | q
        · exact q
        · exact absurd (nI_le q (by omega)) c7
      refine lv_aload_n hx hb dX4_clear_10 rfl (lv_at hl 0 rfl) ?_
      refine va_get (D := (dC, dI)) (ci := 4) (v := .ref m1) (C := RX4) (T := TM) (N := 12) hx hb hts hiX4 hown hK hP 0 rfl rfl 3 (by decide) f7 (fun _ h9 => h9) rfl dX4_clear_11 ?_
      refine lv_iload_n hx hb dX4_clear_14 rfl (lv_at hl 1 rfl) ?_
      refine lv_aload_n hx hb dX4_clear_15 rfl (lv_at hl 0 rfl) ?_
      refine va_get (D := (dC, dI)) (ci := 4) (v := .int (nI N)) (C := RX4) (T := TM) (N := 12) hx hb hts hiX4 hown hK hP 0 rfl rfl 1 (by decide) f26 (fun _ h9 => h9) rfl dX4_clear_16 ?_
      refine lv_bipush (v := nI 6) hx hb dX4_clear_19 (by decide) ?_
      refine lv_icmp_ge (tgt := 37) hx hb dX4_clear_21 (by decide) (fun c21 => ?_) (fun c21 => ?_)
      · -- 21: jumps
        have h6 : 6 ≤ N := by
          rcases Nat.lt_or_ge N 6 with q | q
          · exact absurd c21 (nI_ge q (by decide))
          · exact q
        have j3 := i3.hi hN h6 (by rw [← hwd]; exact hw)
        refine lv_ldc2 (v := (-1)) hx hb hown k39 dX4_clear_37 ?_
        refine ks_last hx hb hK hP hD hS 1 0 rfl rfl (j := w) (by omega) (by decide) dX4_clear_40 (fun H locs hP hD hS => ?_)
        have hP : va_P (dC, dI) ksCl [(xm, .inr (4, [.int th, .int (nI N), .int (nI wd), .ref m1, .ref m2, .ref m3, .ref m4, .ref m5, .int km, .int kc, .int kl, .int ac])), (m1, .inl (c1, 1024, .inr (.inl (vp_updL A1 w (-1)))))] H := hP
        have hD : va_D A [(xm, .inr (4, [.int th, .int (nI N), .int (nI wd), .ref m1, .ref m2, .ref m3, .ref m4, .ref m5, .int km, .int kc, .int kl, .int ac])), (m1, .inl (c1, 1024, .inr (.inl (vp_updL A1 w (-1)))))] := hD
        refine lv_iinc (v := nI (w + 1)) (lv' := [(1, .int (nI (w + 1))), (0, .ref xm)]) hx hb dX4_clear_41 hl (k := 1) rfl (nI_1 _) (by decide) rfl (fun ls hl => ?_)
        refine lv_goto (tgt := 2) hx hb dX4_clear_44 (by decide) ?_
        exact ih (w + 1, vp_updL A1 w (-1)) _ _ _ ⟨hw, by omega, j3, hP, hD, hS, lv_sub hl [1, 0] rfl⟩
      · -- 21: goes on
        have h6 : N < 6 := by
          rcases Nat.lt_or_ge N 6 with q | q
          · exact q
          · exact absurd (nI_le q (by omega)) c21
        have j3 := i3.lo h6 (by rw [← hwd]; exact hw)
        refine lv_lconst (v := 1) hx hb dX4_clear_24 (by decide) ?_
        refine lv_iconst (v := 1) hx hb dX4_clear_25 (by decide) ?_
        refine lv_aload_n hx hb dX4_clear_26 rfl (lv_at hl 0 rfl) ?_
        refine va_get (D := (dC, dI)) (ci := 4) (v := .int (nI N)) (C := RX4) (T := TM) (N := 12) hx hb hts hiX4 hown hK hP 0 rfl rfl 1 (by decide) f26 (fun _ h9 => h9) rfl dX4_clear_27 ?_
        refine lv_ishl hx hb dX4_clear_30 ?_
        refine lv_lshl hx hb dX4_clear_31 rfl ?_
        refine lv_lconst (v := 1) hx hb dX4_clear_32 (by decide) ?_
        refine lv_lsub hx hb dX4_clear_33 ?_
        refine ks_topl (y := ks_cN N) (rfl) ?_
        refine lv_goto (tgt := 40) hx hb dX4_clear_34 (by decide) ?_
        refine ks_last hx hb hK hP hD hS 1 0 rfl rfl (j := w) (by omega) (by decide) dX4_clear_40 (fun H locs hP hD hS => ?_)
        have hP : va_P (dC, dI) ksCl [(xm, .inr (4, [.int th, .int (nI N), .int (nI wd), .ref m1, .ref m2, .ref m3, .ref m4, .ref m5, .int km, .int kc, .int kl, .int ac])), (m1, .inl (c1, 1024, .inr (.inl (vp_updL A1 w (ks_cN N)))))] H := hP
        have hD : va_D A [(xm, .inr (4, [.int th, .int (nI N), .int (nI wd), .ref m1, .ref m2, .ref m3, .ref m4, .ref m5, .int km, .int kc, .int kl, .int ac])), (m1, .inl (c1, 1024, .inr (.inl (vp_updL A1 w (ks_cN N)))))] := hD
        refine lv_iinc (v := nI (w + 1)) (lv' := [(1, .int (nI (w + 1))), (0, .ref xm)]) hx hb dX4_clear_41 hl (k := 1) rfl (nI_1 _) (by decide) rfl (fun ls hl => ?_)
        refine lv_goto (tgt := 2) hx hb dX4_clear_44 (by decide) ?_
        exact ih (w + 1, vp_updL A1 w (ks_cN N)) _ _ _ ⟨hw, by omega, j3, hP, hD, hS, lv_sub hl [1, 0] rfl⟩
  · intro x H locs ls h9
    obtain ⟨i1, i2, i3, -, -, -, -⟩ := h9
    try dsimp only at i1 i2
    omega
