set_option maxHeartbeats 4000000 in
set_option maxRecDepth 100000 in
/-- the reference: leaves -/
theorem km_leaves (l : Launch) (dC : Nat → ClassId) (dI : Nat → Nat → Nat) (xm m1 m2 m3 m4 m5 wd : Nat) (c1 c2 c5 : ClassId) (N : Nat) (th km kc kl : Int32) (ac : Nat) (A0 LF : Nat → Int64) (AS : Nat → Int32) (F : (Nat → Bool) → Prop) (ch : Int64) (hN : N ≤ 16) (hwd : wd = ks_wd N) (hac : ac ≤ 40) (hlit : ∀ j, j < ac → ∃ v, ks_lit N (AS j) v) (hT : ks_TT N A0 F) : ks_Mi l yX4_leaves wsX4_leaves ({ frames := 1, cells := 0, slots := 0, locals := 25 }) (dC, dI) [.ref xm, .long ch] [(xm, .inr (4, [.int th, .int (nI N), .int (nI wd), .ref m1, .ref m2, .ref m3, .ref m4, .ref m5, .int km, .int kc, .int kl, .int (nI ac)])), (m1, .inl (c1, 1024, .inr (.inl A0))), (m2, .inl (c2, 1024, .inr (.inl LF))), (m5, .inl (c5, 40, .inl AS))] [(c1, .long), (c2, .long), (c5, .int)] 0 0 (S := (Nat → Int64)) (fun r u => ks_TT N u (ks_Z N AS ac ch 0 F) ∧ ((r = 0 ∧ ∀ v, v < 2 ^ N → ¬ (ks_Z N AS ac ch 0 F) v.testBit) ∨ (r = 1 ∧ ¬ ∀ v, v < 2 ^ N → ¬ (ks_Z N AS ac ch 0 F) v.testBit))) (fun u => [(xm, .inr (4, [.int th, .int (nI N), .int (nI wd), .ref m1, .ref m2, .ref m3, .ref m4, .ref m5, .int km, .int kc, .int kl, .int (nI ac)])), (m1, .inl (c1, 1024, .inr (.inl A0))), (m2, .inl (c2, 1024, .inr (.inl u))), (m5, .inl (c5, 40, .inl AS))]) (fun u => [(c1, .long), (c2, .long), (c5, .int)]) := by
  intro sz
  refine Met.ofW (cc := cX4_leaves) (maxL := 7) (ret := (some .boolean)) (by decide) rfl ?_
  intro p e s m args below meth c s₁ B9 hml hv
  obtain ⟨rfl, hsz, hP, hK, hD0, hNW⟩ := hv
  have hx := B9.exec
  have hb := B9.bytes
  have hr := B9.returns
  have hts := atoms_spec (ws := wsX4_leaves) B9.pre
  have hown : s.vm.findClass RX4 = some m.cls := findClass_of_methodNamed B9.named
  have hlocks := B9.notSynchronized
  subst hsz
  have hD := hD0.self (sz := s.heap.size)
  generalize hAe : va_A [(xm, .inr (4, [.int th, .int (nI N), .int (nI wd), .ref m1, .ref m2, .ref m3, .ref m4, .ref m5, .int km, .int kc, .int kl, .int (nI ac)])), (m1, .inl (c1, 1024, .inr (.inl A0))), (m2, .inl (c2, 1024, .inr (.inl LF))), (m5, .inl (c5, 40, .inl AS))] s.heap.size = A at hD ⊢
  have hA : ∀ q : Nat, s.heap.size ≤ q → A q := fun q h => by rw [← hAe]; exact Or.inr h
  have hS : va_S A s.heap s.heap [] := va_S.rf
  have hiX4 : ∀ w ∈ u_ws RX4 TM 12, w ∈ wsX4_leaves := by decide +kernel
  have f7 := hts (.fieldLink RX4 7 "LessonSolverModel" "all" "[J") (by decide +kernel)
  have f13 := hts (.fieldLink RX4 13 "LessonSolverModel" "left" "[J") (by decide +kernel)
  have f23 := hts (.fieldLink RX4 23 "LessonSolverModel" "assumed" "[I") (by decide +kernel)
  have f30 := hts (.fieldLink RX4 30 "LessonSolverModel" "words" "I") (by decide +kernel)
  have f50 := hts (.fieldLink RX4 50 "LessonSolverModel" "assumptions" "I") (by decide +kernel)
  have hl := lv_entry ([.ref xm, .long ch]) (n := 7) (Nat.le_of_ble_eq_true rfl)
  rw [lg_entry_eq]
  generalize (lg_sl ([.ref xm, .long ch]) ++ List.replicate (7 - (lg_sl ([.ref xm, .long ch])).length) Slot.unset).toArray = ls at hl ⊢
  have hl : lv_has ls 7 [(0, .ref xm), (1, .long ch)] := hl
  have hwl : 1 ≤ wd ∧ wd ≤ 1024 := by rw [hwd]; exact ks_wd_le N hN
  refine lv_lconst (v := 0) hx hb dX4_leaves_0 (by decide) ?_
  refine lv_lstore_n (lv' := [(3, .long 0), (0, .ref xm), (1, .long ch)]) hx hb dX4_leaves_1 rfl hl (by decide) rfl (fun ls hl => ?_)
  refine lv_iconst (v := nI 0) hx hb dX4_leaves_2 (by decide) ?_
  refine lv_istore (lv' := [(5, .int (nI 0)), (3, .long 0), (0, .ref xm), (1, .long ch)]) hx hb dX4_leaves_3 hl (by decide) rfl (fun ls hl => ?_)
  refine ks_wl (σ := Nat × (Nat → Int64) × Int64) (fun n x H locs ls => (x.1 ≤ wd) ∧ (n + x.1 = wd + 1) ∧ (ks_TL N x.2.1 (ks_Z N AS ac ch 0 F) x.1) ∧ (ks_sm x.2.1 x.1 x.2.2) ∧ va_P (dC, dI) ksCl [(xm, .inr (4, [.int th, .int (nI N), .int (nI wd), .ref m1, .ref m2, .ref m3, .ref m4, .ref m5, .int km, .int kc, .int kl, .int (nI ac)])), (m1, .inl (c1, 1024, .inr (.inl A0))), (m2, .inl (c2, 1024, .inr (.inl x.2.1))), (m5, .inl (c5, 40, .inl AS))] H ∧ va_D A [(xm, .inr (4, [.int th, .int (nI N), .int (nI wd), .ref m1, .ref m2, .ref m3, .ref m4, .ref m5, .int km, .int kc, .int kl, .int (nI ac)])), (m1, .inl (c1, 1024, .inr (.inl A0))), (m2, .inl (c2, 1024, .inr (.inl x.2.1))), (m5, .inl (c5, 40, .inl AS))] ∧ va_S A s.heap H locs ∧ lv_has ls 7 [(0, .ref xm), (1, .long ch), (3, .long x.2.2), (5, .int (nI x.1))]) 5 ?_ ?_ (wd + 1) (0, LF, 0) _ _ ls ⟨Nat.zero_le _, rfl, fun i hi => absurd hi (Nat.not_lt_zero i), ks_sm.zero LF, hP, hD, hS, lv_sub hl [2, 3, 1, 0] rfl⟩
  · -- loop at 5
    intro n1 x H locs ls h9 ih1
    obtain ⟨w, L1, sm⟩ := x
    obtain ⟨w1, w2, w3, w4, hP, hD, hS, hl⟩ := h9
    have w1 : w ≤ wd := w1
    have w2 : (n1 + 1) + w = wd + 1 := w2
    have w3 : ks_TL N L1 (ks_Z N AS ac ch 0 F) w := w3
    have w4 : ks_sm L1 w sm := w4
    have hP : va_P (dC, dI) ksCl [(xm, .inr (4, [.int th, .int (nI N), .int (nI wd), .ref m1, .ref m2, .ref m3, .ref m4, .ref m5, .int km, .int kc, .int kl, .int (nI ac)])), (m1, .inl (c1, 1024, .inr (.inl A0))), (m2, .inl (c2, 1024, .inr (.inl L1))), (m5, .inl (c5, 40, .inl AS))] H := hP
    have hD : va_D A [(xm, .inr (4, [.int th, .int (nI N), .int (nI wd), .ref m1, .ref m2, .ref m3, .ref m4, .ref m5, .int km, .int kc, .int kl, .int (nI ac)])), (m1, .inl (c1, 1024, .inr (.inl A0))), (m2, .inl (c2, 1024, .inr (.inl L1))), (m5, .inl (c5, 40, .inl AS))] := hD
    have hl : lv_has ls 7 [(0, .ref xm), (1, .long ch), (3, .long sm), (5, .int (nI w))] := hl
    refine lv_iload hx hb dX4_leaves_5 (lv_at hl 3 rfl) ?_
    refine lv_aload_n hx hb dX4_leaves_7 rfl (lv_at hl 0 rfl) ?_
    refine va_get (D := (dC, dI)) (ci := 4) (v := .int (nI wd)) (C := RX4) (T := TM) (N := 12) hx hb hts hiX4 hown hK hP 0 rfl rfl 2 (by decide) f30 (fun _ h9 => h9) rfl dX4_leaves_8 ?_
    refine lv_icmp_ge (tgt := 101) hx hb dX4_leaves_11 (by decide) (fun c11 => ?_) (fun c11 => ?_)
    · -- 11: jumps
      have hw : wd ≤ w := by
        rcases Nat.lt_or_ge w wd with q | q
        · exact absurd c11 (nI_ge q (by omega))
        · exact q
      have ew : w = ks_wd N := by omega
      rw [ew] at w3 w4
      have hz9 := w4.zero_iff hN w3
      refine lv_lload_n hx hb dX4_leaves_101 rfl (lv_at hl 2 rfl) ?_
      refine lv_lconst (v := 0) hx hb dX4_leaves_102 (by decide) ?_
      refine W.lcmp hx hb dX4_leaves_103 ?_
      refine lv_if_eq (tgt := 111) hx hb dX4_leaves_104 (by decide) (fun c104 => ?_) (fun c104 => ?_)
      · -- 104: jumps
        have hm9 := hz9.mp ((lg_cmp_eq _ _).mp c104)
        refine lv_iconst (v := 0) hx hb dX4_leaves_111 (by decide) ?_
        have hP9 : va_P (dC, dI) ksCl [(xm, .inr (4, [.int th, .int (nI N), .int (nI wd), .ref m1, .ref m2, .ref m3, .ref m4, .ref m5, .int km, .int kc, .int kl, .int (nI ac)])), (m1, .inl (c1, 1024, .inr (.inl A0))), (m2, .inl (c2, 1024, .inr (.inl L1))), (m5, .inl (c5, 40, .inl AS))] _ := hP
        have hD9 : va_D A [(xm, .inr (4, [.int th, .int (nI N), .int (nI wd), .ref m1, .ref m2, .ref m3, .ref m4, .ref m5, .int km, .int kc, .int kl, .int (nI ac)])), (m1, .inl (c1, 1024, .inr (.inl A0))), (m2, .inl (c2, 1024, .inr (.inl L1))), (m5, .inl (c5, 40, .inl AS))] := hD
        have hK9 : va_K (dC, dI) ksCl [(c1, .long), (c2, .long), (c5, .int)] s := hK
        exact W.zret (v := 0) (ty := .boolean) hx hb hr (by decide) (fun t ht hW9 => ⟨⟨0, L1, rfl, ⟨w3, Or.inl ⟨rfl, hm9⟩⟩, by rw [ht]; exact hP9, va_K.moved hW9.alike hK9, hD9⟩, hS.F ht⟩) hS.2.2 dX4_leaves_112
      · -- 104: goes on
        have hm9 : ¬ ∀ v, v < 2 ^ N → ¬ (ks_Z N AS ac ch 0 F) v.testBit := fun q => c104 ((lg_cmp_eq _ _).mpr (hz9.mpr q))
        refine lv_iconst (v := 1) hx hb dX4_leaves_107 (by decide) ?_
        refine lv_goto (tgt := 112) hx hb dX4_leaves_108 (by decide) ?_
        have hP9 : va_P (dC, dI) ksCl [(xm, .inr (4, [.int th, .int (nI N), .int (nI wd), .ref m1, .ref m2, .ref m3, .ref m4, .ref m5, .int km, .int kc, .int kl, .int (nI ac)])), (m1, .inl (c1, 1024, .inr (.inl A0))), (m2, .inl (c2, 1024, .inr (.inl L1))), (m5, .inl (c5, 40, .inl AS))] _ := hP
        have hD9 : va_D A [(xm, .inr (4, [.int th, .int (nI N), .int (nI wd), .ref m1, .ref m2, .ref m3, .ref m4, .ref m5, .int km, .int kc, .int kl, .int (nI ac)])), (m1, .inl (c1, 1024, .inr (.inl A0))), (m2, .inl (c2, 1024, .inr (.inl L1))), (m5, .inl (c5, 40, .inl AS))] := hD
        have hK9 : va_K (dC, dI) ksCl [(c1, .long), (c2, .long), (c5, .int)] s := hK
        exact W.zret (v := 1) (ty := .boolean) hx hb hr (by decide) (fun t ht hW9 => ⟨⟨1, L1, rfl, ⟨w3, Or.inr ⟨rfl, hm9⟩⟩, by rw [ht]; exact hP9, va_K.moved hW9.alike hK9, hD9⟩, hS.F ht⟩) hS.2.2 dX4_leaves_112
    · -- 11: goes on
      have hw : w < wd := by
        rcases Nat.lt_or_ge w wd with q | q
        · exact q
        · exact absurd (nI_le q (by omega)) c11
      refine lv_aload_n hx hb dX4_leaves_14 rfl (lv_at hl 0 rfl) ?_
      refine va_get (D := (dC, dI)) (ci := 4) (v := .ref m2) (C := RX4) (T := TM) (N := 12) hx hb hts hiX4 hown hK hP 0 rfl rfl 4 (by decide) f13 (fun _ h9 => h9) rfl dX4_leaves_15 ?_
      refine lv_iload hx hb dX4_leaves_18 (lv_at hl 3 rfl) ?_
      refine lv_aload_n hx hb dX4_leaves_20 rfl (lv_at hl 0 rfl) ?_
      refine va_get (D := (dC, dI)) (ci := 4) (v := .ref m1) (C := RX4) (T := TM) (N := 12) hx hb hts hiX4 hown hK hP 0 rfl rfl 3 (by decide) f7 (fun _ h9 => h9) rfl dX4_leaves_21 ?_
      refine lv_iload hx hb dX4_leaves_24 (lv_at hl 3 rfl) ?_
      refine ks_lald hx hb hK hP 1 0 rfl rfl (j := w) (by omega) (by decide) dX4_leaves_26 ?_
      refine ks_last hx hb hK hP hD hS 2 1 rfl rfl (j := w) (by omega) (by decide) dX4_leaves_27 (fun H locs hP hD hS => ?_)
      have hP : va_P (dC, dI) ksCl [(xm, .inr (4, [.int th, .int (nI N), .int (nI wd), .ref m1, .ref m2, .ref m3, .ref m4, .ref m5, .int km, .int kc, .int kl, .int (nI ac)])), (m1, .inl (c1, 1024, .inr (.inl A0))), (m2, .inl (c2, 1024, .inr (.inl (vp_updL L1 w (A0 w))))), (m5, .inl (c5, 40, .inl AS))] H := hP
      have hD : va_D A [(xm, .inr (4, [.int th, .int (nI N), .int (nI wd), .ref m1, .ref m2, .ref m3, .ref m4, .ref m5, .int km, .int kc, .int kl, .int (nI ac)])), (m1, .inl (c1, 1024, .inr (.inl A0))), (m2, .inl (c2, 1024, .inr (.inl (vp_updL L1 w (A0 w))))), (m5, .inl (c5, 40, .inl AS))] := hD
      refine lv_iconst (v := nI 0) hx hb dX4_leaves_28 (by decide) ?_
      refine lv_istore (lv' := [(6, .int (nI 0)), (0, .ref xm), (1, .long ch), (3, .long sm), (5, .int (nI w))]) hx hb dX4_leaves_29 hl (by decide) rfl (fun ls hl => ?_)
      refine ks_wl (σ := Nat × (Nat → Int64)) (fun n x H locs ls => (x.1 ≤ ac) ∧ (n + x.1 = ac + 1) ∧ (∀ i, i < w → x.2 i = L1 i) ∧ (ks_lw N AS ch F w x.1 (x.2 w)) ∧ va_P (dC, dI) ksCl [(xm, .inr (4, [.int th, .int (nI N), .int (nI wd), .ref m1, .ref m2, .ref m3, .ref m4, .ref m5, .int km, .int kc, .int kl, .int (nI ac)])), (m1, .inl (c1, 1024, .inr (.inl A0))), (m2, .inl (c2, 1024, .inr (.inl x.2))), (m5, .inl (c5, 40, .inl AS))] H ∧ va_D A [(xm, .inr (4, [.int th, .int (nI N), .int (nI wd), .ref m1, .ref m2, .ref m3, .ref m4, .ref m5, .int km, .int kc, .int kl, .int (nI ac)])), (m1, .inl (c1, 1024, .inr (.inl A0))), (m2, .inl (c2, 1024, .inr (.inl x.2))), (m5, .inl (c5, 40, .inl AS))] ∧ va_S A s.heap H locs ∧ lv_has ls 7 [(0, .ref xm), (1, .long ch), (3, .long sm), (5, .int (nI w)), (6, .int (nI x.1))]) 31 ?_ ?_ (ac + 1) (0, vp_updL L1 w (A0 w)) _ _ ls ⟨Nat.zero_le _, rfl, fun i hi => pk_uLn (by omega), (by show ks_lw N AS ch F w 0 (vp_updL L1 w (A0 w) w); rw [pk_uLs]; exact ks_lw.zero hT (by rw [← hwd]; exact hw)), hP, hD, hS, lv_sub hl [1, 2, 3, 4, 0] rfl⟩
      · -- loop at 31
        intro n2 x H locs ls h9 ih2
        obtain ⟨j, L2⟩ := x
        obtain ⟨i1, i2, i3, i4, hP, hD, hS, hl⟩ := h9
        have i1 : j ≤ ac := i1
        have i2 : (n2 + 1) + j = ac + 1 := i2
        have i3 : ∀ i, i < w → L2 i = L1 i := i3
        have i4 : ks_lw N AS ch F w j (L2 w) := i4
        have hP : va_P (dC, dI) ksCl [(xm, .inr (4, [.int th, .int (nI N), .int (nI wd), .ref m1, .ref m2, .ref m3, .ref m4, .ref m5, .int km, .int kc, .int kl, .int (nI ac)])), (m1, .inl (c1, 1024, .inr (.inl A0))), (m2, .inl (c2, 1024, .inr (.inl L2))), (m5, .inl (c5, 40, .inl AS))] H := hP
        have hD : va_D A [(xm, .inr (4, [.int th, .int (nI N), .int (nI wd), .ref m1, .ref m2, .ref m3, .ref m4, .ref m5, .int km, .int kc, .int kl, .int (nI ac)])), (m1, .inl (c1, 1024, .inr (.inl A0))), (m2, .inl (c2, 1024, .inr (.inl L2))), (m5, .inl (c5, 40, .inl AS))] := hD
        have hl : lv_has ls 7 [(0, .ref xm), (1, .long ch), (3, .long sm), (5, .int (nI w)), (6, .int (nI j))] := hl
        refine lv_iload hx hb dX4_leaves_31 (lv_at hl 4 rfl) ?_
        refine lv_aload_n hx hb dX4_leaves_33 rfl (lv_at hl 0 rfl) ?_
        refine va_get (D := (dC, dI)) (ci := 4) (v := .int (nI ac)) (C := RX4) (T := TM) (N := 12) hx hb hts hiX4 hown hK hP 0 rfl rfl 11 (by decide) f50 (fun _ h9 => h9) rfl dX4_leaves_34 ?_
        refine lv_icmp_ge (tgt := 85) hx hb dX4_leaves_37 (by decide) (fun c37 => ?_) (fun c37 => ?_)
        · -- 37: jumps
          have hj : ac ≤ j := by
            rcases Nat.lt_or_ge j ac with q | q
            · exact absurd c37 (nI_ge q (by omega))
            · exact q
          have ej : j = ac := by omega
          rw [ej] at i4
          have j3 : ks_TL N L2 (ks_Z N AS ac ch 0 F) (w + 1) := fun i hi b hb9 => by
            by_cases e9 : i = w
            · rw [e9]; exact i4 b hb9
            · rw [i3 i (by omega)]; exact w3 i (by omega) b hb9
          refine lv_lload_n hx hb dX4_leaves_85 rfl (lv_at hl 2 rfl) ?_
          refine lv_aload_n hx hb dX4_leaves_86 rfl (lv_at hl 0 rfl) ?_
          refine va_get (D := (dC, dI)) (ci := 4) (v := .ref m2) (C := RX4) (T := TM) (N := 12) hx hb hts hiX4 hown hK hP 0 rfl rfl 4 (by decide) f13 (fun _ h9 => h9) rfl dX4_leaves_87 ?_
          refine lv_iload hx hb dX4_leaves_90 (lv_at hl 3 rfl) ?_
          refine ks_lald hx hb hK hP 2 1 rfl rfl (j := w) (by omega) (by decide) dX4_leaves_92 ?_
          refine lv_lor hx hb dX4_leaves_93 ?_
          refine lv_lstore_n (lv' := [(3, .long (sm ||| (L2 w))), (0, .ref xm), (1, .long ch), (5, .int (nI w)), (6, .int (nI j))]) hx hb dX4_leaves_94 rfl hl (by decide) rfl (fun ls hl => ?_)
          refine lv_iinc (v := nI (w + 1)) (lv' := [(5, .int (nI (w + 1))), (3, .long (sm ||| (L2 w))), (0, .ref xm), (1, .long ch), (6, .int (nI j))]) hx hb dX4_leaves_95 hl (k := 3) rfl (nI_1 _) (by decide) rfl (fun ls hl => ?_)
          refine lv_goto (tgt := 5) hx hb dX4_leaves_98 (by decide) ?_
          exact ih1 (w + 1, L2, sm ||| (L2 w)) _ _ _ ⟨hw, by omega, j3, w4.add i3, hP, hD, hS, lv_sub hl [2, 3, 1, 0] rfl⟩
        · -- 37: goes on
          have hj : j < ac := by
            rcases Nat.lt_or_ge j ac with q | q
            · exact q
            · exact absurd (nI_le q (by omega)) c37
          refine lv_lload_n hx hb dX4_leaves_40 rfl (lv_at hl 1 rfl) ?_
          refine lv_iload hx hb dX4_leaves_41 (lv_at hl 4 rfl) ?_
          refine lv_lshr hx hb dX4_leaves_43 rfl ?_
          refine lv_lconst (v := 1) hx hb dX4_leaves_44 (by decide) ?_
          refine lv_land hx hb dX4_leaves_45 ?_
          refine lv_lconst (v := 1) hx hb dX4_leaves_46 (by decide) ?_
          refine W.lcmp hx hb dX4_leaves_47 ?_
          refine lv_if_ne (tgt := 79) hx hb dX4_leaves_48 (by decide) (fun c48 => ?_) (fun c48 => ?_)
          · -- 48: jumps
            have b0 : ks_bl ch j = false := by
              cases hb9 : ks_bl ch j
              · rfl
              · exact absurd ((lg_cmp_eq _ _).mpr ((ks_bit1 (by omega)).mpr hb9)) c48
            have k3 := i3
            have k4 := i4.skip b0
            refine lv_iinc (v := nI (j + 1)) (lv' := [(6, .int (nI (j + 1))), (0, .ref xm), (1, .long ch), (3, .long sm), (5, .int (nI w))]) hx hb dX4_leaves_79 hl (k := 4) rfl (nI_1 _) (by decide) rfl (fun ls hl => ?_)
            refine lv_goto (tgt := 31) hx hb dX4_leaves_82 (by decide) ?_
            exact ih2 (j + 1, L2) _ _ _ ⟨hj, by omega, k3, k4, hP, hD, hS, lv_sub hl [1, 2, 3, 4, 0] rfl⟩
          · -- 48: goes on
            have b1 := (ks_bit1 (x := ch) (k := j) (by omega)).mp ((lg_cmp_eq _ _).mp c48)
            obtain ⟨v0, hv⟩ := hlit j hj
            refine lv_aload_n hx hb dX4_leaves_51 rfl (lv_at hl 0 rfl) ?_
            refine va_get (D := (dC, dI)) (ci := 4) (v := .ref m2) (C := RX4) (T := TM) (N := 12) hx hb hts hiX4 hown hK hP 0 rfl rfl 4 (by decide) f13 (fun _ h9 => h9) rfl dX4_leaves_52 ?_
            refine lv_iload hx hb dX4_leaves_55 (lv_at hl 3 rfl) ?_
            refine lv_aload_n hx hb dX4_leaves_57 rfl (lv_at hl 0 rfl) ?_
            refine va_get (D := (dC, dI)) (ci := 4) (v := .ref m2) (C := RX4) (T := TM) (N := 12) hx hb hts hiX4 hown hK hP 0 rfl rfl 4 (by decide) f13 (fun _ h9 => h9) rfl dX4_leaves_58 ?_
            refine lv_iload hx hb dX4_leaves_61 (lv_at hl 3 rfl) ?_
            refine ks_lald hx hb hK hP 2 1 rfl rfl (j := w) (by omega) (by decide) dX4_leaves_63 ?_
            refine lv_aload_n hx hb dX4_leaves_64 rfl (lv_at hl 0 rfl) ?_
            refine lv_aload_n hx hb dX4_leaves_65 rfl (lv_at hl 0 rfl) ?_
            refine va_get (D := (dC, dI)) (ci := 4) (v := .ref m5) (C := RX4) (T := TM) (N := 12) hx hb hts hiX4 hown hK hP 0 rfl rfl 7 (by decide) f23 (fun _ h9 => h9) rfl dX4_leaves_66 ?_
            refine lv_iload hx hb dX4_leaves_69 (lv_at hl 4 rfl) ?_
            refine ks_ald hx hb hK hP 3 2 rfl rfl (j := j) (by omega) (by decide) dX4_leaves_71 ?_
            refine lv_iload hx hb dX4_leaves_72 (lv_at hl 3 rfl) ?_
            refine ks_calllV (As := [.int (AS j), .int (nI w)]) (rest := [.long (L2 w), .int (nI w), .ref m2]) (wr := [(m1, .inl (c1, 1024, .inr (.inl A0))), (m2, .inl (c2, 1024, .inr (.inl L2))), (m5, .inl (c5, 40, .inl AS))]) (wz := fun _ => [(xm, .inr (4, [.int th, .int (nI N), .int (nI wd), .ref m1, .ref m2, .ref m3, .ref m4, .ref m5, .int km, .int kc, .int kl, .int (nI ac)])), (m1, .inl (c1, 1024, .inr (.inl A0))), (m2, .inl (c2, 1024, .inr (.inl L2))), (m5, .inl (c5, 40, .inl AS))]) ⟨hx, hb, hml, hown, hts⟩ (km_row l dC dI xm m1 m2 m3 m4 m5 wd N th km kc kl (nI ac) (AS j) v0 w hN hv (by omega)) (cwV 2 hts gX4_leaves_X4_row rfl rfl rfl (by decide +kernel) ⟨Nat.le_of_ble_eq_true rfl, Nat.le_of_ble_eq_true rfl⟩) hK hP hD hS hA hNW [0] [1, 2, 3] [] [3, 0, 1, 2] rfl rfl rfl rfl (by decide) (by decide) (by decide) (ci := 4) (q0 := 0) rfl rfl rfl (fun _ => rfl) (fun _ => rfl) (by decide) rfl hl.1 rfl (Nat.le_of_ble_eq_true rfl) dX4_leaves_74 ⟨Nat.le_of_ble_eq_true rfl, Nat.le_of_ble_eq_true rfl⟩ (fun r6 u9 H locs hw9 hK9 hP hD hS => ?_)
            have hrw : ks_rw N (AS j) w r6 := hw9
            have hP : va_P (dC, dI) ksCl [(xm, .inr (4, [.int th, .int (nI N), .int (nI wd), .ref m1, .ref m2, .ref m3, .ref m4, .ref m5, .int km, .int kc, .int kl, .int (nI ac)])), (m1, .inl (c1, 1024, .inr (.inl A0))), (m2, .inl (c2, 1024, .inr (.inl L2))), (m5, .inl (c5, 40, .inl AS))] H := hP
            have hD : va_D A [(xm, .inr (4, [.int th, .int (nI N), .int (nI wd), .ref m1, .ref m2, .ref m3, .ref m4, .ref m5, .int km, .int kc, .int kl, .int (nI ac)])), (m1, .inl (c1, 1024, .inr (.inl A0))), (m2, .inl (c2, 1024, .inr (.inl L2))), (m5, .inl (c5, 40, .inl AS))] := hD
            refine lv_land hx hb dX4_leaves_77 ?_
            have k3 : ∀ i, i < w → vp_updL L2 w (L2 w &&& r6) i = L1 i := fun i hi => by rw [pk_uLn (by omega)]; exact i3 i hi
            have k4 : ks_lw N AS ch F w (j + 1) (vp_updL L2 w (L2 w &&& r6) w) := by rw [pk_uLs]; exact i4.add b1 hrw
            refine ks_last hx hb hK hP hD hS 2 1 rfl rfl (j := w) (by omega) (by decide) dX4_leaves_78 (fun H locs hP hD hS => ?_)
            have hP : va_P (dC, dI) ksCl [(xm, .inr (4, [.int th, .int (nI N), .int (nI wd), .ref m1, .ref m2, .ref m3, .ref m4, .ref m5, .int km, .int kc, .int kl, .int (nI ac)])), (m1, .inl (c1, 1024, .inr (.inl A0))), (m2, .inl (c2, 1024, .inr (.inl (vp_updL L2 w ((L2 w) &&& r6))))), (m5, .inl (c5, 40, .inl AS))] H := hP
            have hD : va_D A [(xm, .inr (4, [.int th, .int (nI N), .int (nI wd), .ref m1, .ref m2, .ref m3, .ref m4, .ref m5, .int km, .int kc, .int kl, .int (nI ac)])), (m1, .inl (c1, 1024, .inr (.inl A0))), (m2, .inl (c2, 1024, .inr (.inl (vp_updL L2 w ((L2 w) &&& r6))))), (m5, .inl (c5, 40, .inl AS))] := hD
            refine lv_iinc (v := nI (j + 1)) (lv' := [(6, .int (nI (j + 1))), (0, .ref xm), (1, .long ch), (3, .long sm), (5, .int (nI w))]) hx hb dX4_leaves_79 hl (k := 4) rfl (nI_1 _) (by decide) rfl (fun ls hl => ?_)
            refine lv_goto (tgt := 31) hx hb dX4_leaves_82 (by decide) ?_
            exact ih2 (j + 1, vp_updL L2 w ((L2 w) &&& r6)) _ _ _ ⟨hj, by omega, k3, k4, hP, hD, hS, lv_sub hl [1, 2, 3, 4, 0] rfl⟩
      · intro x H locs ls h9
        obtain ⟨i1, i2, i3, i4, -, -, -, -⟩ := h9
        try dsimp only at i1 i2
        omega
  · intro x H locs ls h9
    obtain ⟨w1, w2, w3, w4, -, -, -, -⟩ := h9
    try dsimp only at w1 w2
    omega
