set_option maxHeartbeats 4000000 in
set_option maxRecDepth 100000 in
/-- the reference: least -/
theorem km_least (l : Launch) (dC : Nat → ClassId) (dI : Nat → Nat → Nat) (xm m1 m2 m3 m4 m5 wd : Nat) (c1 c2 c5 : ClassId) (N : Nat) (th km kc kl : Int32) (ac : Nat) (A0 LF : Nat → Int64) (AS : Nat → Int32) (F : (Nat → Bool) → Prop) (hN : N ≤ 16) (hwd : wd = ks_wd N) (hac : ac ≤ 40) (hlit : ∀ j, j < ac → ∃ v, ks_lit N (AS j) v) (hT : ks_TT N A0 F) : ks_Mi l yX4_least wsX4_least ({ frames := 2, cells := 0, slots := 0, locals := 51 }) (dC, dI) [.ref xm] [(xm, .inr (4, [.int th, .int (nI N), .int (nI wd), .ref m1, .ref m2, .ref m3, .ref m4, .ref m5, .int km, .int kc, .int kl, .int (nI ac)])), (m1, .inl (c1, 1024, .inr (.inl A0))), (m2, .inl (c2, 1024, .inr (.inl LF))), (m5, .inl (c5, 40, .inl AS))] [(c1, .long), (c2, .long), (c5, .int)] 0 0 (S := (Nat → Int64)) (fun r _ => ks_L N (ks_Z N AS ac (-1) 0 F) r) (fun u => [(xm, .inr (4, [.int 0, .int (nI N), .int (nI wd), .ref m1, .ref m2, .ref m3, .ref m4, .ref m5, .int km, .int kc, .int kl, .int (nI ac)])), (m1, .inl (c1, 1024, .inr (.inl A0))), (m2, .inl (c2, 1024, .inr (.inl u))), (m5, .inl (c5, 40, .inl AS))]) (fun u => [(c1, .long), (c2, .long), (c5, .int)]) := by
  intro sz
  refine Met.ofW (cc := cX4_least) (maxL := 3) (ret := (some .int)) (by decide) rfl ?_
  intro p e s m args below meth c s₁ B9 hml hv
  obtain ⟨rfl, hsz, hP, hK, hD0, hNW⟩ := hv
  have hx := B9.exec
  have hb := B9.bytes
  have hr := B9.returns
  have hts := atoms_spec (ws := wsX4_least) B9.pre
  have hown : s.vm.findClass RX4 = some m.cls := findClass_of_methodNamed B9.named
  have hlocks := B9.notSynchronized
  subst hsz
  have hD := hD0.self (sz := s.heap.size)
  generalize hAe : va_A [(xm, .inr (4, [.int th, .int (nI N), .int (nI wd), .ref m1, .ref m2, .ref m3, .ref m4, .ref m5, .int km, .int kc, .int kl, .int (nI ac)])), (m1, .inl (c1, 1024, .inr (.inl A0))), (m2, .inl (c2, 1024, .inr (.inl LF))), (m5, .inl (c5, 40, .inl AS))] s.heap.size = A at hD ⊢
  have hA : ∀ q : Nat, s.heap.size ≤ q → A q := fun q h => by rw [← hAe]; exact Or.inr h
  have hS : va_S A s.heap s.heap [] := va_S.rf
  have hiX4 : ∀ w ∈ u_ws RX4 TM 12, w ∈ wsX4_least := by decide +kernel
  have f13 := hts (.fieldLink RX4 13 "LessonSolverModel" "left" "[J") (by decide +kernel)
  have f36 := hts (.fieldLink RX4 36 "LessonSolverModel" "thrown" "I") (by decide +kernel)
  have k39 := hts (.constantLong RX4 39 (-1)) (by decide +kernel)
  have hl := lv_entry ([.ref xm]) (n := 3) (Nat.le_of_ble_eq_true rfl)
  rw [lg_entry_eq]
  generalize (lg_sl ([.ref xm]) ++ List.replicate (3 - (lg_sl ([.ref xm])).length) Slot.unset).toArray = ls at hl ⊢
  have hl : lv_has ls 3 [(0, .ref xm)] := hl
  have hwl : 1 ≤ wd ∧ wd ≤ 1024 := by rw [hwd]; exact ks_wd_le N hN
  refine lv_aload_n hx hb dX4_least_0 rfl (lv_at hl 0 rfl) ?_
  refine lv_iconst (v := 0) hx hb dX4_least_1 (by decide) ?_
  refine va_put (D := (dC, dI)) (ci := 4) (v := .int 0) (ty := .int) (C := RX4) (T := TM) (N := 12) hx hb hts hiX4 tyM tyM_ok nmM hown hK hP hD hS 0 rfl rfl 0 (by decide) f36 (fun _ h9 => h9) rfl (by decide +kernel) rfl rfl (Nat.le_of_ble_eq_true rfl) dX4_least_2 (fun H locs hP hD hS => ?_)
  have hP : va_P (dC, dI) ksCl [(xm, .inr (4, [.int 0, .int (nI N), .int (nI wd), .ref m1, .ref m2, .ref m3, .ref m4, .ref m5, .int km, .int kc, .int kl, .int (nI ac)])), (m1, .inl (c1, 1024, .inr (.inl A0))), (m2, .inl (c2, 1024, .inr (.inl LF))), (m5, .inl (c5, 40, .inl AS))] H := hP
  have hD : va_D A [(xm, .inr (4, [.int 0, .int (nI N), .int (nI wd), .ref m1, .ref m2, .ref m3, .ref m4, .ref m5, .int km, .int kc, .int kl, .int (nI ac)])), (m1, .inl (c1, 1024, .inr (.inl A0))), (m2, .inl (c2, 1024, .inr (.inl LF))), (m5, .inl (c5, 40, .inl AS))] := hD
  refine lv_aload_n hx hb dX4_least_5 rfl (lv_at hl 0 rfl) ?_
  refine lv_ldc2 (v := (-1)) hx hb hown k39 dX4_least_6 ?_
  refine ks_calliV (As := [.long (-1)]) (rest := []) (wr := []) (wz := fun u => [(xm, .inr (4, [.int 0, .int (nI N), .int (nI wd), .ref m1, .ref m2, .ref m3, .ref m4, .ref m5, .int km, .int kc, .int kl, .int (nI ac)])), (m1, .inl (c1, 1024, .inr (.inl A0))), (m2, .inl (c2, 1024, .inr (.inl u))), (m5, .inl (c5, 40, .inl AS))]) ⟨hx, hb, hml, hown, hts⟩ (km_leaves l dC dI xm m1 m2 m3 m4 m5 wd c1 c2 c5 N 0 km kc kl ac A0 LF AS F (-1) hN hwd hac hlit hT) (cwV 1 hts gX4_least_X4_leaves rfl rfl rfl (by decide +kernel) ⟨Nat.le_of_ble_eq_true rfl, Nat.le_of_ble_eq_true rfl⟩) hK hP hD hS hA hNW [0, 1, 2, 3] [] [0, 1, 2] [0, 1, 2, 3] rfl rfl rfl rfl (by decide) (by decide) (by decide) (ci := 4) (q0 := 0) rfl rfl rfl (fun _ => rfl) (fun _ => rfl) (by decide) rfl hl.1 rfl (Nat.le_of_ble_eq_true rfl) dX4_least_9 ⟨Nat.le_of_ble_eq_true rfl, Nat.le_of_ble_eq_true rfl⟩ (fun r1 L1 H locs hw9 hK9 hP hD hS => ?_)
  obtain ⟨t1, t2⟩ := hw9
  have hP : va_P (dC, dI) ksCl [(xm, .inr (4, [.int 0, .int (nI N), .int (nI wd), .ref m1, .ref m2, .ref m3, .ref m4, .ref m5, .int km, .int kc, .int kl, .int (nI ac)])), (m1, .inl (c1, 1024, .inr (.inl A0))), (m2, .inl (c2, 1024, .inr (.inl L1))), (m5, .inl (c5, 40, .inl AS))] H := hP
  have hD : va_D A [(xm, .inr (4, [.int 0, .int (nI N), .int (nI wd), .ref m1, .ref m2, .ref m3, .ref m4, .ref m5, .int km, .int kc, .int kl, .int (nI ac)])), (m1, .inl (c1, 1024, .inr (.inl A0))), (m2, .inl (c2, 1024, .inr (.inl L1))), (m5, .inl (c5, 40, .inl AS))] := hD
  refine lv_if_ne (tgt := 17) hx hb dX4_least_12 (by decide) (fun c12 => ?_) (fun c12 => ?_)
  · -- 12: jumps
    have hmo : ¬ ∀ v, v < 2 ^ N → ¬ (ks_Z N AS ac (-1) 0 F) v.testBit := by
      rcases t2 with q | q
      · exact absurd q.1 c12
      · exact q.2
    obtain ⟨i0, hi0, hne⟩ : ∃ i, i < wd ∧ ¬ L1 i = 0 := by
      apply Classical.byContradiction
      intro q
      apply hmo
      intro v hv hF
      obtain ⟨y1, y2, y3⟩ := t1.at hN hv
      rw [← hwd] at y1
      have y4 : L1 (v / 64) = 0 := Classical.byContradiction (fun z => q ⟨_, y1, z⟩)
      have y5 := y3.mpr hF
      rw [y4, ks_bl_0] at y5
      cases y5
    refine lv_iconst (v := nI 0) hx hb dX4_least_17 (by decide) ?_
    refine lv_istore_n (lv' := [(1, .int (nI 0)), (0, .ref xm)]) hx hb dX4_least_18 rfl hl (by decide) rfl (fun ls hl => ?_)
    refine ks_wl (σ := Nat) (fun n x H locs ls => (x ≤ i0) ∧ (n + x = i0 + 1) ∧ (∀ i, i < x → L1 i = 0) ∧ va_P (dC, dI) ksCl [(xm, .inr (4, [.int 0, .int (nI N), .int (nI wd), .ref m1, .ref m2, .ref m3, .ref m4, .ref m5, .int km, .int kc, .int kl, .int (nI ac)])), (m1, .inl (c1, 1024, .inr (.inl A0))), (m2, .inl (c2, 1024, .inr (.inl L1))), (m5, .inl (c5, 40, .inl AS))] H ∧ va_D A [(xm, .inr (4, [.int 0, .int (nI N), .int (nI wd), .ref m1, .ref m2, .ref m3, .ref m4, .ref m5, .int km, .int kc, .int kl, .int (nI ac)])), (m1, .inl (c1, 1024, .inr (.inl A0))), (m2, .inl (c2, 1024, .inr (.inl L1))), (m5, .inl (c5, 40, .inl AS))] ∧ va_S A s.heap H locs ∧ lv_has ls 3 [(0, .ref xm), (1, .int (nI x))]) 19 ?_ ?_ (i0 + 1) 0 _ _ ls ⟨Nat.zero_le _, rfl, fun i hi => absurd hi (Nat.not_lt_zero i), hP, hD, hS, lv_sub hl [1, 0] rfl⟩
    · -- loop at 19
      intro n1 x H locs ls h9 ih1
      obtain ⟨w, rfl⟩ : ∃ z, z = x := ⟨_, rfl⟩
      obtain ⟨w1, w2, w3, hP, hD, hS, hl⟩ := h9
      have w1 : w ≤ i0 := w1
      have w2 : (n1 + 1) + w = i0 + 1 := w2
      have w3 : ∀ i, i < w → L1 i = 0 := w3
      have hP : va_P (dC, dI) ksCl [(xm, .inr (4, [.int 0, .int (nI N), .int (nI wd), .ref m1, .ref m2, .ref m3, .ref m4, .ref m5, .int km, .int kc, .int kl, .int (nI ac)])), (m1, .inl (c1, 1024, .inr (.inl A0))), (m2, .inl (c2, 1024, .inr (.inl L1))), (m5, .inl (c5, 40, .inl AS))] H := hP
      have hD : va_D A [(xm, .inr (4, [.int 0, .int (nI N), .int (nI wd), .ref m1, .ref m2, .ref m3, .ref m4, .ref m5, .int km, .int kc, .int kl, .int (nI ac)])), (m1, .inl (c1, 1024, .inr (.inl A0))), (m2, .inl (c2, 1024, .inr (.inl L1))), (m5, .inl (c5, 40, .inl AS))] := hD
      have hl : lv_has ls 3 [(0, .ref xm), (1, .int (nI w))] := hl
      refine lv_aload_n hx hb dX4_least_19 rfl (lv_at hl 0 rfl) ?_
      refine va_get (D := (dC, dI)) (ci := 4) (v := .ref m2) (C := RX4) (T := TM) (N := 12) hx hb hts hiX4 hown hK hP 0 rfl rfl 4 (by decide) f13 (fun _ h9 => h9) rfl dX4_least_20 ?_
      refine lv_iload_n hx hb dX4_least_23 rfl (lv_at hl 1 rfl) ?_
      refine ks_lald hx hb hK hP 2 1 rfl rfl (j := w) (by omega) (by decide) dX4_least_24 ?_
      refine lv_lconst (v := 0) hx hb dX4_least_25 (by decide) ?_
      refine W.lcmp hx hb dX4_least_26 ?_
      refine lv_if_ne (tgt := 36) hx hb dX4_least_27 (by decide) (fun c27 => ?_) (fun c27 => ?_)
      · -- 27: jumps
        have hnw : ¬ L1 w = 0 := fun q => c27 ((lg_cmp_eq _ _).mpr q)
        obtain ⟨b0, hb0, hbt⟩ := ks_bl_nz.mp hnw
        refine lv_iconst (v := nI 0) hx hb dX4_least_36 (by decide) ?_
        refine lv_istore_n (lv' := [(2, .int (nI 0)), (0, .ref xm), (1, .int (nI w))]) hx hb dX4_least_37 rfl hl (by decide) rfl (fun ls hl => ?_)
        refine ks_wl (σ := Nat) (fun n x H locs ls => (x ≤ b0) ∧ (n + x = b0 + 1) ∧ (∀ j, j < x → ks_bl (L1 w) j = false) ∧ va_P (dC, dI) ksCl [(xm, .inr (4, [.int 0, .int (nI N), .int (nI wd), .ref m1, .ref m2, .ref m3, .ref m4, .ref m5, .int km, .int kc, .int kl, .int (nI ac)])), (m1, .inl (c1, 1024, .inr (.inl A0))), (m2, .inl (c2, 1024, .inr (.inl L1))), (m5, .inl (c5, 40, .inl AS))] H ∧ va_D A [(xm, .inr (4, [.int 0, .int (nI N), .int (nI wd), .ref m1, .ref m2, .ref m3, .ref m4, .ref m5, .int km, .int kc, .int kl, .int (nI ac)])), (m1, .inl (c1, 1024, .inr (.inl A0))), (m2, .inl (c2, 1024, .inr (.inl L1))), (m5, .inl (c5, 40, .inl AS))] ∧ va_S A s.heap H locs ∧ lv_has ls 3 [(0, .ref xm), (1, .int (nI w)), (2, .int (nI x))]) 38 ?_ ?_ (b0 + 1) 0 _ _ ls ⟨Nat.zero_le _, rfl, fun i hi => absurd hi (Nat.not_lt_zero i), hP, hD, hS, lv_sub hl [1, 2, 0] rfl⟩
        · -- loop at 38
          intro n2 x H locs ls h9 ih2
          obtain ⟨b, rfl⟩ : ∃ z, z = x := ⟨_, rfl⟩
          obtain ⟨i1, i2, i3, hP, hD, hS, hl⟩ := h9
          have i1 : b ≤ b0 := i1
          have i2 : (n2 + 1) + b = b0 + 1 := i2
          have i3 : ∀ j, j < b → ks_bl (L1 w) j = false := i3
          have hP : va_P (dC, dI) ksCl [(xm, .inr (4, [.int 0, .int (nI N), .int (nI wd), .ref m1, .ref m2, .ref m3, .ref m4, .ref m5, .int km, .int kc, .int kl, .int (nI ac)])), (m1, .inl (c1, 1024, .inr (.inl A0))), (m2, .inl (c2, 1024, .inr (.inl L1))), (m5, .inl (c5, 40, .inl AS))] H := hP
          have hD : va_D A [(xm, .inr (4, [.int 0, .int (nI N), .int (nI wd), .ref m1, .ref m2, .ref m3, .ref m4, .ref m5, .int km, .int kc, .int kl, .int (nI ac)])), (m1, .inl (c1, 1024, .inr (.inl A0))), (m2, .inl (c2, 1024, .inr (.inl L1))), (m5, .inl (c5, 40, .inl AS))] := hD
          have hl : lv_has ls 3 [(0, .ref xm), (1, .int (nI w)), (2, .int (nI b))] := hl
          refine lv_aload_n hx hb dX4_least_38 rfl (lv_at hl 0 rfl) ?_
          refine va_get (D := (dC, dI)) (ci := 4) (v := .ref m2) (C := RX4) (T := TM) (N := 12) hx hb hts hiX4 hown hK hP 0 rfl rfl 4 (by decide) f13 (fun _ h9 => h9) rfl dX4_least_39 ?_
          refine lv_iload_n hx hb dX4_least_42 rfl (lv_at hl 1 rfl) ?_
          refine ks_lald hx hb hK hP 2 1 rfl rfl (j := w) (by omega) (by decide) dX4_least_43 ?_
          refine lv_iload_n hx hb dX4_least_44 rfl (lv_at hl 2 rfl) ?_
          refine lv_lshr hx hb dX4_least_45 rfl ?_
          refine lv_lconst (v := 1) hx hb dX4_least_46 (by decide) ?_
          refine lv_land hx hb dX4_least_47 ?_
          refine lv_lconst (v := 0) hx hb dX4_least_48 (by decide) ?_
          refine W.lcmp hx hb dX4_least_49 ?_
          refine lv_if_ne (tgt := 59) hx hb dX4_least_50 (by decide) (fun c50 => ?_) (fun c50 => ?_)
          · -- 50: jumps
            have hb1 : ks_bl (L1 w) b = true := by
              cases hb9 : ks_bl (L1 w) b
              · exact absurd ((lg_cmp_eq _ _).mpr ((ks_bit0 (by omega)).mpr hb9)) c50
              · rfl
            refine lv_bipush (v := nI 64) hx hb dX4_least_59 (by decide) ?_
            refine lv_iload_n hx hb dX4_least_61 rfl (lv_at hl 1 rfl) ?_
            refine lv_imul hx hb dX4_least_62 ?_
            refine ks_top (y := nI (64 * w)) (pk_mul 64 w) ?_
            refine lv_iload_n hx hb dX4_least_63 rfl (lv_at hl 2 rfl) ?_
            refine lv_iadd hx hb dX4_least_64 ?_
            refine ks_top (y := nI (64 * w + b)) (nI_add _ _) ?_
            have hP9 : va_P (dC, dI) ksCl [(xm, .inr (4, [.int 0, .int (nI N), .int (nI wd), .ref m1, .ref m2, .ref m3, .ref m4, .ref m5, .int km, .int kc, .int kl, .int (nI ac)])), (m1, .inl (c1, 1024, .inr (.inl A0))), (m2, .inl (c2, 1024, .inr (.inl L1))), (m5, .inl (c5, 40, .inl AS))] _ := hP
            have hD9 : va_D A [(xm, .inr (4, [.int 0, .int (nI N), .int (nI wd), .ref m1, .ref m2, .ref m3, .ref m4, .ref m5, .int km, .int kc, .int kl, .int (nI ac)])), (m1, .inl (c1, 1024, .inr (.inl A0))), (m2, .inl (c2, 1024, .inr (.inl L1))), (m5, .inl (c5, 40, .inl AS))] := hD
            have hK9 : va_K (dC, dI) ksCl [(c1, .long), (c2, .long), (c5, .int)] s := hK
            exact W.iret (v := nI (64 * w + b)) hx hb hr (fun t ht hW9 => ⟨⟨nI (64 * w + b), L1, rfl, t1.least hN (by rw [← hwd]; omega) (by omega) w3 i3 hb1, by rw [ht]; exact hP9, va_K.moved hW9.alike hK9, hD9⟩, hS.F ht⟩) hS.2.2 dX4_least_65
          · -- 50: goes on
            have hz0 := (ks_bit0 (x := L1 w) (k := b) (by omega)).mp ((lg_cmp_eq _ _).mp c50)
            have j1 : b + 1 ≤ b0 := by
              rcases Nat.lt_or_ge b b0 with q | q
              · exact q
              · rw [show b0 = b by omega, hz0] at hbt; cases hbt
            have j3 : ∀ i, i < b + 1 → ks_bl (L1 w) i = false := fun i hi => by
              by_cases e9 : i = b
              · rw [e9]; exact hz0
              · exact i3 i (by omega)
            refine lv_iinc (v := nI (b + 1)) (lv' := [(2, .int (nI (b + 1))), (0, .ref xm), (1, .int (nI w))]) hx hb dX4_least_53 hl (k := 2) rfl (nI_1 _) (by decide) rfl (fun ls hl => ?_)
            refine lv_goto (tgt := 38) hx hb dX4_least_56 (by decide) ?_
            exact ih2 (b + 1) _ _ _ ⟨j1, by omega, j3, hP, hD, hS, lv_sub hl [1, 2, 0] rfl⟩
        · intro x H locs ls h9
          obtain ⟨i1, i2, i3, -, -, -, -⟩ := h9
          skip
          omega
      · -- 27: goes on
        have hz0 : L1 w = 0 := (lg_cmp_eq _ _).mp c27
        have j1 : w + 1 ≤ i0 := by
          rcases Nat.lt_or_ge w i0 with q | q
          · exact q
          · exact absurd (by rw [show i0 = w by omega]; exact hz0) hne
        have j3 : ∀ i, i < w + 1 → L1 i = 0 := fun i hi => by
          by_cases e9 : i = w
          · rw [e9]; exact hz0
          · exact w3 i (by omega)
        refine lv_iinc (v := nI (w + 1)) (lv' := [(1, .int (nI (w + 1))), (0, .ref xm)]) hx hb dX4_least_30 hl (k := 1) rfl (nI_1 _) (by decide) rfl (fun ls hl => ?_)
        refine lv_goto (tgt := 19) hx hb dX4_least_33 (by decide) ?_
        exact ih1 (w + 1) _ _ _ ⟨j1, by omega, j3, hP, hD, hS, lv_sub hl [1, 0] rfl⟩
    · intro x H locs ls h9
      obtain ⟨w1, w2, w3, -, -, -, -⟩ := h9
      skip
      omega
  · -- 12: goes on
    have hnm : ∀ v, v < 2 ^ N → ¬ (ks_Z N AS ac (-1) 0 F) v.testBit := by
      rcases t2 with q | q
      · exact q.2
      · exact absurd (q.1.symm.trans c12) (by decide)
    refine lv_iconst (v := -1) hx hb dX4_least_15 (by decide) ?_
    have hP9 : va_P (dC, dI) ksCl [(xm, .inr (4, [.int 0, .int (nI N), .int (nI wd), .ref m1, .ref m2, .ref m3, .ref m4, .ref m5, .int km, .int kc, .int kl, .int (nI ac)])), (m1, .inl (c1, 1024, .inr (.inl A0))), (m2, .inl (c2, 1024, .inr (.inl L1))), (m5, .inl (c5, 40, .inl AS))] _ := hP
    have hD9 : va_D A [(xm, .inr (4, [.int 0, .int (nI N), .int (nI wd), .ref m1, .ref m2, .ref m3, .ref m4, .ref m5, .int km, .int kc, .int kl, .int (nI ac)])), (m1, .inl (c1, 1024, .inr (.inl A0))), (m2, .inl (c2, 1024, .inr (.inl L1))), (m5, .inl (c5, 40, .inl AS))] := hD
    have hK9 : va_K (dC, dI) ksCl [(c1, .long), (c2, .long), (c5, .int)] s := hK
    exact W.iret (v := -1) hx hb hr (fun t ht hW9 => ⟨⟨-1, L1, rfl, Or.inl ⟨rfl, hnm⟩, by rw [ht]; exact hP9, va_K.moved hW9.alike hK9, hD9⟩, hS.F ht⟩) hS.2.2 dX4_least_16
