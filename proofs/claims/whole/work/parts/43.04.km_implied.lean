set_option maxHeartbeats 4000000 in
set_option maxRecDepth 100000 in
/-- the reference: implied -/
theorem km_implied (l : Launch) (dC : Nat → ClassId) (dI : Nat → Nat → Nat) (xm m1 m2 m3 m4 m5 wd : Nat) (c1 c2 c5 : ClassId) (N : Nat) (th km kc kl : Int32) (ac : Nat) (A0 LF : Nat → Int64) (AS : Nat → Int32) (F : (Nat → Bool) → Prop) (x0 : Int32) (hN : N ≤ 16) (hwd : wd = ks_wd N) (hac : ac ≤ 40) (hlit : ∀ j, j < ac → ∃ v, ks_lit N (AS j) v) (hT : ks_TT N A0 F) : ks_Mi l yX4_implied wsX4_implied ({ frames := 2, cells := 0, slots := 0, locals := 51 }) (dC, dI) [.ref xm, .int x0] [(xm, .inr (4, [.int th, .int (nI N), .int (nI wd), .ref m1, .ref m2, .ref m3, .ref m4, .ref m5, .int km, .int kc, .int kl, .int (nI ac)])), (m1, .inl (c1, 1024, .inr (.inl A0))), (m2, .inl (c2, 1024, .inr (.inl LF))), (m5, .inl (c5, 40, .inl AS))] [(c1, .long), (c2, .long), (c5, .int)] 0 0 (S := (Nat → Int64)) (fun r _ => (¬ (∃ v, ks_lit N x0 v) ∧ r = -1) ∨ ((∃ v, ks_lit N x0 v) ∧ (((∀ v, v < 2 ^ N → ¬ (ks_Z N AS ac (-1) 0 F) v.testBit) ∧ r = -1) ∨ ((¬ ∀ v, v < 2 ^ N → ¬ (ks_Z N AS ac (-1) 0 F) v.testBit) ∧ ((r = 1 ∧ ∀ v, v < 2 ^ N → (ks_Z N AS ac (-1) 0 F) v.testBit → ks_lt N x0 v.testBit) ∨ (r = 0 ∧ ¬ ∀ v, v < 2 ^ N → (ks_Z N AS ac (-1) 0 F) v.testBit → ks_lt N x0 v.testBit)))))) (fun u => [(xm, .inr (4, [.int 0, .int (nI N), .int (nI wd), .ref m1, .ref m2, .ref m3, .ref m4, .ref m5, .int km, .int kc, .int kl, .int (nI ac)])), (m1, .inl (c1, 1024, .inr (.inl A0))), (m2, .inl (c2, 1024, .inr (.inl u))), (m5, .inl (c5, 40, .inl AS))]) (fun u => [(c1, .long), (c2, .long), (c5, .int)]) := by
  intro sz
  refine Met.ofW (cc := cX4_implied) (maxL := 4) (ret := (some .int)) (by decide) rfl ?_
  intro p e s m args below meth c s₁ B9 hml hv
  obtain ⟨rfl, hsz, hP, hK, hD0, hNW⟩ := hv
  have hx := B9.exec
  have hb := B9.bytes
  have hr := B9.returns
  have hts := atoms_spec (ws := wsX4_implied) B9.pre
  have hown : s.vm.findClass RX4 = some m.cls := findClass_of_methodNamed B9.named
  have hlocks := B9.notSynchronized
  subst hsz
  have hD := hD0.self (sz := s.heap.size)
  generalize hAe : va_A [(xm, .inr (4, [.int th, .int (nI N), .int (nI wd), .ref m1, .ref m2, .ref m3, .ref m4, .ref m5, .int km, .int kc, .int kl, .int (nI ac)])), (m1, .inl (c1, 1024, .inr (.inl A0))), (m2, .inl (c2, 1024, .inr (.inl LF))), (m5, .inl (c5, 40, .inl AS))] s.heap.size = A at hD ⊢
  have hA : ∀ q : Nat, s.heap.size ≤ q → A q := fun q h => by rw [← hAe]; exact Or.inr h
  have hS : va_S A s.heap s.heap [] := va_S.rf
  have hiX4 : ∀ w ∈ u_ws RX4 TM 12, w ∈ wsX4_implied := by decide +kernel
  have f13 := hts (.fieldLink RX4 13 "LessonSolverModel" "left" "[J") (by decide +kernel)
  have f30 := hts (.fieldLink RX4 30 "LessonSolverModel" "words" "I") (by decide +kernel)
  have f36 := hts (.fieldLink RX4 36 "LessonSolverModel" "thrown" "I") (by decide +kernel)
  have k39 := hts (.constantLong RX4 39 (-1)) (by decide +kernel)
  have hl := lv_entry ([.ref xm, .int x0]) (n := 4) (Nat.le_of_ble_eq_true rfl)
  rw [lg_entry_eq]
  generalize (lg_sl ([.ref xm, .int x0]) ++ List.replicate (4 - (lg_sl ([.ref xm, .int x0])).length) Slot.unset).toArray = ls at hl ⊢
  have hl : lv_has ls 4 [(0, .ref xm), (1, .int x0)] := hl
  have hwl : 1 ≤ wd ∧ wd ≤ 1024 := by rw [hwd]; exact ks_wd_le N hN
  refine lv_aload_n hx hb dX4_implied_0 rfl (lv_at hl 0 rfl) ?_
  refine lv_iconst (v := 0) hx hb dX4_implied_1 (by decide) ?_
  refine va_put (D := (dC, dI)) (ci := 4) (v := .int 0) (ty := .int) (C := RX4) (T := TM) (N := 12) hx hb hts hiX4 tyM tyM_ok nmM hown hK hP hD hS 0 rfl rfl 0 (by decide) f36 (fun _ h9 => h9) rfl (by decide +kernel) rfl rfl (Nat.le_of_ble_eq_true rfl) dX4_implied_2 (fun H locs hP hD hS => ?_)
  have hP : va_P (dC, dI) ksCl [(xm, .inr (4, [.int 0, .int (nI N), .int (nI wd), .ref m1, .ref m2, .ref m3, .ref m4, .ref m5, .int km, .int kc, .int kl, .int (nI ac)])), (m1, .inl (c1, 1024, .inr (.inl A0))), (m2, .inl (c2, 1024, .inr (.inl LF))), (m5, .inl (c5, 40, .inl AS))] H := hP
  have hD : va_D A [(xm, .inr (4, [.int 0, .int (nI N), .int (nI wd), .ref m1, .ref m2, .ref m3, .ref m4, .ref m5, .int km, .int kc, .int kl, .int (nI ac)])), (m1, .inl (c1, 1024, .inr (.inl A0))), (m2, .inl (c2, 1024, .inr (.inl LF))), (m5, .inl (c5, 40, .inl AS))] := hD
  refine lv_aload_n hx hb dX4_implied_5 rfl (lv_at hl 0 rfl) ?_
  refine lv_iload_n hx hb dX4_implied_6 rfl (lv_at hl 1 rfl) ?_
  refine ks_calliV (As := [.int x0]) (rest := []) (wr := [(m1, .inl (c1, 1024, .inr (.inl A0))), (m2, .inl (c2, 1024, .inr (.inl LF))), (m5, .inl (c5, 40, .inl AS))]) (wz := fun _ => [(xm, .inr (4, [.int 0, .int (nI N), .int (nI wd), .ref m1, .ref m2, .ref m3, .ref m4, .ref m5, .int km, .int kc, .int kl, .int (nI ac)])), (m1, .inl (c1, 1024, .inr (.inl A0))), (m2, .inl (c2, 1024, .inr (.inl LF))), (m5, .inl (c5, 40, .inl AS))]) ⟨hx, hb, hml, hown, hts⟩ (km_isLiteral l dC dI xm m1 m2 m3 m4 m5 wd N 0 km kc kl (nI ac) x0 hN) (cwV 1 hts gX4_implied_X4_isLiteral rfl rfl rfl (by decide +kernel) ⟨Nat.le_of_ble_eq_true rfl, Nat.le_of_ble_eq_true rfl⟩) hK hP hD hS hA hNW [0] [1, 2, 3] [] [3, 0, 1, 2] rfl rfl rfl rfl (by decide) (by decide) (by decide) (ci := 4) (q0 := 0) rfl rfl rfl (fun _ => rfl) (fun _ => rfl) (by decide) rfl hl.1 rfl (Nat.le_of_ble_eq_true rfl) dX4_implied_7 ⟨Nat.le_of_ble_eq_true rfl, Nat.le_of_ble_eq_true rfl⟩ (fun r1 u9 H locs hw9 hK9 hP hD hS => ?_)
  have hw1 := hw9
  have hP : va_P (dC, dI) ksCl [(xm, .inr (4, [.int 0, .int (nI N), .int (nI wd), .ref m1, .ref m2, .ref m3, .ref m4, .ref m5, .int km, .int kc, .int kl, .int (nI ac)])), (m1, .inl (c1, 1024, .inr (.inl A0))), (m2, .inl (c2, 1024, .inr (.inl LF))), (m5, .inl (c5, 40, .inl AS))] H := hP
  have hD : va_D A [(xm, .inr (4, [.int 0, .int (nI N), .int (nI wd), .ref m1, .ref m2, .ref m3, .ref m4, .ref m5, .int km, .int kc, .int kl, .int (nI ac)])), (m1, .inl (c1, 1024, .inr (.inl A0))), (m2, .inl (c2, 1024, .inr (.inl LF))), (m5, .inl (c5, 40, .inl AS))] := hD
  refine lv_if_eq (tgt := 23) hx hb dX4_implied_10 (by decide) (fun c10 => ?_) (fun c10 => ?_)
  · -- 10: jumps
    have hnl : ¬ ∃ v, ks_lit N x0 v := by
      rcases hw1 with q | q
      · exact absurd (q.1.symm.trans c10) (by decide)
      · exact q.2
    refine lv_iconst (v := -1) hx hb dX4_implied_23 (by decide) ?_
    have hP9 : va_P (dC, dI) ksCl [(xm, .inr (4, [.int 0, .int (nI N), .int (nI wd), .ref m1, .ref m2, .ref m3, .ref m4, .ref m5, .int km, .int kc, .int kl, .int (nI ac)])), (m1, .inl (c1, 1024, .inr (.inl A0))), (m2, .inl (c2, 1024, .inr (.inl LF))), (m5, .inl (c5, 40, .inl AS))] _ := hP
    have hD9 : va_D A [(xm, .inr (4, [.int 0, .int (nI N), .int (nI wd), .ref m1, .ref m2, .ref m3, .ref m4, .ref m5, .int km, .int kc, .int kl, .int (nI ac)])), (m1, .inl (c1, 1024, .inr (.inl A0))), (m2, .inl (c2, 1024, .inr (.inl LF))), (m5, .inl (c5, 40, .inl AS))] := hD
    have hK9 : va_K (dC, dI) ksCl [(c1, .long), (c2, .long), (c5, .int)] s := hK
    exact W.iret (v := -1) hx hb hr (fun t ht hW9 => ⟨⟨-1, LF, rfl, Or.inl ⟨hnl, rfl⟩, by rw [ht]; exact hP9, va_K.moved hW9.alike hK9, hD9⟩, hS.F ht⟩) hS.2.2 dX4_implied_24
  · -- 10: goes on
    have hl0 : ∃ v, ks_lit N x0 v := by
      rcases hw1 with q | q
      · exact q.2
      · exact absurd q.1 c10
    refine lv_aload_n hx hb dX4_implied_13 rfl (lv_at hl 0 rfl) ?_
    refine lv_ldc2 (v := (-1)) hx hb hown k39 dX4_implied_14 ?_
    refine ks_calliV (As := [.long (-1)]) (rest := []) (wr := []) (wz := fun u => [(xm, .inr (4, [.int 0, .int (nI N), .int (nI wd), .ref m1, .ref m2, .ref m3, .ref m4, .ref m5, .int km, .int kc, .int kl, .int (nI ac)])), (m1, .inl (c1, 1024, .inr (.inl A0))), (m2, .inl (c2, 1024, .inr (.inl u))), (m5, .inl (c5, 40, .inl AS))]) ⟨hx, hb, hml, hown, hts⟩ (km_leaves l dC dI xm m1 m2 m3 m4 m5 wd c1 c2 c5 N 0 km kc kl ac A0 LF AS F (-1) hN hwd hac hlit hT) (cwV 1 hts gX4_implied_X4_leaves rfl rfl rfl (by decide +kernel) ⟨Nat.le_of_ble_eq_true rfl, Nat.le_of_ble_eq_true rfl⟩) hK hP hD hS hA hNW [0, 1, 2, 3] [] [0, 1, 2] [0, 1, 2, 3] rfl rfl rfl rfl (by decide) (by decide) (by decide) (ci := 4) (q0 := 0) rfl rfl rfl (fun _ => rfl) (fun _ => rfl) (by decide) rfl hl.1 rfl (Nat.le_of_ble_eq_true rfl) dX4_implied_17 ⟨Nat.le_of_ble_eq_true rfl, Nat.le_of_ble_eq_true rfl⟩ (fun r2 L1 H locs hw9 hK9 hP hD hS => ?_)
    obtain ⟨t1, t2⟩ := hw9
    have hP : va_P (dC, dI) ksCl [(xm, .inr (4, [.int 0, .int (nI N), .int (nI wd), .ref m1, .ref m2, .ref m3, .ref m4, .ref m5, .int km, .int kc, .int kl, .int (nI ac)])), (m1, .inl (c1, 1024, .inr (.inl A0))), (m2, .inl (c2, 1024, .inr (.inl L1))), (m5, .inl (c5, 40, .inl AS))] H := hP
    have hD : va_D A [(xm, .inr (4, [.int 0, .int (nI N), .int (nI wd), .ref m1, .ref m2, .ref m3, .ref m4, .ref m5, .int km, .int kc, .int kl, .int (nI ac)])), (m1, .inl (c1, 1024, .inr (.inl A0))), (m2, .inl (c2, 1024, .inr (.inl L1))), (m5, .inl (c5, 40, .inl AS))] := hD
    refine lv_if_ne (tgt := 25) hx hb dX4_implied_20 (by decide) (fun c20 => ?_) (fun c20 => ?_)
    · -- 20: jumps
      have hmo : ¬ ∀ v, v < 2 ^ N → ¬ (ks_Z N AS ac (-1) 0 F) v.testBit := by
        rcases t2 with q | q
        · exact absurd q.1 c20
        · exact q.2
      obtain ⟨v0, hv⟩ := id hl0
      refine lv_iconst (v := 1) hx hb dX4_implied_25 (by decide) ?_
      refine lv_istore_n (lv' := [(2, .int 1), (0, .ref xm), (1, .int x0)]) hx hb dX4_implied_26 rfl hl (by decide) rfl (fun ls hl => ?_)
      refine lv_iconst (v := nI 0) hx hb dX4_implied_27 (by decide) ?_
      refine lv_istore_n (lv' := [(3, .int (nI 0)), (2, .int 1), (0, .ref xm), (1, .int x0)]) hx hb dX4_implied_28 rfl hl (by decide) rfl (fun ls hl => ?_)
      refine ks_wl (σ := Nat × Int32) (fun n x H locs ls => (x.1 ≤ wd) ∧ (n + x.1 = wd + 1) ∧ (ks_im N L1 x0 x.1 x.2) ∧ va_P (dC, dI) ksCl [(xm, .inr (4, [.int 0, .int (nI N), .int (nI wd), .ref m1, .ref m2, .ref m3, .ref m4, .ref m5, .int km, .int kc, .int kl, .int (nI ac)])), (m1, .inl (c1, 1024, .inr (.inl A0))), (m2, .inl (c2, 1024, .inr (.inl L1))), (m5, .inl (c5, 40, .inl AS))] H ∧ va_D A [(xm, .inr (4, [.int 0, .int (nI N), .int (nI wd), .ref m1, .ref m2, .ref m3, .ref m4, .ref m5, .int km, .int kc, .int kl, .int (nI ac)])), (m1, .inl (c1, 1024, .inr (.inl A0))), (m2, .inl (c2, 1024, .inr (.inl L1))), (m5, .inl (c5, 40, .inl AS))] ∧ va_S A s.heap H locs ∧ lv_has ls 4 [(0, .ref xm), (1, .int x0), (2, .int x.2), (3, .int (nI x.1))]) 29 ?_ ?_ (wd + 1) (0, 1) _ _ ls ⟨Nat.zero_le _, rfl, Or.inl ⟨rfl, fun i hi => absurd hi (Nat.not_lt_zero i)⟩, hP, hD, hS, lv_sub hl [2, 3, 1, 0] rfl⟩
      · -- loop at 29
        intro n x H locs ls h9 ih
        obtain ⟨w, ri⟩ := x
        obtain ⟨i1, i2, i3, hP, hD, hS, hl⟩ := h9
        have i1 : w ≤ wd := i1
        have i2 : (n + 1) + w = wd + 1 := i2
        have i3 : ks_im N L1 x0 w ri := i3
        have hP : va_P (dC, dI) ksCl [(xm, .inr (4, [.int 0, .int (nI N), .int (nI wd), .ref m1, .ref m2, .ref m3, .ref m4, .ref m5, .int km, .int kc, .int kl, .int (nI ac)])), (m1, .inl (c1, 1024, .inr (.inl A0))), (m2, .inl (c2, 1024, .inr (.inl L1))), (m5, .inl (c5, 40, .inl AS))] H := hP
        have hD : va_D A [(xm, .inr (4, [.int 0, .int (nI N), .int (nI wd), .ref m1, .ref m2, .ref m3, .ref m4, .ref m5, .int km, .int kc, .int kl, .int (nI ac)])), (m1, .inl (c1, 1024, .inr (.inl A0))), (m2, .inl (c2, 1024, .inr (.inl L1))), (m5, .inl (c5, 40, .inl AS))] := hD
        have hl : lv_has ls 4 [(0, .ref xm), (1, .int x0), (2, .int ri), (3, .int (nI w))] := hl
        refine lv_iload_n hx hb dX4_implied_29 rfl (lv_at hl 3 rfl) ?_
        refine lv_aload_n hx hb dX4_implied_30 rfl (lv_at hl 0 rfl) ?_
        refine va_get (D := (dC, dI)) (ci := 4) (v := .int (nI wd)) (C := RX4) (T := TM) (N := 12) hx hb hts hiX4 hown hK hP 0 rfl rfl 2 (by decide) f30 (fun _ h9 => h9) rfl dX4_implied_31 ?_
        refine lv_icmp_ge (tgt := 75) hx hb dX4_implied_34 (by decide) (fun c34 => ?_) (fun c34 => ?_)
        · -- 34: jumps
          have hw : wd ≤ w := by
            rcases Nat.lt_or_ge w wd with q | q
            · exact absurd c34 (nI_ge q (by omega))
            · exact q
          have ew : w = ks_wd N := by omega
          rw [ew] at i3
          have hd9 := i3.done hN t1
          refine lv_iload_n hx hb dX4_implied_75 rfl (lv_at hl 2 rfl) ?_
          refine lv_if_eq (tgt := 83) hx hb dX4_implied_76 (by decide) (fun c76 => ?_) (fun c76 => ?_)
          · -- 76: jumps
            refine lv_iconst (v := 0) hx hb dX4_implied_83 (by decide) ?_
            have hP9 : va_P (dC, dI) ksCl [(xm, .inr (4, [.int 0, .int (nI N), .int (nI wd), .ref m1, .ref m2, .ref m3, .ref m4, .ref m5, .int km, .int kc, .int kl, .int (nI ac)])), (m1, .inl (c1, 1024, .inr (.inl A0))), (m2, .inl (c2, 1024, .inr (.inl L1))), (m5, .inl (c5, 40, .inl AS))] _ := hP
            have hD9 : va_D A [(xm, .inr (4, [.int 0, .int (nI N), .int (nI wd), .ref m1, .ref m2, .ref m3, .ref m4, .ref m5, .int km, .int kc, .int kl, .int (nI ac)])), (m1, .inl (c1, 1024, .inr (.inl A0))), (m2, .inl (c2, 1024, .inr (.inl L1))), (m5, .inl (c5, 40, .inl AS))] := hD
            have hK9 : va_K (dC, dI) ksCl [(c1, .long), (c2, .long), (c5, .int)] s := hK
            exact W.iret (v := 0) hx hb hr (fun t ht hW9 => ⟨⟨0, L1, rfl, Or.inr ⟨hl0, Or.inr ⟨hmo, Or.inr ⟨rfl, (by rcases hd9 with q | q; exact absurd (q.1.symm.trans c76) (by decide); exact q.2)⟩⟩⟩, by rw [ht]; exact hP9, va_K.moved hW9.alike hK9, hD9⟩, hS.F ht⟩) hS.2.2 dX4_implied_84
          · -- 76: goes on
            refine lv_iconst (v := 1) hx hb dX4_implied_79 (by decide) ?_
            refine lv_goto (tgt := 84) hx hb dX4_implied_80 (by decide) ?_
            have hP9 : va_P (dC, dI) ksCl [(xm, .inr (4, [.int 0, .int (nI N), .int (nI wd), .ref m1, .ref m2, .ref m3, .ref m4, .ref m5, .int km, .int kc, .int kl, .int (nI ac)])), (m1, .inl (c1, 1024, .inr (.inl A0))), (m2, .inl (c2, 1024, .inr (.inl L1))), (m5, .inl (c5, 40, .inl AS))] _ := hP
            have hD9 : va_D A [(xm, .inr (4, [.int 0, .int (nI N), .int (nI wd), .ref m1, .ref m2, .ref m3, .ref m4, .ref m5, .int km, .int kc, .int kl, .int (nI ac)])), (m1, .inl (c1, 1024, .inr (.inl A0))), (m2, .inl (c2, 1024, .inr (.inl L1))), (m5, .inl (c5, 40, .inl AS))] := hD
            have hK9 : va_K (dC, dI) ksCl [(c1, .long), (c2, .long), (c5, .int)] s := hK
            exact W.iret (v := 1) hx hb hr (fun t ht hW9 => ⟨⟨1, L1, rfl, Or.inr ⟨hl0, Or.inr ⟨hmo, Or.inl ⟨rfl, (by rcases hd9 with q | q; exact q.2; exact absurd q.1 c76)⟩⟩⟩, by rw [ht]; exact hP9, va_K.moved hW9.alike hK9, hD9⟩, hS.F ht⟩) hS.2.2 dX4_implied_84
        · -- 34: goes on
          have hw : w < wd := by
            rcases Nat.lt_or_ge w wd with q | q
            · exact q
            · exact absurd (nI_le q (by omega)) c34
          refine lv_iload_n hx hb dX4_implied_37 rfl (lv_at hl 2 rfl) ?_
          refine lv_if_eq (tgt := 67) hx hb dX4_implied_38 (by decide) (fun c38 => ?_) (fun c38 => ?_)
          · -- 38: jumps
            have j3 := i3.step0 c38
            refine lv_iconst (v := 0) hx hb dX4_implied_67 (by decide) ?_
            refine lv_istore_n (lv' := [(2, .int 0), (0, .ref xm), (1, .int x0), (3, .int (nI w))]) hx hb dX4_implied_68 rfl hl (by decide) rfl (fun ls hl => ?_)
            refine lv_iinc (v := nI (w + 1)) (lv' := [(3, .int (nI (w + 1))), (2, .int 0), (0, .ref xm), (1, .int x0)]) hx hb dX4_implied_69 hl (k := 3) rfl (nI_1 _) (by decide) rfl (fun ls hl => ?_)
            refine lv_goto (tgt := 29) hx hb dX4_implied_72 (by decide) ?_
            exact ih (w + 1, 0) _ _ _ ⟨hw, by omega, j3, hP, hD, hS, lv_sub hl [2, 3, 1, 0] rfl⟩
          · -- 38: goes on
            refine lv_aload_n hx hb dX4_implied_41 rfl (lv_at hl 0 rfl) ?_
            refine va_get (D := (dC, dI)) (ci := 4) (v := .ref m2) (C := RX4) (T := TM) (N := 12) hx hb hts hiX4 hown hK hP 0 rfl rfl 4 (by decide) f13 (fun _ h9 => h9) rfl dX4_implied_42 ?_
            refine lv_iload_n hx hb dX4_implied_45 rfl (lv_at hl 3 rfl) ?_
            refine ks_lald hx hb hK hP 2 1 rfl rfl (j := w) (by omega) (by decide) dX4_implied_46 ?_
            refine lv_aload_n hx hb dX4_implied_47 rfl (lv_at hl 0 rfl) ?_
            refine lv_iload_n hx hb dX4_implied_48 rfl (lv_at hl 1 rfl) ?_
            refine lv_iload_n hx hb dX4_implied_49 rfl (lv_at hl 3 rfl) ?_
            refine ks_calllV (As := [.int x0, .int (nI w)]) (rest := [.long (L1 w)]) (wr := [(m1, .inl (c1, 1024, .inr (.inl A0))), (m2, .inl (c2, 1024, .inr (.inl L1))), (m5, .inl (c5, 40, .inl AS))]) (wz := fun _ => [(xm, .inr (4, [.int 0, .int (nI N), .int (nI wd), .ref m1, .ref m2, .ref m3, .ref m4, .ref m5, .int km, .int kc, .int kl, .int (nI ac)])), (m1, .inl (c1, 1024, .inr (.inl A0))), (m2, .inl (c2, 1024, .inr (.inl L1))), (m5, .inl (c5, 40, .inl AS))]) ⟨hx, hb, hml, hown, hts⟩ (km_row l dC dI xm m1 m2 m3 m4 m5 wd N 0 km kc kl (nI ac) x0 v0 w hN hv (by omega)) (cwV 2 hts gX4_implied_X4_row rfl rfl rfl (by decide +kernel) ⟨Nat.le_of_ble_eq_true rfl, Nat.le_of_ble_eq_true rfl⟩) hK hP hD hS hA hNW [0] [1, 2, 3] [] [3, 0, 1, 2] rfl rfl rfl rfl (by decide) (by decide) (by decide) (ci := 4) (q0 := 0) rfl rfl rfl (fun _ => rfl) (fun _ => rfl) (by decide) rfl hl.1 rfl (Nat.le_of_ble_eq_true rfl) dX4_implied_50 ⟨Nat.le_of_ble_eq_true rfl, Nat.le_of_ble_eq_true rfl⟩ (fun r6 u9 H locs hw9 hK9 hP hD hS => ?_)
            have hrw : ks_rw N x0 w r6 := hw9
            have hP : va_P (dC, dI) ksCl [(xm, .inr (4, [.int 0, .int (nI N), .int (nI wd), .ref m1, .ref m2, .ref m3, .ref m4, .ref m5, .int km, .int kc, .int kl, .int (nI ac)])), (m1, .inl (c1, 1024, .inr (.inl A0))), (m2, .inl (c2, 1024, .inr (.inl L1))), (m5, .inl (c5, 40, .inl AS))] H := hP
            have hD : va_D A [(xm, .inr (4, [.int 0, .int (nI N), .int (nI wd), .ref m1, .ref m2, .ref m3, .ref m4, .ref m5, .int km, .int kc, .int kl, .int (nI ac)])), (m1, .inl (c1, 1024, .inr (.inl A0))), (m2, .inl (c2, 1024, .inr (.inl L1))), (m5, .inl (c5, 40, .inl AS))] := hD
            refine lv_ldc2 (v := (-1)) hx hb hown k39 dX4_implied_53 ?_
            refine lv_lxor hx hb dX4_implied_56 ?_
            refine lv_land hx hb dX4_implied_57 ?_
            refine lv_lconst (v := 0) hx hb dX4_implied_58 (by decide) ?_
            refine W.lcmp hx hb dX4_implied_59 ?_
            refine lv_if_ne (tgt := 67) hx hb dX4_implied_60 (by decide) (fun c60 => ?_) (fun c60 => ?_)
            · -- 60: jumps
              have j3 := (i3.step c38 hrw).2 (fun q => c60 ((lg_cmp_eq _ _).mpr q))
              refine lv_iconst (v := 0) hx hb dX4_implied_67 (by decide) ?_
              refine lv_istore_n (lv' := [(2, .int 0), (0, .ref xm), (1, .int x0), (3, .int (nI w))]) hx hb dX4_implied_68 rfl hl (by decide) rfl (fun ls hl => ?_)
              refine lv_iinc (v := nI (w + 1)) (lv' := [(3, .int (nI (w + 1))), (2, .int 0), (0, .ref xm), (1, .int x0)]) hx hb dX4_implied_69 hl (k := 3) rfl (nI_1 _) (by decide) rfl (fun ls hl => ?_)
              refine lv_goto (tgt := 29) hx hb dX4_implied_72 (by decide) ?_
              exact ih (w + 1, 0) _ _ _ ⟨hw, by omega, j3, hP, hD, hS, lv_sub hl [2, 3, 1, 0] rfl⟩
            · -- 60: goes on
              have j3 := (i3.step c38 hrw).1 ((lg_cmp_eq _ _).mp c60)
              refine lv_iconst (v := 1) hx hb dX4_implied_63 (by decide) ?_
              refine lv_goto (tgt := 68) hx hb dX4_implied_64 (by decide) ?_
              refine lv_istore_n (lv' := [(2, .int 1), (0, .ref xm), (1, .int x0), (3, .int (nI w))]) hx hb dX4_implied_68 rfl hl (by decide) rfl (fun ls hl => ?_)
              refine lv_iinc (v := nI (w + 1)) (lv' := [(3, .int (nI (w + 1))), (2, .int 1), (0, .ref xm), (1, .int x0)]) hx hb dX4_implied_69 hl (k := 3) rfl (nI_1 _) (by decide) rfl (fun ls hl => ?_)
              refine lv_goto (tgt := 29) hx hb dX4_implied_72 (by decide) ?_
              exact ih (w + 1, 1) _ _ _ ⟨hw, by omega, j3, hP, hD, hS, lv_sub hl [2, 3, 1, 0] rfl⟩
      · intro x H locs ls h9
        obtain ⟨i1, i2, i3, -, -, -, -⟩ := h9
        try dsimp only at i1 i2
        omega
    · -- 20: goes on
      have hnm : ∀ v, v < 2 ^ N → ¬ (ks_Z N AS ac (-1) 0 F) v.testBit := by
        rcases t2 with q | q
        · exact q.2
        · exact absurd (q.1.symm.trans c20) (by decide)
      refine lv_iconst (v := -1) hx hb dX4_implied_23 (by decide) ?_
      have hP9 : va_P (dC, dI) ksCl [(xm, .inr (4, [.int 0, .int (nI N), .int (nI wd), .ref m1, .ref m2, .ref m3, .ref m4, .ref m5, .int km, .int kc, .int kl, .int (nI ac)])), (m1, .inl (c1, 1024, .inr (.inl A0))), (m2, .inl (c2, 1024, .inr (.inl L1))), (m5, .inl (c5, 40, .inl AS))] _ := hP
      have hD9 : va_D A [(xm, .inr (4, [.int 0, .int (nI N), .int (nI wd), .ref m1, .ref m2, .ref m3, .ref m4, .ref m5, .int km, .int kc, .int kl, .int (nI ac)])), (m1, .inl (c1, 1024, .inr (.inl A0))), (m2, .inl (c2, 1024, .inr (.inl L1))), (m5, .inl (c5, 40, .inl AS))] := hD
      have hK9 : va_K (dC, dI) ksCl [(c1, .long), (c2, .long), (c5, .int)] s := hK
      exact W.iret (v := -1) hx hb hr (fun t ht hW9 => ⟨⟨-1, L1, rfl, Or.inr ⟨hl0, Or.inl ⟨hnm, rfl⟩⟩, by rw [ht]; exact hP9, va_K.moved hW9.alike hK9, hD9⟩, hS.F ht⟩) hS.2.2 dX4_implied_24
