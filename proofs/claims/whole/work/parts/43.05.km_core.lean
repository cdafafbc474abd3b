set_option maxHeartbeats 4000000 in
set_option maxRecDepth 100000 in
/-- the reference: core -/
theorem km_core (l : Launch) (dC : Nat → ClassId) (dI : Nat → Nat → Nat) (xm m1 m2 m3 m4 m5 wd : Nat) (c1 c2 c5 : ClassId) (N : Nat) (th km kc kl : Int32) (ac : Nat) (A0 LF : Nat → Int64) (AS : Nat → Int32) (F : (Nat → Bool) → Prop) (hN : N ≤ 16) (hwd : wd = ks_wd N) (hac : ac ≤ 40) (hlit : ∀ j, j < ac → ∃ v, ks_lit N (AS j) v) (hT : ks_TT N A0 F) : ks_Ml l yX4_core wsX4_core ({ frames := 2, cells := 0, slots := 0, locals := 51 }) (dC, dI) [.ref xm] [(xm, .inr (4, [.int th, .int (nI N), .int (nI wd), .ref m1, .ref m2, .ref m3, .ref m4, .ref m5, .int km, .int kc, .int kl, .int (nI ac)])), (m1, .inl (c1, 1024, .inr (.inl A0))), (m2, .inl (c2, 1024, .inr (.inl LF))), (m5, .inl (c5, 40, .inl AS))] [(c1, .long), (c2, .long), (c5, .int)] 0 0 (S := (Nat → Int64)) (fun r _ => ((¬ ∀ v, v < 2 ^ N → ¬ (ks_Z N AS ac (-1) 0 F) v.testBit) ∧ r = 0) ∨ ((∀ v, v < 2 ^ N → ¬ (ks_Z N AS ac (-1) 0 F) v.testBit) ∧ ks_kp (fun ch => ∀ v, v < 2 ^ N → ¬ (ks_Z N AS ac ch 0 F) v.testBit) (ks_K0 ac) ac r)) (fun u => [(xm, .inr (4, [.int 0, .int (nI N), .int (nI wd), .ref m1, .ref m2, .ref m3, .ref m4, .ref m5, .int km, .int kc, .int kl, .int (nI ac)])), (m1, .inl (c1, 1024, .inr (.inl A0))), (m2, .inl (c2, 1024, .inr (.inl u))), (m5, .inl (c5, 40, .inl AS))]) (fun u => [(c1, .long), (c2, .long), (c5, .int)]) := by
  intro sz
  refine Met.ofW (cc := cX4_core) (maxL := 6) (ret := (some .long)) (by decide) rfl ?_
  intro p e s m args below meth c s₁ B9 hml hv
  obtain ⟨rfl, hsz, hP, hK, hD0, hNW⟩ := hv
  have hx := B9.exec
  have hb := B9.bytes
  have hr := B9.returns
  have hts := atoms_spec (ws := wsX4_core) B9.pre
  have hown : s.vm.findClass RX4 = some m.cls := findClass_of_methodNamed B9.named
  have hlocks := B9.notSynchronized
  subst hsz
  have hD := hD0.self (sz := s.heap.size)
  generalize hAe : va_A [(xm, .inr (4, [.int th, .int (nI N), .int (nI wd), .ref m1, .ref m2, .ref m3, .ref m4, .ref m5, .int km, .int kc, .int kl, .int (nI ac)])), (m1, .inl (c1, 1024, .inr (.inl A0))), (m2, .inl (c2, 1024, .inr (.inl LF))), (m5, .inl (c5, 40, .inl AS))] s.heap.size = A at hD ⊢
  have hA : ∀ q : Nat, s.heap.size ≤ q → A q := fun q h => by rw [← hAe]; exact Or.inr h
  have hS : va_S A s.heap s.heap [] := va_S.rf
  have hiX4 : ∀ w ∈ u_ws RX4 TM 12, w ∈ wsX4_core := by decide +kernel
  have f36 := hts (.fieldLink RX4 36 "LessonSolverModel" "thrown" "I") (by decide +kernel)
  have f50 := hts (.fieldLink RX4 50 "LessonSolverModel" "assumptions" "I") (by decide +kernel)
  have k39 := hts (.constantLong RX4 39 (-1)) (by decide +kernel)
  have hl := lv_entry ([.ref xm]) (n := 6) (Nat.le_of_ble_eq_true rfl)
  rw [lg_entry_eq]
  generalize (lg_sl ([.ref xm]) ++ List.replicate (6 - (lg_sl ([.ref xm])).length) Slot.unset).toArray = ls at hl ⊢
  have hl : lv_has ls 6 [(0, .ref xm)] := hl
  refine lv_aload_n hx hb dX4_core_0 rfl (lv_at hl 0 rfl) ?_
  refine lv_iconst (v := 0) hx hb dX4_core_1 (by decide) ?_
  refine va_put (D := (dC, dI)) (ci := 4) (v := .int 0) (ty := .int) (C := RX4) (T := TM) (N := 12) hx hb hts hiX4 tyM tyM_ok nmM hown hK hP hD hS 0 rfl rfl 0 (by decide) f36 (fun _ h9 => h9) rfl (by decide +kernel) rfl rfl (Nat.le_of_ble_eq_true rfl) dX4_core_2 (fun H locs hP hD hS => ?_)
  have hP : va_P (dC, dI) ksCl [(xm, .inr (4, [.int 0, .int (nI N), .int (nI wd), .ref m1, .ref m2, .ref m3, .ref m4, .ref m5, .int km, .int kc, .int kl, .int (nI ac)])), (m1, .inl (c1, 1024, .inr (.inl A0))), (m2, .inl (c2, 1024, .inr (.inl LF))), (m5, .inl (c5, 40, .inl AS))] H := hP
  have hD : va_D A [(xm, .inr (4, [.int 0, .int (nI N), .int (nI wd), .ref m1, .ref m2, .ref m3, .ref m4, .ref m5, .int km, .int kc, .int kl, .int (nI ac)])), (m1, .inl (c1, 1024, .inr (.inl A0))), (m2, .inl (c2, 1024, .inr (.inl LF))), (m5, .inl (c5, 40, .inl AS))] := hD
  refine lv_aload_n hx hb dX4_core_5 rfl (lv_at hl 0 rfl) ?_
  refine lv_ldc2 (v := (-1)) hx hb hown k39 dX4_core_6 ?_
  refine ks_calliV (As := [.long (-1)]) (rest := []) (wr := []) (wz := fun u => [(xm, .inr (4, [.int 0, .int (nI N), .int (nI wd), .ref m1, .ref m2, .ref m3, .ref m4, .ref m5, .int km, .int kc, .int kl, .int (nI ac)])), (m1, .inl (c1, 1024, .inr (.inl A0))), (m2, .inl (c2, 1024, .inr (.inl u))), (m5, .inl (c5, 40, .inl AS))]) ⟨hx, hb, hml, hown, hts⟩ (km_leaves l dC dI xm m1 m2 m3 m4 m5 wd c1 c2 c5 N 0 km kc kl ac A0 LF AS F (-1) hN hwd hac hlit hT) (cwV 1 hts gX4_core_X4_leaves rfl rfl rfl (by decide +kernel) ⟨Nat.le_of_ble_eq_true rfl, Nat.le_of_ble_eq_true rfl⟩) hK hP hD hS hA hNW [0, 1, 2, 3] [] [0, 1, 2] [0, 1, 2, 3] rfl rfl rfl rfl (by decide) (by decide) (by decide) (ci := 4) (q0 := 0) rfl rfl rfl (fun _ => rfl) (fun _ => rfl) (by decide) rfl hl.1 rfl (Nat.le_of_ble_eq_true rfl) dX4_core_9 ⟨Nat.le_of_ble_eq_true rfl, Nat.le_of_ble_eq_true rfl⟩ (fun r1 L1 H locs hw9 hK9 hP hD hS => ?_)
  obtain ⟨t1, t2⟩ := hw9
  have hP : va_P (dC, dI) ksCl [(xm, .inr (4, [.int 0, .int (nI N), .int (nI wd), .ref m1, .ref m2, .ref m3, .ref m4, .ref m5, .int km, .int kc, .int kl, .int (nI ac)])), (m1, .inl (c1, 1024, .inr (.inl A0))), (m2, .inl (c2, 1024, .inr (.inl L1))), (m5, .inl (c5, 40, .inl AS))] H := hP
  have hD : va_D A [(xm, .inr (4, [.int 0, .int (nI N), .int (nI wd), .ref m1, .ref m2, .ref m3, .ref m4, .ref m5, .int km, .int kc, .int kl, .int (nI ac)])), (m1, .inl (c1, 1024, .inr (.inl A0))), (m2, .inl (c2, 1024, .inr (.inl L1))), (m5, .inl (c5, 40, .inl AS))] := hD
  refine lv_if_eq (tgt := 17) hx hb dX4_core_12 (by decide) (fun c12 => ?_) (fun c12 => ?_)
  · -- 12: jumps
    have hnm : ∀ v, v < 2 ^ N → ¬ (ks_Z N AS ac (-1) 0 F) v.testBit := by
      rcases t2 with q | q
      · exact q.2
      · exact absurd (q.1.symm.trans c12) (by decide)
    refine lv_lconst (v := 1) hx hb dX4_core_17 (by decide) ?_
    refine lv_aload_n hx hb dX4_core_18 rfl (lv_at hl 0 rfl) ?_
    refine va_get (D := (dC, dI)) (ci := 4) (v := .int (nI ac)) (C := RX4) (T := TM) (N := 12) hx hb hts hiX4 hown hK hP 0 rfl rfl 11 (by decide) f50 (fun _ h9 => h9) rfl dX4_core_19 ?_
    refine lv_lshl hx hb dX4_core_22 rfl ?_
    refine lv_lconst (v := 1) hx hb dX4_core_23 (by decide) ?_
    refine lv_lsub hx hb dX4_core_24 ?_
    refine ks_topl (y := ks_K0 ac) (rfl) ?_
    refine lv_lstore_n (lv' := [(1, .long (ks_K0 ac)), (0, .ref xm)]) hx hb dX4_core_25 rfl hl (by decide) rfl (fun ls hl => ?_)
    refine lv_iconst (v := nI 0) hx hb dX4_core_26 (by decide) ?_
    refine lv_istore_n (lv' := [(3, .int (nI 0)), (1, .long (ks_K0 ac)), (0, .ref xm)]) hx hb dX4_core_27 rfl hl (by decide) rfl (fun ls hl => ?_)
    refine ks_wl (σ := Nat × Int64 × (Nat → Int64)) (fun n x H locs ls => (x.1 ≤ ac) ∧ (n + x.1 = ac + 1) ∧ (ks_kp (fun ch => ∀ v, v < 2 ^ N → ¬ (ks_Z N AS ac ch 0 F) v.testBit) (ks_K0 ac) x.1 x.2.1) ∧ va_P (dC, dI) ksCl [(xm, .inr (4, [.int 0, .int (nI N), .int (nI wd), .ref m1, .ref m2, .ref m3, .ref m4, .ref m5, .int km, .int kc, .int kl, .int (nI ac)])), (m1, .inl (c1, 1024, .inr (.inl A0))), (m2, .inl (c2, 1024, .inr (.inl x.2.2))), (m5, .inl (c5, 40, .inl AS))] H ∧ va_D A [(xm, .inr (4, [.int 0, .int (nI N), .int (nI wd), .ref m1, .ref m2, .ref m3, .ref m4, .ref m5, .int km, .int kc, .int kl, .int (nI ac)])), (m1, .inl (c1, 1024, .inr (.inl A0))), (m2, .inl (c2, 1024, .inr (.inl x.2.2))), (m5, .inl (c5, 40, .inl AS))] ∧ va_S A s.heap H locs ∧ lv_has ls 6 [(0, .ref xm), (1, .long x.2.1), (3, .int (nI x.1))]) 28 ?_ ?_ (ac + 1) (0, ks_K0 ac, L1) _ _ ls ⟨Nat.zero_le _, rfl, rfl, hP, hD, hS, lv_sub hl [2, 1, 0] rfl⟩
    · -- loop at 28
      intro n x H locs ls h9 ih
      obtain ⟨i, K, L2⟩ := x
      obtain ⟨i1, i2, i3, hP, hD, hS, hl⟩ := h9
      have i1 : i ≤ ac := i1
      have i2 : (n + 1) + i = ac + 1 := i2
      have i3 : ks_kp (fun ch => ∀ v, v < 2 ^ N → ¬ (ks_Z N AS ac ch 0 F) v.testBit) (ks_K0 ac) i K := i3
      have hP : va_P (dC, dI) ksCl [(xm, .inr (4, [.int 0, .int (nI N), .int (nI wd), .ref m1, .ref m2, .ref m3, .ref m4, .ref m5, .int km, .int kc, .int kl, .int (nI ac)])), (m1, .inl (c1, 1024, .inr (.inl A0))), (m2, .inl (c2, 1024, .inr (.inl L2))), (m5, .inl (c5, 40, .inl AS))] H := hP
      have hD : va_D A [(xm, .inr (4, [.int 0, .int (nI N), .int (nI wd), .ref m1, .ref m2, .ref m3, .ref m4, .ref m5, .int km, .int kc, .int kl, .int (nI ac)])), (m1, .inl (c1, 1024, .inr (.inl A0))), (m2, .inl (c2, 1024, .inr (.inl L2))), (m5, .inl (c5, 40, .inl AS))] := hD
      have hl : lv_has ls 6 [(0, .ref xm), (1, .long K), (3, .int (nI i))] := hl
      refine lv_iload_n hx hb dX4_core_28 rfl (lv_at hl 2 rfl) ?_
      refine lv_aload_n hx hb dX4_core_29 rfl (lv_at hl 0 rfl) ?_
      refine va_get (D := (dC, dI)) (ci := 4) (v := .int (nI ac)) (C := RX4) (T := TM) (N := 12) hx hb hts hiX4 hown hK hP 0 rfl rfl 11 (by decide) f50 (fun _ h9 => h9) rfl dX4_core_30 ?_
      refine lv_icmp_ge (tgt := 65) hx hb dX4_core_33 (by decide) (fun c33 => ?_) (fun c33 => ?_)
      · -- 33: jumps
        have hi : ac ≤ i := by
          rcases Nat.lt_or_ge i ac with q | q
          · exact absurd c33 (nI_ge q (by omega))
          · exact q
        have ei : i = ac := by omega
        rw [ei] at i3
        refine lv_lload_n hx hb dX4_core_65 rfl (lv_at hl 1 rfl) ?_
        have hP9 : va_P (dC, dI) ksCl [(xm, .inr (4, [.int 0, .int (nI N), .int (nI wd), .ref m1, .ref m2, .ref m3, .ref m4, .ref m5, .int km, .int kc, .int kl, .int (nI ac)])), (m1, .inl (c1, 1024, .inr (.inl A0))), (m2, .inl (c2, 1024, .inr (.inl L2))), (m5, .inl (c5, 40, .inl AS))] _ := hP
        have hD9 : va_D A [(xm, .inr (4, [.int 0, .int (nI N), .int (nI wd), .ref m1, .ref m2, .ref m3, .ref m4, .ref m5, .int km, .int kc, .int kl, .int (nI ac)])), (m1, .inl (c1, 1024, .inr (.inl A0))), (m2, .inl (c2, 1024, .inr (.inl L2))), (m5, .inl (c5, 40, .inl AS))] := hD
        have hK9 : va_K (dC, dI) ksCl [(c1, .long), (c2, .long), (c5, .int)] s := hK
        exact W.lret (v := K) hx hb hr (fun t ht hW9 => ⟨⟨K, L2, rfl, Or.inr ⟨hnm, i3⟩, by rw [ht]; exact hP9, va_K.moved hW9.alike hK9, hD9⟩, hS.F ht⟩) hS.2.2 dX4_core_66
      · -- 33: goes on
        have hi : i < ac := by
          rcases Nat.lt_or_ge i ac with q | q
          · exact q
          · exact absurd (nI_le q (by omega)) c33
        refine lv_lload_n hx hb dX4_core_36 rfl (lv_at hl 1 rfl) ?_
        refine lv_lconst (v := 1) hx hb dX4_core_37 (by decide) ?_
        refine lv_iload_n hx hb dX4_core_38 rfl (lv_at hl 2 rfl) ?_
        refine lv_lshl hx hb dX4_core_39 rfl ?_
        refine lv_ldc2 (v := (-1)) hx hb hown k39 dX4_core_40 ?_
        refine lv_lxor hx hb dX4_core_43 ?_
        refine lv_land hx hb dX4_core_44 ?_
        refine ks_topl (y := ks_rm K i) (rfl) ?_
        refine lv_lstore (lv' := [(4, .long (ks_rm K i)), (0, .ref xm), (1, .long K), (3, .int (nI i))]) hx hb dX4_core_45 hl (by decide) rfl (fun ls hl => ?_)
        refine lv_aload_n hx hb dX4_core_47 rfl (lv_at hl 1 rfl) ?_
        refine lv_lload hx hb dX4_core_48 (lv_at hl 0 rfl) ?_
        refine ks_calliV (As := [.long (ks_rm K i)]) (rest := []) (wr := []) (wz := fun u => [(xm, .inr (4, [.int 0, .int (nI N), .int (nI wd), .ref m1, .ref m2, .ref m3, .ref m4, .ref m5, .int km, .int kc, .int kl, .int (nI ac)])), (m1, .inl (c1, 1024, .inr (.inl A0))), (m2, .inl (c2, 1024, .inr (.inl u))), (m5, .inl (c5, 40, .inl AS))]) ⟨hx, hb, hml, hown, hts⟩ (km_leaves l dC dI xm m1 m2 m3 m4 m5 wd c1 c2 c5 N 0 km kc kl ac A0 L2 AS F (ks_rm K i) hN hwd hac hlit hT) (cwV 1 hts gX4_core_X4_leaves rfl rfl rfl (by decide +kernel) ⟨Nat.le_of_ble_eq_true rfl, Nat.le_of_ble_eq_true rfl⟩) hK hP hD hS hA hNW [0, 1, 2, 3] [] [0, 1, 2] [0, 1, 2, 3] rfl rfl rfl rfl (by decide) (by decide) (by decide) (ci := 4) (q0 := 0) rfl rfl rfl (fun _ => rfl) (fun _ => rfl) (by decide) rfl hl.1 rfl (Nat.le_of_ble_eq_true rfl) dX4_core_50 ⟨Nat.le_of_ble_eq_true rfl, Nat.le_of_ble_eq_true rfl⟩ (fun r8 L3 H locs hw9 hK9 hP hD hS => ?_)
        obtain ⟨t1b, t2b⟩ := hw9
        have hP : va_P (dC, dI) ksCl [(xm, .inr (4, [.int 0, .int (nI N), .int (nI wd), .ref m1, .ref m2, .ref m3, .ref m4, .ref m5, .int km, .int kc, .int kl, .int (nI ac)])), (m1, .inl (c1, 1024, .inr (.inl A0))), (m2, .inl (c2, 1024, .inr (.inl L3))), (m5, .inl (c5, 40, .inl AS))] H := hP
        have hD : va_D A [(xm, .inr (4, [.int 0, .int (nI N), .int (nI wd), .ref m1, .ref m2, .ref m3, .ref m4, .ref m5, .int km, .int kc, .int kl, .int (nI ac)])), (m1, .inl (c1, 1024, .inr (.inl A0))), (m2, .inl (c2, 1024, .inr (.inl L3))), (m5, .inl (c5, 40, .inl AS))] := hD
        refine lv_if_ne (tgt := 59) hx hb dX4_core_53 (by decide) (fun c53 => ?_) (fun c53 => ?_)
        · -- 53: jumps
          have j3 : ks_kp (fun ch => ∀ v, v < 2 ^ N → ¬ (ks_Z N AS ac ch 0 F) v.testBit) (ks_K0 ac) (i + 1) K := ⟨K, i3, Or.inr ⟨(by rcases t2b with q | q; exact absurd q.1 c53; exact q.2), rfl⟩⟩
          refine lv_iinc (v := nI (i + 1)) (lv' := [(3, .int (nI (i + 1))), (4, .long (ks_rm K i)), (0, .ref xm), (1, .long K)]) hx hb dX4_core_59 hl (k := 3) rfl (nI_1 _) (by decide) rfl (fun ls hl => ?_)
          refine lv_goto (tgt := 28) hx hb dX4_core_62 (by decide) ?_
          exact ih (i + 1, K, L3) _ _ _ ⟨hi, by omega, j3, hP, hD, hS, lv_sub hl [2, 3, 0] rfl⟩
        · -- 53: goes on
          have j3 : ks_kp (fun ch => ∀ v, v < 2 ^ N → ¬ (ks_Z N AS ac ch 0 F) v.testBit) (ks_K0 ac) (i + 1) (ks_rm K i) := ⟨K, i3, Or.inl ⟨(by rcases t2b with q | q; exact q.2; exact absurd (q.1.symm.trans c53) (by decide)), rfl⟩⟩
          refine lv_lload hx hb dX4_core_56 (lv_at hl 0 rfl) ?_
          refine lv_lstore_n (lv' := [(1, .long (ks_rm K i)), (4, .long (ks_rm K i)), (0, .ref xm), (3, .int (nI i))]) hx hb dX4_core_58 rfl hl (by decide) rfl (fun ls hl => ?_)
          refine lv_iinc (v := nI (i + 1)) (lv' := [(3, .int (nI (i + 1))), (1, .long (ks_rm K i)), (4, .long (ks_rm K i)), (0, .ref xm)]) hx hb dX4_core_59 hl (k := 3) rfl (nI_1 _) (by decide) rfl (fun ls hl => ?_)
          refine lv_goto (tgt := 28) hx hb dX4_core_62 (by decide) ?_
          exact ih (i + 1, ks_rm K i, L3) _ _ _ ⟨hi, by omega, j3, hP, hD, hS, lv_sub hl [3, 1, 0] rfl⟩
    · intro x H locs ls h9
      obtain ⟨i1, i2, i3, -, -, -, -⟩ := h9
      try dsimp only at i1 i2
      omega
  · -- 12: goes on
    have hmo : ¬ ∀ v, v < 2 ^ N → ¬ (ks_Z N AS ac (-1) 0 F) v.testBit := by
      rcases t2 with q | q
      · exact absurd q.1 c12
      · exact q.2
    refine lv_lconst (v := 0) hx hb dX4_core_15 (by decide) ?_
    have hP9 : va_P (dC, dI) ksCl [(xm, .inr (4, [.int 0, .int (nI N), .int (nI wd), .ref m1, .ref m2, .ref m3, .ref m4, .ref m5, .int km, .int kc, .int kl, .int (nI ac)])), (m1, .inl (c1, 1024, .inr (.inl A0))), (m2, .inl (c2, 1024, .inr (.inl L1))), (m5, .inl (c5, 40, .inl AS))] _ := hP
    have hD9 : va_D A [(xm, .inr (4, [.int 0, .int (nI N), .int (nI wd), .ref m1, .ref m2, .ref m3, .ref m4, .ref m5, .int km, .int kc, .int kl, .int (nI ac)])), (m1, .inl (c1, 1024, .inr (.inl A0))), (m2, .inl (c2, 1024, .inr (.inl L1))), (m5, .inl (c5, 40, .inl AS))] := hD
    have hK9 : va_K (dC, dI) ksCl [(c1, .long), (c2, .long), (c5, .int)] s := hK
    exact W.lret (v := 0) hx hb hr (fun t ht hW9 => ⟨⟨0, L1, rfl, Or.inl ⟨hmo, rfl⟩, by rw [ht]; exact hP9, va_K.moved hW9.alike hK9, hD9⟩, hS.F ht⟩) hS.2.2 dX4_core_16
