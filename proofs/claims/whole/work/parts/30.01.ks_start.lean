set_option maxHeartbeats 4000000 in
set_option maxRecDepth 100000 in
/-- start: the wanted values alone -/
theorem ks_start (l : Launch) (dC : Nat → ClassId) (dI : Nat → Nat → Nat) (ta tb tr : Nat) (cB cR : ClassId) (B0 Rs0 : Nat → Int32) (k0 o0 z0 wo wz : Int32) (N : Nat) (P M : Nat → Int32) (nr : Nat) (hN : N ≤ 16) (hd : ∀ i, bt wo i = true → bt wz i = false) (hlN : ∀ i, bt wo i = true ∨ bt wz i = true → i < N) : ks_Mv l yX2_start wsX2_start ({ frames := 1, cells := 0, slots := 0, locals := 23 }) (dC, dI) [.ref ta, .int wo, .int wz] [(ta, .inr (2, [.ref tb, .ref tr, .int k0, .int o0, .int z0])), (tb, .inl (cB, 16, .inl B0)), (tr, .inl (cR, 16, .inl Rs0))] [(cB, .int), (cR, .int)] 0 0 (S := (Nat → Int32) × (Nat → Int32) × Nat) (fun u => ks_R N P M nr u.1 u.2.1 u.2.2 wo wz) (fun u => [(ta, .inr (2, [.ref tb, .ref tr, .int (nI u.2.2), .int wo, .int wz])), (tb, .inl (cB, 16, .inl u.1)), (tr, .inl (cR, 16, .inl u.2.1))]) (fun u => [(cB, .int), (cR, .int)]) := by
  intro sz
  refine Met.ofW (cc := cX2_start) (maxL := 5) (ret := none) (by decide) rfl ?_
  intro p e s m args below meth c s₁ B9 hml hv
  obtain ⟨rfl, hsz, hP, hK, hD0, hNW⟩ := hv
  have hx := B9.exec
  have hb := B9.bytes
  have hr := B9.returns
  have hts := atoms_spec (ws := wsX2_start) B9.pre
  have hown : s.vm.findClass RX2 = some m.cls := findClass_of_methodNamed B9.named
  have hlocks := B9.notSynchronized
  subst hsz
  have hD := hD0.self (sz := s.heap.size)
  generalize hAe : va_A [(ta, .inr (2, [.ref tb, .ref tr, .int k0, .int o0, .int z0])), (tb, .inl (cB, 16, .inl B0)), (tr, .inl (cR, 16, .inl Rs0))] s.heap.size = A at hD ⊢
  have hA : ∀ q : Nat, s.heap.size ≤ q → A q := fun q h => by rw [← hAe]; exact Or.inr h
  have hS : va_S A s.heap s.heap [] := va_S.rf
  have hiX2 : ∀ w ∈ u_ws RX2 TX2 5, w ∈ wsX2_start := by decide +kernel
  have f18 := hts (.fieldLink RX2 18 "LessonSolver$Trail" "length" "I") (by decide +kernel)
  have f22 := hts (.fieldLink RX2 22 "LessonSolver$Trail" "ones" "I") (by decide +kernel)
  have f25 := hts (.fieldLink RX2 25 "LessonSolver$Trail" "zeros" "I") (by decide +kernel)
  have hl := lv_entry ([.ref ta, .int wo, .int wz]) (n := 5) (Nat.le_of_ble_eq_true rfl)
  rw [lg_entry_eq]
  generalize (lg_sl ([.ref ta, .int wo, .int wz]) ++ List.replicate (5 - (lg_sl ([.ref ta, .int wo, .int wz])).length) Slot.unset).toArray = ls at hl ⊢
  have hl : lv_has ls 5 [(0, .ref ta), (1, .int wo), (2, .int wz)] := hl
  refine lv_aload_n hx hb dX2_start_0 rfl (lv_at hl 0 rfl) ?_
  refine lv_iconst (v := 0) hx hb dX2_start_1 (by decide) ?_
  refine va_put (D := (dC, dI)) (ci := 2) (v := .int 0) (ty := .int) (C := RX2) (T := TX2) (N := 5) hx hb hts hiX2 tyX2 tyX2_ok nmX2 hown hK hP hD hS 0 rfl rfl 2 (by decide) f18 (fun _ h9 => h9) rfl (by decide +kernel) rfl rfl (Nat.le_of_ble_eq_true rfl) dX2_start_2 (fun H locs hP hD hS => ?_)
  have hP : va_P (dC, dI) ksCl [(ta, .inr (2, [.ref tb, .ref tr, .int 0, .int o0, .int z0])), (tb, .inl (cB, 16, .inl B0)), (tr, .inl (cR, 16, .inl Rs0))] H := hP
  have hD : va_D A [(ta, .inr (2, [.ref tb, .ref tr, .int 0, .int o0, .int z0])), (tb, .inl (cB, 16, .inl B0)), (tr, .inl (cR, 16, .inl Rs0))] := hD
  refine lv_aload_n hx hb dX2_start_5 rfl (lv_at hl 0 rfl) ?_
  refine lv_iconst (v := 0) hx hb dX2_start_6 (by decide) ?_
  refine va_put (D := (dC, dI)) (ci := 2) (v := .int 0) (ty := .int) (C := RX2) (T := TX2) (N := 5) hx hb hts hiX2 tyX2 tyX2_ok nmX2 hown hK hP hD hS 0 rfl rfl 3 (by decide) f22 (fun _ h9 => h9) rfl (by decide +kernel) rfl rfl (Nat.le_of_ble_eq_true rfl) dX2_start_7 (fun H locs hP hD hS => ?_)
  have hP : va_P (dC, dI) ksCl [(ta, .inr (2, [.ref tb, .ref tr, .int 0, .int 0, .int z0])), (tb, .inl (cB, 16, .inl B0)), (tr, .inl (cR, 16, .inl Rs0))] H := hP
  have hD : va_D A [(ta, .inr (2, [.ref tb, .ref tr, .int 0, .int 0, .int z0])), (tb, .inl (cB, 16, .inl B0)), (tr, .inl (cR, 16, .inl Rs0))] := hD
  refine lv_aload_n hx hb dX2_start_10 rfl (lv_at hl 0 rfl) ?_
  refine lv_iconst (v := 0) hx hb dX2_start_11 (by decide) ?_
  refine va_put (D := (dC, dI)) (ci := 2) (v := .int 0) (ty := .int) (C := RX2) (T := TX2) (N := 5) hx hb hts hiX2 tyX2 tyX2_ok nmX2 hown hK hP hD hS 0 rfl rfl 4 (by decide) f25 (fun _ h9 => h9) rfl (by decide +kernel) rfl rfl (Nat.le_of_ble_eq_true rfl) dX2_start_12 (fun H locs hP hD hS => ?_)
  have hP : va_P (dC, dI) ksCl [(ta, .inr (2, [.ref tb, .ref tr, .int 0, .int 0, .int 0])), (tb, .inl (cB, 16, .inl B0)), (tr, .inl (cR, 16, .inl Rs0))] H := hP
  have hD : va_D A [(ta, .inr (2, [.ref tb, .ref tr, .int 0, .int 0, .int 0])), (tb, .inl (cB, 16, .inl B0)), (tr, .inl (cR, 16, .inl Rs0))] := hD
  refine lv_iconst (v := nI 0) hx hb dX2_start_15 (by decide) ?_
  refine lv_istore_n (lv' := [(3, .int (nI 0)), (0, .ref ta), (1, .int wo), (2, .int wz)]) hx hb dX2_start_16 rfl hl (by decide) rfl (fun ls hl => ?_)
  refine ks_wl (σ := Nat × (Nat → Int32) × (Nat → Int32) × Nat × Int32 × Int32) (fun n x H locs ls => (x.1 ≤ 16) ∧ (n + x.1 = 17) ∧ (ks_R N P M nr x.2.1 x.2.2.1 x.2.2.2.1 x.2.2.2.2.1 x.2.2.2.2.2) ∧ (ks_I wo x.1 x.2.2.2.2.1) ∧ (ks_I wz x.1 x.2.2.2.2.2) ∧ va_P (dC, dI) ksCl [(ta, .inr (2, [.ref tb, .ref tr, .int (nI x.2.2.2.1), .int x.2.2.2.2.1, .int x.2.2.2.2.2])), (tb, .inl (cB, 16, .inl x.2.1)), (tr, .inl (cR, 16, .inl x.2.2.1))] H ∧ va_D A [(ta, .inr (2, [.ref tb, .ref tr, .int (nI x.2.2.2.1), .int x.2.2.2.2.1, .int x.2.2.2.2.2])), (tb, .inl (cB, 16, .inl x.2.1)), (tr, .inl (cR, 16, .inl x.2.2.1))] ∧ va_S A s.heap H locs ∧ lv_has ls 5 [(0, .ref ta), (1, .int wo), (2, .int wz), (3, .int (nI x.1))]) 17 ?_ ?_ (17) (0, B0, Rs0, 0, 0, 0) _ _ ls ⟨Nat.zero_le 16, rfl, ks_R.none N P M nr B0 Rs0, ks_I.zero wo, ks_I.zero wz, hP, hD, hS, lv_sub hl [1, 2, 3, 0] rfl⟩
  · -- loop at 17
    intro n x H locs ls h9 ih
    obtain ⟨i, B, Rs, k, o, z⟩ := x
    obtain ⟨i1, i2, i3, i4, i5, hP, hD, hS, hl⟩ := h9
    have i1 : i ≤ 16 := i1
    have i2 : (n + 1) + i = 17 := i2
    have i3 : ks_R N P M nr B Rs k o z := i3
    have i4 : ks_I wo i o := i4
    have i5 : ks_I wz i z := i5
    have hP : va_P (dC, dI) ksCl [(ta, .inr (2, [.ref tb, .ref tr, .int (nI k), .int o, .int z])), (tb, .inl (cB, 16, .inl B)), (tr, .inl (cR, 16, .inl Rs))] H := hP
    have hD : va_D A [(ta, .inr (2, [.ref tb, .ref tr, .int (nI k), .int o, .int z])), (tb, .inl (cB, 16, .inl B)), (tr, .inl (cR, 16, .inl Rs))] := hD
    have hl : lv_has ls 5 [(0, .ref ta), (1, .int wo), (2, .int wz), (3, .int (nI i))] := hl
    refine lv_iload_n hx hb dX2_start_17 rfl (lv_at hl 3 rfl) ?_
    refine lv_bipush (v := nI 16) hx hb dX2_start_18 (by decide) ?_
    refine lv_icmp_ge (tgt := 62) hx hb dX2_start_20 (by decide) (fun c20 => ?_) (fun c20 => ?_)
    · -- 20: jumps
      have h16 : 16 ≤ i := by
        rcases Nat.lt_or_ge i 16 with q | q
        · exact absurd c20 (nI_ge q (by omega))
        · exact q
      have e16 : i = 16 := by omega
      subst e16
      have eo := i4.done (fun q hq => by have := hlN q (Or.inl hq); omega)
      have ez := i5.done (fun q hq => by have := hlN q (Or.inr hq); omega)
      subst eo; subst ez
      have hP9 : va_P (dC, dI) ksCl [(ta, .inr (2, [.ref tb, .ref tr, .int (nI k), .int o, .int z])), (tb, .inl (cB, 16, .inl B)), (tr, .inl (cR, 16, .inl Rs))] _ := hP
      have hD9 : va_D A [(ta, .inr (2, [.ref tb, .ref tr, .int (nI k), .int o, .int z])), (tb, .inl (cB, 16, .inl B)), (tr, .inl (cR, 16, .inl Rs))] := hD
      have hK9 : va_K (dC, dI) ksCl [(cB, .int), (cR, .int)] s := hK
      exact W.vret hx hb hr (fun t ht hW9 => ⟨⟨(B, Rs, k), rfl, i3, by rw [ht]; exact hP9, va_K.moved hW9.alike hK9, hD9⟩, hS.F ht⟩) hS.2.2 dX2_start_62
    · -- 20: goes on
      have h16 : i < 16 := by
        rcases Nat.lt_or_ge i 16 with q | q
        · exact q
        · exact absurd (nI_le q (by omega)) c20
      refine lv_iconst (v := 1) hx hb dX2_start_23 (by decide) ?_
      refine lv_iload_n hx hb dX2_start_24 rfl (lv_at hl 3 rfl) ?_
      refine lv_ishl hx hb dX2_start_25 ?_
      refine ks_top (y := ks_on i) (rfl) ?_
      refine lv_istore (lv' := [(4, .int (ks_on i)), (0, .ref ta), (1, .int wo), (2, .int wz), (3, .int (nI i))]) hx hb dX2_start_26 hl (by decide) rfl (fun ls hl => ?_)
      refine lv_iload_n hx hb dX2_start_28 rfl (lv_at hl 2 rfl) ?_
      refine lv_iload_n hx hb dX2_start_29 rfl (lv_at hl 3 rfl) ?_
      refine lv_ior hx hb dX2_start_30 ?_
      refine lv_iload hx hb dX2_start_31 (lv_at hl 0 rfl) ?_
      refine lv_iand hx hb dX2_start_33 ?_
      refine lv_if_eq (tgt := 56) hx hb dX2_start_34 (by decide) (fun c34 => ?_) (fun c34 => ?_)
      · -- 34: jumps
        have b0 := (ks_tst (by omega)).mp c34
        rw [b_or, Bool.or_eq_false_iff] at b0
        have j1 : i + 1 ≤ 16 := h16
        have j3 := i3
        have j4 := i4.skip b0.1
        have j5 := i5.skip b0.2
        refine lv_iinc (v := nI (i + 1)) (lv' := [(3, .int (nI (i + 1))), (4, .int (ks_on i)), (0, .ref ta), (1, .int wo), (2, .int wz)]) hx hb dX2_start_56 hl (k := 4) rfl (nI_1 _) (by decide) rfl (fun ls hl => ?_)
        refine lv_goto (tgt := 17) hx hb dX2_start_59 (by decide) ?_
        exact ih (i + 1, B, Rs, k, o, z) _ _ _ ⟨j1, by omega, j3, j4, j5, hP, hD, hS, lv_sub hl [2, 3, 4, 0] rfl⟩
      · -- 34: goes on
        have b1 := (ks_tst1 (by omega)).mp c34
        rw [b_or, Bool.or_eq_true] at b1
        have hiN : i < N := hlN i b1
        have j1 : i + 1 ≤ 16 := h16
        refine lv_aload_n hx hb dX2_start_37 rfl (lv_at hl 1 rfl) ?_
        refine lv_iload hx hb dX2_start_38 (lv_at hl 0 rfl) ?_
        refine lv_iload_n hx hb dX2_start_40 rfl (lv_at hl 2 rfl) ?_
        refine lv_iload hx hb dX2_start_41 (lv_at hl 0 rfl) ?_
        refine lv_iand hx hb dX2_start_43 ?_
        refine lv_if_eq (tgt := 51) hx hb dX2_start_44 (by decide) (fun c44 => ?_) (fun c44 => ?_)
        · -- 44: jumps
          have b2 := (ks_tst (by omega)).mp c44
          have b3 : bt wz i = true := by
            rcases b1 with q | q
            · rw [b2] at q; cases q
            · exact q
          have j3 := i3.assign hN hiN (i4.fr i5) false 0 (Or.inl rfl)
          have j4 := i4.skip b2
          have j5 := i5.add (by omega) b3
          refine lv_iconst (v := 0) hx hb dX2_start_51 (by decide) ?_
          refine lv_iconst (v := 0) hx hb dX2_start_52 (by decide) ?_
          refine ks_callvV (As := [.int (ks_on i), .int 0, .int 0]) (rest := []) (wr := []) (wz := fun _ => [(ta, .inr (2, [.ref tb, .ref tr, .int (nI (k + 1)), .int (if false = true then o ||| (ks_on i) else o), .int (if false = true then z else z ||| (ks_on i))])), (tb, .inl (cB, 16, .inl (upd B k (ks_on i)))), (tr, .inl (cR, 16, .inl (upd Rs k 0)))]) ⟨hx, hb, hml, hown, hts⟩ (ks_assign l dC dI ta tb tr cB cR B Rs k o z (ks_on i) 0 false (by have := i3.free hiN (i4.fr i5); omega)) (cwV 3 hts gX2_start_X2_assign rfl rfl rfl (by decide +kernel) ⟨Nat.le_of_ble_eq_true rfl, Nat.le_of_ble_eq_true rfl⟩) hK hP hD hS hA hNW [0, 1, 2] [] [0, 1] [0, 1, 2] rfl rfl rfl rfl (by decide) (by decide) (by decide) (ci := 2) (q0 := 0) rfl rfl rfl (fun _ => rfl) (fun _ => rfl) (by decide) rfl hl.1 rfl (Nat.le_of_ble_eq_true rfl) dX2_start_53 ⟨Nat.le_of_ble_eq_true rfl, Nat.le_of_ble_eq_true rfl⟩ (fun u9 H locs hw9 hK9 hP hD hS => ?_)
          have hP : va_P (dC, dI) ksCl [(ta, .inr (2, [.ref tb, .ref tr, .int (nI (k + 1)), .int (if false = true then o ||| (ks_on i) else o), .int (if false = true then z else z ||| (ks_on i))])), (tb, .inl (cB, 16, .inl (upd B k (ks_on i)))), (tr, .inl (cR, 16, .inl (upd Rs k 0)))] H := hP
          have hD : va_D A [(ta, .inr (2, [.ref tb, .ref tr, .int (nI (k + 1)), .int (if false = true then o ||| (ks_on i) else o), .int (if false = true then z else z ||| (ks_on i))])), (tb, .inl (cB, 16, .inl (upd B k (ks_on i)))), (tr, .inl (cR, 16, .inl (upd Rs k 0)))] := hD
          refine lv_iinc (v := nI (i + 1)) (lv' := [(3, .int (nI (i + 1))), (4, .int (ks_on i)), (0, .ref ta), (1, .int wo), (2, .int wz)]) hx hb dX2_start_56 hl (k := 4) rfl (nI_1 _) (by decide) rfl (fun ls hl => ?_)
          refine lv_goto (tgt := 17) hx hb dX2_start_59 (by decide) ?_
          exact ih (i + 1, upd B k (ks_on i), upd Rs k 0, k + 1, (if false = true then o ||| (ks_on i) else o), (if false = true then z else z ||| (ks_on i))) _ _ _ ⟨j1, by omega, j3, j4, j5, hP, hD, hS, lv_sub hl [2, 3, 4, 0] rfl⟩
        · -- 44: goes on
          have b2 := (ks_tst1 (by omega)).mp c44
          have j3 := i3.assign hN hiN (i4.fr i5) true 0 (Or.inl rfl)
          have j4 := i4.add (by omega) b2
          have j5 := i5.skip (hd i b2)
          refine lv_iconst (v := 1) hx hb dX2_start_47 (by decide) ?_
          refine lv_goto (tgt := 52) hx hb dX2_start_48 (by decide) ?_
          refine lv_iconst (v := 0) hx hb dX2_start_52 (by decide) ?_
          refine ks_callvV (As := [.int (ks_on i), .int 1, .int 0]) (rest := []) (wr := []) (wz := fun _ => [(ta, .inr (2, [.ref tb, .ref tr, .int (nI (k + 1)), .int (if true = true then o ||| (ks_on i) else o), .int (if true = true then z else z ||| (ks_on i))])), (tb, .inl (cB, 16, .inl (upd B k (ks_on i)))), (tr, .inl (cR, 16, .inl (upd Rs k 0)))]) ⟨hx, hb, hml, hown, hts⟩ (ks_assign l dC dI ta tb tr cB cR B Rs k o z (ks_on i) 0 true (by have := i3.free hiN (i4.fr i5); omega)) (cwV 3 hts gX2_start_X2_assign rfl rfl rfl (by decide +kernel) ⟨Nat.le_of_ble_eq_true rfl, Nat.le_of_ble_eq_true rfl⟩) hK hP hD hS hA hNW [0, 1, 2] [] [0, 1] [0, 1, 2] rfl rfl rfl rfl (by decide) (by decide) (by decide) (ci := 2) (q0 := 0) rfl rfl rfl (fun _ => rfl) (fun _ => rfl) (by decide) rfl hl.1 rfl (Nat.le_of_ble_eq_true rfl) dX2_start_53 ⟨Nat.le_of_ble_eq_true rfl, Nat.le_of_ble_eq_true rfl⟩ (fun u9 H locs hw9 hK9 hP hD hS => ?_)
          have hP : va_P (dC, dI) ksCl [(ta, .inr (2, [.ref tb, .ref tr, .int (nI (k + 1)), .int (if true = true then o ||| (ks_on i) else o), .int (if true = true then z else z ||| (ks_on i))])), (tb, .inl (cB, 16, .inl (upd B k (ks_on i)))), (tr, .inl (cR, 16, .inl (upd Rs k 0)))] H := hP
          have hD : va_D A [(ta, .inr (2, [.ref tb, .ref tr, .int (nI (k + 1)), .int (if true = true then o ||| (ks_on i) else o), .int (if true = true then z else z ||| (ks_on i))])), (tb, .inl (cB, 16, .inl (upd B k (ks_on i)))), (tr, .inl (cR, 16, .inl (upd Rs k 0)))] := hD
          refine lv_iinc (v := nI (i + 1)) (lv' := [(3, .int (nI (i + 1))), (4, .int (ks_on i)), (0, .ref ta), (1, .int wo), (2, .int wz)]) hx hb dX2_start_56 hl (k := 4) rfl (nI_1 _) (by decide) rfl (fun ls hl => ?_)
          refine lv_goto (tgt := 17) hx hb dX2_start_59 (by decide) ?_
          exact ih (i + 1, upd B k (ks_on i), upd Rs k 0, k + 1, (if true = true then o ||| (ks_on i) else o), (if true = true then z else z ||| (ks_on i))) _ _ _ ⟨j1, by omega, j3, j4, j5, hP, hD, hS, lv_sub hl [2, 3, 4, 0] rfl⟩
  · intro x H locs ls h9
    obtain ⟨i1, i2, i3, i4, i5, -, -, -, -⟩ := h9
    try dsimp only at i1 i2
    omega
