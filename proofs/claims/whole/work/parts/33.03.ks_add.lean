set_option maxHeartbeats 4000000 in
set_option maxRecDepth 100000 in
/-- add -/
theorem ks_add (l : Launch) (dC : Nat → ClassId) (dI : Nat → Nat → Nat) (xa ra sa aa : Nat) (N : Nat) (ac kc kl : Int32) (mp mm : Int32) (km : Nat) (x0 : Int32) (hN : N ≤ 16) (hkm : km ≤ 20) (hmk : ks_in N mp mm) : ks_Mi l yX3_add wsX3_add ({ frames := 2, cells := 0, slots := 0, locals := 36 }) (dC, dI) [.ref xa, .int x0] [(xa, .inr (3, [.int (nI N), .ref ra, .ref sa, .ref aa, .int ac, .int kc, .int kl, .int mp, .int mm, .int (nI km)]))] [] 0 0 (S := Int32 × Int32 × Nat) (fun r u => (r = 0 ∧ ((¬ ∃ v, ks_lit N x0 v) ∨ 20 ≤ km) ∧ u = (mp, mm, km)) ∨ (r = 1 ∧ km < 20 ∧ (∃ v, ks_lit N x0 v) ∧ u.2.2 = km + 1 ∧ (∀ a, ks_T u.1 u.2.1 a ↔ ks_T mp mm a ∨ ks_lt N x0 a) ∧ ks_in N u.1 u.2.1)) (fun u => [(xa, .inr (3, [.int (nI N), .ref ra, .ref sa, .ref aa, .int ac, .int kc, .int kl, .int u.1, .int u.2.1, .int (nI u.2.2)]))]) (fun u => []) := by
  intro sz
  refine Met.ofW (cc := cX3_add) (maxL := 2) (ret := (some .boolean)) (by decide) rfl ?_
  intro p e s m args below meth c s₁ B9 hml hv
  obtain ⟨rfl, hsz, hP, hK, hD0, hNW⟩ := hv
  have hx := B9.exec
  have hb := B9.bytes
  have hr := B9.returns
  have hts := atoms_spec (ws := wsX3_add) B9.pre
  have hown : s.vm.findClass RX3 = some m.cls := findClass_of_methodNamed B9.named
  have hlocks := B9.notSynchronized
  subst hsz
  have hD := hD0.self (sz := s.heap.size)
  generalize hAe : va_A [(xa, .inr (3, [.int (nI N), .ref ra, .ref sa, .ref aa, .int ac, .int kc, .int kl, .int mp, .int mm, .int (nI km)]))] s.heap.size = A at hD ⊢
  have hA : ∀ q : Nat, s.heap.size ≤ q → A q := fun q h => by rw [← hAe]; exact Or.inr h
  have hS : va_S A s.heap s.heap [] := va_S.rf
  have hiX3 : ∀ w ∈ u_ws RX3 TX3 10, w ∈ wsX3_add := by decide +kernel
  have f46 := hts (.fieldLink RX3 46 "LessonSolver" "madeLength" "I") (by decide +kernel)
  have f49 := hts (.fieldLink RX3 49 "LessonSolver" "madePlus" "I") (by decide +kernel)
  have f56 := hts (.fieldLink RX3 56 "LessonSolver" "madeMinus" "I") (by decide +kernel)
  have hl := lv_entry ([.ref xa, .int x0]) (n := 2) (Nat.le_of_ble_eq_true rfl)
  rw [lg_entry_eq]
  generalize (lg_sl ([.ref xa, .int x0]) ++ List.replicate (2 - (lg_sl ([.ref xa, .int x0])).length) Slot.unset).toArray = ls at hl ⊢
  have hl : lv_has ls 2 [(0, .ref xa), (1, .int x0)] := hl
  refine lv_aload_n hx hb dX3_add_0 rfl (lv_at hl 0 rfl) ?_
  refine lv_iload_n hx hb dX3_add_1 rfl (lv_at hl 1 rfl) ?_
  refine ks_calliV (As := [.int x0]) (rest := []) (wr := []) (wz := fun _ => [(xa, .inr (3, [.int (nI N), .ref ra, .ref sa, .ref aa, .int ac, .int kc, .int kl, .int mp, .int mm, .int (nI km)]))]) ⟨hx, hb, hml, hown, hts⟩ (ks_isLiteral l dC dI xa ra sa aa N ac kc kl mp mm (nI km) x0 hN) (cwV 1 hts gX3_add_X3_isLiteral rfl rfl rfl (by decide +kernel) ⟨Nat.le_of_ble_eq_true rfl, Nat.le_of_ble_eq_true rfl⟩) hK hP hD hS hA hNW [0] [] [] [0] rfl rfl rfl rfl (by decide) (by decide) (by decide) (ci := 3) (q0 := 0) rfl rfl rfl (fun _ => rfl) (fun _ => rfl) (by decide) rfl hl.1 rfl (Nat.le_of_ble_eq_true rfl) dX3_add_2 ⟨Nat.le_of_ble_eq_true rfl, Nat.le_of_ble_eq_true rfl⟩ (fun r1 u9 H locs hw9 hK9 hP hD hS => ?_)
  have hw1 := hw9
  have hP : va_P (dC, dI) ksCl [(xa, .inr (3, [.int (nI N), .ref ra, .ref sa, .ref aa, .int ac, .int kc, .int kl, .int mp, .int mm, .int (nI km)]))] H := hP
  have hD : va_D A [(xa, .inr (3, [.int (nI N), .ref ra, .ref sa, .ref aa, .int ac, .int kc, .int kl, .int mp, .int mm, .int (nI km)]))] := hD
  refine lv_if_eq (tgt := 17) hx hb dX3_add_5 (by decide) (fun c5 => ?_) (fun c5 => ?_)
  · -- 5: jumps
    have hno : (¬ ∃ v, ks_lit N x0 v) ∨ 20 ≤ km := Or.inl (by
      rcases hw1 with q | q
      · exact absurd (q.1.symm.trans c5) (by decide)
      · exact q.2)
    refine lv_iconst (v := 0) hx hb dX3_add_17 (by decide) ?_
    have hP9 : va_P (dC, dI) ksCl [(xa, .inr (3, [.int (nI N), .ref ra, .ref sa, .ref aa, .int ac, .int kc, .int kl, .int mp, .int mm, .int (nI km)]))] _ := hP
    have hD9 : va_D A [(xa, .inr (3, [.int (nI N), .ref ra, .ref sa, .ref aa, .int ac, .int kc, .int kl, .int mp, .int mm, .int (nI km)]))] := hD
    have hK9 : va_K (dC, dI) ksCl [] s := hK
    exact W.zret (v := 0) (ty := .boolean) hx hb hr (by decide) (fun t ht hW9 => ⟨⟨0, (mp, mm, km), rfl, Or.inl ⟨rfl, hno, rfl⟩, by rw [ht]; exact hP9, va_K.moved hW9.alike hK9, hD9⟩, hS.F ht⟩) hS.2.2 dX3_add_18
  · -- 5: goes on
    refine lv_aload_n hx hb dX3_add_8 rfl (lv_at hl 0 rfl) ?_
    refine va_get (D := (dC, dI)) (ci := 3) (v := .int (nI km)) (C := RX3) (T := TX3) (N := 10) hx hb hts hiX3 hown hK hP 0 rfl rfl 9 (by decide) f46 (fun _ h9 => h9) rfl dX3_add_9 ?_
    refine lv_bipush (v := nI 20) hx hb dX3_add_12 (by decide) ?_
    refine lv_icmp_lt (tgt := 19) hx hb dX3_add_14 (by decide) (fun c14 => ?_) (fun c14 => ?_)
    · -- 14: jumps
      have h20 : km < 20 := (nI_ltI (by omega) (by decide)).mp c14
      obtain ⟨v0, hv⟩ : ∃ v, ks_lit N x0 v := by
        rcases hw1 with q | q
        · exact q.2
        · exact absurd q.1 c5
      have hv0 : N - v0 < N := by have := hv.1; have := hv.2.1; omega
      refine lv_iload_n hx hb dX3_add_19 rfl (lv_at hl 1 rfl) ?_
      refine lv_if_le (tgt := 40) hx hb dX3_add_20 (by decide) (fun c20 => ?_) (fun c20 => ?_)
      · -- 20: jumps
        have hsg : ¬ 0 < x0 := fun q => absurd c20 (by rw [Int32.not_le]; exact q)
        refine lv_aload_n hx hb dX3_add_40 rfl (lv_at hl 0 rfl) ?_
        refine lv_dup hx hb dX3_add_41 rfl ?_
        refine va_get (D := (dC, dI)) (ci := 3) (v := .int mm) (C := RX3) (T := TX3) (N := 10) hx hb hts hiX3 hown hK hP 0 rfl rfl 8 (by decide) f56 (fun _ h9 => h9) rfl dX3_add_42 ?_
        refine lv_aload_n hx hb dX3_add_45 rfl (lv_at hl 0 rfl) ?_
        refine lv_iload_n hx hb dX3_add_46 rfl (lv_at hl 1 rfl) ?_
        refine ks_calliV (As := [.int x0]) (rest := [.int mm, .ref xa]) (wr := []) (wz := fun _ => [(xa, .inr (3, [.int (nI N), .ref ra, .ref sa, .ref aa, .int ac, .int kc, .int kl, .int mp, .int mm, .int (nI km)]))]) ⟨hx, hb, hml, hown, hts⟩ (ks_bitOf l dC dI xa ra sa aa N ac kc kl mp mm (nI km) x0 v0 hN hv) (cwV 1 hts gX3_add_X3_bitOf rfl rfl rfl (by decide +kernel) ⟨Nat.le_of_ble_eq_true rfl, Nat.le_of_ble_eq_true rfl⟩) hK hP hD hS hA hNW [0] [] [] [0] rfl rfl rfl rfl (by decide) (by decide) (by decide) (ci := 3) (q0 := 0) rfl rfl rfl (fun _ => rfl) (fun _ => rfl) (by decide) rfl hl.1 rfl (Nat.le_of_ble_eq_true rfl) dX3_add_47 ⟨Nat.le_of_ble_eq_true rfl, Nat.le_of_ble_eq_true rfl⟩ (fun r2 u9 H locs hw9 hK9 hP hD hS => ?_)
        have er2 : r2 = ks_on (N - v0) := hw9
        subst er2
        have hP : va_P (dC, dI) ksCl [(xa, .inr (3, [.int (nI N), .ref ra, .ref sa, .ref aa, .int ac, .int kc, .int kl, .int mp, .int mm, .int (nI km)]))] H := hP
        have hD : va_D A [(xa, .inr (3, [.int (nI N), .ref ra, .ref sa, .ref aa, .int ac, .int kc, .int kl, .int mp, .int mm, .int (nI km)]))] := hD
        refine lv_ior hx hb dX3_add_50 ?_
        refine va_put (D := (dC, dI)) (ci := 3) (v := .int (mm ||| (ks_on (N - v0)))) (ty := .int) (C := RX3) (T := TX3) (N := 10) hx hb hts hiX3 tyX3 tyX3_ok nmX3 hown hK hP hD hS 0 rfl rfl 8 (by decide) f56 (fun _ h9 => h9) rfl (by decide +kernel) rfl rfl (Nat.le_of_ble_eq_true rfl) dX3_add_51 (fun H locs hP hD hS => ?_)
        have hP : va_P (dC, dI) ksCl [(xa, .inr (3, [.int (nI N), .ref ra, .ref sa, .ref aa, .int ac, .int kc, .int kl, .int mp, .int (mm ||| (ks_on (N - v0))), .int (nI km)]))] H := hP
        have hD : va_D A [(xa, .inr (3, [.int (nI N), .ref ra, .ref sa, .ref aa, .int ac, .int kc, .int kl, .int mp, .int (mm ||| (ks_on (N - v0))), .int (nI km)]))] := hD
        refine lv_aload_n hx hb dX3_add_54 rfl (lv_at hl 0 rfl) ?_
        refine lv_dup hx hb dX3_add_55 rfl ?_
        refine va_get (D := (dC, dI)) (ci := 3) (v := .int (nI km)) (C := RX3) (T := TX3) (N := 10) hx hb hts hiX3 hown hK hP 0 rfl rfl 9 (by decide) f46 (fun _ h9 => h9) rfl dX3_add_56 ?_
        refine lv_iconst (v := 1) hx hb dX3_add_59 (by decide) ?_
        refine lv_iadd hx hb dX3_add_60 ?_
        refine ks_top (y := nI (km + 1)) (nI_1 km) ?_
        refine va_put (D := (dC, dI)) (ci := 3) (v := .int (nI (km + 1))) (ty := .int) (C := RX3) (T := TX3) (N := 10) hx hb hts hiX3 tyX3 tyX3_ok nmX3 hown hK hP hD hS 0 rfl rfl 9 (by decide) f46 (fun _ h9 => h9) rfl (by decide +kernel) rfl rfl (Nat.le_of_ble_eq_true rfl) dX3_add_61 (fun H locs hP hD hS => ?_)
        have hP : va_P (dC, dI) ksCl [(xa, .inr (3, [.int (nI N), .ref ra, .ref sa, .ref aa, .int ac, .int kc, .int kl, .int mp, .int (mm ||| (ks_on (N - v0))), .int (nI (km + 1))]))] H := hP
        have hD : va_D A [(xa, .inr (3, [.int (nI N), .ref ra, .ref sa, .ref aa, .int ac, .int kc, .int kl, .int mp, .int (mm ||| (ks_on (N - v0))), .int (nI (km + 1))]))] := hD
        refine lv_iconst (v := 1) hx hb dX3_add_64 (by decide) ?_
        have hP9 : va_P (dC, dI) ksCl [(xa, .inr (3, [.int (nI N), .ref ra, .ref sa, .ref aa, .int ac, .int kc, .int kl, .int mp, .int (mm ||| (ks_on (N - v0))), .int (nI (km + 1))]))] _ := hP
        have hD9 : va_D A [(xa, .inr (3, [.int (nI N), .ref ra, .ref sa, .ref aa, .int ac, .int kc, .int kl, .int mp, .int (mm ||| (ks_on (N - v0))), .int (nI (km + 1))]))] := hD
        have hK9 : va_K (dC, dI) ksCl [] s := hK
        exact W.zret (v := 1) (ty := .boolean) hx hb hr (by decide) (fun t ht hW9 => ⟨⟨1, (mp, mm ||| (ks_on (N - v0)), km + 1), rfl, Or.inr ⟨rfl, h20, ⟨v0, hv⟩, rfl, fun a => ks_T.addn hN hv hsg, hmk.lo hN hv0⟩, by rw [ht]; exact hP9, va_K.moved hW9.alike hK9, hD9⟩, hS.F ht⟩) hS.2.2 dX3_add_65
      · -- 20: goes on
        have hsg : 0 < x0 := by rw [Int32.not_le] at c20; exact c20
        refine lv_aload_n hx hb dX3_add_23 rfl (lv_at hl 0 rfl) ?_
        refine lv_dup hx hb dX3_add_24 rfl ?_
        refine va_get (D := (dC, dI)) (ci := 3) (v := .int mp) (C := RX3) (T := TX3) (N := 10) hx hb hts hiX3 hown hK hP 0 rfl rfl 7 (by decide) f49 (fun _ h9 => h9) rfl dX3_add_25 ?_
        refine lv_aload_n hx hb dX3_add_28 rfl (lv_at hl 0 rfl) ?_
        refine lv_iload_n hx hb dX3_add_29 rfl (lv_at hl 1 rfl) ?_
        refine ks_calliV (As := [.int x0]) (rest := [.int mp, .ref xa]) (wr := []) (wz := fun _ => [(xa, .inr (3, [.int (nI N), .ref ra, .ref sa, .ref aa, .int ac, .int kc, .int kl, .int mp, .int mm, .int (nI km)]))]) ⟨hx, hb, hml, hown, hts⟩ (ks_bitOf l dC dI xa ra sa aa N ac kc kl mp mm (nI km) x0 v0 hN hv) (cwV 1 hts gX3_add_X3_bitOf rfl rfl rfl (by decide +kernel) ⟨Nat.le_of_ble_eq_true rfl, Nat.le_of_ble_eq_true rfl⟩) hK hP hD hS hA hNW [0] [] [] [0] rfl rfl rfl rfl (by decide) (by decide) (by decide) (ci := 3) (q0 := 0) rfl rfl rfl (fun _ => rfl) (fun _ => rfl) (by decide) rfl hl.1 rfl (Nat.le_of_ble_eq_true rfl) dX3_add_30 ⟨Nat.le_of_ble_eq_true rfl, Nat.le_of_ble_eq_true rfl⟩ (fun r2 u9 H locs hw9 hK9 hP hD hS => ?_)
        have er2 : r2 = ks_on (N - v0) := hw9
        subst er2
        have hP : va_P (dC, dI) ksCl [(xa, .inr (3, [.int (nI N), .ref ra, .ref sa, .ref aa, .int ac, .int kc, .int kl, .int mp, .int mm, .int (nI km)]))] H := hP
        have hD : va_D A [(xa, .inr (3, [.int (nI N), .ref ra, .ref sa, .ref aa, .int ac, .int kc, .int kl, .int mp, .int mm, .int (nI km)]))] := hD
        refine lv_ior hx hb dX3_add_33 ?_
        refine va_put (D := (dC, dI)) (ci := 3) (v := .int (mp ||| (ks_on (N - v0)))) (ty := .int) (C := RX3) (T := TX3) (N := 10) hx hb hts hiX3 tyX3 tyX3_ok nmX3 hown hK hP hD hS 0 rfl rfl 7 (by decide) f49 (fun _ h9 => h9) rfl (by decide +kernel) rfl rfl (Nat.le_of_ble_eq_true rfl) dX3_add_34 (fun H locs hP hD hS => ?_)
        have hP : va_P (dC, dI) ksCl [(xa, .inr (3, [.int (nI N), .ref ra, .ref sa, .ref aa, .int ac, .int kc, .int kl, .int (mp ||| (ks_on (N - v0))), .int mm, .int (nI km)]))] H := hP
        have hD : va_D A [(xa, .inr (3, [.int (nI N), .ref ra, .ref sa, .ref aa, .int ac, .int kc, .int kl, .int (mp ||| (ks_on (N - v0))), .int mm, .int (nI km)]))] := hD
        refine lv_goto (tgt := 54) hx hb dX3_add_37 (by decide) ?_
        refine lv_aload_n hx hb dX3_add_54 rfl (lv_at hl 0 rfl) ?_
        refine lv_dup hx hb dX3_add_55 rfl ?_
        refine va_get (D := (dC, dI)) (ci := 3) (v := .int (nI km)) (C := RX3) (T := TX3) (N := 10) hx hb hts hiX3 hown hK hP 0 rfl rfl 9 (by decide) f46 (fun _ h9 => h9) rfl dX3_add_56 ?_
        refine lv_iconst (v := 1) hx hb dX3_add_59 (by decide) ?_
        refine lv_iadd hx hb dX3_add_60 ?_
        refine ks_top (y := nI (km + 1)) (nI_1 km) ?_
        refine va_put (D := (dC, dI)) (ci := 3) (v := .int (nI (km + 1))) (ty := .int) (C := RX3) (T := TX3) (N := 10) hx hb hts hiX3 tyX3 tyX3_ok nmX3 hown hK hP hD hS 0 rfl rfl 9 (by decide) f46 (fun _ h9 => h9) rfl (by decide +kernel) rfl rfl (Nat.le_of_ble_eq_true rfl) dX3_add_61 (fun H locs hP hD hS => ?_)
        have hP : va_P (dC, dI) ksCl [(xa, .inr (3, [.int (nI N), .ref ra, .ref sa, .ref aa, .int ac, .int kc, .int kl, .int (mp ||| (ks_on (N - v0))), .int mm, .int (nI (km + 1))]))] H := hP
        have hD : va_D A [(xa, .inr (3, [.int (nI N), .ref ra, .ref sa, .ref aa, .int ac, .int kc, .int kl, .int (mp ||| (ks_on (N - v0))), .int mm, .int (nI (km + 1))]))] := hD
        refine lv_iconst (v := 1) hx hb dX3_add_64 (by decide) ?_
        have hP9 : va_P (dC, dI) ksCl [(xa, .inr (3, [.int (nI N), .ref ra, .ref sa, .ref aa, .int ac, .int kc, .int kl, .int (mp ||| (ks_on (N - v0))), .int mm, .int (nI (km + 1))]))] _ := hP
        have hD9 : va_D A [(xa, .inr (3, [.int (nI N), .ref ra, .ref sa, .ref aa, .int ac, .int kc, .int kl, .int (mp ||| (ks_on (N - v0))), .int mm, .int (nI (km + 1))]))] := hD
        have hK9 : va_K (dC, dI) ksCl [] s := hK
        exact W.zret (v := 1) (ty := .boolean) hx hb hr (by decide) (fun t ht hW9 => ⟨⟨1, (mp ||| (ks_on (N - v0)), mm, km + 1), rfl, Or.inr ⟨rfl, h20, ⟨v0, hv⟩, rfl, fun a => ks_T.addp hN hv hsg, hmk.hi hN hv0⟩, by rw [ht]; exact hP9, va_K.moved hW9.alike hK9, hD9⟩, hS.F ht⟩) hS.2.2 dX3_add_65
    · -- 14: goes on
      have hno : (¬ ∃ v, ks_lit N x0 v) ∨ 20 ≤ km := Or.inr (by
        rcases Nat.lt_or_ge km 20 with q | q
        · exact absurd (nI_lt q (by decide)) c14
        · exact q)
      refine lv_iconst (v := 0) hx hb dX3_add_17 (by decide) ?_
      have hP9 : va_P (dC, dI) ksCl [(xa, .inr (3, [.int (nI N), .ref ra, .ref sa, .ref aa, .int ac, .int kc, .int kl, .int mp, .int mm, .int (nI km)]))] _ := hP
      have hD9 : va_D A [(xa, .inr (3, [.int (nI N), .ref ra, .ref sa, .ref aa, .int ac, .int kc, .int kl, .int mp, .int mm, .int (nI km)]))] := hD
      have hK9 : va_K (dC, dI) ksCl [] s := hK
      exact W.zret (v := 0) (ty := .boolean) hx hb hr (by decide) (fun t ht hW9 => ⟨⟨0, (mp, mm, km), rfl, Or.inl ⟨rfl, hno, rfl⟩, by rw [ht]; exact hP9, va_K.moved hW9.alike hK9, hD9⟩, hS.F ht⟩) hS.2.2 dX3_add_18
