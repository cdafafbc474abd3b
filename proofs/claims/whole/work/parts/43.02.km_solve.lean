set_option maxHeartbeats 4000000 in
set_option maxRecDepth 100000 in
/-- the reference: solve -/
theorem km_solve (l : Launch) (dC : Nat → ClassId) (dI : Nat → Nat → Nat) (xm m1 m2 m3 m4 m5 wd : Nat) (c1 c2 c5 : ClassId) (N : Nat) (th km kc kl : Int32) (ac : Nat) (A0 LF : Nat → Int64) (AS : Nat → Int32) (F : (Nat → Bool) → Prop) (hN : N ≤ 16) (hwd : wd = ks_wd N) (hac : ac ≤ 40) (hlit : ∀ j, j < ac → ∃ v, ks_lit N (AS j) v) (hT : ks_TT N A0 F) : ks_Mi l yX4_solve wsX4_solve ({ frames := 2, cells := 0, slots := 0, locals := 51 }) (dC, dI) [.ref xm] [(xm, .inr (4, [.int th, .int (nI N), .int (nI wd), .ref m1, .ref m2, .ref m3, .ref m4, .ref m5, .int km, .int kc, .int kl, .int (nI ac)])), (m1, .inl (c1, 1024, .inr (.inl A0))), (m2, .inl (c2, 1024, .inr (.inl LF))), (m5, .inl (c5, 40, .inl AS))] [(c1, .long), (c2, .long), (c5, .int)] 0 0 (S := (Nat → Int64)) (fun r _ => ((r = 0 ∧ ∀ v, v < 2 ^ N → ¬ (ks_Z N AS ac (-1) 0 F) v.testBit) ∨ (r = 1 ∧ ¬ ∀ v, v < 2 ^ N → ¬ (ks_Z N AS ac (-1) 0 F) v.testBit))) (fun u => [(xm, .inr (4, [.int 0, .int (nI N), .int (nI wd), .ref m1, .ref m2, .ref m3, .ref m4, .ref m5, .int km, .int kc, .int kl, .int (nI ac)])), (m1, .inl (c1, 1024, .inr (.inl A0))), (m2, .inl (c2, 1024, .inr (.inl u))), (m5, .inl (c5, 40, .inl AS))]) (fun u => [(c1, .long), (c2, .long), (c5, .int)]) := by
  intro sz
  refine Met.ofW (cc := cX4_solve) (maxL := 1) (ret := (some .boolean)) (by decide) rfl ?_
  intro p e s m args below meth c s₁ B9 hml hv
  obtain ⟨rfl, hsz, hP, hK, hD0, hNW⟩ := hv
  have hx := B9.exec
  have hb := B9.bytes
  have hr := B9.returns
  have hts := atoms_spec (ws := wsX4_solve) B9.pre
  have hown : s.vm.findClass RX4 = some m.cls := findClass_of_methodNamed B9.named
  have hlocks := B9.notSynchronized
  subst hsz
  have hD := hD0.self (sz := s.heap.size)
  generalize hAe : va_A [(xm, .inr (4, [.int th, .int (nI N), .int (nI wd), .ref m1, .ref m2, .ref m3, .ref m4, .ref m5, .int km, .int kc, .int kl, .int (nI ac)])), (m1, .inl (c1, 1024, .inr (.inl A0))), (m2, .inl (c2, 1024, .inr (.inl LF))), (m5, .inl (c5, 40, .inl AS))] s.heap.size = A at hD ⊢
  have hA : ∀ q : Nat, s.heap.size ≤ q → A q := fun q h => by rw [← hAe]; exact Or.inr h
  have hS : va_S A s.heap s.heap [] := va_S.rf
  have hiX4 : ∀ w ∈ u_ws RX4 TM 12, w ∈ wsX4_solve := by decide +kernel
  have f36 := hts (.fieldLink RX4 36 "LessonSolverModel" "thrown" "I") (by decide +kernel)
  have k39 := hts (.constantLong RX4 39 (-1)) (by decide +kernel)
  have hl := lv_entry ([.ref xm]) (n := 1) (Nat.le_of_ble_eq_true rfl)
  rw [lg_entry_eq]
  generalize (lg_sl ([.ref xm]) ++ List.replicate (1 - (lg_sl ([.ref xm])).length) Slot.unset).toArray = ls at hl ⊢
  have hl : lv_has ls 1 [(0, .ref xm)] := hl
  refine lv_aload_n hx hb dX4_solve_0 rfl (lv_at hl 0 rfl) ?_
  refine lv_iconst (v := 0) hx hb dX4_solve_1 (by decide) ?_
  refine va_put (D := (dC, dI)) (ci := 4) (v := .int 0) (ty := .int) (C := RX4) (T := TM) (N := 12) hx hb hts hiX4 tyM tyM_ok nmM hown hK hP hD hS 0 rfl rfl 0 (by decide) f36 (fun _ h9 => h9) rfl (by decide +kernel) rfl rfl (Nat.le_of_ble_eq_true rfl) dX4_solve_2 (fun H locs hP hD hS => ?_)
  have hP : va_P (dC, dI) ksCl [(xm, .inr (4, [.int 0, .int (nI N), .int (nI wd), .ref m1, .ref m2, .ref m3, .ref m4, .ref m5, .int km, .int kc, .int kl, .int (nI ac)])), (m1, .inl (c1, 1024, .inr (.inl A0))), (m2, .inl (c2, 1024, .inr (.inl LF))), (m5, .inl (c5, 40, .inl AS))] H := hP
  have hD : va_D A [(xm, .inr (4, [.int 0, .int (nI N), .int (nI wd), .ref m1, .ref m2, .ref m3, .ref m4, .ref m5, .int km, .int kc, .int kl, .int (nI ac)])), (m1, .inl (c1, 1024, .inr (.inl A0))), (m2, .inl (c2, 1024, .inr (.inl LF))), (m5, .inl (c5, 40, .inl AS))] := hD
  refine lv_aload_n hx hb dX4_solve_5 rfl (lv_at hl 0 rfl) ?_
  refine lv_ldc2 (v := (-1)) hx hb hown k39 dX4_solve_6 ?_
  refine ks_calliV (As := [.long (-1)]) (rest := []) (wr := []) (wz := fun u => [(xm, .inr (4, [.int 0, .int (nI N), .int (nI wd), .ref m1, .ref m2, .ref m3, .ref m4, .ref m5, .int km, .int kc, .int kl, .int (nI ac)])), (m1, .inl (c1, 1024, .inr (.inl A0))), (m2, .inl (c2, 1024, .inr (.inl u))), (m5, .inl (c5, 40, .inl AS))]) ⟨hx, hb, hml, hown, hts⟩ (km_leaves l dC dI xm m1 m2 m3 m4 m5 wd c1 c2 c5 N 0 km kc kl ac A0 LF AS F (-1) hN hwd hac hlit hT) (cwV 1 hts gX4_solve_X4_leaves rfl rfl rfl (by decide +kernel) ⟨Nat.le_of_ble_eq_true rfl, Nat.le_of_ble_eq_true rfl⟩) hK hP hD hS hA hNW [0, 1, 2, 3] [] [0, 1, 2] [0, 1, 2, 3] rfl rfl rfl rfl (by decide) (by decide) (by decide) (ci := 4) (q0 := 0) rfl rfl rfl (fun _ => rfl) (fun _ => rfl) (by decide) rfl hl.1 rfl (Nat.le_of_ble_eq_true rfl) dX4_solve_9 ⟨Nat.le_of_ble_eq_true rfl, Nat.le_of_ble_eq_true rfl⟩ (fun r1 L1 H locs hw9 hK9 hP hD hS => ?_)
  obtain ⟨t1, t2⟩ := hw9
  have hP : va_P (dC, dI) ksCl [(xm, .inr (4, [.int 0, .int (nI N), .int (nI wd), .ref m1, .ref m2, .ref m3, .ref m4, .ref m5, .int km, .int kc, .int kl, .int (nI ac)])), (m1, .inl (c1, 1024, .inr (.inl A0))), (m2, .inl (c2, 1024, .inr (.inl L1))), (m5, .inl (c5, 40, .inl AS))] H := hP
  have hD : va_D A [(xm, .inr (4, [.int 0, .int (nI N), .int (nI wd), .ref m1, .ref m2, .ref m3, .ref m4, .ref m5, .int km, .int kc, .int kl, .int (nI ac)])), (m1, .inl (c1, 1024, .inr (.inl A0))), (m2, .inl (c2, 1024, .inr (.inl L1))), (m5, .inl (c5, 40, .inl AS))] := hD
  have hP9 : va_P (dC, dI) ksCl [(xm, .inr (4, [.int 0, .int (nI N), .int (nI wd), .ref m1, .ref m2, .ref m3, .ref m4, .ref m5, .int km, .int kc, .int kl, .int (nI ac)])), (m1, .inl (c1, 1024, .inr (.inl A0))), (m2, .inl (c2, 1024, .inr (.inl L1))), (m5, .inl (c5, 40, .inl AS))] _ := hP
  have hD9 : va_D A [(xm, .inr (4, [.int 0, .int (nI N), .int (nI wd), .ref m1, .ref m2, .ref m3, .ref m4, .ref m5, .int km, .int kc, .int kl, .int (nI ac)])), (m1, .inl (c1, 1024, .inr (.inl A0))), (m2, .inl (c2, 1024, .inr (.inl L1))), (m5, .inl (c5, 40, .inl AS))] := hD
  have hK9 : va_K (dC, dI) ksCl [(c1, .long), (c2, .long), (c5, .int)] s := hK
  exact W.zret (v := r1) (ty := .boolean) hx hb hr (by rcases t2 with q | q <;> rw [q.1] <;> rfl) (fun t ht hW9 => ⟨⟨r1, L1, rfl, t2, by rw [ht]; exact hP9, va_K.moved hW9.alike hK9, hD9⟩, hS.F ht⟩) hS.2.2 dX4_solve_12
