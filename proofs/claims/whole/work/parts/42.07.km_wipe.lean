set_option maxHeartbeats 4000000 in
set_option maxRecDepth 100000 in
/-- the reference: wipe -/
theorem km_wipe (l : Launch) (dC : Nat → ClassId) (dI : Nat → Nat → Nat) (xm m1 m2 m3 m4 m5 wd : Nat) (c1 : ClassId) (N : Nat) (th km kc kl ac : Int32) (A0 : Nat → Int64) (hN : N ≤ 16) (hwd : wd = ks_wd N) : ks_Mv l yX4_wipe wsX4_wipe ({ frames := 1, cells := 0, slots := 0, locals := 21 }) (dC, dI) [.ref xm] [(xm, .inr (4, [.int th, .int (nI N), .int (nI wd), .ref m1, .ref m2, .ref m3, .ref m4, .ref m5, .int km, .int kc, .int kl, .int ac])), (m1, .inl (c1, 1024, .inr (.inl A0)))] [(c1, .long)] 0 0 (S := (Nat → Int64)) (fun u => ks_TT N u (fun _ => True)) (fun u => [(xm, .inr (4, [.int 0, .int (nI N), .int (nI wd), .ref m1, .ref m2, .ref m3, .ref m4, .ref m5, .int (nI 0), .int (nI 0), .int (nI 0), .int (nI 0)])), (m1, .inl (c1, 1024, .inr (.inl u)))]) (fun u => [(c1, .long)]) := by
  intro sz
  refine Met.ofW (cc := cX4_wipe) (maxL := 1) (ret := none) (by decide) rfl ?_
  intro p e s m args below meth c s₁ B9 hml hv
  obtain ⟨rfl, hsz, hP, hK, hD0, hNW⟩ := hv
  have hx := B9.exec
  have hb := B9.bytes
  have hr := B9.returns
  have hts := atoms_spec (ws := wsX4_wipe) B9.pre
  have hown : s.vm.findClass RX4 = some m.cls := findClass_of_methodNamed B9.named
  have hlocks := B9.notSynchronized
  subst hsz
  have hD := hD0.self (sz := s.heap.size)
  generalize hAe : va_A [(xm, .inr (4, [.int th, .int (nI N), .int (nI wd), .ref m1, .ref m2, .ref m3, .ref m4, .ref m5, .int km, .int kc, .int kl, .int ac])), (m1, .inl (c1, 1024, .inr (.inl A0)))] s.heap.size = A at hD ⊢
  have hA : ∀ q : Nat, s.heap.size ≤ q → A q := fun q h => by rw [← hAe]; exact Or.inr h
  have hS : va_S A s.heap s.heap [] := va_S.rf
  have hiX4 : ∀ w ∈ u_ws RX4 TM 12, w ∈ wsX4_wipe := by decide +kernel
  have f36 := hts (.fieldLink RX4 36 "LessonSolverModel" "thrown" "I") (by decide +kernel)
  have hl := lv_entry ([.ref xm]) (n := 1) (Nat.le_of_ble_eq_true rfl)
  rw [lg_entry_eq]
  generalize (lg_sl ([.ref xm]) ++ List.replicate (1 - (lg_sl ([.ref xm])).length) Slot.unset).toArray = ls at hl ⊢
  have hl : lv_has ls 1 [(0, .ref xm)] := hl
  refine lv_aload_n hx hb dX4_wipe_0 rfl (lv_at hl 0 rfl) ?_
  refine lv_iconst (v := 0) hx hb dX4_wipe_1 (by decide) ?_
  refine va_put (D := (dC, dI)) (ci := 4) (v := .int 0) (ty := .int) (C := RX4) (T := TM) (N := 12) hx hb hts hiX4 tyM tyM_ok nmM hown hK hP hD hS 0 rfl rfl 0 (by decide) f36 (fun _ h9 => h9) rfl (by decide +kernel) rfl rfl (Nat.le_of_ble_eq_true rfl) dX4_wipe_2 (fun H locs hP hD hS => ?_)
  have hP : va_P (dC, dI) ksCl [(xm, .inr (4, [.int 0, .int (nI N), .int (nI wd), .ref m1, .ref m2, .ref m3, .ref m4, .ref m5, .int km, .int kc, .int kl, .int ac])), (m1, .inl (c1, 1024, .inr (.inl A0)))] H := hP
  have hD : va_D A [(xm, .inr (4, [.int 0, .int (nI N), .int (nI wd), .ref m1, .ref m2, .ref m3, .ref m4, .ref m5, .int km, .int kc, .int kl, .int ac])), (m1, .inl (c1, 1024, .inr (.inl A0)))] := hD
  refine lv_aload_n hx hb dX4_wipe_5 rfl (lv_at hl 0 rfl) ?_
  refine ks_callvV (As := []) (rest := []) (wr := []) (wz := fun u => [(xm, .inr (4, [.int 0, .int (nI N), .int (nI wd), .ref m1, .ref m2, .ref m3, .ref m4, .ref m5, .int (nI 0), .int (nI 0), .int (nI 0), .int (nI 0)])), (m1, .inl (c1, 1024, .inr (.inl u)))]) ⟨hx, hb, hml, hown, hts⟩ (km_clear l dC dI xm m1 m2 m3 m4 m5 wd c1 N 0 km kc kl ac A0 hN hwd) (cwV 0 hts gX4_wipe_X4_clear rfl rfl rfl (by decide +kernel) ⟨Nat.le_of_ble_eq_true rfl, Nat.le_of_ble_eq_true rfl⟩) hK hP hD hS hA hNW [0, 1] [] [0] [0, 1] rfl rfl rfl rfl (by decide) (by decide) (by decide) (ci := 4) (q0 := 0) rfl rfl rfl (fun _ => rfl) (fun _ => rfl) (by decide) rfl hl.1 rfl (Nat.le_of_ble_eq_true rfl) dX4_wipe_6 ⟨Nat.le_of_ble_eq_true rfl, Nat.le_of_ble_eq_true rfl⟩ (fun A1 H locs hw9 hK9 hP hD hS => ?_)
  have hP : va_P (dC, dI) ksCl [(xm, .inr (4, [.int 0, .int (nI N), .int (nI wd), .ref m1, .ref m2, .ref m3, .ref m4, .ref m5, .int (nI 0), .int (nI 0), .int (nI 0), .int (nI 0)])), (m1, .inl (c1, 1024, .inr (.inl A1)))] H := hP
  have hD : va_D A [(xm, .inr (4, [.int 0, .int (nI N), .int (nI wd), .ref m1, .ref m2, .ref m3, .ref m4, .ref m5, .int (nI 0), .int (nI 0), .int (nI 0), .int (nI 0)])), (m1, .inl (c1, 1024, .inr (.inl A1)))] := hD
  have hP9 : va_P (dC, dI) ksCl [(xm, .inr (4, [.int 0, .int (nI N), .int (nI wd), .ref m1, .ref m2, .ref m3, .ref m4, .ref m5, .int (nI 0), .int (nI 0), .int (nI 0), .int (nI 0)])), (m1, .inl (c1, 1024, .inr (.inl A1)))] _ := hP
  have hD9 : va_D A [(xm, .inr (4, [.int 0, .int (nI N), .int (nI wd), .ref m1, .ref m2, .ref m3, .ref m4, .ref m5, .int (nI 0), .int (nI 0), .int (nI 0), .int (nI 0)])), (m1, .inl (c1, 1024, .inr (.inl A1)))] := hD
  have hK9 : va_K (dC, dI) ksCl [(c1, .long)] s := hK
  exact W.vret hx hb hr (fun t ht hW9 => ⟨⟨A1, rfl, hw9, by rw [ht]; exact hP9, va_K.moved hW9.alike hK9, hD9⟩, hS.F ht⟩) hS.2.2 dX4_wipe_9
