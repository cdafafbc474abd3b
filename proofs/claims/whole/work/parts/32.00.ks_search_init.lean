set_option maxHeartbeats 4000000 in
set_option maxRecDepth 100000 in
/-- Search(variables, row) -/
theorem ks_search_init (l : Launch) (dC : Nat → ClassId) (dI : Nat → Nat → Nat) (sa ra N : Nat) : ks_Mv l yX1_init wsX1_init ({ frames := 2, cells := 6, slots := 74, locals := 32 }) (dC, dI) [.ref sa, .int (nI N), .ref ra] [(sa, .inr (1, [.int 0, .null, .null, .null, .int 0]))] [] 6 74 (S := Nat × Nat × Nat × ClassId × ClassId × Nat × Nat × Nat × ClassId × ClassId) (fun _ => True) (fun u => [(sa, .inr (1, [.int (nI N), .ref ra, .ref u.1, .ref u.2.2.2.2.2.1, .int 0])), (u.1, .inr (2, [.ref u.2.1, .ref u.2.2.1, .int 0, .int 0, .int 0])), (u.2.1, .inl (u.2.2.2.1, 16, .inl (fun _ => 0))), (u.2.2.1, .inl (u.2.2.2.2.1, 16, .inl (fun _ => 0))), (u.2.2.2.2.2.1, .inr (2, [.ref u.2.2.2.2.2.2.1, .ref u.2.2.2.2.2.2.2.1, .int 0, .int 0, .int 0])), (u.2.2.2.2.2.2.1, .inl (u.2.2.2.2.2.2.2.2.1, 16, .inl (fun _ => 0))), (u.2.2.2.2.2.2.2.1, .inl (u.2.2.2.2.2.2.2.2.2, 16, .inl (fun _ => 0)))]) (fun u => [(u.2.2.2.1, .int), (u.2.2.2.2.1, .int), (u.2.2.2.2.2.2.2.2.1, .int), (u.2.2.2.2.2.2.2.2.2, .int)]) := by
  intro sz
  refine Met.ofW (cc := cX1_init) (maxL := 3) (ret := none) (by decide) rfl ?_
  intro p e s m args below meth c s₁ B9 hml hv
  obtain ⟨rfl, hsz, hP, hK, hD0, hNW⟩ := hv
  have hx := B9.exec
  have hb := B9.bytes
  have hr := B9.returns
  have hts := atoms_spec (ws := wsX1_init) B9.pre
  have hown : s.vm.findClass RX1 = some m.cls := findClass_of_methodNamed B9.named
  have hlocks := B9.notSynchronized
  have hin : meth.name = "<init>" := (name_of_methodNamed B9.named B9.method).1
  subst hsz
  have hD := hD0.self (sz := s.heap.size)
  generalize hAe : va_A [(sa, .inr (1, [.int 0, .null, .null, .null, .int 0]))] s.heap.size = A at hD ⊢
  have hA : ∀ q : Nat, s.heap.size ≤ q → A q := fun q h => by rw [← hAe]; exact Or.inr h
  have hS : va_S A s.heap s.heap [] := va_S.rf
  have hiX1 : ∀ w ∈ u_ws RX1 TX1 5, w ∈ wsX1_init := by decide +kernel
  have hiX2 : ∀ w ∈ u_ws RX2 TX2 5, w ∈ wsX1_init := by decide +kernel
  have f9 := hts (.fieldLink RX1 9 "LessonSolver$Search" "variables" "I") (by decide +kernel)
  have f15 := hts (.fieldLink RX1 15 "LessonSolver$Search" "row" "LLessonSolver$ClauseRow;") (by decide +kernel)
  have f22 := hts (.fieldLink RX1 22 "LessonSolver$Search" "trail" "LLessonSolver$Trail;") (by decide +kernel)
  have f26 := hts (.fieldLink RX1 26 "LessonSolver$Search" "proof" "LLessonSolver$Trail;") (by decide +kernel)
  have hl := lv_entry ([.ref sa, .int (nI N), .ref ra]) (n := 3) (Nat.le_of_ble_eq_true rfl)
  rw [lg_entry_eq]
  generalize (lg_sl ([.ref sa, .int (nI N), .ref ra]) ++ List.replicate (3 - (lg_sl ([.ref sa, .int (nI N), .ref ra])).length) Slot.unset).toArray = ls at hl ⊢
  have hl : lv_has ls 3 [(0, .ref sa), (1, .int (nI N)), (2, .ref ra)] := hl
  refine lv_aload_n hx hb dX1_init_0 rfl (lv_at hl 0 rfl) ?_
  refine W.objInit hx hb hown (hts (.methodLink RX1 3 objectInit) (by decide +kernel)) (hts (.instanceMethod objectInit) (by decide +kernel)) (hts (.code objectInit ⟨#[0xb1]⟩ 1 none) (by decide +kernel)) rfl (by rw [hml]; exact hl.1) rfl dX1_init_1 (Nat.le_of_ble_eq_true rfl) (Nat.le_of_ble_eq_true rfl) ?_
  refine W.eq (g2 := F0 m 4 ls []) rfl ?_
  refine lv_aload_n hx hb dX1_init_4 rfl (lv_at hl 0 rfl) ?_
  refine lv_iload_n hx hb dX1_init_5 rfl (lv_at hl 1 rfl) ?_
  refine va_putF (D := (dC, dI)) (ci := 1) (v := .int (nI N)) (ty := .int) (C := RX1) (T := TX1) (N := 5) hx hb hts hiX1 tyX1 tyX1_ok nmX1 hown hK hP hD hS 0 rfl rfl 0 (by decide) f9 (fun _ h9 => h9) rfl hin rfl (by decide +kernel) rfl rfl (Nat.le_of_ble_eq_true rfl) dX1_init_6 (fun H locs hP hD hS => ?_)
  have hP : va_P (dC, dI) ksCl [(sa, .inr (1, [.int (nI N), .null, .null, .null, .int 0]))] H := hP
  have hD : va_D A [(sa, .inr (1, [.int (nI N), .null, .null, .null, .int 0]))] := hD
  refine lv_aload_n hx hb dX1_init_9 rfl (lv_at hl 0 rfl) ?_
  refine lv_aload_n hx hb dX1_init_10 rfl (lv_at hl 2 rfl) ?_
  refine va_putF (D := (dC, dI)) (ci := 1) (v := .ref ra) (ty := .object "LessonSolver$ClauseRow") (C := RX1) (T := TX1) (N := 5) hx hb hts hiX1 tyX1 tyX1_ok nmX1 hown hK hP hD hS 0 rfl rfl 1 (by decide) f15 (fun _ h9 => h9) rfl hin rfl (by decide +kernel) rfl rfl (Nat.le_of_ble_eq_true rfl) dX1_init_11 (fun H locs hP hD hS => ?_)
  have hP : va_P (dC, dI) ksCl [(sa, .inr (1, [.int (nI N), .ref ra, .null, .null, .int 0]))] H := hP
  have hD : va_D A [(sa, .inr (1, [.int (nI N), .ref ra, .null, .null, .int 0]))] := hD
  refine lv_aload_n hx hb dX1_init_14 rfl (lv_at hl 0 rfl) ?_
  refine va_new (ci := 2) (fs := [.null, .null, .int 0, .int 0, .int 0]) (C := RX2) (T := TX2) (N := 5) hx hb hts hiX2 tyX2 tyX2_ok hown (hts (.classLink RX1 19 RX2) (by decide +kernel)) (hts (.instantiable RX2 5) (by decide +kernel)) (hts (.initialized RX2) (by decide +kernel)) hK hP hD hS hA rfl (fun j hj => by rcases (show j = 0 ∨ j = 1 ∨ j = 2 ∨ j = 3 ∨ j = 4 by omega) with rfl | rfl | rfl | rfl | rfl <;> rfl) (Nat.le_of_ble_eq_true rfl) (Nat.le_of_ble_eq_true rfl) dX1_init_15 (fun ta H hP hD hS => ?_)
  have hP : va_P (dC, dI) ksCl [(sa, .inr (1, [.int (nI N), .ref ra, .null, .null, .int 0])), (ta, .inr (2, [.null, .null, .int 0, .int 0, .int 0]))] H := hP
  have hD : va_D A [(sa, .inr (1, [.int (nI N), .ref ra, .null, .null, .int 0])), (ta, .inr (2, [.null, .null, .int 0, .int 0, .int 0]))] := hD
  refine lv_dup hx hb dX1_init_18 rfl ?_
  refine ks_callvI (As := []) (rest := [.ref ta, .ref sa]) (wr := [(sa, .inr (1, [.int (nI N), .ref ra, .null, .null, .int 0]))]) (wz := fun u => [(sa, .inr (1, [.int (nI N), .ref ra, .null, .null, .int 0])), (ta, .inr (2, [.ref u.1, .ref u.2.1, .int 0, .int 0, .int 0])), (u.1, .inl (u.2.2.1, 16, .inl (fun _ => 0))), (u.2.1, .inl (u.2.2.2, 16, .inl (fun _ => 0)))]) ⟨hx, hb, hml, hown, hts⟩ (ks_trail_init l dC dI ta) (cwI 0 hts gX1_init_X2_init rfl rfl rfl (hts (.initialized RX2) (by decide +kernel)) (hts (.methodLink RX1 21 yX2_init) (by decide +kernel)) (hts (.instanceMethod yX2_init) (by decide +kernel)) rfl (by decide +kernel) ⟨Nat.le_of_ble_eq_true rfl, Nat.le_of_ble_eq_true rfl⟩) hK hP hD hS hA hNW [1] [0] [] [0, 1, 2, 3] rfl rfl rfl rfl (by decide) (by decide) (by decide) (fun _ => rfl) (fun _ => rfl) (by decide) rfl hl.1 rfl (Nat.le_of_ble_eq_true rfl) dX1_init_19 ⟨Nat.le_of_ble_eq_true rfl, Nat.le_of_ble_eq_true rfl⟩ (fun u9 H locs hw9 hK9 hP hD hS => ?_)
  obtain ⟨tb, tr, cB, cR⟩ := u9
  have hP : va_P (dC, dI) ksCl [(sa, .inr (1, [.int (nI N), .ref ra, .null, .null, .int 0])), (ta, .inr (2, [.ref tb, .ref tr, .int 0, .int 0, .int 0])), (tb, .inl (cB, 16, .inl (fun _ => 0))), (tr, .inl (cR, 16, .inl (fun _ => 0)))] H := hP
  have hD : va_D A [(sa, .inr (1, [.int (nI N), .ref ra, .null, .null, .int 0])), (ta, .inr (2, [.ref tb, .ref tr, .int 0, .int 0, .int 0])), (tb, .inl (cB, 16, .inl (fun _ => 0))), (tr, .inl (cR, 16, .inl (fun _ => 0)))] := hD
  have hK : va_K (dC, dI) ksCl [(cB, .int), (cR, .int)] s := hK9
  refine va_putF (D := (dC, dI)) (ci := 1) (v := .ref ta) (ty := .object "LessonSolver$Trail") (C := RX1) (T := TX1) (N := 5) hx hb hts hiX1 tyX1 tyX1_ok nmX1 hown hK hP hD hS 0 rfl rfl 2 (by decide) f22 (fun _ h9 => h9) rfl hin rfl (by decide +kernel) rfl rfl (Nat.le_of_ble_eq_true rfl) dX1_init_22 (fun H locs hP hD hS => ?_)
  have hP : va_P (dC, dI) ksCl [(sa, .inr (1, [.int (nI N), .ref ra, .ref ta, .null, .int 0])), (ta, .inr (2, [.ref tb, .ref tr, .int 0, .int 0, .int 0])), (tb, .inl (cB, 16, .inl (fun _ => 0))), (tr, .inl (cR, 16, .inl (fun _ => 0)))] H := hP
  have hD : va_D A [(sa, .inr (1, [.int (nI N), .ref ra, .ref ta, .null, .int 0])), (ta, .inr (2, [.ref tb, .ref tr, .int 0, .int 0, .int 0])), (tb, .inl (cB, 16, .inl (fun _ => 0))), (tr, .inl (cR, 16, .inl (fun _ => 0)))] := hD
  refine lv_aload_n hx hb dX1_init_25 rfl (lv_at hl 0 rfl) ?_
  refine va_new (ci := 2) (fs := [.null, .null, .int 0, .int 0, .int 0]) (C := RX2) (T := TX2) (N := 5) hx hb hts hiX2 tyX2 tyX2_ok hown (hts (.classLink RX1 19 RX2) (by decide +kernel)) (hts (.instantiable RX2 5) (by decide +kernel)) (hts (.initialized RX2) (by decide +kernel)) hK hP hD hS hA rfl (fun j hj => by rcases (show j = 0 ∨ j = 1 ∨ j = 2 ∨ j = 3 ∨ j = 4 by omega) with rfl | rfl | rfl | rfl | rfl <;> rfl) (Nat.le_of_ble_eq_true rfl) (Nat.le_of_ble_eq_true rfl) dX1_init_26 (fun qa H hP hD hS => ?_)
  have hP : va_P (dC, dI) ksCl [(sa, .inr (1, [.int (nI N), .ref ra, .ref ta, .null, .int 0])), (ta, .inr (2, [.ref tb, .ref tr, .int 0, .int 0, .int 0])), (tb, .inl (cB, 16, .inl (fun _ => 0))), (tr, .inl (cR, 16, .inl (fun _ => 0))), (qa, .inr (2, [.null, .null, .int 0, .int 0, .int 0]))] H := hP
  have hD : va_D A [(sa, .inr (1, [.int (nI N), .ref ra, .ref ta, .null, .int 0])), (ta, .inr (2, [.ref tb, .ref tr, .int 0, .int 0, .int 0])), (tb, .inl (cB, 16, .inl (fun _ => 0))), (tr, .inl (cR, 16, .inl (fun _ => 0))), (qa, .inr (2, [.null, .null, .int 0, .int 0, .int 0]))] := hD
  refine lv_dup hx hb dX1_init_29 rfl ?_
  refine ks_callvI (As := []) (rest := [.ref qa, .ref sa]) (wr := [(sa, .inr (1, [.int (nI N), .ref ra, .ref ta, .null, .int 0])), (ta, .inr (2, [.ref tb, .ref tr, .int 0, .int 0, .int 0])), (tb, .inl (cB, 16, .inl (fun _ => 0))), (tr, .inl (cR, 16, .inl (fun _ => 0)))]) (wz := fun u => [(sa, .inr (1, [.int (nI N), .ref ra, .ref ta, .null, .int 0])), (ta, .inr (2, [.ref tb, .ref tr, .int 0, .int 0, .int 0])), (tb, .inl (cB, 16, .inl (fun _ => 0))), (tr, .inl (cR, 16, .inl (fun _ => 0))), (qa, .inr (2, [.ref u.1, .ref u.2.1, .int 0, .int 0, .int 0])), (u.1, .inl (u.2.2.1, 16, .inl (fun _ => 0))), (u.2.1, .inl (u.2.2.2, 16, .inl (fun _ => 0)))]) ⟨hx, hb, hml, hown, hts⟩ (ks_trail_init l dC dI qa) (cwI 0 hts gX1_init_X2_init rfl rfl rfl (hts (.initialized RX2) (by decide +kernel)) (hts (.methodLink RX1 21 yX2_init) (by decide +kernel)) (hts (.instanceMethod yX2_init) (by decide +kernel)) rfl (by decide +kernel) ⟨Nat.le_of_ble_eq_true rfl, Nat.le_of_ble_eq_true rfl⟩) hK hP hD hS hA hNW [4] [0, 1, 2, 3] [] [0, 1, 2, 3, 4, 5, 6] rfl rfl rfl rfl (by decide) (by decide) (by decide) (fun _ => rfl) (fun _ => rfl) (by decide) rfl hl.1 rfl (Nat.le_of_ble_eq_true rfl) dX1_init_30 ⟨Nat.le_of_ble_eq_true rfl, Nat.le_of_ble_eq_true rfl⟩ (fun u9 H locs hw9 hK9 hP hD hS => ?_)
  obtain ⟨qb, qr, cE, cF⟩ := u9
  have hP : va_P (dC, dI) ksCl [(sa, .inr (1, [.int (nI N), .ref ra, .ref ta, .null, .int 0])), (ta, .inr (2, [.ref tb, .ref tr, .int 0, .int 0, .int 0])), (tb, .inl (cB, 16, .inl (fun _ => 0))), (tr, .inl (cR, 16, .inl (fun _ => 0))), (qa, .inr (2, [.ref qb, .ref qr, .int 0, .int 0, .int 0])), (qb, .inl (cE, 16, .inl (fun _ => 0))), (qr, .inl (cF, 16, .inl (fun _ => 0)))] H := hP
  have hD : va_D A [(sa, .inr (1, [.int (nI N), .ref ra, .ref ta, .null, .int 0])), (ta, .inr (2, [.ref tb, .ref tr, .int 0, .int 0, .int 0])), (tb, .inl (cB, 16, .inl (fun _ => 0))), (tr, .inl (cR, 16, .inl (fun _ => 0))), (qa, .inr (2, [.ref qb, .ref qr, .int 0, .int 0, .int 0])), (qb, .inl (cE, 16, .inl (fun _ => 0))), (qr, .inl (cF, 16, .inl (fun _ => 0)))] := hD
  have hK : va_K (dC, dI) ksCl [(cB, .int), (cR, .int), (cE, .int), (cF, .int)] s := hK9
  refine va_putF (D := (dC, dI)) (ci := 1) (v := .ref qa) (ty := .object "LessonSolver$Trail") (C := RX1) (T := TX1) (N := 5) hx hb hts hiX1 tyX1 tyX1_ok nmX1 hown hK hP hD hS 0 rfl rfl 3 (by decide) f26 (fun _ h9 => h9) rfl hin rfl (by decide +kernel) rfl rfl (Nat.le_of_ble_eq_true rfl) dX1_init_33 (fun H locs hP hD hS => ?_)
  have hP : va_P (dC, dI) ksCl [(sa, .inr (1, [.int (nI N), .ref ra, .ref ta, .ref qa, .int 0])), (ta, .inr (2, [.ref tb, .ref tr, .int 0, .int 0, .int 0])), (tb, .inl (cB, 16, .inl (fun _ => 0))), (tr, .inl (cR, 16, .inl (fun _ => 0))), (qa, .inr (2, [.ref qb, .ref qr, .int 0, .int 0, .int 0])), (qb, .inl (cE, 16, .inl (fun _ => 0))), (qr, .inl (cF, 16, .inl (fun _ => 0)))] H := hP
  have hD : va_D A [(sa, .inr (1, [.int (nI N), .ref ra, .ref ta, .ref qa, .int 0])), (ta, .inr (2, [.ref tb, .ref tr, .int 0, .int 0, .int 0])), (tb, .inl (cB, 16, .inl (fun _ => 0))), (tr, .inl (cR, 16, .inl (fun _ => 0))), (qa, .inr (2, [.ref qb, .ref qr, .int 0, .int 0, .int 0])), (qb, .inl (cE, 16, .inl (fun _ => 0))), (qr, .inl (cF, 16, .inl (fun _ => 0)))] := hD
  have hP9 : va_P (dC, dI) ksCl [(sa, .inr (1, [.int (nI N), .ref ra, .ref ta, .ref qa, .int 0])), (ta, .inr (2, [.ref tb, .ref tr, .int 0, .int 0, .int 0])), (tb, .inl (cB, 16, .inl (fun _ => 0))), (tr, .inl (cR, 16, .inl (fun _ => 0))), (qa, .inr (2, [.ref qb, .ref qr, .int 0, .int 0, .int 0])), (qb, .inl (cE, 16, .inl (fun _ => 0))), (qr, .inl (cF, 16, .inl (fun _ => 0)))] _ := hP
  have hD9 : va_D A [(sa, .inr (1, [.int (nI N), .ref ra, .ref ta, .ref qa, .int 0])), (ta, .inr (2, [.ref tb, .ref tr, .int 0, .int 0, .int 0])), (tb, .inl (cB, 16, .inl (fun _ => 0))), (tr, .inl (cR, 16, .inl (fun _ => 0))), (qa, .inr (2, [.ref qb, .ref qr, .int 0, .int 0, .int 0])), (qb, .inl (cE, 16, .inl (fun _ => 0))), (qr, .inl (cF, 16, .inl (fun _ => 0)))] := hD
  have hK9 : va_K (dC, dI) ksCl [(cB, .int), (cR, .int), (cE, .int), (cF, .int)] s := hK
  refine W.widen (k := 6) (n := 74) (by omega) (by omega) ?_
  exact W.vret hx hb hr (fun t ht hW9 => ⟨⟨(ta, tb, tr, cB, cR, qa, qb, qr, cE, cF), rfl, trivial, by rw [ht]; exact hP9, va_K.moved hW9.alike hK9, hD9⟩, hS.F ht⟩) hS.2.2 dX1_init_36
