set_option maxHeartbeats 4000000 in
set_option maxRecDepth 100000 in
/-- wipe -/
theorem ks_wipe (l : Launch) (dC : Nat → ClassId) (dI : Nat → Nat → Nat) (xa ra rp rq sa aa : Nat) (N : Nat) (ac kc kl mp mm km g nr : Int32) : ks_Mv l yX3_wipe wsX3_wipe ({ frames := 1, cells := 0, slots := 0, locals := 20 }) (dC, dI) [.ref xa] [(xa, .inr (3, [.int (nI N), .ref ra, .ref sa, .ref aa, .int ac, .int kc, .int kl, .int mp, .int mm, .int km])), (ra, .inr (0, [.ref rp, .ref rq, .int g, .int nr]))] [] 0 0 (S := Unit) (fun _ => True) (fun _ => [(xa, .inr (3, [.int (nI N), .ref ra, .ref sa, .ref aa, .int (nI 0), .int (nI 0), .int (nI 0), .int 0, .int 0, .int (nI 0)])), (ra, .inr (0, [.ref rp, .ref rq, .int (nI 0), .int (nI 0)]))]) (fun _ => []) := by
  intro sz
  refine Met.ofW (cc := cX3_wipe) (maxL := 1) (ret := none) (by decide) rfl ?_
  intro p e s m args below meth c s₁ B9 hml hv
  obtain ⟨rfl, hsz, hP, hK, hD0, hNW⟩ := hv
  have hx := B9.exec
  have hb := B9.bytes
  have hr := B9.returns
  have hts := atoms_spec (ws := wsX3_wipe) B9.pre
  have hown : s.vm.findClass RX3 = some m.cls := findClass_of_methodNamed B9.named
  have hlocks := B9.notSynchronized
  subst hsz
  have hD := hD0.self (sz := s.heap.size)
  generalize hAe : va_A [(xa, .inr (3, [.int (nI N), .ref ra, .ref sa, .ref aa, .int ac, .int kc, .int kl, .int mp, .int mm, .int km])), (ra, .inr (0, [.ref rp, .ref rq, .int g, .int nr]))] s.heap.size = A at hD ⊢
  have hA : ∀ q : Nat, s.heap.size ≤ q → A q := fun q h => by rw [← hAe]; exact Or.inr h
  have hS : va_S A s.heap s.heap [] := va_S.rf
  have hiX3 : ∀ w ∈ u_ws RX3 TX3 10, w ∈ wsX3_wipe := by decide +kernel
  have f25 := hts (.fieldLink RX3 25 "LessonSolver" "clauses" "LLessonSolver$ClauseRow;") (by decide +kernel)
  have f59 := hts (.fieldLink RX3 59 "LessonSolver" "clauseCount" "I") (by decide +kernel)
  have f62 := hts (.fieldLink RX3 62 "LessonSolver" "literalCount" "I") (by decide +kernel)
  have f71 := hts (.fieldLink RX3 71 "LessonSolver" "assumptionCount" "I") (by decide +kernel)
  have hl := lv_entry ([.ref xa]) (n := 1) (Nat.le_of_ble_eq_true rfl)
  rw [lg_entry_eq]
  generalize (lg_sl ([.ref xa]) ++ List.replicate (1 - (lg_sl ([.ref xa])).length) Slot.unset).toArray = ls at hl ⊢
  have hl : lv_has ls 1 [(0, .ref xa)] := hl
  refine lv_aload_n hx hb dX3_wipe_0 rfl (lv_at hl 0 rfl) ?_
  refine va_get (D := (dC, dI)) (ci := 3) (v := .ref ra) (C := RX3) (T := TX3) (N := 10) hx hb hts hiX3 hown hK hP 0 rfl rfl 1 (by decide) f25 (fun _ h9 => h9) rfl dX3_wipe_1 ?_
  refine ks_callvV (As := []) (rest := []) (wr := [(xa, .inr (3, [.int (nI N), .ref ra, .ref sa, .ref aa, .int ac, .int kc, .int kl, .int mp, .int mm, .int km]))]) (wz := fun _ => [(xa, .inr (3, [.int (nI N), .ref ra, .ref sa, .ref aa, .int ac, .int kc, .int kl, .int mp, .int mm, .int km])), (ra, .inr (0, [.ref rp, .ref rq, .int (nI 0), .int (nI 0)]))]) ⟨hx, hb, hml, hown, hts⟩ (ks_clear l dC dI ra rp rq g nr) (cwV 0 hts gX3_wipe_X0_clear rfl rfl rfl (by decide +kernel) ⟨Nat.le_of_ble_eq_true rfl, Nat.le_of_ble_eq_true rfl⟩) hK hP hD hS hA hNW [1] [0] [] [0, 1] rfl rfl rfl rfl (by decide) (by decide) (by decide) (ci := 0) (q0 := 0) rfl rfl rfl (fun _ => rfl) (fun _ => rfl) (by decide) rfl hl.1 rfl (Nat.le_of_ble_eq_true rfl) dX3_wipe_4 ⟨Nat.le_of_ble_eq_true rfl, Nat.le_of_ble_eq_true rfl⟩ (fun u9 H locs hw9 hK9 hP hD hS => ?_)
  have hP : va_P (dC, dI) ksCl [(xa, .inr (3, [.int (nI N), .ref ra, .ref sa, .ref aa, .int ac, .int kc, .int kl, .int mp, .int mm, .int km])), (ra, .inr (0, [.ref rp, .ref rq, .int (nI 0), .int (nI 0)]))] H := hP
  have hD : va_D A [(xa, .inr (3, [.int (nI N), .ref ra, .ref sa, .ref aa, .int ac, .int kc, .int kl, .int mp, .int mm, .int km])), (ra, .inr (0, [.ref rp, .ref rq, .int (nI 0), .int (nI 0)]))] := hD
  refine lv_aload_n hx hb dX3_wipe_7 rfl (lv_at hl 0 rfl) ?_
  refine lv_iconst (v := nI 0) hx hb dX3_wipe_8 (by decide) ?_
  refine va_put (D := (dC, dI)) (ci := 3) (v := .int (nI 0)) (ty := .int) (C := RX3) (T := TX3) (N := 10) hx hb hts hiX3 tyX3 tyX3_ok nmX3 hown hK hP hD hS 0 rfl rfl 5 (by decide) f59 (fun _ h9 => h9) rfl (by decide +kernel) rfl rfl (Nat.le_of_ble_eq_true rfl) dX3_wipe_9 (fun H locs hP hD hS => ?_)
  have hP : va_P (dC, dI) ksCl [(xa, .inr (3, [.int (nI N), .ref ra, .ref sa, .ref aa, .int ac, .int (nI 0), .int kl, .int mp, .int mm, .int km])), (ra, .inr (0, [.ref rp, .ref rq, .int (nI 0), .int (nI 0)]))] H := hP
  have hD : va_D A [(xa, .inr (3, [.int (nI N), .ref ra, .ref sa, .ref aa, .int ac, .int (nI 0), .int kl, .int mp, .int mm, .int km])), (ra, .inr (0, [.ref rp, .ref rq, .int (nI 0), .int (nI 0)]))] := hD
  refine lv_aload_n hx hb dX3_wipe_12 rfl (lv_at hl 0 rfl) ?_
  refine lv_iconst (v := nI 0) hx hb dX3_wipe_13 (by decide) ?_
  refine va_put (D := (dC, dI)) (ci := 3) (v := .int (nI 0)) (ty := .int) (C := RX3) (T := TX3) (N := 10) hx hb hts hiX3 tyX3 tyX3_ok nmX3 hown hK hP hD hS 0 rfl rfl 6 (by decide) f62 (fun _ h9 => h9) rfl (by decide +kernel) rfl rfl (Nat.le_of_ble_eq_true rfl) dX3_wipe_14 (fun H locs hP hD hS => ?_)
  have hP : va_P (dC, dI) ksCl [(xa, .inr (3, [.int (nI N), .ref ra, .ref sa, .ref aa, .int ac, .int (nI 0), .int (nI 0), .int mp, .int mm, .int km])), (ra, .inr (0, [.ref rp, .ref rq, .int (nI 0), .int (nI 0)]))] H := hP
  have hD : va_D A [(xa, .inr (3, [.int (nI N), .ref ra, .ref sa, .ref aa, .int ac, .int (nI 0), .int (nI 0), .int mp, .int mm, .int km])), (ra, .inr (0, [.ref rp, .ref rq, .int (nI 0), .int (nI 0)]))] := hD
  refine lv_aload_n hx hb dX3_wipe_17 rfl (lv_at hl 0 rfl) ?_
  refine lv_iconst (v := nI 0) hx hb dX3_wipe_18 (by decide) ?_
  refine va_put (D := (dC, dI)) (ci := 3) (v := .int (nI 0)) (ty := .int) (C := RX3) (T := TX3) (N := 10) hx hb hts hiX3 tyX3 tyX3_ok nmX3 hown hK hP hD hS 0 rfl rfl 4 (by decide) f71 (fun _ h9 => h9) rfl (by decide +kernel) rfl rfl (Nat.le_of_ble_eq_true rfl) dX3_wipe_19 (fun H locs hP hD hS => ?_)
  have hP : va_P (dC, dI) ksCl [(xa, .inr (3, [.int (nI N), .ref ra, .ref sa, .ref aa, .int (nI 0), .int (nI 0), .int (nI 0), .int mp, .int mm, .int km])), (ra, .inr (0, [.ref rp, .ref rq, .int (nI 0), .int (nI 0)]))] H := hP
  have hD : va_D A [(xa, .inr (3, [.int (nI N), .ref ra, .ref sa, .ref aa, .int (nI 0), .int (nI 0), .int (nI 0), .int mp, .int mm, .int km])), (ra, .inr (0, [.ref rp, .ref rq, .int (nI 0), .int (nI 0)]))] := hD
  refine lv_aload_n hx hb dX3_wipe_22 rfl (lv_at hl 0 rfl) ?_
  refine ks_callvV (As := []) (rest := []) (wr := [(ra, .inr (0, [.ref rp, .ref rq, .int (nI 0), .int (nI 0)]))]) (wz := fun _ => [(xa, .inr (3, [.int (nI N), .ref ra, .ref sa, .ref aa, .int (nI 0), .int (nI 0), .int (nI 0), .int 0, .int 0, .int (nI 0)])), (ra, .inr (0, [.ref rp, .ref rq, .int (nI 0), .int (nI 0)]))]) ⟨hx, hb, hml, hown, hts⟩ (ks_forgetMade l dC dI xa ra sa aa N (nI 0) (nI 0) (nI 0) mp mm km) (cwV 0 hts gX3_wipe_X3_forgetMadeClause rfl rfl rfl (by decide +kernel) ⟨Nat.le_of_ble_eq_true rfl, Nat.le_of_ble_eq_true rfl⟩) hK hP hD hS hA hNW [0] [1] [] [1, 0] rfl rfl rfl rfl (by decide) (by decide) (by decide) (ci := 3) (q0 := 0) rfl rfl rfl (fun _ => rfl) (fun _ => rfl) (by decide) rfl hl.1 rfl (Nat.le_of_ble_eq_true rfl) dX3_wipe_23 ⟨Nat.le_of_ble_eq_true rfl, Nat.le_of_ble_eq_true rfl⟩ (fun u9 H locs hw9 hK9 hP hD hS => ?_)
  have hP : va_P (dC, dI) ksCl [(xa, .inr (3, [.int (nI N), .ref ra, .ref sa, .ref aa, .int (nI 0), .int (nI 0), .int (nI 0), .int 0, .int 0, .int (nI 0)])), (ra, .inr (0, [.ref rp, .ref rq, .int (nI 0), .int (nI 0)]))] H := hP
  have hD : va_D A [(xa, .inr (3, [.int (nI N), .ref ra, .ref sa, .ref aa, .int (nI 0), .int (nI 0), .int (nI 0), .int 0, .int 0, .int (nI 0)])), (ra, .inr (0, [.ref rp, .ref rq, .int (nI 0), .int (nI 0)]))] := hD
  have hP9 : va_P (dC, dI) ksCl [(xa, .inr (3, [.int (nI N), .ref ra, .ref sa, .ref aa, .int (nI 0), .int (nI 0), .int (nI 0), .int 0, .int 0, .int (nI 0)])), (ra, .inr (0, [.ref rp, .ref rq, .int (nI 0), .int (nI 0)]))] _ := hP
  have hD9 : va_D A [(xa, .inr (3, [.int (nI N), .ref ra, .ref sa, .ref aa, .int (nI 0), .int (nI 0), .int (nI 0), .int 0, .int 0, .int (nI 0)])), (ra, .inr (0, [.ref rp, .ref rq, .int (nI 0), .int (nI 0)]))] := hD
  have hK9 : va_K (dC, dI) ksCl [] s := hK
  exact W.vret hx hb hr (fun t ht hW9 => ⟨⟨(), rfl, trivial, by rw [ht]; exact hP9, va_K.moved hW9.alike hK9, hD9⟩, hS.F ht⟩) hS.2.2 dX3_wipe_26
