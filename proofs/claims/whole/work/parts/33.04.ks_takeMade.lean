set_option maxHeartbeats 4000000 in
set_option maxRecDepth 100000 in
/-- takeMadeClause -/
theorem ks_takeMade (l : Launch) (dC : Nat → ClassId) (dI : Nat → Nat → Nat) (xa sa aa : Nat) (ra rp rq : Nat) (cP cM : ClassId) (N : Nat) (ac kc kl mp mm km : Int32) (P M : Nat → Int32) (g nr : Nat) (hW : ks_W N P M g nr) (hg : g < 600) (hmk : ks_in N mp mm) : ks_Mv l yX3_takeMadeClause wsX3_takeMadeClause ({ frames := 1, cells := 0, slots := 0, locals := 22 }) (dC, dI) [.ref xa] [(xa, .inr (3, [.int (nI N), .ref ra, .ref sa, .ref aa, .int ac, .int kc, .int kl, .int mp, .int mm, .int km])), (ra, .inr (0, [.ref rp, .ref rq, .int (nI g), .int (nI nr)])), (rp, .inl (cP, 664, .inl P)), (rq, .inl (cM, 664, .inl M))] [(cP, .int), (cM, .int)] 0 0 (S := (Nat → Int32) × (Nat → Int32) × Nat × Nat) (fun u => ks_W N u.1 u.2.1 u.2.2.1 u.2.2.2 ∧ u.2.2.1 ≤ g + 1 ∧ ∀ a, ks_M u.1 u.2.1 u.2.2.1 a ↔ ks_M P M g a ∧ ks_T mp mm a) (fun u => [(xa, .inr (3, [.int (nI N), .ref ra, .ref sa, .ref aa, .int ac, .int kc, .int kl, .int mp, .int mm, .int km])), (ra, .inr (0, [.ref rp, .ref rq, .int (nI u.2.2.1), .int (nI u.2.2.2)])), (rp, .inl (cP, 664, .inl u.1)), (rq, .inl (cM, 664, .inl u.2.1))]) (fun u => [(cP, .int), (cM, .int)]) := by
  intro sz
  refine Met.ofW (cc := cX3_takeMadeClause) (maxL := 1) (ret := none) (by decide) rfl ?_
  intro p e s m args below meth c s₁ B9 hml hv
  obtain ⟨rfl, hsz, hP, hK, hD0, hNW⟩ := hv
  have hx := B9.exec
  have hb := B9.bytes
  have hr := B9.returns
  have hts := atoms_spec (ws := wsX3_takeMadeClause) B9.pre
  have hown : s.vm.findClass RX3 = some m.cls := findClass_of_methodNamed B9.named
  have hlocks := B9.notSynchronized
  subst hsz
  have hD := hD0.self (sz := s.heap.size)
  generalize hAe : va_A [(xa, .inr (3, [.int (nI N), .ref ra, .ref sa, .ref aa, .int ac, .int kc, .int kl, .int mp, .int mm, .int km])), (ra, .inr (0, [.ref rp, .ref rq, .int (nI g), .int (nI nr)])), (rp, .inl (cP, 664, .inl P)), (rq, .inl (cM, 664, .inl M))] s.heap.size = A at hD ⊢
  have hA : ∀ q : Nat, s.heap.size ≤ q → A q := fun q h => by rw [← hAe]; exact Or.inr h
  have hS : va_S A s.heap s.heap [] := va_S.rf
  have hiX3 : ∀ w ∈ u_ws RX3 TX3 10, w ∈ wsX3_takeMadeClause := by decide +kernel
  have f25 := hts (.fieldLink RX3 25 "LessonSolver" "clauses" "LLessonSolver$ClauseRow;") (by decide +kernel)
  have f49 := hts (.fieldLink RX3 49 "LessonSolver" "madePlus" "I") (by decide +kernel)
  have f56 := hts (.fieldLink RX3 56 "LessonSolver" "madeMinus" "I") (by decide +kernel)
  have hl := lv_entry ([.ref xa]) (n := 1) (Nat.le_of_ble_eq_true rfl)
  rw [lg_entry_eq]
  generalize (lg_sl ([.ref xa]) ++ List.replicate (1 - (lg_sl ([.ref xa])).length) Slot.unset).toArray = ls at hl ⊢
  have hl : lv_has ls 1 [(0, .ref xa)] := hl
  refine lv_aload_n hx hb dX3_takeMadeClause_0 rfl (lv_at hl 0 rfl) ?_
  refine va_get (D := (dC, dI)) (ci := 3) (v := .int mp) (C := RX3) (T := TX3) (N := 10) hx hb hts hiX3 hown hK hP 0 rfl rfl 7 (by decide) f49 (fun _ h9 => h9) rfl dX3_takeMadeClause_1 ?_
  refine lv_aload_n hx hb dX3_takeMadeClause_4 rfl (lv_at hl 0 rfl) ?_
  refine va_get (D := (dC, dI)) (ci := 3) (v := .int mm) (C := RX3) (T := TX3) (N := 10) hx hb hts hiX3 hown hK hP 0 rfl rfl 8 (by decide) f56 (fun _ h9 => h9) rfl dX3_takeMadeClause_5 ?_
  refine lv_iand hx hb dX3_takeMadeClause_8 ?_
  refine lv_if_ne (tgt := 27) hx hb dX3_takeMadeClause_9 (by decide) (fun c9 => ?_) (fun c9 => ?_)
  · -- 9: jumps
    have hP9 : va_P (dC, dI) ksCl [(xa, .inr (3, [.int (nI N), .ref ra, .ref sa, .ref aa, .int ac, .int kc, .int kl, .int mp, .int mm, .int km])), (ra, .inr (0, [.ref rp, .ref rq, .int (nI g), .int (nI nr)])), (rp, .inl (cP, 664, .inl P)), (rq, .inl (cM, 664, .inl M))] _ := hP
    have hD9 : va_D A [(xa, .inr (3, [.int (nI N), .ref ra, .ref sa, .ref aa, .int ac, .int kc, .int kl, .int mp, .int mm, .int km])), (ra, .inr (0, [.ref rp, .ref rq, .int (nI g), .int (nI nr)])), (rp, .inl (cP, 664, .inl P)), (rq, .inl (cM, 664, .inl M))] := hD
    have hK9 : va_K (dC, dI) ksCl [(cP, .int), (cM, .int)] s := hK
    exact W.vret hx hb hr (fun t ht hW9 => ⟨⟨(P, M, g, nr), rfl, ⟨hW, Nat.le_succ _, fun a => ⟨fun q => ⟨q, ks_T.taut c9 a⟩, fun q => q.1⟩⟩, by rw [ht]; exact hP9, va_K.moved hW9.alike hK9, hD9⟩, hS.F ht⟩) hS.2.2 dX3_takeMadeClause_27
  · -- 9: goes on
    have hd0 : mp &&& mm = 0 := c9
    refine lv_aload_n hx hb dX3_takeMadeClause_12 rfl (lv_at hl 0 rfl) ?_
    refine va_get (D := (dC, dI)) (ci := 3) (v := .ref ra) (C := RX3) (T := TX3) (N := 10) hx hb hts hiX3 hown hK hP 0 rfl rfl 1 (by decide) f25 (fun _ h9 => h9) rfl dX3_takeMadeClause_13 ?_
    refine lv_aload_n hx hb dX3_takeMadeClause_16 rfl (lv_at hl 0 rfl) ?_
    refine va_get (D := (dC, dI)) (ci := 3) (v := .int mp) (C := RX3) (T := TX3) (N := 10) hx hb hts hiX3 hown hK hP 0 rfl rfl 7 (by decide) f49 (fun _ h9 => h9) rfl dX3_takeMadeClause_17 ?_
    refine lv_aload_n hx hb dX3_takeMadeClause_20 rfl (lv_at hl 0 rfl) ?_
    refine va_get (D := (dC, dI)) (ci := 3) (v := .int mm) (C := RX3) (T := TX3) (N := 10) hx hb hts hiX3 hown hK hP 0 rfl rfl 8 (by decide) f56 (fun _ h9 => h9) rfl dX3_takeMadeClause_21 ?_
    refine ks_callvV (As := [.int mp, .int mm]) (rest := []) (wr := [(xa, .inr (3, [.int (nI N), .ref ra, .ref sa, .ref aa, .int ac, .int kc, .int kl, .int mp, .int mm, .int km]))]) (wz := fun _ => [(xa, .inr (3, [.int (nI N), .ref ra, .ref sa, .ref aa, .int ac, .int kc, .int kl, .int mp, .int mm, .int km])), (ra, .inr (0, [.ref rp, .ref rq, .int (nI (g + 1)), .int (nI (nr + 1))])), (rp, .inl (cP, 664, .inl (upd (upd P nr (P g)) g mp))), (rq, .inl (cM, 664, .inl (upd (upd M nr (M g)) g mm)))]) ⟨hx, hb, hml, hown, hts⟩ (ks_give l dC dI ra rp rq cP cM P M g nr mp mm hg hW.1 (by have := hW.2.1; omega)) (cwV 2 hts gX3_takeMadeClause_X0_give rfl rfl rfl (by decide +kernel) ⟨Nat.le_of_ble_eq_true rfl, Nat.le_of_ble_eq_true rfl⟩) hK hP hD hS hA hNW [1, 2, 3] [0] [0, 1] [0, 1, 2, 3] rfl rfl rfl rfl (by decide) (by decide) (by decide) (ci := 0) (q0 := 0) rfl rfl rfl (fun _ => rfl) (fun _ => rfl) (by decide) rfl hl.1 rfl (Nat.le_of_ble_eq_true rfl) dX3_takeMadeClause_24 ⟨Nat.le_of_ble_eq_true rfl, Nat.le_of_ble_eq_true rfl⟩ (fun u9 H locs hw9 hK9 hP hD hS => ?_)
    have hP : va_P (dC, dI) ksCl [(xa, .inr (3, [.int (nI N), .ref ra, .ref sa, .ref aa, .int ac, .int kc, .int kl, .int mp, .int mm, .int km])), (ra, .inr (0, [.ref rp, .ref rq, .int (nI (g + 1)), .int (nI (nr + 1))])), (rp, .inl (cP, 664, .inl (upd (upd P nr (P g)) g mp))), (rq, .inl (cM, 664, .inl (upd (upd M nr (M g)) g mm)))] H := hP
    have hD : va_D A [(xa, .inr (3, [.int (nI N), .ref ra, .ref sa, .ref aa, .int ac, .int kc, .int kl, .int mp, .int mm, .int km])), (ra, .inr (0, [.ref rp, .ref rq, .int (nI (g + 1)), .int (nI (nr + 1))])), (rp, .inl (cP, 664, .inl (upd (upd P nr (P g)) g mp))), (rq, .inl (cM, 664, .inl (upd (upd M nr (M g)) g mm)))] := hD
    have hP9 : va_P (dC, dI) ksCl [(xa, .inr (3, [.int (nI N), .ref ra, .ref sa, .ref aa, .int ac, .int kc, .int kl, .int mp, .int mm, .int km])), (ra, .inr (0, [.ref rp, .ref rq, .int (nI (g + 1)), .int (nI (nr + 1))])), (rp, .inl (cP, 664, .inl (upd (upd P nr (P g)) g mp))), (rq, .inl (cM, 664, .inl (upd (upd M nr (M g)) g mm)))] _ := hP
    have hD9 : va_D A [(xa, .inr (3, [.int (nI N), .ref ra, .ref sa, .ref aa, .int ac, .int kc, .int kl, .int mp, .int mm, .int km])), (ra, .inr (0, [.ref rp, .ref rq, .int (nI (g + 1)), .int (nI (nr + 1))])), (rp, .inl (cP, 664, .inl (upd (upd P nr (P g)) g mp))), (rq, .inl (cM, 664, .inl (upd (upd M nr (M g)) g mm)))] := hD
    have hK9 : va_K (dC, dI) ksCl [(cP, .int), (cM, .int)] s := hK
    exact W.vret hx hb hr (fun t ht hW9 => ⟨⟨(upd (upd P nr (P g)) g mp, upd (upd M nr (M g)) g mm, g + 1, nr + 1), rfl, ⟨hW.give (hmk.mem hd0), Nat.le_refl _, fun a => ks_M.give hW.1 mp mm (P g) (M g)⟩, by rw [ht]; exact hP9, va_K.moved hW9.alike hK9, hD9⟩, hS.F ht⟩) hS.2.2 dX3_takeMadeClause_27
