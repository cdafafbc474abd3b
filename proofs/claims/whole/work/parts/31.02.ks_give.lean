set_option maxHeartbeats 4000000 in
set_option maxRecDepth 100000 in
/-- give -/
theorem ks_give (l : Launch) (dC : Nat → ClassId) (dI : Nat → Nat → Nat) (ra rp rq : Nat) (cP cM : ClassId) (P M : Nat → Int32) (g nr : Nat) (p0 m0 : Int32) (hg : g < 600) (hgn : g ≤ nr) (hn : nr < 664) : ks_Mv l yX0_give wsX0_give ({ frames := 0, cells := 0, slots := 0, locals := 0 }) (dC, dI) [.ref ra, .int p0, .int m0] [(ra, .inr (0, [.ref rp, .ref rq, .int (nI g), .int (nI nr)])), (rp, .inl (cP, 664, .inl P)), (rq, .inl (cM, 664, .inl M))] [(cP, .int), (cM, .int)] 0 0 (S := Unit) (fun _ => True) (fun _ => [(ra, .inr (0, [.ref rp, .ref rq, .int (nI (g + 1)), .int (nI (nr + 1))])), (rp, .inl (cP, 664, .inl (upd (upd P nr (P g)) g p0))), (rq, .inl (cM, 664, .inl (upd (upd M nr (M g)) g m0)))]) (fun _ => [(cP, .int), (cM, .int)]) := by
  intro sz
  refine Met.ofW (cc := cX0_give) (maxL := 3) (ret := none) (by decide) rfl ?_
  intro p e s m args below meth c s₁ B9 hml hv
  obtain ⟨rfl, hsz, hP, hK, hD0, hNW⟩ := hv
  have hx := B9.exec
  have hb := B9.bytes
  have hr := B9.returns
  have hts := atoms_spec (ws := wsX0_give) B9.pre
  have hown : s.vm.findClass RX0 = some m.cls := findClass_of_methodNamed B9.named
  have hlocks := B9.notSynchronized
  subst hsz
  have hD := hD0.self (sz := s.heap.size)
  generalize hAe : va_A [(ra, .inr (0, [.ref rp, .ref rq, .int (nI g), .int (nI nr)])), (rp, .inl (cP, 664, .inl P)), (rq, .inl (cM, 664, .inl M))] s.heap.size = A at hD ⊢
  have hA : ∀ q : Nat, s.heap.size ≤ q → A q := fun q h => by rw [← hAe]; exact Or.inr h
  have hS : va_S A s.heap s.heap [] := va_S.rf
  have hiX0 : ∀ w ∈ u_ws RX0 TX0 4, w ∈ wsX0_give := by decide +kernel
  have f9 := hts (.fieldLink RX0 9 "LessonSolver$ClauseRow" "plus" "[I") (by decide +kernel)
  have f15 := hts (.fieldLink RX0 15 "LessonSolver$ClauseRow" "minus" "[I") (by decide +kernel)
  have f18 := hts (.fieldLink RX0 18 "LessonSolver$ClauseRow" "given" "I") (by decide +kernel)
  have f22 := hts (.fieldLink RX0 22 "LessonSolver$ClauseRow" "size" "I") (by decide +kernel)
  have hl := lv_entry ([.ref ra, .int p0, .int m0]) (n := 3) (Nat.le_of_ble_eq_true rfl)
  rw [lg_entry_eq]
  generalize (lg_sl ([.ref ra, .int p0, .int m0]) ++ List.replicate (3 - (lg_sl ([.ref ra, .int p0, .int m0])).length) Slot.unset).toArray = ls at hl ⊢
  have hl : lv_has ls 3 [(0, .ref ra), (1, .int p0), (2, .int m0)] := hl
  refine lv_aload_n hx hb dX0_give_0 rfl (lv_at hl 0 rfl) ?_
  refine va_get (D := (dC, dI)) (ci := 0) (v := .int (nI g)) (C := RX0) (T := TX0) (N := 4) hx hb hts hiX0 hown hK hP 0 rfl rfl 2 (by decide) f18 (fun _ h9 => h9) rfl dX0_give_1 ?_
  refine lv_sipush (v := nI 600) hx hb dX0_give_4 (by decide) ?_
  refine lv_icmp_ge (tgt := 22) hx hb dX0_give_7 (by decide) (fun c7 => absurd c7 (nI_ge hg (by decide))) (fun c7 => ?_)
  refine lv_aload_n hx hb dX0_give_10 rfl (lv_at hl 0 rfl) ?_
  refine va_get (D := (dC, dI)) (ci := 0) (v := .int (nI nr)) (C := RX0) (T := TX0) (N := 4) hx hb hts hiX0 hown hK hP 0 rfl rfl 3 (by decide) f22 (fun _ h9 => h9) rfl dX0_give_11 ?_
  refine lv_aload_n hx hb dX0_give_14 rfl (lv_at hl 0 rfl) ?_
  refine va_get (D := (dC, dI)) (ci := 0) (v := .ref rp) (C := RX0) (T := TX0) (N := 4) hx hb hts hiX0 hown hK hP 0 rfl rfl 0 (by decide) f9 (fun _ h9 => h9) rfl dX0_give_15 ?_
  refine va_alen (v := nI 664) hx hb hK hP 1 0 rfl rfl rfl dX0_give_18 ?_
  refine lv_icmp_lt (tgt := 23) hx hb dX0_give_19 (by decide) (fun c19 => ?_) (fun c19 => absurd (nI_lt hn (by decide)) c19)
  refine lv_aload_n hx hb dX0_give_23 rfl (lv_at hl 0 rfl) ?_
  refine va_get (D := (dC, dI)) (ci := 0) (v := .ref rp) (C := RX0) (T := TX0) (N := 4) hx hb hts hiX0 hown hK hP 0 rfl rfl 0 (by decide) f9 (fun _ h9 => h9) rfl dX0_give_24 ?_
  refine lv_aload_n hx hb dX0_give_27 rfl (lv_at hl 0 rfl) ?_
  refine va_get (D := (dC, dI)) (ci := 0) (v := .int (nI nr)) (C := RX0) (T := TX0) (N := 4) hx hb hts hiX0 hown hK hP 0 rfl rfl 3 (by decide) f22 (fun _ h9 => h9) rfl dX0_give_28 ?_
  refine lv_aload_n hx hb dX0_give_31 rfl (lv_at hl 0 rfl) ?_
  refine va_get (D := (dC, dI)) (ci := 0) (v := .ref rp) (C := RX0) (T := TX0) (N := 4) hx hb hts hiX0 hown hK hP 0 rfl rfl 0 (by decide) f9 (fun _ h9 => h9) rfl dX0_give_32 ?_
  refine lv_aload_n hx hb dX0_give_35 rfl (lv_at hl 0 rfl) ?_
  refine va_get (D := (dC, dI)) (ci := 0) (v := .int (nI g)) (C := RX0) (T := TX0) (N := 4) hx hb hts hiX0 hown hK hP 0 rfl rfl 2 (by decide) f18 (fun _ h9 => h9) rfl dX0_give_36 ?_
  refine ks_ald hx hb hK hP 1 0 rfl rfl (j := g) (by omega) (by decide) dX0_give_39 ?_
  refine ks_ast hx hb hK hP hD hS 1 0 rfl rfl (j := nr) (by omega) (by decide) dX0_give_40 (fun H locs hP hD hS => ?_)
  have hP : va_P (dC, dI) ksCl [(ra, .inr (0, [.ref rp, .ref rq, .int (nI g), .int (nI nr)])), (rp, .inl (cP, 664, .inl (upd P nr (P g)))), (rq, .inl (cM, 664, .inl M))] H := hP
  have hD : va_D A [(ra, .inr (0, [.ref rp, .ref rq, .int (nI g), .int (nI nr)])), (rp, .inl (cP, 664, .inl (upd P nr (P g)))), (rq, .inl (cM, 664, .inl M))] := hD
  refine lv_aload_n hx hb dX0_give_41 rfl (lv_at hl 0 rfl) ?_
  refine va_get (D := (dC, dI)) (ci := 0) (v := .ref rq) (C := RX0) (T := TX0) (N := 4) hx hb hts hiX0 hown hK hP 0 rfl rfl 1 (by decide) f15 (fun _ h9 => h9) rfl dX0_give_42 ?_
  refine lv_aload_n hx hb dX0_give_45 rfl (lv_at hl 0 rfl) ?_
  refine va_get (D := (dC, dI)) (ci := 0) (v := .int (nI nr)) (C := RX0) (T := TX0) (N := 4) hx hb hts hiX0 hown hK hP 0 rfl rfl 3 (by decide) f22 (fun _ h9 => h9) rfl dX0_give_46 ?_
  refine lv_aload_n hx hb dX0_give_49 rfl (lv_at hl 0 rfl) ?_
  refine va_get (D := (dC, dI)) (ci := 0) (v := .ref rq) (C := RX0) (T := TX0) (N := 4) hx hb hts hiX0 hown hK hP 0 rfl rfl 1 (by decide) f15 (fun _ h9 => h9) rfl dX0_give_50 ?_
  refine lv_aload_n hx hb dX0_give_53 rfl (lv_at hl 0 rfl) ?_
  refine va_get (D := (dC, dI)) (ci := 0) (v := .int (nI g)) (C := RX0) (T := TX0) (N := 4) hx hb hts hiX0 hown hK hP 0 rfl rfl 2 (by decide) f18 (fun _ h9 => h9) rfl dX0_give_54 ?_
  refine ks_ald hx hb hK hP 2 1 rfl rfl (j := g) (by omega) (by decide) dX0_give_57 ?_
  refine ks_ast hx hb hK hP hD hS 2 1 rfl rfl (j := nr) (by omega) (by decide) dX0_give_58 (fun H locs hP hD hS => ?_)
  have hP : va_P (dC, dI) ksCl [(ra, .inr (0, [.ref rp, .ref rq, .int (nI g), .int (nI nr)])), (rp, .inl (cP, 664, .inl (upd P nr (P g)))), (rq, .inl (cM, 664, .inl (upd M nr (M g))))] H := hP
  have hD : va_D A [(ra, .inr (0, [.ref rp, .ref rq, .int (nI g), .int (nI nr)])), (rp, .inl (cP, 664, .inl (upd P nr (P g)))), (rq, .inl (cM, 664, .inl (upd M nr (M g))))] := hD
  refine lv_aload_n hx hb dX0_give_59 rfl (lv_at hl 0 rfl) ?_
  refine va_get (D := (dC, dI)) (ci := 0) (v := .ref rp) (C := RX0) (T := TX0) (N := 4) hx hb hts hiX0 hown hK hP 0 rfl rfl 0 (by decide) f9 (fun _ h9 => h9) rfl dX0_give_60 ?_
  refine lv_aload_n hx hb dX0_give_63 rfl (lv_at hl 0 rfl) ?_
  refine va_get (D := (dC, dI)) (ci := 0) (v := .int (nI g)) (C := RX0) (T := TX0) (N := 4) hx hb hts hiX0 hown hK hP 0 rfl rfl 2 (by decide) f18 (fun _ h9 => h9) rfl dX0_give_64 ?_
  refine lv_iload_n hx hb dX0_give_67 rfl (lv_at hl 1 rfl) ?_
  refine ks_ast hx hb hK hP hD hS 1 0 rfl rfl (j := g) (by omega) (by decide) dX0_give_68 (fun H locs hP hD hS => ?_)
  have hP : va_P (dC, dI) ksCl [(ra, .inr (0, [.ref rp, .ref rq, .int (nI g), .int (nI nr)])), (rp, .inl (cP, 664, .inl (upd (upd P nr (P g)) g p0))), (rq, .inl (cM, 664, .inl (upd M nr (M g))))] H := hP
  have hD : va_D A [(ra, .inr (0, [.ref rp, .ref rq, .int (nI g), .int (nI nr)])), (rp, .inl (cP, 664, .inl (upd (upd P nr (P g)) g p0))), (rq, .inl (cM, 664, .inl (upd M nr (M g))))] := hD
  refine lv_aload_n hx hb dX0_give_69 rfl (lv_at hl 0 rfl) ?_
  refine va_get (D := (dC, dI)) (ci := 0) (v := .ref rq) (C := RX0) (T := TX0) (N := 4) hx hb hts hiX0 hown hK hP 0 rfl rfl 1 (by decide) f15 (fun _ h9 => h9) rfl dX0_give_70 ?_
  refine lv_aload_n hx hb dX0_give_73 rfl (lv_at hl 0 rfl) ?_
  refine va_get (D := (dC, dI)) (ci := 0) (v := .int (nI g)) (C := RX0) (T := TX0) (N := 4) hx hb hts hiX0 hown hK hP 0 rfl rfl 2 (by decide) f18 (fun _ h9 => h9) rfl dX0_give_74 ?_
  refine lv_iload_n hx hb dX0_give_77 rfl (lv_at hl 2 rfl) ?_
  refine ks_ast hx hb hK hP hD hS 2 1 rfl rfl (j := g) (by omega) (by decide) dX0_give_78 (fun H locs hP hD hS => ?_)
  have hP : va_P (dC, dI) ksCl [(ra, .inr (0, [.ref rp, .ref rq, .int (nI g), .int (nI nr)])), (rp, .inl (cP, 664, .inl (upd (upd P nr (P g)) g p0))), (rq, .inl (cM, 664, .inl (upd (upd M nr (M g)) g m0)))] H := hP
  have hD : va_D A [(ra, .inr (0, [.ref rp, .ref rq, .int (nI g), .int (nI nr)])), (rp, .inl (cP, 664, .inl (upd (upd P nr (P g)) g p0))), (rq, .inl (cM, 664, .inl (upd (upd M nr (M g)) g m0)))] := hD
  refine lv_aload_n hx hb dX0_give_79 rfl (lv_at hl 0 rfl) ?_
  refine lv_dup hx hb dX0_give_80 rfl ?_
  refine va_get (D := (dC, dI)) (ci := 0) (v := .int (nI g)) (C := RX0) (T := TX0) (N := 4) hx hb hts hiX0 hown hK hP 0 rfl rfl 2 (by decide) f18 (fun _ h9 => h9) rfl dX0_give_81 ?_
  refine lv_iconst (v := 1) hx hb dX0_give_84 (by decide) ?_
  refine lv_iadd hx hb dX0_give_85 ?_
  refine ks_top (y := nI (g + 1)) (nI_1 g) ?_
  refine va_put (D := (dC, dI)) (ci := 0) (v := .int (nI (g + 1))) (ty := .int) (C := RX0) (T := TX0) (N := 4) hx hb hts hiX0 tyX0 tyX0_ok nmX0 hown hK hP hD hS 0 rfl rfl 2 (by decide) f18 (fun _ h9 => h9) rfl (by decide +kernel) rfl rfl (Nat.le_of_ble_eq_true rfl) dX0_give_86 (fun H locs hP hD hS => ?_)
  have hP : va_P (dC, dI) ksCl [(ra, .inr (0, [.ref rp, .ref rq, .int (nI (g + 1)), .int (nI nr)])), (rp, .inl (cP, 664, .inl (upd (upd P nr (P g)) g p0))), (rq, .inl (cM, 664, .inl (upd (upd M nr (M g)) g m0)))] H := hP
  have hD : va_D A [(ra, .inr (0, [.ref rp, .ref rq, .int (nI (g + 1)), .int (nI nr)])), (rp, .inl (cP, 664, .inl (upd (upd P nr (P g)) g p0))), (rq, .inl (cM, 664, .inl (upd (upd M nr (M g)) g m0)))] := hD
  refine lv_aload_n hx hb dX0_give_89 rfl (lv_at hl 0 rfl) ?_
  refine lv_dup hx hb dX0_give_90 rfl ?_
  refine va_get (D := (dC, dI)) (ci := 0) (v := .int (nI nr)) (C := RX0) (T := TX0) (N := 4) hx hb hts hiX0 hown hK hP 0 rfl rfl 3 (by decide) f22 (fun _ h9 => h9) rfl dX0_give_91 ?_
  refine lv_iconst (v := 1) hx hb dX0_give_94 (by decide) ?_
  refine lv_iadd hx hb dX0_give_95 ?_
  refine ks_top (y := nI (nr + 1)) (nI_1 nr) ?_
  refine va_put (D := (dC, dI)) (ci := 0) (v := .int (nI (nr + 1))) (ty := .int) (C := RX0) (T := TX0) (N := 4) hx hb hts hiX0 tyX0 tyX0_ok nmX0 hown hK hP hD hS 0 rfl rfl 3 (by decide) f22 (fun _ h9 => h9) rfl (by decide +kernel) rfl rfl (Nat.le_of_ble_eq_true rfl) dX0_give_96 (fun H locs hP hD hS => ?_)
  have hP : va_P (dC, dI) ksCl [(ra, .inr (0, [.ref rp, .ref rq, .int (nI (g + 1)), .int (nI (nr + 1))])), (rp, .inl (cP, 664, .inl (upd (upd P nr (P g)) g p0))), (rq, .inl (cM, 664, .inl (upd (upd M nr (M g)) g m0)))] H := hP
  have hD : va_D A [(ra, .inr (0, [.ref rp, .ref rq, .int (nI (g + 1)), .int (nI (nr + 1))])), (rp, .inl (cP, 664, .inl (upd (upd P nr (P g)) g p0))), (rq, .inl (cM, 664, .inl (upd (upd M nr (M g)) g m0)))] := hD
  have hP9 : va_P (dC, dI) ksCl [(ra, .inr (0, [.ref rp, .ref rq, .int (nI (g + 1)), .int (nI (nr + 1))])), (rp, .inl (cP, 664, .inl (upd (upd P nr (P g)) g p0))), (rq, .inl (cM, 664, .inl (upd (upd M nr (M g)) g m0)))] _ := hP
  have hD9 : va_D A [(ra, .inr (0, [.ref rp, .ref rq, .int (nI (g + 1)), .int (nI (nr + 1))])), (rp, .inl (cP, 664, .inl (upd (upd P nr (P g)) g p0))), (rq, .inl (cM, 664, .inl (upd (upd M nr (M g)) g m0)))] := hD
  have hK9 : va_K (dC, dI) ksCl [(cP, .int), (cM, .int)] s := hK
  exact W.vret hx hb hr (fun t ht hW9 => ⟨⟨(), rfl, trivial, by rw [ht]; exact hP9, va_K.moved hW9.alike hK9, hD9⟩, hS.F ht⟩) hS.2.2 dX0_give_99
