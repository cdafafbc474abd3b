set_option maxHeartbeats 4000000 in
set_option maxRecDepth 100000 in
/-- saysAlready -/
theorem ks_says (l : Launch) (dC : Nat → ClassId) (dI : Nat → Nat → Nat) (ra rp rq : Nat) (cP cM : ClassId) (P M : Nat → Int32) (g nr : Nat) (p0 m0 : Int32) (hn : nr ≤ 664) : ks_Mi l yX0_saysAlready wsX0_saysAlready ({ frames := 0, cells := 0, slots := 0, locals := 0 }) (dC, dI) [.ref ra, .int p0, .int m0] [(ra, .inr (0, [.ref rp, .ref rq, .int (nI g), .int (nI nr)])), (rp, .inl (cP, 664, .inl P)), (rq, .inl (cM, 664, .inl M))] [(cP, .int), (cM, .int)] 0 0 (S := Unit) (fun r _ => r = 0 ∨ r = 1) (fun _ => [(ra, .inr (0, [.ref rp, .ref rq, .int (nI g), .int (nI nr)])), (rp, .inl (cP, 664, .inl P)), (rq, .inl (cM, 664, .inl M))]) (fun _ => [(cP, .int), (cM, .int)]) := by
  intro sz
  refine Met.ofW (cc := cX0_saysAlready) (maxL := 4) (ret := (some .boolean)) (by decide) rfl ?_
  intro p e s m args below meth c s₁ B9 hml hv
  obtain ⟨rfl, hsz, hP, hK, hD0, hNW⟩ := hv
  have hx := B9.exec
  have hb := B9.bytes
  have hr := B9.returns
  have hts := atoms_spec (ws := wsX0_saysAlready) B9.pre
  have hown : s.vm.findClass RX0 = some m.cls := findClass_of_methodNamed B9.named
  have hlocks := B9.notSynchronized
  subst hsz
  have hD := hD0.self (sz := s.heap.size)
  generalize hAe : va_A [(ra, .inr (0, [.ref rp, .ref rq, .int (nI g), .int (nI nr)])), (rp, .inl (cP, 664, .inl P)), (rq, .inl (cM, 664, .inl M))] s.heap.size = A at hD ⊢
  have hA : ∀ q : Nat, s.heap.size ≤ q → A q := fun q h => by rw [← hAe]; exact Or.inr h
  have hS : va_S A s.heap s.heap [] := va_S.rf
  have hiX0 : ∀ w ∈ u_ws RX0 TX0 4, w ∈ wsX0_saysAlready := by decide +kernel
  have f9 := hts (.fieldLink RX0 9 "LessonSolver$ClauseRow" "plus" "[I") (by decide +kernel)
  have f15 := hts (.fieldLink RX0 15 "LessonSolver$ClauseRow" "minus" "[I") (by decide +kernel)
  have f22 := hts (.fieldLink RX0 22 "LessonSolver$ClauseRow" "size" "I") (by decide +kernel)
  have hl := lv_entry ([.ref ra, .int p0, .int m0]) (n := 4) (Nat.le_of_ble_eq_true rfl)
  rw [lg_entry_eq]
  generalize (lg_sl ([.ref ra, .int p0, .int m0]) ++ List.replicate (4 - (lg_sl ([.ref ra, .int p0, .int m0])).length) Slot.unset).toArray = ls at hl ⊢
  have hl : lv_has ls 4 [(0, .ref ra), (1, .int p0), (2, .int m0)] := hl
  refine lv_iconst (v := nI 0) hx hb dX0_saysAlready_0 (by decide) ?_
  refine lv_istore_n (lv' := [(3, .int (nI 0)), (0, .ref ra), (1, .int p0), (2, .int m0)]) hx hb dX0_saysAlready_1 rfl hl (by decide) rfl (fun ls hl => ?_)
  refine ks_wl (σ := Nat) (fun n x H locs ls => (x ≤ nr) ∧ (n + x = nr + 1) ∧ va_P (dC, dI) ksCl [(ra, .inr (0, [.ref rp, .ref rq, .int (nI g), .int (nI nr)])), (rp, .inl (cP, 664, .inl P)), (rq, .inl (cM, 664, .inl M))] H ∧ va_D A [(ra, .inr (0, [.ref rp, .ref rq, .int (nI g), .int (nI nr)])), (rp, .inl (cP, 664, .inl P)), (rq, .inl (cM, 664, .inl M))] ∧ va_S A s.heap H locs ∧ lv_has ls 4 [(0, .ref ra), (1, .int p0), (2, .int m0), (3, .int (nI x))]) 2 ?_ ?_ (nr + 1) 0 _ _ ls ⟨Nat.zero_le _, rfl, hP, hD, hS, lv_sub hl [1, 2, 3, 0] rfl⟩
  · -- loop at 2
    intro n x H locs ls h9 ih
    obtain ⟨cq, rfl⟩ : ∃ z, z = x := ⟨_, rfl⟩
    obtain ⟨i1, i2, hP, hD, hS, hl⟩ := h9
    have i1 : cq ≤ nr := i1
    have i2 : (n + 1) + cq = nr + 1 := i2
    have hP : va_P (dC, dI) ksCl [(ra, .inr (0, [.ref rp, .ref rq, .int (nI g), .int (nI nr)])), (rp, .inl (cP, 664, .inl P)), (rq, .inl (cM, 664, .inl M))] H := hP
    have hD : va_D A [(ra, .inr (0, [.ref rp, .ref rq, .int (nI g), .int (nI nr)])), (rp, .inl (cP, 664, .inl P)), (rq, .inl (cM, 664, .inl M))] := hD
    have hl : lv_has ls 4 [(0, .ref ra), (1, .int p0), (2, .int m0), (3, .int (nI cq))] := hl
    refine lv_iload_n hx hb dX0_saysAlready_2 rfl (lv_at hl 3 rfl) ?_
    refine lv_aload_n hx hb dX0_saysAlready_3 rfl (lv_at hl 0 rfl) ?_
    refine va_get (D := (dC, dI)) (ci := 0) (v := .int (nI nr)) (C := RX0) (T := TX0) (N := 4) hx hb hts hiX0 hown hK hP 0 rfl rfl 3 (by decide) f22 (fun _ h9 => h9) rfl dX0_saysAlready_4 ?_
    refine lv_icmp_ge (tgt := 44) hx hb dX0_saysAlready_7 (by decide) (fun c7 => ?_) (fun c7 => ?_)
    · -- 7: jumps
      have hc : nr ≤ cq := by
        rcases Nat.lt_or_ge cq nr with q | q
        · exact absurd c7 (nI_ge q (by omega))
        · exact q
      refine lv_iconst (v := 0) hx hb dX0_saysAlready_44 (by decide) ?_
      have hP9 : va_P (dC, dI) ksCl [(ra, .inr (0, [.ref rp, .ref rq, .int (nI g), .int (nI nr)])), (rp, .inl (cP, 664, .inl P)), (rq, .inl (cM, 664, .inl M))] _ := hP
      have hD9 : va_D A [(ra, .inr (0, [.ref rp, .ref rq, .int (nI g), .int (nI nr)])), (rp, .inl (cP, 664, .inl P)), (rq, .inl (cM, 664, .inl M))] := hD
      have hK9 : va_K (dC, dI) ksCl [(cP, .int), (cM, .int)] s := hK
      exact W.zret (v := 0) (ty := .boolean) hx hb hr (by decide) (fun t ht hW9 => ⟨⟨0, (), rfl, Or.inl rfl, by rw [ht]; exact hP9, va_K.moved hW9.alike hK9, hD9⟩, hS.F ht⟩) hS.2.2 dX0_saysAlready_45
    · -- 7: goes on
      have hc : cq < nr := by
        rcases Nat.lt_or_ge cq nr with q | q
        · exact q
        · exact absurd (nI_le q (by omega)) c7
      refine lv_aload_n hx hb dX0_saysAlready_10 rfl (lv_at hl 0 rfl) ?_
      refine va_get (D := (dC, dI)) (ci := 0) (v := .ref rp) (C := RX0) (T := TX0) (N := 4) hx hb hts hiX0 hown hK hP 0 rfl rfl 0 (by decide) f9 (fun _ h9 => h9) rfl dX0_saysAlready_11 ?_
      refine lv_iload_n hx hb dX0_saysAlready_14 rfl (lv_at hl 3 rfl) ?_
      refine ks_ald hx hb hK hP 1 0 rfl rfl (j := cq) (by omega) (by decide) dX0_saysAlready_15 ?_
      refine lv_iload_n hx hb dX0_saysAlready_16 rfl (lv_at hl 1 rfl) ?_
      refine lv_iconst (v := -1) hx hb dX0_saysAlready_17 (by decide) ?_
      refine lv_ixor hx hb dX0_saysAlready_18 ?_
      refine lv_iand hx hb dX0_saysAlready_19 ?_
      refine lv_if_ne (tgt := 38) hx hb dX0_saysAlready_20 (by decide) (fun c20 => ?_) (fun c20 => ?_)
      · -- 20: jumps
        refine lv_iinc (v := nI (cq + 1)) (lv' := [(3, .int (nI (cq + 1))), (0, .ref ra), (1, .int p0), (2, .int m0)]) hx hb dX0_saysAlready_38 hl (k := 3) rfl (nI_1 _) (by decide) rfl (fun ls hl => ?_)
        refine lv_goto (tgt := 2) hx hb dX0_saysAlready_41 (by decide) ?_
        exact ih (cq + 1) _ _ _ ⟨hc, by omega, hP, hD, hS, lv_sub hl [1, 2, 3, 0] rfl⟩
      · -- 20: goes on
        refine lv_aload_n hx hb dX0_saysAlready_23 rfl (lv_at hl 0 rfl) ?_
        refine va_get (D := (dC, dI)) (ci := 0) (v := .ref rq) (C := RX0) (T := TX0) (N := 4) hx hb hts hiX0 hown hK hP 0 rfl rfl 1 (by decide) f15 (fun _ h9 => h9) rfl dX0_saysAlready_24 ?_
        refine lv_iload_n hx hb dX0_saysAlready_27 rfl (lv_at hl 3 rfl) ?_
        refine ks_ald hx hb hK hP 2 1 rfl rfl (j := cq) (by omega) (by decide) dX0_saysAlready_28 ?_
        refine lv_iload_n hx hb dX0_saysAlready_29 rfl (lv_at hl 2 rfl) ?_
        refine lv_iconst (v := -1) hx hb dX0_saysAlready_30 (by decide) ?_
        refine lv_ixor hx hb dX0_saysAlready_31 ?_
        refine lv_iand hx hb dX0_saysAlready_32 ?_
        refine lv_if_ne (tgt := 38) hx hb dX0_saysAlready_33 (by decide) (fun c33 => ?_) (fun c33 => ?_)
        · -- 33: jumps
          refine lv_iinc (v := nI (cq + 1)) (lv' := [(3, .int (nI (cq + 1))), (0, .ref ra), (1, .int p0), (2, .int m0)]) hx hb dX0_saysAlready_38 hl (k := 3) rfl (nI_1 _) (by decide) rfl (fun ls hl => ?_)
          refine lv_goto (tgt := 2) hx hb dX0_saysAlready_41 (by decide) ?_
          exact ih (cq + 1) _ _ _ ⟨hc, by omega, hP, hD, hS, lv_sub hl [1, 2, 3, 0] rfl⟩
        · -- 33: goes on
          refine lv_iconst (v := 1) hx hb dX0_saysAlready_36 (by decide) ?_
          have hP9 : va_P (dC, dI) ksCl [(ra, .inr (0, [.ref rp, .ref rq, .int (nI g), .int (nI nr)])), (rp, .inl (cP, 664, .inl P)), (rq, .inl (cM, 664, .inl M))] _ := hP
          have hD9 : va_D A [(ra, .inr (0, [.ref rp, .ref rq, .int (nI g), .int (nI nr)])), (rp, .inl (cP, 664, .inl P)), (rq, .inl (cM, 664, .inl M))] := hD
          have hK9 : va_K (dC, dI) ksCl [(cP, .int), (cM, .int)] s := hK
          exact W.zret (v := 1) (ty := .boolean) hx hb hr (by decide) (fun t ht hW9 => ⟨⟨1, (), rfl, Or.inr rfl, by rw [ht]; exact hP9, va_K.moved hW9.alike hK9, hD9⟩, hS.F ht⟩) hS.2.2 dX0_saysAlready_37
  · intro x H locs ls h9
    obtain ⟨i1, i2, -, -, -, -⟩ := h9
    skip
    omega
