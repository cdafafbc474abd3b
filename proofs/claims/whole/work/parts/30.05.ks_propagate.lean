set_option maxHeartbeats 4000000 in
set_option maxRecDepth 100000 in
/-- propagate -/
theorem ks_propagate (l : Launch) (dC : Nat → ClassId) (dI : Nat → Nat → Nat) (ta tb tr : Nat) (cB cR : ClassId) (ra rp rq : Nat) (cP cM : ClassId) (B0 Rs0 : Nat → Int32) (k0 : Nat) (o0 z0 : Int32) (N : Nat) (P M : Nat → Int32) (g nr : Nat) (hN : N ≤ 16) (hR : ks_R N P M nr B0 Rs0 k0 o0 z0) (hW : ks_W N P M g nr) (hg : g ≤ 600) : ks_Mi l yX2_propagate wsX2_propagate ({ frames := 1, cells := 0, slots := 0, locals := 23 }) (dC, dI) [.ref ta, .ref ra] [(ta, .inr (2, [.ref tb, .ref tr, .int (nI k0), .int o0, .int z0])), (tb, .inl (cB, 16, .inl B0)), (tr, .inl (cR, 16, .inl Rs0)), (ra, .inr (0, [.ref rp, .ref rq, .int (nI g), .int (nI nr)])), (rp, .inl (cP, 664, .inl P)), (rq, .inl (cM, 664, .inl M))] [(cB, .int), (cR, .int), (cP, .int), (cM, .int)] 0 0 (S := (Nat → Int32) × (Nat → Int32) × Nat × Int32 × Int32) (fun r u => ks_pp N P M nr B0 Rs0 k0 o0 z0 r u.1 u.2.1 u.2.2.1 u.2.2.2.1 u.2.2.2.2) (fun u => [(ta, .inr (2, [.ref tb, .ref tr, .int (nI u.2.2.1), .int u.2.2.2.1, .int u.2.2.2.2])), (tb, .inl (cB, 16, .inl u.1)), (tr, .inl (cR, 16, .inl u.2.1)), (ra, .inr (0, [.ref rp, .ref rq, .int (nI g), .int (nI nr)])), (rp, .inl (cP, 664, .inl P)), (rq, .inl (cM, 664, .inl M))]) (fun u => [(cB, .int), (cR, .int), (cP, .int), (cM, .int)]) := by
  intro sz
  refine Met.ofW (cc := cX2_propagate) (maxL := 7) (ret := (some .int)) (by decide) rfl ?_
  intro p e s m args below meth c s₁ B9 hml hv
  obtain ⟨rfl, hsz, hP, hK, hD0, hNW⟩ := hv
  have hx := B9.exec
  have hb := B9.bytes
  have hr := B9.returns
  have hts := atoms_spec (ws := wsX2_propagate) B9.pre
  have hown : s.vm.findClass RX2 = some m.cls := findClass_of_methodNamed B9.named
  have hlocks := B9.notSynchronized
  subst hsz
  have hD := hD0.self (sz := s.heap.size)
  generalize hAe : va_A [(ta, .inr (2, [.ref tb, .ref tr, .int (nI k0), .int o0, .int z0])), (tb, .inl (cB, 16, .inl B0)), (tr, .inl (cR, 16, .inl Rs0)), (ra, .inr (0, [.ref rp, .ref rq, .int (nI g), .int (nI nr)])), (rp, .inl (cP, 664, .inl P)), (rq, .inl (cM, 664, .inl M))] s.heap.size = A at hD ⊢
  have hA : ∀ q : Nat, s.heap.size ≤ q → A q := fun q h => by rw [← hAe]; exact Or.inr h
  have hS : va_S A s.heap s.heap [] := va_S.rf
  have hiX0 : ∀ w ∈ u_ws RX0 TX0 4, w ∈ wsX2_propagate := by decide +kernel
  have hiX2 : ∀ w ∈ u_ws RX2 TX2 5, w ∈ wsX2_propagate := by decide +kernel
  have f18 := hts (.fieldLink RX2 18 "LessonSolver$Trail" "length" "I") (by decide +kernel)
  have f22 := hts (.fieldLink RX2 22 "LessonSolver$Trail" "ones" "I") (by decide +kernel)
  have f25 := hts (.fieldLink RX2 25 "LessonSolver$Trail" "zeros" "I") (by decide +kernel)
  have f41 := va_Nw.use (A := ([.ref ta, .ref ra] : List Value).toArray) rfl (hNW (.fieldLinkNest RX2 41 "LessonSolver$ClauseRow" "size" "I" "LessonSolver") (by decide +kernel))
  have f46 := va_Nw.use (A := ([.ref ta, .ref ra] : List Value).toArray) rfl (hNW (.fieldLinkNest RX2 46 "LessonSolver$ClauseRow" "plus" "[I" "LessonSolver") (by decide +kernel))
  have f49 := va_Nw.use (A := ([.ref ta, .ref ra] : List Value).toArray) rfl (hNW (.fieldLinkNest RX2 49 "LessonSolver$ClauseRow" "minus" "[I" "LessonSolver") (by decide +kernel))
  have hl := lv_entry ([.ref ta, .ref ra]) (n := 7) (Nat.le_of_ble_eq_true rfl)
  rw [lg_entry_eq]
  generalize (lg_sl ([.ref ta, .ref ra]) ++ List.replicate (7 - (lg_sl ([.ref ta, .ref ra])).length) Slot.unset).toArray = ls at hl ⊢
  have hl : lv_has ls 7 [(0, .ref ta), (1, .ref ra)] := hl
  have hnr : nr ≤ 664 := by have := hW.2.1; omega
  refine lv_iconst (v := nI 0) hx hb dX2_propagate_0 (by decide) ?_
  refine lv_istore_n (lv' := [(2, .int (nI 0)), (0, .ref ta), (1, .ref ra)]) hx hb dX2_propagate_1 rfl hl (by decide) rfl (fun ls hl => ?_)
  refine ks_wl (σ := Nat × (Nat → Int32) × (Nat → Int32) × Nat × Int32 × Int32) (fun n x H locs ls => (x.1 ≤ x.2.2.2.1) ∧ (n + x.1 = 18) ∧ (ks_R N P M nr x.2.1 x.2.2.1 x.2.2.2.1 x.2.2.2.2.1 x.2.2.2.2.2) ∧ (ks_X B0 Rs0 k0 o0 z0 x.2.1 x.2.2.1 x.2.2.2.1 x.2.2.2.2.1 x.2.2.2.2.2) ∧ (∀ a, ks_E o0 z0 a → ks_M P M nr a → ks_E x.2.2.2.2.1 x.2.2.2.2.2 a) ∧ (x.1 ≤ 17) ∧ va_P (dC, dI) ksCl [(ta, .inr (2, [.ref tb, .ref tr, .int (nI x.2.2.2.1), .int x.2.2.2.2.1, .int x.2.2.2.2.2])), (tb, .inl (cB, 16, .inl x.2.1)), (tr, .inl (cR, 16, .inl x.2.2.1)), (ra, .inr (0, [.ref rp, .ref rq, .int (nI g), .int (nI nr)])), (rp, .inl (cP, 664, .inl P)), (rq, .inl (cM, 664, .inl M))] H ∧ va_D A [(ta, .inr (2, [.ref tb, .ref tr, .int (nI x.2.2.2.1), .int x.2.2.2.2.1, .int x.2.2.2.2.2])), (tb, .inl (cB, 16, .inl x.2.1)), (tr, .inl (cR, 16, .inl x.2.2.1)), (ra, .inr (0, [.ref rp, .ref rq, .int (nI g), .int (nI nr)])), (rp, .inl (cP, 664, .inl P)), (rq, .inl (cM, 664, .inl M))] ∧ va_S A s.heap H locs ∧ lv_has ls 7 [(0, .ref ta), (1, .ref ra), (2, .int (nI x.1))]) 2 ?_ ?_ (18) (0, B0, Rs0, k0, o0, z0) _ _ ls ⟨Nat.zero_le _, rfl, hR, ks_X.rf, fun _ h _ => h, Nat.zero_le 17, hP, hD, hS, lv_sub hl [1, 2, 0] rfl⟩
  · -- loop at 2
    intro n1 x H locs ls h9 ih1
    obtain ⟨ps, Bp, Rp, kp, op, zp⟩ := x
    obtain ⟨w1, w2, w3, w4, w5, w6, hP, hD, hS, hl⟩ := h9
    have w1 : ps ≤ kp := w1
    have w2 : (n1 + 1) + ps = 18 := w2
    have w3 : ks_R N P M nr Bp Rp kp op zp := w3
    have w4 : ks_X B0 Rs0 k0 o0 z0 Bp Rp kp op zp := w4
    have w5 : ∀ a, ks_E o0 z0 a → ks_M P M nr a → ks_E op zp a := w5
    have w6 : ps ≤ 17 := w6
    have hP : va_P (dC, dI) ksCl [(ta, .inr (2, [.ref tb, .ref tr, .int (nI kp), .int op, .int zp])), (tb, .inl (cB, 16, .inl Bp)), (tr, .inl (cR, 16, .inl Rp)), (ra, .inr (0, [.ref rp, .ref rq, .int (nI g), .int (nI nr)])), (rp, .inl (cP, 664, .inl P)), (rq, .inl (cM, 664, .inl M))] H := hP
    have hD : va_D A [(ta, .inr (2, [.ref tb, .ref tr, .int (nI kp), .int op, .int zp])), (tb, .inl (cB, 16, .inl Bp)), (tr, .inl (cR, 16, .inl Rp)), (ra, .inr (0, [.ref rp, .ref rq, .int (nI g), .int (nI nr)])), (rp, .inl (cP, 664, .inl P)), (rq, .inl (cM, 664, .inl M))] := hD
    have hl : lv_has ls 7 [(0, .ref ta), (1, .ref ra), (2, .int (nI ps))] := hl
    refine lv_iload_n hx hb dX2_propagate_2 rfl (lv_at hl 2 rfl) ?_
    refine lv_bipush (v := nI 16) hx hb dX2_propagate_3 (by decide) ?_
    refine lv_icmp_gt (tgt := 156) hx hb dX2_propagate_5 (by decide) (fun c5 => absurd c5 (nI_nlt (by have := w3.le; omega) (by decide))) (fun c5 => ?_)
    refine lv_aload_n hx hb dX2_propagate_8 rfl (lv_at hl 0 rfl) ?_
    refine va_get (D := (dC, dI)) (ci := 2) (v := .int (nI kp)) (C := RX2) (T := TX2) (N := 5) hx hb hts hiX2 hown hK hP 0 rfl rfl 2 (by decide) f18 (fun _ h9 => h9) rfl dX2_propagate_9 ?_
    refine lv_istore_n (lv' := [(3, .int (nI kp)), (0, .ref ta), (1, .ref ra), (2, .int (nI ps))]) hx hb dX2_propagate_12 rfl hl (by decide) rfl (fun ls hl => ?_)
    refine lv_iconst (v := nI 0) hx hb dX2_propagate_13 (by decide) ?_
    refine lv_istore (lv' := [(4, .int (nI 0)), (3, .int (nI kp)), (0, .ref ta), (1, .ref ra), (2, .int (nI ps))]) hx hb dX2_propagate_14 hl (by decide) rfl (fun ls hl => ?_)
    refine ks_wl (σ := Nat × (Nat → Int32) × (Nat → Int32) × Nat × Int32 × Int32) (fun n x H locs ls => (x.1 ≤ nr) ∧ (n + x.1 = nr + 1) ∧ (ks_R N P M nr x.2.1 x.2.2.1 x.2.2.2.1 x.2.2.2.2.1 x.2.2.2.2.2) ∧ (ks_X Bp Rp kp op zp x.2.1 x.2.2.1 x.2.2.2.1 x.2.2.2.2.1 x.2.2.2.2.2) ∧ (∀ a, ks_E op zp a → ks_M P M nr a → ks_E x.2.2.2.2.1 x.2.2.2.2.2 a) ∧ (kp < x.2.2.2.1 ∨ ∀ q, q < x.1 → ks_U (P q) (M q) x.2.2.2.2.1 x.2.2.2.2.2) ∧ va_P (dC, dI) ksCl [(ta, .inr (2, [.ref tb, .ref tr, .int (nI x.2.2.2.1), .int x.2.2.2.2.1, .int x.2.2.2.2.2])), (tb, .inl (cB, 16, .inl x.2.1)), (tr, .inl (cR, 16, .inl x.2.2.1)), (ra, .inr (0, [.ref rp, .ref rq, .int (nI g), .int (nI nr)])), (rp, .inl (cP, 664, .inl P)), (rq, .inl (cM, 664, .inl M))] H ∧ va_D A [(ta, .inr (2, [.ref tb, .ref tr, .int (nI x.2.2.2.1), .int x.2.2.2.2.1, .int x.2.2.2.2.2])), (tb, .inl (cB, 16, .inl x.2.1)), (tr, .inl (cR, 16, .inl x.2.2.1)), (ra, .inr (0, [.ref rp, .ref rq, .int (nI g), .int (nI nr)])), (rp, .inl (cP, 664, .inl P)), (rq, .inl (cM, 664, .inl M))] ∧ va_S A s.heap H locs ∧ lv_has ls 7 [(0, .ref ta), (1, .ref ra), (2, .int (nI ps)), (3, .int (nI kp)), (4, .int (nI x.1))]) 16 ?_ ?_ (nr + 1) (0, Bp, Rp, kp, op, zp) _ _ ls ⟨Nat.zero_le _, rfl, w3, ks_X.rf, fun _ h _ => h, Or.inr (fun q hq => absurd hq (by omega)), hP, hD, hS, lv_sub hl [2, 3, 4, 1, 0] rfl⟩
    · -- loop at 16
      intro n2 x H locs ls h9 ih2
      obtain ⟨cq, B, Rs, k, o, z⟩ := x
      obtain ⟨i1, i2, i3, i4, i5, i6, hP, hD, hS, hl⟩ := h9
      have i1 : cq ≤ nr := i1
      have i2 : (n2 + 1) + cq = nr + 1 := i2
      have i3 : ks_R N P M nr B Rs k o z := i3
      have i4 : ks_X Bp Rp kp op zp B Rs k o z := i4
      have i5 : ∀ a, ks_E op zp a → ks_M P M nr a → ks_E o z a := i5
      have i6 : kp < k ∨ ∀ q, q < cq → ks_U (P q) (M q) o z := i6
      have hP : va_P (dC, dI) ksCl [(ta, .inr (2, [.ref tb, .ref tr, .int (nI k), .int o, .int z])), (tb, .inl (cB, 16, .inl B)), (tr, .inl (cR, 16, .inl Rs)), (ra, .inr (0, [.ref rp, .ref rq, .int (nI g), .int (nI nr)])), (rp, .inl (cP, 664, .inl P)), (rq, .inl (cM, 664, .inl M))] H := hP
      have hD : va_D A [(ta, .inr (2, [.ref tb, .ref tr, .int (nI k), .int o, .int z])), (tb, .inl (cB, 16, .inl B)), (tr, .inl (cR, 16, .inl Rs)), (ra, .inr (0, [.ref rp, .ref rq, .int (nI g), .int (nI nr)])), (rp, .inl (cP, 664, .inl P)), (rq, .inl (cM, 664, .inl M))] := hD
      have hl : lv_has ls 7 [(0, .ref ta), (1, .ref ra), (2, .int (nI ps)), (3, .int (nI kp)), (4, .int (nI cq))] := hl
      refine lv_iload hx hb dX2_propagate_16 (lv_at hl 4 rfl) ?_
      refine lv_aload_n hx hb dX2_propagate_18 rfl (lv_at hl 1 rfl) ?_
      refine va_getN (D := (dC, dI)) (ci := 0) (v := .int (nI nr)) (C := RX0) (T := TX0) (N := 4) hx hb hts hiX0 hown hK hP 3 rfl rfl 3 (by decide) f41 (fun _ h9 => h9) rfl dX2_propagate_19 ?_
      refine lv_icmp_ge (tgt := 139) hx hb dX2_propagate_22 (by decide) (fun c22 => ?_) (fun c22 => ?_)
      · -- 22: jumps
        have hc : nr ≤ cq := by
          rcases Nat.lt_or_ge cq nr with q | q
          · exact absurd c22 (nI_ge q (by omega))
          · exact q
        have ec : cq = nr := by omega
        rw [ec] at i6
        refine lv_aload_n hx hb dX2_propagate_139 rfl (lv_at hl 0 rfl) ?_
        refine va_get (D := (dC, dI)) (ci := 2) (v := .int (nI k)) (C := RX2) (T := TX2) (N := 5) hx hb hts hiX2 hown hK hP 0 rfl rfl 2 (by decide) f18 (fun _ h9 => h9) rfl dX2_propagate_140 ?_
        refine lv_iload_n hx hb dX2_propagate_143 rfl (lv_at hl 3 rfl) ?_
        refine lv_icmp_ne (tgt := 150) hx hb dX2_propagate_144 (by decide) (fun c144 => ?_) (fun c144 => ?_)
        · -- 144: jumps
          have hne : k ≠ kp := fun e => c144 (by rw [e])
          have hge : kp ≤ k := i4.1
          have hps : ps + 1 ≤ k := by omega
          have hps2 : ps + 1 ≤ 17 := by have := w3.le; omega
          refine lv_iinc (v := nI (ps + 1)) (lv' := [(2, .int (nI (ps + 1))), (0, .ref ta), (1, .ref ra), (3, .int (nI kp)), (4, .int (nI cq))]) hx hb dX2_propagate_150 hl (k := 2) rfl (nI_1 _) (by decide) rfl (fun ls hl => ?_)
          refine lv_goto (tgt := 2) hx hb dX2_propagate_153 (by decide) ?_
          exact ih1 (ps + 1, B, Rs, k, o, z) _ _ _ ⟨hps, by omega, i3, w4.tr i4, fun a h1 h2 => i5 a (w5 a h1 h2) h2, hps2, hP, hD, hS, lv_sub hl [1, 2, 0] rfl⟩
        · -- 144: goes on
          have hke : k = kp := (nI_eq (by have := i3.le; omega) (by have := w3.le; omega)).mp c144
          have hU : ∀ q, q < nr → ks_U (P q) (M q) o z := by
            rcases i6 with y | y
            · omega
            · exact y
          refine lv_goto (tgt := 156) hx hb dX2_propagate_147 (by decide) ?_
          refine lv_iconst (v := -1) hx hb dX2_propagate_156 (by decide) ?_
          have hP9 : va_P (dC, dI) ksCl [(ta, .inr (2, [.ref tb, .ref tr, .int (nI k), .int o, .int z])), (tb, .inl (cB, 16, .inl B)), (tr, .inl (cR, 16, .inl Rs)), (ra, .inr (0, [.ref rp, .ref rq, .int (nI g), .int (nI nr)])), (rp, .inl (cP, 664, .inl P)), (rq, .inl (cM, 664, .inl M))] _ := hP
          have hD9 : va_D A [(ta, .inr (2, [.ref tb, .ref tr, .int (nI k), .int o, .int z])), (tb, .inl (cB, 16, .inl B)), (tr, .inl (cR, 16, .inl Rs)), (ra, .inr (0, [.ref rp, .ref rq, .int (nI g), .int (nI nr)])), (rp, .inl (cP, 664, .inl P)), (rq, .inl (cM, 664, .inl M))] := hD
          have hK9 : va_K (dC, dI) ksCl [(cB, .int), (cR, .int), (cP, .int), (cM, .int)] s := hK
          exact W.iret (v := -1) hx hb hr (fun t ht hW9 => ⟨⟨-1, (B, Rs, k, o, z), rfl, ⟨i3, w4.tr i4, fun a h1 h2 => i5 a (w5 a h1 h2) h2, Or.inl ⟨rfl, hU⟩⟩, by rw [ht]; exact hP9, va_K.moved hW9.alike hK9, hD9⟩, hS.F ht⟩) hS.2.2 dX2_propagate_157
      · -- 22: goes on
        have hc : cq < nr := by
          rcases Nat.lt_or_ge cq nr with q | q
          · exact q
          · exact absurd (nI_le q (by omega)) c22
        have hok := hW.2.2.1 cq hc
        refine lv_aload_n hx hb dX2_propagate_25 rfl (lv_at hl 1 rfl) ?_
        refine va_getN (D := (dC, dI)) (ci := 0) (v := .ref rp) (C := RX0) (T := TX0) (N := 4) hx hb hts hiX0 hown hK hP 3 rfl rfl 0 (by decide) f46 (fun _ h9 => h9) rfl dX2_propagate_26 ?_
        refine lv_iload hx hb dX2_propagate_29 (lv_at hl 4 rfl) ?_
        refine ks_ald hx hb hK hP 4 2 rfl rfl (j := cq) (by omega) (by decide) dX2_propagate_31 ?_
        refine lv_aload_n hx hb dX2_propagate_32 rfl (lv_at hl 0 rfl) ?_
        refine va_get (D := (dC, dI)) (ci := 2) (v := .int o) (C := RX2) (T := TX2) (N := 5) hx hb hts hiX2 hown hK hP 0 rfl rfl 3 (by decide) f22 (fun _ h9 => h9) rfl dX2_propagate_33 ?_
        refine lv_iand hx hb dX2_propagate_36 ?_
        refine lv_aload_n hx hb dX2_propagate_37 rfl (lv_at hl 1 rfl) ?_
        refine va_getN (D := (dC, dI)) (ci := 0) (v := .ref rq) (C := RX0) (T := TX0) (N := 4) hx hb hts hiX0 hown hK hP 3 rfl rfl 1 (by decide) f49 (fun _ h9 => h9) rfl dX2_propagate_38 ?_
        refine lv_iload hx hb dX2_propagate_41 (lv_at hl 4 rfl) ?_
        refine ks_ald hx hb hK hP 5 3 rfl rfl (j := cq) (by omega) (by decide) dX2_propagate_43 ?_
        refine lv_aload_n hx hb dX2_propagate_44 rfl (lv_at hl 0 rfl) ?_
        refine va_get (D := (dC, dI)) (ci := 2) (v := .int z) (C := RX2) (T := TX2) (N := 5) hx hb hts hiX2 hown hK hP 0 rfl rfl 4 (by decide) f25 (fun _ h9 => h9) rfl dX2_propagate_45 ?_
        refine lv_iand hx hb dX2_propagate_48 ?_
        refine lv_ior hx hb dX2_propagate_49 ?_
        refine lv_if_eq (tgt := 56) hx hb dX2_propagate_50 (by decide) (fun c50 => ?_) (fun c50 => ?_)
        · -- 50: jumps
          have hns := ks_S_z.mp c50
          refine lv_aload_n hx hb dX2_propagate_56 rfl (lv_at hl 1 rfl) ?_
          refine va_getN (D := (dC, dI)) (ci := 0) (v := .ref rp) (C := RX0) (T := TX0) (N := 4) hx hb hts hiX0 hown hK hP 3 rfl rfl 0 (by decide) f46 (fun _ h9 => h9) rfl dX2_propagate_57 ?_
          refine lv_iload hx hb dX2_propagate_60 (lv_at hl 4 rfl) ?_
          refine ks_ald hx hb hK hP 4 2 rfl rfl (j := cq) (by omega) (by decide) dX2_propagate_62 ?_
          refine lv_aload_n hx hb dX2_propagate_63 rfl (lv_at hl 1 rfl) ?_
          refine va_getN (D := (dC, dI)) (ci := 0) (v := .ref rq) (C := RX0) (T := TX0) (N := 4) hx hb hts hiX0 hown hK hP 3 rfl rfl 1 (by decide) f49 (fun _ h9 => h9) rfl dX2_propagate_64 ?_
          refine lv_iload hx hb dX2_propagate_67 (lv_at hl 4 rfl) ?_
          refine ks_ald hx hb hK hP 5 3 rfl rfl (j := cq) (by omega) (by decide) dX2_propagate_69 ?_
          refine lv_ior hx hb dX2_propagate_70 ?_
          refine lv_istore (lv' := [(5, .int ((P cq) ||| (M cq))), (0, .ref ta), (1, .ref ra), (2, .int (nI ps)), (3, .int (nI kp)), (4, .int (nI cq))]) hx hb dX2_propagate_71 hl (by decide) rfl (fun ls hl => ?_)
          refine lv_iload hx hb dX2_propagate_73 (lv_at hl 0 rfl) ?_
          refine lv_aload_n hx hb dX2_propagate_75 rfl (lv_at hl 1 rfl) ?_
          refine va_get (D := (dC, dI)) (ci := 2) (v := .int o) (C := RX2) (T := TX2) (N := 5) hx hb hts hiX2 hown hK hP 0 rfl rfl 3 (by decide) f22 (fun _ h9 => h9) rfl dX2_propagate_76 ?_
          refine lv_aload_n hx hb dX2_propagate_79 rfl (lv_at hl 1 rfl) ?_
          refine va_get (D := (dC, dI)) (ci := 2) (v := .int z) (C := RX2) (T := TX2) (N := 5) hx hb hts hiX2 hown hK hP 0 rfl rfl 4 (by decide) f25 (fun _ h9 => h9) rfl dX2_propagate_80 ?_
          refine lv_ior hx hb dX2_propagate_83 ?_
          refine lv_iconst (v := -1) hx hb dX2_propagate_84 (by decide) ?_
          refine lv_ixor hx hb dX2_propagate_85 ?_
          refine lv_iand hx hb dX2_propagate_86 ?_
          refine lv_topi (fun v87 ev87 => ?_)
          refine lv_istore (lv' := [(6, .int v87), (5, .int ((P cq) ||| (M cq))), (0, .ref ta), (1, .ref ra), (2, .int (nI ps)), (3, .int (nI kp)), (4, .int (nI cq))]) hx hb dX2_propagate_87 hl (by decide) rfl (fun ls hl => ?_)
          refine lv_iload hx hb dX2_propagate_89 (lv_at hl 0 rfl) ?_
          refine lv_if_ne (tgt := 97) hx hb dX2_propagate_91 (by decide) (fun c91 => ?_) (fun c91 => ?_)
          · -- 91: jumps
            refine lv_iload hx hb dX2_propagate_97 (lv_at hl 0 rfl) ?_
            refine lv_iload hx hb dX2_propagate_99 (lv_at hl 0 rfl) ?_
            refine lv_iconst (v := 1) hx hb dX2_propagate_101 (by decide) ?_
            refine lv_isub hx hb dX2_propagate_102 ?_
            refine lv_iand hx hb dX2_propagate_103 ?_
            refine lv_if_ne (tgt := 133) hx hb dX2_propagate_104 (by decide) (fun c104 => ?_) (fun c104 => ?_)
            · -- 104: jumps
              have j3 := i3
              have j4 := i4
              have j5 := i5
              have hU : ks_U (P cq) (M cq) o z := by rw [ev87] at c91 c104; exact ks_fine c91 c104
              have j6 : kp < k ∨ ∀ q, q < cq + 1 → ks_U (P q) (M q) o z := by
                rcases i6 with y | y
                · exact Or.inl y
                · refine Or.inr (fun q hq => ?_)
                  by_cases e : q = cq
                  · rw [e]; exact hU
                  · exact y q (by omega)
              refine lv_iinc (v := nI (cq + 1)) (lv' := [(4, .int (nI (cq + 1))), (6, .int v87), (5, .int ((P cq) ||| (M cq))), (0, .ref ta), (1, .ref ra), (2, .int (nI ps)), (3, .int (nI kp))]) hx hb dX2_propagate_133 hl (k := 6) rfl (nI_1 _) (by decide) rfl (fun ls hl => ?_)
              refine lv_goto (tgt := 16) hx hb dX2_propagate_136 (by decide) ?_
              exact ih2 (cq + 1, B, Rs, k, o, z) _ _ _ ⟨hc, by omega, j3, j4, j5, j6, hP, hD, hS, lv_sub hl [3, 4, 5, 6, 0] rfl⟩
            · -- 104: goes on
              have hsg : v87 &&& (v87 - 1) = 0 := c104
              refine lv_aload_n hx hb dX2_propagate_107 rfl (lv_at hl 2 rfl) ?_
              refine lv_iload hx hb dX2_propagate_108 (lv_at hl 0 rfl) ?_
              refine lv_aload_n hx hb dX2_propagate_110 rfl (lv_at hl 3 rfl) ?_
              refine va_getN (D := (dC, dI)) (ci := 0) (v := .ref rp) (C := RX0) (T := TX0) (N := 4) hx hb hts hiX0 hown hK hP 3 rfl rfl 0 (by decide) f46 (fun _ h9 => h9) rfl dX2_propagate_111 ?_
              refine lv_iload hx hb dX2_propagate_114 (lv_at hl 6 rfl) ?_
              refine ks_ald hx hb hK hP 4 2 rfl rfl (j := cq) (by omega) (by decide) dX2_propagate_116 ?_
              refine lv_iload hx hb dX2_propagate_117 (lv_at hl 0 rfl) ?_
              refine lv_iand hx hb dX2_propagate_119 ?_
              refine lv_if_eq (tgt := 127) hx hb dX2_propagate_120 (by decide) (fun c120 => ?_) (fun c120 => ?_)
              · -- 120: jumps
                have hu := i3.unit hN hc hok.1 hok.2 hns ev87 c91 hsg false (⟨fun q => absurd q (by decide), fun q => absurd c120 q⟩)
                have hk1 := hu.1
                have j3 := hu.2.1
                have j4 := i4.tr (ks_X.assign v87 (P cq ||| M cq) false)
                have j5 := fun a h1 h2 => hu.2.2 a (i5 a h1 h2) (h2 cq hc)
                have j6 : kp < k + 1 ∨ ∀ q, q < cq + 1 → ks_U (P q) (M q) (if false = true then o ||| v87 else o) (if false = true then z else z ||| v87) := Or.inl (by have := i4.1; omega)
                refine lv_iconst (v := 0) hx hb dX2_propagate_127 (by decide) ?_
                refine lv_iload hx hb dX2_propagate_128 (lv_at hl 1 rfl) ?_
                refine ks_callvV (As := [.int v87, .int 0, .int ((P cq) ||| (M cq))]) (rest := []) (wr := [(ra, .inr (0, [.ref rp, .ref rq, .int (nI g), .int (nI nr)])), (rp, .inl (cP, 664, .inl P)), (rq, .inl (cM, 664, .inl M))]) (wz := fun _ => [(ta, .inr (2, [.ref tb, .ref tr, .int (nI (k + 1)), .int (if false = true then o ||| v87 else o), .int (if false = true then z else z ||| v87)])), (tb, .inl (cB, 16, .inl (upd B k v87))), (tr, .inl (cR, 16, .inl (upd Rs k (P cq ||| M cq)))), (ra, .inr (0, [.ref rp, .ref rq, .int (nI g), .int (nI nr)])), (rp, .inl (cP, 664, .inl P)), (rq, .inl (cM, 664, .inl M))]) ⟨hx, hb, hml, hown, hts⟩ (ks_assign l dC dI ta tb tr cB cR B Rs k o z v87 (P cq ||| M cq) false (by omega)) (cwV 3 hts gX2_propagate_X2_assign rfl rfl rfl (by decide +kernel) ⟨Nat.le_of_ble_eq_true rfl, Nat.le_of_ble_eq_true rfl⟩) hK hP hD hS hA hNW [0, 1, 2] [3, 4, 5] [0, 1] [3, 4, 5, 0, 1, 2] rfl rfl rfl rfl (by decide) (by decide) (by decide) (ci := 2) (q0 := 0) rfl rfl rfl (fun _ => rfl) (fun _ => rfl) (by decide) rfl hl.1 rfl (Nat.le_of_ble_eq_true rfl) dX2_propagate_130 ⟨Nat.le_of_ble_eq_true rfl, Nat.le_of_ble_eq_true rfl⟩ (fun u9 H locs hw9 hK9 hP hD hS => ?_)
                have hP : va_P (dC, dI) ksCl [(ta, .inr (2, [.ref tb, .ref tr, .int (nI (k + 1)), .int (if false = true then o ||| v87 else o), .int (if false = true then z else z ||| v87)])), (tb, .inl (cB, 16, .inl (upd B k v87))), (tr, .inl (cR, 16, .inl (upd Rs k (P cq ||| M cq)))), (ra, .inr (0, [.ref rp, .ref rq, .int (nI g), .int (nI nr)])), (rp, .inl (cP, 664, .inl P)), (rq, .inl (cM, 664, .inl M))] H := hP
                have hD : va_D A [(ta, .inr (2, [.ref tb, .ref tr, .int (nI (k + 1)), .int (if false = true then o ||| v87 else o), .int (if false = true then z else z ||| v87)])), (tb, .inl (cB, 16, .inl (upd B k v87))), (tr, .inl (cR, 16, .inl (upd Rs k (P cq ||| M cq)))), (ra, .inr (0, [.ref rp, .ref rq, .int (nI g), .int (nI nr)])), (rp, .inl (cP, 664, .inl P)), (rq, .inl (cM, 664, .inl M))] := hD
                refine lv_iinc (v := nI (cq + 1)) (lv' := [(4, .int (nI (cq + 1))), (6, .int v87), (5, .int ((P cq) ||| (M cq))), (0, .ref ta), (1, .ref ra), (2, .int (nI ps)), (3, .int (nI kp))]) hx hb dX2_propagate_133 hl (k := 6) rfl (nI_1 _) (by decide) rfl (fun ls hl => ?_)
                refine lv_goto (tgt := 16) hx hb dX2_propagate_136 (by decide) ?_
                exact ih2 (cq + 1, upd B k v87, upd Rs k (P cq ||| M cq), k + 1, (if false = true then o ||| v87 else o), (if false = true then z else z ||| v87)) _ _ _ ⟨hc, by omega, j3, j4, j5, j6, hP, hD, hS, lv_sub hl [3, 4, 5, 6, 0] rfl⟩
              · -- 120: goes on
                have hu := i3.unit hN hc hok.1 hok.2 hns ev87 c91 hsg true (⟨fun _ => c120, fun _ => rfl⟩)
                have hk1 := hu.1
                have j3 := hu.2.1
                have j4 := i4.tr (ks_X.assign v87 (P cq ||| M cq) true)
                have j5 := fun a h1 h2 => hu.2.2 a (i5 a h1 h2) (h2 cq hc)
                have j6 : kp < k + 1 ∨ ∀ q, q < cq + 1 → ks_U (P q) (M q) (if true = true then o ||| v87 else o) (if true = true then z else z ||| v87) := Or.inl (by have := i4.1; omega)
                refine lv_iconst (v := 1) hx hb dX2_propagate_123 (by decide) ?_
                refine lv_goto (tgt := 128) hx hb dX2_propagate_124 (by decide) ?_
                refine lv_iload hx hb dX2_propagate_128 (lv_at hl 1 rfl) ?_
                refine ks_callvV (As := [.int v87, .int 1, .int ((P cq) ||| (M cq))]) (rest := []) (wr := [(ra, .inr (0, [.ref rp, .ref rq, .int (nI g), .int (nI nr)])), (rp, .inl (cP, 664, .inl P)), (rq, .inl (cM, 664, .inl M))]) (wz := fun _ => [(ta, .inr (2, [.ref tb, .ref tr, .int (nI (k + 1)), .int (if true = true then o ||| v87 else o), .int (if true = true then z else z ||| v87)])), (tb, .inl (cB, 16, .inl (upd B k v87))), (tr, .inl (cR, 16, .inl (upd Rs k (P cq ||| M cq)))), (ra, .inr (0, [.ref rp, .ref rq, .int (nI g), .int (nI nr)])), (rp, .inl (cP, 664, .inl P)), (rq, .inl (cM, 664, .inl M))]) ⟨hx, hb, hml, hown, hts⟩ (ks_assign l dC dI ta tb tr cB cR B Rs k o z v87 (P cq ||| M cq) true (by omega)) (cwV 3 hts gX2_propagate_X2_assign rfl rfl rfl (by decide +kernel) ⟨Nat.le_of_ble_eq_true rfl, Nat.le_of_ble_eq_true rfl⟩) hK hP hD hS hA hNW [0, 1, 2] [3, 4, 5] [0, 1] [3, 4, 5, 0, 1, 2] rfl rfl rfl rfl (by decide) (by decide) (by decide) (ci := 2) (q0 := 0) rfl rfl rfl (fun _ => rfl) (fun _ => rfl) (by decide) rfl hl.1 rfl (Nat.le_of_ble_eq_true rfl) dX2_propagate_130 ⟨Nat.le_of_ble_eq_true rfl, Nat.le_of_ble_eq_true rfl⟩ (fun u9 H locs hw9 hK9 hP hD hS => ?_)
                have hP : va_P (dC, dI) ksCl [(ta, .inr (2, [.ref tb, .ref tr, .int (nI (k + 1)), .int (if true = true then o ||| v87 else o), .int (if true = true then z else z ||| v87)])), (tb, .inl (cB, 16, .inl (upd B k v87))), (tr, .inl (cR, 16, .inl (upd Rs k (P cq ||| M cq)))), (ra, .inr (0, [.ref rp, .ref rq, .int (nI g), .int (nI nr)])), (rp, .inl (cP, 664, .inl P)), (rq, .inl (cM, 664, .inl M))] H := hP
                have hD : va_D A [(ta, .inr (2, [.ref tb, .ref tr, .int (nI (k + 1)), .int (if true = true then o ||| v87 else o), .int (if true = true then z else z ||| v87)])), (tb, .inl (cB, 16, .inl (upd B k v87))), (tr, .inl (cR, 16, .inl (upd Rs k (P cq ||| M cq)))), (ra, .inr (0, [.ref rp, .ref rq, .int (nI g), .int (nI nr)])), (rp, .inl (cP, 664, .inl P)), (rq, .inl (cM, 664, .inl M))] := hD
                refine lv_iinc (v := nI (cq + 1)) (lv' := [(4, .int (nI (cq + 1))), (6, .int v87), (5, .int ((P cq) ||| (M cq))), (0, .ref ta), (1, .ref ra), (2, .int (nI ps)), (3, .int (nI kp))]) hx hb dX2_propagate_133 hl (k := 6) rfl (nI_1 _) (by decide) rfl (fun ls hl => ?_)
                refine lv_goto (tgt := 16) hx hb dX2_propagate_136 (by decide) ?_
                exact ih2 (cq + 1, upd B k v87, upd Rs k (P cq ||| M cq), k + 1, (if true = true then o ||| v87 else o), (if true = true then z else z ||| v87)) _ _ _ ⟨hc, by omega, j3, j4, j5, j6, hP, hD, hS, lv_sub hl [3, 4, 5, 6, 0] rfl⟩
          · -- 91: goes on
            have e0 : v87 = 0 := c91
            rw [ev87] at e0
            have hF := ks_false hns e0
            refine lv_iload hx hb dX2_propagate_94 (lv_at hl 1 rfl) ?_
            have hP9 : va_P (dC, dI) ksCl [(ta, .inr (2, [.ref tb, .ref tr, .int (nI k), .int o, .int z])), (tb, .inl (cB, 16, .inl B)), (tr, .inl (cR, 16, .inl Rs)), (ra, .inr (0, [.ref rp, .ref rq, .int (nI g), .int (nI nr)])), (rp, .inl (cP, 664, .inl P)), (rq, .inl (cM, 664, .inl M))] _ := hP
            have hD9 : va_D A [(ta, .inr (2, [.ref tb, .ref tr, .int (nI k), .int o, .int z])), (tb, .inl (cB, 16, .inl B)), (tr, .inl (cR, 16, .inl Rs)), (ra, .inr (0, [.ref rp, .ref rq, .int (nI g), .int (nI nr)])), (rp, .inl (cP, 664, .inl P)), (rq, .inl (cM, 664, .inl M))] := hD
            have hK9 : va_K (dC, dI) ksCl [(cB, .int), (cR, .int), (cP, .int), (cM, .int)] s := hK
            exact W.iret (v := (P cq) ||| (M cq)) hx hb hr (fun t ht hW9 => ⟨⟨(P cq) ||| (M cq), (B, Rs, k, o, z), rfl, ⟨i3, w4.tr i4, fun a h1 h2 => i5 a (w5 a h1 h2) h2, Or.inr ⟨ks_mem_ne hN hok, cq, hc, rfl, hF⟩⟩, by rw [ht]; exact hP9, va_K.moved hW9.alike hK9, hD9⟩, hS.F ht⟩) hS.2.2 dX2_propagate_96
        · -- 50: goes on
          have j3 := i3
          have j4 := i4
          have j5 := i5
          have hU : ks_U (P cq) (M cq) o z := Or.inl (Classical.byContradiction (fun q => c50 (ks_S_z.mpr q)))
          have j6 : kp < k ∨ ∀ q, q < cq + 1 → ks_U (P q) (M q) o z := by
            rcases i6 with y | y
            · exact Or.inl y
            · refine Or.inr (fun q hq => ?_)
              by_cases e : q = cq
              · rw [e]; exact hU
              · exact y q (by omega)
          refine lv_goto (tgt := 133) hx hb dX2_propagate_53 (by decide) ?_
          refine lv_iinc (v := nI (cq + 1)) (lv' := [(4, .int (nI (cq + 1))), (0, .ref ta), (1, .ref ra), (2, .int (nI ps)), (3, .int (nI kp))]) hx hb dX2_propagate_133 hl (k := 4) rfl (nI_1 _) (by decide) rfl (fun ls hl => ?_)
          refine lv_goto (tgt := 16) hx hb dX2_propagate_136 (by decide) ?_
          exact ih2 (cq + 1, B, Rs, k, o, z) _ _ _ ⟨hc, by omega, j3, j4, j5, j6, hP, hD, hS, lv_sub hl [1, 2, 3, 4, 0] rfl⟩
    · intro x H locs ls h9
      obtain ⟨i1, i2, i3, i4, i5, i6, -, -, -, -⟩ := h9
      try dsimp only at i1 i2
      omega
  · intro x H locs ls h9
    obtain ⟨w1, w2, w3, w4, w5, w6, -, -, -, -⟩ := h9
    try dsimp only at w1 w2
    omega
