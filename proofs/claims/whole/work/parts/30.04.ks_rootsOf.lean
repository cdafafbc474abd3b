set_option maxHeartbeats 4000000 in
set_option maxRecDepth 100000 in
/-- rootsOf -/
theorem ks_rootsOf (l : Launch) (dC : Nat → ClassId) (dI : Nat → Nat → Nat) (ta tb tr : Nat) (cB cR : ClassId) (B Rs : Nat → Int32) (k : Nat) (o z cf : Int32) (N : Nat) (P M : Nat → Int32) (nr : Nat) (hN : N ≤ 16) (hR : ks_R N P M nr B Rs k o z) : ks_Mi l yX2_rootsOf wsX2_rootsOf ({ frames := 0, cells := 0, slots := 0, locals := 0 }) (dC, dI) [.ref ta, .int cf] [(ta, .inr (2, [.ref tb, .ref tr, .int (nI k), .int o, .int z])), (tb, .inl (cB, 16, .inl B)), (tr, .inl (cR, 16, .inl Rs))] [(cB, .int), (cR, .int)] 0 0 (S := Unit) (fun r _ => ∃ V, ks_C B Rs k 0 cf V r) (fun _ => [(ta, .inr (2, [.ref tb, .ref tr, .int (nI k), .int o, .int z])), (tb, .inl (cB, 16, .inl B)), (tr, .inl (cR, 16, .inl Rs))]) (fun _ => [(cB, .int), (cR, .int)]) := by
  intro sz
  refine Met.ofW (cc := cX2_rootsOf) (maxL := 5) (ret := (some .int)) (by decide) rfl ?_
  intro p e s m args below meth c s₁ B9 hml hv
  obtain ⟨rfl, hsz, hP, hK, hD0, hNW⟩ := hv
  have hx := B9.exec
  have hb := B9.bytes
  have hr := B9.returns
  have hts := atoms_spec (ws := wsX2_rootsOf) B9.pre
  have hown : s.vm.findClass RX2 = some m.cls := findClass_of_methodNamed B9.named
  have hlocks := B9.notSynchronized
  subst hsz
  have hD := hD0.self (sz := s.heap.size)
  generalize hAe : va_A [(ta, .inr (2, [.ref tb, .ref tr, .int (nI k), .int o, .int z])), (tb, .inl (cB, 16, .inl B)), (tr, .inl (cR, 16, .inl Rs))] s.heap.size = A at hD ⊢
  have hA : ∀ q : Nat, s.heap.size ≤ q → A q := fun q h => by rw [← hAe]; exact Or.inr h
  have hS : va_S A s.heap s.heap [] := va_S.rf
  have hiX2 : ∀ w ∈ u_ws RX2 TX2 5, w ∈ wsX2_rootsOf := by decide +kernel
  have f9 := hts (.fieldLink RX2 9 "LessonSolver$Trail" "bits" "[I") (by decide +kernel)
  have f15 := hts (.fieldLink RX2 15 "LessonSolver$Trail" "reasons" "[I") (by decide +kernel)
  have f18 := hts (.fieldLink RX2 18 "LessonSolver$Trail" "length" "I") (by decide +kernel)
  have hl := lv_entry ([.ref ta, .int cf]) (n := 5) (Nat.le_of_ble_eq_true rfl)
  rw [lg_entry_eq]
  generalize (lg_sl ([.ref ta, .int cf]) ++ List.replicate (5 - (lg_sl ([.ref ta, .int cf])).length) Slot.unset).toArray = ls at hl ⊢
  have hl : lv_has ls 5 [(0, .ref ta), (1, .int cf)] := hl
  have hkN := hR.le
  refine lv_iload_n hx hb dX2_rootsOf_0 rfl (lv_at hl 1 rfl) ?_
  refine lv_istore_n (lv' := [(2, .int cf), (0, .ref ta), (1, .int cf)]) hx hb dX2_rootsOf_1 rfl hl (by decide) rfl (fun ls hl => ?_)
  refine lv_iconst (v := 0) hx hb dX2_rootsOf_2 (by decide) ?_
  refine lv_istore_n (lv' := [(3, .int 0), (2, .int cf), (0, .ref ta), (1, .int cf)]) hx hb dX2_rootsOf_3 rfl hl (by decide) rfl (fun ls hl => ?_)
  refine lv_aload_n hx hb dX2_rootsOf_4 rfl (lv_at hl 2 rfl) ?_
  refine va_get (D := (dC, dI)) (ci := 2) (v := .int (nI k)) (C := RX2) (T := TX2) (N := 5) hx hb hts hiX2 hown hK hP 0 rfl rfl 2 (by decide) f18 (fun _ h9 => h9) rfl dX2_rootsOf_5 ?_
  refine lv_iconst (v := 1) hx hb dX2_rootsOf_8 (by decide) ?_
  refine lv_isub hx hb dX2_rootsOf_9 ?_
  refine lv_istore (lv' := [(4, .int ((nI k) - 1)), (3, .int 0), (2, .int cf), (0, .ref ta), (1, .int cf)]) hx hb dX2_rootsOf_10 hl (by decide) rfl (fun ls hl => ?_)
  refine ks_wl (σ := Nat × Int32 × Int32) (fun n x H locs ls => (x.1 ≤ k) ∧ (n = x.1 + 1) ∧ (ks_C B Rs k x.1 cf x.2.1 x.2.2) ∧ va_P (dC, dI) ksCl [(ta, .inr (2, [.ref tb, .ref tr, .int (nI k), .int o, .int z])), (tb, .inl (cB, 16, .inl B)), (tr, .inl (cR, 16, .inl Rs))] H ∧ va_D A [(ta, .inr (2, [.ref tb, .ref tr, .int (nI k), .int o, .int z])), (tb, .inl (cB, 16, .inl B)), (tr, .inl (cR, 16, .inl Rs))] ∧ va_S A s.heap H locs ∧ lv_has ls 5 [(0, .ref ta), (2, .int x.2.1), (3, .int x.2.2), (4, .int (nI x.1 - 1))]) 12 ?_ ?_ (k + 1) (k, cf, 0) _ _ ls ⟨Nat.le_refl k, rfl, ks_C.init B Rs k cf, hP, hD, hS, lv_sub hl [3, 2, 1, 0] rfl⟩
  · -- loop at 12
    intro n x H locs ls h9 ih
    obtain ⟨j, V, r⟩ := x
    obtain ⟨i1, i2, i3, hP, hD, hS, hl⟩ := h9
    have i1 : j ≤ k := i1
    have i2 : (n + 1) = j + 1 := i2
    have i3 : ks_C B Rs k j cf V r := i3
    have hP : va_P (dC, dI) ksCl [(ta, .inr (2, [.ref tb, .ref tr, .int (nI k), .int o, .int z])), (tb, .inl (cB, 16, .inl B)), (tr, .inl (cR, 16, .inl Rs))] H := hP
    have hD : va_D A [(ta, .inr (2, [.ref tb, .ref tr, .int (nI k), .int o, .int z])), (tb, .inl (cB, 16, .inl B)), (tr, .inl (cR, 16, .inl Rs))] := hD
    have hl : lv_has ls 5 [(0, .ref ta), (2, .int V), (3, .int r), (4, .int (nI j - 1))] := hl
    cases j with
    | zero =>
      have hl : lv_has ls 5 [(0, .ref ta), (2, .int V), (3, .int r), (4, .int (-1))] := hl
      refine lv_iload hx hb dX2_rootsOf_12 (lv_at hl 3 rfl) ?_
      refine lv_if_lt (tgt := 71) hx hb dX2_rootsOf_14 (by decide) (fun c14 => ?_) (fun c14 => absurd (by decide) c14)
      refine lv_iload_n hx hb dX2_rootsOf_71 rfl (lv_at hl 2 rfl) ?_
      have hP9 : va_P (dC, dI) ksCl [(ta, .inr (2, [.ref tb, .ref tr, .int (nI k), .int o, .int z])), (tb, .inl (cB, 16, .inl B)), (tr, .inl (cR, 16, .inl Rs))] _ := hP
      have hD9 : va_D A [(ta, .inr (2, [.ref tb, .ref tr, .int (nI k), .int o, .int z])), (tb, .inl (cB, 16, .inl B)), (tr, .inl (cR, 16, .inl Rs))] := hD
      have hK9 : va_K (dC, dI) ksCl [(cB, .int), (cR, .int)] s := hK
      exact W.iret (v := r) hx hb hr (fun t ht hW9 => ⟨⟨r, (), rfl, ⟨V, i3⟩, by rw [ht]; exact hP9, va_K.moved hW9.alike hK9, hD9⟩, hS.F ht⟩) hS.2.2 dX2_rootsOf_72
    | succ j =>
      rw [nI_pred] at hl
      have hl : lv_has ls 5 [(0, .ref ta), (2, .int V), (3, .int r), (4, .int (nI j))] := hl
      refine lv_iload hx hb dX2_rootsOf_12 (lv_at hl 3 rfl) ?_
      refine lv_if_lt (tgt := 71) hx hb dX2_rootsOf_14 (by decide) (fun c14 => absurd c14 (nI_pos (by omega))) (fun c14 => ?_)
      refine lv_iload_n hx hb dX2_rootsOf_17 rfl (lv_at hl 1 rfl) ?_
      refine lv_aload_n hx hb dX2_rootsOf_18 rfl (lv_at hl 0 rfl) ?_
      refine va_get (D := (dC, dI)) (ci := 2) (v := .ref tb) (C := RX2) (T := TX2) (N := 5) hx hb hts hiX2 hown hK hP 0 rfl rfl 0 (by decide) f9 (fun _ h9 => h9) rfl dX2_rootsOf_19 ?_
      refine lv_iload hx hb dX2_rootsOf_22 (lv_at hl 3 rfl) ?_
      refine ks_ald hx hb hK hP 1 0 rfl rfl (j := j) (by omega) (by decide) dX2_rootsOf_24 ?_
      refine lv_iand hx hb dX2_rootsOf_25 ?_
      refine lv_if_ne (tgt := 32) hx hb dX2_rootsOf_26 (by decide) (fun c26 => ?_) (fun c26 => ?_)
      · -- 26: jumps
        refine lv_aload_n hx hb dX2_rootsOf_32 rfl (lv_at hl 0 rfl) ?_
        refine va_get (D := (dC, dI)) (ci := 2) (v := .ref tr) (C := RX2) (T := TX2) (N := 5) hx hb hts hiX2 hown hK hP 0 rfl rfl 1 (by decide) f15 (fun _ h9 => h9) rfl dX2_rootsOf_33 ?_
        refine lv_iload hx hb dX2_rootsOf_36 (lv_at hl 3 rfl) ?_
        refine ks_ald hx hb hK hP 2 1 rfl rfl (j := j) (by omega) (by decide) dX2_rootsOf_38 ?_
        refine lv_if_ne (tgt := 55) hx hb dX2_rootsOf_39 (by decide) (fun c39 => ?_) (fun c39 => ?_)
        · -- 39: jumps
          have j3 := ks_C.more hR hN i3 (by omega) c39
          refine lv_iload_n hx hb dX2_rootsOf_55 rfl (lv_at hl 1 rfl) ?_
          refine lv_aload_n hx hb dX2_rootsOf_56 rfl (lv_at hl 0 rfl) ?_
          refine va_get (D := (dC, dI)) (ci := 2) (v := .ref tr) (C := RX2) (T := TX2) (N := 5) hx hb hts hiX2 hown hK hP 0 rfl rfl 1 (by decide) f15 (fun _ h9 => h9) rfl dX2_rootsOf_57 ?_
          refine lv_iload hx hb dX2_rootsOf_60 (lv_at hl 3 rfl) ?_
          refine ks_ald hx hb hK hP 2 1 rfl rfl (j := j) (by omega) (by decide) dX2_rootsOf_62 ?_
          refine lv_ior hx hb dX2_rootsOf_63 ?_
          refine lv_istore_n (lv' := [(2, .int (V ||| (Rs j))), (0, .ref ta), (3, .int r), (4, .int (nI j))]) hx hb dX2_rootsOf_64 rfl hl (by decide) rfl (fun ls hl => ?_)
          refine lv_iinc (v := nI j - 1) (lv' := [(4, .int (nI j - 1)), (2, .int (V ||| (Rs j))), (0, .ref ta), (3, .int r)]) hx hb dX2_rootsOf_65 hl (k := 3) rfl (by rw [Int32.sub_eq_add_neg]; rfl) (by decide) rfl (fun ls hl => ?_)
          refine lv_goto (tgt := 12) hx hb dX2_rootsOf_68 (by decide) ?_
          exact ih (j, V ||| (Rs j), r) _ _ _ ⟨by omega, by omega, j3, hP, hD, hS, lv_sub hl [2, 1, 3, 0] rfl⟩
        · -- 39: goes on
          have j3 := i3.root (by omega) c39
          refine lv_iload_n hx hb dX2_rootsOf_42 rfl (lv_at hl 2 rfl) ?_
          refine lv_aload_n hx hb dX2_rootsOf_43 rfl (lv_at hl 0 rfl) ?_
          refine va_get (D := (dC, dI)) (ci := 2) (v := .ref tb) (C := RX2) (T := TX2) (N := 5) hx hb hts hiX2 hown hK hP 0 rfl rfl 0 (by decide) f9 (fun _ h9 => h9) rfl dX2_rootsOf_44 ?_
          refine lv_iload hx hb dX2_rootsOf_47 (lv_at hl 3 rfl) ?_
          refine ks_ald hx hb hK hP 1 0 rfl rfl (j := j) (by omega) (by decide) dX2_rootsOf_49 ?_
          refine lv_ior hx hb dX2_rootsOf_50 ?_
          refine lv_istore_n (lv' := [(3, .int (r ||| (B j))), (0, .ref ta), (2, .int V), (4, .int (nI j))]) hx hb dX2_rootsOf_51 rfl hl (by decide) rfl (fun ls hl => ?_)
          refine lv_goto (tgt := 65) hx hb dX2_rootsOf_52 (by decide) ?_
          refine lv_iinc (v := nI j - 1) (lv' := [(4, .int (nI j - 1)), (3, .int (r ||| (B j))), (0, .ref ta), (2, .int V)]) hx hb dX2_rootsOf_65 hl (k := 3) rfl (by rw [Int32.sub_eq_add_neg]; rfl) (by decide) rfl (fun ls hl => ?_)
          refine lv_goto (tgt := 12) hx hb dX2_rootsOf_68 (by decide) ?_
          exact ih (j, V, r ||| (B j)) _ _ _ ⟨by omega, by omega, j3, hP, hD, hS, lv_sub hl [2, 3, 1, 0] rfl⟩
      · -- 26: goes on
        have j3 := i3.skip c26
        refine lv_goto (tgt := 65) hx hb dX2_rootsOf_29 (by decide) ?_
        refine lv_iinc (v := nI j - 1) (lv' := [(4, .int (nI j - 1)), (0, .ref ta), (2, .int V), (3, .int r)]) hx hb dX2_rootsOf_65 hl (k := 3) rfl (by rw [Int32.sub_eq_add_neg]; rfl) (by decide) rfl (fun ls hl => ?_)
        refine lv_goto (tgt := 12) hx hb dX2_rootsOf_68 (by decide) ?_
        exact ih (j, V, r) _ _ _ ⟨by omega, by omega, j3, hP, hD, hS, lv_sub hl [1, 2, 3, 0] rfl⟩
  · intro x H locs ls h9
    obtain ⟨i1, i2, i3, -, -, -, -⟩ := h9
    try dsimp only at i1 i2
    omega
