set_option maxHeartbeats 4000000 in
set_option maxRecDepth 100000 in
/-- firstFree -/
theorem ks_firstFree (l : Launch) (dC : Nat → ClassId) (dI : Nat → Nat → Nat) (ta tb tr : Nat) (cB cR : ClassId) (B Rs : Nat → Int32) (k o z : Int32) (N : Nat) (hN : N ≤ 16) : ks_Mi l yX2_firstFree wsX2_firstFree ({ frames := 0, cells := 0, slots := 0, locals := 0 }) (dC, dI) [.ref ta, .int (nI N)] [(ta, .inr (2, [.ref tb, .ref tr, .int k, .int o, .int z])), (tb, .inl (cB, 16, .inl B)), (tr, .inl (cR, 16, .inl Rs))] [(cB, .int), (cR, .int)] 0 0 (S := Unit) (fun r _ => ks_ff N o z r) (fun _ => [(ta, .inr (2, [.ref tb, .ref tr, .int k, .int o, .int z])), (tb, .inl (cB, 16, .inl B)), (tr, .inl (cR, 16, .inl Rs))]) (fun _ => [(cB, .int), (cR, .int)]) := by
  intro sz
  refine Met.ofW (cc := cX2_firstFree) (maxL := 4) (ret := (some .int)) (by decide) rfl ?_
  intro p e s m args below meth c s₁ B9 hml hv
  obtain ⟨rfl, hsz, hP, hK, hD0, hNW⟩ := hv
  have hx := B9.exec
  have hb := B9.bytes
  have hr := B9.returns
  have hts := atoms_spec (ws := wsX2_firstFree) B9.pre
  have hown : s.vm.findClass RX2 = some m.cls := findClass_of_methodNamed B9.named
  have hlocks := B9.notSynchronized
  subst hsz
  have hD := hD0.self (sz := s.heap.size)
  generalize hAe : va_A [(ta, .inr (2, [.ref tb, .ref tr, .int k, .int o, .int z])), (tb, .inl (cB, 16, .inl B)), (tr, .inl (cR, 16, .inl Rs))] s.heap.size = A at hD ⊢
  have hA : ∀ q : Nat, s.heap.size ≤ q → A q := fun q h => by rw [← hAe]; exact Or.inr h
  have hS : va_S A s.heap s.heap [] := va_S.rf
  have hiX2 : ∀ w ∈ u_ws RX2 TX2 5, w ∈ wsX2_firstFree := by decide +kernel
  have f22 := hts (.fieldLink RX2 22 "LessonSolver$Trail" "ones" "I") (by decide +kernel)
  have f25 := hts (.fieldLink RX2 25 "LessonSolver$Trail" "zeros" "I") (by decide +kernel)
  have hl := lv_entry ([.ref ta, .int (nI N)]) (n := 4) (Nat.le_of_ble_eq_true rfl)
  rw [lg_entry_eq]
  generalize (lg_sl ([.ref ta, .int (nI N)]) ++ List.replicate (4 - (lg_sl ([.ref ta, .int (nI N)])).length) Slot.unset).toArray = ls at hl ⊢
  have hl : lv_has ls 4 [(0, .ref ta), (1, .int (nI N))] := hl
  refine lv_iload_n hx hb dX2_firstFree_0 rfl (lv_at hl 1 rfl) ?_
  refine lv_iconst (v := 1) hx hb dX2_firstFree_1 (by decide) ?_
  refine lv_isub hx hb dX2_firstFree_2 ?_
  refine lv_istore_n (lv' := [(2, .int ((nI N) - 1)), (0, .ref ta), (1, .int (nI N))]) hx hb dX2_firstFree_3 rfl hl (by decide) rfl (fun ls hl => ?_)
  refine ks_wl (σ := Nat) (fun n x H locs ls => (x ≤ N) ∧ (n = x + 1) ∧ (∀ q, x ≤ q → q < N → ¬ ks_fr o z q) ∧ va_P (dC, dI) ksCl [(ta, .inr (2, [.ref tb, .ref tr, .int k, .int o, .int z])), (tb, .inl (cB, 16, .inl B)), (tr, .inl (cR, 16, .inl Rs))] H ∧ va_D A [(ta, .inr (2, [.ref tb, .ref tr, .int k, .int o, .int z])), (tb, .inl (cB, 16, .inl B)), (tr, .inl (cR, 16, .inl Rs))] ∧ va_S A s.heap H locs ∧ lv_has ls 4 [(0, .ref ta), (2, .int (nI x - 1))]) 4 ?_ ?_ (N + 1) N _ _ ls ⟨Nat.le_refl N, rfl, fun q h1 h2 => absurd h1 (by omega), hP, hD, hS, lv_sub hl [1, 0] rfl⟩
  · -- loop at 4
    intro n x H locs ls h9 ih
    obtain ⟨j, rfl⟩ : ∃ z, z = x := ⟨_, rfl⟩
    obtain ⟨i1, i2, i3, hP, hD, hS, hl⟩ := h9
    have i1 : j ≤ N := i1
    have i2 : (n + 1) = j + 1 := i2
    have i3 : ∀ q, j ≤ q → q < N → ¬ ks_fr o z q := i3
    have hP : va_P (dC, dI) ksCl [(ta, .inr (2, [.ref tb, .ref tr, .int k, .int o, .int z])), (tb, .inl (cB, 16, .inl B)), (tr, .inl (cR, 16, .inl Rs))] H := hP
    have hD : va_D A [(ta, .inr (2, [.ref tb, .ref tr, .int k, .int o, .int z])), (tb, .inl (cB, 16, .inl B)), (tr, .inl (cR, 16, .inl Rs))] := hD
    have hl : lv_has ls 4 [(0, .ref ta), (2, .int (nI j - 1))] := hl
    cases j with
    | zero =>
      have hl : lv_has ls 4 [(0, .ref ta), (2, .int (-1))] := hl
      refine lv_iload_n hx hb dX2_firstFree_4 rfl (lv_at hl 1 rfl) ?_
      refine lv_if_lt (tgt := 34) hx hb dX2_firstFree_5 (by decide) (fun c5 => ?_) (fun c5 => absurd (by decide) c5)
      refine lv_iconst (v := 0) hx hb dX2_firstFree_34 (by decide) ?_
      have hP9 : va_P (dC, dI) ksCl [(ta, .inr (2, [.ref tb, .ref tr, .int k, .int o, .int z])), (tb, .inl (cB, 16, .inl B)), (tr, .inl (cR, 16, .inl Rs))] _ := hP
      have hD9 : va_D A [(ta, .inr (2, [.ref tb, .ref tr, .int k, .int o, .int z])), (tb, .inl (cB, 16, .inl B)), (tr, .inl (cR, 16, .inl Rs))] := hD
      have hK9 : va_K (dC, dI) ksCl [(cB, .int), (cR, .int)] s := hK
      exact W.iret (v := 0) hx hb hr (fun t ht hW9 => ⟨⟨0, (), rfl, Or.inl ⟨rfl, fun q hq => i3 q (Nat.zero_le q) hq⟩, by rw [ht]; exact hP9, va_K.moved hW9.alike hK9, hD9⟩, hS.F ht⟩) hS.2.2 dX2_firstFree_35
    | succ j =>
      rw [nI_pred] at hl
      have hl : lv_has ls 4 [(0, .ref ta), (2, .int (nI j))] := hl
      refine lv_iload_n hx hb dX2_firstFree_4 rfl (lv_at hl 1 rfl) ?_
      refine lv_if_lt (tgt := 34) hx hb dX2_firstFree_5 (by decide) (fun c5 => absurd c5 (nI_pos (by omega))) (fun c5 => ?_)
      refine lv_iconst (v := 1) hx hb dX2_firstFree_8 (by decide) ?_
      refine lv_iload_n hx hb dX2_firstFree_9 rfl (lv_at hl 1 rfl) ?_
      refine lv_ishl hx hb dX2_firstFree_10 ?_
      refine ks_top (y := ks_on j) (rfl) ?_
      refine lv_istore_n (lv' := [(3, .int (ks_on j)), (0, .ref ta), (2, .int (nI j))]) hx hb dX2_firstFree_11 rfl hl (by decide) rfl (fun ls hl => ?_)
      refine lv_aload_n hx hb dX2_firstFree_12 rfl (lv_at hl 1 rfl) ?_
      refine va_get (D := (dC, dI)) (ci := 2) (v := .int o) (C := RX2) (T := TX2) (N := 5) hx hb hts hiX2 hown hK hP 0 rfl rfl 3 (by decide) f22 (fun _ h9 => h9) rfl dX2_firstFree_13 ?_
      refine lv_aload_n hx hb dX2_firstFree_16 rfl (lv_at hl 1 rfl) ?_
      refine va_get (D := (dC, dI)) (ci := 2) (v := .int z) (C := RX2) (T := TX2) (N := 5) hx hb hts hiX2 hown hK hP 0 rfl rfl 4 (by decide) f25 (fun _ h9 => h9) rfl dX2_firstFree_17 ?_
      refine lv_ior hx hb dX2_firstFree_20 ?_
      refine lv_iload_n hx hb dX2_firstFree_21 rfl (lv_at hl 0 rfl) ?_
      refine lv_iand hx hb dX2_firstFree_22 ?_
      refine lv_if_ne (tgt := 28) hx hb dX2_firstFree_23 (by decide) (fun c23 => ?_) (fun c23 => ?_)
      · -- 23: jumps
        have b1 := (ks_tst1 (by omega)).mp c23
        have j3 : ∀ q, j ≤ q → q < N → ¬ ks_fr o z q := by
          intro q h1 h2
          by_cases e : q = j
          · subst e
            intro hf
            rw [b_or, hf.1, hf.2] at b1
            cases b1
          · exact i3 q (by omega) h2
        refine lv_iinc (v := nI j - 1) (lv' := [(2, .int (nI j - 1)), (3, .int (ks_on j)), (0, .ref ta)]) hx hb dX2_firstFree_28 hl (k := 2) rfl (by rw [Int32.sub_eq_add_neg]; rfl) (by decide) rfl (fun ls hl => ?_)
        refine lv_goto (tgt := 4) hx hb dX2_firstFree_31 (by decide) ?_
        exact ih j _ _ _ ⟨by omega, by omega, j3, hP, hD, hS, lv_sub hl [2, 0] rfl⟩
      · -- 23: goes on
        have b0 := ks_fr_of ((ks_tst (by omega)).mp c23)
        refine lv_iload_n hx hb dX2_firstFree_26 rfl (lv_at hl 0 rfl) ?_
        have hP9 : va_P (dC, dI) ksCl [(ta, .inr (2, [.ref tb, .ref tr, .int k, .int o, .int z])), (tb, .inl (cB, 16, .inl B)), (tr, .inl (cR, 16, .inl Rs))] _ := hP
        have hD9 : va_D A [(ta, .inr (2, [.ref tb, .ref tr, .int k, .int o, .int z])), (tb, .inl (cB, 16, .inl B)), (tr, .inl (cR, 16, .inl Rs))] := hD
        have hK9 : va_K (dC, dI) ksCl [(cB, .int), (cR, .int)] s := hK
        exact W.iret (v := ks_on j) hx hb hr (fun t ht hW9 => ⟨⟨ks_on j, (), rfl, Or.inr ⟨j, by omega, rfl, b0, fun q h1 h2 => i3 q h1 h2⟩, by rw [ht]; exact hP9, va_K.moved hW9.alike hK9, hD9⟩, hS.F ht⟩) hS.2.2 dX2_firstFree_27
  · intro x H locs ls h9
    obtain ⟨i1, i2, i3, -, -, -, -⟩ := h9
    skip
    omega
