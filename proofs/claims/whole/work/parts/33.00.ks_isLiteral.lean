set_option maxHeartbeats 4000000 in
set_option maxRecDepth 100000 in
/-- isLiteral -/
theorem ks_isLiteral (l : Launch) (dC : Nat → ClassId) (dI : Nat → Nat → Nat) (xa ra sa aa : Nat) (N : Nat) (ac kc kl mp mm km : Int32) (x0 : Int32) (hN : N ≤ 16) : ks_Mi l yX3_isLiteral wsX3_isLiteral ({ frames := 0, cells := 0, slots := 0, locals := 0 }) (dC, dI) [.ref xa, .int x0] [(xa, .inr (3, [.int (nI N), .ref ra, .ref sa, .ref aa, .int ac, .int kc, .int kl, .int mp, .int mm, .int km]))] [] 0 0 (S := Unit) (fun r _ => (r = 1 ∧ ∃ v, ks_lit N x0 v) ∨ (r = 0 ∧ ¬ ∃ v, ks_lit N x0 v)) (fun _ => [(xa, .inr (3, [.int (nI N), .ref ra, .ref sa, .ref aa, .int ac, .int kc, .int kl, .int mp, .int mm, .int km]))]) (fun _ => []) := by
  intro sz
  refine Met.ofW (cc := cX3_isLiteral) (maxL := 2) (ret := (some .boolean)) (by decide) rfl ?_
  intro p e s m args below meth c s₁ B9 hml hv
  obtain ⟨rfl, hsz, hP, hK, hD0, hNW⟩ := hv
  have hx := B9.exec
  have hb := B9.bytes
  have hr := B9.returns
  have hts := atoms_spec (ws := wsX3_isLiteral) B9.pre
  have hown : s.vm.findClass RX3 = some m.cls := findClass_of_methodNamed B9.named
  have hlocks := B9.notSynchronized
  subst hsz
  have hD := hD0.self (sz := s.heap.size)
  generalize hAe : va_A [(xa, .inr (3, [.int (nI N), .ref ra, .ref sa, .ref aa, .int ac, .int kc, .int kl, .int mp, .int mm, .int km]))] s.heap.size = A at hD ⊢
  have hA : ∀ q : Nat, s.heap.size ≤ q → A q := fun q h => by rw [← hAe]; exact Or.inr h
  have hS : va_S A s.heap s.heap [] := va_S.rf
  have hiX3 : ∀ w ∈ u_ws RX3 TX3 10, w ∈ wsX3_isLiteral := by decide +kernel
  have f18 := hts (.fieldLink RX3 18 "LessonSolver" "variables" "I") (by decide +kernel)
  have hl := lv_entry ([.ref xa, .int x0]) (n := 2) (Nat.le_of_ble_eq_true rfl)
  rw [lg_entry_eq]
  generalize (lg_sl ([.ref xa, .int x0]) ++ List.replicate (2 - (lg_sl ([.ref xa, .int x0])).length) Slot.unset).toArray = ls at hl ⊢
  have hl : lv_has ls 2 [(0, .ref xa), (1, .int x0)] := hl
  refine lv_iload_n hx hb dX3_isLiteral_0 rfl (lv_at hl 1 rfl) ?_
  refine lv_if_eq (tgt := 25) hx hb dX3_isLiteral_1 (by decide) (fun c1 => ?_) (fun c1 => ?_)
  · -- 1: jumps
    have hz : ¬ ∃ v, ks_lit N x0 v := fun ⟨v, hv⟩ => hv.ne0 hN c1
    refine lv_iconst (v := 0) hx hb dX3_isLiteral_25 (by decide) ?_
    have hP9 : va_P (dC, dI) ksCl [(xa, .inr (3, [.int (nI N), .ref ra, .ref sa, .ref aa, .int ac, .int kc, .int kl, .int mp, .int mm, .int km]))] _ := hP
    have hD9 : va_D A [(xa, .inr (3, [.int (nI N), .ref ra, .ref sa, .ref aa, .int ac, .int kc, .int kl, .int mp, .int mm, .int km]))] := hD
    have hK9 : va_K (dC, dI) ksCl [] s := hK
    exact W.zret (v := 0) (ty := .boolean) hx hb hr (by decide) (fun t ht hW9 => ⟨⟨0, (), rfl, Or.inr ⟨rfl, hz⟩, by rw [ht]; exact hP9, va_K.moved hW9.alike hK9, hD9⟩, hS.F ht⟩) hS.2.2 dX3_isLiteral_26
  · -- 1: goes on
    refine lv_iload_n hx hb dX3_isLiteral_4 rfl (lv_at hl 1 rfl) ?_
    refine lv_aload_n hx hb dX3_isLiteral_5 rfl (lv_at hl 0 rfl) ?_
    refine va_get (D := (dC, dI)) (ci := 3) (v := .int (nI N)) (C := RX3) (T := TX3) (N := 10) hx hb hts hiX3 hown hK hP 0 rfl rfl 0 (by decide) f18 (fun _ h9 => h9) rfl dX3_isLiteral_6 ?_
    refine lv_ineg hx hb dX3_isLiteral_9 ?_
    refine lv_icmp_lt (tgt := 25) hx hb dX3_isLiteral_10 (by decide) (fun c10 => ?_) (fun c10 => ?_)
    · -- 10: jumps
      have hz : ¬ ∃ v, ks_lit N x0 v := fun ⟨v, hv⟩ => hv.lo hN c10
      refine lv_iconst (v := 0) hx hb dX3_isLiteral_25 (by decide) ?_
      have hP9 : va_P (dC, dI) ksCl [(xa, .inr (3, [.int (nI N), .ref ra, .ref sa, .ref aa, .int ac, .int kc, .int kl, .int mp, .int mm, .int km]))] _ := hP
      have hD9 : va_D A [(xa, .inr (3, [.int (nI N), .ref ra, .ref sa, .ref aa, .int ac, .int kc, .int kl, .int mp, .int mm, .int km]))] := hD
      have hK9 : va_K (dC, dI) ksCl [] s := hK
      exact W.zret (v := 0) (ty := .boolean) hx hb hr (by decide) (fun t ht hW9 => ⟨⟨0, (), rfl, Or.inr ⟨rfl, hz⟩, by rw [ht]; exact hP9, va_K.moved hW9.alike hK9, hD9⟩, hS.F ht⟩) hS.2.2 dX3_isLiteral_26
    · -- 10: goes on
      refine lv_iload_n hx hb dX3_isLiteral_13 rfl (lv_at hl 1 rfl) ?_
      refine lv_aload_n hx hb dX3_isLiteral_14 rfl (lv_at hl 0 rfl) ?_
      refine va_get (D := (dC, dI)) (ci := 3) (v := .int (nI N)) (C := RX3) (T := TX3) (N := 10) hx hb hts hiX3 hown hK hP 0 rfl rfl 0 (by decide) f18 (fun _ h9 => h9) rfl dX3_isLiteral_15 ?_
      refine lv_icmp_gt (tgt := 25) hx hb dX3_isLiteral_18 (by decide) (fun c18 => ?_) (fun c18 => ?_)
      · -- 18: jumps
        have hz : ¬ ∃ v, ks_lit N x0 v := fun ⟨v, hv⟩ => hv.hi hN c18
        refine lv_iconst (v := 0) hx hb dX3_isLiteral_25 (by decide) ?_
        have hP9 : va_P (dC, dI) ksCl [(xa, .inr (3, [.int (nI N), .ref ra, .ref sa, .ref aa, .int ac, .int kc, .int kl, .int mp, .int mm, .int km]))] _ := hP
        have hD9 : va_D A [(xa, .inr (3, [.int (nI N), .ref ra, .ref sa, .ref aa, .int ac, .int kc, .int kl, .int mp, .int mm, .int km]))] := hD
        have hK9 : va_K (dC, dI) ksCl [] s := hK
        exact W.zret (v := 0) (ty := .boolean) hx hb hr (by decide) (fun t ht hW9 => ⟨⟨0, (), rfl, Or.inr ⟨rfl, hz⟩, by rw [ht]; exact hP9, va_K.moved hW9.alike hK9, hD9⟩, hS.F ht⟩) hS.2.2 dX3_isLiteral_26
      · -- 18: goes on
        have ho := ks_isLit hN c1 c10 c18
        refine lv_iconst (v := 1) hx hb dX3_isLiteral_21 (by decide) ?_
        refine lv_goto (tgt := 26) hx hb dX3_isLiteral_22 (by decide) ?_
        have hP9 : va_P (dC, dI) ksCl [(xa, .inr (3, [.int (nI N), .ref ra, .ref sa, .ref aa, .int ac, .int kc, .int kl, .int mp, .int mm, .int km]))] _ := hP
        have hD9 : va_D A [(xa, .inr (3, [.int (nI N), .ref ra, .ref sa, .ref aa, .int ac, .int kc, .int kl, .int mp, .int mm, .int km]))] := hD
        have hK9 : va_K (dC, dI) ksCl [] s := hK
        exact W.zret (v := 1) (ty := .boolean) hx hb hr (by decide) (fun t ht hW9 => ⟨⟨1, (), rfl, Or.inl ⟨rfl, ho⟩, by rw [ht]; exact hP9, va_K.moved hW9.alike hK9, hD9⟩, hS.F ht⟩) hS.2.2 dX3_isLiteral_26
