set_option maxHeartbeats 4000000 in
set_option maxRecDepth 100000 in
/-- the reference: isLiteral -/
theorem km_isLiteral (l : Launch) (dC : Nat → ClassId) (dI : Nat → Nat → Nat) (xm m1 m2 m3 m4 m5 wd : Nat) (N : Nat) (th km kc kl ac : Int32) (x0 : Int32) (hN : N ≤ 16) : ks_Mi l yX4_isLiteral wsX4_isLiteral ({ frames := 0, cells := 0, slots := 0, locals := 0 }) (dC, dI) [.ref xm, .int x0] [(xm, .inr (4, [.int th, .int (nI N), .int (nI wd), .ref m1, .ref m2, .ref m3, .ref m4, .ref m5, .int km, .int kc, .int kl, .int ac]))] [] 0 0 (S := Unit) (fun r _ => (r = 1 ∧ ∃ v, ks_lit N x0 v) ∨ (r = 0 ∧ ¬ ∃ v, ks_lit N x0 v)) (fun _ => [(xm, .inr (4, [.int th, .int (nI N), .int (nI wd), .ref m1, .ref m2, .ref m3, .ref m4, .ref m5, .int km, .int kc, .int kl, .int ac]))]) (fun _ => []) := by
  intro sz
  refine Met.ofW (cc := cX4_isLiteral) (maxL := 2) (ret := (some .boolean)) (by decide) rfl ?_
  intro p e s m args below meth c s₁ B9 hml hv
  obtain ⟨rfl, hsz, hP, hK, hD0, hNW⟩ := hv
  have hx := B9.exec
  have hb := B9.bytes
  have hr := B9.returns
  have hts := atoms_spec (ws := wsX4_isLiteral) B9.pre
  have hown : s.vm.findClass RX4 = some m.cls := findClass_of_methodNamed B9.named
  have hlocks := B9.notSynchronized
  subst hsz
  have hD := hD0.self (sz := s.heap.size)
  generalize hAe : va_A [(xm, .inr (4, [.int th, .int (nI N), .int (nI wd), .ref m1, .ref m2, .ref m3, .ref m4, .ref m5, .int km, .int kc, .int kl, .int ac]))] s.heap.size = A at hD ⊢
  have hA : ∀ q : Nat, s.heap.size ≤ q → A q := fun q h => by rw [← hAe]; exact Or.inr h
  have hS : va_S A s.heap s.heap [] := va_S.rf
  have hiX4 : ∀ w ∈ u_ws RX4 TM 12, w ∈ wsX4_isLiteral := by decide +kernel
  have f26 := hts (.fieldLink RX4 26 "LessonSolverModel" "n" "I") (by decide +kernel)
  have hl := lv_entry ([.ref xm, .int x0]) (n := 2) (Nat.le_of_ble_eq_true rfl)
  rw [lg_entry_eq]
  generalize (lg_sl ([.ref xm, .int x0]) ++ List.replicate (2 - (lg_sl ([.ref xm, .int x0])).length) Slot.unset).toArray = ls at hl ⊢
  have hl : lv_has ls 2 [(0, .ref xm), (1, .int x0)] := hl
  refine lv_iload_n hx hb dX4_isLiteral_0 rfl (lv_at hl 1 rfl) ?_
  refine lv_if_eq (tgt := 25) hx hb dX4_isLiteral_1 (by decide) (fun c1 => ?_) (fun c1 => ?_)
  · -- 1: jumps
    have hz : ¬ ∃ v, ks_lit N x0 v := fun ⟨v, hv⟩ => hv.ne0 hN c1
    refine lv_iconst (v := 0) hx hb dX4_isLiteral_25 (by decide) ?_
    have hP9 : va_P (dC, dI) ksCl [(xm, .inr (4, [.int th, .int (nI N), .int (nI wd), .ref m1, .ref m2, .ref m3, .ref m4, .ref m5, .int km, .int kc, .int kl, .int ac]))] _ := hP
    have hD9 : va_D A [(xm, .inr (4, [.int th, .int (nI N), .int (nI wd), .ref m1, .ref m2, .ref m3, .ref m4, .ref m5, .int km, .int kc, .int kl, .int ac]))] := hD
    have hK9 : va_K (dC, dI) ksCl [] s := hK
    exact W.zret (v := 0) (ty := .boolean) hx hb hr (by decide) (fun t ht hW9 => ⟨⟨0, (), rfl, Or.inr ⟨rfl, hz⟩, by rw [ht]; exact hP9, va_K.moved hW9.alike hK9, hD9⟩, hS.F ht⟩) hS.2.2 dX4_isLiteral_26
  · -- 1: goes on
    refine lv_iload_n hx hb dX4_isLiteral_4 rfl (lv_at hl 1 rfl) ?_
    refine lv_aload_n hx hb dX4_isLiteral_5 rfl (lv_at hl 0 rfl) ?_
    refine va_get (D := (dC, dI)) (ci := 4) (v := .int (nI N)) (C := RX4) (T := TM) (N := 12) hx hb hts hiX4 hown hK hP 0 rfl rfl 1 (by decide) f26 (fun _ h9 => h9) rfl dX4_isLiteral_6 ?_
    refine lv_ineg hx hb dX4_isLiteral_9 ?_
    refine lv_icmp_lt (tgt := 25) hx hb dX4_isLiteral_10 (by decide) (fun c10 => ?_) (fun c10 => ?_)
    · -- 10: jumps
      have hz : ¬ ∃ v, ks_lit N x0 v := fun ⟨v, hv⟩ => hv.lo hN c10
      refine lv_iconst (v := 0) hx hb dX4_isLiteral_25 (by decide) ?_
      have hP9 : va_P (dC, dI) ksCl [(xm, .inr (4, [.int th, .int (nI N), .int (nI wd), .ref m1, .ref m2, .ref m3, .ref m4, .ref m5, .int km, .int kc, .int kl, .int ac]))] _ := hP
      have hD9 : va_D A [(xm, .inr (4, [.int th, .int (nI N), .int (nI wd), .ref m1, .ref m2, .ref m3, .ref m4, .ref m5, .int km, .int kc, .int kl, .int ac]))] := hD
      have hK9 : va_K (dC, dI) ksCl [] s := hK
      exact W.zret (v := 0) (ty := .boolean) hx hb hr (by decide) (fun t ht hW9 => ⟨⟨0, (), rfl, Or.inr ⟨rfl, hz⟩, by rw [ht]; exact hP9, va_K.moved hW9.alike hK9, hD9⟩, hS.F ht⟩) hS.2.2 dX4_isLiteral_26
    · -- 10: goes on
      refine lv_iload_n hx hb dX4_isLiteral_13 rfl (lv_at hl 1 rfl) ?_
      refine lv_aload_n hx hb dX4_isLiteral_14 rfl (lv_at hl 0 rfl) ?_
      refine va_get (D := (dC, dI)) (ci := 4) (v := .int (nI N)) (C := RX4) (T := TM) (N := 12) hx hb hts hiX4 hown hK hP 0 rfl rfl 1 (by decide) f26 (fun _ h9 => h9) rfl dX4_isLiteral_15 ?_
      refine lv_icmp_gt (tgt := 25) hx hb dX4_isLiteral_18 (by decide) (fun c18 => ?_) (fun c18 => ?_)
      · -- 18: jumps
        have hz : ¬ ∃ v, ks_lit N x0 v := fun ⟨v, hv⟩ => hv.hi hN c18
        refine lv_iconst (v := 0) hx hb dX4_isLiteral_25 (by decide) ?_
        have hP9 : va_P (dC, dI) ksCl [(xm, .inr (4, [.int th, .int (nI N), .int (nI wd), .ref m1, .ref m2, .ref m3, .ref m4, .ref m5, .int km, .int kc, .int kl, .int ac]))] _ := hP
        have hD9 : va_D A [(xm, .inr (4, [.int th, .int (nI N), .int (nI wd), .ref m1, .ref m2, .ref m3, .ref m4, .ref m5, .int km, .int kc, .int kl, .int ac]))] := hD
        have hK9 : va_K (dC, dI) ksCl [] s := hK
        exact W.zret (v := 0) (ty := .boolean) hx hb hr (by decide) (fun t ht hW9 => ⟨⟨0, (), rfl, Or.inr ⟨rfl, hz⟩, by rw [ht]; exact hP9, va_K.moved hW9.alike hK9, hD9⟩, hS.F ht⟩) hS.2.2 dX4_isLiteral_26
      · -- 18: goes on
        have ho := ks_isLit hN c1 c10 c18
        refine lv_iconst (v := 1) hx hb dX4_isLiteral_21 (by decide) ?_
        refine lv_goto (tgt := 26) hx hb dX4_isLiteral_22 (by decide) ?_
        have hP9 : va_P (dC, dI) ksCl [(xm, .inr (4, [.int th, .int (nI N), .int (nI wd), .ref m1, .ref m2, .ref m3, .ref m4, .ref m5, .int km, .int kc, .int kl, .int ac]))] _ := hP
        have hD9 : va_D A [(xm, .inr (4, [.int th, .int (nI N), .int (nI wd), .ref m1, .ref m2, .ref m3, .ref m4, .ref m5, .int km, .int kc, .int kl, .int ac]))] := hD
        have hK9 : va_K (dC, dI) ksCl [] s := hK
        exact W.zret (v := 1) (ty := .boolean) hx hb hr (by decide) (fun t ht hW9 => ⟨⟨1, (), rfl, Or.inl ⟨rfl, ho⟩, by rw [ht]; exact hP9, va_K.moved hW9.alike hK9, hD9⟩, hS.F ht⟩) hS.2.2 dX4_isLiteral_26
