set_option maxHeartbeats 4000000 in
set_option maxRecDepth 100000 in
/-- the reference: row -/
theorem km_row (l : Launch) (dC : Nat → ClassId) (dI : Nat → Nat → Nat) (xm m1 m2 m3 m4 m5 wd : Nat) (N : Nat) (th km kc kl ac : Int32) (x0 : Int32) (v0 w0 : Nat) (hN : N ≤ 16) (hv : ks_lit N x0 v0) (hw0 : w0 < 1024) : ks_Ml l yX4_row wsX4_row ({ frames := 0, cells := 0, slots := 0, locals := 0 }) (dC, dI) [.ref xm, .int x0, .int (nI w0)] [(xm, .inr (4, [.int th, .int (nI N), .int (nI wd), .ref m1, .ref m2, .ref m3, .ref m4, .ref m5, .int km, .int kc, .int kl, .int ac]))] [] 0 0 (S := Unit) (fun r _ => ks_rw N x0 w0 r) (fun _ => [(xm, .inr (4, [.int th, .int (nI N), .int (nI wd), .ref m1, .ref m2, .ref m3, .ref m4, .ref m5, .int km, .int kc, .int kl, .int ac]))]) (fun _ => []) := by
  intro sz
  refine Met.ofW (cc := cX4_row) (maxL := 6) (ret := (some .long)) (by decide) rfl ?_
  intro p e s m args below meth c s₁ B9 hml hv
  obtain ⟨rfl, hsz, hP, hK, hD0, hNW⟩ := hv
  have hx := B9.exec
  have hb := B9.bytes
  have hr := B9.returns
  have hts := atoms_spec (ws := wsX4_row) B9.pre
  have hown : s.vm.findClass RX4 = some m.cls := findClass_of_methodNamed B9.named
  have hlocks := B9.notSynchronized
  subst hsz
  have hD := hD0.self (sz := s.heap.size)
  generalize hAe : va_A [(xm, .inr (4, [.int th, .int (nI N), .int (nI wd), .ref m1, .ref m2, .ref m3, .ref m4, .ref m5, .int km, .int kc, .int kl, .int ac]))] s.heap.size = A at hD ⊢
  have hA : ∀ q : Nat, s.heap.size ≤ q → A q := fun q h => by rw [← hAe]; exact Or.inr h
  have hS : va_S A s.heap s.heap [] := va_S.rf
  have hiX4 : ∀ w ∈ u_ws RX4 TM 12, w ∈ wsX4_row := by decide +kernel
  have f26 := hts (.fieldLink RX4 26 "LessonSolverModel" "n" "I") (by decide +kernel)
  have k39 := hts (.constantLong RX4 39 (-1)) (by decide +kernel)
  have k53 := hts (.constantLong RX4 53 (-6148914691236517206)) (by decide +kernel)
  have k55 := hts (.constantLong RX4 55 (-3689348814741910324)) (by decide +kernel)
  have k57 := hts (.constantLong RX4 57 (-1085102592571150096)) (by decide +kernel)
  have k59 := hts (.constantLong RX4 59 (-71777214294589696)) (by decide +kernel)
  have k61 := hts (.constantLong RX4 61 (-281470681808896)) (by decide +kernel)
  have k63 := hts (.constantLong RX4 63 (-4294967296)) (by decide +kernel)
  have hl := lv_entry ([.ref xm, .int x0, .int (nI w0)]) (n := 6) (Nat.le_of_ble_eq_true rfl)
  rw [lg_entry_eq]
  generalize (lg_sl ([.ref xm, .int x0, .int (nI w0)]) ++ List.replicate (6 - (lg_sl ([.ref xm, .int x0, .int (nI w0)])).length) Slot.unset).toArray = ls at hl ⊢
  have hl : lv_has ls 6 [(0, .ref xm), (1, .int x0), (2, .int (nI w0))] := hl
  refine ks_join (σ := Nat) (fun x H locs ls => (x = N - v0) ∧ va_P (dC, dI) ksCl [(xm, .inr (4, [.int th, .int (nI N), .int (nI wd), .ref m1, .ref m2, .ref m3, .ref m4, .ref m5, .int km, .int kc, .int kl, .int ac]))] H ∧ va_D A [(xm, .inr (4, [.int th, .int (nI N), .int (nI wd), .ref m1, .ref m2, .ref m3, .ref m4, .ref m5, .int km, .int kc, .int kl, .int ac]))] ∧ va_S A s.heap H locs ∧ lv_has ls 6 [(1, .int x0), (2, .int (nI w0)), (3, .int (nI x))]) 16 ?_ (fun hj => ?_)
  · -- where the ways meet: 16
    intro x H locs ls h9
    obtain ⟨q9, rfl⟩ : ∃ z, z = x := ⟨_, rfl⟩
    obtain ⟨q1, hP, hD, hS, hl⟩ := h9
    have q1 : q9 = N - v0 := q1
    have hP : va_P (dC, dI) ksCl [(xm, .inr (4, [.int th, .int (nI N), .int (nI wd), .ref m1, .ref m2, .ref m3, .ref m4, .ref m5, .int km, .int kc, .int kl, .int ac]))] H := hP
    have hD : va_D A [(xm, .inr (4, [.int th, .int (nI N), .int (nI wd), .ref m1, .ref m2, .ref m3, .ref m4, .ref m5, .int km, .int kc, .int kl, .int ac]))] := hD
    have hl : lv_has ls 6 [(1, .int x0), (2, .int (nI w0)), (3, .int (nI q9))] := hl
    refine ks_join (σ := Int64) (fun x H locs ls => (∀ b, b < 64 → ks_bl x b = (64 * w0 + b).testBit (N - v0)) ∧ va_P (dC, dI) ksCl [(xm, .inr (4, [.int th, .int (nI N), .int (nI wd), .ref m1, .ref m2, .ref m3, .ref m4, .ref m5, .int km, .int kc, .int kl, .int ac]))] H ∧ va_D A [(xm, .inr (4, [.int th, .int (nI N), .int (nI wd), .ref m1, .ref m2, .ref m3, .ref m4, .ref m5, .int km, .int kc, .int kl, .int ac]))] ∧ va_S A s.heap H locs ∧ lv_has ls 6 [(1, .int x0), (4, .long x)]) 125 ?_ (fun hj => ?_)
    · -- where the ways meet: 125
      intro x H locs ls h9
      obtain ⟨on9, rfl⟩ : ∃ z, z = x := ⟨_, rfl⟩
      obtain ⟨q1, hP, hD, hS, hl⟩ := h9
      have q1 : ∀ b, b < 64 → ks_bl on9 b = (64 * w0 + b).testBit (N - v0) := q1
      have hP : va_P (dC, dI) ksCl [(xm, .inr (4, [.int th, .int (nI N), .int (nI wd), .ref m1, .ref m2, .ref m3, .ref m4, .ref m5, .int km, .int kc, .int kl, .int ac]))] H := hP
      have hD : va_D A [(xm, .inr (4, [.int th, .int (nI N), .int (nI wd), .ref m1, .ref m2, .ref m3, .ref m4, .ref m5, .int km, .int kc, .int kl, .int ac]))] := hD
      have hl : lv_has ls 6 [(1, .int x0), (4, .long on9)] := hl
      refine lv_iload_n hx hb dX4_row_125 rfl (lv_at hl 0 rfl) ?_
      refine lv_if_ge (tgt := 138) hx hb dX4_row_126 (by decide) (fun c126 => ?_) (fun c126 => ?_)
      · -- 126: jumps
        refine lv_lload hx hb dX4_row_138 (lv_at hl 1 rfl) ?_
        have hP9 : va_P (dC, dI) ksCl [(xm, .inr (4, [.int th, .int (nI N), .int (nI wd), .ref m1, .ref m2, .ref m3, .ref m4, .ref m5, .int km, .int kc, .int kl, .int ac]))] _ := hP
        have hD9 : va_D A [(xm, .inr (4, [.int th, .int (nI N), .int (nI wd), .ref m1, .ref m2, .ref m3, .ref m4, .ref m5, .int km, .int kc, .int kl, .int ac]))] := hD
        have hK9 : va_K (dC, dI) ksCl [] s := hK
        exact W.lret (v := on9) hx hb hr (fun t ht hW9 => ⟨⟨on9, (), rfl, ks_rw.pos hN hv (ks_lit_ge hN hv c126) q1, by rw [ht]; exact hP9, va_K.moved hW9.alike hK9, hD9⟩, hS.F ht⟩) hS.2.2 dX4_row_140
      · -- 126: goes on
        refine lv_lload hx hb dX4_row_129 (lv_at hl 1 rfl) ?_
        refine lv_ldc2 (v := (-1)) hx hb hown k39 dX4_row_131 ?_
        refine lv_lxor hx hb dX4_row_134 ?_
        refine lv_goto (tgt := 140) hx hb dX4_row_135 (by decide) ?_
        have hP9 : va_P (dC, dI) ksCl [(xm, .inr (4, [.int th, .int (nI N), .int (nI wd), .ref m1, .ref m2, .ref m3, .ref m4, .ref m5, .int km, .int kc, .int kl, .int ac]))] _ := hP
        have hD9 : va_D A [(xm, .inr (4, [.int th, .int (nI N), .int (nI wd), .ref m1, .ref m2, .ref m3, .ref m4, .ref m5, .int km, .int kc, .int kl, .int ac]))] := hD
        have hK9 : va_K (dC, dI) ksCl [] s := hK
        exact W.lret (v := on9 ^^^ (-1)) hx hb hr (fun t ht hW9 => ⟨⟨on9 ^^^ (-1), (), rfl, ks_rw.neg hN hv (fun q => c126 (by rw [Int32.le_iff_toInt_le, Int32.toInt_zero]; rw [Int32.lt_iff_toInt_lt, Int32.toInt_zero] at q; omega)) q1, by rw [ht]; exact hP9, va_K.moved hW9.alike hK9, hD9⟩, hS.F ht⟩) hS.2.2 dX4_row_140
    · -- the ways to 125
      refine lv_iload_n hx hb dX4_row_16 rfl (lv_at hl 2 rfl) ?_
      rcases (show q9 = 0 ∨ q9 = 1 ∨ q9 = 2 ∨ q9 = 3 ∨ q9 = 4 ∨ q9 = 5 ∨ 6 ≤ q9 by omega) with h6 | h6 | h6 | h6 | h6 | h6 | h6
      · subst h6
        refine lv_tableIn (x := nI 0) (tgt := 56) hx hb dX4_row_17 (by decide) (by decide) rfl (by decide) ?_
        have un0 := ks_rlo (w := w0) (q := 0) (by decide) ks_r0
        rw [q1] at un0
        refine lv_ldc2 (v := (-6148914691236517206)) hx hb hown k53 dX4_row_56 ?_
        refine lv_lstore (lv' := [(4, .long (-6148914691236517206)), (1, .int x0), (2, .int (nI w0)), (3, .int (nI 0))]) hx hb dX4_row_59 hl (by decide) rfl (fun ls hl => ?_)
        refine lv_goto (tgt := 125) hx hb dX4_row_61 (by decide) ?_
        exact hj (-6148914691236517206) _ _ _ ⟨un0, hP, hD, hS, lv_sub hl [1, 0] rfl⟩
      · subst h6
        refine lv_tableIn (x := nI 1) (tgt := 64) hx hb dX4_row_17 (by decide) (by decide) rfl (by decide) ?_
        have un0 := ks_rlo (w := w0) (q := 1) (by decide) ks_r1
        rw [q1] at un0
        refine lv_ldc2 (v := (-3689348814741910324)) hx hb hown k55 dX4_row_64 ?_
        refine lv_lstore (lv' := [(4, .long (-3689348814741910324)), (1, .int x0), (2, .int (nI w0)), (3, .int (nI 1))]) hx hb dX4_row_67 hl (by decide) rfl (fun ls hl => ?_)
        refine lv_goto (tgt := 125) hx hb dX4_row_69 (by decide) ?_
        exact hj (-3689348814741910324) _ _ _ ⟨un0, hP, hD, hS, lv_sub hl [1, 0] rfl⟩
      · subst h6
        refine lv_tableIn (x := nI 2) (tgt := 72) hx hb dX4_row_17 (by decide) (by decide) rfl (by decide) ?_
        have un0 := ks_rlo (w := w0) (q := 2) (by decide) ks_r2
        rw [q1] at un0
        refine lv_ldc2 (v := (-1085102592571150096)) hx hb hown k57 dX4_row_72 ?_
        refine lv_lstore (lv' := [(4, .long (-1085102592571150096)), (1, .int x0), (2, .int (nI w0)), (3, .int (nI 2))]) hx hb dX4_row_75 hl (by decide) rfl (fun ls hl => ?_)
        refine lv_goto (tgt := 125) hx hb dX4_row_77 (by decide) ?_
        exact hj (-1085102592571150096) _ _ _ ⟨un0, hP, hD, hS, lv_sub hl [1, 0] rfl⟩
      · subst h6
        refine lv_tableIn (x := nI 3) (tgt := 80) hx hb dX4_row_17 (by decide) (by decide) rfl (by decide) ?_
        have un0 := ks_rlo (w := w0) (q := 3) (by decide) ks_r3
        rw [q1] at un0
        refine lv_ldc2 (v := (-71777214294589696)) hx hb hown k59 dX4_row_80 ?_
        refine lv_lstore (lv' := [(4, .long (-71777214294589696)), (1, .int x0), (2, .int (nI w0)), (3, .int (nI 3))]) hx hb dX4_row_83 hl (by decide) rfl (fun ls hl => ?_)
        refine lv_goto (tgt := 125) hx hb dX4_row_85 (by decide) ?_
        exact hj (-71777214294589696) _ _ _ ⟨un0, hP, hD, hS, lv_sub hl [1, 0] rfl⟩
      · subst h6
        refine lv_tableIn (x := nI 4) (tgt := 88) hx hb dX4_row_17 (by decide) (by decide) rfl (by decide) ?_
        have un0 := ks_rlo (w := w0) (q := 4) (by decide) ks_r4
        rw [q1] at un0
        refine lv_ldc2 (v := (-281470681808896)) hx hb hown k61 dX4_row_88 ?_
        refine lv_lstore (lv' := [(4, .long (-281470681808896)), (1, .int x0), (2, .int (nI w0)), (3, .int (nI 4))]) hx hb dX4_row_91 hl (by decide) rfl (fun ls hl => ?_)
        refine lv_goto (tgt := 125) hx hb dX4_row_93 (by decide) ?_
        exact hj (-281470681808896) _ _ _ ⟨un0, hP, hD, hS, lv_sub hl [1, 0] rfl⟩
      · subst h6
        refine lv_tableIn (x := nI 5) (tgt := 96) hx hb dX4_row_17 (by decide) (by decide) rfl (by decide) ?_
        have un0 := ks_rlo (w := w0) (q := 5) (by decide) ks_r5
        rw [q1] at un0
        refine lv_ldc2 (v := (-4294967296)) hx hb hown k63 dX4_row_96 ?_
        refine lv_lstore (lv' := [(4, .long (-4294967296)), (1, .int x0), (2, .int (nI w0)), (3, .int (nI 5))]) hx hb dX4_row_99 hl (by decide) rfl (fun ls hl => ?_)
        refine lv_goto (tgt := 125) hx hb dX4_row_101 (by decide) ?_
        exact hj (-4294967296) _ _ _ ⟨un0, hP, hD, hS, lv_sub hl [1, 0] rfl⟩
      · refine lv_tableOut (tgt := 104) hx hb dX4_row_17 (Or.inr (by rw [nI_toInt (by omega)]; omega)) (by decide) ?_
        refine lv_iload_n hx hb dX4_row_104 rfl (lv_at hl 1 rfl) ?_
        refine lv_iload_n hx hb dX4_row_105 rfl (lv_at hl 2 rfl) ?_
        refine lv_bipush (v := nI 6) hx hb dX4_row_106 (by decide) ?_
        refine lv_isub hx hb dX4_row_108 ?_
        refine ks_top (y := nI (q9 - 6)) (pk_sub h6) ?_
        refine lv_ishr hx hb dX4_row_109 ?_
        refine lv_iconst (v := 1) hx hb dX4_row_110 (by decide) ?_
        refine lv_iand hx hb dX4_row_111 ?_
        refine lv_iconst (v := 1) hx hb dX4_row_112 (by decide) ?_
        refine lv_icmp_ne (tgt := 122) hx hb dX4_row_113 (by decide) (fun c113 => ?_) (fun c113 => ?_)
        · -- 113: jumps
          have un0 := ks_rhi0 (w := w0) h6 (fun q => c113 ((ks_ri hw0 (by omega)).mpr q))
          rw [q1] at un0
          refine lv_lconst (v := 0) hx hb dX4_row_122 (by decide) ?_
          refine lv_lstore (lv' := [(4, .long 0), (1, .int x0), (2, .int (nI w0)), (3, .int (nI q9))]) hx hb dX4_row_123 hl (by decide) rfl (fun ls hl => ?_)
          exact hj 0 _ _ _ ⟨un0, hP, hD, hS, lv_sub hl [1, 0] rfl⟩
        · -- 113: goes on
          have un0 := ks_rhi1 (w := w0) h6 ((ks_ri hw0 (by omega)).mp c113)
          rw [q1] at un0
          refine lv_ldc2 (v := (-1)) hx hb hown k39 dX4_row_116 ?_
          refine lv_goto (tgt := 123) hx hb dX4_row_119 (by decide) ?_
          refine lv_lstore (lv' := [(4, .long (-1)), (1, .int x0), (2, .int (nI w0)), (3, .int (nI q9))]) hx hb dX4_row_123 hl (by decide) rfl (fun ls hl => ?_)
          exact hj (-1) _ _ _ ⟨un0, hP, hD, hS, lv_sub hl [1, 0] rfl⟩
  · -- the ways to 16
    refine lv_aload_n hx hb dX4_row_0 rfl (lv_at hl 0 rfl) ?_
    refine va_get (D := (dC, dI)) (ci := 4) (v := .int (nI N)) (C := RX4) (T := TM) (N := 12) hx hb hts hiX4 hown hK hP 0 rfl rfl 1 (by decide) f26 (fun _ h9 => h9) rfl dX4_row_1 ?_
    refine lv_iload_n hx hb dX4_row_4 rfl (lv_at hl 1 rfl) ?_
    refine lv_if_ge (tgt := 13) hx hb dX4_row_5 (by decide) (fun c5 => ?_) (fun c5 => ?_)
    · -- 5: jumps
      have ep : x0 = nI v0 := by
        rcases hv.2.2 with q | q
        · exact q
        · exfalso; rw [q, Int32.le_iff_toInt_le, ks_negT (by have := hv.2.1; omega), Int32.toInt_zero] at c5; have := hv.1; omega
      refine lv_iload_n hx hb dX4_row_13 rfl (lv_at hl 1 rfl) ?_
      refine ks_top (y := nI v0) (ep) ?_
      refine lv_isub hx hb dX4_row_14 ?_
      refine ks_top (y := nI (N - v0)) (pk_sub hv.2.1) ?_
      refine lv_istore_n (lv' := [(3, .int (nI (N - v0))), (0, .ref xm), (1, .int x0), (2, .int (nI w0))]) hx hb dX4_row_15 rfl hl (by decide) rfl (fun ls hl => ?_)
      exact hj (N - v0) _ _ _ ⟨rfl, hP, hD, hS, lv_sub hl [2, 3, 0] rfl⟩
    · -- 5: goes on
      have ep : -x0 = nI v0 := (ks_lit_neg hv).pos hN (by
        rw [Int32.le_iff_toInt_le, Int32.toInt_zero] at c5
        rcases hv.2.2 with q | q
        · rw [q, nI_toInt (by have := hv.2.1; omega)] at c5; omega
        · rw [q, show -(-nI v0) = nI v0 from by apply Int32.toBitVec_inj.mp; show - -(nI v0).toBitVec = (nI v0).toBitVec; simp, Int32.lt_iff_toInt_lt, nI_toInt (by have := hv.2.1; omega), Int32.toInt_zero]; have := hv.1; omega)
      refine lv_iload_n hx hb dX4_row_8 rfl (lv_at hl 1 rfl) ?_
      refine lv_ineg hx hb dX4_row_9 ?_
      refine lv_goto (tgt := 14) hx hb dX4_row_10 (by decide) ?_
      refine ks_top (y := nI v0) (ep) ?_
      refine lv_isub hx hb dX4_row_14 ?_
      refine ks_top (y := nI (N - v0)) (pk_sub hv.2.1) ?_
      refine lv_istore_n (lv' := [(3, .int (nI (N - v0))), (0, .ref xm), (1, .int x0), (2, .int (nI w0))]) hx hb dX4_row_15 rfl hl (by decide) rfl (fun ls hl => ?_)
      exact hj (N - v0) _ _ _ ⟨rfl, hP, hD, hS, lv_sub hl [2, 3, 0] rfl⟩
