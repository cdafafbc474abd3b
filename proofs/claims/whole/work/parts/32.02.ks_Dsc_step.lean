def ks_Dsc (l : Launch) (dC : Nat → ClassId) (dI : Nat → Nat → Nat) (e9 : Nat) : Prop := ∀ (sa : Nat) (ta tb tr : Nat) (cB cR : ClassId) (qa qb qr : Nat) (cE cF : ClassId) (ra rp rq : Nat) (cP cM : ClassId) (N : Nat) (lap : Int32) (P M : Nat → Int32) (g nr : Nat) (B Rs : Nat → Int32) (k : Nat) (o z : Int32) (Bq Rq : Nat → Int32) (kq oq zq : Int32) (d : Nat) (hN : N ≤ 16) (hg : g ≤ 600) (hW : ks_W N P M g nr) (hR : ks_R N P M nr B Rs k o z) (hdk : d ≤ k) (hde : N ≤ d + e9), ks_Mi l yX1_descend wsX1_descend ({ frames := 3 + e9, cells := 0, slots := 0, locals := 73 + 27 * e9 }) (dC, dI) [.ref sa, .int (nI d)] [(sa, .inr (1, [.int (nI N), .ref ra, .ref ta, .ref qa, .int lap])), (ra, .inr (0, [.ref rp, .ref rq, .int (nI g), .int (nI nr)])), (rp, .inl (cP, 664, .inl P)), (rq, .inl (cM, 664, .inl M)), (ta, .inr (2, [.ref tb, .ref tr, .int (nI k), .int o, .int z])), (tb, .inl (cB, 16, .inl B)), (tr, .inl (cR, 16, .inl Rs)), (qa, .inr (2, [.ref qb, .ref qr, .int kq, .int oq, .int zq])), (qb, .inl (cE, 16, .inl Bq)), (qr, .inl (cF, 16, .inl Rq))] [(cP, .int), (cM, .int), (cB, .int), (cR, .int), (cE, .int), (cF, .int)] 0 0 (S := (Nat → Int32) × (Nat → Int32) × Nat × (Nat → Int32) × (Nat → Int32) × Nat × Int32 × Int32 × (Nat → Int32) × (Nat → Int32) × Int32 × Int32 × Int32) (fun r u => ks_W N u.1 u.2.1 g u.2.2.1 ∧ ks_gr P M nr u.1 u.2.1 u.2.2.1 ∧ ks_R N u.1 u.2.1 u.2.2.1 u.2.2.2.1 u.2.2.2.2.1 u.2.2.2.2.2.1 u.2.2.2.2.2.2.1 u.2.2.2.2.2.2.2.1 ∧ ks_X B Rs k o z u.2.2.2.1 u.2.2.2.2.1 u.2.2.2.2.2.1 u.2.2.2.2.2.2.1 u.2.2.2.2.2.2.2.1 ∧ ks_L N (ks_Q P M g o z) r) (fun u => [(sa, .inr (1, [.int (nI N), .ref ra, .ref ta, .ref qa, .int lap])), (ra, .inr (0, [.ref rp, .ref rq, .int (nI g), .int (nI u.2.2.1)])), (rp, .inl (cP, 664, .inl u.1)), (rq, .inl (cM, 664, .inl u.2.1)), (ta, .inr (2, [.ref tb, .ref tr, .int (nI u.2.2.2.2.2.1), .int u.2.2.2.2.2.2.1, .int u.2.2.2.2.2.2.2.1])), (tb, .inl (cB, 16, .inl u.2.2.2.1)), (tr, .inl (cR, 16, .inl u.2.2.2.2.1)), (qa, .inr (2, [.ref qb, .ref qr, .int u.2.2.2.2.2.2.2.2.2.2.1, .int u.2.2.2.2.2.2.2.2.2.2.2.1, .int u.2.2.2.2.2.2.2.2.2.2.2.2])), (qb, .inl (cE, 16, .inl u.2.2.2.2.2.2.2.2.1)), (qr, .inl (cF, 16, .inl u.2.2.2.2.2.2.2.2.2.1))]) (fun u => [(cP, .int), (cM, .int), (cB, .int), (cR, .int), (cE, .int), (cF, .int)])
set_option maxHeartbeats 4000000 in
set_option maxRecDepth 100000 in
/-- descend -/
theorem ks_Dsc_step (l : Launch) (dC : Nat → ClassId) (dI : Nat → Nat → Nat) (e9 : Nat) (IH : ∀ e8, e9 = e8 + 1 → ks_Dsc l dC dI e8) : ks_Dsc l dC dI e9 := by
  intro sa ta tb tr cB cR qa qb qr cE cF ra rp rq cP cM N lap P M g nr B Rs k o z Bq Rq kq oq zq d hN hg hW hR hdk hde
  intro sz
  refine Met.ofW (cc := cX1_descend) (maxL := 8) (ret := (some .int)) (by decide) rfl ?_
  intro p e s m args below meth c s₁ B9 hml hv
  obtain ⟨rfl, hsz, hP, hK, hD0, hNW⟩ := hv
  have hx := B9.exec
  have hb := B9.bytes
  have hr := B9.returns
  have hts := atoms_spec (ws := wsX1_descend) B9.pre
  have hown : s.vm.findClass RX1 = some m.cls := findClass_of_methodNamed B9.named
  have hlocks := B9.notSynchronized
  subst hsz
  have hD := hD0.self (sz := s.heap.size)
  generalize hAe : va_A [(sa, .inr (1, [.int (nI N), .ref ra, .ref ta, .ref qa, .int lap])), (ra, .inr (0, [.ref rp, .ref rq, .int (nI g), .int (nI nr)])), (rp, .inl (cP, 664, .inl P)), (rq, .inl (cM, 664, .inl M)), (ta, .inr (2, [.ref tb, .ref tr, .int (nI k), .int o, .int z])), (tb, .inl (cB, 16, .inl B)), (tr, .inl (cR, 16, .inl Rs)), (qa, .inr (2, [.ref qb, .ref qr, .int kq, .int oq, .int zq])), (qb, .inl (cE, 16, .inl Bq)), (qr, .inl (cF, 16, .inl Rq))] s.heap.size = A at hD ⊢
  have hA : ∀ q : Nat, s.heap.size ≤ q → A q := fun q h => by rw [← hAe]; exact Or.inr h
  have hS : va_S A s.heap s.heap [] := va_S.rf
  have hiX1 : ∀ w ∈ u_ws RX1 TX1 5, w ∈ wsX1_descend := by decide +kernel
  have hiX2 : ∀ w ∈ u_ws RX2 TX2 5, w ∈ wsX1_descend := by decide +kernel
  have f9 := hts (.fieldLink RX1 9 "LessonSolver$Search" "variables" "I") (by decide +kernel)
  have f15 := hts (.fieldLink RX1 15 "LessonSolver$Search" "row" "LLessonSolver$ClauseRow;") (by decide +kernel)
  have f22 := hts (.fieldLink RX1 22 "LessonSolver$Search" "trail" "LLessonSolver$Trail;") (by decide +kernel)
  have f53 := va_Nw.use (A := ([.ref sa, .int (nI d)] : List Value).toArray) rfl (hNW (.fieldLinkNest RX1 53 "LessonSolver$Trail" "ones" "I" "LessonSolver") (by decide +kernel))
  have f56 := va_Nw.use (A := ([.ref sa, .int (nI d)] : List Value).toArray) rfl (hNW (.fieldLinkNest RX1 56 "LessonSolver$Trail" "length" "I" "LessonSolver") (by decide +kernel))
  have hl := lv_entry ([.ref sa, .int (nI d)]) (n := 8) (Nat.le_of_ble_eq_true rfl)
  rw [lg_entry_eq]
  generalize (lg_sl ([.ref sa, .int (nI d)]) ++ List.replicate (8 - (lg_sl ([.ref sa, .int (nI d)])).length) Slot.unset).toArray = ls at hl ⊢
  have hl : lv_has ls 8 [(0, .ref sa), (1, .int (nI d))] := hl
  refine lv_iconst (v := 0) hx hb dX1_descend_0 (by decide) ?_
  refine lv_istore_n (lv' := [(2, .int 0), (0, .ref sa), (1, .int (nI d))]) hx hb dX1_descend_1 rfl hl (by decide) rfl (fun ls hl => ?_)
  refine lv_iconst (v := nI 0) hx hb dX1_descend_2 (by decide) ?_
  refine lv_istore_n (lv' := [(3, .int (nI 0)), (2, .int 0), (0, .ref sa), (1, .int (nI d))]) hx hb dX1_descend_3 rfl hl (by decide) rfl (fun ls hl => ?_)
  refine ks_wl (σ := Nat × (Nat → Int32) × (Nat → Int32) × Nat × (Nat → Int32) × (Nat → Int32) × Nat × Int32 × Int32 × (Nat → Int32) × (Nat → Int32) × Int32 × Int32 × Int32 × Int32) (fun n x H locs ls => (x.1 ≤ N + 1) ∧ (n + x.1 = N + 2) ∧ (ks_W N x.2.1 x.2.2.1 g x.2.2.2.1) ∧ (ks_gr P M nr x.2.1 x.2.2.1 x.2.2.2.1) ∧ (ks_R N x.2.1 x.2.2.1 x.2.2.2.1 x.2.2.2.2.1 x.2.2.2.2.2.1 x.2.2.2.2.2.2.1 x.2.2.2.2.2.2.2.1 x.2.2.2.2.2.2.2.2.1) ∧ (ks_X B Rs k o z x.2.2.2.2.1 x.2.2.2.2.2.1 x.2.2.2.2.2.2.1 x.2.2.2.2.2.2.2.1 x.2.2.2.2.2.2.2.2.1) ∧ (ks_eqv N P M g o z x.2.2.2.2.2.2.2.1 x.2.2.2.2.2.2.2.2.1) ∧ (ks_rf N P M g x.1 x.2.2.2.2.2.2.1 x.2.2.2.2.2.2.2.2.2.2.2.2.2.2 x.2.2.2.2.2.2.2.1 x.2.2.2.2.2.2.2.2.1) ∧ (d ≤ x.2.2.2.2.2.2.1) ∧ va_P (dC, dI) ksCl [(sa, .inr (1, [.int (nI N), .ref ra, .ref ta, .ref qa, .int lap])), (ra, .inr (0, [.ref rp, .ref rq, .int (nI g), .int (nI x.2.2.2.1)])), (rp, .inl (cP, 664, .inl x.2.1)), (rq, .inl (cM, 664, .inl x.2.2.1)), (ta, .inr (2, [.ref tb, .ref tr, .int (nI x.2.2.2.2.2.2.1), .int x.2.2.2.2.2.2.2.1, .int x.2.2.2.2.2.2.2.2.1])), (tb, .inl (cB, 16, .inl x.2.2.2.2.1)), (tr, .inl (cR, 16, .inl x.2.2.2.2.2.1)), (qa, .inr (2, [.ref qb, .ref qr, .int x.2.2.2.2.2.2.2.2.2.2.2.1, .int x.2.2.2.2.2.2.2.2.2.2.2.2.1, .int x.2.2.2.2.2.2.2.2.2.2.2.2.2.1])), (qb, .inl (cE, 16, .inl x.2.2.2.2.2.2.2.2.2.1)), (qr, .inl (cF, 16, .inl x.2.2.2.2.2.2.2.2.2.2.1))] H ∧ va_D A [(sa, .inr (1, [.int (nI N), .ref ra, .ref ta, .ref qa, .int lap])), (ra, .inr (0, [.ref rp, .ref rq, .int (nI g), .int (nI x.2.2.2.1)])), (rp, .inl (cP, 664, .inl x.2.1)), (rq, .inl (cM, 664, .inl x.2.2.1)), (ta, .inr (2, [.ref tb, .ref tr, .int (nI x.2.2.2.2.2.2.1), .int x.2.2.2.2.2.2.2.1, .int x.2.2.2.2.2.2.2.2.1])), (tb, .inl (cB, 16, .inl x.2.2.2.2.1)), (tr, .inl (cR, 16, .inl x.2.2.2.2.2.1)), (qa, .inr (2, [.ref qb, .ref qr, .int x.2.2.2.2.2.2.2.2.2.2.2.1, .int x.2.2.2.2.2.2.2.2.2.2.2.2.1, .int x.2.2.2.2.2.2.2.2.2.2.2.2.2.1])), (qb, .inl (cE, 16, .inl x.2.2.2.2.2.2.2.2.2.1)), (qr, .inl (cF, 16, .inl x.2.2.2.2.2.2.2.2.2.2.1))] ∧ va_S A s.heap H locs ∧ lv_has ls 8 [(0, .ref sa), (1, .int (nI d)), (2, .int x.2.2.2.2.2.2.2.2.2.2.2.2.2.2), (3, .int (nI x.1))]) 4 ?_ ?_ (N + 2) (0, P, M, nr, B, Rs, k, o, z, Bq, Rq, kq, oq, zq, 0) _ _ ls ⟨Nat.zero_le _, rfl, hW, ks_gr.rf, hR, ks_X.rf, ks_eqv.rf, Or.inl ⟨rfl, rfl⟩, hdk, hP, hD, hS, lv_sub hl [2, 3, 1, 0] rfl⟩
  · -- loop at 4
    intro n x H locs ls h9 ih
    obtain ⟨rd, Pa, Ma, na, Ba, Ra, ka, oa, za, Bx, Rx, kx, ox, zx, rf⟩ := x
    obtain ⟨i1, i2, i3, i4, i5, i6, i7, i8, i9, hP, hD, hS, hl⟩ := h9
    have i1 : rd ≤ N + 1 := i1
    have i2 : (n + 1) + rd = N + 2 := i2
    have i3 : ks_W N Pa Ma g na := i3
    have i4 : ks_gr P M nr Pa Ma na := i4
    have i5 : ks_R N Pa Ma na Ba Ra ka oa za := i5
    have i6 : ks_X B Rs k o z Ba Ra ka oa za := i6
    have i7 : ks_eqv N P M g o z oa za := i7
    have i8 : ks_rf N P M g rd ka rf oa za := i8
    have i9 : d ≤ ka := i9
    have hP : va_P (dC, dI) ksCl [(sa, .inr (1, [.int (nI N), .ref ra, .ref ta, .ref qa, .int lap])), (ra, .inr (0, [.ref rp, .ref rq, .int (nI g), .int (nI na)])), (rp, .inl (cP, 664, .inl Pa)), (rq, .inl (cM, 664, .inl Ma)), (ta, .inr (2, [.ref tb, .ref tr, .int (nI ka), .int oa, .int za])), (tb, .inl (cB, 16, .inl Ba)), (tr, .inl (cR, 16, .inl Ra)), (qa, .inr (2, [.ref qb, .ref qr, .int kx, .int ox, .int zx])), (qb, .inl (cE, 16, .inl Bx)), (qr, .inl (cF, 16, .inl Rx))] H := hP
    have hD : va_D A [(sa, .inr (1, [.int (nI N), .ref ra, .ref ta, .ref qa, .int lap])), (ra, .inr (0, [.ref rp, .ref rq, .int (nI g), .int (nI na)])), (rp, .inl (cP, 664, .inl Pa)), (rq, .inl (cM, 664, .inl Ma)), (ta, .inr (2, [.ref tb, .ref tr, .int (nI ka), .int oa, .int za])), (tb, .inl (cB, 16, .inl Ba)), (tr, .inl (cR, 16, .inl Ra)), (qa, .inr (2, [.ref qb, .ref qr, .int kx, .int ox, .int zx])), (qb, .inl (cE, 16, .inl Bx)), (qr, .inl (cF, 16, .inl Rx))] := hD
    have hl : lv_has ls 8 [(0, .ref sa), (1, .int (nI d)), (2, .int rf), (3, .int (nI rd))] := hl
    have hna : na ≤ 664 := by have := i3.2.1; omega
    have hga : g ≤ na := i3.1
    refine lv_iload_n hx hb dX1_descend_4 rfl (lv_at hl 3 rfl) ?_
    refine lv_aload_n hx hb dX1_descend_5 rfl (lv_at hl 0 rfl) ?_
    refine va_get (D := (dC, dI)) (ci := 1) (v := .int (nI N)) (C := RX1) (T := TX1) (N := 5) hx hb hts hiX1 hown hK hP 0 rfl rfl 0 (by decide) f9 (fun _ h9 => h9) rfl dX1_descend_6 ?_
    refine lv_icmp_gt (tgt := 147) hx hb dX1_descend_9 (by decide) (fun c9 => absurd c9 (nI_nlt (by have := i8.round i5; omega) (by omega))) (fun c9 => ?_)
    refine lv_aload_n hx hb dX1_descend_12 rfl (lv_at hl 0 rfl) ?_
    refine va_get (D := (dC, dI)) (ci := 1) (v := .ref ta) (C := RX1) (T := TX1) (N := 5) hx hb hts hiX1 hown hK hP 0 rfl rfl 2 (by decide) f22 (fun _ h9 => h9) rfl dX1_descend_13 ?_
    refine lv_aload_n hx hb dX1_descend_16 rfl (lv_at hl 0 rfl) ?_
    refine va_get (D := (dC, dI)) (ci := 1) (v := .ref ra) (C := RX1) (T := TX1) (N := 5) hx hb hts hiX1 hown hK hP 0 rfl rfl 1 (by decide) f15 (fun _ h9 => h9) rfl dX1_descend_17 ?_
    refine ks_calliV (As := [.ref ra]) (rest := []) (wr := [(sa, .inr (1, [.int (nI N), .ref ra, .ref ta, .ref qa, .int lap])), (qa, .inr (2, [.ref qb, .ref qr, .int kx, .int ox, .int zx])), (qb, .inl (cE, 16, .inl Bx)), (qr, .inl (cF, 16, .inl Rx))]) (wz := fun u => [(sa, .inr (1, [.int (nI N), .ref ra, .ref ta, .ref qa, .int lap])), (ra, .inr (0, [.ref rp, .ref rq, .int (nI g), .int (nI na)])), (rp, .inl (cP, 664, .inl Pa)), (rq, .inl (cM, 664, .inl Ma)), (ta, .inr (2, [.ref tb, .ref tr, .int (nI u.2.2.1), .int u.2.2.2.1, .int u.2.2.2.2])), (tb, .inl (cB, 16, .inl u.1)), (tr, .inl (cR, 16, .inl u.2.1)), (qa, .inr (2, [.ref qb, .ref qr, .int kx, .int ox, .int zx])), (qb, .inl (cE, 16, .inl Bx)), (qr, .inl (cF, 16, .inl Rx))]) ⟨hx, hb, hml, hown, hts⟩ (ks_propagate l dC dI ta tb tr cB cR ra rp rq cP cM Ba Ra ka oa za N Pa Ma g na hN i5 i3 hg) (cwV 1 hts gX1_descend_X2_propagate rfl rfl rfl (by decide +kernel) ⟨(by show 2 ≤ 3 + e9; omega), (by show 49 ≤ 73 + 27 * e9; omega)⟩) hK hP hD hS hA hNW [4, 5, 6, 1, 2, 3] [0, 7, 8, 9] [2, 3, 0, 1] [0, 7, 8, 9, 4, 5, 6, 1, 2, 3] rfl rfl rfl rfl (by decide) (by decide) (by decide) (ci := 2) (q0 := 0) rfl rfl rfl (fun _ => rfl) (fun _ => rfl) (by decide) rfl hl.1 rfl (Nat.le_of_ble_eq_true rfl) dX1_descend_20 ⟨Nat.le_of_ble_eq_true rfl, Nat.le_of_ble_eq_true rfl⟩ (fun r4 u9 H locs hw9 hK9 hP hD hS => ?_)
    obtain ⟨B1, R1, k1, o1, z1⟩ := u9
    have hpp : ks_pp N Pa Ma na Ba Ra ka oa za r4 B1 R1 k1 o1 z1 := hw9
    obtain ⟨j1, j2, j3, j4⟩ := id hpp
    have hk1 := j1.le
    have hkk := j2.1
    have hP : va_P (dC, dI) ksCl [(sa, .inr (1, [.int (nI N), .ref ra, .ref ta, .ref qa, .int lap])), (ra, .inr (0, [.ref rp, .ref rq, .int (nI g), .int (nI na)])), (rp, .inl (cP, 664, .inl Pa)), (rq, .inl (cM, 664, .inl Ma)), (ta, .inr (2, [.ref tb, .ref tr, .int (nI k1), .int o1, .int z1])), (tb, .inl (cB, 16, .inl B1)), (tr, .inl (cR, 16, .inl R1)), (qa, .inr (2, [.ref qb, .ref qr, .int kx, .int ox, .int zx])), (qb, .inl (cE, 16, .inl Bx)), (qr, .inl (cF, 16, .inl Rx))] H := hP
    have hD : va_D A [(sa, .inr (1, [.int (nI N), .ref ra, .ref ta, .ref qa, .int lap])), (ra, .inr (0, [.ref rp, .ref rq, .int (nI g), .int (nI na)])), (rp, .inl (cP, 664, .inl Pa)), (rq, .inl (cM, 664, .inl Ma)), (ta, .inr (2, [.ref tb, .ref tr, .int (nI k1), .int o1, .int z1])), (tb, .inl (cB, 16, .inl B1)), (tr, .inl (cR, 16, .inl R1)), (qa, .inr (2, [.ref qb, .ref qr, .int kx, .int ox, .int zx])), (qb, .inl (cE, 16, .inl Bx)), (qr, .inl (cF, 16, .inl Rx))] := hD
    refine lv_istore (lv' := [(4, .int r4), (0, .ref sa), (1, .int (nI d)), (2, .int rf), (3, .int (nI rd))]) hx hb dX1_descend_23 hl (by decide) rfl (fun ls hl => ?_)
    refine lv_iload hx hb dX1_descend_25 (lv_at hl 0 rfl) ?_
    refine lv_iconst (v := -1) hx hb dX1_descend_27 (by decide) ?_
    refine lv_icmp_eq (tgt := 39) hx hb dX1_descend_28 (by decide) (fun c28 => ?_) (fun c28 => ?_)
    · -- 28: jumps
      have hfix : ∀ c, c < na → ks_U (Pa c) (Ma c) o1 z1 := by
        rcases j4 with q | q
        · exact q.2
        · exact absurd c28 q.1
      refine lv_aload_n hx hb dX1_descend_39 rfl (lv_at hl 1 rfl) ?_
      refine va_get (D := (dC, dI)) (ci := 1) (v := .ref ta) (C := RX1) (T := TX1) (N := 5) hx hb hts hiX1 hown hK hP 0 rfl rfl 2 (by decide) f22 (fun _ h9 => h9) rfl dX1_descend_40 ?_
      refine lv_aload_n hx hb dX1_descend_43 rfl (lv_at hl 1 rfl) ?_
      refine va_get (D := (dC, dI)) (ci := 1) (v := .int (nI N)) (C := RX1) (T := TX1) (N := 5) hx hb hts hiX1 hown hK hP 0 rfl rfl 0 (by decide) f9 (fun _ h9 => h9) rfl dX1_descend_44 ?_
      refine ks_calliV (As := [.int (nI N)]) (rest := []) (wr := [(sa, .inr (1, [.int (nI N), .ref ra, .ref ta, .ref qa, .int lap])), (ra, .inr (0, [.ref rp, .ref rq, .int (nI g), .int (nI na)])), (rp, .inl (cP, 664, .inl Pa)), (rq, .inl (cM, 664, .inl Ma)), (qa, .inr (2, [.ref qb, .ref qr, .int kx, .int ox, .int zx])), (qb, .inl (cE, 16, .inl Bx)), (qr, .inl (cF, 16, .inl Rx))]) (wz := fun _ => [(sa, .inr (1, [.int (nI N), .ref ra, .ref ta, .ref qa, .int lap])), (ra, .inr (0, [.ref rp, .ref rq, .int (nI g), .int (nI na)])), (rp, .inl (cP, 664, .inl Pa)), (rq, .inl (cM, 664, .inl Ma)), (ta, .inr (2, [.ref tb, .ref tr, .int (nI k1), .int o1, .int z1])), (tb, .inl (cB, 16, .inl B1)), (tr, .inl (cR, 16, .inl R1)), (qa, .inr (2, [.ref qb, .ref qr, .int kx, .int ox, .int zx])), (qb, .inl (cE, 16, .inl Bx)), (qr, .inl (cF, 16, .inl Rx))]) ⟨hx, hb, hml, hown, hts⟩ (ks_firstFree l dC dI ta tb tr cB cR B1 R1 (nI k1) o1 z1 N hN) (cwV 1 hts gX1_descend_X2_firstFree rfl rfl rfl (by decide +kernel) ⟨(by show 1 ≤ 3 + e9; omega), (by show 23 ≤ 73 + 27 * e9; omega)⟩) hK hP hD hS hA hNW [4, 5, 6] [0, 1, 2, 3, 7, 8, 9] [2, 3] [0, 1, 2, 3, 7, 8, 9, 4, 5, 6] rfl rfl rfl rfl (by decide) (by decide) (by decide) (ci := 2) (q0 := 0) rfl rfl rfl (fun _ => rfl) (fun _ => rfl) (by decide) rfl hl.1 rfl (Nat.le_of_ble_eq_true rfl) dX1_descend_47 ⟨Nat.le_of_ble_eq_true rfl, Nat.le_of_ble_eq_true rfl⟩ (fun r5 u9 H locs hw9 hK9 hP hD hS => ?_)
      have hff : ks_ff N o1 z1 r5 := hw9
      have hP : va_P (dC, dI) ksCl [(sa, .inr (1, [.int (nI N), .ref ra, .ref ta, .ref qa, .int lap])), (ra, .inr (0, [.ref rp, .ref rq, .int (nI g), .int (nI na)])), (rp, .inl (cP, 664, .inl Pa)), (rq, .inl (cM, 664, .inl Ma)), (ta, .inr (2, [.ref tb, .ref tr, .int (nI k1), .int o1, .int z1])), (tb, .inl (cB, 16, .inl B1)), (tr, .inl (cR, 16, .inl R1)), (qa, .inr (2, [.ref qb, .ref qr, .int kx, .int ox, .int zx])), (qb, .inl (cE, 16, .inl Bx)), (qr, .inl (cF, 16, .inl Rx))] H := hP
      have hD : va_D A [(sa, .inr (1, [.int (nI N), .ref ra, .ref ta, .ref qa, .int lap])), (ra, .inr (0, [.ref rp, .ref rq, .int (nI g), .int (nI na)])), (rp, .inl (cP, 664, .inl Pa)), (rq, .inl (cM, 664, .inl Ma)), (ta, .inr (2, [.ref tb, .ref tr, .int (nI k1), .int o1, .int z1])), (tb, .inl (cB, 16, .inl B1)), (tr, .inl (cR, 16, .inl R1)), (qa, .inr (2, [.ref qb, .ref qr, .int kx, .int ox, .int zx])), (qb, .inl (cE, 16, .inl Bx)), (qr, .inl (cF, 16, .inl Rx))] := hD
      refine lv_istore (lv' := [(5, .int r5), (4, .int r4), (0, .ref sa), (1, .int (nI d)), (2, .int rf), (3, .int (nI rd))]) hx hb dX1_descend_50 hl (by decide) rfl (fun ls hl => ?_)
      refine lv_iload hx hb dX1_descend_52 (lv_at hl 0 rfl) ?_
      refine lv_if_ne (tgt := 65) hx hb dX1_descend_54 (by decide) (fun c54 => ?_) (fun c54 => ?_)
      · -- 54: jumps
        obtain ⟨p9, hp9, ep9, hf9, hup9⟩ : ∃ p, p < N ∧ r5 = ks_on p ∧ ks_fr o1 z1 p ∧ ∀ q, p < q → q < N → ¬ ks_fr o1 z1 q := by
          rcases hff with q | q
          · exact absurd q.1 c54
          · exact q
        subst ep9
        have hfree := j1.free hp9 hf9
        refine lv_iload_n hx hb dX1_descend_65 rfl (lv_at hl 3 rfl) ?_
        refine lv_aload_n hx hb dX1_descend_66 rfl (lv_at hl 2 rfl) ?_
        refine va_get (D := (dC, dI)) (ci := 1) (v := .int (nI N)) (C := RX1) (T := TX1) (N := 5) hx hb hts hiX1 hown hK hP 0 rfl rfl 0 (by decide) f9 (fun _ h9 => h9) rfl dX1_descend_67 ?_
        refine lv_icmp_lt (tgt := 75) hx hb dX1_descend_70 (by decide) (fun c70 => ?_) (fun c70 => absurd (nI_lt (by omega) (by omega)) c70)
        refine lv_aload_n hx hb dX1_descend_75 rfl (lv_at hl 2 rfl) ?_
        refine va_get (D := (dC, dI)) (ci := 1) (v := .ref ta) (C := RX1) (T := TX1) (N := 5) hx hb hts hiX1 hown hK hP 0 rfl rfl 2 (by decide) f22 (fun _ h9 => h9) rfl dX1_descend_76 ?_
        refine va_getN (D := (dC, dI)) (ci := 2) (v := .int (nI k1)) (C := RX2) (T := TX2) (N := 5) hx hb hts hiX2 hown hK hP 4 rfl rfl 2 (by decide) f56 (fun _ h9 => h9) rfl dX1_descend_79 ?_
        refine lv_istore (lv' := [(6, .int (nI k1)), (5, .int (ks_on p9)), (4, .int r4), (0, .ref sa), (1, .int (nI d)), (2, .int rf), (3, .int (nI rd))]) hx hb dX1_descend_82 hl (by decide) rfl (fun ls hl => ?_)
        refine lv_aload_n hx hb dX1_descend_84 rfl (lv_at hl 3 rfl) ?_
        refine va_get (D := (dC, dI)) (ci := 1) (v := .ref ta) (C := RX1) (T := TX1) (N := 5) hx hb hts hiX1 hown hK hP 0 rfl rfl 2 (by decide) f22 (fun _ h9 => h9) rfl dX1_descend_85 ?_
        refine lv_iload hx hb dX1_descend_88 (lv_at hl 1 rfl) ?_
        refine lv_iload hx hb dX1_descend_90 (lv_at hl 1 rfl) ?_
        refine lv_iload_n hx hb dX1_descend_92 rfl (lv_at hl 5 rfl) ?_
        refine lv_icmp_ne (tgt := 100) hx hb dX1_descend_93 (by decide) (fun c93 => ?_) (fun c93 => ?_)
        · -- 93: jumps
          refine lv_iconst (v := 0) hx hb dX1_descend_100 (by decide) ?_
          refine lv_iconst (v := 0) hx hb dX1_descend_101 (by decide) ?_
          refine ks_callvV (As := [.int (ks_on p9), .int 0, .int 0]) (rest := []) (wr := [(sa, .inr (1, [.int (nI N), .ref ra, .ref ta, .ref qa, .int lap])), (ra, .inr (0, [.ref rp, .ref rq, .int (nI g), .int (nI na)])), (rp, .inl (cP, 664, .inl Pa)), (rq, .inl (cM, 664, .inl Ma)), (qa, .inr (2, [.ref qb, .ref qr, .int kx, .int ox, .int zx])), (qb, .inl (cE, 16, .inl Bx)), (qr, .inl (cF, 16, .inl Rx))]) (wz := fun _ => [(sa, .inr (1, [.int (nI N), .ref ra, .ref ta, .ref qa, .int lap])), (ra, .inr (0, [.ref rp, .ref rq, .int (nI g), .int (nI na)])), (rp, .inl (cP, 664, .inl Pa)), (rq, .inl (cM, 664, .inl Ma)), (ta, .inr (2, [.ref tb, .ref tr, .int (nI (k1 + 1)), .int (if false = true then o1 ||| ks_on p9 else o1), .int (if false = true then z1 else z1 ||| ks_on p9)])), (tb, .inl (cB, 16, .inl (upd B1 k1 (ks_on p9)))), (tr, .inl (cR, 16, .inl (upd R1 k1 0))), (qa, .inr (2, [.ref qb, .ref qr, .int kx, .int ox, .int zx])), (qb, .inl (cE, 16, .inl Bx)), (qr, .inl (cF, 16, .inl Rx))]) ⟨hx, hb, hml, hown, hts⟩ (ks_assign l dC dI ta tb tr cB cR B1 R1 k1 o1 z1 (ks_on p9) 0 false (by omega)) (cwV 3 hts gX1_descend_X2_assign rfl rfl rfl (by decide +kernel) ⟨(by show 1 ≤ 3 + e9; omega), (by show 23 ≤ 73 + 27 * e9; omega)⟩) hK hP hD hS hA hNW [4, 5, 6] [0, 1, 2, 3, 7, 8, 9] [2, 3] [0, 1, 2, 3, 7, 8, 9, 4, 5, 6] rfl rfl rfl rfl (by decide) (by decide) (by decide) (ci := 2) (q0 := 0) rfl rfl rfl (fun _ => rfl) (fun _ => rfl) (by decide) rfl hl.1 rfl (Nat.le_of_ble_eq_true rfl) dX1_descend_102 ⟨Nat.le_of_ble_eq_true rfl, Nat.le_of_ble_eq_true rfl⟩ (fun u9 H locs hw9 hK9 hP hD hS => ?_)
          have hP : va_P (dC, dI) ksCl [(sa, .inr (1, [.int (nI N), .ref ra, .ref ta, .ref qa, .int lap])), (ra, .inr (0, [.ref rp, .ref rq, .int (nI g), .int (nI na)])), (rp, .inl (cP, 664, .inl Pa)), (rq, .inl (cM, 664, .inl Ma)), (ta, .inr (2, [.ref tb, .ref tr, .int (nI (k1 + 1)), .int (if false = true then o1 ||| ks_on p9 else o1), .int (if false = true then z1 else z1 ||| ks_on p9)])), (tb, .inl (cB, 16, .inl (upd B1 k1 (ks_on p9)))), (tr, .inl (cR, 16, .inl (upd R1 k1 0))), (qa, .inr (2, [.ref qb, .ref qr, .int kx, .int ox, .int zx])), (qb, .inl (cE, 16, .inl Bx)), (qr, .inl (cF, 16, .inl Rx))] H := hP
          have hD : va_D A [(sa, .inr (1, [.int (nI N), .ref ra, .ref ta, .ref qa, .int lap])), (ra, .inr (0, [.ref rp, .ref rq, .int (nI g), .int (nI na)])), (rp, .inl (cP, 664, .inl Pa)), (rq, .inl (cM, 664, .inl Ma)), (ta, .inr (2, [.ref tb, .ref tr, .int (nI (k1 + 1)), .int (if false = true then o1 ||| ks_on p9 else o1), .int (if false = true then z1 else z1 ||| ks_on p9)])), (tb, .inl (cB, 16, .inl (upd B1 k1 (ks_on p9)))), (tr, .inl (cR, 16, .inl (upd R1 k1 0))), (qa, .inr (2, [.ref qb, .ref qr, .int kx, .int ox, .int zx])), (qb, .inl (cE, 16, .inl Bx)), (qr, .inl (cF, 16, .inl Rx))] := hD
          refine lv_aload_n hx hb dX1_descend_105 rfl (lv_at hl 3 rfl) ?_
          refine lv_iload_n hx hb dX1_descend_106 rfl (lv_at hl 4 rfl) ?_
          refine lv_iconst (v := 1) hx hb dX1_descend_107 (by decide) ?_
          refine lv_iadd hx hb dX1_descend_108 ?_
          obtain ⟨e8, he8⟩ : ∃ e8, e9 = e8 + 1 := ⟨e9 - 1, by omega⟩
          have hR2 := j1.assign hN hp9 hf9 false 0 (Or.inl rfl)
          refine ks_top (y := nI (d + 1)) (nI_1 d) ?_
          refine ks_calliV (As := [.int (nI (d + 1))]) (rest := []) (wr := []) (wz := fun u => [(sa, .inr (1, [.int (nI N), .ref ra, .ref ta, .ref qa, .int lap])), (ra, .inr (0, [.ref rp, .ref rq, .int (nI g), .int (nI u.2.2.1)])), (rp, .inl (cP, 664, .inl u.1)), (rq, .inl (cM, 664, .inl u.2.1)), (ta, .inr (2, [.ref tb, .ref tr, .int (nI u.2.2.2.2.2.1), .int u.2.2.2.2.2.2.1, .int u.2.2.2.2.2.2.2.1])), (tb, .inl (cB, 16, .inl u.2.2.2.1)), (tr, .inl (cR, 16, .inl u.2.2.2.2.1)), (qa, .inr (2, [.ref qb, .ref qr, .int u.2.2.2.2.2.2.2.2.2.2.1, .int u.2.2.2.2.2.2.2.2.2.2.2.1, .int u.2.2.2.2.2.2.2.2.2.2.2.2])), (qb, .inl (cE, 16, .inl u.2.2.2.2.2.2.2.2.1)), (qr, .inl (cF, 16, .inl u.2.2.2.2.2.2.2.2.2.1))]) ⟨hx, hb, hml, hown, hts⟩ (IH e8 he8 sa ta tb tr cB cR qa qb qr cE cF ra rp rq cP cM N lap Pa Ma g na (upd B1 k1 (ks_on p9)) (upd R1 k1 0) (k1 + 1) (if false = true then o1 ||| ks_on p9 else o1) (if false = true then z1 else z1 ||| ks_on p9) Bx Rx kx ox zx (d + 1) hN hg i3 hR2 (by omega) (by omega)) (cwV 1 hts gX1_descend_X1_descend rfl rfl rfl (by decide +kernel) ⟨by rw [he8]; exact Nat.le_refl _, by rw [he8]; show 8 + (8 + 11) + (73 + 27 * e8) ≤ 73 + 27 * (e8 + 1); omega⟩) hK hP hD hS hA hNW [0, 1, 2, 3, 4, 5, 6, 7, 8, 9] [] [0, 1, 2, 3, 4, 5] [0, 1, 2, 3, 4, 5, 6, 7, 8, 9] rfl rfl rfl rfl (by decide) (by decide) (by decide) (ci := 1) (q0 := 0) rfl rfl rfl (fun _ => rfl) (fun _ => rfl) (by decide) rfl hl.1 rfl (Nat.le_of_ble_eq_true rfl) dX1_descend_109 ⟨Nat.le_of_ble_eq_true rfl, Nat.le_of_ble_eq_true rfl⟩ (fun r7 u9 H locs hw9 hK9 hP hD hS => ?_)
          obtain ⟨P7, M7, n7, B7, R7, k7, o7, z7, B8, R8, k8, o8, z8⟩ := u9
          obtain ⟨s1, s2, s3, s4, s5⟩ := hw9
          have s5 := ks_L.ext (i4.low hW.1) s5
          have g1 := i4
          have x4 := (ks_X.assign (B := B1) (Rs := R1) (k := k1) (o := o1) (z := z1) (ks_on p9) 0 false).tr s4
          have hP : va_P (dC, dI) ksCl [(sa, .inr (1, [.int (nI N), .ref ra, .ref ta, .ref qa, .int lap])), (ra, .inr (0, [.ref rp, .ref rq, .int (nI g), .int (nI n7)])), (rp, .inl (cP, 664, .inl P7)), (rq, .inl (cM, 664, .inl M7)), (ta, .inr (2, [.ref tb, .ref tr, .int (nI k7), .int o7, .int z7])), (tb, .inl (cB, 16, .inl B7)), (tr, .inl (cR, 16, .inl R7)), (qa, .inr (2, [.ref qb, .ref qr, .int k8, .int o8, .int z8])), (qb, .inl (cE, 16, .inl B8)), (qr, .inl (cF, 16, .inl R8))] H := hP
          have hD : va_D A [(sa, .inr (1, [.int (nI N), .ref ra, .ref ta, .ref qa, .int lap])), (ra, .inr (0, [.ref rp, .ref rq, .int (nI g), .int (nI n7)])), (rp, .inl (cP, 664, .inl P7)), (rq, .inl (cM, 664, .inl M7)), (ta, .inr (2, [.ref tb, .ref tr, .int (nI k7), .int o7, .int z7])), (tb, .inl (cB, 16, .inl B7)), (tr, .inl (cR, 16, .inl R7)), (qa, .inr (2, [.ref qb, .ref qr, .int k8, .int o8, .int z8])), (qb, .inl (cE, 16, .inl B8)), (qr, .inl (cF, 16, .inl R8))] := hD
          refine lv_istore (lv' := [(7, .int r7), (6, .int (nI k1)), (5, .int (ks_on p9)), (4, .int r4), (0, .ref sa), (1, .int (nI d)), (2, .int rf), (3, .int (nI rd))]) hx hb dX1_descend_112 hl (by decide) rfl (fun ls hl => ?_)
          refine lv_iload hx hb dX1_descend_114 (lv_at hl 0 rfl) ?_
          refine lv_iconst (v := -1) hx hb dX1_descend_116 (by decide) ?_
          refine lv_icmp_ne (tgt := 126) hx hb dX1_descend_117 (by decide) (fun c117 => ?_) (fun c117 => ?_)
          · -- 117: jumps
            have hLr := (i7.tr (ks_eqv.ext (i4.low hW.1) (hpp.eqv i3))).L (ks_L.low hN hp9 hup9 c117 s5)
            refine lv_iload hx hb dX1_descend_126 (lv_at hl 0 rfl) ?_
            have hP9 : va_P (dC, dI) ksCl [(sa, .inr (1, [.int (nI N), .ref ra, .ref ta, .ref qa, .int lap])), (ra, .inr (0, [.ref rp, .ref rq, .int (nI g), .int (nI n7)])), (rp, .inl (cP, 664, .inl P7)), (rq, .inl (cM, 664, .inl M7)), (ta, .inr (2, [.ref tb, .ref tr, .int (nI k7), .int o7, .int z7])), (tb, .inl (cB, 16, .inl B7)), (tr, .inl (cR, 16, .inl R7)), (qa, .inr (2, [.ref qb, .ref qr, .int k8, .int o8, .int z8])), (qb, .inl (cE, 16, .inl B8)), (qr, .inl (cF, 16, .inl R8))] _ := hP
            have hD9 : va_D A [(sa, .inr (1, [.int (nI N), .ref ra, .ref ta, .ref qa, .int lap])), (ra, .inr (0, [.ref rp, .ref rq, .int (nI g), .int (nI n7)])), (rp, .inl (cP, 664, .inl P7)), (rq, .inl (cM, 664, .inl M7)), (ta, .inr (2, [.ref tb, .ref tr, .int (nI k7), .int o7, .int z7])), (tb, .inl (cB, 16, .inl B7)), (tr, .inl (cR, 16, .inl R7)), (qa, .inr (2, [.ref qb, .ref qr, .int k8, .int o8, .int z8])), (qb, .inl (cE, 16, .inl B8)), (qr, .inl (cF, 16, .inl R8))] := hD
            have hK9 : va_K (dC, dI) ksCl [(cP, .int), (cM, .int), (cB, .int), (cR, .int), (cE, .int), (cF, .int)] s := hK
            exact W.iret (v := r7) hx hb hr (fun t ht hW9 => ⟨⟨r7, (P7, M7, n7, B7, R7, k7, o7, z7, B8, R8, k8, o8, z8), rfl, ⟨s1, i4.tr s2, s3, (i6.tr j2).tr x4, hLr⟩, by rw [ht]; exact hP9, va_K.moved hW9.alike hK9, hD9⟩, hS.F ht⟩) hS.2.2 dX1_descend_128
          · -- 117: goes on
            have e7 : r7 = -1 := c117
            have hl9 := ks_L.nolow hN hp9 e7 s5
            refine lv_iload hx hb dX1_descend_120 (lv_at hl 2 rfl) ?_
            refine lv_iload_n hx hb dX1_descend_122 rfl (lv_at hl 6 rfl) ?_
            refine lv_icmp_ne (tgt := 129) hx hb dX1_descend_123 (by decide) (fun c123 => ?_) (fun c123 => absurd c123 c93)
            refine lv_aload_n hx hb dX1_descend_129 rfl (lv_at hl 4 rfl) ?_
            refine va_get (D := (dC, dI)) (ci := 1) (v := .ref ta) (C := RX1) (T := TX1) (N := 5) hx hb hts hiX1 hown hK hP 0 rfl rfl 2 (by decide) f22 (fun _ h9 => h9) rfl dX1_descend_130 ?_
            refine lv_iload hx hb dX1_descend_133 (lv_at hl 1 rfl) ?_
            refine ks_callvV (As := [.int (nI k1)]) (rest := []) (wr := [(sa, .inr (1, [.int (nI N), .ref ra, .ref ta, .ref qa, .int lap])), (ra, .inr (0, [.ref rp, .ref rq, .int (nI g), .int (nI n7)])), (rp, .inl (cP, 664, .inl P7)), (rq, .inl (cM, 664, .inl M7)), (qa, .inr (2, [.ref qb, .ref qr, .int k8, .int o8, .int z8])), (qb, .inl (cE, 16, .inl B8)), (qr, .inl (cF, 16, .inl R8))]) (wz := fun u => [(sa, .inr (1, [.int (nI N), .ref ra, .ref ta, .ref qa, .int lap])), (ra, .inr (0, [.ref rp, .ref rq, .int (nI g), .int (nI n7)])), (rp, .inl (cP, 664, .inl P7)), (rq, .inl (cM, 664, .inl M7)), (ta, .inr (2, [.ref tb, .ref tr, .int (nI k1), .int u.1, .int u.2])), (tb, .inl (cB, 16, .inl B7)), (tr, .inl (cR, 16, .inl R7)), (qa, .inr (2, [.ref qb, .ref qr, .int k8, .int o8, .int z8])), (qb, .inl (cE, 16, .inl B8)), (qr, .inl (cF, 16, .inl R8))]) ⟨hx, hb, hml, hown, hts⟩ (ks_goBack l dC dI ta tb tr cB cR B7 R7 k7 k1 o7 z7 (by have h9 : k7 ≤ N := s3.le; omega) x4.1) (cwV 1 hts gX1_descend_X2_goBackTo rfl rfl rfl (by decide +kernel) ⟨(by show 2 ≤ 3 + e9; omega), (by show 37 ≤ 73 + 27 * e9; omega)⟩) hK hP hD hS hA hNW [4, 5, 6] [0, 1, 2, 3, 7, 8, 9] [2, 3] [0, 1, 2, 3, 7, 8, 9, 4, 5, 6] rfl rfl rfl rfl (by decide) (by decide) (by decide) (ci := 2) (q0 := 0) rfl rfl rfl (fun _ => rfl) (fun _ => rfl) (by decide) rfl hl.1 rfl (Nat.le_of_ble_eq_true rfl) dX1_descend_135 ⟨Nat.le_of_ble_eq_true rfl, Nat.le_of_ble_eq_true rfl⟩ (fun u9 H locs hw9 hK9 hP hD hS => ?_)
            obtain ⟨o6, z6⟩ := u9
            have hdk1 : d ≤ k1 := by omega
            obtain ⟨y1, y2⟩ := hw9
            obtain ⟨eo6, ez6, y3⟩ := ks_R.back j1 hN s3 x4 y1 y2
            try dsimp only at eo6 ez6
            have j5 := s2.R y3
            have j6 : ks_X B Rs k o z B7 R7 k1 o1 z1 := i6.tr (j2.tr ⟨Nat.le_refl _, x4.2.1, fun _ => ⟨id, id⟩⟩)
            have j7 := i7.tr (ks_eqv.ext (i4.low hW.1) (hpp.eqv i3))
            have j8 := ks_rf.next hN i8 i5 j1 j2 hp9 hf9 hup9 c93 hl9
            have hP : va_P (dC, dI) ksCl [(sa, .inr (1, [.int (nI N), .ref ra, .ref ta, .ref qa, .int lap])), (ra, .inr (0, [.ref rp, .ref rq, .int (nI g), .int (nI n7)])), (rp, .inl (cP, 664, .inl P7)), (rq, .inl (cM, 664, .inl M7)), (ta, .inr (2, [.ref tb, .ref tr, .int (nI k1), .int o6, .int z6])), (tb, .inl (cB, 16, .inl B7)), (tr, .inl (cR, 16, .inl R7)), (qa, .inr (2, [.ref qb, .ref qr, .int k8, .int o8, .int z8])), (qb, .inl (cE, 16, .inl B8)), (qr, .inl (cF, 16, .inl R8))] H := hP
            have hD : va_D A [(sa, .inr (1, [.int (nI N), .ref ra, .ref ta, .ref qa, .int lap])), (ra, .inr (0, [.ref rp, .ref rq, .int (nI g), .int (nI n7)])), (rp, .inl (cP, 664, .inl P7)), (rq, .inl (cM, 664, .inl M7)), (ta, .inr (2, [.ref tb, .ref tr, .int (nI k1), .int o6, .int z6])), (tb, .inl (cB, 16, .inl B7)), (tr, .inl (cR, 16, .inl R7)), (qa, .inr (2, [.ref qb, .ref qr, .int k8, .int o8, .int z8])), (qb, .inl (cE, 16, .inl B8)), (qr, .inl (cF, 16, .inl R8))] := hD
            rw [eo6, ez6] at hP hD
            refine lv_iload hx hb dX1_descend_138 (lv_at hl 2 rfl) ?_
            refine lv_istore_n (lv' := [(2, .int (ks_on p9)), (7, .int r7), (6, .int (nI k1)), (5, .int (ks_on p9)), (4, .int r4), (0, .ref sa), (1, .int (nI d)), (3, .int (nI rd))]) hx hb dX1_descend_140 rfl hl (by decide) rfl (fun ls hl => ?_)
            refine lv_iinc (v := nI (rd + 1)) (lv' := [(3, .int (nI (rd + 1))), (2, .int (ks_on p9)), (7, .int r7), (6, .int (nI k1)), (5, .int (ks_on p9)), (4, .int r4), (0, .ref sa), (1, .int (nI d))]) hx hb dX1_descend_141 hl (k := 7) rfl (nI_1 _) (by decide) rfl (fun ls hl => ?_)
            refine lv_goto (tgt := 4) hx hb dX1_descend_144 (by decide) ?_
            exact ih (rd + 1, P7, M7, n7, B7, R7, k1, o1, z1, B8, R8, k8, o8, z8, ks_on p9) _ _ _ ⟨by have := hk1; have := i8.round i5; omega, by omega, s1, g1.tr s2, j5, j6, j7, j8, hdk1, hP, hD, hS, lv_sub hl [6, 7, 1, 0] rfl⟩
        · -- 93: goes on
          have e93 : ks_on p9 = rf := c93
          refine lv_iconst (v := 1) hx hb dX1_descend_96 (by decide) ?_
          refine lv_goto (tgt := 101) hx hb dX1_descend_97 (by decide) ?_
          refine lv_iconst (v := 0) hx hb dX1_descend_101 (by decide) ?_
          refine ks_callvV (As := [.int (ks_on p9), .int 1, .int 0]) (rest := []) (wr := [(sa, .inr (1, [.int (nI N), .ref ra, .ref ta, .ref qa, .int lap])), (ra, .inr (0, [.ref rp, .ref rq, .int (nI g), .int (nI na)])), (rp, .inl (cP, 664, .inl Pa)), (rq, .inl (cM, 664, .inl Ma)), (qa, .inr (2, [.ref qb, .ref qr, .int kx, .int ox, .int zx])), (qb, .inl (cE, 16, .inl Bx)), (qr, .inl (cF, 16, .inl Rx))]) (wz := fun _ => [(sa, .inr (1, [.int (nI N), .ref ra, .ref ta, .ref qa, .int lap])), (ra, .inr (0, [.ref rp, .ref rq, .int (nI g), .int (nI na)])), (rp, .inl (cP, 664, .inl Pa)), (rq, .inl (cM, 664, .inl Ma)), (ta, .inr (2, [.ref tb, .ref tr, .int (nI (k1 + 1)), .int (if true = true then o1 ||| ks_on p9 else o1), .int (if true = true then z1 else z1 ||| ks_on p9)])), (tb, .inl (cB, 16, .inl (upd B1 k1 (ks_on p9)))), (tr, .inl (cR, 16, .inl (upd R1 k1 0))), (qa, .inr (2, [.ref qb, .ref qr, .int kx, .int ox, .int zx])), (qb, .inl (cE, 16, .inl Bx)), (qr, .inl (cF, 16, .inl Rx))]) ⟨hx, hb, hml, hown, hts⟩ (ks_assign l dC dI ta tb tr cB cR B1 R1 k1 o1 z1 (ks_on p9) 0 true (by omega)) (cwV 3 hts gX1_descend_X2_assign rfl rfl rfl (by decide +kernel) ⟨(by show 1 ≤ 3 + e9; omega), (by show 23 ≤ 73 + 27 * e9; omega)⟩) hK hP hD hS hA hNW [4, 5, 6] [0, 1, 2, 3, 7, 8, 9] [2, 3] [0, 1, 2, 3, 7, 8, 9, 4, 5, 6] rfl rfl rfl rfl (by decide) (by decide) (by decide) (ci := 2) (q0 := 0) rfl rfl rfl (fun _ => rfl) (fun _ => rfl) (by decide) rfl hl.1 rfl (Nat.le_of_ble_eq_true rfl) dX1_descend_102 ⟨Nat.le_of_ble_eq_true rfl, Nat.le_of_ble_eq_true rfl⟩ (fun u9 H locs hw9 hK9 hP hD hS => ?_)
          have hP : va_P (dC, dI) ksCl [(sa, .inr (1, [.int (nI N), .ref ra, .ref ta, .ref qa, .int lap])), (ra, .inr (0, [.ref rp, .ref rq, .int (nI g), .int (nI na)])), (rp, .inl (cP, 664, .inl Pa)), (rq, .inl (cM, 664, .inl Ma)), (ta, .inr (2, [.ref tb, .ref tr, .int (nI (k1 + 1)), .int (if true = true then o1 ||| ks_on p9 else o1), .int (if true = true then z1 else z1 ||| ks_on p9)])), (tb, .inl (cB, 16, .inl (upd B1 k1 (ks_on p9)))), (tr, .inl (cR, 16, .inl (upd R1 k1 0))), (qa, .inr (2, [.ref qb, .ref qr, .int kx, .int ox, .int zx])), (qb, .inl (cE, 16, .inl Bx)), (qr, .inl (cF, 16, .inl Rx))] H := hP
          have hD : va_D A [(sa, .inr (1, [.int (nI N), .ref ra, .ref ta, .ref qa, .int lap])), (ra, .inr (0, [.ref rp, .ref rq, .int (nI g), .int (nI na)])), (rp, .inl (cP, 664, .inl Pa)), (rq, .inl (cM, 664, .inl Ma)), (ta, .inr (2, [.ref tb, .ref tr, .int (nI (k1 + 1)), .int (if true = true then o1 ||| ks_on p9 else o1), .int (if true = true then z1 else z1 ||| ks_on p9)])), (tb, .inl (cB, 16, .inl (upd B1 k1 (ks_on p9)))), (tr, .inl (cR, 16, .inl (upd R1 k1 0))), (qa, .inr (2, [.ref qb, .ref qr, .int kx, .int ox, .int zx])), (qb, .inl (cE, 16, .inl Bx)), (qr, .inl (cF, 16, .inl Rx))] := hD
          refine lv_aload_n hx hb dX1_descend_105 rfl (lv_at hl 3 rfl) ?_
          refine lv_iload_n hx hb dX1_descend_106 rfl (lv_at hl 4 rfl) ?_
          refine lv_iconst (v := 1) hx hb dX1_descend_107 (by decide) ?_
          refine lv_iadd hx hb dX1_descend_108 ?_
          obtain ⟨e8, he8⟩ : ∃ e8, e9 = e8 + 1 := ⟨e9 - 1, by omega⟩
          have hR2 := j1.assign hN hp9 hf9 true 0 (Or.inl rfl)
          refine ks_top (y := nI (d + 1)) (nI_1 d) ?_
          refine ks_calliV (As := [.int (nI (d + 1))]) (rest := []) (wr := []) (wz := fun u => [(sa, .inr (1, [.int (nI N), .ref ra, .ref ta, .ref qa, .int lap])), (ra, .inr (0, [.ref rp, .ref rq, .int (nI g), .int (nI u.2.2.1)])), (rp, .inl (cP, 664, .inl u.1)), (rq, .inl (cM, 664, .inl u.2.1)), (ta, .inr (2, [.ref tb, .ref tr, .int (nI u.2.2.2.2.2.1), .int u.2.2.2.2.2.2.1, .int u.2.2.2.2.2.2.2.1])), (tb, .inl (cB, 16, .inl u.2.2.2.1)), (tr, .inl (cR, 16, .inl u.2.2.2.2.1)), (qa, .inr (2, [.ref qb, .ref qr, .int u.2.2.2.2.2.2.2.2.2.2.1, .int u.2.2.2.2.2.2.2.2.2.2.2.1, .int u.2.2.2.2.2.2.2.2.2.2.2.2])), (qb, .inl (cE, 16, .inl u.2.2.2.2.2.2.2.2.1)), (qr, .inl (cF, 16, .inl u.2.2.2.2.2.2.2.2.2.1))]) ⟨hx, hb, hml, hown, hts⟩ (IH e8 he8 sa ta tb tr cB cR qa qb qr cE cF ra rp rq cP cM N lap Pa Ma g na (upd B1 k1 (ks_on p9)) (upd R1 k1 0) (k1 + 1) (if true = true then o1 ||| ks_on p9 else o1) (if true = true then z1 else z1 ||| ks_on p9) Bx Rx kx ox zx (d + 1) hN hg i3 hR2 (by omega) (by omega)) (cwV 1 hts gX1_descend_X1_descend rfl rfl rfl (by decide +kernel) ⟨by rw [he8]; exact Nat.le_refl _, by rw [he8]; show 8 + (8 + 11) + (73 + 27 * e8) ≤ 73 + 27 * (e8 + 1); omega⟩) hK hP hD hS hA hNW [0, 1, 2, 3, 4, 5, 6, 7, 8, 9] [] [0, 1, 2, 3, 4, 5] [0, 1, 2, 3, 4, 5, 6, 7, 8, 9] rfl rfl rfl rfl (by decide) (by decide) (by decide) (ci := 1) (q0 := 0) rfl rfl rfl (fun _ => rfl) (fun _ => rfl) (by decide) rfl hl.1 rfl (Nat.le_of_ble_eq_true rfl) dX1_descend_109 ⟨Nat.le_of_ble_eq_true rfl, Nat.le_of_ble_eq_true rfl⟩ (fun r7 u9 H locs hw9 hK9 hP hD hS => ?_)
          obtain ⟨P7, M7, n7, B7, R7, k7, o7, z7, B8, R8, k8, o8, z8⟩ := u9
          obtain ⟨s1, s2, s3, s4, s5⟩ := hw9
          have s5 := ks_L.ext (i4.low hW.1) s5
          have g1 := i4
          have x4 := (ks_X.assign (B := B1) (Rs := R1) (k := k1) (o := o1) (z := z1) (ks_on p9) 0 true).tr s4
          have hP : va_P (dC, dI) ksCl [(sa, .inr (1, [.int (nI N), .ref ra, .ref ta, .ref qa, .int lap])), (ra, .inr (0, [.ref rp, .ref rq, .int (nI g), .int (nI n7)])), (rp, .inl (cP, 664, .inl P7)), (rq, .inl (cM, 664, .inl M7)), (ta, .inr (2, [.ref tb, .ref tr, .int (nI k7), .int o7, .int z7])), (tb, .inl (cB, 16, .inl B7)), (tr, .inl (cR, 16, .inl R7)), (qa, .inr (2, [.ref qb, .ref qr, .int k8, .int o8, .int z8])), (qb, .inl (cE, 16, .inl B8)), (qr, .inl (cF, 16, .inl R8))] H := hP
          have hD : va_D A [(sa, .inr (1, [.int (nI N), .ref ra, .ref ta, .ref qa, .int lap])), (ra, .inr (0, [.ref rp, .ref rq, .int (nI g), .int (nI n7)])), (rp, .inl (cP, 664, .inl P7)), (rq, .inl (cM, 664, .inl M7)), (ta, .inr (2, [.ref tb, .ref tr, .int (nI k7), .int o7, .int z7])), (tb, .inl (cB, 16, .inl B7)), (tr, .inl (cR, 16, .inl R7)), (qa, .inr (2, [.ref qb, .ref qr, .int k8, .int o8, .int z8])), (qb, .inl (cE, 16, .inl B8)), (qr, .inl (cF, 16, .inl R8))] := hD
          refine lv_istore (lv' := [(7, .int r7), (6, .int (nI k1)), (5, .int (ks_on p9)), (4, .int r4), (0, .ref sa), (1, .int (nI d)), (2, .int rf), (3, .int (nI rd))]) hx hb dX1_descend_112 hl (by decide) rfl (fun ls hl => ?_)
          refine lv_iload hx hb dX1_descend_114 (lv_at hl 0 rfl) ?_
          refine lv_iconst (v := -1) hx hb dX1_descend_116 (by decide) ?_
          refine lv_icmp_ne (tgt := 126) hx hb dX1_descend_117 (by decide) (fun c117 => ?_) (fun c117 => ?_)
          · -- 117: jumps
            have hLr := (i7.tr (ks_eqv.ext (i4.low hW.1) (hpp.eqv i3))).L (ks_L.high hN hp9 (ks_rf.high hN i8 j2 hp9 e93) s5)
            refine lv_iload hx hb dX1_descend_126 (lv_at hl 0 rfl) ?_
            have hP9 : va_P (dC, dI) ksCl [(sa, .inr (1, [.int (nI N), .ref ra, .ref ta, .ref qa, .int lap])), (ra, .inr (0, [.ref rp, .ref rq, .int (nI g), .int (nI n7)])), (rp, .inl (cP, 664, .inl P7)), (rq, .inl (cM, 664, .inl M7)), (ta, .inr (2, [.ref tb, .ref tr, .int (nI k7), .int o7, .int z7])), (tb, .inl (cB, 16, .inl B7)), (tr, .inl (cR, 16, .inl R7)), (qa, .inr (2, [.ref qb, .ref qr, .int k8, .int o8, .int z8])), (qb, .inl (cE, 16, .inl B8)), (qr, .inl (cF, 16, .inl R8))] _ := hP
            have hD9 : va_D A [(sa, .inr (1, [.int (nI N), .ref ra, .ref ta, .ref qa, .int lap])), (ra, .inr (0, [.ref rp, .ref rq, .int (nI g), .int (nI n7)])), (rp, .inl (cP, 664, .inl P7)), (rq, .inl (cM, 664, .inl M7)), (ta, .inr (2, [.ref tb, .ref tr, .int (nI k7), .int o7, .int z7])), (tb, .inl (cB, 16, .inl B7)), (tr, .inl (cR, 16, .inl R7)), (qa, .inr (2, [.ref qb, .ref qr, .int k8, .int o8, .int z8])), (qb, .inl (cE, 16, .inl B8)), (qr, .inl (cF, 16, .inl R8))] := hD
            have hK9 : va_K (dC, dI) ksCl [(cP, .int), (cM, .int), (cB, .int), (cR, .int), (cE, .int), (cF, .int)] s := hK
            exact W.iret (v := r7) hx hb hr (fun t ht hW9 => ⟨⟨r7, (P7, M7, n7, B7, R7, k7, o7, z7, B8, R8, k8, o8, z8), rfl, ⟨s1, i4.tr s2, s3, (i6.tr j2).tr x4, hLr⟩, by rw [ht]; exact hP9, va_K.moved hW9.alike hK9, hD9⟩, hS.F ht⟩) hS.2.2 dX1_descend_128
          · -- 117: goes on
            have hLr := (i7.tr (ks_eqv.ext (i4.low hW.1) (hpp.eqv i3))).L (ks_L.high hN hp9 (ks_rf.high hN i8 j2 hp9 e93) s5)
            refine lv_iload hx hb dX1_descend_120 (lv_at hl 2 rfl) ?_
            refine lv_iload_n hx hb dX1_descend_122 rfl (lv_at hl 6 rfl) ?_
            refine lv_icmp_ne (tgt := 129) hx hb dX1_descend_123 (by decide) (fun c123 => absurd e93 c123) (fun c123 => ?_)
            refine lv_iload hx hb dX1_descend_126 (lv_at hl 0 rfl) ?_
            have hP9 : va_P (dC, dI) ksCl [(sa, .inr (1, [.int (nI N), .ref ra, .ref ta, .ref qa, .int lap])), (ra, .inr (0, [.ref rp, .ref rq, .int (nI g), .int (nI n7)])), (rp, .inl (cP, 664, .inl P7)), (rq, .inl (cM, 664, .inl M7)), (ta, .inr (2, [.ref tb, .ref tr, .int (nI k7), .int o7, .int z7])), (tb, .inl (cB, 16, .inl B7)), (tr, .inl (cR, 16, .inl R7)), (qa, .inr (2, [.ref qb, .ref qr, .int k8, .int o8, .int z8])), (qb, .inl (cE, 16, .inl B8)), (qr, .inl (cF, 16, .inl R8))] _ := hP
            have hD9 : va_D A [(sa, .inr (1, [.int (nI N), .ref ra, .ref ta, .ref qa, .int lap])), (ra, .inr (0, [.ref rp, .ref rq, .int (nI g), .int (nI n7)])), (rp, .inl (cP, 664, .inl P7)), (rq, .inl (cM, 664, .inl M7)), (ta, .inr (2, [.ref tb, .ref tr, .int (nI k7), .int o7, .int z7])), (tb, .inl (cB, 16, .inl B7)), (tr, .inl (cR, 16, .inl R7)), (qa, .inr (2, [.ref qb, .ref qr, .int k8, .int o8, .int z8])), (qb, .inl (cE, 16, .inl B8)), (qr, .inl (cF, 16, .inl R8))] := hD
            have hK9 : va_K (dC, dI) ksCl [(cP, .int), (cM, .int), (cB, .int), (cR, .int), (cE, .int), (cF, .int)] s := hK
            exact W.iret (v := r7) hx hb hr (fun t ht hW9 => ⟨⟨r7, (P7, M7, n7, B7, R7, k7, o7, z7, B8, R8, k8, o8, z8), rfl, ⟨s1, i4.tr s2, s3, (i6.tr j2).tr x4, hLr⟩, by rw [ht]; exact hP9, va_K.moved hW9.alike hK9, hD9⟩, hS.F ht⟩) hS.2.2 dX1_descend_128
      · -- 54: goes on
        have hall : ∀ q, q < N → ¬ ks_fr o1 z1 q := by
          rcases hff with q | ⟨p, q1, q2, -⟩
          · exact q.2
          · exact absurd (q2.symm.trans c54) (ks_on_ne0 (by omega))
        refine lv_aload_n hx hb dX1_descend_57 rfl (lv_at hl 2 rfl) ?_
        refine va_get (D := (dC, dI)) (ci := 1) (v := .ref ta) (C := RX1) (T := TX1) (N := 5) hx hb hts hiX1 hown hK hP 0 rfl rfl 2 (by decide) f22 (fun _ h9 => h9) rfl dX1_descend_58 ?_
        refine va_getN (D := (dC, dI)) (ci := 2) (v := .int o1) (C := RX2) (T := TX2) (N := 5) hx hb hts hiX2 hown hK hP 4 rfl rfl 3 (by decide) f53 (fun _ h9 => h9) rfl dX1_descend_61 ?_
        have hP9 : va_P (dC, dI) ksCl [(sa, .inr (1, [.int (nI N), .ref ra, .ref ta, .ref qa, .int lap])), (ra, .inr (0, [.ref rp, .ref rq, .int (nI g), .int (nI na)])), (rp, .inl (cP, 664, .inl Pa)), (rq, .inl (cM, 664, .inl Ma)), (ta, .inr (2, [.ref tb, .ref tr, .int (nI k1), .int o1, .int z1])), (tb, .inl (cB, 16, .inl B1)), (tr, .inl (cR, 16, .inl R1)), (qa, .inr (2, [.ref qb, .ref qr, .int kx, .int ox, .int zx])), (qb, .inl (cE, 16, .inl Bx)), (qr, .inl (cF, 16, .inl Rx))] _ := hP
        have hD9 : va_D A [(sa, .inr (1, [.int (nI N), .ref ra, .ref ta, .ref qa, .int lap])), (ra, .inr (0, [.ref rp, .ref rq, .int (nI g), .int (nI na)])), (rp, .inl (cP, 664, .inl Pa)), (rq, .inl (cM, 664, .inl Ma)), (ta, .inr (2, [.ref tb, .ref tr, .int (nI k1), .int o1, .int z1])), (tb, .inl (cB, 16, .inl B1)), (tr, .inl (cR, 16, .inl R1)), (qa, .inr (2, [.ref qb, .ref qr, .int kx, .int ox, .int zx])), (qb, .inl (cE, 16, .inl Bx)), (qr, .inl (cF, 16, .inl Rx))] := hD
        have hK9 : va_K (dC, dI) ksCl [(cP, .int), (cM, .int), (cB, .int), (cR, .int), (cE, .int), (cF, .int)] s := hK
        exact W.iret (v := o1) hx hb hr (fun t ht hW9 => ⟨⟨o1, (Pa, Ma, na, B1, R1, k1, o1, z1, Bx, Rx, kx, ox, zx), rfl, ⟨i3, i4, j1, i6.tr j2, (i7.tr (ks_eqv.ext (i4.low hW.1) (hpp.eqv i3))).L (ks_L.ext (i4.low hW.1) (ks_L.full hN j1 i3 hall hfix))⟩, by rw [ht]; exact hP9, va_K.moved hW9.alike hK9, hD9⟩, hS.F ht⟩) hS.2.2 dX1_descend_64
    · -- 28: goes on
      obtain ⟨c0, hc0, er, hF0⟩ : ∃ c0, c0 < na ∧ r4 = (Pa c0 ||| Ma c0) ∧ ks_F (Pa c0) (Ma c0) o1 z1 := by
        rcases j4 with q | q
        · exact absurd q.1 c28
        · exact q.2
      subst er
      refine lv_aload_n hx hb dX1_descend_31 rfl (lv_at hl 1 rfl) ?_
      refine lv_iload hx hb dX1_descend_32 (lv_at hl 0 rfl) ?_
      refine ks_callvV (As := [.int (Pa c0 ||| Ma c0)]) (rest := []) (wr := []) (wz := fun u => [(sa, .inr (1, [.int (nI N), .ref ra, .ref ta, .ref qa, .int lap])), (ra, .inr (0, [.ref rp, .ref rq, .int (nI g), .int (nI u.2.2.1)])), (rp, .inl (cP, 664, .inl u.1)), (rq, .inl (cM, 664, .inl u.2.1)), (ta, .inr (2, [.ref tb, .ref tr, .int (nI k1), .int o1, .int z1])), (tb, .inl (cB, 16, .inl B1)), (tr, .inl (cR, 16, .inl R1)), (qa, .inr (2, [.ref qb, .ref qr, .int u.2.2.2.2.2.1, .int u.2.2.2.2.2.2.1, .int u.2.2.2.2.2.2.2])), (qb, .inl (cE, 16, .inl u.2.2.2.1)), (qr, .inl (cF, 16, .inl u.2.2.2.2.1))]) ⟨hx, hb, hml, hown, hts⟩ (ks_learn l dC dI sa ta tb tr cB cR qa qb qr cE cF ra rp rq cP cM N lap Pa Ma g na B1 R1 k1 o1 z1 Bx Rx kx ox zx c0 hN hg i3 j1 hc0 hF0) (cwV 1 hts gX1_descend_X1_learn rfl rfl rfl (by decide +kernel) ⟨(by show 3 ≤ 3 + e9; omega), (by show 73 ≤ 73 + 27 * e9; omega)⟩) hK hP hD hS hA hNW [0, 1, 2, 3, 4, 5, 6, 7, 8, 9] [] [0, 1, 2, 3, 4, 5] [0, 1, 2, 3, 4, 5, 6, 7, 8, 9] rfl rfl rfl rfl (by decide) (by decide) (by decide) (ci := 1) (q0 := 0) rfl rfl rfl (fun _ => rfl) (fun _ => rfl) (by decide) rfl hl.1 rfl (Nat.le_of_ble_eq_true rfl) dX1_descend_34 ⟨Nat.le_of_ble_eq_true rfl, Nat.le_of_ble_eq_true rfl⟩ (fun u9 H locs hw9 hK9 hP hD hS => ?_)
      obtain ⟨P5, M5, n5, Bv, Rv, kv, ov, zv⟩ := u9
      obtain ⟨t1, t2⟩ := hw9
      have hP : va_P (dC, dI) ksCl [(sa, .inr (1, [.int (nI N), .ref ra, .ref ta, .ref qa, .int lap])), (ra, .inr (0, [.ref rp, .ref rq, .int (nI g), .int (nI n5)])), (rp, .inl (cP, 664, .inl P5)), (rq, .inl (cM, 664, .inl M5)), (ta, .inr (2, [.ref tb, .ref tr, .int (nI k1), .int o1, .int z1])), (tb, .inl (cB, 16, .inl B1)), (tr, .inl (cR, 16, .inl R1)), (qa, .inr (2, [.ref qb, .ref qr, .int kv, .int ov, .int zv])), (qb, .inl (cE, 16, .inl Bv)), (qr, .inl (cF, 16, .inl Rv))] H := hP
      have hD : va_D A [(sa, .inr (1, [.int (nI N), .ref ra, .ref ta, .ref qa, .int lap])), (ra, .inr (0, [.ref rp, .ref rq, .int (nI g), .int (nI n5)])), (rp, .inl (cP, 664, .inl P5)), (rq, .inl (cM, 664, .inl M5)), (ta, .inr (2, [.ref tb, .ref tr, .int (nI k1), .int o1, .int z1])), (tb, .inl (cB, 16, .inl B1)), (tr, .inl (cR, 16, .inl R1)), (qa, .inr (2, [.ref qb, .ref qr, .int kv, .int ov, .int zv])), (qb, .inl (cE, 16, .inl Bv)), (qr, .inl (cF, 16, .inl Rv))] := hD
      refine lv_iconst (v := -1) hx hb dX1_descend_37 (by decide) ?_
      have hP9 : va_P (dC, dI) ksCl [(sa, .inr (1, [.int (nI N), .ref ra, .ref ta, .ref qa, .int lap])), (ra, .inr (0, [.ref rp, .ref rq, .int (nI g), .int (nI n5)])), (rp, .inl (cP, 664, .inl P5)), (rq, .inl (cM, 664, .inl M5)), (ta, .inr (2, [.ref tb, .ref tr, .int (nI k1), .int o1, .int z1])), (tb, .inl (cB, 16, .inl B1)), (tr, .inl (cR, 16, .inl R1)), (qa, .inr (2, [.ref qb, .ref qr, .int kv, .int ov, .int zv])), (qb, .inl (cE, 16, .inl Bv)), (qr, .inl (cF, 16, .inl Rv))] _ := hP
      have hD9 : va_D A [(sa, .inr (1, [.int (nI N), .ref ra, .ref ta, .ref qa, .int lap])), (ra, .inr (0, [.ref rp, .ref rq, .int (nI g), .int (nI n5)])), (rp, .inl (cP, 664, .inl P5)), (rq, .inl (cM, 664, .inl M5)), (ta, .inr (2, [.ref tb, .ref tr, .int (nI k1), .int o1, .int z1])), (tb, .inl (cB, 16, .inl B1)), (tr, .inl (cR, 16, .inl R1)), (qa, .inr (2, [.ref qb, .ref qr, .int kv, .int ov, .int zv])), (qb, .inl (cE, 16, .inl Bv)), (qr, .inl (cF, 16, .inl Rv))] := hD
      have hK9 : va_K (dC, dI) ksCl [(cP, .int), (cM, .int), (cB, .int), (cR, .int), (cE, .int), (cF, .int)] s := hK
      exact W.iret (v := -1) hx hb hr (fun t ht hW9 => ⟨⟨-1, (P5, M5, n5, B1, R1, k1, o1, z1, Bv, Rv, kv, ov, zv), rfl, ⟨t1, i4.tr t2, t2.R j1, i6.tr j2, (i7.tr (ks_eqv.ext (i4.low hW.1) (hpp.eqv i3))).L (ks_L.ext (i4.low hW.1) (ks_L.conflict i3 hc0 hF0))⟩, by rw [ht]; exact hP9, va_K.moved hW9.alike hK9, hD9⟩, hS.F ht⟩) hS.2.2 dX1_descend_38
  · intro x H locs ls h9
    obtain ⟨i1, i2, i3, i4, i5, i6, i7, i8, i9, -, -, -, -⟩ := h9
    try dsimp only at i1 i2
    omega
