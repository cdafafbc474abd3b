set_option maxHeartbeats 4000000 in
set_option maxRecDepth 100000 in
/-- firstModelUnder -/
theorem ks_under (l : Launch) (dC : Nat → ClassId) (dI : Nat → Nat → Nat) (xa aa : Nat) (cA : ClassId) (sa : Nat) (ta tb tr : Nat) (cB cR : ClassId) (qa qb qr : Nat) (cE cF : ClassId) (ra rp rq : Nat) (cP cM : ClassId) (N : Nat) (lap kc kl mp mm km : Int32) (AS : Nat → Int32) (ac : Nat) (P M : Nat → Int32) (g nr : Nat) (Bt Rt : Nat → Int32) (kt ot zt : Int32) (Bq Rq : Nat → Int32) (kq oq zq : Int32) (ch : Int64) (ex : Int32) (hN : N ≤ 16) (hg : g ≤ 600) (hW : ks_W N P M g nr) (hac : ac ≤ 40) (hlit : ∀ j, j < ac → ∃ v, ks_lit N (AS j) v) (hex : ex = 0 ∨ ∃ v, ks_lit N ex v) : ks_Mi l yX3_firstModelUnder wsX3_firstModelUnder ({ frames := 21, cells := 0, slots := 0, locals := 554 }) (dC, dI) [.ref xa, .long ch, .int ex] [(xa, .inr (3, [.int (nI N), .ref ra, .ref sa, .ref aa, .int (nI ac), .int kc, .int kl, .int mp, .int mm, .int km])), (aa, .inl (cA, 40, .inl AS)), (sa, .inr (1, [.int (nI N), .ref ra, .ref ta, .ref qa, .int lap])), (ra, .inr (0, [.ref rp, .ref rq, .int (nI g), .int (nI nr)])), (rp, .inl (cP, 664, .inl P)), (rq, .inl (cM, 664, .inl M)), (ta, .inr (2, [.ref tb, .ref tr, .int kt, .int ot, .int zt])), (tb, .inl (cB, 16, .inl Bt)), (tr, .inl (cR, 16, .inl Rt)), (qa, .inr (2, [.ref qb, .ref qr, .int kq, .int oq, .int zq])), (qb, .inl (cE, 16, .inl Bq)), (qr, .inl (cF, 16, .inl Rq))] [(cA, .int), (cP, .int), (cM, .int), (cB, .int), (cR, .int), (cE, .int), (cF, .int)] 0 0 (S := (Nat → Int32) × (Nat → Int32) × Nat × (Nat → Int32) × (Nat → Int32) × Int32 × Int32 × Int32 × (Nat → Int32) × (Nat → Int32) × Int32 × Int32 × Int32) (fun r u => ks_W N u.1 u.2.1 g u.2.2.1 ∧ (∀ c, c < g → u.1 c = P c ∧ u.2.1 c = M c) ∧ ks_L N (ks_Y N AS ac ch ex P M g) r) (fun u => [(xa, .inr (3, [.int (nI N), .ref ra, .ref sa, .ref aa, .int (nI ac), .int kc, .int kl, .int mp, .int mm, .int km])), (aa, .inl (cA, 40, .inl AS)), (sa, .inr (1, [.int (nI N), .ref ra, .ref ta, .ref qa, .int lap])), (ra, .inr (0, [.ref rp, .ref rq, .int (nI g), .int (nI u.2.2.1)])), (rp, .inl (cP, 664, .inl u.1)), (rq, .inl (cM, 664, .inl u.2.1)), (ta, .inr (2, [.ref tb, .ref tr, .int u.2.2.2.2.2.1, .int u.2.2.2.2.2.2.1, .int u.2.2.2.2.2.2.2.1])), (tb, .inl (cB, 16, .inl u.2.2.2.1)), (tr, .inl (cR, 16, .inl u.2.2.2.2.1)), (qa, .inr (2, [.ref qb, .ref qr, .int u.2.2.2.2.2.2.2.2.2.2.1, .int u.2.2.2.2.2.2.2.2.2.2.2.1, .int u.2.2.2.2.2.2.2.2.2.2.2.2])), (qb, .inl (cE, 16, .inl u.2.2.2.2.2.2.2.2.1)), (qr, .inl (cF, 16, .inl u.2.2.2.2.2.2.2.2.2.1))]) (fun u => [(cA, .int), (cP, .int), (cM, .int), (cB, .int), (cR, .int), (cE, .int), (cF, .int)]) := by
  intro sz
  refine Met.ofW (cc := cX3_firstModelUnder) (maxL := 7) (ret := (some .int)) (by decide) rfl ?_
  intro p e s m args below meth c s₁ B9 hml hv
  obtain ⟨rfl, hsz, hP, hK, hD0, hNW⟩ := hv
  have hx := B9.exec
  have hb := B9.bytes
  have hr := B9.returns
  have hts := atoms_spec (ws := wsX3_firstModelUnder) B9.pre
  have hown : s.vm.findClass RX3 = some m.cls := findClass_of_methodNamed B9.named
  have hlocks := B9.notSynchronized
  subst hsz
  have hD := hD0.self (sz := s.heap.size)
  generalize hAe : va_A [(xa, .inr (3, [.int (nI N), .ref ra, .ref sa, .ref aa, .int (nI ac), .int kc, .int kl, .int mp, .int mm, .int km])), (aa, .inl (cA, 40, .inl AS)), (sa, .inr (1, [.int (nI N), .ref ra, .ref ta, .ref qa, .int lap])), (ra, .inr (0, [.ref rp, .ref rq, .int (nI g), .int (nI nr)])), (rp, .inl (cP, 664, .inl P)), (rq, .inl (cM, 664, .inl M)), (ta, .inr (2, [.ref tb, .ref tr, .int kt, .int ot, .int zt])), (tb, .inl (cB, 16, .inl Bt)), (tr, .inl (cR, 16, .inl Rt)), (qa, .inr (2, [.ref qb, .ref qr, .int kq, .int oq, .int zq])), (qb, .inl (cE, 16, .inl Bq)), (qr, .inl (cF, 16, .inl Rq))] s.heap.size = A at hD ⊢
  have hA : ∀ q : Nat, s.heap.size ≤ q → A q := fun q h => by rw [← hAe]; exact Or.inr h
  have hS : va_S A s.heap s.heap [] := va_S.rf
  have hiX3 : ∀ w ∈ u_ws RX3 TX3 10, w ∈ wsX3_firstModelUnder := by decide +kernel
  have f34 := hts (.fieldLink RX3 34 "LessonSolver" "search" "LLessonSolver$Search;") (by decide +kernel)
  have f38 := hts (.fieldLink RX3 38 "LessonSolver" "assumptions" "[I") (by decide +kernel)
  have f71 := hts (.fieldLink RX3 71 "LessonSolver" "assumptionCount" "I") (by decide +kernel)
  have hl := lv_entry ([.ref xa, .long ch, .int ex]) (n := 7) (Nat.le_of_ble_eq_true rfl)
  rw [lg_entry_eq]
  generalize (lg_sl ([.ref xa, .long ch, .int ex]) ++ List.replicate (7 - (lg_sl ([.ref xa, .long ch, .int ex])).length) Slot.unset).toArray = ls at hl ⊢
  have hl : lv_has ls 7 [(0, .ref xa), (1, .long ch), (3, .int ex)] := hl
  refine ks_join (σ := Int32 × Int32) (fun x H locs ls => (ks_un N AS ch ex 0 x.1 x.2) ∧ va_P (dC, dI) ksCl [(xa, .inr (3, [.int (nI N), .ref ra, .ref sa, .ref aa, .int (nI ac), .int kc, .int kl, .int mp, .int mm, .int km])), (aa, .inl (cA, 40, .inl AS)), (sa, .inr (1, [.int (nI N), .ref ra, .ref ta, .ref qa, .int lap])), (ra, .inr (0, [.ref rp, .ref rq, .int (nI g), .int (nI nr)])), (rp, .inl (cP, 664, .inl P)), (rq, .inl (cM, 664, .inl M)), (ta, .inr (2, [.ref tb, .ref tr, .int kt, .int ot, .int zt])), (tb, .inl (cB, 16, .inl Bt)), (tr, .inl (cR, 16, .inl Rt)), (qa, .inr (2, [.ref qb, .ref qr, .int kq, .int oq, .int zq])), (qb, .inl (cE, 16, .inl Bq)), (qr, .inl (cF, 16, .inl Rq))] H ∧ va_D A [(xa, .inr (3, [.int (nI N), .ref ra, .ref sa, .ref aa, .int (nI ac), .int kc, .int kl, .int mp, .int mm, .int km])), (aa, .inl (cA, 40, .inl AS)), (sa, .inr (1, [.int (nI N), .ref ra, .ref ta, .ref qa, .int lap])), (ra, .inr (0, [.ref rp, .ref rq, .int (nI g), .int (nI nr)])), (rp, .inl (cP, 664, .inl P)), (rq, .inl (cM, 664, .inl M)), (ta, .inr (2, [.ref tb, .ref tr, .int kt, .int ot, .int zt])), (tb, .inl (cB, 16, .inl Bt)), (tr, .inl (cR, 16, .inl Rt)), (qa, .inr (2, [.ref qb, .ref qr, .int kq, .int oq, .int zq])), (qb, .inl (cE, 16, .inl Bq)), (qr, .inl (cF, 16, .inl Rq))] ∧ va_S A s.heap H locs ∧ lv_has ls 7 [(0, .ref xa), (1, .long ch), (4, .int x.1), (5, .int x.2)]) 30 ?_ (fun hj => ?_)
  · -- where the ways meet: 30
    intro x H locs ls h9
    obtain ⟨o4, z5⟩ := x
    obtain ⟨q1, hP, hD, hS, hl⟩ := h9
    have q1 : ks_un N AS ch ex 0 o4 z5 := q1
    have hP : va_P (dC, dI) ksCl [(xa, .inr (3, [.int (nI N), .ref ra, .ref sa, .ref aa, .int (nI ac), .int kc, .int kl, .int mp, .int mm, .int km])), (aa, .inl (cA, 40, .inl AS)), (sa, .inr (1, [.int (nI N), .ref ra, .ref ta, .ref qa, .int lap])), (ra, .inr (0, [.ref rp, .ref rq, .int (nI g), .int (nI nr)])), (rp, .inl (cP, 664, .inl P)), (rq, .inl (cM, 664, .inl M)), (ta, .inr (2, [.ref tb, .ref tr, .int kt, .int ot, .int zt])), (tb, .inl (cB, 16, .inl Bt)), (tr, .inl (cR, 16, .inl Rt)), (qa, .inr (2, [.ref qb, .ref qr, .int kq, .int oq, .int zq])), (qb, .inl (cE, 16, .inl Bq)), (qr, .inl (cF, 16, .inl Rq))] H := hP
    have hD : va_D A [(xa, .inr (3, [.int (nI N), .ref ra, .ref sa, .ref aa, .int (nI ac), .int kc, .int kl, .int mp, .int mm, .int km])), (aa, .inl (cA, 40, .inl AS)), (sa, .inr (1, [.int (nI N), .ref ra, .ref ta, .ref qa, .int lap])), (ra, .inr (0, [.ref rp, .ref rq, .int (nI g), .int (nI nr)])), (rp, .inl (cP, 664, .inl P)), (rq, .inl (cM, 664, .inl M)), (ta, .inr (2, [.ref tb, .ref tr, .int kt, .int ot, .int zt])), (tb, .inl (cB, 16, .inl Bt)), (tr, .inl (cR, 16, .inl Rt)), (qa, .inr (2, [.ref qb, .ref qr, .int kq, .int oq, .int zq])), (qb, .inl (cE, 16, .inl Bq)), (qr, .inl (cF, 16, .inl Rq))] := hD
    have hl : lv_has ls 7 [(0, .ref xa), (1, .long ch), (4, .int o4), (5, .int z5)] := hl
    refine lv_iconst (v := nI 0) hx hb dX3_firstModelUnder_30 (by decide) ?_
    refine lv_istore (lv' := [(6, .int (nI 0)), (0, .ref xa), (1, .long ch), (4, .int o4), (5, .int z5)]) hx hb dX3_firstModelUnder_31 hl (by decide) rfl (fun ls hl => ?_)
    refine ks_wl (σ := Nat × Int32 × Int32) (fun n x H locs ls => (x.1 ≤ ac) ∧ (n + x.1 = ac + 1) ∧ (ks_un N AS ch ex x.1 x.2.1 x.2.2) ∧ va_P (dC, dI) ksCl [(xa, .inr (3, [.int (nI N), .ref ra, .ref sa, .ref aa, .int (nI ac), .int kc, .int kl, .int mp, .int mm, .int km])), (aa, .inl (cA, 40, .inl AS)), (sa, .inr (1, [.int (nI N), .ref ra, .ref ta, .ref qa, .int lap])), (ra, .inr (0, [.ref rp, .ref rq, .int (nI g), .int (nI nr)])), (rp, .inl (cP, 664, .inl P)), (rq, .inl (cM, 664, .inl M)), (ta, .inr (2, [.ref tb, .ref tr, .int kt, .int ot, .int zt])), (tb, .inl (cB, 16, .inl Bt)), (tr, .inl (cR, 16, .inl Rt)), (qa, .inr (2, [.ref qb, .ref qr, .int kq, .int oq, .int zq])), (qb, .inl (cE, 16, .inl Bq)), (qr, .inl (cF, 16, .inl Rq))] H ∧ va_D A [(xa, .inr (3, [.int (nI N), .ref ra, .ref sa, .ref aa, .int (nI ac), .int kc, .int kl, .int mp, .int mm, .int km])), (aa, .inl (cA, 40, .inl AS)), (sa, .inr (1, [.int (nI N), .ref ra, .ref ta, .ref qa, .int lap])), (ra, .inr (0, [.ref rp, .ref rq, .int (nI g), .int (nI nr)])), (rp, .inl (cP, 664, .inl P)), (rq, .inl (cM, 664, .inl M)), (ta, .inr (2, [.ref tb, .ref tr, .int kt, .int ot, .int zt])), (tb, .inl (cB, 16, .inl Bt)), (tr, .inl (cR, 16, .inl Rt)), (qa, .inr (2, [.ref qb, .ref qr, .int kq, .int oq, .int zq])), (qb, .inl (cE, 16, .inl Bq)), (qr, .inl (cF, 16, .inl Rq))] ∧ va_S A s.heap H locs ∧ lv_has ls 7 [(0, .ref xa), (1, .long ch), (4, .int x.2.1), (5, .int x.2.2), (6, .int (nI x.1))]) 33 ?_ ?_ (ac + 1) (0, o4, z5) _ _ ls ⟨Nat.zero_le _, rfl, q1, hP, hD, hS, lv_sub hl [1, 2, 3, 4, 0] rfl⟩
    · -- loop at 33
      intro n x H locs ls h9 ih
      obtain ⟨i, o, z⟩ := x
      obtain ⟨i1, i2, i3, hP, hD, hS, hl⟩ := h9
      have i1 : i ≤ ac := i1
      have i2 : (n + 1) + i = ac + 1 := i2
      have i3 : ks_un N AS ch ex i o z := i3
      have hP : va_P (dC, dI) ksCl [(xa, .inr (3, [.int (nI N), .ref ra, .ref sa, .ref aa, .int (nI ac), .int kc, .int kl, .int mp, .int mm, .int km])), (aa, .inl (cA, 40, .inl AS)), (sa, .inr (1, [.int (nI N), .ref ra, .ref ta, .ref qa, .int lap])), (ra, .inr (0, [.ref rp, .ref rq, .int (nI g), .int (nI nr)])), (rp, .inl (cP, 664, .inl P)), (rq, .inl (cM, 664, .inl M)), (ta, .inr (2, [.ref tb, .ref tr, .int kt, .int ot, .int zt])), (tb, .inl (cB, 16, .inl Bt)), (tr, .inl (cR, 16, .inl Rt)), (qa, .inr (2, [.ref qb, .ref qr, .int kq, .int oq, .int zq])), (qb, .inl (cE, 16, .inl Bq)), (qr, .inl (cF, 16, .inl Rq))] H := hP
      have hD : va_D A [(xa, .inr (3, [.int (nI N), .ref ra, .ref sa, .ref aa, .int (nI ac), .int kc, .int kl, .int mp, .int mm, .int km])), (aa, .inl (cA, 40, .inl AS)), (sa, .inr (1, [.int (nI N), .ref ra, .ref ta, .ref qa, .int lap])), (ra, .inr (0, [.ref rp, .ref rq, .int (nI g), .int (nI nr)])), (rp, .inl (cP, 664, .inl P)), (rq, .inl (cM, 664, .inl M)), (ta, .inr (2, [.ref tb, .ref tr, .int kt, .int ot, .int zt])), (tb, .inl (cB, 16, .inl Bt)), (tr, .inl (cR, 16, .inl Rt)), (qa, .inr (2, [.ref qb, .ref qr, .int kq, .int oq, .int zq])), (qb, .inl (cE, 16, .inl Bq)), (qr, .inl (cF, 16, .inl Rq))] := hD
      have hl : lv_has ls 7 [(0, .ref xa), (1, .long ch), (4, .int o), (5, .int z), (6, .int (nI i))] := hl
      refine lv_iload hx hb dX3_firstModelUnder_33 (lv_at hl 4 rfl) ?_
      refine lv_aload_n hx hb dX3_firstModelUnder_35 rfl (lv_at hl 0 rfl) ?_
      refine va_get (D := (dC, dI)) (ci := 3) (v := .int (nI ac)) (C := RX3) (T := TX3) (N := 10) hx hb hts hiX3 hown hK hP 0 rfl rfl 4 (by decide) f71 (fun _ h9 => h9) rfl dX3_firstModelUnder_36 ?_
      refine lv_icmp_ge (tgt := 107) hx hb dX3_firstModelUnder_39 (by decide) (fun c39 => ?_) (fun c39 => ?_)
      · -- 39: jumps
        have hi : ac ≤ i := by
          rcases Nat.lt_or_ge i ac with q | q
          · exact absurd c39 (nI_ge q (by omega))
          · exact q
        have ei : i = ac := by omega
        rw [ei] at i3
        refine lv_aload_n hx hb dX3_firstModelUnder_107 rfl (lv_at hl 0 rfl) ?_
        refine va_get (D := (dC, dI)) (ci := 3) (v := .ref sa) (C := RX3) (T := TX3) (N := 10) hx hb hts hiX3 hown hK hP 0 rfl rfl 2 (by decide) f34 (fun _ h9 => h9) rfl dX3_firstModelUnder_108 ?_
        refine lv_iload hx hb dX3_firstModelUnder_111 (lv_at hl 2 rfl) ?_
        refine lv_iload hx hb dX3_firstModelUnder_113 (lv_at hl 3 rfl) ?_
        refine ks_calliV (As := [.int o, .int z]) (rest := []) (wr := [(xa, .inr (3, [.int (nI N), .ref ra, .ref sa, .ref aa, .int (nI ac), .int kc, .int kl, .int mp, .int mm, .int km])), (aa, .inl (cA, 40, .inl AS))]) (wz := fun u => [(xa, .inr (3, [.int (nI N), .ref ra, .ref sa, .ref aa, .int (nI ac), .int kc, .int kl, .int mp, .int mm, .int km])), (aa, .inl (cA, 40, .inl AS)), (sa, .inr (1, [.int (nI N), .ref ra, .ref ta, .ref qa, .int lap])), (ra, .inr (0, [.ref rp, .ref rq, .int (nI g), .int (nI u.2.2.1)])), (rp, .inl (cP, 664, .inl u.1)), (rq, .inl (cM, 664, .inl u.2.1)), (ta, .inr (2, [.ref tb, .ref tr, .int u.2.2.2.2.2.1, .int u.2.2.2.2.2.2.1, .int u.2.2.2.2.2.2.2.1])), (tb, .inl (cB, 16, .inl u.2.2.2.1)), (tr, .inl (cR, 16, .inl u.2.2.2.2.1)), (qa, .inr (2, [.ref qb, .ref qr, .int u.2.2.2.2.2.2.2.2.2.2.1, .int u.2.2.2.2.2.2.2.2.2.2.2.1, .int u.2.2.2.2.2.2.2.2.2.2.2.2])), (qb, .inl (cE, 16, .inl u.2.2.2.2.2.2.2.2.1)), (qr, .inl (cF, 16, .inl u.2.2.2.2.2.2.2.2.2.1))]) ⟨hx, hb, hml, hown, hts⟩ (ks_firstModel l dC dI sa ta tb tr cB cR qa qb qr cE cF ra rp rq cP cM N lap P M g nr Bt Rt kt ot zt Bq Rq kq oq zq o z hN hg hW i3.1) (cwV 2 hts gX3_firstModelUnder_X1_firstModel rfl rfl rfl (by decide +kernel) ⟨Nat.le_of_ble_eq_true rfl, Nat.le_of_ble_eq_true rfl⟩) hK hP hD hS hA hNW [2, 3, 4, 5, 6, 7, 8, 9, 10, 11] [0, 1] [1, 2, 3, 4, 5, 6] [0, 1, 2, 3, 4, 5, 6, 7, 8, 9, 10, 11] rfl rfl rfl rfl (by decide) (by decide) (by decide) (ci := 1) (q0 := 0) rfl rfl rfl (fun _ => rfl) (fun _ => rfl) (by decide) rfl hl.1 rfl (Nat.le_of_ble_eq_true rfl) dX3_firstModelUnder_115 ⟨Nat.le_of_ble_eq_true rfl, Nat.le_of_ble_eq_true rfl⟩ (fun r7 u9 H locs hw9 hK9 hP hD hS => ?_)
        obtain ⟨P1, M1, n1, B1, R1, k1, o1, z1, Bv, Rv, kv, ov, zv⟩ := u9
        obtain ⟨s1, s2, s3⟩ := hw9
        have hP : va_P (dC, dI) ksCl [(xa, .inr (3, [.int (nI N), .ref ra, .ref sa, .ref aa, .int (nI ac), .int kc, .int kl, .int mp, .int mm, .int km])), (aa, .inl (cA, 40, .inl AS)), (sa, .inr (1, [.int (nI N), .ref ra, .ref ta, .ref qa, .int lap])), (ra, .inr (0, [.ref rp, .ref rq, .int (nI g), .int (nI n1)])), (rp, .inl (cP, 664, .inl P1)), (rq, .inl (cM, 664, .inl M1)), (ta, .inr (2, [.ref tb, .ref tr, .int k1, .int o1, .int z1])), (tb, .inl (cB, 16, .inl B1)), (tr, .inl (cR, 16, .inl R1)), (qa, .inr (2, [.ref qb, .ref qr, .int kv, .int ov, .int zv])), (qb, .inl (cE, 16, .inl Bv)), (qr, .inl (cF, 16, .inl Rv))] H := hP
        have hD : va_D A [(xa, .inr (3, [.int (nI N), .ref ra, .ref sa, .ref aa, .int (nI ac), .int kc, .int kl, .int mp, .int mm, .int km])), (aa, .inl (cA, 40, .inl AS)), (sa, .inr (1, [.int (nI N), .ref ra, .ref ta, .ref qa, .int lap])), (ra, .inr (0, [.ref rp, .ref rq, .int (nI g), .int (nI n1)])), (rp, .inl (cP, 664, .inl P1)), (rq, .inl (cM, 664, .inl M1)), (ta, .inr (2, [.ref tb, .ref tr, .int k1, .int o1, .int z1])), (tb, .inl (cB, 16, .inl B1)), (tr, .inl (cR, 16, .inl R1)), (qa, .inr (2, [.ref qb, .ref qr, .int kv, .int ov, .int zv])), (qb, .inl (cE, 16, .inl Bv)), (qr, .inl (cF, 16, .inl Rv))] := hD
        have hP9 : va_P (dC, dI) ksCl [(xa, .inr (3, [.int (nI N), .ref ra, .ref sa, .ref aa, .int (nI ac), .int kc, .int kl, .int mp, .int mm, .int km])), (aa, .inl (cA, 40, .inl AS)), (sa, .inr (1, [.int (nI N), .ref ra, .ref ta, .ref qa, .int lap])), (ra, .inr (0, [.ref rp, .ref rq, .int (nI g), .int (nI n1)])), (rp, .inl (cP, 664, .inl P1)), (rq, .inl (cM, 664, .inl M1)), (ta, .inr (2, [.ref tb, .ref tr, .int k1, .int o1, .int z1])), (tb, .inl (cB, 16, .inl B1)), (tr, .inl (cR, 16, .inl R1)), (qa, .inr (2, [.ref qb, .ref qr, .int kv, .int ov, .int zv])), (qb, .inl (cE, 16, .inl Bv)), (qr, .inl (cF, 16, .inl Rv))] _ := hP
        have hD9 : va_D A [(xa, .inr (3, [.int (nI N), .ref ra, .ref sa, .ref aa, .int (nI ac), .int kc, .int kl, .int mp, .int mm, .int km])), (aa, .inl (cA, 40, .inl AS)), (sa, .inr (1, [.int (nI N), .ref ra, .ref ta, .ref qa, .int lap])), (ra, .inr (0, [.ref rp, .ref rq, .int (nI g), .int (nI n1)])), (rp, .inl (cP, 664, .inl P1)), (rq, .inl (cM, 664, .inl M1)), (ta, .inr (2, [.ref tb, .ref tr, .int k1, .int o1, .int z1])), (tb, .inl (cB, 16, .inl B1)), (tr, .inl (cR, 16, .inl R1)), (qa, .inr (2, [.ref qb, .ref qr, .int kv, .int ov, .int zv])), (qb, .inl (cE, 16, .inl Bv)), (qr, .inl (cF, 16, .inl Rv))] := hD
        have hK9 : va_K (dC, dI) ksCl [(cA, .int), (cP, .int), (cM, .int), (cB, .int), (cR, .int), (cE, .int), (cF, .int)] s := hK
        exact W.iret (v := r7) hx hb hr (fun t ht hW9 => ⟨⟨r7, (P1, M1, n1, B1, R1, k1, o1, z1, Bv, Rv, kv, ov, zv), rfl, ⟨s1, s2, i3.L s3⟩, by rw [ht]; exact hP9, va_K.moved hW9.alike hK9, hD9⟩, hS.F ht⟩) hS.2.2 dX3_firstModelUnder_118
      · -- 39: goes on
        have hi : i < ac := by
          rcases Nat.lt_or_ge i ac with q | q
          · exact q
          · exact absurd (nI_le q (by omega)) c39
        refine lv_lload_n hx hb dX3_firstModelUnder_42 rfl (lv_at hl 1 rfl) ?_
        refine lv_iload hx hb dX3_firstModelUnder_43 (lv_at hl 4 rfl) ?_
        refine lv_lushr hx hb dX3_firstModelUnder_45 rfl ?_
        refine lv_lconst (v := 1) hx hb dX3_firstModelUnder_46 (by decide) ?_
        refine lv_land hx hb dX3_firstModelUnder_47 ?_
        refine lv_lconst (v := 0) hx hb dX3_firstModelUnder_48 (by decide) ?_
        refine W.lcmp hx hb dX3_firstModelUnder_49 ?_
        refine lv_if_ne (tgt := 56) hx hb dX3_firstModelUnder_50 (by decide) (fun c50 => ?_) (fun c50 => ?_)
        · -- 50: jumps
          have b1 : ks_bl ch i = true := by
            cases hb9 : ks_bl ch i
            · exact absurd ((lg_cmp_eq _ _).mpr ((ks_bl_tst (by omega)).mpr hb9)) c50
            · rfl
          obtain ⟨v0, hv⟩ := hlit i hi
          refine lv_aload_n hx hb dX3_firstModelUnder_56 rfl (lv_at hl 0 rfl) ?_
          refine va_get (D := (dC, dI)) (ci := 3) (v := .ref aa) (C := RX3) (T := TX3) (N := 10) hx hb hts hiX3 hown hK hP 0 rfl rfl 3 (by decide) f38 (fun _ h9 => h9) rfl dX3_firstModelUnder_57 ?_
          refine lv_iload hx hb dX3_firstModelUnder_60 (lv_at hl 4 rfl) ?_
          refine ks_ald hx hb hK hP 1 0 rfl rfl (j := i) (by omega) (by decide) dX3_firstModelUnder_62 ?_
          refine lv_if_le (tgt := 85) hx hb dX3_firstModelUnder_63 (by decide) (fun c63 => ?_) (fun c63 => ?_)
          · -- 63: jumps
            have j3 := i3.neg hN b1 hv (fun q => absurd c63 (by rw [Int32.not_le]; exact q))
            refine lv_iload hx hb dX3_firstModelUnder_85 (lv_at hl 3 rfl) ?_
            refine lv_aload_n hx hb dX3_firstModelUnder_87 rfl (lv_at hl 0 rfl) ?_
            refine lv_aload_n hx hb dX3_firstModelUnder_88 rfl (lv_at hl 0 rfl) ?_
            refine va_get (D := (dC, dI)) (ci := 3) (v := .ref aa) (C := RX3) (T := TX3) (N := 10) hx hb hts hiX3 hown hK hP 0 rfl rfl 3 (by decide) f38 (fun _ h9 => h9) rfl dX3_firstModelUnder_89 ?_
            refine lv_iload hx hb dX3_firstModelUnder_92 (lv_at hl 4 rfl) ?_
            refine ks_ald hx hb hK hP 1 0 rfl rfl (j := i) (by omega) (by decide) dX3_firstModelUnder_94 ?_
            refine ks_calliV (As := [.int (AS i)]) (rest := [.int z]) (wr := [(aa, .inl (cA, 40, .inl AS)), (sa, .inr (1, [.int (nI N), .ref ra, .ref ta, .ref qa, .int lap])), (ra, .inr (0, [.ref rp, .ref rq, .int (nI g), .int (nI nr)])), (rp, .inl (cP, 664, .inl P)), (rq, .inl (cM, 664, .inl M)), (ta, .inr (2, [.ref tb, .ref tr, .int kt, .int ot, .int zt])), (tb, .inl (cB, 16, .inl Bt)), (tr, .inl (cR, 16, .inl Rt)), (qa, .inr (2, [.ref qb, .ref qr, .int kq, .int oq, .int zq])), (qb, .inl (cE, 16, .inl Bq)), (qr, .inl (cF, 16, .inl Rq))]) (wz := fun _ => [(xa, .inr (3, [.int (nI N), .ref ra, .ref sa, .ref aa, .int (nI ac), .int kc, .int kl, .int mp, .int mm, .int km])), (aa, .inl (cA, 40, .inl AS)), (sa, .inr (1, [.int (nI N), .ref ra, .ref ta, .ref qa, .int lap])), (ra, .inr (0, [.ref rp, .ref rq, .int (nI g), .int (nI nr)])), (rp, .inl (cP, 664, .inl P)), (rq, .inl (cM, 664, .inl M)), (ta, .inr (2, [.ref tb, .ref tr, .int kt, .int ot, .int zt])), (tb, .inl (cB, 16, .inl Bt)), (tr, .inl (cR, 16, .inl Rt)), (qa, .inr (2, [.ref qb, .ref qr, .int kq, .int oq, .int zq])), (qb, .inl (cE, 16, .inl Bq)), (qr, .inl (cF, 16, .inl Rq))]) ⟨hx, hb, hml, hown, hts⟩ (ks_bitOf l dC dI xa ra sa aa N (nI ac) kc kl mp mm km (AS i) v0 hN hv) (cwV 1 hts gX3_firstModelUnder_X3_bitOf rfl rfl rfl (by decide +kernel) ⟨Nat.le_of_ble_eq_true rfl, Nat.le_of_ble_eq_true rfl⟩) hK hP hD hS hA hNW [0] [1, 2, 3, 4, 5, 6, 7, 8, 9, 10, 11] [] [11, 0, 1, 2, 3, 4, 5, 6, 7, 8, 9, 10] rfl rfl rfl rfl (by decide) (by decide) (by decide) (ci := 3) (q0 := 0) rfl rfl rfl (fun _ => rfl) (fun _ => rfl) (by decide) rfl hl.1 rfl (Nat.le_of_ble_eq_true rfl) dX3_firstModelUnder_95 ⟨Nat.le_of_ble_eq_true rfl, Nat.le_of_ble_eq_true rfl⟩ (fun r6 u9 H locs hw9 hK9 hP hD hS => ?_)
            have er6 : r6 = ks_on (N - v0) := hw9
            subst er6
            have hP : va_P (dC, dI) ksCl [(xa, .inr (3, [.int (nI N), .ref ra, .ref sa, .ref aa, .int (nI ac), .int kc, .int kl, .int mp, .int mm, .int km])), (aa, .inl (cA, 40, .inl AS)), (sa, .inr (1, [.int (nI N), .ref ra, .ref ta, .ref qa, .int lap])), (ra, .inr (0, [.ref rp, .ref rq, .int (nI g), .int (nI nr)])), (rp, .inl (cP, 664, .inl P)), (rq, .inl (cM, 664, .inl M)), (ta, .inr (2, [.ref tb, .ref tr, .int kt, .int ot, .int zt])), (tb, .inl (cB, 16, .inl Bt)), (tr, .inl (cR, 16, .inl Rt)), (qa, .inr (2, [.ref qb, .ref qr, .int kq, .int oq, .int zq])), (qb, .inl (cE, 16, .inl Bq)), (qr, .inl (cF, 16, .inl Rq))] H := hP
            have hD : va_D A [(xa, .inr (3, [.int (nI N), .ref ra, .ref sa, .ref aa, .int (nI ac), .int kc, .int kl, .int mp, .int mm, .int km])), (aa, .inl (cA, 40, .inl AS)), (sa, .inr (1, [.int (nI N), .ref ra, .ref ta, .ref qa, .int lap])), (ra, .inr (0, [.ref rp, .ref rq, .int (nI g), .int (nI nr)])), (rp, .inl (cP, 664, .inl P)), (rq, .inl (cM, 664, .inl M)), (ta, .inr (2, [.ref tb, .ref tr, .int kt, .int ot, .int zt])), (tb, .inl (cB, 16, .inl Bt)), (tr, .inl (cR, 16, .inl Rt)), (qa, .inr (2, [.ref qb, .ref qr, .int kq, .int oq, .int zq])), (qb, .inl (cE, 16, .inl Bq)), (qr, .inl (cF, 16, .inl Rq))] := hD
            refine lv_ior hx hb dX3_firstModelUnder_98 ?_
            refine lv_istore (lv' := [(5, .int (z ||| (ks_on (N - v0)))), (0, .ref xa), (1, .long ch), (4, .int o), (6, .int (nI i))]) hx hb dX3_firstModelUnder_99 hl (by decide) rfl (fun ls hl => ?_)
            refine lv_iinc (v := nI (i + 1)) (lv' := [(6, .int (nI (i + 1))), (5, .int (z ||| (ks_on (N - v0)))), (0, .ref xa), (1, .long ch), (4, .int o)]) hx hb dX3_firstModelUnder_101 hl (k := 4) rfl (nI_1 _) (by decide) rfl (fun ls hl => ?_)
            refine lv_goto (tgt := 33) hx hb dX3_firstModelUnder_104 (by decide) ?_
            exact ih (i + 1, o, z ||| (ks_on (N - v0))) _ _ _ ⟨hi, by omega, j3, hP, hD, hS, lv_sub hl [2, 3, 4, 1, 0] rfl⟩
          · -- 63: goes on
            have j3 := i3.pos hN b1 hv (by rw [Int32.not_le] at c63; exact c63)
            refine lv_iload hx hb dX3_firstModelUnder_66 (lv_at hl 2 rfl) ?_
            refine lv_aload_n hx hb dX3_firstModelUnder_68 rfl (lv_at hl 0 rfl) ?_
            refine lv_aload_n hx hb dX3_firstModelUnder_69 rfl (lv_at hl 0 rfl) ?_
            refine va_get (D := (dC, dI)) (ci := 3) (v := .ref aa) (C := RX3) (T := TX3) (N := 10) hx hb hts hiX3 hown hK hP 0 rfl rfl 3 (by decide) f38 (fun _ h9 => h9) rfl dX3_firstModelUnder_70 ?_
            refine lv_iload hx hb dX3_firstModelUnder_73 (lv_at hl 4 rfl) ?_
            refine ks_ald hx hb hK hP 1 0 rfl rfl (j := i) (by omega) (by decide) dX3_firstModelUnder_75 ?_
            refine ks_calliV (As := [.int (AS i)]) (rest := [.int o]) (wr := [(aa, .inl (cA, 40, .inl AS)), (sa, .inr (1, [.int (nI N), .ref ra, .ref ta, .ref qa, .int lap])), (ra, .inr (0, [.ref rp, .ref rq, .int (nI g), .int (nI nr)])), (rp, .inl (cP, 664, .inl P)), (rq, .inl (cM, 664, .inl M)), (ta, .inr (2, [.ref tb, .ref tr, .int kt, .int ot, .int zt])), (tb, .inl (cB, 16, .inl Bt)), (tr, .inl (cR, 16, .inl Rt)), (qa, .inr (2, [.ref qb, .ref qr, .int kq, .int oq, .int zq])), (qb, .inl (cE, 16, .inl Bq)), (qr, .inl (cF, 16, .inl Rq))]) (wz := fun _ => [(xa, .inr (3, [.int (nI N), .ref ra, .ref sa, .ref aa, .int (nI ac), .int kc, .int kl, .int mp, .int mm, .int km])), (aa, .inl (cA, 40, .inl AS)), (sa, .inr (1, [.int (nI N), .ref ra, .ref ta, .ref qa, .int lap])), (ra, .inr (0, [.ref rp, .ref rq, .int (nI g), .int (nI nr)])), (rp, .inl (cP, 664, .inl P)), (rq, .inl (cM, 664, .inl M)), (ta, .inr (2, [.ref tb, .ref tr, .int kt, .int ot, .int zt])), (tb, .inl (cB, 16, .inl Bt)), (tr, .inl (cR, 16, .inl Rt)), (qa, .inr (2, [.ref qb, .ref qr, .int kq, .int oq, .int zq])), (qb, .inl (cE, 16, .inl Bq)), (qr, .inl (cF, 16, .inl Rq))]) ⟨hx, hb, hml, hown, hts⟩ (ks_bitOf l dC dI xa ra sa aa N (nI ac) kc kl mp mm km (AS i) v0 hN hv) (cwV 1 hts gX3_firstModelUnder_X3_bitOf rfl rfl rfl (by decide +kernel) ⟨Nat.le_of_ble_eq_true rfl, Nat.le_of_ble_eq_true rfl⟩) hK hP hD hS hA hNW [0] [1, 2, 3, 4, 5, 6, 7, 8, 9, 10, 11] [] [11, 0, 1, 2, 3, 4, 5, 6, 7, 8, 9, 10] rfl rfl rfl rfl (by decide) (by decide) (by decide) (ci := 3) (q0 := 0) rfl rfl rfl (fun _ => rfl) (fun _ => rfl) (by decide) rfl hl.1 rfl (Nat.le_of_ble_eq_true rfl) dX3_firstModelUnder_76 ⟨Nat.le_of_ble_eq_true rfl, Nat.le_of_ble_eq_true rfl⟩ (fun r6 u9 H locs hw9 hK9 hP hD hS => ?_)
            have er6 : r6 = ks_on (N - v0) := hw9
            subst er6
            have hP : va_P (dC, dI) ksCl [(xa, .inr (3, [.int (nI N), .ref ra, .ref sa, .ref aa, .int (nI ac), .int kc, .int kl, .int mp, .int mm, .int km])), (aa, .inl (cA, 40, .inl AS)), (sa, .inr (1, [.int (nI N), .ref ra, .ref ta, .ref qa, .int lap])), (ra, .inr (0, [.ref rp, .ref rq, .int (nI g), .int (nI nr)])), (rp, .inl (cP, 664, .inl P)), (rq, .inl (cM, 664, .inl M)), (ta, .inr (2, [.ref tb, .ref tr, .int kt, .int ot, .int zt])), (tb, .inl (cB, 16, .inl Bt)), (tr, .inl (cR, 16, .inl Rt)), (qa, .inr (2, [.ref qb, .ref qr, .int kq, .int oq, .int zq])), (qb, .inl (cE, 16, .inl Bq)), (qr, .inl (cF, 16, .inl Rq))] H := hP
            have hD : va_D A [(xa, .inr (3, [.int (nI N), .ref ra, .ref sa, .ref aa, .int (nI ac), .int kc, .int kl, .int mp, .int mm, .int km])), (aa, .inl (cA, 40, .inl AS)), (sa, .inr (1, [.int (nI N), .ref ra, .ref ta, .ref qa, .int lap])), (ra, .inr (0, [.ref rp, .ref rq, .int (nI g), .int (nI nr)])), (rp, .inl (cP, 664, .inl P)), (rq, .inl (cM, 664, .inl M)), (ta, .inr (2, [.ref tb, .ref tr, .int kt, .int ot, .int zt])), (tb, .inl (cB, 16, .inl Bt)), (tr, .inl (cR, 16, .inl Rt)), (qa, .inr (2, [.ref qb, .ref qr, .int kq, .int oq, .int zq])), (qb, .inl (cE, 16, .inl Bq)), (qr, .inl (cF, 16, .inl Rq))] := hD
            refine lv_ior hx hb dX3_firstModelUnder_79 ?_
            refine lv_istore (lv' := [(4, .int (o ||| (ks_on (N - v0)))), (0, .ref xa), (1, .long ch), (5, .int z), (6, .int (nI i))]) hx hb dX3_firstModelUnder_80 hl (by decide) rfl (fun ls hl => ?_)
            refine lv_goto (tgt := 101) hx hb dX3_firstModelUnder_82 (by decide) ?_
            refine lv_iinc (v := nI (i + 1)) (lv' := [(6, .int (nI (i + 1))), (4, .int (o ||| (ks_on (N - v0)))), (0, .ref xa), (1, .long ch), (5, .int z)]) hx hb dX3_firstModelUnder_101 hl (k := 4) rfl (nI_1 _) (by decide) rfl (fun ls hl => ?_)
            refine lv_goto (tgt := 33) hx hb dX3_firstModelUnder_104 (by decide) ?_
            exact ih (i + 1, o ||| (ks_on (N - v0)), z) _ _ _ ⟨hi, by omega, j3, hP, hD, hS, lv_sub hl [2, 3, 1, 4, 0] rfl⟩
        · -- 50: goes on
          have b0 := (ks_bl_tst (by omega)).mp ((lg_cmp_eq _ _).mp c50)
          have j3 := i3.skip b0
          refine lv_goto (tgt := 101) hx hb dX3_firstModelUnder_53 (by decide) ?_
          refine lv_iinc (v := nI (i + 1)) (lv' := [(6, .int (nI (i + 1))), (0, .ref xa), (1, .long ch), (4, .int o), (5, .int z)]) hx hb dX3_firstModelUnder_101 hl (k := 4) rfl (nI_1 _) (by decide) rfl (fun ls hl => ?_)
          refine lv_goto (tgt := 33) hx hb dX3_firstModelUnder_104 (by decide) ?_
          exact ih (i + 1, o, z) _ _ _ ⟨hi, by omega, j3, hP, hD, hS, lv_sub hl [1, 2, 3, 4, 0] rfl⟩
    · intro x H locs ls h9
      obtain ⟨i1, i2, i3, -, -, -, -⟩ := h9
      try dsimp only at i1 i2
      omega
  · -- the ways to 30
    refine lv_iload_n hx hb dX3_firstModelUnder_0 rfl (lv_at hl 2 rfl) ?_
    refine lv_if_le (tgt := 12) hx hb dX3_firstModelUnder_1 (by decide) (fun c1 => ?_) (fun c1 => ?_)
    · -- 1: jumps
      refine lv_iconst (v := 0) hx hb dX3_firstModelUnder_12 (by decide) ?_
      refine lv_istore (lv' := [(4, .int 0), (0, .ref xa), (1, .long ch), (3, .int ex)]) hx hb dX3_firstModelUnder_13 hl (by decide) rfl (fun ls hl => ?_)
      refine lv_iload_n hx hb dX3_firstModelUnder_15 rfl (lv_at hl 3 rfl) ?_
      refine lv_if_ge (tgt := 27) hx hb dX3_firstModelUnder_16 (by decide) (fun c16 => ?_) (fun c16 => ?_)
      · -- 16: jumps
        have ex0 : ex = 0 := by
          apply Int32.toInt_inj.mp
          rw [Int32.le_iff_toInt_le, Int32.toInt_zero] at c1 c16
          rw [Int32.toInt_zero]; omega
        subst ex0
        have un0 := ks_un.zero0 N AS ch
        refine lv_iconst (v := 0) hx hb dX3_firstModelUnder_27 (by decide) ?_
        refine lv_istore (lv' := [(5, .int 0), (4, .int 0), (0, .ref xa), (1, .long ch), (3, .int 0)]) hx hb dX3_firstModelUnder_28 hl (by decide) rfl (fun ls hl => ?_)
        exact hj (0, 0) _ _ _ ⟨un0, hP, hD, hS, lv_sub hl [2, 3, 1, 0] rfl⟩
      · -- 16: goes on
        have hlx : ∃ v, ks_lit N ex v := by
          rcases hex with q | q
          · exact absurd (by rw [q]; decide) c16
          · exact q
        obtain ⟨v0, hv⟩ := hlx
        have un0 := ks_un.zeron hN (AS := AS) (ch := ch) hv (fun q => absurd c1 (by rw [Int32.not_le]; exact q))
        refine lv_aload_n hx hb dX3_firstModelUnder_19 rfl (lv_at hl 1 rfl) ?_
        refine lv_iload_n hx hb dX3_firstModelUnder_20 rfl (lv_at hl 3 rfl) ?_
        refine ks_calliV (As := [.int ex]) (rest := []) (wr := [(aa, .inl (cA, 40, .inl AS)), (sa, .inr (1, [.int (nI N), .ref ra, .ref ta, .ref qa, .int lap])), (ra, .inr (0, [.ref rp, .ref rq, .int (nI g), .int (nI nr)])), (rp, .inl (cP, 664, .inl P)), (rq, .inl (cM, 664, .inl M)), (ta, .inr (2, [.ref tb, .ref tr, .int kt, .int ot, .int zt])), (tb, .inl (cB, 16, .inl Bt)), (tr, .inl (cR, 16, .inl Rt)), (qa, .inr (2, [.ref qb, .ref qr, .int kq, .int oq, .int zq])), (qb, .inl (cE, 16, .inl Bq)), (qr, .inl (cF, 16, .inl Rq))]) (wz := fun _ => [(xa, .inr (3, [.int (nI N), .ref ra, .ref sa, .ref aa, .int (nI ac), .int kc, .int kl, .int mp, .int mm, .int km])), (aa, .inl (cA, 40, .inl AS)), (sa, .inr (1, [.int (nI N), .ref ra, .ref ta, .ref qa, .int lap])), (ra, .inr (0, [.ref rp, .ref rq, .int (nI g), .int (nI nr)])), (rp, .inl (cP, 664, .inl P)), (rq, .inl (cM, 664, .inl M)), (ta, .inr (2, [.ref tb, .ref tr, .int kt, .int ot, .int zt])), (tb, .inl (cB, 16, .inl Bt)), (tr, .inl (cR, 16, .inl Rt)), (qa, .inr (2, [.ref qb, .ref qr, .int kq, .int oq, .int zq])), (qb, .inl (cE, 16, .inl Bq)), (qr, .inl (cF, 16, .inl Rq))]) ⟨hx, hb, hml, hown, hts⟩ (ks_bitOf l dC dI xa ra sa aa N (nI ac) kc kl mp mm km ex v0 hN hv) (cwV 1 hts gX3_firstModelUnder_X3_bitOf rfl rfl rfl (by decide +kernel) ⟨Nat.le_of_ble_eq_true rfl, Nat.le_of_ble_eq_true rfl⟩) hK hP hD hS hA hNW [0] [1, 2, 3, 4, 5, 6, 7, 8, 9, 10, 11] [] [11, 0, 1, 2, 3, 4, 5, 6, 7, 8, 9, 10] rfl rfl rfl rfl (by decide) (by decide) (by decide) (ci := 3) (q0 := 0) rfl rfl rfl (fun _ => rfl) (fun _ => rfl) (by decide) rfl hl.1 rfl (Nat.le_of_ble_eq_true rfl) dX3_firstModelUnder_21 ⟨Nat.le_of_ble_eq_true rfl, Nat.le_of_ble_eq_true rfl⟩ (fun r2 u9 H locs hw9 hK9 hP hD hS => ?_)
        have er2 : r2 = ks_on (N - v0) := hw9
        subst er2
        have hP : va_P (dC, dI) ksCl [(xa, .inr (3, [.int (nI N), .ref ra, .ref sa, .ref aa, .int (nI ac), .int kc, .int kl, .int mp, .int mm, .int km])), (aa, .inl (cA, 40, .inl AS)), (sa, .inr (1, [.int (nI N), .ref ra, .ref ta, .ref qa, .int lap])), (ra, .inr (0, [.ref rp, .ref rq, .int (nI g), .int (nI nr)])), (rp, .inl (cP, 664, .inl P)), (rq, .inl (cM, 664, .inl M)), (ta, .inr (2, [.ref tb, .ref tr, .int kt, .int ot, .int zt])), (tb, .inl (cB, 16, .inl Bt)), (tr, .inl (cR, 16, .inl Rt)), (qa, .inr (2, [.ref qb, .ref qr, .int kq, .int oq, .int zq])), (qb, .inl (cE, 16, .inl Bq)), (qr, .inl (cF, 16, .inl Rq))] H := hP
        have hD : va_D A [(xa, .inr (3, [.int (nI N), .ref ra, .ref sa, .ref aa, .int (nI ac), .int kc, .int kl, .int mp, .int mm, .int km])), (aa, .inl (cA, 40, .inl AS)), (sa, .inr (1, [.int (nI N), .ref ra, .ref ta, .ref qa, .int lap])), (ra, .inr (0, [.ref rp, .ref rq, .int (nI g), .int (nI nr)])), (rp, .inl (cP, 664, .inl P)), (rq, .inl (cM, 664, .inl M)), (ta, .inr (2, [.ref tb, .ref tr, .int kt, .int ot, .int zt])), (tb, .inl (cB, 16, .inl Bt)), (tr, .inl (cR, 16, .inl Rt)), (qa, .inr (2, [.ref qb, .ref qr, .int kq, .int oq, .int zq])), (qb, .inl (cE, 16, .inl Bq)), (qr, .inl (cF, 16, .inl Rq))] := hD
        refine lv_goto (tgt := 28) hx hb dX3_firstModelUnder_24 (by decide) ?_
        refine lv_istore (lv' := [(5, .int (ks_on (N - v0))), (4, .int 0), (0, .ref xa), (1, .long ch), (3, .int ex)]) hx hb dX3_firstModelUnder_28 hl (by decide) rfl (fun ls hl => ?_)
        exact hj (0, ks_on (N - v0)) _ _ _ ⟨un0, hP, hD, hS, lv_sub hl [2, 3, 1, 0] rfl⟩
    · -- 1: goes on
      have hex1 : ∃ v, ks_lit N ex v := by
        rcases hex with q | q
        · exact absurd (by rw [q]; decide) c1
        · exact q
      obtain ⟨v0, hv⟩ := hex1
      have un0 := ks_un.zerop hN (AS := AS) (ch := ch) hv (by rw [Int32.not_le] at c1; exact c1)
      refine lv_aload_n hx hb dX3_firstModelUnder_4 rfl (lv_at hl 0 rfl) ?_
      refine lv_iload_n hx hb dX3_firstModelUnder_5 rfl (lv_at hl 2 rfl) ?_
      refine ks_calliV (As := [.int ex]) (rest := []) (wr := [(aa, .inl (cA, 40, .inl AS)), (sa, .inr (1, [.int (nI N), .ref ra, .ref ta, .ref qa, .int lap])), (ra, .inr (0, [.ref rp, .ref rq, .int (nI g), .int (nI nr)])), (rp, .inl (cP, 664, .inl P)), (rq, .inl (cM, 664, .inl M)), (ta, .inr (2, [.ref tb, .ref tr, .int kt, .int ot, .int zt])), (tb, .inl (cB, 16, .inl Bt)), (tr, .inl (cR, 16, .inl Rt)), (qa, .inr (2, [.ref qb, .ref qr, .int kq, .int oq, .int zq])), (qb, .inl (cE, 16, .inl Bq)), (qr, .inl (cF, 16, .inl Rq))]) (wz := fun _ => [(xa, .inr (3, [.int (nI N), .ref ra, .ref sa, .ref aa, .int (nI ac), .int kc, .int kl, .int mp, .int mm, .int km])), (aa, .inl (cA, 40, .inl AS)), (sa, .inr (1, [.int (nI N), .ref ra, .ref ta, .ref qa, .int lap])), (ra, .inr (0, [.ref rp, .ref rq, .int (nI g), .int (nI nr)])), (rp, .inl (cP, 664, .inl P)), (rq, .inl (cM, 664, .inl M)), (ta, .inr (2, [.ref tb, .ref tr, .int kt, .int ot, .int zt])), (tb, .inl (cB, 16, .inl Bt)), (tr, .inl (cR, 16, .inl Rt)), (qa, .inr (2, [.ref qb, .ref qr, .int kq, .int oq, .int zq])), (qb, .inl (cE, 16, .inl Bq)), (qr, .inl (cF, 16, .inl Rq))]) ⟨hx, hb, hml, hown, hts⟩ (ks_bitOf l dC dI xa ra sa aa N (nI ac) kc kl mp mm km ex v0 hN hv) (cwV 1 hts gX3_firstModelUnder_X3_bitOf rfl rfl rfl (by decide +kernel) ⟨Nat.le_of_ble_eq_true rfl, Nat.le_of_ble_eq_true rfl⟩) hK hP hD hS hA hNW [0] [1, 2, 3, 4, 5, 6, 7, 8, 9, 10, 11] [] [11, 0, 1, 2, 3, 4, 5, 6, 7, 8, 9, 10] rfl rfl rfl rfl (by decide) (by decide) (by decide) (ci := 3) (q0 := 0) rfl rfl rfl (fun _ => rfl) (fun _ => rfl) (by decide) rfl hl.1 rfl (Nat.le_of_ble_eq_true rfl) dX3_firstModelUnder_6 ⟨Nat.le_of_ble_eq_true rfl, Nat.le_of_ble_eq_true rfl⟩ (fun r2 u9 H locs hw9 hK9 hP hD hS => ?_)
      have er2 : r2 = ks_on (N - v0) := hw9
      subst er2
      have hP : va_P (dC, dI) ksCl [(xa, .inr (3, [.int (nI N), .ref ra, .ref sa, .ref aa, .int (nI ac), .int kc, .int kl, .int mp, .int mm, .int km])), (aa, .inl (cA, 40, .inl AS)), (sa, .inr (1, [.int (nI N), .ref ra, .ref ta, .ref qa, .int lap])), (ra, .inr (0, [.ref rp, .ref rq, .int (nI g), .int (nI nr)])), (rp, .inl (cP, 664, .inl P)), (rq, .inl (cM, 664, .inl M)), (ta, .inr (2, [.ref tb, .ref tr, .int kt, .int ot, .int zt])), (tb, .inl (cB, 16, .inl Bt)), (tr, .inl (cR, 16, .inl Rt)), (qa, .inr (2, [.ref qb, .ref qr, .int kq, .int oq, .int zq])), (qb, .inl (cE, 16, .inl Bq)), (qr, .inl (cF, 16, .inl Rq))] H := hP
      have hD : va_D A [(xa, .inr (3, [.int (nI N), .ref ra, .ref sa, .ref aa, .int (nI ac), .int kc, .int kl, .int mp, .int mm, .int km])), (aa, .inl (cA, 40, .inl AS)), (sa, .inr (1, [.int (nI N), .ref ra, .ref ta, .ref qa, .int lap])), (ra, .inr (0, [.ref rp, .ref rq, .int (nI g), .int (nI nr)])), (rp, .inl (cP, 664, .inl P)), (rq, .inl (cM, 664, .inl M)), (ta, .inr (2, [.ref tb, .ref tr, .int kt, .int ot, .int zt])), (tb, .inl (cB, 16, .inl Bt)), (tr, .inl (cR, 16, .inl Rt)), (qa, .inr (2, [.ref qb, .ref qr, .int kq, .int oq, .int zq])), (qb, .inl (cE, 16, .inl Bq)), (qr, .inl (cF, 16, .inl Rq))] := hD
      refine lv_goto (tgt := 13) hx hb dX3_firstModelUnder_9 (by decide) ?_
      refine lv_istore (lv' := [(4, .int (ks_on (N - v0))), (0, .ref xa), (1, .long ch), (3, .int ex)]) hx hb dX3_firstModelUnder_13 hl (by decide) rfl (fun ls hl => ?_)
      refine lv_iload_n hx hb dX3_firstModelUnder_15 rfl (lv_at hl 3 rfl) ?_
      refine lv_if_ge (tgt := 27) hx hb dX3_firstModelUnder_16 (by decide) (fun c16 => ?_) (fun c16 => absurd (by rw [Int32.le_iff_toInt_le, Int32.toInt_zero]; rw [Int32.le_iff_toInt_le, Int32.toInt_zero] at c1; omega) c16)
      refine lv_iconst (v := 0) hx hb dX3_firstModelUnder_27 (by decide) ?_
      refine lv_istore (lv' := [(5, .int 0), (4, .int (ks_on (N - v0))), (0, .ref xa), (1, .long ch), (3, .int ex)]) hx hb dX3_firstModelUnder_28 hl (by decide) rfl (fun ls hl => ?_)
      exact hj (ks_on (N - v0), 0) _ _ _ ⟨un0, hP, hD, hS, lv_sub hl [2, 3, 1, 0] rfl⟩
