set_option maxHeartbeats 4000000 in
set_option maxRecDepth 100000 in
/-- core -/
theorem ks_core (l : Launch) (dC : Nat → ClassId) (dI : Nat → Nat → Nat) (xa aa : Nat) (cA : ClassId) (sa : Nat) (ta tb tr : Nat) (cB cR : ClassId) (qa qb qr : Nat) (cE cF : ClassId) (ra rp rq : Nat) (cP cM : ClassId) (N : Nat) (lap kc kl mp mm km : Int32) (AS : Nat → Int32) (ac : Nat) (P M : Nat → Int32) (g nr : Nat) (Bt Rt : Nat → Int32) (kt ot zt : Int32) (Bq Rq : Nat → Int32) (kq oq zq : Int32) (hN : N ≤ 16) (hg : g ≤ 600) (hW : ks_W N P M g nr) (hac : ac ≤ 40) (hlit : ∀ j, j < ac → ∃ v, ks_lit N (AS j) v) : ks_Ml l yX3_core wsX3_core ({ frames := 22, cells := 0, slots := 0, locals := 580 }) (dC, dI) [.ref xa] [(xa, .inr (3, [.int (nI N), .ref ra, .ref sa, .ref aa, .int (nI ac), .int kc, .int kl, .int mp, .int mm, .int km])), (aa, .inl (cA, 40, .inl AS)), (sa, .inr (1, [.int (nI N), .ref ra, .ref ta, .ref qa, .int lap])), (ra, .inr (0, [.ref rp, .ref rq, .int (nI g), .int (nI nr)])), (rp, .inl (cP, 664, .inl P)), (rq, .inl (cM, 664, .inl M)), (ta, .inr (2, [.ref tb, .ref tr, .int kt, .int ot, .int zt])), (tb, .inl (cB, 16, .inl Bt)), (tr, .inl (cR, 16, .inl Rt)), (qa, .inr (2, [.ref qb, .ref qr, .int kq, .int oq, .int zq])), (qb, .inl (cE, 16, .inl Bq)), (qr, .inl (cF, 16, .inl Rq))] [(cA, .int), (cP, .int), (cM, .int), (cB, .int), (cR, .int), (cE, .int), (cF, .int)] 0 0 (S := (Nat → Int32) × (Nat → Int32) × Nat × (Nat → Int32) × (Nat → Int32) × Int32 × Int32 × Int32 × (Nat → Int32) × (Nat → Int32) × Int32 × Int32 × Int32) (fun r u => ks_W N u.1 u.2.1 g u.2.2.1 ∧ (∀ c, c < g → u.1 c = P c ∧ u.2.1 c = M c) ∧ ∃ r0, ks_L N (ks_Y N AS ac (-1) 0 P M g) r0 ∧ ((¬ r0 = -1 ∧ r = 0) ∨ (r0 = -1 ∧ ks_kp (ks_nm N AS ac P M g) (ks_K0 ac) ac r))) (fun u => [(xa, .inr (3, [.int (nI N), .ref ra, .ref sa, .ref aa, .int (nI ac), .int kc, .int kl, .int mp, .int mm, .int km])), (aa, .inl (cA, 40, .inl AS)), (sa, .inr (1, [.int (nI N), .ref ra, .ref ta, .ref qa, .int lap])), (ra, .inr (0, [.ref rp, .ref rq, .int (nI g), .int (nI u.2.2.1)])), (rp, .inl (cP, 664, .inl u.1)), (rq, .inl (cM, 664, .inl u.2.1)), (ta, .inr (2, [.ref tb, .ref tr, .int u.2.2.2.2.2.1, .int u.2.2.2.2.2.2.1, .int u.2.2.2.2.2.2.2.1])), (tb, .inl (cB, 16, .inl u.2.2.2.1)), (tr, .inl (cR, 16, .inl u.2.2.2.2.1)), (qa, .inr (2, [.ref qb, .ref qr, .int u.2.2.2.2.2.2.2.2.2.2.1, .int u.2.2.2.2.2.2.2.2.2.2.2.1, .int u.2.2.2.2.2.2.2.2.2.2.2.2])), (qb, .inl (cE, 16, .inl u.2.2.2.2.2.2.2.2.1)), (qr, .inl (cF, 16, .inl u.2.2.2.2.2.2.2.2.2.1))]) (fun u => [(cA, .int), (cP, .int), (cM, .int), (cB, .int), (cR, .int), (cE, .int), (cF, .int)]) := by
  intro sz
  refine Met.ofW (cc := cX3_core) (maxL := 6) (ret := (some .long)) (by decide) rfl ?_
  intro p e s m args below meth c s₁ B9 hml hv
  obtain ⟨rfl, hsz, hP, hK, hD0, hNW⟩ := hv
  have hx := B9.exec
  have hb := B9.bytes
  have hr := B9.returns
  have hts := atoms_spec (ws := wsX3_core) B9.pre
  have hown : s.vm.findClass RX3 = some m.cls := findClass_of_methodNamed B9.named
  have hlocks := B9.notSynchronized
  subst hsz
  have hD := hD0.self (sz := s.heap.size)
  generalize hAe : va_A [(xa, .inr (3, [.int (nI N), .ref ra, .ref sa, .ref aa, .int (nI ac), .int kc, .int kl, .int mp, .int mm, .int km])), (aa, .inl (cA, 40, .inl AS)), (sa, .inr (1, [.int (nI N), .ref ra, .ref ta, .ref qa, .int lap])), (ra, .inr (0, [.ref rp, .ref rq, .int (nI g), .int (nI nr)])), (rp, .inl (cP, 664, .inl P)), (rq, .inl (cM, 664, .inl M)), (ta, .inr (2, [.ref tb, .ref tr, .int kt, .int ot, .int zt])), (tb, .inl (cB, 16, .inl Bt)), (tr, .inl (cR, 16, .inl Rt)), (qa, .inr (2, [.ref qb, .ref qr, .int kq, .int oq, .int zq])), (qb, .inl (cE, 16, .inl Bq)), (qr, .inl (cF, 16, .inl Rq))] s.heap.size = A at hD ⊢
  have hA : ∀ q : Nat, s.heap.size ≤ q → A q := fun q h => by rw [← hAe]; exact Or.inr h
  have hS : va_S A s.heap s.heap [] := va_S.rf
  have hiX3 : ∀ w ∈ u_ws RX3 TX3 10, w ∈ wsX3_core := by decide +kernel
  have f71 := hts (.fieldLink RX3 71 "LessonSolver" "assumptionCount" "I") (by decide +kernel)
  have k74 := hts (.constantLong RX3 74 (-1)) (by decide +kernel)
  have hl := lv_entry ([.ref xa]) (n := 6) (Nat.le_of_ble_eq_true rfl)
  rw [lg_entry_eq]
  generalize (lg_sl ([.ref xa]) ++ List.replicate (6 - (lg_sl ([.ref xa])).length) Slot.unset).toArray = ls at hl ⊢
  have hl : lv_has ls 6 [(0, .ref xa)] := hl
  refine lv_aload_n hx hb dX3_core_0 rfl (lv_at hl 0 rfl) ?_
  refine lv_ldc2 (v := (-1)) hx hb hown k74 dX3_core_1 ?_
  refine lv_iconst (v := 0) hx hb dX3_core_4 (by decide) ?_
  refine ks_calliV (As := [.long (-1), .int 0]) (rest := []) (wr := []) (wz := fun u => [(xa, .inr (3, [.int (nI N), .ref ra, .ref sa, .ref aa, .int (nI ac), .int kc, .int kl, .int mp, .int mm, .int km])), (aa, .inl (cA, 40, .inl AS)), (sa, .inr (1, [.int (nI N), .ref ra, .ref ta, .ref qa, .int lap])), (ra, .inr (0, [.ref rp, .ref rq, .int (nI g), .int (nI u.2.2.1)])), (rp, .inl (cP, 664, .inl u.1)), (rq, .inl (cM, 664, .inl u.2.1)), (ta, .inr (2, [.ref tb, .ref tr, .int u.2.2.2.2.2.1, .int u.2.2.2.2.2.2.1, .int u.2.2.2.2.2.2.2.1])), (tb, .inl (cB, 16, .inl u.2.2.2.1)), (tr, .inl (cR, 16, .inl u.2.2.2.2.1)), (qa, .inr (2, [.ref qb, .ref qr, .int u.2.2.2.2.2.2.2.2.2.2.1, .int u.2.2.2.2.2.2.2.2.2.2.2.1, .int u.2.2.2.2.2.2.2.2.2.2.2.2])), (qb, .inl (cE, 16, .inl u.2.2.2.2.2.2.2.2.1)), (qr, .inl (cF, 16, .inl u.2.2.2.2.2.2.2.2.2.1))]) ⟨hx, hb, hml, hown, hts⟩ (ks_under l dC dI xa aa cA sa ta tb tr cB cR qa qb qr cE cF ra rp rq cP cM N lap kc kl mp mm km AS ac P M g nr Bt Rt kt ot zt Bq Rq kq oq zq (-1) 0 hN hg hW hac hlit (Or.inl rfl)) (cwV 2 hts gX3_core_X3_firstModelUnder rfl rfl rfl (by decide +kernel) ⟨Nat.le_of_ble_eq_true rfl, Nat.le_of_ble_eq_true rfl⟩) hK hP hD hS hA hNW [0, 1, 2, 3, 4, 5, 6, 7, 8, 9, 10, 11] [] [0, 1, 2, 3, 4, 5, 6] [0, 1, 2, 3, 4, 5, 6, 7, 8, 9, 10, 11] rfl rfl rfl rfl (by decide) (by decide) (by decide) (ci := 3) (q0 := 0) rfl rfl rfl (fun _ => rfl) (fun _ => rfl) (by decide) rfl hl.1 rfl (Nat.le_of_ble_eq_true rfl) dX3_core_5 ⟨Nat.le_of_ble_eq_true rfl, Nat.le_of_ble_eq_true rfl⟩ (fun r7 u9 H locs hw9 hK9 hP hD hS => ?_)
  obtain ⟨P1, M1, n1, B1, R1, k1, o1, z1, Bv, Rv, kv, ov, zv⟩ := u9
  obtain ⟨s1, s2, s3⟩ := hw9
  have hP : va_P (dC, dI) ksCl [(xa, .inr (3, [.int (nI N), .ref ra, .ref sa, .ref aa, .int (nI ac), .int kc, .int kl, .int mp, .int mm, .int km])), (aa, .inl (cA, 40, .inl AS)), (sa, .inr (1, [.int (nI N), .ref ra, .ref ta, .ref qa, .int lap])), (ra, .inr (0, [.ref rp, .ref rq, .int (nI g), .int (nI n1)])), (rp, .inl (cP, 664, .inl P1)), (rq, .inl (cM, 664, .inl M1)), (ta, .inr (2, [.ref tb, .ref tr, .int k1, .int o1, .int z1])), (tb, .inl (cB, 16, .inl B1)), (tr, .inl (cR, 16, .inl R1)), (qa, .inr (2, [.ref qb, .ref qr, .int kv, .int ov, .int zv])), (qb, .inl (cE, 16, .inl Bv)), (qr, .inl (cF, 16, .inl Rv))] H := hP
  have hD : va_D A [(xa, .inr (3, [.int (nI N), .ref ra, .ref sa, .ref aa, .int (nI ac), .int kc, .int kl, .int mp, .int mm, .int km])), (aa, .inl (cA, 40, .inl AS)), (sa, .inr (1, [.int (nI N), .ref ra, .ref ta, .ref qa, .int lap])), (ra, .inr (0, [.ref rp, .ref rq, .int (nI g), .int (nI n1)])), (rp, .inl (cP, 664, .inl P1)), (rq, .inl (cM, 664, .inl M1)), (ta, .inr (2, [.ref tb, .ref tr, .int k1, .int o1, .int z1])), (tb, .inl (cB, 16, .inl B1)), (tr, .inl (cR, 16, .inl R1)), (qa, .inr (2, [.ref qb, .ref qr, .int kv, .int ov, .int zv])), (qb, .inl (cE, 16, .inl Bv)), (qr, .inl (cF, 16, .inl Rv))] := hD
  refine lv_iconst (v := -1) hx hb dX3_core_8 (by decide) ?_
  refine lv_icmp_eq (tgt := 14) hx hb dX3_core_9 (by decide) (fun c9 => ?_) (fun c9 => ?_)
  · -- 9: jumps
    refine lv_lconst (v := 1) hx hb dX3_core_14 (by decide) ?_
    refine lv_aload_n hx hb dX3_core_15 rfl (lv_at hl 0 rfl) ?_
    refine va_get (D := (dC, dI)) (ci := 3) (v := .int (nI ac)) (C := RX3) (T := TX3) (N := 10) hx hb hts hiX3 hown hK hP 0 rfl rfl 4 (by decide) f71 (fun _ h9 => h9) rfl dX3_core_16 ?_
    refine lv_lshl hx hb dX3_core_19 rfl ?_
    refine lv_lconst (v := 1) hx hb dX3_core_20 (by decide) ?_
    refine lv_lsub hx hb dX3_core_21 ?_
    refine ks_topl (y := ks_K0 ac) (rfl) ?_
    refine lv_lstore_n (lv' := [(1, .long (ks_K0 ac)), (0, .ref xa)]) hx hb dX3_core_22 rfl hl (by decide) rfl (fun ls hl => ?_)
    refine lv_iconst (v := nI 0) hx hb dX3_core_23 (by decide) ?_
    refine lv_istore_n (lv' := [(3, .int (nI 0)), (1, .long (ks_K0 ac)), (0, .ref xa)]) hx hb dX3_core_24 rfl hl (by decide) rfl (fun ls hl => ?_)
    refine ks_wl (σ := Nat × Int64 × (Nat → Int32) × (Nat → Int32) × Nat × (Nat → Int32) × (Nat → Int32) × Int32 × Int32 × Int32 × (Nat → Int32) × (Nat → Int32) × Int32 × Int32 × Int32) (fun n x H locs ls => (x.1 ≤ ac) ∧ (n + x.1 = ac + 1) ∧ (ks_kp (ks_nm N AS ac P M g) (ks_K0 ac) x.1 x.2.1) ∧ (ks_W N x.2.2.1 x.2.2.2.1 g x.2.2.2.2.1) ∧ (∀ c, c < g → x.2.2.1 c = P c ∧ x.2.2.2.1 c = M c) ∧ va_P (dC, dI) ksCl [(xa, .inr (3, [.int (nI N), .ref ra, .ref sa, .ref aa, .int (nI ac), .int kc, .int kl, .int mp, .int mm, .int km])), (aa, .inl (cA, 40, .inl AS)), (sa, .inr (1, [.int (nI N), .ref ra, .ref ta, .ref qa, .int lap])), (ra, .inr (0, [.ref rp, .ref rq, .int (nI g), .int (nI x.2.2.2.2.1)])), (rp, .inl (cP, 664, .inl x.2.2.1)), (rq, .inl (cM, 664, .inl x.2.2.2.1)), (ta, .inr (2, [.ref tb, .ref tr, .int x.2.2.2.2.2.2.2.1, .int x.2.2.2.2.2.2.2.2.1, .int x.2.2.2.2.2.2.2.2.2.1])), (tb, .inl (cB, 16, .inl x.2.2.2.2.2.1)), (tr, .inl (cR, 16, .inl x.2.2.2.2.2.2.1)), (qa, .inr (2, [.ref qb, .ref qr, .int x.2.2.2.2.2.2.2.2.2.2.2.2.1, .int x.2.2.2.2.2.2.2.2.2.2.2.2.2.1, .int x.2.2.2.2.2.2.2.2.2.2.2.2.2.2])), (qb, .inl (cE, 16, .inl x.2.2.2.2.2.2.2.2.2.2.1)), (qr, .inl (cF, 16, .inl x.2.2.2.2.2.2.2.2.2.2.2.1))] H ∧ va_D A [(xa, .inr (3, [.int (nI N), .ref ra, .ref sa, .ref aa, .int (nI ac), .int kc, .int kl, .int mp, .int mm, .int km])), (aa, .inl (cA, 40, .inl AS)), (sa, .inr (1, [.int (nI N), .ref ra, .ref ta, .ref qa, .int lap])), (ra, .inr (0, [.ref rp, .ref rq, .int (nI g), .int (nI x.2.2.2.2.1)])), (rp, .inl (cP, 664, .inl x.2.2.1)), (rq, .inl (cM, 664, .inl x.2.2.2.1)), (ta, .inr (2, [.ref tb, .ref tr, .int x.2.2.2.2.2.2.2.1, .int x.2.2.2.2.2.2.2.2.1, .int x.2.2.2.2.2.2.2.2.2.1])), (tb, .inl (cB, 16, .inl x.2.2.2.2.2.1)), (tr, .inl (cR, 16, .inl x.2.2.2.2.2.2.1)), (qa, .inr (2, [.ref qb, .ref qr, .int x.2.2.2.2.2.2.2.2.2.2.2.2.1, .int x.2.2.2.2.2.2.2.2.2.2.2.2.2.1, .int x.2.2.2.2.2.2.2.2.2.2.2.2.2.2])), (qb, .inl (cE, 16, .inl x.2.2.2.2.2.2.2.2.2.2.1)), (qr, .inl (cF, 16, .inl x.2.2.2.2.2.2.2.2.2.2.2.1))] ∧ va_S A s.heap H locs ∧ lv_has ls 6 [(0, .ref xa), (1, .long x.2.1), (3, .int (nI x.1))]) 25 ?_ ?_ (ac + 1) (0, ks_K0 ac, P1, M1, n1, B1, R1, k1, o1, z1, Bv, Rv, kv, ov, zv) _ _ ls ⟨Nat.zero_le _, rfl, rfl, s1, s2, hP, hD, hS, lv_sub hl [2, 1, 0] rfl⟩
    · -- loop at 25
      intro n x H locs ls h9 ih
      obtain ⟨i, K, P1, M1, n1, B1, R1, k1, o1, z1, Bv, Rv, kv, ov, zv⟩ := x
      obtain ⟨i1, i2, i3, i4, i5, hP, hD, hS, hl⟩ := h9
      have i1 : i ≤ ac := i1
      have i2 : (n + 1) + i = ac + 1 := i2
      have i3 : ks_kp (ks_nm N AS ac P M g) (ks_K0 ac) i K := i3
      have i4 : ks_W N P1 M1 g n1 := i4
      have i5 : ∀ c, c < g → P1 c = P c ∧ M1 c = M c := i5
      have hP : va_P (dC, dI) ksCl [(xa, .inr (3, [.int (nI N), .ref ra, .ref sa, .ref aa, .int (nI ac), .int kc, .int kl, .int mp, .int mm, .int km])), (aa, .inl (cA, 40, .inl AS)), (sa, .inr (1, [.int (nI N), .ref ra, .ref ta, .ref qa, .int lap])), (ra, .inr (0, [.ref rp, .ref rq, .int (nI g), .int (nI n1)])), (rp, .inl (cP, 664, .inl P1)), (rq, .inl (cM, 664, .inl M1)), (ta, .inr (2, [.ref tb, .ref tr, .int k1, .int o1, .int z1])), (tb, .inl (cB, 16, .inl B1)), (tr, .inl (cR, 16, .inl R1)), (qa, .inr (2, [.ref qb, .ref qr, .int kv, .int ov, .int zv])), (qb, .inl (cE, 16, .inl Bv)), (qr, .inl (cF, 16, .inl Rv))] H := hP
      have hD : va_D A [(xa, .inr (3, [.int (nI N), .ref ra, .ref sa, .ref aa, .int (nI ac), .int kc, .int kl, .int mp, .int mm, .int km])), (aa, .inl (cA, 40, .inl AS)), (sa, .inr (1, [.int (nI N), .ref ra, .ref ta, .ref qa, .int lap])), (ra, .inr (0, [.ref rp, .ref rq, .int (nI g), .int (nI n1)])), (rp, .inl (cP, 664, .inl P1)), (rq, .inl (cM, 664, .inl M1)), (ta, .inr (2, [.ref tb, .ref tr, .int k1, .int o1, .int z1])), (tb, .inl (cB, 16, .inl B1)), (tr, .inl (cR, 16, .inl R1)), (qa, .inr (2, [.ref qb, .ref qr, .int kv, .int ov, .int zv])), (qb, .inl (cE, 16, .inl Bv)), (qr, .inl (cF, 16, .inl Rv))] := hD
      have hl : lv_has ls 6 [(0, .ref xa), (1, .long K), (3, .int (nI i))] := hl
      refine lv_iload_n hx hb dX3_core_25 rfl (lv_at hl 2 rfl) ?_
      refine lv_aload_n hx hb dX3_core_26 rfl (lv_at hl 0 rfl) ?_
      refine va_get (D := (dC, dI)) (ci := 3) (v := .int (nI ac)) (C := RX3) (T := TX3) (N := 10) hx hb hts hiX3 hown hK hP 0 rfl rfl 4 (by decide) f71 (fun _ h9 => h9) rfl dX3_core_27 ?_
      refine lv_icmp_ge (tgt := 64) hx hb dX3_core_30 (by decide) (fun c30 => ?_) (fun c30 => ?_)
      · -- 30: jumps
        have hi : ac ≤ i := by
          rcases Nat.lt_or_ge i ac with q | q
          · exact absurd c30 (nI_ge q (by omega))
          · exact q
        have ei : i = ac := by omega
        rw [ei] at i3
        refine lv_lload_n hx hb dX3_core_64 rfl (lv_at hl 1 rfl) ?_
        have hP9 : va_P (dC, dI) ksCl [(xa, .inr (3, [.int (nI N), .ref ra, .ref sa, .ref aa, .int (nI ac), .int kc, .int kl, .int mp, .int mm, .int km])), (aa, .inl (cA, 40, .inl AS)), (sa, .inr (1, [.int (nI N), .ref ra, .ref ta, .ref qa, .int lap])), (ra, .inr (0, [.ref rp, .ref rq, .int (nI g), .int (nI n1)])), (rp, .inl (cP, 664, .inl P1)), (rq, .inl (cM, 664, .inl M1)), (ta, .inr (2, [.ref tb, .ref tr, .int k1, .int o1, .int z1])), (tb, .inl (cB, 16, .inl B1)), (tr, .inl (cR, 16, .inl R1)), (qa, .inr (2, [.ref qb, .ref qr, .int kv, .int ov, .int zv])), (qb, .inl (cE, 16, .inl Bv)), (qr, .inl (cF, 16, .inl Rv))] _ := hP
        have hD9 : va_D A [(xa, .inr (3, [.int (nI N), .ref ra, .ref sa, .ref aa, .int (nI ac), .int kc, .int kl, .int mp, .int mm, .int km])), (aa, .inl (cA, 40, .inl AS)), (sa, .inr (1, [.int (nI N), .ref ra, .ref ta, .ref qa, .int lap])), (ra, .inr (0, [.ref rp, .ref rq, .int (nI g), .int (nI n1)])), (rp, .inl (cP, 664, .inl P1)), (rq, .inl (cM, 664, .inl M1)), (ta, .inr (2, [.ref tb, .ref tr, .int k1, .int o1, .int z1])), (tb, .inl (cB, 16, .inl B1)), (tr, .inl (cR, 16, .inl R1)), (qa, .inr (2, [.ref qb, .ref qr, .int kv, .int ov, .int zv])), (qb, .inl (cE, 16, .inl Bv)), (qr, .inl (cF, 16, .inl Rv))] := hD
        have hK9 : va_K (dC, dI) ksCl [(cA, .int), (cP, .int), (cM, .int), (cB, .int), (cR, .int), (cE, .int), (cF, .int)] s := hK
        exact W.lret (v := K) hx hb hr (fun t ht hW9 => ⟨⟨K, (P1, M1, n1, B1, R1, k1, o1, z1, Bv, Rv, kv, ov, zv), rfl, ⟨i4, i5, r7, s3, Or.inr ⟨c9, i3⟩⟩, by rw [ht]; exact hP9, va_K.moved hW9.alike hK9, hD9⟩, hS.F ht⟩) hS.2.2 dX3_core_65
      · -- 30: goes on
        have hi : i < ac := by
          rcases Nat.lt_or_ge i ac with q | q
          · exact q
          · exact absurd (nI_le q (by omega)) c30
        refine lv_lload_n hx hb dX3_core_33 rfl (lv_at hl 1 rfl) ?_
        refine lv_lconst (v := 1) hx hb dX3_core_34 (by decide) ?_
        refine lv_iload_n hx hb dX3_core_35 rfl (lv_at hl 2 rfl) ?_
        refine lv_lshl hx hb dX3_core_36 rfl ?_
        refine lv_ldc2 (v := (-1)) hx hb hown k74 dX3_core_37 ?_
        refine lv_lxor hx hb dX3_core_40 ?_
        refine lv_land hx hb dX3_core_41 ?_
        refine ks_topl (y := ks_rm K i) (rfl) ?_
        refine lv_lstore (lv' := [(4, .long (ks_rm K i)), (0, .ref xa), (1, .long K), (3, .int (nI i))]) hx hb dX3_core_42 hl (by decide) rfl (fun ls hl => ?_)
        refine lv_aload_n hx hb dX3_core_44 rfl (lv_at hl 1 rfl) ?_
        refine lv_lload hx hb dX3_core_45 (lv_at hl 0 rfl) ?_
        refine lv_iconst (v := 0) hx hb dX3_core_47 (by decide) ?_
        refine ks_calliV (As := [.long (ks_rm K i), .int 0]) (rest := []) (wr := []) (wz := fun u => [(xa, .inr (3, [.int (nI N), .ref ra, .ref sa, .ref aa, .int (nI ac), .int kc, .int kl, .int mp, .int mm, .int km])), (aa, .inl (cA, 40, .inl AS)), (sa, .inr (1, [.int (nI N), .ref ra, .ref ta, .ref qa, .int lap])), (ra, .inr (0, [.ref rp, .ref rq, .int (nI g), .int (nI u.2.2.1)])), (rp, .inl (cP, 664, .inl u.1)), (rq, .inl (cM, 664, .inl u.2.1)), (ta, .inr (2, [.ref tb, .ref tr, .int u.2.2.2.2.2.1, .int u.2.2.2.2.2.2.1, .int u.2.2.2.2.2.2.2.1])), (tb, .inl (cB, 16, .inl u.2.2.2.1)), (tr, .inl (cR, 16, .inl u.2.2.2.2.1)), (qa, .inr (2, [.ref qb, .ref qr, .int u.2.2.2.2.2.2.2.2.2.2.1, .int u.2.2.2.2.2.2.2.2.2.2.2.1, .int u.2.2.2.2.2.2.2.2.2.2.2.2])), (qb, .inl (cE, 16, .inl u.2.2.2.2.2.2.2.2.1)), (qr, .inl (cF, 16, .inl u.2.2.2.2.2.2.2.2.2.1))]) ⟨hx, hb, hml, hown, hts⟩ (ks_under l dC dI xa aa cA sa ta tb tr cB cR qa qb qr cE cF ra rp rq cP cM N lap kc kl mp mm km AS ac P1 M1 g n1 B1 R1 k1 o1 z1 Bv Rv kv ov zv (ks_rm K i) 0 hN hg i4 hac hlit (Or.inl rfl)) (cwV 2 hts gX3_core_X3_firstModelUnder rfl rfl rfl (by decide +kernel) ⟨Nat.le_of_ble_eq_true rfl, Nat.le_of_ble_eq_true rfl⟩) hK hP hD hS hA hNW [0, 1, 2, 3, 4, 5, 6, 7, 8, 9, 10, 11] [] [0, 1, 2, 3, 4, 5, 6] [0, 1, 2, 3, 4, 5, 6, 7, 8, 9, 10, 11] rfl rfl rfl rfl (by decide) (by decide) (by decide) (ci := 3) (q0 := 0) rfl rfl rfl (fun _ => rfl) (fun _ => rfl) (by decide) rfl hl.1 rfl (Nat.le_of_ble_eq_true rfl) dX3_core_48 ⟨Nat.le_of_ble_eq_true rfl, Nat.le_of_ble_eq_true rfl⟩ (fun r8 u9 H locs hw9 hK9 hP hD hS => ?_)
        obtain ⟨P2, M2, n2, B2, R2, k2, o2, z2, Bw, Rw, kw, ow, zw⟩ := u9
        obtain ⟨s1b, s2b, s3b⟩ := hw9
        have hP : va_P (dC, dI) ksCl [(xa, .inr (3, [.int (nI N), .ref ra, .ref sa, .ref aa, .int (nI ac), .int kc, .int kl, .int mp, .int mm, .int km])), (aa, .inl (cA, 40, .inl AS)), (sa, .inr (1, [.int (nI N), .ref ra, .ref ta, .ref qa, .int lap])), (ra, .inr (0, [.ref rp, .ref rq, .int (nI g), .int (nI n2)])), (rp, .inl (cP, 664, .inl P2)), (rq, .inl (cM, 664, .inl M2)), (ta, .inr (2, [.ref tb, .ref tr, .int k2, .int o2, .int z2])), (tb, .inl (cB, 16, .inl B2)), (tr, .inl (cR, 16, .inl R2)), (qa, .inr (2, [.ref qb, .ref qr, .int kw, .int ow, .int zw])), (qb, .inl (cE, 16, .inl Bw)), (qr, .inl (cF, 16, .inl Rw))] H := hP
        have hD : va_D A [(xa, .inr (3, [.int (nI N), .ref ra, .ref sa, .ref aa, .int (nI ac), .int kc, .int kl, .int mp, .int mm, .int km])), (aa, .inl (cA, 40, .inl AS)), (sa, .inr (1, [.int (nI N), .ref ra, .ref ta, .ref qa, .int lap])), (ra, .inr (0, [.ref rp, .ref rq, .int (nI g), .int (nI n2)])), (rp, .inl (cP, 664, .inl P2)), (rq, .inl (cM, 664, .inl M2)), (ta, .inr (2, [.ref tb, .ref tr, .int k2, .int o2, .int z2])), (tb, .inl (cB, 16, .inl B2)), (tr, .inl (cR, 16, .inl R2)), (qa, .inr (2, [.ref qb, .ref qr, .int kw, .int ow, .int zw])), (qb, .inl (cE, 16, .inl Bw)), (qr, .inl (cF, 16, .inl Rw))] := hD
        refine lv_iconst (v := -1) hx hb dX3_core_51 (by decide) ?_
        refine lv_icmp_ne (tgt := 58) hx hb dX3_core_52 (by decide) (fun c52 => ?_) (fun c52 => ?_)
        · -- 52: jumps
          have s3c := ks_Y.ext i5 s3b
          have j3 : ks_kp (ks_nm N AS ac P M g) (ks_K0 ac) (i + 1) K := ⟨K, i3, Or.inr ⟨s3c.yes c52, rfl⟩⟩
          refine lv_iinc (v := nI (i + 1)) (lv' := [(3, .int (nI (i + 1))), (4, .long (ks_rm K i)), (0, .ref xa), (1, .long K)]) hx hb dX3_core_58 hl (k := 3) rfl (nI_1 _) (by decide) rfl (fun ls hl => ?_)
          refine lv_goto (tgt := 25) hx hb dX3_core_61 (by decide) ?_
          exact ih (i + 1, K, P2, M2, n2, B2, R2, k2, o2, z2, Bw, Rw, kw, ow, zw) _ _ _ ⟨hi, by omega, j3, s1b, fun c hc => ⟨((s2b c hc).1).trans (i5 c hc).1, ((s2b c hc).2).trans (i5 c hc).2⟩, hP, hD, hS, lv_sub hl [2, 3, 0] rfl⟩
        · -- 52: goes on
          have s3c := ks_Y.ext i5 s3b
          have j3 : ks_kp (ks_nm N AS ac P M g) (ks_K0 ac) (i + 1) (ks_rm K i) := ⟨K, i3, Or.inl ⟨s3c.no hN c52, rfl⟩⟩
          refine lv_lload hx hb dX3_core_55 (lv_at hl 0 rfl) ?_
          refine lv_lstore_n (lv' := [(1, .long (ks_rm K i)), (4, .long (ks_rm K i)), (0, .ref xa), (3, .int (nI i))]) hx hb dX3_core_57 rfl hl (by decide) rfl (fun ls hl => ?_)
          refine lv_iinc (v := nI (i + 1)) (lv' := [(3, .int (nI (i + 1))), (1, .long (ks_rm K i)), (4, .long (ks_rm K i)), (0, .ref xa)]) hx hb dX3_core_58 hl (k := 3) rfl (nI_1 _) (by decide) rfl (fun ls hl => ?_)
          refine lv_goto (tgt := 25) hx hb dX3_core_61 (by decide) ?_
          exact ih (i + 1, ks_rm K i, P2, M2, n2, B2, R2, k2, o2, z2, Bw, Rw, kw, ow, zw) _ _ _ ⟨hi, by omega, j3, s1b, fun c hc => ⟨((s2b c hc).1).trans (i5 c hc).1, ((s2b c hc).2).trans (i5 c hc).2⟩, hP, hD, hS, lv_sub hl [3, 1, 0] rfl⟩
    · intro x H locs ls h9
      obtain ⟨i1, i2, i3, i4, i5, -, -, -, -⟩ := h9
      try dsimp only at i1 i2
      omega
  · -- 9: goes on
    refine lv_lconst (v := 0) hx hb dX3_core_12 (by decide) ?_
    have hP9 : va_P (dC, dI) ksCl [(xa, .inr (3, [.int (nI N), .ref ra, .ref sa, .ref aa, .int (nI ac), .int kc, .int kl, .int mp, .int mm, .int km])), (aa, .inl (cA, 40, .inl AS)), (sa, .inr (1, [.int (nI N), .ref ra, .ref ta, .ref qa, .int lap])), (ra, .inr (0, [.ref rp, .ref rq, .int (nI g), .int (nI n1)])), (rp, .inl (cP, 664, .inl P1)), (rq, .inl (cM, 664, .inl M1)), (ta, .inr (2, [.ref tb, .ref tr, .int k1, .int o1, .int z1])), (tb, .inl (cB, 16, .inl B1)), (tr, .inl (cR, 16, .inl R1)), (qa, .inr (2, [.ref qb, .ref qr, .int kv, .int ov, .int zv])), (qb, .inl (cE, 16, .inl Bv)), (qr, .inl (cF, 16, .inl Rv))] _ := hP
    have hD9 : va_D A [(xa, .inr (3, [.int (nI N), .ref ra, .ref sa, .ref aa, .int (nI ac), .int kc, .int kl, .int mp, .int mm, .int km])), (aa, .inl (cA, 40, .inl AS)), (sa, .inr (1, [.int (nI N), .ref ra, .ref ta, .ref qa, .int lap])), (ra, .inr (0, [.ref rp, .ref rq, .int (nI g), .int (nI n1)])), (rp, .inl (cP, 664, .inl P1)), (rq, .inl (cM, 664, .inl M1)), (ta, .inr (2, [.ref tb, .ref tr, .int k1, .int o1, .int z1])), (tb, .inl (cB, 16, .inl B1)), (tr, .inl (cR, 16, .inl R1)), (qa, .inr (2, [.ref qb, .ref qr, .int kv, .int ov, .int zv])), (qb, .inl (cE, 16, .inl Bv)), (qr, .inl (cF, 16, .inl Rv))] := hD
    have hK9 : va_K (dC, dI) ksCl [(cA, .int), (cP, .int), (cM, .int), (cB, .int), (cR, .int), (cE, .int), (cF, .int)] s := hK
    exact W.lret (v := 0) hx hb hr (fun t ht hW9 => ⟨⟨0, (P1, M1, n1, B1, R1, k1, o1, z1, Bv, Rv, kv, ov, zv), rfl, ⟨s1, s2, r7, s3, Or.inl ⟨c9, rfl⟩⟩, by rw [ht]; exact hP9, va_K.moved hW9.alike hK9, hD9⟩, hS.F ht⟩) hS.2.2 dX3_core_13
