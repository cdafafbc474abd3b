/-! the class and the reference agree, call by call -/
def kl_inv (N : Nat) (P M : Nat → Int32) (g nr : Nat) (AS : Nat → Int32) (ac kc kl : Nat) (mp mm : Int32) (km : Nat) (A0 : Nat → Int64) (MK : Nat → Int32) : Prop :=
  ks_W N P M g nr ∧ g ≤ kc ∧ kc ≤ 600 ∧ kl ≤ 4000 ∧ km ≤ 20 ∧ ac ≤ 40 ∧ ks_in N mp mm ∧ (∀ j, j < ac → ∃ v, ks_lit N (AS j) v) ∧ (∀ j, j < km → ∃ v, ks_lit N (MK j) v) ∧ (∀ a, ks_T mp mm a ↔ ks_mkT N MK km a) ∧ ks_TT N A0 (ks_M P M g)
theorem kl_mk0 (N : Nat) (MK : Nat → Int32) (a : Nat → Bool) : ks_T 0 0 a ↔ ks_mkT N MK 0 a := ⟨fun h => absurd h ks_T.none, fun ⟨j, hj, _⟩ => absurd hj (Nat.not_lt_zero j)⟩
theorem kl_start (N : Nat) (P M : Nat → Int32) (AS MK : Nat → Int32) (A0 : Nat → Int64) (h : ks_TT N A0 (fun _ => True)) : kl_inv N P M 0 0 AS 0 0 0 0 0 0 A0 MK :=
  ⟨ks_W.clear N P M, Nat.le_refl _, by decide, by decide, by decide, by decide, ks_in00 N, fun j hj => absurd hj (Nat.not_lt_zero j), fun j hj => absurd hj (Nat.not_lt_zero j), kl_mk0 N MK, h.congr (fun v _ => ⟨fun _ c hc => absurd hc (Nat.not_lt_zero c), fun _ => trivial⟩)⟩
theorem kl_add {N : Nat} {P M : Nat → Int32} {g nr : Nat} {AS : Nat → Int32} {ac kc kl : Nat} {mp mm : Int32} {km : Nat} {A0 : Nat → Int64} {MK : Nat → Int32} {x0 r1 r2 mp1 mm1 : Int32} {km1 km2 : Nat} {MK1 : Nat → Int32} (h : kl_inv N P M g nr AS ac kc kl mp mm km A0 MK)
    (h1 : (r1 = 0 ∧ ((¬ ∃ v, ks_lit N x0 v) ∨ 20 ≤ km) ∧ (mp1, mm1, km1) = (mp, mm, km)) ∨ (r1 = 1 ∧ km < 20 ∧ (∃ v, ks_lit N x0 v) ∧ km1 = km + 1 ∧ (∀ a, ks_T mp1 mm1 a ↔ ks_T mp mm a ∨ ks_lt N x0 a) ∧ ks_in N mp1 mm1))
    (h2 : (r2 = 0 ∧ ((¬ ∃ v, ks_lit N x0 v) ∨ 20 ≤ km) ∧ (MK1, km2) = (MK, km)) ∨ (r2 = 1 ∧ km < 20 ∧ (∃ v, ks_lit N x0 v) ∧ (MK1, km2) = (upd MK km x0, km + 1))) : r1 = r2 ∧ km1 = km2 ∧ kl_inv N P M g nr AS ac kc kl mp1 mm1 km1 A0 MK1 := by
  obtain ⟨a1, a2, a3, a4, a5, a6, a7, a8, a9, a10, a11⟩ := h
  rcases h1 with ⟨e1, q1, u1⟩ | ⟨e1, q1, q2, u1, u2, u3⟩ <;> rcases h2 with ⟨e2, p1, w1⟩ | ⟨e2, p1, p2, w1⟩
  · cases u1; cases w1
    exact ⟨e1.trans e2.symm, rfl, a1, a2, a3, a4, a5, a6, a7, a8, a9, a10, a11⟩
  · exfalso
    rcases q1 with q | q
    · exact q p2
    · omega
  · exfalso
    rcases p1 with q | q
    · exact q q2
    · omega
  · cases w1
    refine ⟨e1.trans e2.symm, u1, a1, a2, a3, a4, by omega, a6, u3, a8, fun j hj => ?_, fun a => ?_, a11⟩
    · by_cases e : j = km
      · subst e; rw [pk_us]; exact q2
      · rw [pk_un e]; exact a9 j (by omega)
    · rw [u2 a, a10 a, u1]
      constructor
      · intro q
        rcases q with ⟨j, hj, q⟩ | q
        · exact ⟨j, by omega, by rw [pk_un (by omega)]; exact q⟩
        · exact ⟨km, by omega, by rw [pk_us]; exact q⟩
      · intro ⟨j, hj, q⟩
        by_cases e : j = km
        · subst e; rw [pk_us] at q; exact Or.inr q
        · rw [pk_un e] at q; exact Or.inl ⟨j, by omega, q⟩
theorem kl_close {N : Nat} {P M : Nat → Int32} {g nr : Nat} {AS : Nat → Int32} {ac kc kl : Nat} {mp mm : Int32} {km : Nat} {A0 : Nat → Int64} {MK : Nat → Int32} {r1 r2 : Int32} {P1 M1 : Nat → Int32} {g1 n1 kc1 kl1 kc2 kl2 : Nat} {A1 : Nat → Int64} (h : kl_inv N P M g nr AS ac kc kl mp mm km A0 MK)
    (h1 : (r1 = -1 ∧ ¬ (kc < 600 ∧ kl + km ≤ 4000) ∧ (P1, M1, g1, n1, kc1, kl1) = (P, M, g, nr, kc, kl)) ∨ (r1 = nI (kc + 1) ∧ kc < 600 ∧ kl + km ≤ 4000 ∧ kc1 = kc + 1 ∧ kl1 = kl + km ∧ ks_W N P1 M1 g1 n1 ∧ g1 ≤ kc + 1 ∧ ∀ a, ks_M P1 M1 g1 a ↔ ks_M P M g a ∧ ks_T mp mm a))
    (h2 : (r2 = -1 ∧ ¬ (kc < 600 ∧ kl + km ≤ 4000) ∧ (A1, kc2, kl2) = (A0, kc, kl)) ∨ (r2 = nI (kc + 1) ∧ kc < 600 ∧ kl + km ≤ 4000 ∧ (kc2, kl2) = (kc + 1, kl + km) ∧ ks_TT N A1 (fun a => ks_M P M g a ∧ ks_mkT N MK km a))) : r1 = r2 ∧ kc1 = kc2 ∧ kl1 = kl2 ∧ kl_inv N P1 M1 g1 n1 AS ac kc1 kl1 0 0 0 A1 MK := by
  obtain ⟨a1, a2, a3, a4, a5, a6, a7, a8, a9, a10, a11⟩ := h
  rcases h1 with ⟨e1, q1, u1⟩ | ⟨e1, q1, q2, u1, u2, u3, u4, u5⟩ <;> rcases h2 with ⟨e2, p1, w1⟩ | ⟨e2, p1, p2, w1, w2⟩
  · cases u1; cases w1
    exact ⟨e1.trans e2.symm, rfl, rfl, a1, a2, a3, a4, by decide, a6, ks_in00 N, a8, fun j hj => absurd hj (Nat.not_lt_zero j), kl_mk0 N MK, a11⟩
  · exact absurd ⟨p1, p2⟩ q1
  · exact absurd ⟨q1, q2⟩ p1
  · cases w1
    refine ⟨e1.trans e2.symm, u1, u2, u3, by omega, by omega, by omega, by decide, a6, ks_in00 N, a8, fun j hj => absurd hj (Nat.not_lt_zero j), kl_mk0 N MK, w2.congr (fun v _ => ?_)⟩
    rw [u5, a10]
theorem kl_assume {N : Nat} {P M : Nat → Int32} {g nr : Nat} {AS : Nat → Int32} {ac kc kl : Nat} {mp mm : Int32} {km : Nat} {A0 : Nat → Int64} {MK : Nat → Int32} {x0 r1 r2 : Int32} {AS1 AS2 : Nat → Int32} {ac1 ac2 : Nat} (h : kl_inv N P M g nr AS ac kc kl mp mm km A0 MK)
    (h1 : (r1 = -1 ∧ ((¬ ∃ v, ks_lit N x0 v) ∨ 40 ≤ ac) ∧ (AS1, ac1) = (AS, ac)) ∨ (r1 = nI (ac + 1) ∧ ac < 40 ∧ (∃ v, ks_lit N x0 v) ∧ (AS1, ac1) = (upd AS ac x0, ac + 1)))
    (h2 : (r2 = -1 ∧ ((¬ ∃ v, ks_lit N x0 v) ∨ 40 ≤ ac) ∧ (AS2, ac2) = (AS, ac)) ∨ (r2 = nI (ac + 1) ∧ ac < 40 ∧ (∃ v, ks_lit N x0 v) ∧ (AS2, ac2) = (upd AS ac x0, ac + 1))) : r1 = r2 ∧ AS1 = AS2 ∧ ac1 = ac2 ∧ kl_inv N P M g nr AS1 ac1 kc kl mp mm km A0 MK := by
  obtain ⟨a1, a2, a3, a4, a5, a6, a7, a8, a9, a10, a11⟩ := h
  rcases h1 with ⟨e1, q1, u1⟩ | ⟨e1, q1, q2, u1⟩ <;> rcases h2 with ⟨e2, p1, w1⟩ | ⟨e2, p1, p2, w1⟩
  · cases u1; cases w1
    exact ⟨e1.trans e2.symm, rfl, rfl, a1, a2, a3, a4, a5, a6, a7, a8, a9, a10, a11⟩
  · exfalso
    rcases q1 with q | q
    · exact q p2
    · omega
  · exfalso
    rcases p1 with q | q
    · exact q q2
    · omega
  · cases u1; cases w1
    refine ⟨e1.trans e2.symm, rfl, rfl, a1, a2, a3, a4, a5, by omega, a7, fun j hj => ?_, a9, a10, a11⟩
    by_cases e : j = ac
    · subst e; rw [pk_us]; exact q2
    · rw [pk_un e]; exact a8 j (by omega)
theorem kl_retract {N : Nat} {P M : Nat → Int32} {g nr : Nat} {AS : Nat → Int32} {ac kc kl : Nat} {mp mm : Int32} {km : Nat} {A0 : Nat → Int64} {MK : Nat → Int32} {x0 r1 r2 : Int32} {ac1 ac2 : Nat} (h : kl_inv N P M g nr AS ac kc kl mp mm km A0 MK)
    (h1 : (r1 = -1 ∧ (x0 < 0 ∨ nI ac < x0) ∧ ac1 = ac) ∨ (∃ j, x0 = nI j ∧ j ≤ ac ∧ ac1 = ac - j ∧ r1 = nI (ac - j)))
    (h2 : (r2 = -1 ∧ (x0 < 0 ∨ nI ac < x0) ∧ ac2 = ac) ∨ (∃ j, x0 = nI j ∧ j ≤ ac ∧ ac2 = ac - j ∧ r2 = nI (ac - j))) : r1 = r2 ∧ ac1 = ac2 ∧ kl_inv N P M g nr AS ac1 kc kl mp mm km A0 MK := by
  obtain ⟨a1, a2, a3, a4, a5, a6, a7, a8, a9, a10, a11⟩ := h
  have hno : ∀ j, x0 = nI j → j ≤ ac → ¬ (x0 < 0 ∨ nI ac < x0) := by
    intro j e hj q
    rw [e] at q
    rcases q with q | q
    · exact nI_pos (by omega) q
    · exact nI_nlt hj (by omega) q
  have hk : ∀ k, k ≤ ac → kl_inv N P M g nr AS k kc kl mp mm km A0 MK := fun k hk => ⟨a1, a2, a3, a4, a5, by omega, a7, fun j hj => a8 j (by omega), a9, a10, a11⟩
  rcases h1 with ⟨e1, q1, u1⟩ | ⟨j, q1, q2, u1, e1⟩ <;> rcases h2 with ⟨e2, p1, w1⟩ | ⟨j', p1, p2, w1, e2⟩
  · exact ⟨e1.trans e2.symm, u1.trans w1.symm, hk ac1 (by omega)⟩
  · exact absurd q1 (hno j' p1 p2)
  · exact absurd p1 (hno j q1 q2)
  · have e : j = j' := (nI_eq (by omega) (by omega)).mp (q1.symm.trans p1)
    subst e
    exact ⟨e1.trans e2.symm, u1.trans w1.symm, hk ac1 (by omega)⟩
/-- a search leaves the given clauses as they were -/
theorem kl_search {N : Nat} {P M P1 M1 : Nat → Int32} {g nr n1 : Nat} {AS : Nat → Int32} {ac kc kl : Nat} {mp mm : Int32} {km : Nat} {A0 : Nat → Int64} {MK : Nat → Int32} (h : kl_inv N P M g nr AS ac kc kl mp mm km A0 MK) (hW : ks_W N P1 M1 g n1) (hE : ∀ c, c < g → P1 c = P c ∧ M1 c = M c) : kl_inv N P1 M1 g n1 AS ac kc kl mp mm km A0 MK := by
  obtain ⟨a1, a2, a3, a4, a5, a6, a7, a8, a9, a10, a11⟩ := h
  exact ⟨hW, a2, a3, a4, a5, a6, a7, a8, a9, a10, a11.congr (fun v _ => (ks_M.ext hE).symm)⟩
theorem kl_solve {N : Nat} (hN : N ≤ 16) {F : (Nat → Bool) → Prop} {r1 r2 : Int32} (h1 : ∃ r0, ks_L N F r0 ∧ ((r0 = -1 ∧ r1 = 0) ∨ (¬ r0 = -1 ∧ r1 = 1))) (h2 : (r2 = 0 ∧ ∀ v, v < 2 ^ N → ¬ F v.testBit) ∨ (r2 = 1 ∧ ¬ ∀ v, v < 2 ^ N → ¬ F v.testBit)) : r1 = r2 := by
  obtain ⟨r0, hL, h⟩ := h1
  rcases h with ⟨e, q⟩ | ⟨e, q⟩ <;> rcases h2 with ⟨p, w⟩ | ⟨p, w⟩
  · rw [q, p]
  · exact absurd (hL.no hN e) w
  · exact absurd w (hL.yes e)
  · rw [q, p]
theorem kl_implied {N : Nat} (hN : N ≤ 16) {AS : Nat → Int32} {ac : Nat} {P M : Nat → Int32} {g : Nat} {x0 r1 r2 : Int32}
    (h1 : (¬ (∃ v, ks_lit N x0 v) ∧ r1 = -1) ∨ ((∃ v, ks_lit N x0 v) ∧ ∃ r0, ks_L N (ks_Y N AS ac (-1) 0 P M g) r0 ∧ ((r0 = -1 ∧ r1 = -1) ∨ (¬ r0 = -1 ∧ ∃ r3, ks_L N (ks_Y N AS ac (-1) (-x0) P M g) r3 ∧ ((r3 = -1 ∧ r1 = 1) ∨ (¬ r3 = -1 ∧ r1 = 0))))))
    (h2 : (¬ (∃ v, ks_lit N x0 v) ∧ r2 = -1) ∨ ((∃ v, ks_lit N x0 v) ∧ (((∀ v, v < 2 ^ N → ¬ ks_Z N AS ac (-1) 0 (ks_M P M g) v.testBit) ∧ r2 = -1) ∨ ((¬ ∀ v, v < 2 ^ N → ¬ ks_Z N AS ac (-1) 0 (ks_M P M g) v.testBit) ∧ ((r2 = 1 ∧ ∀ v, v < 2 ^ N → ks_Z N AS ac (-1) 0 (ks_M P M g) v.testBit → ks_lt N x0 v.testBit) ∨ (r2 = 0 ∧ ¬ ∀ v, v < 2 ^ N → ks_Z N AS ac (-1) 0 (ks_M P M g) v.testBit → ks_lt N x0 v.testBit)))))) : r1 = r2 := by
  rcases h1 with ⟨n1, e1⟩ | ⟨⟨v0, hv0⟩, r0, hL, h1⟩
  · rcases h2 with ⟨_, e2⟩ | ⟨l2, _⟩
    · rw [e1, e2]
    · exact absurd l2 n1
  · rcases h2 with ⟨n2, _⟩ | ⟨_, h2⟩
    · exact absurd ⟨v0, hv0⟩ n2
    · rcases h1 with ⟨q1, e1⟩ | ⟨q1, r3, hL3, h3⟩
      · rcases h2 with ⟨_, e2⟩ | ⟨w2, _⟩
        · rw [e1, e2]
        · exact absurd (hL.no hN q1) w2
      · rcases h2 with ⟨w2, _⟩ | ⟨_, h2⟩
        · exact absurd w2 (hL.yes q1)
        · -- the two ways of saying 'true in all models'
          have key : (∀ v, v < 2 ^ N → ¬ ks_Y N AS ac (-1) (-x0) P M g v.testBit) ↔ ∀ v, v < 2 ^ N → ks_Z N AS ac (-1) 0 (ks_M P M g) v.testBit → ks_lt N x0 v.testBit := by
            constructor
            · intro q v hv hZ
              apply Classical.byContradiction
              intro hn
              exact q v hv ⟨⟨Or.inr ((ks_lt_not hN hv0).mpr hn), hZ.1.2⟩, hZ.2⟩
            · intro q v hv hY
              have h5 := q v hv ⟨⟨Or.inl rfl, hY.1.2⟩, hY.2⟩
              rcases hY.1.1 with z | z
              · exact (ks_lit_neg hv0).ne0 hN z
              · exact (ks_lt_not hN hv0).mp z h5
          rcases h3 with ⟨q3, e1⟩ | ⟨q3, e1⟩ <;> rcases h2 with ⟨e2, w2⟩ | ⟨e2, w2⟩
          · rw [e1, e2]
          · exact absurd (key.mp (hL3.no hN q3)) w2
          · exact absurd (key.mpr w2) (hL3.yes q3)
          · rw [e1, e2]
theorem kl_core {N : Nat} (hN : N ≤ 16) {AS : Nat → Int32} {ac : Nat} {P M : Nat → Int32} {g : Nat} {r1 r2 : Int64}
    (h1 : ∃ r0, ks_L N (ks_Y N AS ac (-1) 0 P M g) r0 ∧ ((¬ r0 = -1 ∧ r1 = 0) ∨ (r0 = -1 ∧ ks_kp (ks_nm N AS ac P M g) (ks_K0 ac) ac r1)))
    (h2 : ((¬ ∀ v, v < 2 ^ N → ¬ ks_Z N AS ac (-1) 0 (ks_M P M g) v.testBit) ∧ r2 = 0) ∨ ((∀ v, v < 2 ^ N → ¬ ks_Z N AS ac (-1) 0 (ks_M P M g) v.testBit) ∧ ks_kp (fun ch => ∀ v, v < 2 ^ N → ¬ ks_Z N AS ac ch 0 (ks_M P M g) v.testBit) (ks_K0 ac) ac r2)) : r1 = r2 := by
  obtain ⟨r0, hL, h⟩ := h1
  rcases h with ⟨e, q⟩ | ⟨e, q⟩ <;> rcases h2 with ⟨w, p⟩ | ⟨w, p⟩
  · rw [q, p]
  · exact absurd w (hL.yes e)
  · exact absurd (hL.no hN e) w
  · exact ks_kp.uniq (fun K => Iff.rfl) ac r1 r2 q p
