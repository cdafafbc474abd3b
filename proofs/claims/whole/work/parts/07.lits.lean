/-! literals -/
theorem ks_negT {w : Nat} (h : w < 2 ^ 31) : (-nI w).toInt = -(w : Int) := sb_negT h
/-- x is variable v, or its negation -/
def ks_lit (N : Nat) (x : Int32) (v : Nat) : Prop := 1 ≤ v ∧ v ≤ N ∧ (x = nI v ∨ x = -nI v)
/-- the literal x is true under a -/
def ks_lt (N : Nat) (x : Int32) (a : Nat → Bool) : Prop := ∃ v, 1 ≤ v ∧ v ≤ N ∧ ((x = nI v ∧ a (N - v) = true) ∨ (x = -nI v ∧ a (N - v) = false))
theorem ks_isLit {N : Nat} (hN : N ≤ 16) {x : Int32} (h0 : ¬ x = 0) (h1 : ¬ x < -nI N) (h2 : ¬ nI N < x) : ∃ v, ks_lit N x v := by
  rw [Int32.lt_iff_toInt_lt, ks_negT (by omega)] at h1
  rw [Int32.lt_iff_toInt_lt, nI_toInt (by omega)] at h2
  by_cases hx : x < 0
  · rw [Int32.lt_iff_toInt_lt, Int32.toInt_zero] at hx
    refine ⟨(-x.toInt).toNat, by omega, by omega, Or.inr ?_⟩
    apply Int32.toInt_inj.mp
    rw [ks_negT (by omega)]
    omega
  · obtain ⟨v, hv, e⟩ := nI_of hx
    subst e
    rw [nI_toInt hv] at h2
    refine ⟨v, ?_, by omega, Or.inl rfl⟩
    rcases Nat.eq_zero_or_pos v with q | q
    · subst q; exact absurd nI_0 h0
    · exact q
theorem ks_lit.pos {N : Nat} (hN : N ≤ 16) {x : Int32} {v : Nat} (h : ks_lit N x v) (hp : 0 < x) : x = nI v := by
  rcases h.2.2 with q | q
  · exact q
  · rw [q, Int32.lt_iff_toInt_lt, ks_negT (by have := h.2.1; omega), Int32.toInt_zero] at hp
    omega
theorem ks_lit.neg {N : Nat} (hN : N ≤ 16) {x : Int32} {v : Nat} (h : ks_lit N x v) (hp : ¬ 0 < x) : x = -nI v := by
  rcases h.2.2 with q | q
  · rw [q, Int32.lt_iff_toInt_lt, nI_toInt (by have := h.2.1; omega), Int32.toInt_zero] at hp
    have := h.1
    omega
  · exact q
theorem ks_lit.ne0 {N : Nat} (hN : N ≤ 16) {x : Int32} {v : Nat} (h : ks_lit N x v) : ¬ x = 0 := by
  intro e
  have a := h.1
  have b := h.2.1
  rcases h.2.2 with q | q
  · have := congrArg Int32.toInt (q.symm.trans e)
    rw [nI_toInt (by omega), Int32.toInt_zero] at this
    omega
  · have := congrArg Int32.toInt (q.symm.trans e)
    rw [ks_negT (by omega), Int32.toInt_zero] at this
    omega
theorem ks_lit.lo {N : Nat} (hN : N ≤ 16) {x : Int32} {v : Nat} (h : ks_lit N x v) : ¬ x < -nI N := by
  have a := h.1
  have b := h.2.1
  rw [Int32.lt_iff_toInt_lt, ks_negT (by omega)]
  rcases h.2.2 with q | q
  · rw [q, nI_toInt (by omega)]; omega
  · rw [q, ks_negT (by omega)]; omega
theorem ks_lit.hi {N : Nat} (hN : N ≤ 16) {x : Int32} {v : Nat} (h : ks_lit N x v) : ¬ nI N < x := by
  have a := h.1
  have b := h.2.1
  rw [Int32.lt_iff_toInt_lt, nI_toInt (by omega)]
  rcases h.2.2 with q | q
  · rw [q, nI_toInt (by omega)]; omega
  · rw [q, ks_negT (by omega)]; omega
theorem ks_lit.uniq {N : Nat} (hN : N ≤ 16) {x : Int32} {v w : Nat} (h : ks_lit N x v) (h' : ks_lit N x w) : v = w ∧ (x = nI v ↔ x = nI w) := by
  have a := h.1
  have b := h.2.1
  have a' := h'.1
  have b' := h'.2.1
  have e1 : x = nI v → x.toInt = v := fun q => by rw [q, nI_toInt (by omega)]
  have e2 : x = -nI v → x.toInt = -(v : Int) := fun q => by rw [q, ks_negT (by omega)]
  have e3 : x = nI w → x.toInt = w := fun q => by rw [q, nI_toInt (by omega)]
  have e4 : x = -nI w → x.toInt = -(w : Int) := fun q => by rw [q, ks_negT (by omega)]
  have e : v = w := by
    rcases h.2.2 with q | q <;> rcases h'.2.2 with q' | q'
    · have := e1 q; have := e3 q'; omega
    · have := e1 q; have := e4 q'; omega
    · have := e2 q; have := e3 q'; omega
    · have := e2 q; have := e4 q'; omega
  exact ⟨e, by rw [e]⟩
theorem ks_lt_pos {N : Nat} (hN : N ≤ 16) {x : Int32} {v : Nat} {a : Nat → Bool} (h : ks_lit N x v) (hp : 0 < x) : ks_lt N x a ↔ a (N - v) = true := by
  constructor
  · intro ⟨w, h1, h2, h3⟩
    rcases h3 with ⟨q, r⟩ | ⟨q, r⟩
    · have := (h.uniq hN ⟨h1, h2, Or.inl q⟩).1
      rw [this]; exact r
    · exfalso
      rw [q, Int32.lt_iff_toInt_lt, ks_negT (by omega), Int32.toInt_zero] at hp
      omega
  · intro r
    exact ⟨v, h.1, h.2.1, Or.inl ⟨h.pos hN hp, r⟩⟩
theorem ks_lt_neg {N : Nat} (hN : N ≤ 16) {x : Int32} {v : Nat} {a : Nat → Bool} (h : ks_lit N x v) (hp : ¬ 0 < x) : ks_lt N x a ↔ a (N - v) = false := by
  constructor
  · intro ⟨w, h1, h2, h3⟩
    rcases h3 with ⟨q, r⟩ | ⟨q, r⟩
    · exfalso
      apply hp
      rw [q, Int32.lt_iff_toInt_lt, nI_toInt (by omega), Int32.toInt_zero]
      omega
    · have := (h.uniq hN ⟨h1, h2, Or.inr q⟩).1
      rw [this]; exact r
  · intro r
    exact ⟨v, h.1, h.2.1, Or.inr ⟨h.neg hN hp, r⟩⟩
theorem ks_abs {N : Nat} (hN : N ≤ 16) {x : Int32} {v : Nat} (h : ks_lit N x v) : (if 0 ≤ x then x else 0 - x) = nI v := by
  have a := h.1
  have b := h.2.1
  rcases h.2.2 with q | q
  · rw [q, if_pos (nI_pos' (by omega))]
  · rw [q, if_neg]
    · apply Int32.toBitVec_inj.mp
      show 0#32 - -(nI v).toBitVec = (nI v).toBitVec
      simp
    · rw [Int32.le_iff_toInt_le, Int32.toInt_zero, ks_negT (by omega)]; omega
theorem ks_lit_neg {N : Nat} {x : Int32} {v : Nat} (h : ks_lit N x v) : ks_lit N (-x) v := by
  refine ⟨h.1, h.2.1, ?_⟩
  rcases h.2.2 with q | q
  · exact Or.inr (by rw [q])
  · refine Or.inl ?_
    rw [q]
    apply Int32.toBitVec_inj.mp
    show - -(nI v).toBitVec = (nI v).toBitVec
    simp
/-- the negation is true where the literal isn't -/
theorem ks_lt_not {N : Nat} (hN : N ≤ 16) {x : Int32} {v : Nat} {a : Nat → Bool} (h : ks_lit N x v) : ks_lt N (-x) a ↔ ¬ ks_lt N x a := by
  have hneg := ks_lit_neg h
  have a1 := h.1
  have b1 := h.2.1
  rcases h.2.2 with q | q
  · have hp : 0 < x := by rw [q, Int32.lt_iff_toInt_lt, nI_toInt (by omega), Int32.toInt_zero]; omega
    have hn : ¬ 0 < -x := by rw [q, Int32.lt_iff_toInt_lt, ks_negT (by omega), Int32.toInt_zero]; omega
    rw [ks_lt_pos hN h hp, ks_lt_neg hN hneg hn]
    cases a (N - v) <;> simp
  · have hp : ¬ 0 < x := by rw [q, Int32.lt_iff_toInt_lt, ks_negT (by omega), Int32.toInt_zero]; omega
    have e : -x = nI v := by
      rw [q]
      apply Int32.toBitVec_inj.mp
      show - -(nI v).toBitVec = (nI v).toBitVec
      simp
    have hn : 0 < -x := by rw [e, Int32.lt_iff_toInt_lt, nI_toInt (by omega), Int32.toInt_zero]; omega
    rw [ks_lt_neg hN h hp, ks_lt_pos hN hneg hn]
    cases a (N - v) <;> simp
/-- how many variables: 1 to 16 -/
def ks_N (x : Int32) : Nat := if x.toInt < 1 then 1 else if 16 < x.toInt then 16 else x.toInt.toNat
theorem ks_N_le (x : Int32) : ks_N x ≤ 16 := by
  unfold ks_N
  split
  · omega
  · split <;> omega
theorem ks_N_ge (x : Int32) : 1 ≤ ks_N x := by
  unfold ks_N
  split
  · omega
  · split <;> omega
theorem ks_N_toInt (x : Int32) : (nI (ks_N x)).toInt = if x.toInt < 1 then 1 else if 16 < x.toInt then 16 else x.toInt := by
  rw [nI_toInt (by have := ks_N_le x; omega)]
  unfold ks_N
  split
  · rfl
  · split
    · rfl
    · omega
theorem ks_Nv (x : Int32) : (if (1 : Int32) < (if x < nI 16 then x else nI 16) then (if x < nI 16 then x else nI 16) else 1) = nI (ks_N x) := by
  apply Int32.toInt_inj.mp
  rw [ks_N_toInt]
  have e16 : (nI 16).toInt = 16 := nI_toInt (by decide)
  have e1 : (1 : Int32).toInt = 1 := by decide
  by_cases h : x < nI 16
  · rw [if_pos h]
    rw [Int32.lt_iff_toInt_lt, e16] at h
    by_cases h2 : (1 : Int32) < x
    · rw [if_pos h2]
      rw [Int32.lt_iff_toInt_lt, e1] at h2
      rw [if_neg (by omega), if_neg (by omega)]
    · rw [if_neg h2, e1]
      rw [Int32.lt_iff_toInt_lt, e1] at h2
      by_cases h3 : x.toInt < 1
      · rw [if_pos h3]
      · rw [if_neg h3, if_neg (by omega)]; omega
  · rw [if_neg h, if_pos (by decide), e16]
    rw [Int32.lt_iff_toInt_lt, e16] at h
    rw [if_neg (by omega)]
    by_cases h3 : 16 < x.toInt
    · rw [if_pos h3]
    · rw [if_neg h3]; omega
