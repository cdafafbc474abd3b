/-! bits of an Int32 (the rows bt .. nf_sh: pasted family) -/
def bt (x : Int32) (i : Nat) : Bool := x.toBitVec.getLsbD i
theorem b_ext {x y : Int32} (h : ∀ i, i < 32 → bt x i = bt y i) : x = y := Int32.toBitVec_inj.mp (BitVec.eq_of_getLsbD_eq (fun i hi => h i hi))
theorem b_or (x y : Int32) (i : Nat) : bt (x ||| y) i = (bt x i || bt y i) := by unfold bt; rw [Int32.toBitVec_or, BitVec.getLsbD_or]
theorem b_and (x y : Int32) (i : Nat) : bt (x &&& y) i = (bt x i && bt y i) := by unfold bt; rw [Int32.toBitVec_and, BitVec.getLsbD_and]
theorem b_xor (x y : Int32) (i : Nat) : bt (x ^^^ y) i = (bt x i ^^ bt y i) := by unfold bt; rw [Int32.toBitVec_xor, BitVec.getLsbD_xor]
theorem b_big {x : Int32} {i : Nat} (h : 32 ≤ i) : bt x i = false := BitVec.getLsbD_of_ge _ _ h
theorem b_m1 : ∀ i, i < 32 → bt (-1) i = true := by decide +kernel
theorem b_0 (i : Nat) : bt 0 i = false := BitVec.getLsbD_zero
theorem nf_sh : ∀ l, l < 32 → ((1 : Int32) <<< (nI l &&& 31)).toBitVec = BitVec.twoPow 32 l := by decide +kernel
theorem ks_not (x : Int32) {i : Nat} (hi : i < 32) : bt (x ^^^ (-1)) i = !bt x i := by
  rw [b_xor, b_m1 i hi, Bool.xor_true]
theorem ks_andn (x y : Int32) (i : Nat) : bt (x &&& (y ^^^ (-1))) i = (bt x i && !bt y i) := by
  rcases Nat.lt_or_ge i 32 with h | h
  · rw [b_and, ks_not y h]
  · rw [b_and, b_big (x := x) h, Bool.false_and, Bool.false_and]
/-- the set of the one place p -/
def ks_on (p : Nat) : Int32 := (1 : Int32) <<< (nI p &&& 31)
theorem ks_bon {p : Nat} (hp : p < 32) (i : Nat) : bt (ks_on p) i = decide (p = i) := by
  unfold bt ks_on
  rw [nf_sh p hp, BitVec.getLsbD_twoPow, decide_eq_true hp, Bool.true_and]
theorem ks_bon_self {p : Nat} (hp : p < 32) : bt (ks_on p) p = true := by rw [ks_bon hp]; exact decide_eq_true rfl
theorem ks_bon_ne {p i : Nat} (hp : p < 32) (h : p ≠ i) : bt (ks_on p) i = false := by rw [ks_bon hp]; exact decide_eq_false h
theorem ks_bon_iff {p i : Nat} (hp : p < 32) : bt (ks_on p) i = true ↔ p = i := by rw [ks_bon hp]; exact decide_eq_true_iff
theorem ks_z {x : Int32} : x = 0 ↔ ∀ i, bt x i = false :=
  ⟨fun h i => by rw [h]; exact b_0 i, fun h => b_ext (fun i _ => by rw [h i, b_0])⟩
theorem ks_nz {x : Int32} : ¬ x = 0 ↔ ∃ i, bt x i = true := by
  constructor
  · intro h
    apply Classical.byContradiction
    intro h2
    exact h (ks_z.mpr (fun i => by
      cases hb : bt x i
      · rfl
      · exact absurd ⟨i, hb⟩ h2))
  · intro ⟨i, h⟩ e
    rw [e, b_0] at h
    cases h
theorem ks_lt32 {x : Int32} {i : Nat} (h : bt x i = true) : i < 32 := by
  rcases Nat.lt_or_ge i 32 with q | q
  · exact q
  · rw [b_big q] at h; cases h
theorem ks_on_ne0 {p : Nat} (hp : p < 32) : ¬ ks_on p = 0 := ks_nz.mpr ⟨p, ks_bon_self hp⟩
theorem ks_on_inj {p q : Nat} (hp : p < 32) (hq : q < 32) (h : ks_on p = ks_on q) : p = q := by
  have a := ks_bon_self hp
  rw [h, ks_bon hq] at a
  exact (of_decide_eq_true a).symm
theorem ks_onand : ∀ p, p < 32 → ks_on p &&& (ks_on p - 1) = 0 := by decide +kernel
theorem ks_single {x : Int32} (h0 : ¬ x = 0) (h1 : x &&& (x - 1) = 0) : ∃ p, p < 32 ∧ x = ks_on p := by
  have hn : x.toBitVec.toNat ≠ 0 := by
    intro e
    apply h0
    apply Int32.toBitVec_inj.mp
    apply BitVec.eq_of_toNat_eq
    rw [e]; rfl
  have hlt := x.toBitVec.isLt
  have hs : (x - 1).toBitVec.toNat = x.toBitVec.toNat - 1 := by
    show (x.toBitVec - 1#32).toNat = _
    rw [BitVec.toNat_sub]
    show (2 ^ 32 - 1 + x.toBitVec.toNat) % 2 ^ 32 = _
    omega
  have ha : x.toBitVec.toNat &&& (x.toBitVec.toNat - 1) = 0 := by
    rw [← hs, ← BitVec.toNat_and, ← Int32.toBitVec_and, h1]; rfl
  obtain ⟨p, hp⟩ := (Nat.and_sub_one_eq_zero_iff_isPowerOfTwo hn).mp ha
  have hp32 : p < 32 := by
    apply Classical.byContradiction
    intro q
    have h2 : 2 ^ 32 ≤ 2 ^ p := Nat.pow_le_pow_right (by decide) (by omega)
    omega
  refine ⟨p, hp32, Int32.toBitVec_inj.mp (BitVec.eq_of_toNat_eq ?_)⟩
  unfold ks_on
  rw [nf_sh p hp32, hp, BitVec.toNat_twoPow, Nat.mod_eq_of_lt (Nat.pow_lt_pow_right (by decide) hp32)]
/-- two places are set, if the set isn't empty and isn't one place -/
theorem ks_two {x : Int32} (h0 : ¬ x = 0) (h1 : ¬ x &&& (x - 1) = 0) : ∃ i j, i ≠ j ∧ bt x i = true ∧ bt x j = true := by
  obtain ⟨i, hi⟩ := ks_nz.mp h0
  apply Classical.byContradiction
  intro h2
  apply h1
  have hx : x = ks_on i := b_ext (fun j _ => by
    rw [ks_bon (ks_lt32 hi)]
    by_cases e : i = j
    · subst e; rw [hi]; exact (decide_eq_true rfl).symm
    · rw [decide_eq_false e]
      cases hb : bt x j
      · rfl
      · exact absurd ⟨i, j, e, hi, hb⟩ h2)
  rw [hx]
  exact ks_onand i (ks_lt32 hi)
theorem ks_bnI {n i : Nat} (hi : i < 32) : bt (nI n) i = n.testBit i := by
  show (BitVec.ofNat 32 n).getLsbD i = _
  rw [BitVec.getLsbD_ofNat, decide_eq_true hi, Bool.true_and]
/-- a set under 16 places as a number -/
theorem ks_num {x : Int32} {N : Nat} (hN : N ≤ 16) (h : ∀ i, bt x i = true → i < N) : ∃ v, v < 2 ^ N ∧ x = nI v ∧ ∀ i, v.testBit i = bt x i := by
  refine ⟨x.toBitVec.toNat, ?_, ?_, ?_⟩
  · apply Nat.lt_pow_two_of_testBit
    intro i hi
    show bt x i = false
    cases hb : bt x i
    · rfl
    · exact absurd (h i hb) (by omega)
  · apply Int32.toBitVec_inj.mp
    show x.toBitVec = BitVec.ofNat 32 x.toBitVec.toNat
    simp
  · intro i; rfl
/-- the first place in which they differ decides -/
theorem ks_tlt {v w p : Nat} (h1 : v.testBit p = false) (h2 : w.testBit p = true) (h3 : ∀ q, p < q → v.testBit q = w.testBit q) : v < w := by
  have e : v / 2 ^ (p + 1) = w / 2 ^ (p + 1) := Nat.eq_of_testBit_eq (fun i => by
    rw [Nat.testBit_div_two_pow, Nat.testBit_div_two_pow]
    exact h3 _ (by omega))
  have a : v % 2 ^ (p + 1) < 2 ^ p := by
    apply Nat.lt_pow_two_of_testBit
    intro i hi
    rw [Nat.testBit_mod_two_pow]
    by_cases q : i = p
    · rw [q, h1, Bool.and_false]
    · rw [decide_eq_false (by omega), Bool.false_and]
  have b : 2 ^ p ≤ w % 2 ^ (p + 1) := by
    apply Nat.ge_two_pow_of_testBit
    rw [Nat.testBit_mod_two_pow, h2, decide_eq_true (by omega), Bool.true_and]
  have c := Nat.div_add_mod v (2 ^ (p + 1))
  have d := Nat.div_add_mod w (2 ^ (p + 1))
  rw [e] at c
  generalize 2 ^ (p + 1) * (w / 2 ^ (p + 1)) = Q at c d
  generalize v % 2 ^ (p + 1) = x at a c
  generalize w % 2 ^ (p + 1) = y at b d
  generalize 2 ^ p = z at a b
  omega
/-- places: no more than there are -/
theorem ks_php : ∀ (N k : Nat) (f : Nat → Nat), (∀ j, j < k → f j < N) → (∀ i j, i < j → j < k → f i ≠ f j) → k ≤ N := by
  intro N
  induction N with
  | zero =>
    intro k f h1 h2
    rcases Nat.eq_zero_or_pos k with h | h
    · omega
    · exact absurd (h1 0 h) (by omega)
  | succ N ih =>
    intro k f h1 h2
    rcases Nat.eq_zero_or_pos k with h | h
    · omega
    · have hne : ∀ j, j < k - 1 → f j ≠ f (k - 1) := fun j hj => h2 j (k - 1) hj (by omega)
      have hk := h1 (k - 1) (by omega)
      have := ih (k - 1) (fun j => if f j = N then f (k - 1) else f j) (fun j hj => by
        have a := h1 j (by omega)
        have b := hne j hj
        show (if f j = N then f (k - 1) else f j) < N
        by_cases c : f j = N
        · rw [if_pos c]; omega
        · rw [if_neg c]; omega) (fun i j hij hj => by
        have a := hne i (by omega)
        have b := hne j hj
        have d := h2 i j hij (by omega)
        show (if f i = N then f (k - 1) else f i) ≠ (if f j = N then f (k - 1) else f j)
        by_cases c : f i = N <;> by_cases c' : f j = N
        · omega
        · rw [if_pos c, if_neg c']; exact fun e => b e.symm
        · rw [if_neg c, if_pos c']; exact a
        · rw [if_neg c, if_neg c']; exact d)
      omega
