section
/-! bits of an Int32 (the rows bt .. nf_sh: pasted family) -/
def bt (x : Int32) (i : Nat) : Bool := x.toBitVec.getLsbD i
theorem b_ext {x y : Int32} (h : ∀ i, i < 32 → bt x i = bt y i) : x = y := Int32.toBitVec_inj.mp (BitVec.eq_of_getLsbD_eq (fun i hi => h i hi))
theorem b_or (x y : Int32) (i : Nat) : bt (x ||| y) i = (bt x i || bt y i) := by unfold bt; rw [Int32.toBitVec_or, BitVec.getLsbD_or]
theorem b_and (x y : Int32) (i : Nat) : bt (x &&& y) i = (bt x i && bt y i) := by unfold bt; rw [Int32.toBitVec_and, BitVec.getLsbD_and]
theorem b_xor (x y : Int32) (i : Nat) : bt (x ^^^ y) i = (bt x i ^^ bt y i) := by unfold bt; rw [Int32.toBitVec_xor, BitVec.getLsbD_xor]
theorem b_big {x : Int32} {i : Nat} (h : 32 ≤ i) : bt x i = false := BitVec.getLsbD_of_ge _ _ h
theorem b_m1 : ∀ i, i < 32 → bt (-1) i = true := by decide +kernel
theorem b_0 (i : Nat) : bt 0 i = false := BitVec.getLsbD_zero
theorem nf_sh : ∀ l, l < 32 → ((1 : Int32) <<< (nI l &&& 31)).toBitVec = BitVec.twoPow 32 l := by decide +kernel
theorem ks_not (x : Int32) {i : Nat} (hi : i < 32) : bt (x ^^^ (-1)) i = !bt x i := by
  rw [b_xor, b_m1 i hi, Bool.xor_true]
theorem ks_andn (x y : Int32) (i : Nat) : bt (x &&& (y ^^^ (-1))) i = (bt x i && !bt y i) := by
  rcases Nat.lt_or_ge i 32 with h | h
  · rw [b_and, ks_not y h]
  · rw [b_and, b_big (x := x) h, Bool.false_and, Bool.false_and]
/-- the set of the one place p -/
def ks_on (p : Nat) : Int32 := (1 : Int32) <<< (nI p &&& 31)
theorem ks_bon {p : Nat} (hp : p < 32) (i : Nat) : bt (ks_on p) i = decide (p = i) := by
  unfold bt ks_on
  rw [nf_sh p hp, BitVec.getLsbD_twoPow, decide_eq_true hp, Bool.true_and]
theorem ks_bon_self {p : Nat} (hp : p < 32) : bt (ks_on p) p = true := by rw [ks_bon hp]; exact decide_eq_true rfl
theorem ks_bon_ne {p i : Nat} (hp : p < 32) (h : p ≠ i) : bt (ks_on p) i = false := by rw [ks_bon hp]; exact decide_eq_false h
theorem ks_bon_iff {p i : Nat} (hp : p < 32) : bt (ks_on p) i = true ↔ p = i := by rw [ks_bon hp]; exact decide_eq_true_iff
theorem ks_z {x : Int32} : x = 0 ↔ ∀ i, bt x i = false :=
  ⟨fun h i => by rw [h]; exact b_0 i, fun h => b_ext (fun i _ => by rw [h i, b_0])⟩
theorem ks_nz {x : Int32} : ¬ x = 0 ↔ ∃ i, bt x i = true := by
  constructor
  · intro h
    apply Classical.byContradiction
    intro h2
    exact h (ks_z.mpr (fun i => by
      cases hb : bt x i
      · rfl
      · exact absurd ⟨i, hb⟩ h2))
  · intro ⟨i, h⟩ e
    rw [e, b_0] at h
    cases h
theorem ks_lt32 {x : Int32} {i : Nat} (h : bt x i = true) : i < 32 := by
  rcases Nat.lt_or_ge i 32 with q | q
  · exact q
  · rw [b_big q] at h; cases h
theorem ks_on_ne0 {p : Nat} (hp : p < 32) : ¬ ks_on p = 0 := ks_nz.mpr ⟨p, ks_bon_self hp⟩
theorem ks_on_inj {p q : Nat} (hp : p < 32) (hq : q < 32) (h : ks_on p = ks_on q) : p = q := by
  have a := ks_bon_self hp
  rw [h, ks_bon hq] at a
  exact (of_decide_eq_true a).symm
theorem ks_onand : ∀ p, p < 32 → ks_on p &&& (ks_on p - 1) = 0 := by decide +kernel
theorem ks_single {x : Int32} (h0 : ¬ x = 0) (h1 : x &&& (x - 1) = 0) : ∃ p, p < 32 ∧ x = ks_on p := by
  have hn : x.toBitVec.toNat ≠ 0 := by
    intro e
    apply h0
    apply Int32.toBitVec_inj.mp
    apply BitVec.eq_of_toNat_eq
    rw [e]; rfl
  have hlt := x.toBitVec.isLt
  have hs : (x - 1).toBitVec.toNat = x.toBitVec.toNat - 1 := by
    show (x.toBitVec - 1#32).toNat = _
    rw [BitVec.toNat_sub]
    show (2 ^ 32 - 1 + x.toBitVec.toNat) % 2 ^ 32 = _
    omega
  have ha : x.toBitVec.toNat &&& (x.toBitVec.toNat - 1) = 0 := by
    rw [← hs, ← BitVec.toNat_and, ← Int32.toBitVec_and, h1]; rfl
  obtain ⟨p, hp⟩ := (Nat.and_sub_one_eq_zero_iff_isPowerOfTwo hn).mp ha
  have hp32 : p < 32 := by
    apply Classical.byContradiction
    intro q
    have h2 : 2 ^ 32 ≤ 2 ^ p := Nat.pow_le_pow_right (by decide) (by omega)
    omega
  refine ⟨p, hp32, Int32.toBitVec_inj.mp (BitVec.eq_of_toNat_eq ?_)⟩
  unfold ks_on
  rw [nf_sh p hp32, hp, BitVec.toNat_twoPow, Nat.mod_eq_of_lt (Nat.pow_lt_pow_right (by decide) hp32)]
/-- two places are set, if the set isn't empty and isn't one place -/
theorem ks_two {x : Int32} (h0 : ¬ x = 0) (h1 : ¬ x &&& (x - 1) = 0) : ∃ i j, i ≠ j ∧ bt x i = true ∧ bt x j = true := by
  obtain ⟨i, hi⟩ := ks_nz.mp h0
  apply Classical.byContradiction
  intro h2
  apply h1
  have hx : x = ks_on i := b_ext (fun j _ => by
    rw [ks_bon (ks_lt32 hi)]
    by_cases e : i = j
    · subst e; rw [hi]; exact (decide_eq_true rfl).symm
    · rw [decide_eq_false e]
      cases hb : bt x j
      · rfl
      · exact absurd ⟨i, j, e, hi, hb⟩ h2)
  rw [hx]
  exact ks_onand i (ks_lt32 hi)
theorem ks_bnI {n i : Nat} (hi : i < 32) : bt (nI n) i = n.testBit i := by
  show (BitVec.ofNat 32 n).getLsbD i = _
  rw [BitVec.getLsbD_ofNat, decide_eq_true hi, Bool.true_and]
/-- a set under 16 places as a number -/
theorem ks_num {x : Int32} {N : Nat} (hN : N ≤ 16) (h : ∀ i, bt x i = true → i < N) : ∃ v, v < 2 ^ N ∧ x = nI v ∧ ∀ i, v.testBit i = bt x i := by
  refine ⟨x.toBitVec.toNat, ?_, ?_, ?_⟩
  · apply Nat.lt_pow_two_of_testBit
    intro i hi
    show bt x i = false
    cases hb : bt x i
    · rfl
    · exact absurd (h i hb) (by omega)
  · apply Int32.toBitVec_inj.mp
    show x.toBitVec = BitVec.ofNat 32 x.toBitVec.toNat
    simp
  · intro i; rfl
/-- the first place in which they differ decides -/
theorem ks_tlt {v w p : Nat} (h1 : v.testBit p = false) (h2 : w.testBit p = true) (h3 : ∀ q, p < q → v.testBit q = w.testBit q) : v < w := by
  have e : v / 2 ^ (p + 1) = w / 2 ^ (p + 1) := Nat.eq_of_testBit_eq (fun i => by
    rw [Nat.testBit_div_two_pow, Nat.testBit_div_two_pow]
    exact h3 _ (by omega))
  have a : v % 2 ^ (p + 1) < 2 ^ p := by
    apply Nat.lt_pow_two_of_testBit
    intro i hi
    rw [Nat.testBit_mod_two_pow]
    by_cases q : i = p
    · rw [q, h1, Bool.and_false]
    · rw [decide_eq_false (by omega), Bool.false_and]
  have b : 2 ^ p ≤ w % 2 ^ (p + 1) := by
    apply Nat.ge_two_pow_of_testBit
    rw [Nat.testBit_mod_two_pow, h2, decide_eq_true (by omega), Bool.true_and]
  have c := Nat.div_add_mod v (2 ^ (p + 1))
  have d := Nat.div_add_mod w (2 ^ (p + 1))
  rw [e] at c
  generalize 2 ^ (p + 1) * (w / 2 ^ (p + 1)) = Q at c d
  generalize v % 2 ^ (p + 1) = x at a c
  generalize w % 2 ^ (p + 1) = y at b d
  generalize 2 ^ p = z at a b
  omega
/-- places: no more than there are -/
theorem ks_php : ∀ (N k : Nat) (f : Nat → Nat), (∀ j, j < k → f j < N) → (∀ i j, i < j → j < k → f i ≠ f j) → k ≤ N := by
  intro N
  induction N with
  | zero =>
    intro k f h1 h2
    rcases Nat.eq_zero_or_pos k with h | h
    · omega
    · exact absurd (h1 0 h) (by omega)
  | succ N ih =>
    intro k f h1 h2
    rcases Nat.eq_zero_or_pos k with h | h
    · omega
    · have hne : ∀ j, j < k - 1 → f j ≠ f (k - 1) := fun j hj => h2 j (k - 1) hj (by omega)
      have hk := h1 (k - 1) (by omega)
      have := ih (k - 1) (fun j => if f j = N then f (k - 1) else f j) (fun j hj => by
        have a := h1 j (by omega)
        have b := hne j hj
        show (if f j = N then f (k - 1) else f j) < N
        by_cases c : f j = N
        · rw [if_pos c]; omega
        · rw [if_neg c]; omega) (fun i j hij hj => by
        have a := hne i (by omega)
        have b := hne j hj
        have d := h2 i j hij (by omega)
        show (if f i = N then f (k - 1) else f i) ≠ (if f j = N then f (k - 1) else f j)
        by_cases c : f i = N <;> by_cases c' : f j = N
        · omega
        · rw [if_pos c, if_neg c']; exact fun e => b e.symm
        · rw [if_neg c, if_pos c']; exact a
        · rw [if_neg c, if_neg c']; exact d)
      omega
end
section
/-! clauses (two sets of places), assignments, the trail -/
/-- a clause is true under a total assignment -/
def ks_T (P M : Int32) (a : Nat → Bool) : Prop := ∃ i, (bt P i = true ∧ a i = true) ∨ (bt M i = true ∧ a i = false)
/-- a total assignment has the values of a partial one -/
def ks_E (o z : Int32) (a : Nat → Bool) : Prop := ∀ i, (bt o i = true → a i = true) ∧ (bt z i = true → a i = false)
/-- the first n clauses are true -/
def ks_M (P M : Nat → Int32) (n : Nat) (a : Nat → Bool) : Prop := ∀ c, c < n → ks_T (P c) (M c) a
/-- a clause is true, false, under a partial assignment -/
def ks_S (P M o z : Int32) : Prop := ∃ i, (bt P i = true ∧ bt o i = true) ∨ (bt M i = true ∧ bt z i = true)
def ks_F (P M o z : Int32) : Prop := ∀ i, (bt P i = true → bt z i = true) ∧ (bt M i = true → bt o i = true)
def ks_mem (P M : Int32) (i : Nat) : Prop := bt P i = true ∨ bt M i = true
def ks_fr (o z : Int32) (i : Nat) : Prop := bt o i = false ∧ bt z i = false
/-- neither false nor a unit -/
def ks_U (P M o z : Int32) : Prop := ks_S P M o z ∨ ∃ i j, i ≠ j ∧ ks_mem P M i ∧ ks_mem P M j ∧ ks_fr o z i ∧ ks_fr o z j
theorem ks_S_z {P M o z : Int32} : (P &&& o) ||| (M &&& z) = 0 ↔ ¬ ks_S P M o z := by
  rw [ks_z]
  constructor
  · intro h ⟨i, hi⟩
    have a := h i
    rcases hi with ⟨x, y⟩ | ⟨x, y⟩
    · simp [b_or, b_and, x, y] at a
    · simp [b_or, b_and, x, y] at a
  · intro h i
    rw [b_or, b_and, b_and]
    cases hb : (bt P i && bt o i || bt M i && bt z i)
    · rfl
    · rw [Bool.or_eq_true, Bool.and_eq_true, Bool.and_eq_true] at hb
      exact absurd ⟨i, hb⟩ h
theorem ks_memb (P M : Int32) (i : Nat) : bt (P ||| M) i = true ↔ ks_mem P M i := by
  rw [b_or, Bool.or_eq_true]; exact Iff.rfl
theorem ks_frb (P M o z : Int32) (i : Nat) : bt ((P ||| M) &&& ((o ||| z) ^^^ (-1))) i = true ↔ ks_mem P M i ∧ ks_fr o z i := by
  rw [ks_andn, Bool.and_eq_true, ks_memb, b_or]
  unfold ks_fr
  cases bt o i <;> cases bt z i <;> simp
/-- no free place, and not true: false -/
theorem ks_false {P M o z : Int32} (h : ¬ ks_S P M o z) (hf : (P ||| M) &&& ((o ||| z) ^^^ (-1)) = 0) : ks_F P M o z := by
  intro i
  have a := fun q => ks_frb P M o z i |>.mpr q
  rw [ks_z.mp hf i] at a
  refine ⟨fun hp => ?_, fun hm => ?_⟩
  · cases hz : bt z i
    · cases ho : bt o i
      · exact absurd (a ⟨Or.inl hp, ho, hz⟩) (by decide)
      · exact absurd ⟨i, Or.inl ⟨hp, ho⟩⟩ h
    · rfl
  · cases ho : bt o i
    · cases hz : bt z i
      · exact absurd (a ⟨Or.inr hm, ho, hz⟩) (by decide)
      · exact absurd ⟨i, Or.inr ⟨hm, hz⟩⟩ h
    · rfl
theorem ks_fine {P M o z : Int32} (h0 : ¬ (P ||| M) &&& ((o ||| z) ^^^ (-1)) = 0) (h1 : ¬ ((P ||| M) &&& ((o ||| z) ^^^ (-1))) &&& (((P ||| M) &&& ((o ||| z) ^^^ (-1))) - 1) = 0) : ks_U P M o z := by
  obtain ⟨i, j, hij, hi, hj⟩ := ks_two h0 h1
  have a := (ks_frb P M o z i).mp hi
  have b := (ks_frb P M o z j).mp hj
  exact Or.inr ⟨i, j, hij, a.1, b.1, a.2, b.2⟩
theorem ks_F_no {P M o z : Int32} {a : Nat → Bool} (hF : ks_F P M o z) (hE : ks_E o z a) : ¬ ks_T P M a := by
  intro ⟨i, h⟩
  rcases h with ⟨hp, ha⟩ | ⟨hm, ha⟩
  · rw [(hE i).2 ((hF i).1 hp)] at ha; cases ha
  · rw [(hE i).1 ((hF i).2 hm)] at ha; cases ha
theorem ks_S_T {P M o z : Int32} {a : Nat → Bool} (hS : ks_S P M o z) (hE : ks_E o z a) : ks_T P M a := by
  obtain ⟨i, h⟩ := hS
  rcases h with ⟨hp, ho⟩ | ⟨hm, hz⟩
  · exact ⟨i, Or.inl ⟨hp, (hE i).1 ho⟩⟩
  · exact ⟨i, Or.inr ⟨hm, (hE i).2 hz⟩⟩
/-- why place pl j has its value -/
def ks_J (P M : Nat → Int32) (n : Nat) (pl : Nat → Nat) (r : Int32) (j : Nat) (o z : Int32) : Prop :=
  r = 0 ∨ ∃ c, c < n ∧ r = (P c ||| M c) ∧ ((bt (P c) (pl j) = true ∧ bt o (pl j) = true) ∨ (bt (M c) (pl j) = true ∧ bt z (pl j) = true)) ∧
    ∀ i, i ≠ pl j → (bt (P c) i = true → bt z i = true ∧ ∃ h, h < j ∧ pl h = i) ∧ (bt (M c) i = true → bt o i = true ∧ ∃ h, h < j ∧ pl h = i)
/-- the trail, by its places -/
def ks_Rp (N : Nat) (P M : Nat → Int32) (n : Nat) (B Rs : Nat → Int32) (k : Nat) (o z : Int32) (pl : Nat → Nat) : Prop :=
  (∀ j, j < k → pl j < N ∧ B j = ks_on (pl j)) ∧ (∀ i j, i < j → j < k → pl i ≠ pl j) ∧
  (∀ i, (bt o i = true ∨ bt z i = true) ↔ ∃ j, j < k ∧ pl j = i) ∧ (∀ i, bt o i = true → bt z i = false) ∧
  (∀ j, j < k → ks_J P M n pl (Rs j) j o z)
def ks_R (N : Nat) (P M : Nat → Int32) (n : Nat) (B Rs : Nat → Int32) (k : Nat) (o z : Int32) : Prop := ∃ pl : Nat → Nat, ks_Rp N P M n B Rs k o z pl
/-- a trail goes on from another -/
def ks_X (B Rs : Nat → Int32) (k : Nat) (o z : Int32) (B' Rs' : Nat → Int32) (k' : Nat) (o' z' : Int32) : Prop :=
  k ≤ k' ∧ (∀ j, j < k → B' j = B j ∧ Rs' j = Rs j) ∧ ∀ i, (bt o i = true → bt o' i = true) ∧ (bt z i = true → bt z' i = true)
theorem ks_X.rf {B Rs : Nat → Int32} {k : Nat} {o z : Int32} : ks_X B Rs k o z B Rs k o z := ⟨Nat.le_refl _, fun _ _ => ⟨rfl, rfl⟩, fun _ => ⟨id, id⟩⟩
theorem ks_X.tr {B Rs B1 Rs1 B2 Rs2 : Nat → Int32} {k k1 k2 : Nat} {o z o1 z1 o2 z2 : Int32} (h1 : ks_X B Rs k o z B1 Rs1 k1 o1 z1) (h2 : ks_X B1 Rs1 k1 o1 z1 B2 Rs2 k2 o2 z2) : ks_X B Rs k o z B2 Rs2 k2 o2 z2 :=
  ⟨Nat.le_trans h1.1 h2.1, fun j hj => ⟨((h2.2.1 j (Nat.lt_of_lt_of_le hj h1.1)).1).trans (h1.2.1 j hj).1, ((h2.2.1 j (Nat.lt_of_lt_of_le hj h1.1)).2).trans (h1.2.1 j hj).2⟩, fun i => ⟨fun h => (h2.2.2 i).1 ((h1.2.2 i).1 h), fun h => (h2.2.2 i).2 ((h1.2.2 i).2 h)⟩⟩
theorem ks_X.E {B Rs B1 Rs1 : Nat → Int32} {k k1 : Nat} {o z o1 z1 : Int32} (h : ks_X B Rs k o z B1 Rs1 k1 o1 z1) {a : Nat → Bool} (hE : ks_E o1 z1 a) : ks_E o z a :=
  fun i => ⟨fun q => (hE i).1 ((h.2.2 i).1 q), fun q => (hE i).2 ((h.2.2 i).2 q)⟩
theorem ks_R.le {N : Nat} {P M : Nat → Int32} {n : Nat} {B Rs : Nat → Int32} {k : Nat} {o z : Int32} (h : ks_R N P M n B Rs k o z) : k ≤ N := by
  obtain ⟨pl, h1, h2, -⟩ := h
  exact ks_php N k pl (fun j hj => (h1 j hj).1) h2
theorem ks_R.free {N : Nat} {P M : Nat → Int32} {n : Nat} {B Rs : Nat → Int32} {k : Nat} {o z : Int32} (h : ks_R N P M n B Rs k o z) {p : Nat} (hp : p < N) (hf : ks_fr o z p) : k + 1 ≤ N := by
  obtain ⟨pl, h1, h2, h3, -⟩ := h
  have hnp : ∀ j, j < k → pl j ≠ p := fun j hj e => by
    rcases (h3 p).mpr ⟨j, hj, e⟩ with q | q
    · rw [hf.1] at q; cases q
    · rw [hf.2] at q; cases q
  refine ks_php N (k + 1) (fun j => if j = k then p else pl j) (fun j hj => ?_) (fun i j hij hj => ?_)
  · show (if j = k then p else pl j) < N
    by_cases e : j = k
    · rw [if_pos e]; exact hp
    · rw [if_neg e]; exact (h1 j (by omega)).1
  · show (if i = k then p else pl i) ≠ (if j = k then p else pl j)
    rw [if_neg (show ¬ i = k by omega)]
    by_cases e : j = k
    · rw [if_pos e]; exact hnp i (by omega)
    · rw [if_neg e]; exact h2 i j hij (by omega)
theorem ks_R.mono {N : Nat} {P M P' M' : Nat → Int32} {n n' : Nat} {B Rs : Nat → Int32} {k : Nat} {o z : Int32} (h : ks_R N P M n B Rs k o z) (hn : n ≤ n') (hc : ∀ c, c < n → P' c = P c ∧ M' c = M c) : ks_R N P' M' n' B Rs k o z := by
  obtain ⟨pl, h1, h2, h3, h4, h5⟩ := h
  refine ⟨pl, h1, h2, h3, h4, fun j hj => ?_⟩
  rcases h5 j hj with q | ⟨c, q1, q2, q3, q4⟩
  · exact Or.inl q
  · refine Or.inr ⟨c, Nat.lt_of_lt_of_le q1 hn, ?_, ?_, ?_⟩
    · rw [(hc c q1).1, (hc c q1).2]; exact q2
    · rw [(hc c q1).1, (hc c q1).2]; exact q3
    · rw [(hc c q1).1, (hc c q1).2]; exact q4
theorem ks_R.dis {N : Nat} {P M : Nat → Int32} {n : Nat} {B Rs : Nat → Int32} {k : Nat} {o z : Int32} (h : ks_R N P M n B Rs k o z) : ∀ i, bt o i = true → bt z i = false := by
  obtain ⟨pl, h1, h2, h3, h4, h5⟩ := h; exact h4
theorem ks_R.lt {N : Nat} {P M : Nat → Int32} {n : Nat} {B Rs : Nat → Int32} {k : Nat} {o z : Int32} (h : ks_R N P M n B Rs k o z) : ∀ i, (bt o i = true ∨ bt z i = true) → i < N := by
  obtain ⟨pl, h1, h2, h3, h4, h5⟩ := h
  intro i hi
  obtain ⟨j, hj, e⟩ := (h3 i).mp hi
  rw [← e]; exact (h1 j hj).1
theorem ks_fr_of {o z : Int32} {p : Nat} (h : bt (o ||| z) p = false) : ks_fr o z p := by
  rw [b_or, Bool.or_eq_false_iff] at h; exact h
theorem ks_fr_ne {o z : Int32} {p i : Nat} (hf : ks_fr o z p) (h : bt o i = true ∨ bt z i = true) : p ≠ i := by
  intro e
  subst e
  rcases h with q | q
  · rw [hf.1] at q; cases q
  · rw [hf.2] at q; cases q
/-- a value more -/
theorem ks_R.assign {N : Nat} {P M : Nat → Int32} {n : Nat} {B Rs : Nat → Int32} {k : Nat} {o z : Int32} (h : ks_R N P M n B Rs k o z) (hN : N ≤ 16) {p : Nat} (hp : p < N) (hf : ks_fr o z p) (v : Bool) (r : Int32)
    (hr : r = 0 ∨ ∃ c, c < n ∧ r = (P c ||| M c) ∧ (if v = true then bt (P c) p = true else bt (M c) p = true) ∧ ∀ i, i ≠ p → (bt (P c) i = true → bt z i = true) ∧ (bt (M c) i = true → bt o i = true)) :
    ks_R N P M n (upd B k (ks_on p)) (upd Rs k r) (k + 1) (if v = true then o ||| ks_on p else o) (if v = true then z else z ||| ks_on p) := by
  obtain ⟨pl, h1, h2, h3, h4, h5⟩ := h
  have hp32 : p < 32 := by omega
  have hnp : ∀ j, j < k → pl j ≠ p := fun j hj e => by
    rcases (h3 p).mpr ⟨j, hj, e⟩ with q | q
    · rw [hf.1] at q; cases q
    · rw [hf.2] at q; cases q
  have ho : ∀ i, bt (if v = true then o ||| ks_on p else o) i = (bt o i || (v && decide (p = i))) := fun i => by
    cases v
    · simp
    · simp [b_or, ks_bon hp32]
  have hz : ∀ i, bt (if v = true then z else z ||| ks_on p) i = (bt z i || (!v && decide (p = i))) := fun i => by
    cases v
    · simp [b_or, ks_bon hp32]
    · simp
  refine ⟨fun j => if j = k then p else pl j, fun j hj => ?_, fun i j hij hj => ?_, fun i => ?_, fun i hi => ?_, fun j hj => ?_⟩
  · show (if j = k then p else pl j) < N ∧ (if j = k then ks_on p else B j) = ks_on (if j = k then p else pl j)
    by_cases e : j = k
    · rw [if_pos e, if_pos e]; exact ⟨hp, rfl⟩
    · rw [if_neg e, if_neg e]; exact h1 j (by omega)
  · show (if i = k then p else pl i) ≠ (if j = k then p else pl j)
    rw [if_neg (show ¬ i = k by omega)]
    by_cases e : j = k
    · rw [if_pos e]; exact hnp i (by omega)
    · rw [if_neg e]; exact h2 i j hij (by omega)
  · rw [ho, hz]
    constructor
    · intro q
      by_cases e : p = i
      · exact ⟨k, by omega, by show (if k = k then p else pl k) = i; rw [if_pos rfl]; exact e⟩
      · rw [decide_eq_false e, Bool.and_false, Bool.and_false, Bool.or_false, Bool.or_false] at q
        obtain ⟨j, hj, e2⟩ := (h3 i).mp q
        exact ⟨j, by omega, by show (if j = k then p else pl j) = i; rw [if_neg (by omega)]; exact e2⟩
    · intro ⟨j, hj, e⟩
      have e : (if j = k then p else pl j) = i := e
      by_cases e1 : j = k
      · rw [if_pos e1] at e
        rw [decide_eq_true e]
        cases v <;> simp
      · rw [if_neg e1] at e
        rcases (h3 i).mpr ⟨j, by omega, e⟩ with q | q
        · left; rw [q, Bool.true_or]
        · right; rw [q, Bool.true_or]
  · rw [ho] at hi
    rw [hz]
    by_cases e : p = i
    · subst e
      rw [hf.1, Bool.false_or, Bool.and_eq_true] at hi
      rw [hf.2, hi.1]; rfl
    · rw [decide_eq_false e, Bool.and_false, Bool.or_false] at hi
      rw [h4 i hi, decide_eq_false e, Bool.and_false]; rfl
  · show ks_J P M n (fun j => if j = k then p else pl j) (if j = k then r else Rs j) j _ _
    by_cases e : j = k
    · rw [if_pos e]
      rcases hr with q | ⟨c, q1, q2, q3, q4⟩
      · exact Or.inl q
      · refine Or.inr ⟨c, q1, q2, ?_, fun i hi => ?_⟩
        · show (bt (P c) (if j = k then p else pl j) = true ∧ bt _ (if j = k then p else pl j) = true) ∨ (bt (M c) (if j = k then p else pl j) = true ∧ bt _ (if j = k then p else pl j) = true)
          rw [if_pos e, ho, hz]
          cases v
          · right; exact ⟨by simpa using q3, by simp⟩
          · left; exact ⟨by simpa using q3, by simp⟩
        · have hi : i ≠ (if j = k then p else pl j) := hi
          rw [if_pos e] at hi
          have q5 := q4 i hi
          rw [ho, hz]
          refine ⟨fun a => ?_, fun a => ?_⟩
          · have b := q5.1 a
            obtain ⟨j2, hj2, e2⟩ := (h3 i).mp (Or.inr b)
            exact ⟨by rw [b, Bool.true_or], j2, by omega, by show (if j2 = k then p else pl j2) = i; rw [if_neg (by omega)]; exact e2⟩
          · have b := q5.2 a
            obtain ⟨j2, hj2, e2⟩ := (h3 i).mp (Or.inl b)
            exact ⟨by rw [b, Bool.true_or], j2, by omega, by show (if j2 = k then p else pl j2) = i; rw [if_neg (by omega)]; exact e2⟩
    · rw [if_neg e]
      rcases h5 j (by omega) with q | ⟨c, q1, q2, q3, q4⟩
      · exact Or.inl q
      · refine Or.inr ⟨c, q1, q2, ?_, fun i hi => ?_⟩
        · show (bt (P c) (if j = k then p else pl j) = true ∧ bt _ (if j = k then p else pl j) = true) ∨ (bt (M c) (if j = k then p else pl j) = true ∧ bt _ (if j = k then p else pl j) = true)
          rw [if_neg e, ho, hz]
          rcases q3 with ⟨a, b⟩ | ⟨a, b⟩
          · left; exact ⟨a, by rw [b, Bool.true_or]⟩
          · right; exact ⟨a, by rw [b, Bool.true_or]⟩
        · have hi : i ≠ (if j = k then p else pl j) := hi
          rw [if_neg e] at hi
          have q5 := q4 i hi
          rw [ho, hz]
          refine ⟨fun a => ?_, fun a => ?_⟩
          · obtain ⟨b, j2, hj2, e2⟩ := q5.1 a
            exact ⟨by rw [b, Bool.true_or], j2, hj2, by show (if j2 = k then p else pl j2) = i; rw [if_neg (by omega)]; exact e2⟩
          · obtain ⟨b, j2, hj2, e2⟩ := q5.2 a
            exact ⟨by rw [b, Bool.true_or], j2, hj2, by show (if j2 = k then p else pl j2) = i; rw [if_neg (by omega)]; exact e2⟩
theorem ks_X.assign {B Rs : Nat → Int32} {k : Nat} {o z : Int32} (f r : Int32) (v : Bool) : ks_X B Rs k o z (upd B k f) (upd Rs k r) (k + 1) (if v = true then o ||| f else o) (if v = true then z else z ||| f) := by
  refine ⟨by omega, fun j hj => ⟨if_neg (by omega), if_neg (by omega)⟩, fun i => ⟨fun h => ?_, fun h => ?_⟩⟩
  · cases v
    · exact h
    · show bt (o ||| f) i = true
      rw [b_or, h, Bool.true_or]
  · cases v
    · show bt (z ||| f) i = true
      rw [b_or, h, Bool.true_or]
    · exact h
/-- a unit: the trail goes on by its one free place; the value is forced -/
theorem ks_R.unit {N : Nat} {P M : Nat → Int32} {n : Nat} {B Rs : Nat → Int32} {k : Nat} {o z f : Int32} (h : ks_R N P M n B Rs k o z) (hN : N ≤ 16) {c : Nat} (hc : c < n) (hd : ∀ i, bt (P c) i = true → bt (M c) i = false) (hl : ∀ i, ks_mem (P c) (M c) i → i < N)
    (hs : ¬ ks_S (P c) (M c) o z) (hf : f = (P c ||| M c) &&& ((o ||| z) ^^^ (-1))) (h0 : ¬ f = 0) (h1 : f &&& (f - 1) = 0) (v : Bool) (hv : v = true ↔ ¬ P c &&& f = 0) :
    k + 1 ≤ N ∧ ks_R N P M n (upd B k f) (upd Rs k (P c ||| M c)) (k + 1) (if v = true then o ||| f else o) (if v = true then z else z ||| f) ∧
    ∀ a, ks_E o z a → ks_T (P c) (M c) a → ks_E (if v = true then o ||| f else o) (if v = true then z else z ||| f) a := by
  obtain ⟨p, hp, ep⟩ := ks_single h0 h1
  have hb : ∀ i, bt f i = true ↔ ks_mem (P c) (M c) i ∧ ks_fr o z i := fun i => by rw [hf]; exact ks_frb _ _ _ _ _
  have hpf : bt f p = true := by rw [ep]; exact ks_bon_self hp
  obtain ⟨hm, hfr⟩ := (hb p).mp hpf
  have hother : ∀ i, i ≠ p → (bt (P c) i = true → bt z i = true) ∧ (bt (M c) i = true → bt o i = true) := by
    intro i hi
    have hnf : ¬ bt f i = true := by rw [ep, ks_bon_iff hp]; exact fun e => hi e.symm
    refine ⟨fun a => ?_, fun a => ?_⟩
    · cases hz : bt z i
      · cases ho : bt o i
        · exact absurd ((hb i).mpr ⟨Or.inl a, ho, hz⟩) hnf
        · exact absurd ⟨i, Or.inl ⟨a, ho⟩⟩ hs
      · rfl
    · cases ho : bt o i
      · cases hz : bt z i
        · exact absurd ((hb i).mpr ⟨Or.inr a, ho, hz⟩) hnf
        · exact absurd ⟨i, Or.inr ⟨a, hz⟩⟩ hs
      · rfl
  have hvp : v = true ↔ bt (P c) p = true := by
    rw [hv, ks_nz]
    constructor
    · intro ⟨i, hi⟩
      rw [b_and, Bool.and_eq_true, ep, ks_bon_iff hp] at hi
      rw [hi.2]; exact hi.1
    · intro q
      exact ⟨p, by rw [b_and, q, hpf]; rfl⟩
  refine ⟨h.free (hl p hm) hfr, ?_, fun a hE hT => ?_⟩
  · rw [ep]
    refine h.assign hN (hl p hm) hfr v _ (Or.inr ⟨c, hc, rfl, ?_, hother⟩)
    cases v
    · rcases hm with q | q
      · exact absurd (hvp.mpr q) (by decide)
      · simpa using q
    · simpa using hvp.mp rfl
  · have hap : a p = v := by
      obtain ⟨i, hi⟩ := hT
      by_cases e : i = p
      · subst e
        rcases hi with ⟨a1, a2⟩ | ⟨a1, a2⟩
        · rw [a2, hvp.mpr a1]
        · cases v
          · exact a2
          · rw [hd i (hvp.mp rfl)] at a1; cases a1
      · rcases hi with ⟨a1, a2⟩ | ⟨a1, a2⟩
        · rw [(hE i).2 ((hother i e).1 a1)] at a2; cases a2
        · rw [(hE i).1 ((hother i e).2 a1)] at a2; cases a2
    intro i
    cases v
    · refine ⟨(hE i).1, fun q => ?_⟩
      have q : bt (z ||| f) i = true := q
      rw [b_or, Bool.or_eq_true] at q
      rcases q with q | q
      · exact (hE i).2 q
      · rw [ep, ks_bon_iff hp] at q; rw [← q]; exact hap
    · refine ⟨fun q => ?_, (hE i).2⟩
      have q : bt (o ||| f) i = true := q
      rw [b_or, Bool.or_eq_true] at q
      rcases q with q | q
      · exact (hE i).1 q
      · rw [ep, ks_bon_iff hp] at q; rw [← q]; exact hap
/-- the trail cut back to where it was -/
theorem ks_R.back {N : Nat} {P M : Nat → Int32} {n : Nat} {B Rs B1 Rs1 : Nat → Int32} {k k1 : Nat} {o z o1 z1 o2 z2 : Int32} (h : ks_R N P M n B Rs k o z) (hN : N ≤ 16) {P1 M1 : Nat → Int32} {n1 : Nat} (h1 : ks_R N P1 M1 n1 B1 Rs1 k1 o1 z1) (hX : ks_X B Rs k o z B1 Rs1 k1 o1 z1)
    (ho : ∀ i, bt o2 i = true ↔ (bt o1 i = true ∧ ∀ j, k ≤ j → j < k1 → bt (B1 j) i = false)) (hz : ∀ i, bt z2 i = true ↔ (bt z1 i = true ∧ ∀ j, k ≤ j → j < k1 → bt (B1 j) i = false)) : o2 = o ∧ z2 = z ∧ ks_R N P M n B1 Rs1 k o z := by
  obtain ⟨pl, a1, a2, a3, a4, a5⟩ := h
  obtain ⟨pl1, b1, b2, b3, b4, b5⟩ := h1
  have hpl : ∀ j, j < k → pl1 j = pl j := fun j hj => by
    have e := (hX.2.1 j hj).1
    have h1 := (b1 j (Nat.lt_of_lt_of_le hj hX.1))
    have h2 := a1 j hj
    rw [h1.2, h2.2] at e
    exact ks_on_inj (by omega) (by omega) e
  -- a place is past the cut, or the old trail's
  have hcut : ∀ i, (bt o i = true ∨ bt z i = true) → ∀ j, k ≤ j → j < k1 → bt (B1 j) i = false := fun i hi j hj hj1 => by
    obtain ⟨j0, hj0, e0⟩ := (a3 i).mp hi
    rw [(b1 j hj1).2]
    refine ks_bon_ne (by have := (b1 j hj1).1; omega) ?_
    intro e
    exact b2 j0 j (by omega) hj1 (by rw [hpl j0 hj0, e0, e])
  have hold : ∀ i, (bt o1 i = true ∨ bt z1 i = true) → (∀ j, k ≤ j → j < k1 → bt (B1 j) i = false) → (bt o i = true ∨ bt z i = true) := fun i hi hc => by
    obtain ⟨j0, hj0, e0⟩ := (b3 i).mp hi
    rcases Nat.lt_or_ge j0 k with q | q
    · exact (a3 i).mpr ⟨j0, q, by rw [← hpl j0 q]; exact e0⟩
    · have := hc j0 q hj0
      rw [(b1 j0 hj0).2, e0, ks_bon_self (by have := (b1 j0 hj0).1; omega)] at this
      cases this
  have eo : o2 = o := b_ext (fun i _ => by
    cases hb : bt o i
    · cases hb2 : bt o2 i
      · rfl
      · obtain ⟨q1, q2⟩ := (ho i).mp hb2
        rcases hold i (Or.inl q1) q2 with q | q
        · rw [hb] at q; cases q
        · have := (hX.2.2 i).2 q
          rw [b4 i q1] at this; cases this
    · exact (ho i).mpr ⟨(hX.2.2 i).1 hb, hcut i (Or.inl hb)⟩)
  have ez : z2 = z := b_ext (fun i _ => by
    cases hb : bt z i
    · cases hb2 : bt z2 i
      · rfl
      · obtain ⟨q1, q2⟩ := (hz i).mp hb2
        rcases hold i (Or.inr q1) q2 with q | q
        · have := b4 i ((hX.2.2 i).1 q)
          rw [q1] at this; cases this
        · rw [hb] at q; cases q
    · exact (hz i).mpr ⟨(hX.2.2 i).2 hb, hcut i (Or.inr hb)⟩)
  refine ⟨eo, ez, pl, fun j hj => ?_, a2, a3, a4, fun j hj => ?_⟩
  · rw [(hX.2.1 j hj).1]; exact a1 j hj
  · rw [(hX.2.1 j hj).2]; exact a5 j hj
end
section
/-! what a lesson rests on; the row of clauses; the least model -/
/-- positions from lo on are done: what is involved (V) has its reasons in V, or is a root (r) -/
def ks_C (B Rs : Nat → Int32) (k lo : Nat) (cf V r : Int32) : Prop :=
  (∀ i, bt cf i = true → bt V i = true) ∧
  (∀ j, lo ≤ j → j < k → ¬ V &&& B j = 0 → (Rs j = 0 → ∀ i, bt (B j) i = true → bt r i = true) ∧ (¬ Rs j = 0 → ∀ i, bt (Rs j) i = true → bt V i = true)) ∧
  ∀ i, bt r i = true → ∃ j, j < k ∧ bt (B j) i = true
theorem ks_C.init (B Rs : Nat → Int32) (k : Nat) (cf : Int32) : ks_C B Rs k k cf cf 0 :=
  ⟨fun _ h => h, fun j h1 h2 => absurd h1 (by omega), fun i h => by rw [b_0] at h; cases h⟩
theorem ks_C.skip {B Rs : Nat → Int32} {k lo : Nat} {cf V r : Int32} (h : ks_C B Rs k (lo + 1) cf V r) (e : V &&& B lo = 0) : ks_C B Rs k lo cf V r := by
  refine ⟨h.1, fun j h1 h2 h3 => ?_, h.2.2⟩
  by_cases q : j = lo
  · subst q; exact absurd e h3
  · exact h.2.1 j (by omega) h2 h3
theorem ks_C.root {B Rs : Nat → Int32} {k lo : Nat} {cf V r : Int32} (h : ks_C B Rs k (lo + 1) cf V r) (hlo : lo < k) (e : Rs lo = 0) : ks_C B Rs k lo cf V (r ||| B lo) := by
  refine ⟨h.1, fun j h1 h2 h3 => ?_, fun i hi => ?_⟩
  · by_cases q : j = lo
    · subst q
      exact ⟨fun _ i hi => by rw [b_or, hi, Bool.or_true], fun q => absurd e q⟩
    · have a := h.2.1 j (by omega) h2 h3
      exact ⟨fun x i hi => by rw [b_or, a.1 x i hi, Bool.true_or], a.2⟩
  · rw [b_or, Bool.or_eq_true] at hi
    rcases hi with q | q
    · exact h.2.2 i q
    · exact ⟨lo, hlo, q⟩
theorem ks_C.more {N : Nat} {P M : Nat → Int32} {n : Nat} {B Rs : Nat → Int32} {k lo : Nat} {o z cf V r : Int32} (hR : ks_R N P M n B Rs k o z) (hN : N ≤ 16) (h : ks_C B Rs k (lo + 1) cf V r) (hlo : lo < k) (e : ¬ Rs lo = 0) : ks_C B Rs k lo cf (V ||| Rs lo) r := by
  obtain ⟨pl, h1, h2, h3, h4, h5⟩ := hR
  refine ⟨fun i hi => by rw [b_or, h.1 i hi, Bool.true_or], fun j q1 q2 q3 => ?_, h.2.2⟩
  by_cases q : j = lo
  · subst q
    exact ⟨fun x => absurd x e, fun _ i hi => by rw [b_or, hi, Bool.or_true]⟩
  · have hj : ¬ V &&& B j = 0 := by
      obtain ⟨i, hi⟩ := ks_nz.mp q3
      rw [b_and, b_or, Bool.and_eq_true, Bool.or_eq_true] at hi
      obtain ⟨hi1, hi2⟩ := hi
      have hp := h1 j q2
      have ei : pl j = i := by rw [hp.2, ks_bon_iff (by omega)] at hi2; exact hi2
      rcases hi1 with x | x
      · exact ks_nz.mpr ⟨i, by rw [b_and, x, hi2]; rfl⟩
      · exfalso
        rcases h5 lo hlo with y | ⟨c, c1, c2, c3, c4⟩
        · exact e y
        · rw [c2, ks_memb] at x
          by_cases y : i = pl lo
          · exact h2 lo j (by omega) q2 (by rw [ei, y])
          · have w : ∃ h, h < lo ∧ pl h = i := by
              rcases x with x | x
              · exact ((c4 i y).1 x).2
              · exact ((c4 i y).2 x).2
            obtain ⟨j2, w1, w2⟩ := w
            exact h2 j2 j (by omega) q2 (by rw [w2, ei])
    have a := h.2.1 j (by omega) q2 hj
    exact ⟨a.1, fun x i hi => by rw [b_or, a.2 x i hi, Bool.true_or]⟩
/-- from the roots alone the units lead to the conflict again -/
theorem ks_lesson {N : Nat} {P M : Nat → Int32} {n : Nat} {B Rs : Nat → Int32} {k : Nat} {o z V r : Int32} (hR : ks_R N P M n B Rs k o z) (hN : N ≤ 16) {c : Nat} (hc : c < n) (hdis : ∀ c, c < n → ∀ i, bt (P c) i = true → bt (M c) i = false) (hC : ks_C B Rs k 0 (P c ||| M c) V r) (hF : ks_F (P c) (M c) o z) {o2 z2 : Int32} (hd2 : ∀ i, bt o2 i = true → bt z2 i = false) (hfix : ∀ c, c < n → ks_U (P c) (M c) o2 z2)
    (ho : ∀ i, bt (r &&& o) i = true → bt o2 i = true) (hz : ∀ i, bt (r &&& z) i = true → bt z2 i = true) : False := by
  obtain ⟨pl, h1, h2, h3, h4, h5⟩ := hR
  have key : ∀ m j, j < m → j < k → bt V (pl j) = true → (bt o (pl j) = true → bt o2 (pl j) = true) ∧ (bt z (pl j) = true → bt z2 (pl j) = true) := by
    intro m
    induction m with
    | zero => intro j hj; exact absurd hj (by omega)
    | succ m ih =>
      intro j hj hjk hV
      have hp := h1 j hjk
      have hbj : bt (B j) (pl j) = true := by rw [hp.2]; exact ks_bon_self (by omega)
      have hcl := hC.2.1 j (by omega) hjk (ks_nz.mpr ⟨pl j, by rw [b_and, hV, hbj]; rfl⟩)
      rcases h5 j hjk with q | ⟨d, d1, d2, d3, d4⟩
      · have hr := hcl.1 q (pl j) hbj
        exact ⟨fun x => ho _ (by rw [b_and, hr, x]; rfl), fun x => hz _ (by rw [b_and, hr, x]; rfl)⟩
      · by_cases q : Rs j = 0
        · have hr := hcl.1 q (pl j) hbj
          exact ⟨fun x => ho _ (by rw [b_and, hr, x]; rfl), fun x => hz _ (by rw [b_and, hr, x]; rfl)⟩
        · have hsub := hcl.2 q
          rw [d2] at hsub
          have hoth : ∀ i, i ≠ pl j → (bt (P d) i = true → bt z2 i = true) ∧ (bt (M d) i = true → bt o2 i = true) := by
            intro i hi
            refine ⟨fun x => ?_, fun x => ?_⟩
            · obtain ⟨y, j2, y1, y2⟩ := (d4 i hi).1 x
              have := ih j2 (by omega) (by omega) (by rw [y2]; exact hsub i ((ks_memb _ _ _).mpr (Or.inl x)))
              rw [y2] at this
              exact this.2 y
            · obtain ⟨y, j2, y1, y2⟩ := (d4 i hi).2 x
              have := ih j2 (by omega) (by omega) (by rw [y2]; exact hsub i ((ks_memb _ _ _).mpr (Or.inr x)))
              rw [y2] at this
              exact this.1 y
          have hnf : ∀ i, i ≠ pl j → ks_mem (P d) (M d) i → ¬ ks_fr o2 z2 i := by
            intro i hi hm hf
            rcases hm with x | x
            · have := (hoth i hi).1 x; rw [hf.2] at this; cases this
            · have := (hoth i hi).2 x; rw [hf.1] at this; cases this
          rcases hfix d d1 with ⟨i, hi⟩ | ⟨i1, i2, w1, w2, w3, w4, w5⟩
          · by_cases ei : i = pl j
            · subst ei
              rcases d3 with ⟨u1, u2⟩ | ⟨u1, u2⟩
              · rcases hi with ⟨_, y⟩ | ⟨y, _⟩
                · exact ⟨fun _ => y, fun x => by rw [h4 _ u2] at x; cases x⟩
                · rw [hdis d d1 _ u1] at y; cases y
              · rcases hi with ⟨y, _⟩ | ⟨_, y⟩
                · rw [hdis d d1 _ y] at u1; cases u1
                · exact ⟨fun x => (by rw [h4 _ x] at u2; cases u2), fun _ => y⟩
            · exfalso
              rcases hi with ⟨x, y⟩ | ⟨x, y⟩
              · have := (hoth i ei).1 x; rw [hd2 i y] at this; cases this
              · have := (hoth i ei).2 x; rw [hd2 i this] at y; cases y
          · exfalso
            by_cases e1 : i1 = pl j
            · exact hnf i2 (fun e => w1 (by rw [e1, e])) w3 w5
            · exact hnf i1 e1 w2 w4
  have hoth : ∀ i, (bt (P c) i = true → bt z2 i = true) ∧ (bt (M c) i = true → bt o2 i = true) := by
    intro i
    refine ⟨fun x => ?_, fun x => ?_⟩
    · have y := (hF i).1 x
      obtain ⟨j, y1, y2⟩ := (h3 i).mp (Or.inr y)
      have := key (j + 1) j (by omega) y1 (by rw [y2]; exact hC.1 i ((ks_memb _ _ _).mpr (Or.inl x)))
      rw [y2] at this
      exact this.2 y
    · have y := (hF i).2 x
      obtain ⟨j, y1, y2⟩ := (h3 i).mp (Or.inl y)
      have := key (j + 1) j (by omega) y1 (by rw [y2]; exact hC.1 i ((ks_memb _ _ _).mpr (Or.inr x)))
      rw [y2] at this
      exact this.1 y
  rcases hfix c hc with ⟨i, hi⟩ | ⟨i1, i2, w1, w2, w3, w4, w5⟩
  · rcases hi with ⟨x, y⟩ | ⟨x, y⟩
    · have := (hoth i).1 x; rw [hd2 i y] at this; cases this
    · have := (hoth i).2 x; rw [hd2 i this] at y; cases y
  · rcases w2 with x | x
    · have := (hoth i1).1 x; rw [w4.2] at this; cases this
    · have := (hoth i1).2 x; rw [w4.1] at this; cases this
/-- a clause that no assignment with the roots' values can leave false -/
theorem ks_lesson_T {o z : Int32} {a : Nat → Bool} (h : ¬ ks_E o z a) : ks_T z o a := by
  apply Classical.byContradiction
  intro q
  apply h
  intro i
  refine ⟨fun x => ?_, fun x => ?_⟩
  · cases ha : a i
    · exact absurd ⟨i, Or.inr ⟨x, ha⟩⟩ q
    · rfl
  · cases ha : a i
    · rfl
    · exact absurd ⟨i, Or.inl ⟨x, ha⟩⟩ q
/-! the row of clauses: g given ones, lessons behind them -/
def ks_ok (N : Nat) (P M : Int32) : Prop := (∀ i, bt P i = true → bt M i = false) ∧ ∀ i, ks_mem P M i → i < N
def ks_W (N : Nat) (P M : Nat → Int32) (g n : Nat) : Prop := g ≤ n ∧ n ≤ g + 64 ∧ (∀ c, c < n → ks_ok N (P c) (M c)) ∧ ∀ c, c < n → ∀ a, ks_M P M g a → ks_T (P c) (M c) a
theorem ks_W.all {N : Nat} {P M : Nat → Int32} {g n : Nat} (h : ks_W N P M g n) {a : Nat → Bool} : ks_M P M g a ↔ ks_M P M n a :=
  ⟨fun q c hc => h.2.2.2 c hc a q, fun q c hc => q c (Nat.lt_of_lt_of_le hc h.1)⟩
theorem ks_Mupd {P M : Nat → Int32} {g n : Nat} (hg : g ≤ n) (p m : Int32) {a : Nat → Bool} : ks_M (upd P n p) (upd M n m) g a ↔ ks_M P M g a := by
  unfold ks_M
  constructor
  · intro q c hc
    have := q c hc
    rw [pk_un (by omega), pk_un (by omega)] at this
    exact this
  · intro q c hc
    rw [pk_un (by omega), pk_un (by omega)]
    exact q c hc
theorem ks_W.lesson {N : Nat} {P M : Nat → Int32} {g n : Nat} {p m : Int32} (h : ks_W N P M g n) (hn : n < g + 64) (hk : ks_ok N p m) (hT : ∀ a, ks_M P M g a → ks_T p m a) : ks_W N (upd P n p) (upd M n m) g (n + 1) := by
  refine ⟨by have := h.1; omega, by omega, fun c hc => ?_, fun c hc a ha => ?_⟩
  · by_cases e : c = n
    · subst e; rw [pk_us, pk_us]; exact hk
    · rw [pk_un e, pk_un e]; exact h.2.2.1 c (by omega)
  · have hb := (ks_Mupd h.1 p m).mp ha
    by_cases e : c = n
    · rw [e, pk_us, pk_us]; exact hT a hb
    · rw [pk_un e, pk_un e]; exact h.2.2.2 c (by omega) a hb
theorem ks_W.forget {N : Nat} {P M : Nat → Int32} {g n : Nat} (h : ks_W N P M g n) : ks_W N P M g g :=
  ⟨Nat.le_refl g, by omega, fun c hc => h.2.2.1 c (Nat.lt_of_lt_of_le hc h.1), fun c hc a ha => ha c hc⟩
theorem ks_W.clear (N : Nat) (P M : Nat → Int32) : ks_W N P M 0 0 :=
  ⟨Nat.le_refl 0, by omega, fun c hc => absurd hc (by omega), fun c hc => absurd hc (by omega)⟩
theorem ks_M.give {P M : Nat → Int32} {g n : Nat} (hg : g ≤ n) (p m x y : Int32) {a : Nat → Bool} : ks_M (upd (upd P n x) g p) (upd (upd M n y) g m) (g + 1) a ↔ ks_M P M g a ∧ ks_T p m a := by
  constructor
  · intro q
    refine ⟨fun c hc => ?_, ?_⟩
    · have := q c (by omega)
      rw [pk_un (by omega), pk_un (by omega), pk_un (by omega), pk_un (by omega)] at this
      exact this
    · have := q g (by omega)
      rw [pk_us, pk_us] at this
      exact this
  · intro ⟨q1, q2⟩ c hc
    by_cases e : c = g
    · subst e; rw [pk_us, pk_us]; exact q2
    · rw [pk_un e, pk_un e, pk_un (by omega), pk_un (by omega)]; exact q1 c (by omega)
theorem ks_W.give {N : Nat} {P M : Nat → Int32} {g n : Nat} {p m : Int32} (h : ks_W N P M g n) (hk : ks_ok N p m) : ks_W N (upd (upd P n (P g)) g p) (upd (upd M n (M g)) g m) (g + 1) (n + 1) := by
  refine ⟨by have := h.1; omega, by have := h.2.1; omega, fun c hc => ?_, fun c hc a ha => ?_⟩
  · by_cases e : c = g
    · subst e; rw [pk_us, pk_us]; exact hk
    · rw [pk_un e, pk_un e]
      by_cases e2 : c = n
      · subst e2; rw [pk_us, pk_us]; exact h.2.2.1 g (by have := h.1; omega)
      · rw [pk_un e2, pk_un e2]; exact h.2.2.1 c (by omega)
  · obtain ⟨h1, h2⟩ := (ks_M.give h.1 p m (P g) (M g)).mp ha
    by_cases e : c = g
    · subst e; rw [pk_us, pk_us]; exact h2
    · rw [pk_un e, pk_un e]
      by_cases e2 : c = n
      · subst e2; rw [pk_us, pk_us]; exact h.2.2.2 g (by have := h.1; omega) a h1
      · rw [pk_un e2, pk_un e2]; exact h.2.2.2 c (by omega) a h1
/-! the least one -/
def ks_L (N : Nat) (F : (Nat → Bool) → Prop) (r : Int32) : Prop := (r = -1 ∧ ∀ v, v < 2 ^ N → ¬ F v.testBit) ∨ ∃ v, v < 2 ^ N ∧ r = nI v ∧ F v.testBit ∧ ∀ w, w < v → ¬ F w.testBit
theorem ks_L.congr {N : Nat} {F G : (Nat → Bool) → Prop} {r : Int32} (h : ks_L N F r) (hc : ∀ v, v < 2 ^ N → (F v.testBit ↔ G v.testBit)) : ks_L N G r := by
  rcases h with ⟨e, q⟩ | ⟨v, h1, h2, h3, h4⟩
  · exact Or.inl ⟨e, fun v hv x => q v hv ((hc v hv).mpr x)⟩
  · exact Or.inr ⟨v, h1, h2, (hc v h1).mp h3, fun w hw x => h4 w hw ((hc w (by omega)).mpr x)⟩
theorem ks_pow {N v : Nat} (hN : N ≤ 16) (h : v < 2 ^ N) : v < 65536 := Nat.lt_of_lt_of_le h (Nat.pow_le_pow_right (by decide) hN)
theorem ks_nIm {v : Nat} (h : v < 65536) : ¬ nI v = -1 := by
  intro e
  have a := nI_pos' (n := v) (by omega)
  rw [e] at a
  exact absurd a (by decide)
theorem ks_L.uniq {N : Nat} {F : (Nat → Bool) → Prop} {r s : Int32} (h : ks_L N F r) (h' : ks_L N F s) : r = s := by
  rcases h with ⟨e, q⟩ | ⟨v, h1, h2, h3, h4⟩ <;> rcases h' with ⟨e', q'⟩ | ⟨v', h1', h2', h3', h4'⟩
  · rw [e, e']
  · exact absurd h3' (q v' h1')
  · exact absurd h3 (q' v h1)
  · rcases Nat.lt_trichotomy v v' with x | x | x
    · exact absurd h3 (h4' v x)
    · rw [h2, h2', x]
    · exact absurd h3' (h4 v' x)
/-- a model under the given clauses and the values o, z -/
def ks_Q (P M : Nat → Int32) (g : Nat) (o z : Int32) (a : Nat → Bool) : Prop := ks_E o z a ∧ ks_M P M g a
theorem ks_L.full {N : Nat} {P M : Nat → Int32} {g n : Nat} {B Rs : Nat → Int32} {k : Nat} {o z : Int32} (hN : N ≤ 16) (hR : ks_R N P M n B Rs k o z) (hW : ks_W N P M g n) (hall : ∀ p, p < N → ¬ ks_fr o z p) (hfix : ∀ c, c < n → ks_U (P c) (M c) o z) : ks_L N (ks_Q P M g o z) o := by
  obtain ⟨v, h1, h2, h3⟩ := ks_num hN (fun i hi => hR.lt i (Or.inl hi))
  have hE : ks_E o z v.testBit := fun i => ⟨fun q => by rw [h3]; exact q, fun q => by
    rw [h3]
    cases ho : bt o i
    · rfl
    · rw [hR.dis i ho] at q; cases q⟩
  refine Or.inr ⟨v, h1, h2, ⟨hE, hW.all.mpr (fun c hc => ?_)⟩, fun w hw hq => ?_⟩
  · rcases hfix c hc with q | ⟨i, j, w1, w2, w3, w4, w5⟩
    · exact ks_S_T q hE
    · exact absurd w4 (hall i ((hW.2.2.1 c hc).2 i w2))
  · have : w = v := Nat.eq_of_testBit_eq (fun i => by
      rcases Nat.lt_or_ge i N with x | x
      · cases ho : bt o i
        · cases hz : bt z i
          · exact absurd ⟨ho, hz⟩ (hall i x)
          · rw [(hq.1 i).2 hz, h3, ho]
        · rw [(hq.1 i).1 ho, h3, ho]
      · have a : v < 2 ^ i := Nat.lt_of_lt_of_le h1 (Nat.pow_le_pow_right (by decide) x)
        rw [Nat.testBit_lt_two_pow a, Nat.testBit_lt_two_pow (Nat.lt_trans hw a)])
    omega
theorem ks_E.low {o z : Int32} {p : Nat} (hp : p < 32) {a : Nat → Bool} : ks_E o (z ||| ks_on p) a ↔ ks_E o z a ∧ a p = false := by
  constructor
  · intro h
    exact ⟨fun i => ⟨(h i).1, fun q => (h i).2 (by rw [b_or, q, Bool.true_or])⟩, (h p).2 (by rw [b_or, ks_bon_self hp, Bool.or_true])⟩
  · intro ⟨h, e⟩ i
    refine ⟨(h i).1, fun q => ?_⟩
    rw [b_or, Bool.or_eq_true] at q
    rcases q with q | q
    · exact (h i).2 q
    · rw [ks_bon_iff hp] at q; rw [← q]; exact e
theorem ks_E.high {o z : Int32} {p : Nat} (hp : p < 32) {a : Nat → Bool} : ks_E (o ||| ks_on p) z a ↔ ks_E o z a ∧ a p = true := by
  constructor
  · intro h
    exact ⟨fun i => ⟨fun q => (h i).1 (by rw [b_or, q, Bool.true_or]), (h i).2⟩, (h p).1 (by rw [b_or, ks_bon_self hp, Bool.or_true])⟩
  · intro ⟨h, e⟩ i
    refine ⟨fun q => ?_, (h i).2⟩
    rw [b_or, Bool.or_eq_true] at q
    rcases q with q | q
    · exact (h i).1 q
    · rw [ks_bon_iff hp] at q; rw [← q]; exact e
/-- a model with the first free place 0 is before all with 1 -/
theorem ks_L.low {N : Nat} {P M : Nat → Int32} {g : Nat} {o z r : Int32} {p : Nat} (hN : N ≤ 16) (hp : p < N) (hup : ∀ q, p < q → q < N → ¬ ks_fr o z q) (hr : ¬ r = -1) (h : ks_L N (ks_Q P M g o (z ||| ks_on p)) r) : ks_L N (ks_Q P M g o z) r := by
  rcases h with ⟨e, q⟩ | ⟨v, h1, h2, ⟨h3, h3'⟩, h4⟩
  · exact absurd e hr
  · rw [ks_E.low (by omega)] at h3
    refine Or.inr ⟨v, h1, h2, ⟨h3.1, h3'⟩, fun w hw hq => ?_⟩
    cases hb : w.testBit p
    · exact h4 w hw ⟨(ks_E.low (by omega)).mpr ⟨hq.1, hb⟩, hq.2⟩
    · have := ks_tlt h3.2 hb (fun i hi => by
        rcases Nat.lt_or_ge i N with x | x
        · cases ho : bt o i
          · cases hz : bt z i
            · exact absurd ⟨ho, hz⟩ (hup i hi x)
            · rw [(hq.1 i).2 hz, (h3.1 i).2 hz]
          · rw [(hq.1 i).1 ho, (h3.1 i).1 ho]
        · have a : v < 2 ^ i := Nat.lt_of_lt_of_le h1 (Nat.pow_le_pow_right (by decide) x)
          rw [Nat.testBit_lt_two_pow a, Nat.testBit_lt_two_pow (Nat.lt_trans hw a)])
      omega
theorem ks_L.nolow {N : Nat} {P M : Nat → Int32} {g : Nat} {o z r : Int32} {p : Nat} (hN : N ≤ 16) (hp : p < N) (hr : r = -1) (h : ks_L N (ks_Q P M g o (z ||| ks_on p)) r) : ∀ v, v < 2 ^ N → ks_Q P M g o z v.testBit → v.testBit p = true := by
  intro v hv hq
  rcases h with ⟨e, q⟩ | ⟨w, h1, h2, h3, h4⟩
  · cases hb : v.testBit p
    · exact absurd ⟨(ks_E.low (by omega)).mpr ⟨hq.1, hb⟩, hq.2⟩ (q v hv)
    · rfl
  · exact absurd (h2.symm.trans hr) (ks_nIm (ks_pow hN h1))
theorem ks_L.high {N : Nat} {P M : Nat → Int32} {g : Nat} {o z r : Int32} {p : Nat} (hN : N ≤ 16) (hp : p < N) (hl : ∀ v, v < 2 ^ N → ks_Q P M g o z v.testBit → v.testBit p = true) (h : ks_L N (ks_Q P M g (o ||| ks_on p) z) r) : ks_L N (ks_Q P M g o z) r :=
  h.congr (fun v hv => ⟨fun q => ⟨((ks_E.high (by omega)).mp q.1).1, q.2⟩, fun q => ⟨(ks_E.high (by omega)).mpr ⟨q.1, hl v hv q⟩, q.2⟩⟩)
end
section
/-! what single methods need -/
theorem ks_tst {x : Int32} {i : Nat} (hi : i < 32) : x &&& ks_on i = 0 ↔ bt x i = false := by
  constructor
  · intro h
    have a := ks_z.mp h i
    rw [b_and, ks_bon_self hi, Bool.and_true] at a
    exact a
  · intro h
    refine ks_z.mpr (fun j => ?_)
    rw [b_and, ks_bon hi]
    by_cases e : i = j
    · subst e; rw [h, Bool.false_and]
    · rw [decide_eq_false e, Bool.and_false]
theorem ks_tst1 {x : Int32} {i : Nat} (hi : i < 32) : ¬ x &&& ks_on i = 0 ↔ bt x i = true := by
  rw [ks_tst hi]; cases bt x i <;> simp
/-- of the wanted ones those under i are there -/
def ks_I (w : Int32) (i : Nat) (o : Int32) : Prop := ∀ q, bt o q = (bt w q && decide (q < i))
theorem ks_I.zero (w : Int32) : ks_I w 0 0 := fun q => by rw [b_0, decide_eq_false (by omega), Bool.and_false]
theorem ks_I.skip {w : Int32} {i : Nat} {o : Int32} (h : ks_I w i o) (hw : bt w i = false) : ks_I w (i + 1) o := fun q => by
  rw [h q]
  by_cases e : q = i
  · subst e; rw [hw, Bool.false_and, Bool.false_and]
  · congr 1
    exact decide_eq_decide.mpr (by omega)
theorem ks_I.add {w : Int32} {i : Nat} {o : Int32} (h : ks_I w i o) (hi : i < 32) (hw : bt w i = true) : ks_I w (i + 1) (o ||| ks_on i) := fun q => by
  rw [b_or, h q, ks_bon hi]
  by_cases e : i = q
  · subst e; rw [hw, decide_eq_true rfl, Bool.or_true, decide_eq_true (by omega)]; rfl
  · rw [decide_eq_false e, Bool.or_false]
    congr 1
    exact decide_eq_decide.mpr (by omega)
theorem ks_I.fr {w w2 : Int32} {i : Nat} {o z : Int32} (h : ks_I w i o) (h2 : ks_I w2 i z) : ks_fr o z i := by
  refine ⟨?_, ?_⟩
  · rw [h i, decide_eq_false (by omega), Bool.and_false]
  · rw [h2 i, decide_eq_false (by omega), Bool.and_false]
theorem ks_I.done {w : Int32} {o : Int32} (h : ks_I w 16 o) (hw : ∀ q, bt w q = true → q < 16) : o = w := b_ext (fun q _ => by
  rw [h q]
  cases hb : bt w q
  · rfl
  · rw [decide_eq_true (hw q hb)]; rfl)
theorem ks_R.none (N : Nat) (P M : Nat → Int32) (n : Nat) (B Rs : Nat → Int32) : ks_R N P M n B Rs 0 0 0 := by
  refine ⟨fun _ => 0, fun j hj => absurd hj (by omega), fun i j _ hj => absurd hj (by omega), fun i => ⟨fun h => ?_, fun ⟨j, hj, _⟩ => absurd hj (by omega)⟩, fun i h => ?_, fun j hj => absurd hj (by omega)⟩
  · simp [b_0] at h
  · simp [b_0] at h
/-- the first free place -/
def ks_ff (N : Nat) (o z r : Int32) : Prop := (r = 0 ∧ ∀ p, p < N → ¬ ks_fr o z p) ∨ ∃ p, p < N ∧ r = ks_on p ∧ ks_fr o z p ∧ ∀ q, p < q → q < N → ¬ ks_fr o z q
theorem ks_max0 {k : Nat} (h : k < 2 ^ 31) : (if (0 : Int32) < nI k then nI k else 0) = nI k := by
  rcases Nat.eq_zero_or_pos k with e | e
  · subst e; rfl
  · rw [if_pos]
    rw [← nI_0]; exact nI_lt e h
theorem ks_min {a k : Nat} (h : a ≤ k) (hk : k < 2 ^ 31) : (if nI k < nI a then nI k else nI a) = nI a := if_neg (nI_nlt h hk)
/-- a boolean as the machine has it -/
def ks_b (v : Bool) : Int32 := if v = true then 1 else 0
/-- what goBackTo leaves of a set of values -/
def ks_cut (B : Nat → Int32) (lo hi : Nat) (o o2 : Int32) : Prop := ∀ i, bt o2 i = true ↔ (bt o i = true ∧ ∀ j, lo ≤ j → j < hi → bt (B j) i = false)
theorem ks_cut.zero (B : Nat → Int32) (lo : Nat) (o : Int32) : ks_cut B lo lo o o := fun i => ⟨fun h => ⟨h, fun j h1 h2 => absurd h1 (by omega)⟩, fun h => h.1⟩
theorem ks_cut.step {B : Nat → Int32} {lo hi : Nat} {o o2 : Int32} (h : ks_cut B lo hi o o2) (hl : lo ≤ hi) : ks_cut B lo (hi + 1) o (o2 &&& (B hi ^^^ (-1))) := fun i => by
  rw [ks_andn, Bool.and_eq_true, h i]
  constructor
  · intro ⟨⟨a, b⟩, d⟩
    refine ⟨a, fun j h1 h2 => ?_⟩
    by_cases e : j = hi
    · subst e; simpa using d
    · exact b j h1 (by omega)
  · intro ⟨a, b⟩
    exact ⟨⟨a, fun j h1 h2 => b j h1 (by omega)⟩, by rw [b hi hl (by omega)]; rfl⟩
/-- what propagate leaves, and answers -/
def ks_pp (N : Nat) (P M : Nat → Int32) (n : Nat) (B Rs : Nat → Int32) (k : Nat) (o z : Int32) (r : Int32) (B' Rs' : Nat → Int32) (k' : Nat) (o' z' : Int32) : Prop :=
  ks_R N P M n B' Rs' k' o' z' ∧ ks_X B Rs k o z B' Rs' k' o' z' ∧ (∀ a, ks_E o z a → ks_M P M n a → ks_E o' z' a) ∧
  ((r = -1 ∧ ∀ c, c < n → ks_U (P c) (M c) o' z') ∨ (¬ r = -1 ∧ ∃ c, c < n ∧ r = (P c ||| M c) ∧ ks_F (P c) (M c) o' z'))
theorem ks_mem_ne {N : Nat} (hN : N ≤ 16) {P M : Int32} (h : ks_ok N P M) : ¬ (P ||| M) = -1 := by
  intro e
  have a : bt (P ||| M) 20 = true := by rw [e]; decide
  have := h.2 20 ((ks_memb _ _ _).mp a)
  omega
section KL
variable {p : Program} {l : Launch} {e : Env} {R : Room} {s : State} {m : MethodId} {args : Array Value} {below : List Frame} {meth : Method} {c : Code} {cells slots : Nat} {Q : State → Prop}
/-- a loop: the state x of its head, n rounds at most -/
theorem ks_wl {σ : Type} (I : Nat → σ → Heap → List Loc → Array Slot → Prop) (pcH : Nat)
    (step : ∀ n x H locs ls, I (n + 1) x H locs ls → (∀ x' H' locs' ls', I n x' H' locs' ls' → W p l e R s m args below meth c H' locs' cells slots Q (F0 m pcH ls' [])) → W p l e R s m args below meth c H locs cells slots Q (F0 m pcH ls []))
    (zero : ∀ x H locs ls, ¬ I 0 x H locs ls) : ∀ n x H locs ls, I n x H locs ls → W p l e R s m args below meth c H locs cells slots Q (F0 m pcH ls []) := by
  intro n
  induction n with
  | zero => intro x H locs ls h; exact absurd h (zero x H locs ls)
  | succ n ih => intro x H locs ls h; exact step n x H locs ls h (fun x' H' locs' ls' h' => ih x' H' locs' ls' h')
end KL
section KJ
variable {p : Program} {l : Launch} {e : Env} {R : Room} {s : State} {m : MethodId} {args : Array Value} {below : List Frame} {meth : Method} {c : Code} {cells slots : Nat} {Q : State → Prop} {H0 : Heap} {locs0 : List Loc} {g : JFrame}
/-- ways that meet at one place -/
theorem ks_join {σ : Type} (I : σ → Heap → List Loc → Array Slot → Prop) (pcJ : Nat)
    (after : ∀ x H locs ls, I x H locs ls → W p l e R s m args below meth c H locs cells slots Q (F0 m pcJ ls []))
    (before : (∀ x H locs ls, I x H locs ls → W p l e R s m args below meth c H locs cells slots Q (F0 m pcJ ls [])) → W p l e R s m args below meth c H0 locs0 cells slots Q g) : W p l e R s m args below meth c H0 locs0 cells slots Q g := before after
end KJ
end
section
/-! the search, round by round -/
theorem ks_M.ext {P M P' M' : Nat → Int32} {g : Nat} (h : ∀ c, c < g → P' c = P c ∧ M' c = M c) {a : Nat → Bool} : ks_M P' M' g a ↔ ks_M P M g a := by
  constructor
  · intro q c hc
    have := q c hc
    rw [(h c hc).1, (h c hc).2] at this
    exact this
  · intro q c hc
    rw [(h c hc).1, (h c hc).2]
    exact q c hc
theorem ks_L.ext {N : Nat} {P M P' M' : Nat → Int32} {g : Nat} {o z r : Int32} (h : ∀ c, c < g → P' c = P c ∧ M' c = M c) (hL : ks_L N (ks_Q P' M' g o z) r) : ks_L N (ks_Q P M g o z) r :=
  hL.congr (fun v hv => ⟨fun q => ⟨q.1, (ks_M.ext h).mp q.2⟩, fun q => ⟨q.1, (ks_M.ext h).mpr q.2⟩⟩)
/-- the same models -/
def ks_eqv (N : Nat) (P M : Nat → Int32) (g : Nat) (o z o' z' : Int32) : Prop := ∀ v, v < 2 ^ N → (ks_Q P M g o z v.testBit ↔ ks_Q P M g o' z' v.testBit)
theorem ks_eqv.rf {N : Nat} {P M : Nat → Int32} {g : Nat} {o z : Int32} : ks_eqv N P M g o z o z := fun _ _ => Iff.rfl
theorem ks_eqv.tr {N : Nat} {P M : Nat → Int32} {g : Nat} {o z o1 z1 o2 z2 : Int32} (h : ks_eqv N P M g o z o1 z1) (h' : ks_eqv N P M g o1 z1 o2 z2) : ks_eqv N P M g o z o2 z2 := fun v hv => (h v hv).trans (h' v hv)
theorem ks_eqv.L {N : Nat} {P M : Nat → Int32} {g : Nat} {o z o1 z1 r : Int32} (h : ks_eqv N P M g o z o1 z1) (hL : ks_L N (ks_Q P M g o1 z1) r) : ks_L N (ks_Q P M g o z) r := hL.congr (fun v hv => (h v hv).symm)
/-- the row has grown behind what it was -/
def ks_gr (P M : Nat → Int32) (n : Nat) (P' M' : Nat → Int32) (n' : Nat) : Prop := n ≤ n' ∧ ∀ c, c < n → P' c = P c ∧ M' c = M c
theorem ks_gr.rf {P M : Nat → Int32} {n : Nat} : ks_gr P M n P M n := ⟨Nat.le_refl n, fun _ _ => ⟨rfl, rfl⟩⟩
theorem ks_gr.tr {P M P1 M1 P2 M2 : Nat → Int32} {n n1 n2 : Nat} (h : ks_gr P M n P1 M1 n1) (h' : ks_gr P1 M1 n1 P2 M2 n2) : ks_gr P M n P2 M2 n2 :=
  ⟨Nat.le_trans h.1 h'.1, fun c hc => ⟨((h'.2 c (Nat.lt_of_lt_of_le hc h.1)).1).trans (h.2 c hc).1, ((h'.2 c (Nat.lt_of_lt_of_le hc h.1)).2).trans (h.2 c hc).2⟩⟩
theorem ks_gr.put (P M : Nat → Int32) (n : Nat) (p m : Int32) : ks_gr P M n (upd P n p) (upd M n m) (n + 1) :=
  ⟨by omega, fun c hc => ⟨pk_un (by omega), pk_un (by omega)⟩⟩
theorem ks_gr.R {N : Nat} {P M P' M' : Nat → Int32} {n n' : Nat} {B Rs : Nat → Int32} {k : Nat} {o z : Int32} (h : ks_gr P M n P' M' n') (hR : ks_R N P M n B Rs k o z) : ks_R N P' M' n' B Rs k o z := hR.mono h.1 h.2
theorem ks_gr.low {P M P' M' : Nat → Int32} {n n' g : Nat} (h : ks_gr P M n P' M' n') (hg : g ≤ n) : ∀ c, c < g → P' c = P c ∧ M' c = M c := fun c hc => h.2 c (Nat.lt_of_lt_of_le hc hg)
/-- propagate keeps the models -/
theorem ks_pp.eqv {N : Nat} {P M : Nat → Int32} {g n : Nat} {B Rs : Nat → Int32} {k : Nat} {o z r : Int32} {B' Rs' : Nat → Int32} {k' : Nat} {o' z' : Int32} (h : ks_pp N P M n B Rs k o z r B' Rs' k' o' z') (hW : ks_W N P M g n) : ks_eqv N P M g o z o' z' :=
  fun v _ => ⟨fun q => ⟨h.2.2.1 _ q.1 (hW.all.mp q.2), q.2⟩, fun q => ⟨h.2.1.E q.1, q.2⟩⟩
theorem ks_eqv.ext {N : Nat} {P M P' M' : Nat → Int32} {g : Nat} {o z o' z' : Int32} (h : ∀ c, c < g → P' c = P c ∧ M' c = M c) (hE : ks_eqv N P' M' g o z o' z') : ks_eqv N P M g o z o' z' := fun v hv => by
  have := hE v hv
  unfold ks_Q at this ⊢
  rw [ks_M.ext h] at this
  exact this
/-- a false clause: no model -/
theorem ks_L.conflict {N : Nat} {P M : Nat → Int32} {g n c : Nat} {o z : Int32} (hW : ks_W N P M g n) (hc : c < n) (hF : ks_F (P c) (M c) o z) : ks_L N (ks_Q P M g o z) (-1) :=
  Or.inl ⟨rfl, fun v _ q => ks_F_no hF q.1 (hW.2.2.2 c hc _ q.2)⟩
/-- the refuted place -/
def ks_rf (N : Nat) (P M : Nat → Int32) (g rd k : Nat) (rf o z : Int32) : Prop := (rd = 0 ∧ rf = 0) ∨ ∃ p, p < N ∧ rf = ks_on p ∧ ks_fr o z p ∧ rd ≤ k + 1 ∧ (∀ v, v < 2 ^ N → ks_Q P M g o z v.testBit → v.testBit p = true) ∧ ∀ q, p < q → q < N → ¬ ks_fr o z q
theorem ks_rf.round {N : Nat} {P M P1 M1 : Nat → Int32} {g rd n1 : Nat} {rf o z : Int32} {B Rs : Nat → Int32} {k : Nat} (h : ks_rf N P M g rd k rf o z) (hR : ks_R N P1 M1 n1 B Rs k o z) : rd ≤ N := by
  rcases h with ⟨h, -⟩ | ⟨p, h1, h2, h3, h4, h5, h6⟩
  · omega
  · have := hR.free h1 h3; omega
theorem ks_X.grow {N : Nat} (hN : N ≤ 16) {P M P1 M1 : Nat → Int32} {n n1 : Nat} {B Rs B1 Rs1 : Nat → Int32} {k k1 : Nat} {o z o1 z1 : Int32} (hR : ks_R N P M n B Rs k o z) (hR1 : ks_R N P1 M1 n1 B1 Rs1 k1 o1 z1) (hX : ks_X B Rs k o z B1 Rs1 k1 o1 z1) {p : Nat} (hf : ks_fr o z p) (hf1 : ¬ ks_fr o1 z1 p) : k + 1 ≤ k1 := by
  obtain ⟨pl, a1, a2, a3, a4, a5⟩ := hR
  obtain ⟨pl1, b1, b2, b3, b4, b5⟩ := hR1
  have hset : bt o1 p = true ∨ bt z1 p = true := by
    cases ho : bt o1 p
    · cases hz : bt z1 p
      · exact absurd ⟨ho, hz⟩ hf1
      · exact Or.inr rfl
    · exact Or.inl rfl
  obtain ⟨j, hj, e⟩ := (b3 p).mp hset
  rcases Nat.lt_or_ge j k with q | q
  · exfalso
    have e1 := (hX.2.1 j q).1
    have h1 := b1 j hj
    have h2 := a1 j q
    rw [h1.2, h2.2] at e1
    have e2 := ks_on_inj (by omega) (by omega) e1
    exact ks_fr_ne hf ((a3 p).mpr ⟨j, q, by rw [← e2]; exact e⟩) rfl
  · omega
theorem ks_fr.mono {B Rs B1 Rs1 : Nat → Int32} {k k1 : Nat} {o z o1 z1 : Int32} (hX : ks_X B Rs k o z B1 Rs1 k1 o1 z1) {p : Nat} (h : ks_fr o1 z1 p) : ks_fr o z p := by
  refine ⟨?_, ?_⟩
  · cases ho : bt o p
    · rfl
    · have := (hX.2.2 p).1 ho; rw [h.1] at this; cases this
  · cases hz : bt z p
    · rfl
    · have := (hX.2.2 p).2 hz; rw [h.2] at this; cases this
theorem ks_rf.next {N : Nat} (hN : N ≤ 16) {P M P1 M1 P2 M2 : Nat → Int32} {g rd n1 n2 : Nat} {rf o z o1 z1 : Int32} {B Rs B1 Rs1 : Nat → Int32} {k k1 : Nat} (h : ks_rf N P M g rd k rf o z) (hR : ks_R N P1 M1 n1 B Rs k o z) (hR1 : ks_R N P2 M2 n2 B1 Rs1 k1 o1 z1) (hX : ks_X B Rs k o z B1 Rs1 k1 o1 z1) {p : Nat} (hp : p < N) (hf : ks_fr o1 z1 p) (hup : ∀ q, p < q → q < N → ¬ ks_fr o1 z1 q) (hne : ¬ ks_on p = rf) (hl : ∀ v, v < 2 ^ N → ks_Q P M g o1 z1 v.testBit → v.testBit p = true) : ks_rf N P M g (rd + 1) k1 (ks_on p) o1 z1 := by
  refine Or.inr ⟨p, hp, rfl, hf, ?_, hl, hup⟩
  rcases h with ⟨h, -⟩ | ⟨p', h1, h2, h3, h4, h5, h6⟩
  · omega
  · have hnf : ¬ ks_fr o1 z1 p' := by
      intro hf'
      rcases Nat.lt_trichotomy p p' with q | q | q
      · exact hup p' q h1 hf'
      · exact hne (by rw [h2, q])
      · exact h6 p q hp (ks_fr.mono hX hf)
    have := ks_X.grow hN hR hR1 hX h3 hnf
    omega
theorem ks_rf.high {N : Nat} (hN : N ≤ 16) {P M : Nat → Int32} {g rd : Nat} {rf o z o1 z1 : Int32} {B Rs B1 Rs1 : Nat → Int32} {k k1 : Nat} (h : ks_rf N P M g rd k rf o z) (hX : ks_X B Rs k o z B1 Rs1 k1 o1 z1) {p : Nat} (hp : p < N) (he : ks_on p = rf) : ∀ v, v < 2 ^ N → ks_Q P M g o1 z1 v.testBit → v.testBit p = true := by
  intro v hv q
  rcases h with ⟨-, h⟩ | ⟨p', h1, h2, h3, h4, h5, h6⟩
  · rw [h] at he; exact absurd he (ks_on_ne0 (by omega))
  · have := ks_on_inj (by omega) (by omega) (he.trans h2)
    subst this
    exact h5 v hv ⟨hX.E q.1, q.2⟩
/-- two literals against each other -/
theorem ks_L.clash {N : Nat} {P M : Nat → Int32} {g : Nat} {o z : Int32} (h : ¬ o &&& z = 0) : ks_L N (ks_Q P M g o z) (-1) := by
  obtain ⟨i, hi⟩ := ks_nz.mp h
  rw [b_and, Bool.and_eq_true] at hi
  refine Or.inl ⟨rfl, fun v _ q => ?_⟩
  have a := (q.1 i).1 hi.1
  rw [(q.1 i).2 hi.2] at a
  cases a
theorem ks_disj {o z : Int32} (h : o &&& z = 0) : ∀ i, bt o i = true → bt z i = false := fun i hi => by
  have a := ks_z.mp h i
  rw [b_and, hi, Bool.true_and] at a
  exact a
end
section
/-! literals -/
theorem ks_negT {w : Nat} (h : w < 2 ^ 31) : (-nI w).toInt = -(w : Int) := sb_negT h
/-- x is variable v, or its negation -/
def ks_lit (N : Nat) (x : Int32) (v : Nat) : Prop := 1 ≤ v ∧ v ≤ N ∧ (x = nI v ∨ x = -nI v)
/-- the literal x is true under a -/
def ks_lt (N : Nat) (x : Int32) (a : Nat → Bool) : Prop := ∃ v, 1 ≤ v ∧ v ≤ N ∧ ((x = nI v ∧ a (N - v) = true) ∨ (x = -nI v ∧ a (N - v) = false))
theorem ks_isLit {N : Nat} (hN : N ≤ 16) {x : Int32} (h0 : ¬ x = 0) (h1 : ¬ x < -nI N) (h2 : ¬ nI N < x) : ∃ v, ks_lit N x v := by
  rw [Int32.lt_iff_toInt_lt, ks_negT (by omega)] at h1
  rw [Int32.lt_iff_toInt_lt, nI_toInt (by omega)] at h2
  by_cases hx : x < 0
  · rw [Int32.lt_iff_toInt_lt, Int32.toInt_zero] at hx
    refine ⟨(-x.toInt).toNat, by omega, by omega, Or.inr ?_⟩
    apply Int32.toInt_inj.mp
    rw [ks_negT (by omega)]
    omega
  · obtain ⟨v, hv, e⟩ := nI_of hx
    subst e
    rw [nI_toInt hv] at h2
    refine ⟨v, ?_, by omega, Or.inl rfl⟩
    rcases Nat.eq_zero_or_pos v with q | q
    · subst q; exact absurd nI_0 h0
    · exact q
theorem ks_lit.pos {N : Nat} (hN : N ≤ 16) {x : Int32} {v : Nat} (h : ks_lit N x v) (hp : 0 < x) : x = nI v := by
  rcases h.2.2 with q | q
  · exact q
  · rw [q, Int32.lt_iff_toInt_lt, ks_negT (by have := h.2.1; omega), Int32.toInt_zero] at hp
    omega
theorem ks_lit.neg {N : Nat} (hN : N ≤ 16) {x : Int32} {v : Nat} (h : ks_lit N x v) (hp : ¬ 0 < x) : x = -nI v := by
  rcases h.2.2 with q | q
  · rw [q, Int32.lt_iff_toInt_lt, nI_toInt (by have := h.2.1; omega), Int32.toInt_zero] at hp
    have := h.1
    omega
  · exact q
theorem ks_lit.ne0 {N : Nat} (hN : N ≤ 16) {x : Int32} {v : Nat} (h : ks_lit N x v) : ¬ x = 0 := by
  intro e
  have a := h.1
  have b := h.2.1
  rcases h.2.2 with q | q
  · have := congrArg Int32.toInt (q.symm.trans e)
    rw [nI_toInt (by omega), Int32.toInt_zero] at this
    omega
  · have := congrArg Int32.toInt (q.symm.trans e)
    rw [ks_negT (by omega), Int32.toInt_zero] at this
    omega
theorem ks_lit.lo {N : Nat} (hN : N ≤ 16) {x : Int32} {v : Nat} (h : ks_lit N x v) : ¬ x < -nI N := by
  have a := h.1
  have b := h.2.1
  rw [Int32.lt_iff_toInt_lt, ks_negT (by omega)]
  rcases h.2.2 with q | q
  · rw [q, nI_toInt (by omega)]; omega
  · rw [q, ks_negT (by omega)]; omega
theorem ks_lit.hi {N : Nat} (hN : N ≤ 16) {x : Int32} {v : Nat} (h : ks_lit N x v) : ¬ nI N < x := by
  have a := h.1
  have b := h.2.1
  rw [Int32.lt_iff_toInt_lt, nI_toInt (by omega)]
  rcases h.2.2 with q | q
  · rw [q, nI_toInt (by omega)]; omega
  · rw [q, ks_negT (by omega)]; omega
theorem ks_lit.uniq {N : Nat} (hN : N ≤ 16) {x : Int32} {v w : Nat} (h : ks_lit N x v) (h' : ks_lit N x w) : v = w ∧ (x = nI v ↔ x = nI w) := by
  have a := h.1
  have b := h.2.1
  have a' := h'.1
  have b' := h'.2.1
  have e1 : x = nI v → x.toInt = v := fun q => by rw [q, nI_toInt (by omega)]
  have e2 : x = -nI v → x.toInt = -(v : Int) := fun q => by rw [q, ks_negT (by omega)]
  have e3 : x = nI w → x.toInt = w := fun q => by rw [q, nI_toInt (by omega)]
  have e4 : x = -nI w → x.toInt = -(w : Int) := fun q => by rw [q, ks_negT (by omega)]
  have e : v = w := by
    rcases h.2.2 with q | q <;> rcases h'.2.2 with q' | q'
    · have := e1 q; have := e3 q'; omega
    · have := e1 q; have := e4 q'; omega
    · have := e2 q; have := e3 q'; omega
    · have := e2 q; have := e4 q'; omega
  exact ⟨e, by rw [e]⟩
theorem ks_lt_pos {N : Nat} (hN : N ≤ 16) {x : Int32} {v : Nat} {a : Nat → Bool} (h : ks_lit N x v) (hp : 0 < x) : ks_lt N x a ↔ a (N - v) = true := by
  constructor
  · intro ⟨w, h1, h2, h3⟩
    rcases h3 with ⟨q, r⟩ | ⟨q, r⟩
    · have := (h.uniq hN ⟨h1, h2, Or.inl q⟩).1
      rw [this]; exact r
    · exfalso
      rw [q, Int32.lt_iff_toInt_lt, ks_negT (by omega), Int32.toInt_zero] at hp
      omega
  · intro r
    exact ⟨v, h.1, h.2.1, Or.inl ⟨h.pos hN hp, r⟩⟩
theorem ks_lt_neg {N : Nat} (hN : N ≤ 16) {x : Int32} {v : Nat} {a : Nat → Bool} (h : ks_lit N x v) (hp : ¬ 0 < x) : ks_lt N x a ↔ a (N - v) = false := by
  constructor
  · intro ⟨w, h1, h2, h3⟩
    rcases h3 with ⟨q, r⟩ | ⟨q, r⟩
    · exfalso
      apply hp
      rw [q, Int32.lt_iff_toInt_lt, nI_toInt (by omega), Int32.toInt_zero]
      omega
    · have := (h.uniq hN ⟨h1, h2, Or.inr q⟩).1
      rw [this]; exact r
  · intro r
    exact ⟨v, h.1, h.2.1, Or.inr ⟨h.neg hN hp, r⟩⟩
theorem ks_abs {N : Nat} (hN : N ≤ 16) {x : Int32} {v : Nat} (h : ks_lit N x v) : (if 0 ≤ x then x else 0 - x) = nI v := by
  have a := h.1
  have b := h.2.1
  rcases h.2.2 with q | q
  · rw [q, if_pos (nI_pos' (by omega))]
  · rw [q, if_neg]
    · apply Int32.toBitVec_inj.mp
      show 0#32 - -(nI v).toBitVec = (nI v).toBitVec
      simp
    · rw [Int32.le_iff_toInt_le, Int32.toInt_zero, ks_negT (by omega)]; omega
theorem ks_lit_neg {N : Nat} {x : Int32} {v : Nat} (h : ks_lit N x v) : ks_lit N (-x) v := by
  refine ⟨h.1, h.2.1, ?_⟩
  rcases h.2.2 with q | q
  · exact Or.inr (by rw [q])
  · refine Or.inl ?_
    rw [q]
    apply Int32.toBitVec_inj.mp
    show - -(nI v).toBitVec = (nI v).toBitVec
    simp
/-- the negation is true where the literal isn't -/
theorem ks_lt_not {N : Nat} (hN : N ≤ 16) {x : Int32} {v : Nat} {a : Nat → Bool} (h : ks_lit N x v) : ks_lt N (-x) a ↔ ¬ ks_lt N x a := by
  have hneg := ks_lit_neg h
  have a1 := h.1
  have b1 := h.2.1
  rcases h.2.2 with q | q
  · have hp : 0 < x := by rw [q, Int32.lt_iff_toInt_lt, nI_toInt (by omega), Int32.toInt_zero]; omega
    have hn : ¬ 0 < -x := by rw [q, Int32.lt_iff_toInt_lt, ks_negT (by omega), Int32.toInt_zero]; omega
    rw [ks_lt_pos hN h hp, ks_lt_neg hN hneg hn]
    cases a (N - v) <;> simp
  · have hp : ¬ 0 < x := by rw [q, Int32.lt_iff_toInt_lt, ks_negT (by omega), Int32.toInt_zero]; omega
    have e : -x = nI v := by
      rw [q]
      apply Int32.toBitVec_inj.mp
      show - -(nI v).toBitVec = (nI v).toBitVec
      simp
    have hn : 0 < -x := by rw [e, Int32.lt_iff_toInt_lt, nI_toInt (by omega), Int32.toInt_zero]; omega
    rw [ks_lt_neg hN h hp, ks_lt_pos hN hneg hn]
    cases a (N - v) <;> simp
/-- how many variables: 1 to 16 -/
def ks_N (x : Int32) : Nat := if x.toInt < 1 then 1 else if 16 < x.toInt then 16 else x.toInt.toNat
theorem ks_N_le (x : Int32) : ks_N x ≤ 16 := by
  unfold ks_N
  split
  · omega
  · split <;> omega
theorem ks_N_ge (x : Int32) : 1 ≤ ks_N x := by
  unfold ks_N
  split
  · omega
  · split <;> omega
theorem ks_N_toInt (x : Int32) : (nI (ks_N x)).toInt = if x.toInt < 1 then 1 else if 16 < x.toInt then 16 else x.toInt := by
  rw [nI_toInt (by have := ks_N_le x; omega)]
  unfold ks_N
  split
  · rfl
  · split
    · rfl
    · omega
theorem ks_Nv (x : Int32) : (if (1 : Int32) < (if x < nI 16 then x else nI 16) then (if x < nI 16 then x else nI 16) else 1) = nI (ks_N x) := by
  apply Int32.toInt_inj.mp
  rw [ks_N_toInt]
  have e16 : (nI 16).toInt = 16 := nI_toInt (by decide)
  have e1 : (1 : Int32).toInt = 1 := by decide
  by_cases h : x < nI 16
  · rw [if_pos h]
    rw [Int32.lt_iff_toInt_lt, e16] at h
    by_cases h2 : (1 : Int32) < x
    · rw [if_pos h2]
      rw [Int32.lt_iff_toInt_lt, e1] at h2
      rw [if_neg (by omega), if_neg (by omega)]
    · rw [if_neg h2, e1]
      rw [Int32.lt_iff_toInt_lt, e1] at h2
      by_cases h3 : x.toInt < 1
      · rw [if_pos h3]
      · rw [if_neg h3, if_neg (by omega)]; omega
  · rw [if_neg h, if_pos (by decide), e16]
    rw [Int32.lt_iff_toInt_lt, e16] at h
    rw [if_neg (by omega)]
    by_cases h3 : 16 < x.toInt
    · rw [if_pos h3]
    · rw [if_neg h3]; omega
end
section
/-! assumptions, chosen by bits of an Int64 -/
-- pasted: ts_bit, wb_tb, wb_inj, wb_cu
theorem ts_bit {w : Int64} {s : UInt64} {j : Nat} (hj : j < 64) (hs : s.toNat = j) : ((w.toUInt64 >>> s).toInt64 &&& 1) = 0 ↔ w.toBitVec.getLsbD j = false := by
  have e : (w.toUInt64 >>> s).toInt64.toBitVec = w.toBitVec >>> j := by
    apply BitVec.eq_of_toNat_eq
    show (w.toUInt64 >>> s).toNat = _
    rw [UInt64.toNat_shiftRight, hs, Nat.mod_eq_of_lt hj, BitVec.toNat_ushiftRight]
    rfl
  rw [← Int64.toBitVec_inj, Int64.toBitVec_and, e]
  show w.toBitVec >>> j &&& 1#64 = 0#64 ↔ _
  constructor
  · intro h
    have t := congrArg (fun x => x.getLsbD 0) h
    simpa using t
  · intro h
    apply BitVec.eq_of_getLsbD_eq
    intro i hi
    cases i with
    | zero => simp [h]
    | succ i => simp
theorem wb_tb (n : Nat) : (lN n).toBitVec = BitVec.ofNat 64 n := rfl
theorem wb_inj {a b : Int64} (h : a.toBitVec = b.toBitVec) : a = b := Int64.toBitVec_inj.mp h
theorem wb_cu : ∀ k, k < 64 → ((nI k).toInt64.toUInt64 &&& Int64.toUInt64 63) = UInt64.ofNat k := by decide +kernel
def ks_bl (x : Int64) (j : Nat) : Bool := x.toBitVec.getLsbD j
theorem ks_bl_tst {x : Int64} {j : Nat} (hj : j < 64) : ((x.toUInt64 >>> ((nI j).toInt64.toUInt64 &&& Int64.toUInt64 63)).toInt64 &&& 1) = 0 ↔ ks_bl x j = false :=
  ts_bit hj (by rw [wb_cu j hj]; show (BitVec.ofNat 64 j).toNat = j; rw [BitVec.toNat_ofNat, Nat.mod_eq_of_lt (by omega)])
/-- the extra literal, if there is one, and the chosen ones of the first i assumptions, are true -/
def ks_As (N : Nat) (AS : Nat → Int32) (ch : Int64) (ex : Int32) (i : Nat) (a : Nat → Bool) : Prop := (ex = 0 ∨ ks_lt N ex a) ∧ ∀ j, j < i → ks_bl ch j = true → ks_lt N (AS j) a
def ks_in (N : Nat) (o z : Int32) : Prop := ∀ i, bt o i = true ∨ bt z i = true → i < N
theorem ks_in.hi {N : Nat} {o z : Int32} {p : Nat} (h : ks_in N o z) (hN : N ≤ 16) (hp : p < N) : ks_in N (o ||| ks_on p) z := fun i hi => by
  rw [b_or, Bool.or_eq_true, ks_bon_iff (by omega)] at hi
  rcases hi with (q | q) | q
  · exact h i (Or.inl q)
  · omega
  · exact h i (Or.inr q)
theorem ks_in.lo {N : Nat} {o z : Int32} {p : Nat} (h : ks_in N o z) (hN : N ≤ 16) (hp : p < N) : ks_in N o (z ||| ks_on p) := fun i hi => by
  rw [b_or, Bool.or_eq_true, ks_bon_iff (by omega)] at hi
  rcases hi with q | (q | q)
  · exact h i (Or.inl q)
  · exact h i (Or.inr q)
  · omega
theorem ks_E00 (a : Nat → Bool) : ks_E 0 0 a := fun i => ⟨fun h => (by rw [b_0] at h; cases h), fun h => (by rw [b_0] at h; cases h)⟩
theorem ks_or0 (x : Int32) : 0 ||| x = x := b_ext (fun i _ => by rw [b_or, b_0, Bool.false_or])
theorem ks_in00 (N : Nat) : ks_in N 0 0 := fun i h => by rw [b_0] at h; rcases h with h | h <;> cases h
/-- what the loop has: the values say just the chosen literals -/
def ks_un (N : Nat) (AS : Nat → Int32) (ch : Int64) (ex : Int32) (i : Nat) (o z : Int32) : Prop := ks_in N o z ∧ ∀ a, ks_E o z a ↔ ks_As N AS ch ex i a
theorem ks_un.zero0 (N : Nat) (AS : Nat → Int32) (ch : Int64) : ks_un N AS ch 0 0 0 0 :=
  ⟨ks_in00 N, fun a => ⟨fun _ => ⟨Or.inl rfl, fun j hj => absurd hj (by omega)⟩, fun _ => ks_E00 a⟩⟩
theorem ks_un.zerop {N : Nat} (hN : N ≤ 16) {AS : Nat → Int32} {ch : Int64} {ex : Int32} {v : Nat} (h : ks_lit N ex v) (hp : 0 < ex) : ks_un N AS ch ex 0 (ks_on (N - v)) 0 := by
  have hv : N - v < N := by have := h.1; have := h.2.1; omega
  refine ⟨?_, fun a => ?_⟩
  · have := (ks_in00 N).hi hN hv; rw [ks_or0] at this; exact this
  · have e := ks_E.high (o := 0) (z := 0) (p := N - v) (by omega) (a := a)
    rw [ks_or0] at e
    rw [e, ← ks_lt_pos hN h hp]
    exact ⟨fun q => ⟨Or.inr q.2, fun j hj => absurd hj (by omega)⟩, fun q => ⟨ks_E00 a, q.1.elim (fun r => absurd r (h.ne0 hN)) id⟩⟩
theorem ks_un.zeron {N : Nat} (hN : N ≤ 16) {AS : Nat → Int32} {ch : Int64} {ex : Int32} {v : Nat} (h : ks_lit N ex v) (hp : ¬ 0 < ex) : ks_un N AS ch ex 0 0 (ks_on (N - v)) := by
  have hv : N - v < N := by have := h.1; have := h.2.1; omega
  refine ⟨?_, fun a => ?_⟩
  · have := (ks_in00 N).lo hN hv; rw [ks_or0] at this; exact this
  · have e := ks_E.low (o := 0) (z := 0) (p := N - v) (by omega) (a := a)
    rw [ks_or0] at e
    rw [e, ← ks_lt_neg hN h hp]
    exact ⟨fun q => ⟨Or.inr q.2, fun j hj => absurd hj (by omega)⟩, fun q => ⟨ks_E00 a, q.1.elim (fun r => absurd r (h.ne0 hN)) id⟩⟩
theorem ks_As.skip {N : Nat} {AS : Nat → Int32} {ch : Int64} {ex : Int32} {i : Nat} {a : Nat → Bool} (hb : ks_bl ch i = false) : ks_As N AS ch ex i a ↔ ks_As N AS ch ex (i + 1) a :=
  ⟨fun h => ⟨h.1, fun j hj hc => by
    by_cases e : j = i
    · subst e; rw [hb] at hc; cases hc
    · exact h.2 j (by omega) hc⟩, fun h => ⟨h.1, fun j hj hc => h.2 j (by omega) hc⟩⟩
theorem ks_As.add {N : Nat} {AS : Nat → Int32} {ch : Int64} {ex : Int32} {i : Nat} {a : Nat → Bool} (hb : ks_bl ch i = true) : ks_As N AS ch ex (i + 1) a ↔ ks_As N AS ch ex i a ∧ ks_lt N (AS i) a :=
  ⟨fun h => ⟨⟨h.1, fun j hj hc => h.2 j (by omega) hc⟩, h.2 i (by omega) hb⟩, fun h => ⟨h.1.1, fun j hj hc => by
    by_cases e : j = i
    · subst e; exact h.2
    · exact h.1.2 j (by omega) hc⟩⟩
theorem ks_un.skip {N : Nat} {AS : Nat → Int32} {ch : Int64} {ex : Int32} {i : Nat} {o z : Int32} (h : ks_un N AS ch ex i o z) (hb : ks_bl ch i = false) : ks_un N AS ch ex (i + 1) o z :=
  ⟨h.1, fun a => (h.2 a).trans (ks_As.skip hb)⟩
theorem ks_un.pos {N : Nat} (hN : N ≤ 16) {AS : Nat → Int32} {ch : Int64} {ex : Int32} {i v : Nat} {o z : Int32} (h : ks_un N AS ch ex i o z) (hb : ks_bl ch i = true) (hv : ks_lit N (AS i) v) (hp : 0 < AS i) : ks_un N AS ch ex (i + 1) (o ||| ks_on (N - v)) z := by
  have hlt : N - v < N := by have := hv.1; have := hv.2.1; omega
  refine ⟨h.1.hi hN hlt, fun a => ?_⟩
  rw [ks_E.high (by omega), h.2 a, ← ks_lt_pos hN hv hp, ks_As.add hb]
theorem ks_un.neg {N : Nat} (hN : N ≤ 16) {AS : Nat → Int32} {ch : Int64} {ex : Int32} {i v : Nat} {o z : Int32} (h : ks_un N AS ch ex i o z) (hb : ks_bl ch i = true) (hv : ks_lit N (AS i) v) (hp : ¬ 0 < AS i) : ks_un N AS ch ex (i + 1) o (z ||| ks_on (N - v)) := by
  have hlt : N - v < N := by have := hv.1; have := hv.2.1; omega
  refine ⟨h.1.lo hN hlt, fun a => ?_⟩
  rw [ks_E.low (by omega), h.2 a, ← ks_lt_neg hN hv hp, ks_As.add hb]
/-- a model under assumptions -/
def ks_Y (N : Nat) (AS : Nat → Int32) (ac : Nat) (ch : Int64) (ex : Int32) (P M : Nat → Int32) (g : Nat) (a : Nat → Bool) : Prop := ks_As N AS ch ex ac a ∧ ks_M P M g a
theorem ks_un.L {N : Nat} {AS : Nat → Int32} {ch : Int64} {ex : Int32} {i : Nat} {o z r : Int32} {P M : Nat → Int32} {g : Nat} (h : ks_un N AS ch ex i o z) (hL : ks_L N (ks_Q P M g o z) r) : ks_L N (ks_Y N AS i ch ex P M g) r :=
  hL.congr (fun v _ => ⟨fun q => ⟨(h.2 _).mp q.1, q.2⟩, fun q => ⟨(h.2 _).mpr q.1, q.2⟩⟩)
/-- the clause that is being made -/
theorem ks_T.addp {N : Nat} (hN : N ≤ 16) {x mp mm : Int32} {v : Nat} (h : ks_lit N x v) (hp : 0 < x) {a : Nat → Bool} : ks_T (mp ||| ks_on (N - v)) mm a ↔ ks_T mp mm a ∨ ks_lt N x a := by
  rw [ks_lt_pos hN h hp]
  constructor
  · intro ⟨i, hi⟩
    rw [b_or, Bool.or_eq_true, ks_bon_iff (by omega)] at hi
    rcases hi with ⟨q | q, r⟩ | q
    · exact Or.inl ⟨i, Or.inl ⟨q, r⟩⟩
    · exact Or.inr (by rw [q]; exact r)
    · exact Or.inl ⟨i, Or.inr q⟩
  · intro q
    rcases q with ⟨i, q⟩ | q
    · refine ⟨i, ?_⟩
      rcases q with ⟨q, r⟩ | q
      · exact Or.inl ⟨by rw [b_or, q, Bool.true_or], r⟩
      · exact Or.inr q
    · exact ⟨N - v, Or.inl ⟨by rw [b_or, ks_bon_self (by omega), Bool.or_true], q⟩⟩
theorem ks_T.addn {N : Nat} (hN : N ≤ 16) {x mp mm : Int32} {v : Nat} (h : ks_lit N x v) (hp : ¬ 0 < x) {a : Nat → Bool} : ks_T mp (mm ||| ks_on (N - v)) a ↔ ks_T mp mm a ∨ ks_lt N x a := by
  rw [ks_lt_neg hN h hp]
  constructor
  · intro ⟨i, hi⟩
    rw [b_or, Bool.or_eq_true, ks_bon_iff (by omega)] at hi
    rcases hi with q | ⟨q | q, r⟩
    · exact Or.inl ⟨i, Or.inl q⟩
    · exact Or.inl ⟨i, Or.inr ⟨q, r⟩⟩
    · exact Or.inr (by rw [q]; exact r)
  · intro q
    rcases q with ⟨i, q⟩ | q
    · refine ⟨i, ?_⟩
      rcases q with q | ⟨q, r⟩
      · exact Or.inl q
      · exact Or.inr ⟨by rw [b_or, q, Bool.true_or], r⟩
    · exact ⟨N - v, Or.inr ⟨by rw [b_or, ks_bon_self (by omega), Bool.or_true], q⟩⟩
theorem ks_T.none {a : Nat → Bool} : ¬ ks_T 0 0 a := fun ⟨i, h⟩ => by
  rw [b_0] at h
  rcases h with h | h <;> cases h.1
theorem ks_T.taut {mp mm : Int32} (h : ¬ mp &&& mm = 0) (a : Nat → Bool) : ks_T mp mm a := by
  obtain ⟨i, hi⟩ := ks_nz.mp h
  rw [b_and, Bool.and_eq_true] at hi
  refine ⟨i, ?_⟩
  cases ha : a i
  · exact Or.inr ⟨hi.2, rfl⟩
  · exact Or.inl ⟨hi.1, rfl⟩
theorem ks_in.mem {N : Nat} {mp mm : Int32} (h : ks_in N mp mm) (hd : mp &&& mm = 0) : ks_ok N mp mm := ⟨ks_disj hd, fun i hi => h i hi⟩
theorem ks_Y.ext {N : Nat} {AS : Nat → Int32} {ac : Nat} {ch : Int64} {ex : Int32} {P M P' M' : Nat → Int32} {g : Nat} {r : Int32} (h : ∀ c, c < g → P' c = P c ∧ M' c = M c) (hL : ks_L N (ks_Y N AS ac ch ex P' M' g) r) : ks_L N (ks_Y N AS ac ch ex P M g) r :=
  hL.congr (fun v _ => ⟨fun q => ⟨q.1, (ks_M.ext h).mp q.2⟩, fun q => ⟨q.1, (ks_M.ext h).mpr q.2⟩⟩)
theorem ks_L.no {N : Nat} (hN : N ≤ 16) {F : (Nat → Bool) → Prop} {r : Int32} (h : ks_L N F r) (e : r = -1) : ∀ v, v < 2 ^ N → ¬ F v.testBit := by
  rcases h with ⟨_, q⟩ | ⟨v, h1, h2, -⟩
  · exact q
  · exact absurd (h2.symm.trans e) (ks_nIm (ks_pow hN h1))
theorem ks_L.yes {N : Nat} {F : (Nat → Bool) → Prop} {r : Int32} (h : ks_L N F r) (e : ¬ r = -1) : ¬ ∀ v, v < 2 ^ N → ¬ F v.testBit := by
  rcases h with ⟨q, _⟩ | ⟨v, h1, h2, h3, -⟩
  · exact absurd q e
  · exact fun q => q v h1 h3
/-- the core, step by step: F says that there is no model under the chosen assumptions -/
def ks_rm (K : Int64) (j : Nat) : Int64 := K &&& ((1 <<< ((nI j).toInt64 &&& 63)) ^^^ (-1))
def ks_kp (F : Int64 → Prop) (K0 : Int64) : Nat → Int64 → Prop
  | 0, K => K = K0
  | j + 1, K => ∃ K1, ks_kp F K0 j K1 ∧ ((F (ks_rm K1 j) ∧ K = ks_rm K1 j) ∨ (¬ F (ks_rm K1 j) ∧ K = K1))
theorem ks_kp.uniq {F G : Int64 → Prop} {K0 : Int64} (h : ∀ K, F K ↔ G K) : ∀ (j : Nat) (K K' : Int64), ks_kp F K0 j K → ks_kp G K0 j K' → K = K' := by
  intro j
  induction j with
  | zero => intro K K' h1 h2; exact h1.trans h2.symm
  | succ j ih =>
    intro K K' ⟨K1, a1, a2⟩ ⟨K2, b1, b2⟩
    have e := ih K1 K2 a1 b1
    subst e
    rcases a2 with ⟨a2, a3⟩ | ⟨a2, a3⟩ <;> rcases b2 with ⟨b2, b3⟩ | ⟨b2, b3⟩
    · rw [a3, b3]
    · exact absurd ((h _).mp a2) b2
    · exact absurd ((h _).mpr b2) a2
    · rw [a3, b3]
/-- no model under the chosen assumptions -/
def ks_nm (N : Nat) (AS : Nat → Int32) (ac : Nat) (P M : Nat → Int32) (g : Nat) (ch : Int64) : Prop := ∀ v, v < 2 ^ N → ¬ ks_Y N AS ac ch 0 P M g v.testBit
def ks_K0 (ac : Nat) : Int64 := (1 <<< ((nI ac).toInt64 &&& 63)) - 1
end
