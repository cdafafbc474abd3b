section
/-! bits of an Int32 (the rows bt .. nf_sh: pasted family) -/
def bt (x : Int32) (i : Nat) : Bool := x.toBitVec.getLsbD i
theorem b_ext {x y : Int32} (h : ∀ i, i < 32 → bt x i = bt y i) : x = y := Int32.toBitVec_inj.mp (BitVec.eq_of_getLsbD_eq (fun i hi => h i hi))
theorem b_or (x y : Int32) (i : Nat) : bt (x ||| y) i = (bt x i || bt y i) := by unfold bt; rw [Int32.toBitVec_or, BitVec.getLsbD_or]
theorem b_and (x y : Int32) (i : Nat) : bt (x &&& y) i = (bt x i && bt y i) := by unfold bt; rw [Int32.toBitVec_and, BitVec.getLsbD_and]
theorem b_xor (x y : Int32) (i : Nat) : bt (x ^^^ y) i = (bt x i ^^ bt y i) := by unfold bt; rw [Int32.toBitVec_xor, BitVec.getLsbD_xor]
theorem b_big {x : Int32} {i : Nat} (h : 32 ≤ i) : bt x i = false := BitVec.getLsbD_of_ge _ _ h
theorem b_m1 : ∀ i, i < 32 → bt (-1) i = true := by decide +kernel
theorem b_0 (i : Nat) : bt 0 i = false := BitVec.getLsbD_zero
theorem nf_sh : ∀ l, l < 32 → ((1 : Int32) <<< (nI l &&& 31)).toBitVec = BitVec.twoPow 32 l := by decide +kernel
theorem ks_not (x : Int32) {i : Nat} (hi : i < 32) : bt (x ^^^ (-1)) i = !bt x i := by
  rw [b_xor, b_m1 i hi, Bool.xor_true]
theorem ks_andn (x y : Int32) (i : Nat) : bt (x &&& (y ^^^ (-1))) i = (bt x i && !bt y i) := by
  rcases Nat.lt_or_ge i 32 with h | h
  · rw [b_and, ks_not y h]
  · rw [b_and, b_big (x := x) h, Bool.false_and, Bool.false_and]
/-- the set of the one place p -/
def ks_on (p : Nat) : Int32 := (1 : Int32) <<< (nI p &&& 31)
theorem ks_bon {p : Nat} (hp : p < 32) (i : Nat) : bt (ks_on p) i = decide (p = i) := by
  unfold bt ks_on
  rw [nf_sh p hp, BitVec.getLsbD_twoPow, decide_eq_true hp, Bool.true_and]
theorem ks_bon_self {p : Nat} (hp : p < 32) : bt (ks_on p) p = true := by rw [ks_bon hp]; exact decide_eq_true rfl
theorem ks_bon_ne {p i : Nat} (hp : p < 32) (h : p ≠ i) : bt (ks_on p) i = false := by rw [ks_bon hp]; exact decide_eq_false h
theorem ks_bon_iff {p i : Nat} (hp : p < 32) : bt (ks_on p) i = true ↔ p = i := by rw [ks_bon hp]; exact decide_eq_true_iff
theorem ks_z {x : Int32} : x = 0 ↔ ∀ i, bt x i = false :=
  ⟨fun h i => by rw [h]; exact b_0 i, fun h => b_ext (fun i _ => by rw [h i, b_0])⟩
theorem ks_nz {x : Int32} : ¬ x = 0 ↔ ∃ i, bt x i = true := by
  constructor
  · intro h
    apply Classical.byContradiction
    intro h2
    exact h (ks_z.mpr (fun i => by
      cases hb : bt x i
      · rfl
      · exact absurd ⟨i, hb⟩ h2))
  · intro ⟨i, h⟩ e
    rw [e, b_0] at h
    cases h
theorem ks_lt32 {x : Int32} {i : Nat} (h : bt x i = true) : i < 32 := by
  rcases Nat.lt_or_ge i 32 with q | q
  · exact q
  · rw [b_big q] at h; cases h
theorem ks_on_ne0 {p : Nat} (hp : p < 32) : ¬ ks_on p = 0 := ks_nz.mpr ⟨p, ks_bon_self hp⟩
theorem ks_on_inj {p q : Nat} (hp : p < 32) (hq : q < 32) (h : ks_on p = ks_on q) : p = q := by
  have a := ks_bon_self hp
  rw [h, ks_bon hq] at a
  exact (of_decide_eq_true a).symm
theorem ks_onand : ∀ p, p < 32 → ks_on p &&& (ks_on p - 1) = 0 := by decide +kernel
theorem ks_single {x : Int32} (h0 : ¬ x = 0) (h1 : x &&& (x - 1) = 0) : ∃ p, p < 32 ∧ x = ks_on p := by
  have hn : x.toBitVec.toNat ≠ 0 := by
    intro e
    apply h0
    apply Int32.toBitVec_inj.mp
    apply BitVec.eq_of_toNat_eq
    rw [e]; rfl
  have hlt := x.toBitVec.isLt
  have hs : (x - 1).toBitVec.toNat = x.toBitVec.toNat - 1 := by
    show (x.toBitVec - 1#32).toNat = _
    rw [BitVec.toNat_sub]
    show (2 ^ 32 - 1 + x.toBitVec.toNat) % 2 ^ 32 = _
    omega
  have ha : x.toBitVec.toNat &&& (x.toBitVec.toNat - 1) = 0 := by
    rw [← hs, ← BitVec.toNat_and, ← Int32.toBitVec_and, h1]; rfl
  obtain ⟨p, hp⟩ := (Nat.and_sub_one_eq_zero_iff_isPowerOfTwo hn).mp ha
  have hp32 : p < 32 := by
    apply Classical.byContradiction
    intro q
    have h2 : 2 ^ 32 ≤ 2 ^ p := Nat.pow_le_pow_right (by decide) (by omega)
    omega
  refine ⟨p, hp32, Int32.toBitVec_inj.mp (BitVec.eq_of_toNat_eq ?_)⟩
  unfold ks_on
  rw [nf_sh p hp32, hp, BitVec.toNat_twoPow, Nat.mod_eq_of_lt (Nat.pow_lt_pow_right (by decide) hp32)]
/-- two places are set, if the set isn't empty and isn't one place -/
theorem ks_two {x : Int32} (h0 : ¬ x = 0) (h1 : ¬ x &&& (x - 1) = 0) : ∃ i j, i ≠ j ∧ bt x i = true ∧ bt x j = true := by
  obtain ⟨i, hi⟩ := ks_nz.mp h0
  apply Classical.byContradiction
  intro h2
  apply h1
  have hx : x = ks_on i := b_ext (fun j _ => by
    rw [ks_bon (ks_lt32 hi)]
    by_cases e : i = j
    · subst e; rw [hi]; exact (decide_eq_true rfl).symm
    · rw [decide_eq_false e]
      cases hb : bt x j
      · rfl
      · exact absurd ⟨i, j, e, hi, hb⟩ h2)
  rw [hx]
  exact ks_onand i (ks_lt32 hi)
theorem ks_bnI {n i : Nat} (hi : i < 32) : bt (nI n) i = n.testBit i := by
  show (BitVec.ofNat 32 n).getLsbD i = _
  rw [BitVec.getLsbD_ofNat, decide_eq_true hi, Bool.true_and]
/-- a set under 16 places as a number -/
theorem ks_num {x : Int32} {N : Nat} (hN : N ≤ 16) (h : ∀ i, bt x i = true → i < N) : ∃ v, v < 2 ^ N ∧ x = nI v ∧ ∀ i, v.testBit i = bt x i := by
  refine ⟨x.toBitVec.toNat, ?_, ?_, ?_⟩
  · apply Nat.lt_pow_two_of_testBit
    intro i hi
    show bt x i = false
    cases hb : bt x i
    · rfl
    · exact absurd (h i hb) (by omega)
  · apply Int32.toBitVec_inj.mp
    show x.toBitVec = BitVec.ofNat 32 x.toBitVec.toNat
    simp
  · intro i; rfl
/-- the first place in which they differ decides -/
theorem ks_tlt {v w p : Nat} (h1 : v.testBit p = false) (h2 : w.testBit p = true) (h3 : ∀ q, p < q → v.testBit q = w.testBit q) : v < w := by
  have e : v / 2 ^ (p + 1) = w / 2 ^ (p + 1) := Nat.eq_of_testBit_eq (fun i => by
    rw [Nat.testBit_div_two_pow, Nat.testBit_div_two_pow]
    exact h3 _ (by omega))
  have a : v % 2 ^ (p + 1) < 2 ^ p := by
    apply Nat.lt_pow_two_of_testBit
    intro i hi
    rw [Nat.testBit_mod_two_pow]
    by_cases q : i = p
    · rw [q, h1, Bool.and_false]
    · rw [decide_eq_false (by omega), Bool.false_and]
  have b : 2 ^ p ≤ w % 2 ^ (p + 1) := by
    apply Nat.ge_two_pow_of_testBit
    rw [Nat.testBit_mod_two_pow, h2, decide_eq_true (by omega), Bool.true_and]
  have c := Nat.div_add_mod v (2 ^ (p + 1))
  have d := Nat.div_add_mod w (2 ^ (p + 1))
  rw [e] at c
  generalize 2 ^ (p + 1) * (w / 2 ^ (p + 1)) = Q at c d
  generalize v % 2 ^ (p + 1) = x at a c
  generalize w % 2 ^ (p + 1) = y at b d
  generalize 2 ^ p = z at a b
  omega
/-- places: no more than there are -/
theorem ks_php : ∀ (N k : Nat) (f : Nat → Nat), (∀ j, j < k → f j < N) → (∀ i j, i < j → j < k → f i ≠ f j) → k ≤ N := by
  intro N
  induction N with
  | zero =>
    intro k f h1 h2
    rcases Nat.eq_zero_or_pos k with h | h
    · omega
    · exact absurd (h1 0 h) (by omega)
  | succ N ih =>
    intro k f h1 h2
    rcases Nat.eq_zero_or_pos k with h | h
    · omega
    · have hne : ∀ j, j < k - 1 → f j ≠ f (k - 1) := fun j hj => h2 j (k - 1) hj (by omega)
      have hk := h1 (k - 1) (by omega)
      have := ih (k - 1) (fun j => if f j = N then f (k - 1) else f j) (fun j hj => by
        have a := h1 j (by omega)
        have b := hne j hj
        show (if f j = N then f (k - 1) else f j) < N
        by_cases c : f j = N
        · rw [if_pos c]; omega
        · rw [if_neg c]; omega) (fun i j hij hj => by
        have a := hne i (by omega)
        have b := hne j hj
        have d := h2 i j hij (by omega)
        show (if f i = N then f (k - 1) else f i) ≠ (if f j = N then f (k - 1) else f j)
        by_cases c : f i = N <;> by_cases c' : f j = N
        · omega
        · rw [if_pos c, if_neg c']; exact fun e => b e.symm
        · rw [if_neg c, if_pos c']; exact a
        · rw [if_neg c, if_neg c']; exact d)
      omega
end
section
/-! clauses (two sets of places), assignments, the trail -/
/-- a clause is true under a total assignment -/
def ks_T (P M : Int32) (a : Nat → Bool) : Prop := ∃ i, (bt P i = true ∧ a i = true) ∨ (bt M i = true ∧ a i = false)
/-- a total assignment has the values of a partial one -/
def ks_E (o z : Int32) (a : Nat → Bool) : Prop := ∀ i, (bt o i = true → a i = true) ∧ (bt z i = true → a i = false)
/-- the first n clauses are true -/
def ks_M (P M : Nat → Int32) (n : Nat) (a : Nat → Bool) : Prop := ∀ c, c < n → ks_T (P c) (M c) a
/-- a clause is true, false, under a partial assignment -/
def ks_S (P M o z : Int32) : Prop := ∃ i, (bt P i = true ∧ bt o i = true) ∨ (bt M i = true ∧ bt z i = true)
def ks_F (P M o z : Int32) : Prop := ∀ i, (bt P i = true → bt z i = true) ∧ (bt M i = true → bt o i = true)
def ks_mem (P M : Int32) (i : Nat) : Prop := bt P i = true ∨ bt M i = true
def ks_fr (o z : Int32) (i : Nat) : Prop := bt o i = false ∧ bt z i = false
/-- neither false nor a unit -/
def ks_U (P M o z : Int32) : Prop := ks_S P M o z ∨ ∃ i j, i ≠ j ∧ ks_mem P M i ∧ ks_mem P M j ∧ ks_fr o z i ∧ ks_fr o z j
theorem ks_S_z {P M o z : Int32} : (P &&& o) ||| (M &&& z) = 0 ↔ ¬ ks_S P M o z := by
  rw [ks_z]
  constructor
  · intro h ⟨i, hi⟩
    have a := h i
    rcases hi with ⟨x, y⟩ | ⟨x, y⟩
    · simp [b_or, b_and, x, y] at a
    · simp [b_or, b_and, x, y] at a
  · intro h i
    rw [b_or, b_and, b_and]
    cases hb : (bt P i && bt o i || bt M i && bt z i)
    · rfl
    · rw [Bool.or_eq_true, Bool.and_eq_true, Bool.and_eq_true] at hb
      exact absurd ⟨i, hb⟩ h
theorem ks_memb (P M : Int32) (i : Nat) : bt (P ||| M) i = true ↔ ks_mem P M i := by
  rw [b_or, Bool.or_eq_true]; exact Iff.rfl
theorem ks_frb (P M o z : Int32) (i : Nat) : bt ((P ||| M) &&& ((o ||| z) ^^^ (-1))) i = true ↔ ks_mem P M i ∧ ks_fr o z i := by
  rw [ks_andn, Bool.and_eq_true, ks_memb, b_or]
  unfold ks_fr
  cases bt o i <;> cases bt z i <;> simp
/-- no free place, and not true: false -/
theorem ks_false {P M o z : Int32} (h : ¬ ks_S P M o z) (hf : (P ||| M) &&& ((o ||| z) ^^^ (-1)) = 0) : ks_F P M o z := by
  intro i
  have a := fun q => ks_frb P M o z i |>.mpr q
  rw [ks_z.mp hf i] at a
  refine ⟨fun hp => ?_, fun hm => ?_⟩
  · cases hz : bt z i
    · cases ho : bt o i
      · exact absurd (a ⟨Or.inl hp, ho, hz⟩) (by decide)
      · exact absurd ⟨i, Or.inl ⟨hp, ho⟩⟩ h
    · rfl
  · cases ho : bt o i
    · cases hz : bt z i
      · exact absurd (a ⟨Or.inr hm, ho, hz⟩) (by decide)
      · exact absurd ⟨i, Or.inr ⟨hm, hz⟩⟩ h
    · rfl
theorem ks_fine {P M o z : Int32} (h0 : ¬ (P ||| M) &&& ((o ||| z) ^^^ (-1)) = 0) (h1 : ¬ ((P ||| M) &&& ((o ||| z) ^^^ (-1))) &&& (((P ||| M) &&& ((o ||| z) ^^^ (-1))) - 1) = 0) : ks_U P M o z := by
  obtain ⟨i, j, hij, hi, hj⟩ := ks_two h0 h1
  have a := (ks_frb P M o z i).mp hi
  have b := (ks_frb P M o z j).mp hj
  exact Or.inr ⟨i, j, hij, a.1, b.1, a.2, b.2⟩
theorem ks_F_no {P M o z : Int32} {a : Nat → Bool} (hF : ks_F P M o z) (hE : ks_E o z a) : ¬ ks_T P M a := by
  intro ⟨i, h⟩
  rcases h with ⟨hp, ha⟩ | ⟨hm, ha⟩
  · rw [(hE i).2 ((hF i).1 hp)] at ha; cases ha
  · rw [(hE i).1 ((hF i).2 hm)] at ha; cases ha
theorem ks_S_T {P M o z : Int32} {a : Nat → Bool} (hS : ks_S P M o z) (hE : ks_E o z a) : ks_T P M a := by
  obtain ⟨i, h⟩ := hS
  rcases h with ⟨hp, ho⟩ | ⟨hm, hz⟩
  · exact ⟨i, Or.inl ⟨hp, (hE i).1 ho⟩⟩
  · exact ⟨i, Or.inr ⟨hm, (hE i).2 hz⟩⟩
/-- why place pl j has its value -/
def ks_J (P M : Nat → Int32) (n : Nat) (pl : Nat → Nat) (r : Int32) (j : Nat) (o z : Int32) : Prop :=
  r = 0 ∨ ∃ c, c < n ∧ r = (P c ||| M c) ∧ ((bt (P c) (pl j) = true ∧ bt o (pl j) = true) ∨ (bt (M c) (pl j) = true ∧ bt z (pl j) = true)) ∧
    ∀ i, i ≠ pl j → (bt (P c) i = true → bt z i = true ∧ ∃ h, h < j ∧ pl h = i) ∧ (bt (M c) i = true → bt o i = true ∧ ∃ h, h < j ∧ pl h = i)
/-- the trail, by its places -/
def ks_Rp (N : Nat) (P M : Nat → Int32) (n : Nat) (B Rs : Nat → Int32) (k : Nat) (o z : Int32) (pl : Nat → Nat) : Prop :=
  (∀ j, j < k → pl j < N ∧ B j = ks_on (pl j)) ∧ (∀ i j, i < j → j < k → pl i ≠ pl j) ∧
  (∀ i, (bt o i = true ∨ bt z i = true) ↔ ∃ j, j < k ∧ pl j = i) ∧ (∀ i, bt o i = true → bt z i = false) ∧
  (∀ j, j < k → ks_J P M n pl (Rs j) j o z)
def ks_R (N : Nat) (P M : Nat → Int32) (n : Nat) (B Rs : Nat → Int32) (k : Nat) (o z : Int32) : Prop := ∃ pl : Nat → Nat, ks_Rp N P M n B Rs k o z pl
/-- a trail goes on from another -/
def ks_X (B Rs : Nat → Int32) (k : Nat) (o z : Int32) (B' Rs' : Nat → Int32) (k' : Nat) (o' z' : Int32) : Prop :=
  k ≤ k' ∧ (∀ j, j < k → B' j = B j ∧ Rs' j = Rs j) ∧ ∀ i, (bt o i = true → bt o' i = true) ∧ (bt z i = true → bt z' i = true)
theorem ks_X.rf {B Rs : Nat → Int32} {k : Nat} {o z : Int32} : ks_X B Rs k o z B Rs k o z := ⟨Nat.le_refl _, fun _ _ => ⟨rfl, rfl⟩, fun _ => ⟨id, id⟩⟩
theorem ks_X.tr {B Rs B1 Rs1 B2 Rs2 : Nat → Int32} {k k1 k2 : Nat} {o z o1 z1 o2 z2 : Int32} (h1 : ks_X B Rs k o z B1 Rs1 k1 o1 z1) (h2 : ks_X B1 Rs1 k1 o1 z1 B2 Rs2 k2 o2 z2) : ks_X B Rs k o z B2 Rs2 k2 o2 z2 :=
  ⟨Nat.le_trans h1.1 h2.1, fun j hj => ⟨((h2.2.1 j (Nat.lt_of_lt_of_le hj h1.1)).1).trans (h1.2.1 j hj).1, ((h2.2.1 j (Nat.lt_of_lt_of_le hj h1.1)).2).trans (h1.2.1 j hj).2⟩, fun i => ⟨fun h => (h2.2.2 i).1 ((h1.2.2 i).1 h), fun h => (h2.2.2 i).2 ((h1.2.2 i).2 h)⟩⟩
theorem ks_X.E {B Rs B1 Rs1 : Nat → Int32} {k k1 : Nat} {o z o1 z1 : Int32} (h : ks_X B Rs k o z B1 Rs1 k1 o1 z1) {a : Nat → Bool} (hE : ks_E o1 z1 a) : ks_E o z a :=
  fun i => ⟨fun q => (hE i).1 ((h.2.2 i).1 q), fun q => (hE i).2 ((h.2.2 i).2 q)⟩
theorem ks_R.le {N : Nat} {P M : Nat → Int32} {n : Nat} {B Rs : Nat → Int32} {k : Nat} {o z : Int32} (h : ks_R N P M n B Rs k o z) : k ≤ N := by
  obtain ⟨pl, h1, h2, -⟩ := h
  exact ks_php N k pl (fun j hj => (h1 j hj).1) h2
theorem ks_R.free {N : Nat} {P M : Nat → Int32} {n : Nat} {B Rs : Nat → Int32} {k : Nat} {o z : Int32} (h : ks_R N P M n B Rs k o z) {p : Nat} (hp : p < N) (hf : ks_fr o z p) : k + 1 ≤ N := by
  obtain ⟨pl, h1, h2, h3, -⟩ := h
  have hnp : ∀ j, j < k → pl j ≠ p := fun j hj e => by
    rcases (h3 p).mpr ⟨j, hj, e⟩ with q | q
    · rw [hf.1] at q; cases q
    · rw [hf.2] at q; cases q
  refine ks_php N (k + 1) (fun j => if j = k then p else pl j) (fun j hj => ?_) (fun i j hij hj => ?_)
  · show (if j = k then p else pl j) < N
    by_cases e : j = k
    · rw [if_pos e]; exact hp
    · rw [if_neg e]; exact (h1 j (by omega)).1
  · show (if i = k then p else pl i) ≠ (if j = k then p else pl j)
    rw [if_neg (show ¬ i = k by omega)]
    by_cases e : j = k
    · rw [if_pos e]; exact hnp i (by omega)
    · rw [if_neg e]; exact h2 i j hij (by omega)
theorem ks_R.mono {N : Nat} {P M P' M' : Nat → Int32} {n n' : Nat} {B Rs : Nat → Int32} {k : Nat} {o z : Int32} (h : ks_R N P M n B Rs k o z) (hn : n ≤ n') (hc : ∀ c, c < n → P' c = P c ∧ M' c = M c) : ks_R N P' M' n' B Rs k o z := by
  obtain ⟨pl, h1, h2, h3, h4, h5⟩ := h
  refine ⟨pl, h1, h2, h3, h4, fun j hj => ?_⟩
  rcases h5 j hj with q | ⟨c, q1, q2, q3, q4⟩
  · exact Or.inl q
  · refine Or.inr ⟨c, Nat.lt_of_lt_of_le q1 hn, ?_, ?_, ?_⟩
    · rw [(hc c q1).1, (hc c q1).2]; exact q2
    · rw [(hc c q1).1, (hc c q1).2]; exact q3
    · rw [(hc c q1).1, (hc c q1).2]; exact q4
theorem ks_R.dis {N : Nat} {P M : Nat → Int32} {n : Nat} {B Rs : Nat → Int32} {k : Nat} {o z : Int32} (h : ks_R N P M n B Rs k o z) : ∀ i, bt o i = true → bt z i = false := by
  obtain ⟨pl, h1, h2, h3, h4, h5⟩ := h; exact h4
theorem ks_R.lt {N : Nat} {P M : Nat → Int32} {n : Nat} {B Rs : Nat → Int32} {k : Nat} {o z : Int32} (h : ks_R N P M n B Rs k o z) : ∀ i, (bt o i = true ∨ bt z i = true) → i < N := by
  obtain ⟨pl, h1, h2, h3, h4, h5⟩ := h
  intro i hi
  obtain ⟨j, hj, e⟩ := (h3 i).mp hi
  rw [← e]; exact (h1 j hj).1
theorem ks_fr_of {o z : Int32} {p : Nat} (h : bt (o ||| z) p = false) : ks_fr o z p := by
  rw [b_or, Bool.or_eq_false_iff] at h; exact h
theorem ks_fr_ne {o z : Int32} {p i : Nat} (hf : ks_fr o z p) (h : bt o i = true ∨ bt z i = true) : p ≠ i := by
  intro e
  subst e
  rcases h with q | q
  · rw [hf.1] at q; cases q
  · rw [hf.2] at q; cases q
/-- a value more -/
theorem ks_R.assign {N : Nat} {P M : Nat → Int32} {n : Nat} {B Rs : Nat → Int32} {k : Nat} {o z : Int32} (h : ks_R N P M n B Rs k o z) (hN : N ≤ 16) {p : Nat} (hp : p < N) (hf : ks_fr o z p) (v : Bool) (r : Int32)
    (hr : r = 0 ∨ ∃ c, c < n ∧ r = (P c ||| M c) ∧ (if v = true then bt (P c) p = true else bt (M c) p = true) ∧ ∀ i, i ≠ p → (bt (P c) i = true → bt z i = true) ∧ (bt (M c) i = true → bt o i = true)) :
    ks_R N P M n (upd B k (ks_on p)) (upd Rs k r) (k + 1) (if v = true then o ||| ks_on p else o) (if v = true then z else z ||| ks_on p) := by
  obtain ⟨pl, h1, h2, h3, h4, h5⟩ := h
  have hp32 : p < 32 := by omega
  have hnp : ∀ j, j < k → pl j ≠ p := fun j hj e => by
    rcases (h3 p).mpr ⟨j, hj, e⟩ with q | q
    · rw [hf.1] at q; cases q
    · rw [hf.2] at q; cases q
  have ho : ∀ i, bt (if v = true then o ||| ks_on p else o) i = (bt o i || (v && decide (p = i))) := fun i => by
    cases v
    · simp
    · simp [b_or, ks_bon hp32]
  have hz : ∀ i, bt (if v = true then z else z ||| ks_on p) i = (bt z i || (!v && decide (p = i))) := fun i => by
    cases v
    · simp [b_or, ks_bon hp32]
    · simp
  refine ⟨fun j => if j = k then p else pl j, fun j hj => ?_, fun i j hij hj => ?_, fun i => ?_, fun i hi => ?_, fun j hj => ?_⟩
  · show (if j = k then p else pl j) < N ∧ (if j = k then ks_on p else B j) = ks_on (if j = k then p else pl j)
    by_cases e : j = k
    · rw [if_pos e, if_pos e]; exact ⟨hp, rfl⟩
    · rw [if_neg e, if_neg e]; exact h1 j (by omega)
  · show (if i = k then p else pl i) ≠ (if j = k then p else pl j)
    rw [if_neg (show ¬ i = k by omega)]
    by_cases e : j = k
    · rw [if_pos e]; exact hnp i (by omega)
    · rw [if_neg e]; exact h2 i j hij (by omega)
  · rw [ho, hz]
    constructor
    · intro q
      by_cases e : p = i
      · exact ⟨k, by omega, by show (if k = k then p else pl k) = i; rw [if_pos rfl]; exact e⟩
      · rw [decide_eq_false e, Bool.and_false, Bool.and_false, Bool.or_false, Bool.or_false] at q
        obtain ⟨j, hj, e2⟩ := (h3 i).mp q
        exact ⟨j, by omega, by show (if j = k then p else pl j) = i; rw [if_neg (by omega)]; exact e2⟩
    · intro ⟨j, hj, e⟩
      have e : (if j = k then p else pl j) = i := e
      by_cases e1 : j = k
      · rw [if_pos e1] at e
        rw [decide_eq_true e]
        cases v <;> simp
      · rw [if_neg e1] at e
        rcases (h3 i).mpr ⟨j, by omega, e⟩ with q | q
        · left; rw [q, Bool.true_or]
        · right; rw [q, Bool.true_or]
  · rw [ho] at hi
    rw [hz]
    by_cases e : p = i
    · subst e
      rw [hf.1, Bool.false_or, Bool.and_eq_true] at hi
      rw [hf.2, hi.1]; rfl
    · rw [decide_eq_false e, Bool.and_false, Bool.or_false] at hi
      rw [h4 i hi, decide_eq_false e, Bool.and_false]; rfl
  · show ks_J P M n (fun j => if j = k then p else pl j) (if j = k then r else Rs j) j _ _
    by_cases e : j = k
    · rw [if_pos e]
      rcases hr with q | ⟨c, q1, q2, q3, q4⟩
      · exact Or.inl q
      · refine Or.inr ⟨c, q1, q2, ?_, fun i hi => ?_⟩
        · show (bt (P c) (if j = k then p else pl j) = true ∧ bt _ (if j = k then p else pl j) = true) ∨ (bt (M c) (if j = k then p else pl j) = true ∧ bt _ (if j = k then p else pl j) = true)
          rw [if_pos e, ho, hz]
          cases v
          · right; exact ⟨by simpa using q3, by simp⟩
          · left; exact ⟨by simpa using q3, by simp⟩
        · have hi : i ≠ (if j = k then p else pl j) := hi
          rw [if_pos e] at hi
          have q5 := q4 i hi
          rw [ho, hz]
          refine ⟨fun a => ?_, fun a => ?_⟩
          · have b := q5.1 a
            obtain ⟨j2, hj2, e2⟩ := (h3 i).mp (Or.inr b)
            exact ⟨by rw [b, Bool.true_or], j2, by omega, by show (if j2 = k then p else pl j2) = i; rw [if_neg (by omega)]; exact e2⟩
          · have b := q5.2 a
            obtain ⟨j2, hj2, e2⟩ := (h3 i).mp (Or.inl b)
            exact ⟨by rw [b, Bool.true_or], j2, by omega, by show (if j2 = k then p else pl j2) = i; rw [if_neg (by omega)]; exact e2⟩
    · rw [if_neg e]
      rcases h5 j (by omega) with q | ⟨c, q1, q2, q3, q4⟩
      · exact Or.inl q
      · refine Or.inr ⟨c, q1, q2, ?_, fun i hi => ?_⟩
        · show (bt (P c) (if j = k then p else pl j) = true ∧ bt _ (if j = k then p else pl j) = true) ∨ (bt (M c) (if j = k then p else pl j) = true ∧ bt _ (if j = k then p else pl j) = true)
          rw [if_neg e, ho, hz]
          rcases q3 with ⟨a, b⟩ | ⟨a, b⟩
          · left; exact ⟨a, by rw [b, Bool.true_or]⟩
          · right; exact ⟨a, by rw [b, Bool.true_or]⟩
        · have hi : i ≠ (if j = k then p else pl j) := hi
          rw [if_neg e] at hi
          have q5 := q4 i hi
          rw [ho, hz]
          refine ⟨fun a => ?_, fun a => ?_⟩
          · obtain ⟨b, j2, hj2, e2⟩ := q5.1 a
            exact ⟨by rw [b, Bool.true_or], j2, hj2, by show (if j2 = k then p else pl j2) = i; rw [if_neg (by omega)]; exact e2⟩
          · obtain ⟨b, j2, hj2, e2⟩ := q5.2 a
            exact ⟨by rw [b, Bool.true_or], j2, hj2, by show (if j2 = k then p else pl j2) = i; rw [if_neg (by omega)]; exact e2⟩
theorem ks_X.assign {B Rs : Nat → Int32} {k : Nat} {o z : Int32} (f r : Int32) (v : Bool) : ks_X B Rs k o z (upd B k f) (upd Rs k r) (k + 1) (if v = true then o ||| f else o) (if v = true then z else z ||| f) := by
  refine ⟨by omega, fun j hj => ⟨if_neg (by omega), if_neg (by omega)⟩, fun i => ⟨fun h => ?_, fun h => ?_⟩⟩
  · cases v
    · exact h
    · show bt (o ||| f) i = true
      rw [b_or, h, Bool.true_or]
  · cases v
    · show bt (z ||| f) i = true
      rw [b_or, h, Bool.true_or]
    · exact h
/-- a unit: the trail goes on by its one free place; the value is forced -/
theorem ks_R.unit {N : Nat} {P M : Nat → Int32} {n : Nat} {B Rs : Nat → Int32} {k : Nat} {o z f : Int32} (h : ks_R N P M n B Rs k o z) (hN : N ≤ 16) {c : Nat} (hc : c < n) (hd : ∀ i, bt (P c) i = true → bt (M c) i = false) (hl : ∀ i, ks_mem (P c) (M c) i → i < N)
    (hs : ¬ ks_S (P c) (M c) o z) (hf : f = (P c ||| M c) &&& ((o ||| z) ^^^ (-1))) (h0 : ¬ f = 0) (h1 : f &&& (f - 1) = 0) (v : Bool) (hv : v = true ↔ ¬ P c &&& f = 0) :
    k + 1 ≤ N ∧ ks_R N P M n (upd B k f) (upd Rs k (P c ||| M c)) (k + 1) (if v = true then o ||| f else o) (if v = true then z else z ||| f) ∧
    ∀ a, ks_E o z a → ks_T (P c) (M c) a → ks_E (if v = true then o ||| f else o) (if v = true then z else z ||| f) a := by
  obtain ⟨p, hp, ep⟩ := ks_single h0 h1
  have hb : ∀ i, bt f i = true ↔ ks_mem (P c) (M c) i ∧ ks_fr o z i := fun i => by rw [hf]; exact ks_frb _ _ _ _ _
  have hpf : bt f p = true := by rw [ep]; exact ks_bon_self hp
  obtain ⟨hm, hfr⟩ := (hb p).mp hpf
  have hother : ∀ i, i ≠ p → (bt (P c) i = true → bt z i = true) ∧ (bt (M c) i = true → bt o i = true) := by
    intro i hi
    have hnf : ¬ bt f i = true := by rw [ep, ks_bon_iff hp]; exact fun e => hi e.symm
    refine ⟨fun a => ?_, fun a => ?_⟩
    · cases hz : bt z i
      · cases ho : bt o i
        · exact absurd ((hb i).mpr ⟨Or.inl a, ho, hz⟩) hnf
        · exact absurd ⟨i, Or.inl ⟨a, ho⟩⟩ hs
      · rfl
    · cases ho : bt o i
      · cases hz : bt z i
        · exact absurd ((hb i).mpr ⟨Or.inr a, ho, hz⟩) hnf
        · exact absurd ⟨i, Or.inr ⟨a, hz⟩⟩ hs
      · rfl
  have hvp : v = true ↔ bt (P c) p = true := by
    rw [hv, ks_nz]
    constructor
    · intro ⟨i, hi⟩
      rw [b_and, Bool.and_eq_true, ep, ks_bon_iff hp] at hi
      rw [hi.2]; exact hi.1
    · intro q
      exact ⟨p, by rw [b_and, q, hpf]; rfl⟩
  refine ⟨h.free (hl p hm) hfr, ?_, fun a hE hT => ?_⟩
  · rw [ep]
    refine h.assign hN (hl p hm) hfr v _ (Or.inr ⟨c, hc, rfl, ?_, hother⟩)
    cases v
    · rcases hm with q | q
      · exact absurd (hvp.mpr q) (by decide)
      · simpa using q
    · simpa using hvp.mp rfl
  · have hap : a p = v := by
      obtain ⟨i, hi⟩ := hT
      by_cases e : i = p
      · subst e
        rcases hi with ⟨a1, a2⟩ | ⟨a1, a2⟩
        · rw [a2, hvp.mpr a1]
        · cases v
          · exact a2
          · rw [hd i (hvp.mp rfl)] at a1; cases a1
      · rcases hi with ⟨a1, a2⟩ | ⟨a1, a2⟩
        · rw [(hE i).2 ((hother i e).1 a1)] at a2; cases a2
        · rw [(hE i).1 ((hother i e).2 a1)] at a2; cases a2
    intro i
    cases v
    · refine ⟨(hE i).1, fun q => ?_⟩
      have q : bt (z ||| f) i = true := q
      rw [b_or, Bool.or_eq_true] at q
      rcases q with q | q
      · exact (hE i).2 q
      · rw [ep, ks_bon_iff hp] at q; rw [← q]; exact hap
    · refine ⟨fun q => ?_, (hE i).2⟩
      have q : bt (o ||| f) i = true := q
      rw [b_or, Bool.or_eq_true] at q
      rcases q with q | q
      · exact (hE i).1 q
      · rw [ep, ks_bon_iff hp] at q; rw [← q]; exact hap
/-- the trail cut back to where it was -/
theorem ks_R.back {N : Nat} {P M : Nat → Int32} {n : Nat} {B Rs B1 Rs1 : Nat → Int32} {k k1 : Nat} {o z o1 z1 o2 z2 : Int32} (h : ks_R N P M n B Rs k o z) (hN : N ≤ 16) {P1 M1 : Nat → Int32} {n1 : Nat} (h1 : ks_R N P1 M1 n1 B1 Rs1 k1 o1 z1) (hX : ks_X B Rs k o z B1 Rs1 k1 o1 z1)
    (ho : ∀ i, bt o2 i = true ↔ (bt o1 i = true ∧ ∀ j, k ≤ j → j < k1 → bt (B1 j) i = false)) (hz : ∀ i, bt z2 i = true ↔ (bt z1 i = true ∧ ∀ j, k ≤ j → j < k1 → bt (B1 j) i = false)) : o2 = o ∧ z2 = z ∧ ks_R N P M n B1 Rs1 k o z := by
  obtain ⟨pl, a1, a2, a3, a4, a5⟩ := h
  obtain ⟨pl1, b1, b2, b3, b4, b5⟩ := h1
  have hpl : ∀ j, j < k → pl1 j = pl j := fun j hj => by
    have e := (hX.2.1 j hj).1
    have h1 := (b1 j (Nat.lt_of_lt_of_le hj hX.1))
    have h2 := a1 j hj
    rw [h1.2, h2.2] at e
    exact ks_on_inj (by omega) (by omega) e
  -- a place is past the cut, or the old trail's
  have hcut : ∀ i, (bt o i = true ∨ bt z i = true) → ∀ j, k ≤ j → j < k1 → bt (B1 j) i = false := fun i hi j hj hj1 => by
    obtain ⟨j0, hj0, e0⟩ := (a3 i).mp hi
    rw [(b1 j hj1).2]
    refine ks_bon_ne (by have := (b1 j hj1).1; omega) ?_
    intro e
    exact b2 j0 j (by omega) hj1 (by rw [hpl j0 hj0, e0, e])
  have hold : ∀ i, (bt o1 i = true ∨ bt z1 i = true) → (∀ j, k ≤ j → j < k1 → bt (B1 j) i = false) → (bt o i = true ∨ bt z i = true) := fun i hi hc => by
    obtain ⟨j0, hj0, e0⟩ := (b3 i).mp hi
    rcases Nat.lt_or_ge j0 k with q | q
    · exact (a3 i).mpr ⟨j0, q, by rw [← hpl j0 q]; exact e0⟩
    · have := hc j0 q hj0
      rw [(b1 j0 hj0).2, e0, ks_bon_self (by have := (b1 j0 hj0).1; omega)] at this
      cases this
  have eo : o2 = o := b_ext (fun i _ => by
    cases hb : bt o i
    · cases hb2 : bt o2 i
      · rfl
      · obtain ⟨q1, q2⟩ := (ho i).mp hb2
        rcases hold i (Or.inl q1) q2 with q | q
        · rw [hb] at q; cases q
        · have := (hX.2.2 i).2 q
          rw [b4 i q1] at this; cases this
    · exact (ho i).mpr ⟨(hX.2.2 i).1 hb, hcut i (Or.inl hb)⟩)
  have ez : z2 = z := b_ext (fun i _ => by
    cases hb : bt z i
    · cases hb2 : bt z2 i
      · rfl
      · obtain ⟨q1, q2⟩ := (hz i).mp hb2
        rcases hold i (Or.inr q1) q2 with q | q
        · have := b4 i ((hX.2.2 i).1 q)
          rw [q1] at this; cases this
        · rw [hb] at q; cases q
    · exact (hz i).mpr ⟨(hX.2.2 i).2 hb, hcut i (Or.inr hb)⟩)
  refine ⟨eo, ez, pl, fun j hj => ?_, a2, a3, a4, fun j hj => ?_⟩
  · rw [(hX.2.1 j hj).1]; exact a1 j hj
  · rw [(hX.2.1 j hj).2]; exact a5 j hj
end
section
/-! what a lesson rests on; the row of clauses; the least model -/
/-- positions from lo on are done: what is involved (V) has its reasons in V, or is a root (r) -/
def ks_C (B Rs : Nat → Int32) (k lo : Nat) (cf V r : Int32) : Prop :=
  (∀ i, bt cf i = true → bt V i = true) ∧
  (∀ j, lo ≤ j → j < k → ¬ V &&& B j = 0 → (Rs j = 0 → ∀ i, bt (B j) i = true → bt r i = true) ∧ (¬ Rs j = 0 → ∀ i, bt (Rs j) i = true → bt V i = true)) ∧
  ∀ i, bt r i = true → ∃ j, j < k ∧ bt (B j) i = true
theorem ks_C.init (B Rs : Nat → Int32) (k : Nat) (cf : Int32) : ks_C B Rs k k cf cf 0 :=
  ⟨fun _ h => h, fun j h1 h2 => absurd h1 (by omega), fun i h => by rw [b_0] at h; cases h⟩
theorem ks_C.skip {B Rs : Nat → Int32} {k lo : Nat} {cf V r : Int32} (h : ks_C B Rs k (lo + 1) cf V r) (e : V &&& B lo = 0) : ks_C B Rs k lo cf V r := by
  refine ⟨h.1, fun j h1 h2 h3 => ?_, h.2.2⟩
  by_cases q : j = lo
  · subst q; exact absurd e h3
  · exact h.2.1 j (by omega) h2 h3
theorem ks_C.root {B Rs : Nat → Int32} {k lo : Nat} {cf V r : Int32} (h : ks_C B Rs k (lo + 1) cf V r) (hlo : lo < k) (e : Rs lo = 0) : ks_C B Rs k lo cf V (r ||| B lo) := by
  refine ⟨h.1, fun j h1 h2 h3 => ?_, fun i hi => ?_⟩
  · by_cases q : j = lo
    · subst q
      exact ⟨fun _ i hi => by rw [b_or, hi, Bool.or_true], fun q => absurd e q⟩
    · have a := h.2.1 j (by omega) h2 h3
      exact ⟨fun x i hi => by rw [b_or, a.1 x i hi, Bool.true_or], a.2⟩
  · rw [b_or, Bool.or_eq_true] at hi
    rcases hi with q | q
    · exact h.2.2 i q
    · exact ⟨lo, hlo, q⟩
theorem ks_C.more {N : Nat} {P M : Nat → Int32} {n : Nat} {B Rs : Nat → Int32} {k lo : Nat} {o z cf V r : Int32} (hR : ks_R N P M n B Rs k o z) (hN : N ≤ 16) (h : ks_C B Rs k (lo + 1) cf V r) (hlo : lo < k) (e : ¬ Rs lo = 0) : ks_C B Rs k lo cf (V ||| Rs lo) r := by
  obtain ⟨pl, h1, h2, h3, h4, h5⟩ := hR
  refine ⟨fun i hi => by rw [b_or, h.1 i hi, Bool.true_or], fun j q1 q2 q3 => ?_, h.2.2⟩
  by_cases q : j = lo
  · subst q
    exact ⟨fun x => absurd x e, fun _ i hi => by rw [b_or, hi, Bool.or_true]⟩
  · have hj : ¬ V &&& B j = 0 := by
      obtain ⟨i, hi⟩ := ks_nz.mp q3
      rw [b_and, b_or, Bool.and_eq_true, Bool.or_eq_true] at hi
      obtain ⟨hi1, hi2⟩ := hi
      have hp := h1 j q2
      have ei : pl j = i := by rw [hp.2, ks_bon_iff (by omega)] at hi2; exact hi2
      rcases hi1 with x | x
      · exact ks_nz.mpr ⟨i, by rw [b_and, x, hi2]; rfl⟩
      · exfalso
        rcases h5 lo hlo with y | ⟨c, c1, c2, c3, c4⟩
        · exact e y
        · rw [c2, ks_memb] at x
          by_cases y : i = pl lo
          · exact h2 lo j (by omega) q2 (by rw [ei, y])
          · have w : ∃ h, h < lo ∧ pl h = i := by
              rcases x with x | x
              · exact ((c4 i y).1 x).2
              · exact ((c4 i y).2 x).2
            obtain ⟨j2, w1, w2⟩ := w
            exact h2 j2 j (by omega) q2 (by rw [w2, ei])
    have a := h.2.1 j (by omega) q2 hj
    exact ⟨a.1, fun x i hi => by rw [b_or, a.2 x i hi, Bool.true_or]⟩
/-- from the roots alone the units lead to the conflict again -/
theorem ks_lesson {N : Nat} {P M : Nat → Int32} {n : Nat} {B Rs : Nat → Int32} {k : Nat} {o z V r : Int32} (hR : ks_R N P M n B Rs k o z) (hN : N ≤ 16) {c : Nat} (hc : c < n) (hdis : ∀ c, c < n → ∀ i, bt (P c) i = true → bt (M c) i = false) (hC : ks_C B Rs k 0 (P c ||| M c) V r) (hF : ks_F (P c) (M c) o z) {o2 z2 : Int32} (hd2 : ∀ i, bt o2 i = true → bt z2 i = false) (hfix : ∀ c, c < n → ks_U (P c) (M c) o2 z2)
    (ho : ∀ i, bt (r &&& o) i = true → bt o2 i = true) (hz : ∀ i, bt (r &&& z) i = true → bt z2 i = true) : False := by
  obtain ⟨pl, h1, h2, h3, h4, h5⟩ := hR
  have key : ∀ m j, j < m → j < k → bt V (pl j) = true → (bt o (pl j) = true → bt o2 (pl j) = true) ∧ (bt z (pl j) = true → bt z2 (pl j) = true) := by
    intro m
    induction m with
    | zero => intro j hj; exact absurd hj (by omega)
    | succ m ih =>
      intro j hj hjk hV
      have hp := h1 j hjk
      have hbj : bt (B j) (pl j) = true := by rw [hp.2]; exact ks_bon_self (by omega)
      have hcl := hC.2.1 j (by omega) hjk (ks_nz.mpr ⟨pl j, by rw [b_and, hV, hbj]; rfl⟩)
      rcases h5 j hjk with q | ⟨d, d1, d2, d3, d4⟩
      · have hr := hcl.1 q (pl j) hbj
        exact ⟨fun x => ho _ (by rw [b_and, hr, x]; rfl), fun x => hz _ (by rw [b_and, hr, x]; rfl)⟩
      · by_cases q : Rs j = 0
        · have hr := hcl.1 q (pl j) hbj
          exact ⟨fun x => ho _ (by rw [b_and, hr, x]; rfl), fun x => hz _ (by rw [b_and, hr, x]; rfl)⟩
        · have hsub := hcl.2 q
          rw [d2] at hsub
          have hoth : ∀ i, i ≠ pl j → (bt (P d) i = true → bt z2 i = true) ∧ (bt (M d) i = true → bt o2 i = true) := by
            intro i hi
            refine ⟨fun x => ?_, fun x => ?_⟩
            · obtain ⟨y, j2, y1, y2⟩ := (d4 i hi).1 x
              have := ih j2 (by omega) (by omega) (by rw [y2]; exact hsub i ((ks_memb _ _ _).mpr (Or.inl x)))
              rw [y2] at this
              exact this.2 y
            · obtain ⟨y, j2, y1, y2⟩ := (d4 i hi).2 x
              have := ih j2 (by omega) (by omega) (by rw [y2]; exact hsub i ((ks_memb _ _ _).mpr (Or.inr x)))
              rw [y2] at this
              exact this.1 y
          have hnf : ∀ i, i ≠ pl j → ks_mem (P d) (M d) i → ¬ ks_fr o2 z2 i := by
            intro i hi hm hf
            rcases hm with x | x
            · have := (hoth i hi).1 x; rw [hf.2] at this; cases this
            · have := (hoth i hi).2 x; rw [hf.1] at this; cases this
          rcases hfix d d1 with ⟨i, hi⟩ | ⟨i1, i2, w1, w2, w3, w4, w5⟩
          · by_cases ei : i = pl j
            · subst ei
              rcases d3 with ⟨u1, u2⟩ | ⟨u1, u2⟩
              · rcases hi with ⟨_, y⟩ | ⟨y, _⟩
                · exact ⟨fun _ => y, fun x => by rw [h4 _ u2] at x; cases x⟩
                · rw [hdis d d1 _ u1] at y; cases y
              · rcases hi with ⟨y, _⟩ | ⟨_, y⟩
                · rw [hdis d d1 _ y] at u1; cases u1
                · exact ⟨fun x => (by rw [h4 _ x] at u2; cases u2), fun _ => y⟩
            · exfalso
              rcases hi with ⟨x, y⟩ | ⟨x, y⟩
              · have := (hoth i ei).1 x; rw [hd2 i y] at this; cases this
              · have := (hoth i ei).2 x; rw [hd2 i this] at y; cases y
          · exfalso
            by_cases e1 : i1 = pl j
            · exact hnf i2 (fun e => w1 (by rw [e1, e])) w3 w5
            · exact hnf i1 e1 w2 w4
  have hoth : ∀ i, (bt (P c) i = true → bt z2 i = true) ∧ (bt (M c) i = true → bt o2 i = true) := by
    intro i
    refine ⟨fun x => ?_, fun x => ?_⟩
    · have y := (hF i).1 x
      obtain ⟨j, y1, y2⟩ := (h3 i).mp (Or.inr y)
      have := key (j + 1) j (by omega) y1 (by rw [y2]; exact hC.1 i ((ks_memb _ _ _).mpr (Or.inl x)))
      rw [y2] at this
      exact this.2 y
    · have y := (hF i).2 x
      obtain ⟨j, y1, y2⟩ := (h3 i).mp (Or.inl y)
      have := key (j + 1) j (by omega) y1 (by rw [y2]; exact hC.1 i ((ks_memb _ _ _).mpr (Or.inr x)))
      rw [y2] at this
      exact this.1 y
  rcases hfix c hc with ⟨i, hi⟩ | ⟨i1, i2, w1, w2, w3, w4, w5⟩
  · rcases hi with ⟨x, y⟩ | ⟨x, y⟩
    · have := (hoth i).1 x; rw [hd2 i y] at this; cases this
    · have := (hoth i).2 x; rw [hd2 i this] at y; cases y
  · rcases w2 with x | x
    · have := (hoth i1).1 x; rw [w4.2] at this; cases this
    · have := (hoth i1).2 x; rw [w4.1] at this; cases this
/-- a clause that no assignment with the roots' values can leave false -/
theorem ks_lesson_T {o z : Int32} {a : Nat → Bool} (h : ¬ ks_E o z a) : ks_T z o a := by
  apply Classical.byContradiction
  intro q
  apply h
  intro i
  refine ⟨fun x => ?_, fun x => ?_⟩
  · cases ha : a i
    · exact absurd ⟨i, Or.inr ⟨x, ha⟩⟩ q
    · rfl
  · cases ha : a i
    · rfl
    · exact absurd ⟨i, Or.inl ⟨x, ha⟩⟩ q
/-! the row of clauses: g given ones, lessons behind them -/
def ks_ok (N : Nat) (P M : Int32) : Prop := (∀ i, bt P i = true → bt M i = false) ∧ ∀ i, ks_mem P M i → i < N
def ks_W (N : Nat) (P M : Nat → Int32) (g n : Nat) : Prop := g ≤ n ∧ n ≤ g + 64 ∧ (∀ c, c < n → ks_ok N (P c) (M c)) ∧ ∀ c, c < n → ∀ a, ks_M P M g a → ks_T (P c) (M c) a
theorem ks_W.all {N : Nat} {P M : Nat → Int32} {g n : Nat} (h : ks_W N P M g n) {a : Nat → Bool} : ks_M P M g a ↔ ks_M P M n a :=
  ⟨fun q c hc => h.2.2.2 c hc a q, fun q c hc => q c (Nat.lt_of_lt_of_le hc h.1)⟩
theorem ks_Mupd {P M : Nat → Int32} {g n : Nat} (hg : g ≤ n) (p m : Int32) {a : Nat → Bool} : ks_M (upd P n p) (upd M n m) g a ↔ ks_M P M g a := by
  unfold ks_M
  constructor
  · intro q c hc
    have := q c hc
    rw [pk_un (by omega), pk_un (by omega)] at this
    exact this
  · intro q c hc
    rw [pk_un (by omega), pk_un (by omega)]
    exact q c hc
theorem ks_W.lesson {N : Nat} {P M : Nat → Int32} {g n : Nat} {p m : Int32} (h : ks_W N P M g n) (hn : n < g + 64) (hk : ks_ok N p m) (hT : ∀ a, ks_M P M g a → ks_T p m a) : ks_W N (upd P n p) (upd M n m) g (n + 1) := by
  refine ⟨by have := h.1; omega, by omega, fun c hc => ?_, fun c hc a ha => ?_⟩
  · by_cases e : c = n
    · subst e; rw [pk_us, pk_us]; exact hk
    · rw [pk_un e, pk_un e]; exact h.2.2.1 c (by omega)
  · have hb := (ks_Mupd h.1 p m).mp ha
    by_cases e : c = n
    · rw [e, pk_us, pk_us]; exact hT a hb
    · rw [pk_un e, pk_un e]; exact h.2.2.2 c (by omega) a hb
theorem ks_W.forget {N : Nat} {P M : Nat → Int32} {g n : Nat} (h : ks_W N P M g n) : ks_W N P M g g :=
  ⟨Nat.le_refl g, by omega, fun c hc => h.2.2.1 c (Nat.lt_of_lt_of_le hc h.1), fun c hc a ha => ha c hc⟩
theorem ks_W.clear (N : Nat) (P M : Nat → Int32) : ks_W N P M 0 0 :=
  ⟨Nat.le_refl 0, by omega, fun c hc => absurd hc (by omega), fun c hc => absurd hc (by omega)⟩
theorem ks_M.give {P M : Nat → Int32} {g n : Nat} (hg : g ≤ n) (p m x y : Int32) {a : Nat → Bool} : ks_M (upd (upd P n x) g p) (upd (upd M n y) g m) (g + 1) a ↔ ks_M P M g a ∧ ks_T p m a := by
  constructor
  · intro q
    refine ⟨fun c hc => ?_, ?_⟩
    · have := q c (by omega)
      rw [pk_un (by omega), pk_un (by omega), pk_un (by omega), pk_un (by omega)] at this
      exact this
    · have := q g (by omega)
      rw [pk_us, pk_us] at this
      exact this
  · intro ⟨q1, q2⟩ c hc
    by_cases e : c = g
    · subst e; rw [pk_us, pk_us]; exact q2
    · rw [pk_un e, pk_un e, pk_un (by omega), pk_un (by omega)]; exact q1 c (by omega)
theorem ks_W.give {N : Nat} {P M : Nat → Int32} {g n : Nat} {p m : Int32} (h : ks_W N P M g n) (hk : ks_ok N p m) : ks_W N (upd (upd P n (P g)) g p) (upd (upd M n (M g)) g m) (g + 1) (n + 1) := by
  refine ⟨by have := h.1; omega, by have := h.2.1; omega, fun c hc => ?_, fun c hc a ha => ?_⟩
  · by_cases e : c = g
    · subst e; rw [pk_us, pk_us]; exact hk
    · rw [pk_un e, pk_un e]
      by_cases e2 : c = n
      · subst e2; rw [pk_us, pk_us]; exact h.2.2.1 g (by have := h.1; omega)
      · rw [pk_un e2, pk_un e2]; exact h.2.2.1 c (by omega)
  · obtain ⟨h1, h2⟩ := (ks_M.give h.1 p m (P g) (M g)).mp ha
    by_cases e : c = g
    · subst e; rw [pk_us, pk_us]; exact h2
    · rw [pk_un e, pk_un e]
      by_cases e2 : c = n
      · subst e2; rw [pk_us, pk_us]; exact h.2.2.2 g (by have := h.1; omega) a h1
      · rw [pk_un e2, pk_un e2]; exact h.2.2.2 c (by omega) a h1
/-! the least one -/
def ks_L (N : Nat) (F : (Nat → Bool) → Prop) (r : Int32) : Prop := (r = -1 ∧ ∀ v, v < 2 ^ N → ¬ F v.testBit) ∨ ∃ v, v < 2 ^ N ∧ r = nI v ∧ F v.testBit ∧ ∀ w, w < v → ¬ F w.testBit
theorem ks_L.congr {N : Nat} {F G : (Nat → Bool) → Prop} {r : Int32} (h : ks_L N F r) (hc : ∀ v, v < 2 ^ N → (F v.testBit ↔ G v.testBit)) : ks_L N G r := by
  rcases h with ⟨e, q⟩ | ⟨v, h1, h2, h3, h4⟩
  · exact Or.inl ⟨e, fun v hv x => q v hv ((hc v hv).mpr x)⟩
  · exact Or.inr ⟨v, h1, h2, (hc v h1).mp h3, fun w hw x => h4 w hw ((hc w (by omega)).mpr x)⟩
theorem ks_pow {N v : Nat} (hN : N ≤ 16) (h : v < 2 ^ N) : v < 65536 := Nat.lt_of_lt_of_le h (Nat.pow_le_pow_right (by decide) hN)
theorem ks_nIm {v : Nat} (h : v < 65536) : ¬ nI v = -1 := by
  intro e
  have a := nI_pos' (n := v) (by omega)
  rw [e] at a
  exact absurd a (by decide)
theorem ks_L.uniq {N : Nat} {F : (Nat → Bool) → Prop} {r s : Int32} (h : ks_L N F r) (h' : ks_L N F s) : r = s := by
  rcases h with ⟨e, q⟩ | ⟨v, h1, h2, h3, h4⟩ <;> rcases h' with ⟨e', q'⟩ | ⟨v', h1', h2', h3', h4'⟩
  · rw [e, e']
  · exact absurd h3' (q v' h1')
  · exact absurd h3 (q' v h1)
  · rcases Nat.lt_trichotomy v v' with x | x | x
    · exact absurd h3 (h4' v x)
    · rw [h2, h2', x]
    · exact absurd h3' (h4 v' x)
/-- a model under the given clauses and the values o, z -/
def ks_Q (P M : Nat → Int32) (g : Nat) (o z : Int32) (a : Nat → Bool) : Prop := ks_E o z a ∧ ks_M P M g a
theorem ks_L.full {N : Nat} {P M : Nat → Int32} {g n : Nat} {B Rs : Nat → Int32} {k : Nat} {o z : Int32} (hN : N ≤ 16) (hR : ks_R N P M n B Rs k o z) (hW : ks_W N P M g n) (hall : ∀ p, p < N → ¬ ks_fr o z p) (hfix : ∀ c, c < n → ks_U (P c) (M c) o z) : ks_L N (ks_Q P M g o z) o := by
  obtain ⟨v, h1, h2, h3⟩ := ks_num hN (fun i hi => hR.lt i (Or.inl hi))
  have hE : ks_E o z v.testBit := fun i => ⟨fun q => by rw [h3]; exact q, fun q => by
    rw [h3]
    cases ho : bt o i
    · rfl
    · rw [hR.dis i ho] at q; cases q⟩
  refine Or.inr ⟨v, h1, h2, ⟨hE, hW.all.mpr (fun c hc => ?_)⟩, fun w hw hq => ?_⟩
  · rcases hfix c hc with q | ⟨i, j, w1, w2, w3, w4, w5⟩
    · exact ks_S_T q hE
    · exact absurd w4 (hall i ((hW.2.2.1 c hc).2 i w2))
  · have : w = v := Nat.eq_of_testBit_eq (fun i => by
      rcases Nat.lt_or_ge i N with x | x
      · cases ho : bt o i
        · cases hz : bt z i
          · exact absurd ⟨ho, hz⟩ (hall i x)
          · rw [(hq.1 i).2 hz, h3, ho]
        · rw [(hq.1 i).1 ho, h3, ho]
      · have a : v < 2 ^ i := Nat.lt_of_lt_of_le h1 (Nat.pow_le_pow_right (by decide) x)
        rw [Nat.testBit_lt_two_pow a, Nat.testBit_lt_two_pow (Nat.lt_trans hw a)])
    omega
theorem ks_E.low {o z : Int32} {p : Nat} (hp : p < 32) {a : Nat → Bool} : ks_E o (z ||| ks_on p) a ↔ ks_E o z a ∧ a p = false := by
  constructor
  · intro h
    exact ⟨fun i => ⟨(h i).1, fun q => (h i).2 (by rw [b_or, q, Bool.true_or])⟩, (h p).2 (by rw [b_or, ks_bon_self hp, Bool.or_true])⟩
  · intro ⟨h, e⟩ i
    refine ⟨(h i).1, fun q => ?_⟩
    rw [b_or, Bool.or_eq_true] at q
    rcases q with q | q
    · exact (h i).2 q
    · rw [ks_bon_iff hp] at q; rw [← q]; exact e
theorem ks_E.high {o z : Int32} {p : Nat} (hp : p < 32) {a : Nat → Bool} : ks_E (o ||| ks_on p) z a ↔ ks_E o z a ∧ a p = true := by
  constructor
  · intro h
    exact ⟨fun i => ⟨fun q => (h i).1 (by rw [b_or, q, Bool.true_or]), (h i).2⟩, (h p).1 (by rw [b_or, ks_bon_self hp, Bool.or_true])⟩
  · intro ⟨h, e⟩ i
    refine ⟨fun q => ?_, (h i).2⟩
    rw [b_or, Bool.or_eq_true] at q
    rcases q with q | q
    · exact (h i).1 q
    · rw [ks_bon_iff hp] at q; rw [← q]; exact e
/-- a model with the first free place 0 is before all with 1 -/
theorem ks_L.low {N : Nat} {P M : Nat → Int32} {g : Nat} {o z r : Int32} {p : Nat} (hN : N ≤ 16) (hp : p < N) (hup : ∀ q, p < q → q < N → ¬ ks_fr o z q) (hr : ¬ r = -1) (h : ks_L N (ks_Q P M g o (z ||| ks_on p)) r) : ks_L N (ks_Q P M g o z) r := by
  rcases h with ⟨e, q⟩ | ⟨v, h1, h2, ⟨h3, h3'⟩, h4⟩
  · exact absurd e hr
  · rw [ks_E.low (by omega)] at h3
    refine Or.inr ⟨v, h1, h2, ⟨h3.1, h3'⟩, fun w hw hq => ?_⟩
    cases hb : w.testBit p
    · exact h4 w hw ⟨(ks_E.low (by omega)).mpr ⟨hq.1, hb⟩, hq.2⟩
    · have := ks_tlt h3.2 hb (fun i hi => by
        rcases Nat.lt_or_ge i N with x | x
        · cases ho : bt o i
          · cases hz : bt z i
            · exact absurd ⟨ho, hz⟩ (hup i hi x)
            · rw [(hq.1 i).2 hz, (h3.1 i).2 hz]
          · rw [(hq.1 i).1 ho, (h3.1 i).1 ho]
        · have a : v < 2 ^ i := Nat.lt_of_lt_of_le h1 (Nat.pow_le_pow_right (by decide) x)
          rw [Nat.testBit_lt_two_pow a, Nat.testBit_lt_two_pow (Nat.lt_trans hw a)])
      omega
theorem ks_L.nolow {N : Nat} {P M : Nat → Int32} {g : Nat} {o z r : Int32} {p : Nat} (hN : N ≤ 16) (hp : p < N) (hr : r = -1) (h : ks_L N (ks_Q P M g o (z ||| ks_on p)) r) : ∀ v, v < 2 ^ N → ks_Q P M g o z v.testBit → v.testBit p = true := by
  intro v hv hq
  rcases h with ⟨e, q⟩ | ⟨w, h1, h2, h3, h4⟩
  · cases hb : v.testBit p
    · exact absurd ⟨(ks_E.low (by omega)).mpr ⟨hq.1, hb⟩, hq.2⟩ (q v hv)
    · rfl
  · exact absurd (h2.symm.trans hr) (ks_nIm (ks_pow hN h1))
theorem ks_L.high {N : Nat} {P M : Nat → Int32} {g : Nat} {o z r : Int32} {p : Nat} (hN : N ≤ 16) (hp : p < N) (hl : ∀ v, v < 2 ^ N → ks_Q P M g o z v.testBit → v.testBit p = true) (h : ks_L N (ks_Q P M g (o ||| ks_on p) z) r) : ks_L N (ks_Q P M g o z) r :=
  h.congr (fun v hv => ⟨fun q => ⟨((ks_E.high (by omega)).mp q.1).1, q.2⟩, fun q => ⟨(ks_E.high (by omega)).mpr ⟨q.1, hl v hv q⟩, q.2⟩⟩)
end
section
/-! what single methods need -/
theorem ks_tst {x : Int32} {i : Nat} (hi : i < 32) : x &&& ks_on i = 0 ↔ bt x i = false := by
  constructor
  · intro h
    have a := ks_z.mp h i
    rw [b_and, ks_bon_self hi, Bool.and_true] at a
    exact a
  · intro h
    refine ks_z.mpr (fun j => ?_)
    rw [b_and, ks_bon hi]
    by_cases e : i = j
    · subst e; rw [h, Bool.false_and]
    · rw [decide_eq_false e, Bool.and_false]
theorem ks_tst1 {x : Int32} {i : Nat} (hi : i < 32) : ¬ x &&& ks_on i = 0 ↔ bt x i = true := by
  rw [ks_tst hi]; cases bt x i <;> simp
/-- of the wanted ones those under i are there -/
def ks_I (w : Int32) (i : Nat) (o : Int32) : Prop := ∀ q, bt o q = (bt w q && decide (q < i))
theorem ks_I.zero (w : Int32) : ks_I w 0 0 := fun q => by rw [b_0, decide_eq_false (by omega), Bool.and_false]
theorem ks_I.skip {w : Int32} {i : Nat} {o : Int32} (h : ks_I w i o) (hw : bt w i = false) : ks_I w (i + 1) o := fun q => by
  rw [h q]
  by_cases e : q = i
  · subst e; rw [hw, Bool.false_and, Bool.false_and]
  · congr 1
    exact decide_eq_decide.mpr (by omega)
theorem ks_I.add {w : Int32} {i : Nat} {o : Int32} (h : ks_I w i o) (hi : i < 32) (hw : bt w i = true) : ks_I w (i + 1) (o ||| ks_on i) := fun q => by
  rw [b_or, h q, ks_bon hi]
  by_cases e : i = q
  · subst e; rw [hw, decide_eq_true rfl, Bool.or_true, decide_eq_true (by omega)]; rfl
  · rw [decide_eq_false e, Bool.or_false]
    congr 1
    exact decide_eq_decide.mpr (by omega)
theorem ks_I.fr {w w2 : Int32} {i : Nat} {o z : Int32} (h : ks_I w i o) (h2 : ks_I w2 i z) : ks_fr o z i := by
  refine ⟨?_, ?_⟩
  · rw [h i, decide_eq_false (by omega), Bool.and_false]
  · rw [h2 i, decide_eq_false (by omega), Bool.and_false]
theorem ks_I.done {w : Int32} {o : Int32} (h : ks_I w 16 o) (hw : ∀ q, bt w q = true → q < 16) : o = w := b_ext (fun q _ => by
  rw [h q]
  cases hb : bt w q
  · rfl
  · rw [decide_eq_true (hw q hb)]; rfl)
theorem ks_R.none (N : Nat) (P M : Nat → Int32) (n : Nat) (B Rs : Nat → Int32) : ks_R N P M n B Rs 0 0 0 := by
  refine ⟨fun _ => 0, fun j hj => absurd hj (by omega), fun i j _ hj => absurd hj (by omega), fun i => ⟨fun h => ?_, fun ⟨j, hj, _⟩ => absurd hj (by omega)⟩, fun i h => ?_, fun j hj => absurd hj (by omega)⟩
  · simp [b_0] at h
  · simp [b_0] at h
/-- the first free place -/
def ks_ff (N : Nat) (o z r : Int32) : Prop := (r = 0 ∧ ∀ p, p < N → ¬ ks_fr o z p) ∨ ∃ p, p < N ∧ r = ks_on p ∧ ks_fr o z p ∧ ∀ q, p < q → q < N → ¬ ks_fr o z q
theorem ks_max0 {k : Nat} (h : k < 2 ^ 31) : (if (0 : Int32) < nI k then nI k else 0) = nI k := by
  rcases Nat.eq_zero_or_pos k with e | e
  · subst e; rfl
  · rw [if_pos]
    rw [← nI_0]; exact nI_lt e h
theorem ks_min {a k : Nat} (h : a ≤ k) (hk : k < 2 ^ 31) : (if nI k < nI a then nI k else nI a) = nI a := if_neg (nI_nlt h hk)
/-- a boolean as the machine has it -/
def ks_b (v : Bool) : Int32 := if v = true then 1 else 0
/-- what goBackTo leaves of a set of values -/
def ks_cut (B : Nat → Int32) (lo hi : Nat) (o o2 : Int32) : Prop := ∀ i, bt o2 i = true ↔ (bt o i = true ∧ ∀ j, lo ≤ j → j < hi → bt (B j) i = false)
theorem ks_cut.zero (B : Nat → Int32) (lo : Nat) (o : Int32) : ks_cut B lo lo o o := fun i => ⟨fun h => ⟨h, fun j h1 h2 => absurd h1 (by omega)⟩, fun h => h.1⟩
theorem ks_cut.step {B : Nat → Int32} {lo hi : Nat} {o o2 : Int32} (h : ks_cut B lo hi o o2) (hl : lo ≤ hi) : ks_cut B lo (hi + 1) o (o2 &&& (B hi ^^^ (-1))) := fun i => by
  rw [ks_andn, Bool.and_eq_true, h i]
  constructor
  · intro ⟨⟨a, b⟩, d⟩
    refine ⟨a, fun j h1 h2 => ?_⟩
    by_cases e : j = hi
    · subst e; simpa using d
    · exact b j h1 (by omega)
  · intro ⟨a, b⟩
    exact ⟨⟨a, fun j h1 h2 => b j h1 (by omega)⟩, by rw [b hi hl (by omega)]; rfl⟩
/-- what propagate leaves, and answers -/
def ks_pp (N : Nat) (P M : Nat → Int32) (n : Nat) (B Rs : Nat → Int32) (k : Nat) (o z : Int32) (r : Int32) (B' Rs' : Nat → Int32) (k' : Nat) (o' z' : Int32) : Prop :=
  ks_R N P M n B' Rs' k' o' z' ∧ ks_X B Rs k o z B' Rs' k' o' z' ∧ (∀ a, ks_E o z a → ks_M P M n a → ks_E o' z' a) ∧
  ((r = -1 ∧ ∀ c, c < n → ks_U (P c) (M c) o' z') ∨ (¬ r = -1 ∧ ∃ c, c < n ∧ r = (P c ||| M c) ∧ ks_F (P c) (M c) o' z'))
theorem ks_mem_ne {N : Nat} (hN : N ≤ 16) {P M : Int32} (h : ks_ok N P M) : ¬ (P ||| M) = -1 := by
  intro e
  have a : bt (P ||| M) 20 = true := by rw [e]; decide
  have := h.2 20 ((ks_memb _ _ _).mp a)
  omega
section KL
variable {p : Program} {l : Launch} {e : Env} {R : Room} {s : State} {m : MethodId} {args : Array Value} {below : List Frame} {meth : Method} {c : Code} {cells slots : Nat} {Q : State → Prop}
/-- a loop: the state x of its head, n rounds at most -/
theorem ks_wl {σ : Type} (I : Nat → σ → Heap → List Loc → Array Slot → Prop) (pcH : Nat)
    (step : ∀ n x H locs ls, I (n + 1) x H locs ls → (∀ x' H' locs' ls', I n x' H' locs' ls' → W p l e R s m args below meth c H' locs' cells slots Q (F0 m pcH ls' [])) → W p l e R s m args below meth c H locs cells slots Q (F0 m pcH ls []))
    (zero : ∀ x H locs ls, ¬ I 0 x H locs ls) : ∀ n x H locs ls, I n x H locs ls → W p l e R s m args below meth c H locs cells slots Q (F0 m pcH ls []) := by
  intro n
  induction n with
  | zero => intro x H locs ls h; exact absurd h (zero x H locs ls)
  | succ n ih => intro x H locs ls h; exact step n x H locs ls h (fun x' H' locs' ls' h' => ih x' H' locs' ls' h')
end KL
section KJ
variable {p : Program} {l : Launch} {e : Env} {R : Room} {s : State} {m : MethodId} {args : Array Value} {below : List Frame} {meth : Method} {c : Code} {cells slots : Nat} {Q : State → Prop} {H0 : Heap} {locs0 : List Loc} {g : JFrame}
/-- ways that meet at one place -/
theorem ks_join {σ : Type} (I : σ → Heap → List Loc → Array Slot → Prop) (pcJ : Nat)
    (after : ∀ x H locs ls, I x H locs ls → W p l e R s m args below meth c H locs cells slots Q (F0 m pcJ ls []))
    (before : (∀ x H locs ls, I x H locs ls → W p l e R s m args below meth c H locs cells slots Q (F0 m pcJ ls [])) → W p l e R s m args below meth c H0 locs0 cells slots Q g) : W p l e R s m args below meth c H0 locs0 cells slots Q g := before after
end KJ
end
section
/-! the search, round by round -/
theorem ks_M.ext {P M P' M' : Nat → Int32} {g : Nat} (h : ∀ c, c < g → P' c = P c ∧ M' c = M c) {a : Nat → Bool} : ks_M P' M' g a ↔ ks_M P M g a := by
  constructor
  · intro q c hc
    have := q c hc
    rw [(h c hc).1, (h c hc).2] at this
    exact this
  · intro q c hc
    rw [(h c hc).1, (h c hc).2]
    exact q c hc
theorem ks_L.ext {N : Nat} {P M P' M' : Nat → Int32} {g : Nat} {o z r : Int32} (h : ∀ c, c < g → P' c = P c ∧ M' c = M c) (hL : ks_L N (ks_Q P' M' g o z) r) : ks_L N (ks_Q P M g o z) r :=
  hL.congr (fun v hv => ⟨fun q => ⟨q.1, (ks_M.ext h).mp q.2⟩, fun q => ⟨q.1, (ks_M.ext h).mpr q.2⟩⟩)
/-- the same models -/
def ks_eqv (N : Nat) (P M : Nat → Int32) (g : Nat) (o z o' z' : Int32) : Prop := ∀ v, v < 2 ^ N → (ks_Q P M g o z v.testBit ↔ ks_Q P M g o' z' v.testBit)
theorem ks_eqv.rf {N : Nat} {P M : Nat → Int32} {g : Nat} {o z : Int32} : ks_eqv N P M g o z o z := fun _ _ => Iff.rfl
theorem ks_eqv.tr {N : Nat} {P M : Nat → Int32} {g : Nat} {o z o1 z1 o2 z2 : Int32} (h : ks_eqv N P M g o z o1 z1) (h' : ks_eqv N P M g o1 z1 o2 z2) : ks_eqv N P M g o z o2 z2 := fun v hv => (h v hv).trans (h' v hv)
theorem ks_eqv.L {N : Nat} {P M : Nat → Int32} {g : Nat} {o z o1 z1 r : Int32} (h : ks_eqv N P M g o z o1 z1) (hL : ks_L N (ks_Q P M g o1 z1) r) : ks_L N (ks_Q P M g o z) r := hL.congr (fun v hv => (h v hv).symm)
/-- the row has grown behind what it was -/
def ks_gr (P M : Nat → Int32) (n : Nat) (P' M' : Nat → Int32) (n' : Nat) : Prop := n ≤ n' ∧ ∀ c, c < n → P' c = P c ∧ M' c = M c
theorem ks_gr.rf {P M : Nat → Int32} {n : Nat} : ks_gr P M n P M n := ⟨Nat.le_refl n, fun _ _ => ⟨rfl, rfl⟩⟩
theorem ks_gr.tr {P M P1 M1 P2 M2 : Nat → Int32} {n n1 n2 : Nat} (h : ks_gr P M n P1 M1 n1) (h' : ks_gr P1 M1 n1 P2 M2 n2) : ks_gr P M n P2 M2 n2 :=
  ⟨Nat.le_trans h.1 h'.1, fun c hc => ⟨((h'.2 c (Nat.lt_of_lt_of_le hc h.1)).1).trans (h.2 c hc).1, ((h'.2 c (Nat.lt_of_lt_of_le hc h.1)).2).trans (h.2 c hc).2⟩⟩
theorem ks_gr.put (P M : Nat → Int32) (n : Nat) (p m : Int32) : ks_gr P M n (upd P n p) (upd M n m) (n + 1) :=
  ⟨by omega, fun c hc => ⟨pk_un (by omega), pk_un (by omega)⟩⟩
theorem ks_gr.R {N : Nat} {P M P' M' : Nat → Int32} {n n' : Nat} {B Rs : Nat → Int32} {k : Nat} {o z : Int32} (h : ks_gr P M n P' M' n') (hR : ks_R N P M n B Rs k o z) : ks_R N P' M' n' B Rs k o z := hR.mono h.1 h.2
theorem ks_gr.low {P M P' M' : Nat → Int32} {n n' g : Nat} (h : ks_gr P M n P' M' n') (hg : g ≤ n) : ∀ c, c < g → P' c = P c ∧ M' c = M c := fun c hc => h.2 c (Nat.lt_of_lt_of_le hc hg)
/-- propagate keeps the models -/
theorem ks_pp.eqv {N : Nat} {P M : Nat → Int32} {g n : Nat} {B Rs : Nat → Int32} {k : Nat} {o z r : Int32} {B' Rs' : Nat → Int32} {k' : Nat} {o' z' : Int32} (h : ks_pp N P M n B Rs k o z r B' Rs' k' o' z') (hW : ks_W N P M g n) : ks_eqv N P M g o z o' z' :=
  fun v _ => ⟨fun q => ⟨h.2.2.1 _ q.1 (hW.all.mp q.2), q.2⟩, fun q => ⟨h.2.1.E q.1, q.2⟩⟩
theorem ks_eqv.ext {N : Nat} {P M P' M' : Nat → Int32} {g : Nat} {o z o' z' : Int32} (h : ∀ c, c < g → P' c = P c ∧ M' c = M c) (hE : ks_eqv N P' M' g o z o' z') : ks_eqv N P M g o z o' z' := fun v hv => by
  have := hE v hv
  unfold ks_Q at this ⊢
  rw [ks_M.ext h] at this
  exact this
/-- a false clause: no model -/
theorem ks_L.conflict {N : Nat} {P M : Nat → Int32} {g n c : Nat} {o z : Int32} (hW : ks_W N P M g n) (hc : c < n) (hF : ks_F (P c) (M c) o z) : ks_L N (ks_Q P M g o z) (-1) :=
  Or.inl ⟨rfl, fun v _ q => ks_F_no hF q.1 (hW.2.2.2 c hc _ q.2)⟩
/-- the refuted place -/
def ks_rf (N : Nat) (P M : Nat → Int32) (g rd k : Nat) (rf o z : Int32) : Prop := (rd = 0 ∧ rf = 0) ∨ ∃ p, p < N ∧ rf = ks_on p ∧ ks_fr o z p ∧ rd ≤ k + 1 ∧ (∀ v, v < 2 ^ N → ks_Q P M g o z v.testBit → v.testBit p = true) ∧ ∀ q, p < q → q < N → ¬ ks_fr o z q
theorem ks_rf.round {N : Nat} {P M P1 M1 : Nat → Int32} {g rd n1 : Nat} {rf o z : Int32} {B Rs : Nat → Int32} {k : Nat} (h : ks_rf N P M g rd k rf o z) (hR : ks_R N P1 M1 n1 B Rs k o z) : rd ≤ N := by
  rcases h with ⟨h, -⟩ | ⟨p, h1, h2, h3, h4, h5, h6⟩
  · omega
  · have := hR.free h1 h3; omega
theorem ks_X.grow {N : Nat} (hN : N ≤ 16) {P M P1 M1 : Nat → Int32} {n n1 : Nat} {B Rs B1 Rs1 : Nat → Int32} {k k1 : Nat} {o z o1 z1 : Int32} (hR : ks_R N P M n B Rs k o z) (hR1 : ks_R N P1 M1 n1 B1 Rs1 k1 o1 z1) (hX : ks_X B Rs k o z B1 Rs1 k1 o1 z1) {p : Nat} (hf : ks_fr o z p) (hf1 : ¬ ks_fr o1 z1 p) : k + 1 ≤ k1 := by
  obtain ⟨pl, a1, a2, a3, a4, a5⟩ := hR
  obtain ⟨pl1, b1, b2, b3, b4, b5⟩ := hR1
  have hset : bt o1 p = true ∨ bt z1 p = true := by
    cases ho : bt o1 p
    · cases hz : bt z1 p
      · exact absurd ⟨ho, hz⟩ hf1
      · exact Or.inr rfl
    · exact Or.inl rfl
  obtain ⟨j, hj, e⟩ := (b3 p).mp hset
  rcases Nat.lt_or_ge j k with q | q
  · exfalso
    have e1 := (hX.2.1 j q).1
    have h1 := b1 j hj
    have h2 := a1 j q
    rw [h1.2, h2.2] at e1
    have e2 := ks_on_inj (by omega) (by omega) e1
    exact ks_fr_ne hf ((a3 p).mpr ⟨j, q, by rw [← e2]; exact e⟩) rfl
  · omega
theorem ks_fr.mono {B Rs B1 Rs1 : Nat → Int32} {k k1 : Nat} {o z o1 z1 : Int32} (hX : ks_X B Rs k o z B1 Rs1 k1 o1 z1) {p : Nat} (h : ks_fr o1 z1 p) : ks_fr o z p := by
  refine ⟨?_, ?_⟩
  · cases ho : bt o p
    · rfl
    · have := (hX.2.2 p).1 ho; rw [h.1] at this; cases this
  · cases hz : bt z p
    · rfl
    · have := (hX.2.2 p).2 hz; rw [h.2] at this; cases this
theorem ks_rf.next {N : Nat} (hN : N ≤ 16) {P M P1 M1 P2 M2 : Nat → Int32} {g rd n1 n2 : Nat} {rf o z o1 z1 : Int32} {B Rs B1 Rs1 : Nat → Int32} {k k1 : Nat} (h : ks_rf N P M g rd k rf o z) (hR : ks_R N P1 M1 n1 B Rs k o z) (hR1 : ks_R N P2 M2 n2 B1 Rs1 k1 o1 z1) (hX : ks_X B Rs k o z B1 Rs1 k1 o1 z1) {p : Nat} (hp : p < N) (hf : ks_fr o1 z1 p) (hup : ∀ q, p < q → q < N → ¬ ks_fr o1 z1 q) (hne : ¬ ks_on p = rf) (hl : ∀ v, v < 2 ^ N → ks_Q P M g o1 z1 v.testBit → v.testBit p = true) : ks_rf N P M g (rd + 1) k1 (ks_on p) o1 z1 := by
  refine Or.inr ⟨p, hp, rfl, hf, ?_, hl, hup⟩
  rcases h with ⟨h, -⟩ | ⟨p', h1, h2, h3, h4, h5, h6⟩
  · omega
  · have hnf : ¬ ks_fr o1 z1 p' := by
      intro hf'
      rcases Nat.lt_trichotomy p p' with q | q | q
      · exact hup p' q h1 hf'
      · exact hne (by rw [h2, q])
      · exact h6 p q hp (ks_fr.mono hX hf)
    have := ks_X.grow hN hR hR1 hX h3 hnf
    omega
theorem ks_rf.high {N : Nat} (hN : N ≤ 16) {P M : Nat → Int32} {g rd : Nat} {rf o z o1 z1 : Int32} {B Rs B1 Rs1 : Nat → Int32} {k k1 : Nat} (h : ks_rf N P M g rd k rf o z) (hX : ks_X B Rs k o z B1 Rs1 k1 o1 z1) {p : Nat} (hp : p < N) (he : ks_on p = rf) : ∀ v, v < 2 ^ N → ks_Q P M g o1 z1 v.testBit → v.testBit p = true := by
  intro v hv q
  rcases h with ⟨-, h⟩ | ⟨p', h1, h2, h3, h4, h5, h6⟩
  · rw [h] at he; exact absurd he (ks_on_ne0 (by omega))
  · have := ks_on_inj (by omega) (by omega) (he.trans h2)
    subst this
    exact h5 v hv ⟨hX.E q.1, q.2⟩
/-- two literals against each other -/
theorem ks_L.clash {N : Nat} {P M : Nat → Int32} {g : Nat} {o z : Int32} (h : ¬ o &&& z = 0) : ks_L N (ks_Q P M g o z) (-1) := by
  obtain ⟨i, hi⟩ := ks_nz.mp h
  rw [b_and, Bool.and_eq_true] at hi
  refine Or.inl ⟨rfl, fun v _ q => ?_⟩
  have a := (q.1 i).1 hi.1
  rw [(q.1 i).2 hi.2] at a
  cases a
theorem ks_disj {o z : Int32} (h : o &&& z = 0) : ∀ i, bt o i = true → bt z i = false := fun i hi => by
  have a := ks_z.mp h i
  rw [b_and, hi, Bool.true_and] at a
  exact a
end
section
/-! literals -/
theorem ks_negT {w : Nat} (h : w < 2 ^ 31) : (-nI w).toInt = -(w : Int) := sb_negT h
/-- x is variable v, or its negation -/
def ks_lit (N : Nat) (x : Int32) (v : Nat) : Prop := 1 ≤ v ∧ v ≤ N ∧ (x = nI v ∨ x = -nI v)
/-- the literal x is true under a -/
def ks_lt (N : Nat) (x : Int32) (a : Nat → Bool) : Prop := ∃ v, 1 ≤ v ∧ v ≤ N ∧ ((x = nI v ∧ a (N - v) = true) ∨ (x = -nI v ∧ a (N - v) = false))
theorem ks_isLit {N : Nat} (hN : N ≤ 16) {x : Int32} (h0 : ¬ x = 0) (h1 : ¬ x < -nI N) (h2 : ¬ nI N < x) : ∃ v, ks_lit N x v := by
  rw [Int32.lt_iff_toInt_lt, ks_negT (by omega)] at h1
  rw [Int32.lt_iff_toInt_lt, nI_toInt (by omega)] at h2
  by_cases hx : x < 0
  · rw [Int32.lt_iff_toInt_lt, Int32.toInt_zero] at hx
    refine ⟨(-x.toInt).toNat, by omega, by omega, Or.inr ?_⟩
    apply Int32.toInt_inj.mp
    rw [ks_negT (by omega)]
    omega
  · obtain ⟨v, hv, e⟩ := nI_of hx
    subst e
    rw [nI_toInt hv] at h2
    refine ⟨v, ?_, by omega, Or.inl rfl⟩
    rcases Nat.eq_zero_or_pos v with q | q
    · subst q; exact absurd nI_0 h0
    · exact q
theorem ks_lit.pos {N : Nat} (hN : N ≤ 16) {x : Int32} {v : Nat} (h : ks_lit N x v) (hp : 0 < x) : x = nI v := by
  rcases h.2.2 with q | q
  · exact q
  · rw [q, Int32.lt_iff_toInt_lt, ks_negT (by have := h.2.1; omega), Int32.toInt_zero] at hp
    omega
theorem ks_lit.neg {N : Nat} (hN : N ≤ 16) {x : Int32} {v : Nat} (h : ks_lit N x v) (hp : ¬ 0 < x) : x = -nI v := by
  rcases h.2.2 with q | q
  · rw [q, Int32.lt_iff_toInt_lt, nI_toInt (by have := h.2.1; omega), Int32.toInt_zero] at hp
    have := h.1
    omega
  · exact q
theorem ks_lit.ne0 {N : Nat} (hN : N ≤ 16) {x : Int32} {v : Nat} (h : ks_lit N x v) : ¬ x = 0 := by
  intro e
  have a := h.1
  have b := h.2.1
  rcases h.2.2 with q | q
  · have := congrArg Int32.toInt (q.symm.trans e)
    rw [nI_toInt (by omega), Int32.toInt_zero] at this
    omega
  · have := congrArg Int32.toInt (q.symm.trans e)
    rw [ks_negT (by omega), Int32.toInt_zero] at this
    omega
theorem ks_lit.lo {N : Nat} (hN : N ≤ 16) {x : Int32} {v : Nat} (h : ks_lit N x v) : ¬ x < -nI N := by
  have a := h.1
  have b := h.2.1
  rw [Int32.lt_iff_toInt_lt, ks_negT (by omega)]
  rcases h.2.2 with q | q
  · rw [q, nI_toInt (by omega)]; omega
  · rw [q, ks_negT (by omega)]; omega
theorem ks_lit.hi {N : Nat} (hN : N ≤ 16) {x : Int32} {v : Nat} (h : ks_lit N x v) : ¬ nI N < x := by
  have a := h.1
  have b := h.2.1
  rw [Int32.lt_iff_toInt_lt, nI_toInt (by omega)]
  rcases h.2.2 with q | q
  · rw [q, nI_toInt (by omega)]; omega
  · rw [q, ks_negT (by omega)]; omega
theorem ks_lit.uniq {N : Nat} (hN : N ≤ 16) {x : Int32} {v w : Nat} (h : ks_lit N x v) (h' : ks_lit N x w) : v = w ∧ (x = nI v ↔ x = nI w) := by
  have a := h.1
  have b := h.2.1
  have a' := h'.1
  have b' := h'.2.1
  have e1 : x = nI v → x.toInt = v := fun q => by rw [q, nI_toInt (by omega)]
  have e2 : x = -nI v → x.toInt = -(v : Int) := fun q => by rw [q, ks_negT (by omega)]
  have e3 : x = nI w → x.toInt = w := fun q => by rw [q, nI_toInt (by omega)]
  have e4 : x = -nI w → x.toInt = -(w : Int) := fun q => by rw [q, ks_negT (by omega)]
  have e : v = w := by
    rcases h.2.2 with q | q <;> rcases h'.2.2 with q' | q'
    · have := e1 q; have := e3 q'; omega
    · have := e1 q; have := e4 q'; omega
    · have := e2 q; have := e3 q'; omega
    · have := e2 q; have := e4 q'; omega
  exact ⟨e, by rw [e]⟩
theorem ks_lt_pos {N : Nat} (hN : N ≤ 16) {x : Int32} {v : Nat} {a : Nat → Bool} (h : ks_lit N x v) (hp : 0 < x) : ks_lt N x a ↔ a (N - v) = true := by
  constructor
  · intro ⟨w, h1, h2, h3⟩
    rcases h3 with ⟨q, r⟩ | ⟨q, r⟩
    · have := (h.uniq hN ⟨h1, h2, Or.inl q⟩).1
      rw [this]; exact r
    · exfalso
      rw [q, Int32.lt_iff_toInt_lt, ks_negT (by omega), Int32.toInt_zero] at hp
      omega
  · intro r
    exact ⟨v, h.1, h.2.1, Or.inl ⟨h.pos hN hp, r⟩⟩
theorem ks_lt_neg {N : Nat} (hN : N ≤ 16) {x : Int32} {v : Nat} {a : Nat → Bool} (h : ks_lit N x v) (hp : ¬ 0 < x) : ks_lt N x a ↔ a (N - v) = false := by
  constructor
  · intro ⟨w, h1, h2, h3⟩
    rcases h3 with ⟨q, r⟩ | ⟨q, r⟩
    · exfalso
      apply hp
      rw [q, Int32.lt_iff_toInt_lt, nI_toInt (by omega), Int32.toInt_zero]
      omega
    · have := (h.uniq hN ⟨h1, h2, Or.inr q⟩).1
      rw [this]; exact r
  · intro r
    exact ⟨v, h.1, h.2.1, Or.inr ⟨h.neg hN hp, r⟩⟩
theorem ks_abs {N : Nat} (hN : N ≤ 16) {x : Int32} {v : Nat} (h : ks_lit N x v) : (if 0 ≤ x then x else 0 - x) = nI v := by
  have a := h.1
  have b := h.2.1
  rcases h.2.2 with q | q
  · rw [q, if_pos (nI_pos' (by omega))]
  · rw [q, if_neg]
    · apply Int32.toBitVec_inj.mp
      show 0#32 - -(nI v).toBitVec = (nI v).toBitVec
      simp
    · rw [Int32.le_iff_toInt_le, Int32.toInt_zero, ks_negT (by omega)]; omega
theorem ks_lit_neg {N : Nat} {x : Int32} {v : Nat} (h : ks_lit N x v) : ks_lit N (-x) v := by
  refine ⟨h.1, h.2.1, ?_⟩
  rcases h.2.2 with q | q
  · exact Or.inr (by rw [q])
  · refine Or.inl ?_
    rw [q]
    apply Int32.toBitVec_inj.mp
    show - -(nI v).toBitVec = (nI v).toBitVec
    simp
/-- the negation is true where the literal isn't -/
theorem ks_lt_not {N : Nat} (hN : N ≤ 16) {x : Int32} {v : Nat} {a : Nat → Bool} (h : ks_lit N x v) : ks_lt N (-x) a ↔ ¬ ks_lt N x a := by
  have hneg := ks_lit_neg h
  have a1 := h.1
  have b1 := h.2.1
  rcases h.2.2 with q | q
  · have hp : 0 < x := by rw [q, Int32.lt_iff_toInt_lt, nI_toInt (by omega), Int32.toInt_zero]; omega
    have hn : ¬ 0 < -x := by rw [q, Int32.lt_iff_toInt_lt, ks_negT (by omega), Int32.toInt_zero]; omega
    rw [ks_lt_pos hN h hp, ks_lt_neg hN hneg hn]
    cases a (N - v) <;> simp
  · have hp : ¬ 0 < x := by rw [q, Int32.lt_iff_toInt_lt, ks_negT (by omega), Int32.toInt_zero]; omega
    have e : -x = nI v := by
      rw [q]
      apply Int32.toBitVec_inj.mp
      show - -(nI v).toBitVec = (nI v).toBitVec
      simp
    have hn : 0 < -x := by rw [e, Int32.lt_iff_toInt_lt, nI_toInt (by omega), Int32.toInt_zero]; omega
    rw [ks_lt_neg hN h hp, ks_lt_pos hN hneg hn]
    cases a (N - v) <;> simp
/-- how many variables: 1 to 16 -/
def ks_N (x : Int32) : Nat := if x.toInt < 1 then 1 else if 16 < x.toInt then 16 else x.toInt.toNat
theorem ks_N_le (x : Int32) : ks_N x ≤ 16 := by
  unfold ks_N
  split
  · omega
  · split <;> omega
theorem ks_N_ge (x : Int32) : 1 ≤ ks_N x := by
  unfold ks_N
  split
  · omega
  · split <;> omega
theorem ks_N_toInt (x : Int32) : (nI (ks_N x)).toInt = if x.toInt < 1 then 1 else if 16 < x.toInt then 16 else x.toInt := by
  rw [nI_toInt (by have := ks_N_le x; omega)]
  unfold ks_N
  split
  · rfl
  · split
    · rfl
    · omega
theorem ks_Nv (x : Int32) : (if (1 : Int32) < (if x < nI 16 then x else nI 16) then (if x < nI 16 then x else nI 16) else 1) = nI (ks_N x) := by
  apply Int32.toInt_inj.mp
  rw [ks_N_toInt]
  have e16 : (nI 16).toInt = 16 := nI_toInt (by decide)
  have e1 : (1 : Int32).toInt = 1 := by decide
  by_cases h : x < nI 16
  · rw [if_pos h]
    rw [Int32.lt_iff_toInt_lt, e16] at h
    by_cases h2 : (1 : Int32) < x
    · rw [if_pos h2]
      rw [Int32.lt_iff_toInt_lt, e1] at h2
      rw [if_neg (by omega), if_neg (by omega)]
    · rw [if_neg h2, e1]
      rw [Int32.lt_iff_toInt_lt, e1] at h2
      by_cases h3 : x.toInt < 1
      · rw [if_pos h3]
      · rw [if_neg h3, if_neg (by omega)]; omega
  · rw [if_neg h, if_pos (by decide), e16]
    rw [Int32.lt_iff_toInt_lt, e16] at h
    rw [if_neg (by omega)]
    by_cases h3 : 16 < x.toInt
    · rw [if_pos h3]
    · rw [if_neg h3]; omega
end
section
/-! assumptions, chosen by bits of an Int64 -/
-- pasted: ts_bit, wb_tb, wb_inj, wb_cu
theorem ts_bit {w : Int64} {s : UInt64} {j : Nat} (hj : j < 64) (hs : s.toNat = j) : ((w.toUInt64 >>> s).toInt64 &&& 1) = 0 ↔ w.toBitVec.getLsbD j = false := by
  have e : (w.toUInt64 >>> s).toInt64.toBitVec = w.toBitVec >>> j := by
    apply BitVec.eq_of_toNat_eq
    show (w.toUInt64 >>> s).toNat = _
    rw [UInt64.toNat_shiftRight, hs, Nat.mod_eq_of_lt hj, BitVec.toNat_ushiftRight]
    rfl
  rw [← Int64.toBitVec_inj, Int64.toBitVec_and, e]
  show w.toBitVec >>> j &&& 1#64 = 0#64 ↔ _
  constructor
  · intro h
    have t := congrArg (fun x => x.getLsbD 0) h
    simpa using t
  · intro h
    apply BitVec.eq_of_getLsbD_eq
    intro i hi
    cases i with
    | zero => simp [h]
    | succ i => simp
theorem wb_tb (n : Nat) : (lN n).toBitVec = BitVec.ofNat 64 n := rfl
theorem wb_inj {a b : Int64} (h : a.toBitVec = b.toBitVec) : a = b := Int64.toBitVec_inj.mp h
theorem wb_cu : ∀ k, k < 64 → ((nI k).toInt64.toUInt64 &&& Int64.toUInt64 63) = UInt64.ofNat k := by decide +kernel
def ks_bl (x : Int64) (j : Nat) : Bool := x.toBitVec.getLsbD j
theorem ks_bl_tst {x : Int64} {j : Nat} (hj : j < 64) : ((x.toUInt64 >>> ((nI j).toInt64.toUInt64 &&& Int64.toUInt64 63)).toInt64 &&& 1) = 0 ↔ ks_bl x j = false :=
  ts_bit hj (by rw [wb_cu j hj]; show (BitVec.ofNat 64 j).toNat = j; rw [BitVec.toNat_ofNat, Nat.mod_eq_of_lt (by omega)])
/-- the extra literal, if there is one, and the chosen ones of the first i assumptions, are true -/
def ks_As (N : Nat) (AS : Nat → Int32) (ch : Int64) (ex : Int32) (i : Nat) (a : Nat → Bool) : Prop := (ex = 0 ∨ ks_lt N ex a) ∧ ∀ j, j < i → ks_bl ch j = true → ks_lt N (AS j) a
def ks_in (N : Nat) (o z : Int32) : Prop := ∀ i, bt o i = true ∨ bt z i = true → i < N
theorem ks_in.hi {N : Nat} {o z : Int32} {p : Nat} (h : ks_in N o z) (hN : N ≤ 16) (hp : p < N) : ks_in N (o ||| ks_on p) z := fun i hi => by
  rw [b_or, Bool.or_eq_true, ks_bon_iff (by omega)] at hi
  rcases hi with (q | q) | q
  · exact h i (Or.inl q)
  · omega
  · exact h i (Or.inr q)
theorem ks_in.lo {N : Nat} {o z : Int32} {p : Nat} (h : ks_in N o z) (hN : N ≤ 16) (hp : p < N) : ks_in N o (z ||| ks_on p) := fun i hi => by
  rw [b_or, Bool.or_eq_true, ks_bon_iff (by omega)] at hi
  rcases hi with q | (q | q)
  · exact h i (Or.inl q)
  · exact h i (Or.inr q)
  · omega
theorem ks_E00 (a : Nat → Bool) : ks_E 0 0 a := fun i => ⟨fun h => (by rw [b_0] at h; cases h), fun h => (by rw [b_0] at h; cases h)⟩
theorem ks_or0 (x : Int32) : 0 ||| x = x := b_ext (fun i _ => by rw [b_or, b_0, Bool.false_or])
theorem ks_in00 (N : Nat) : ks_in N 0 0 := fun i h => by rw [b_0] at h; rcases h with h | h <;> cases h
/-- what the loop has: the values say just the chosen literals -/
def ks_un (N : Nat) (AS : Nat → Int32) (ch : Int64) (ex : Int32) (i : Nat) (o z : Int32) : Prop := ks_in N o z ∧ ∀ a, ks_E o z a ↔ ks_As N AS ch ex i a
theorem ks_un.zero0 (N : Nat) (AS : Nat → Int32) (ch : Int64) : ks_un N AS ch 0 0 0 0 :=
  ⟨ks_in00 N, fun a => ⟨fun _ => ⟨Or.inl rfl, fun j hj => absurd hj (by omega)⟩, fun _ => ks_E00 a⟩⟩
theorem ks_un.zerop {N : Nat} (hN : N ≤ 16) {AS : Nat → Int32} {ch : Int64} {ex : Int32} {v : Nat} (h : ks_lit N ex v) (hp : 0 < ex) : ks_un N AS ch ex 0 (ks_on (N - v)) 0 := by
  have hv : N - v < N := by have := h.1; have := h.2.1; omega
  refine ⟨?_, fun a => ?_⟩
  · have := (ks_in00 N).hi hN hv; rw [ks_or0] at this; exact this
  · have e := ks_E.high (o := 0) (z := 0) (p := N - v) (by omega) (a := a)
    rw [ks_or0] at e
    rw [e, ← ks_lt_pos hN h hp]
    exact ⟨fun q => ⟨Or.inr q.2, fun j hj => absurd hj (by omega)⟩, fun q => ⟨ks_E00 a, q.1.elim (fun r => absurd r (h.ne0 hN)) id⟩⟩
theorem ks_un.zeron {N : Nat} (hN : N ≤ 16) {AS : Nat → Int32} {ch : Int64} {ex : Int32} {v : Nat} (h : ks_lit N ex v) (hp : ¬ 0 < ex) : ks_un N AS ch ex 0 0 (ks_on (N - v)) := by
  have hv : N - v < N := by have := h.1; have := h.2.1; omega
  refine ⟨?_, fun a => ?_⟩
  · have := (ks_in00 N).lo hN hv; rw [ks_or0] at this; exact this
  · have e := ks_E.low (o := 0) (z := 0) (p := N - v) (by omega) (a := a)
    rw [ks_or0] at e
    rw [e, ← ks_lt_neg hN h hp]
    exact ⟨fun q => ⟨Or.inr q.2, fun j hj => absurd hj (by omega)⟩, fun q => ⟨ks_E00 a, q.1.elim (fun r => absurd r (h.ne0 hN)) id⟩⟩
theorem ks_As.skip {N : Nat} {AS : Nat → Int32} {ch : Int64} {ex : Int32} {i : Nat} {a : Nat → Bool} (hb : ks_bl ch i = false) : ks_As N AS ch ex i a ↔ ks_As N AS ch ex (i + 1) a :=
  ⟨fun h => ⟨h.1, fun j hj hc => by
    by_cases e : j = i
    · subst e; rw [hb] at hc; cases hc
    · exact h.2 j (by omega) hc⟩, fun h => ⟨h.1, fun j hj hc => h.2 j (by omega) hc⟩⟩
theorem ks_As.add {N : Nat} {AS : Nat → Int32} {ch : Int64} {ex : Int32} {i : Nat} {a : Nat → Bool} (hb : ks_bl ch i = true) : ks_As N AS ch ex (i + 1) a ↔ ks_As N AS ch ex i a ∧ ks_lt N (AS i) a :=
  ⟨fun h => ⟨⟨h.1, fun j hj hc => h.2 j (by omega) hc⟩, h.2 i (by omega) hb⟩, fun h => ⟨h.1.1, fun j hj hc => by
    by_cases e : j = i
    · subst e; exact h.2
    · exact h.1.2 j (by omega) hc⟩⟩
theorem ks_un.skip {N : Nat} {AS : Nat → Int32} {ch : Int64} {ex : Int32} {i : Nat} {o z : Int32} (h : ks_un N AS ch ex i o z) (hb : ks_bl ch i = false) : ks_un N AS ch ex (i + 1) o z :=
  ⟨h.1, fun a => (h.2 a).trans (ks_As.skip hb)⟩
theorem ks_un.pos {N : Nat} (hN : N ≤ 16) {AS : Nat → Int32} {ch : Int64} {ex : Int32} {i v : Nat} {o z : Int32} (h : ks_un N AS ch ex i o z) (hb : ks_bl ch i = true) (hv : ks_lit N (AS i) v) (hp : 0 < AS i) : ks_un N AS ch ex (i + 1) (o ||| ks_on (N - v)) z := by
  have hlt : N - v < N := by have := hv.1; have := hv.2.1; omega
  refine ⟨h.1.hi hN hlt, fun a => ?_⟩
  rw [ks_E.high (by omega), h.2 a, ← ks_lt_pos hN hv hp, ks_As.add hb]
theorem ks_un.neg {N : Nat} (hN : N ≤ 16) {AS : Nat → Int32} {ch : Int64} {ex : Int32} {i v : Nat} {o z : Int32} (h : ks_un N AS ch ex i o z) (hb : ks_bl ch i = true) (hv : ks_lit N (AS i) v) (hp : ¬ 0 < AS i) : ks_un N AS ch ex (i + 1) o (z ||| ks_on (N - v)) := by
  have hlt : N - v < N := by have := hv.1; have := hv.2.1; omega
  refine ⟨h.1.lo hN hlt, fun a => ?_⟩
  rw [ks_E.low (by omega), h.2 a, ← ks_lt_neg hN hv hp, ks_As.add hb]
/-- a model under assumptions -/
def ks_Y (N : Nat) (AS : Nat → Int32) (ac : Nat) (ch : Int64) (ex : Int32) (P M : Nat → Int32) (g : Nat) (a : Nat → Bool) : Prop := ks_As N AS ch ex ac a ∧ ks_M P M g a
theorem ks_un.L {N : Nat} {AS : Nat → Int32} {ch : Int64} {ex : Int32} {i : Nat} {o z r : Int32} {P M : Nat → Int32} {g : Nat} (h : ks_un N AS ch ex i o z) (hL : ks_L N (ks_Q P M g o z) r) : ks_L N (ks_Y N AS i ch ex P M g) r :=
  hL.congr (fun v _ => ⟨fun q => ⟨(h.2 _).mp q.1, q.2⟩, fun q => ⟨(h.2 _).mpr q.1, q.2⟩⟩)
/-- the clause that is being made -/
theorem ks_T.addp {N : Nat} (hN : N ≤ 16) {x mp mm : Int32} {v : Nat} (h : ks_lit N x v) (hp : 0 < x) {a : Nat → Bool} : ks_T (mp ||| ks_on (N - v)) mm a ↔ ks_T mp mm a ∨ ks_lt N x a := by
  rw [ks_lt_pos hN h hp]
  constructor
  · intro ⟨i, hi⟩
    rw [b_or, Bool.or_eq_true, ks_bon_iff (by omega)] at hi
    rcases hi with ⟨q | q, r⟩ | q
    · exact Or.inl ⟨i, Or.inl ⟨q, r⟩⟩
    · exact Or.inr (by rw [q]; exact r)
    · exact Or.inl ⟨i, Or.inr q⟩
  · intro q
    rcases q with ⟨i, q⟩ | q
    · refine ⟨i, ?_⟩
      rcases q with ⟨q, r⟩ | q
      · exact Or.inl ⟨by rw [b_or, q, Bool.true_or], r⟩
      · exact Or.inr q
    · exact ⟨N - v, Or.inl ⟨by rw [b_or, ks_bon_self (by omega), Bool.or_true], q⟩⟩
theorem ks_T.addn {N : Nat} (hN : N ≤ 16) {x mp mm : Int32} {v : Nat} (h : ks_lit N x v) (hp : ¬ 0 < x) {a : Nat → Bool} : ks_T mp (mm ||| ks_on (N - v)) a ↔ ks_T mp mm a ∨ ks_lt N x a := by
  rw [ks_lt_neg hN h hp]
  constructor
  · intro ⟨i, hi⟩
    rw [b_or, Bool.or_eq_true, ks_bon_iff (by omega)] at hi
    rcases hi with q | ⟨q | q, r⟩
    · exact Or.inl ⟨i, Or.inl q⟩
    · exact Or.inl ⟨i, Or.inr ⟨q, r⟩⟩
    · exact Or.inr (by rw [q]; exact r)
  · intro q
    rcases q with ⟨i, q⟩ | q
    · refine ⟨i, ?_⟩
      rcases q with q | ⟨q, r⟩
      · exact Or.inl q
      · exact Or.inr ⟨by rw [b_or, q, Bool.true_or], r⟩
    · exact ⟨N - v, Or.inr ⟨by rw [b_or, ks_bon_self (by omega), Bool.or_true], q⟩⟩
theorem ks_T.none {a : Nat → Bool} : ¬ ks_T 0 0 a := fun ⟨i, h⟩ => by
  rw [b_0] at h
  rcases h with h | h <;> cases h.1
theorem ks_T.taut {mp mm : Int32} (h : ¬ mp &&& mm = 0) (a : Nat → Bool) : ks_T mp mm a := by
  obtain ⟨i, hi⟩ := ks_nz.mp h
  rw [b_and, Bool.and_eq_true] at hi
  refine ⟨i, ?_⟩
  cases ha : a i
  · exact Or.inr ⟨hi.2, rfl⟩
  · exact Or.inl ⟨hi.1, rfl⟩
theorem ks_in.mem {N : Nat} {mp mm : Int32} (h : ks_in N mp mm) (hd : mp &&& mm = 0) : ks_ok N mp mm := ⟨ks_disj hd, fun i hi => h i hi⟩
theorem ks_Y.ext {N : Nat} {AS : Nat → Int32} {ac : Nat} {ch : Int64} {ex : Int32} {P M P' M' : Nat → Int32} {g : Nat} {r : Int32} (h : ∀ c, c < g → P' c = P c ∧ M' c = M c) (hL : ks_L N (ks_Y N AS ac ch ex P' M' g) r) : ks_L N (ks_Y N AS ac ch ex P M g) r :=
  hL.congr (fun v _ => ⟨fun q => ⟨q.1, (ks_M.ext h).mp q.2⟩, fun q => ⟨q.1, (ks_M.ext h).mpr q.2⟩⟩)
theorem ks_L.no {N : Nat} (hN : N ≤ 16) {F : (Nat → Bool) → Prop} {r : Int32} (h : ks_L N F r) (e : r = -1) : ∀ v, v < 2 ^ N → ¬ F v.testBit := by
  rcases h with ⟨_, q⟩ | ⟨v, h1, h2, -⟩
  · exact q
  · exact absurd (h2.symm.trans e) (ks_nIm (ks_pow hN h1))
theorem ks_L.yes {N : Nat} {F : (Nat → Bool) → Prop} {r : Int32} (h : ks_L N F r) (e : ¬ r = -1) : ¬ ∀ v, v < 2 ^ N → ¬ F v.testBit := by
  rcases h with ⟨q, _⟩ | ⟨v, h1, h2, h3, -⟩
  · exact absurd q e
  · exact fun q => q v h1 h3
/-- the core, step by step: F says that there is no model under the chosen assumptions -/
def ks_rm (K : Int64) (j : Nat) : Int64 := K &&& ((1 <<< ((nI j).toInt64 &&& 63)) ^^^ (-1))
def ks_kp (F : Int64 → Prop) (K0 : Int64) : Nat → Int64 → Prop
  | 0, K => K = K0
  | j + 1, K => ∃ K1, ks_kp F K0 j K1 ∧ ((F (ks_rm K1 j) ∧ K = ks_rm K1 j) ∨ (¬ F (ks_rm K1 j) ∧ K = K1))
theorem ks_kp.uniq {F G : Int64 → Prop} {K0 : Int64} (h : ∀ K, F K ↔ G K) : ∀ (j : Nat) (K K' : Int64), ks_kp F K0 j K → ks_kp G K0 j K' → K = K' := by
  intro j
  induction j with
  | zero => intro K K' h1 h2; exact h1.trans h2.symm
  | succ j ih =>
    intro K K' ⟨K1, a1, a2⟩ ⟨K2, b1, b2⟩
    have e := ih K1 K2 a1 b1
    subst e
    rcases a2 with ⟨a2, a3⟩ | ⟨a2, a3⟩ <;> rcases b2 with ⟨b2, b3⟩ | ⟨b2, b3⟩
    · rw [a3, b3]
    · exact absurd ((h _).mp a2) b2
    · exact absurd ((h _).mpr b2) a2
    · rw [a3, b3]
/-- no model under the chosen assumptions -/
def ks_nm (N : Nat) (AS : Nat → Int32) (ac : Nat) (P M : Nat → Int32) (g : Nat) (ch : Int64) : Prop := ∀ v, v < 2 ^ N → ¬ ks_Y N AS ac ch 0 P M g v.testBit
def ks_K0 (ac : Nat) : Int64 := (1 <<< ((nI ac).toInt64 &&& 63)) - 1
end
section
-- ===== PART A: goes FIRST, ahead of the names: the tables' words, and 'selects' of the private methods out of them =====
/-- a private method of a class that the tables say can be made, by its rows of tables_1 -/
def lw_okq (q : MethodName × Nat) : Prop := (q.1.cls ≠ "java/lang/invoke/MethodHandle" ∧ q.1.cls ≠ "java/lang/invoke/VarHandle") ∧ Cond.instantiable q.1.cls q.2 ∈ tables_1 ∧ Cond.privateMethod q.1 ∈ tables_1 ∧ Cond.instanceMethod q.1 ∈ tables_1
theorem lw_p0 : lw_okq (⟨"LessonSolver", "isLiteral", "(I)Z"⟩, 10) := ⟨⟨by decide +kernel, by decide +kernel⟩, List.mem_of_getElem? (i := 8) (by decide +kernel), List.mem_of_getElem? (i := 128) (by decide +kernel), List.mem_of_getElem? (i := 129) (by decide +kernel)⟩
theorem lw_p1 : lw_okq (⟨"LessonSolver", "bitOf", "(I)I"⟩, 10) := ⟨⟨by decide +kernel, by decide +kernel⟩, List.mem_of_getElem? (i := 8) (by decide +kernel), List.mem_of_getElem? (i := 132) (by decide +kernel), List.mem_of_getElem? (i := 133) (by decide +kernel)⟩
theorem lw_p2 : lw_okq (⟨"LessonSolver", "takeMadeClause", "()V"⟩, 10) := ⟨⟨by decide +kernel, by decide +kernel⟩, List.mem_of_getElem? (i := 8) (by decide +kernel), List.mem_of_getElem? (i := 143) (by decide +kernel), List.mem_of_getElem? (i := 144) (by decide +kernel)⟩
theorem lw_p3 : lw_okq (⟨"LessonSolver", "forgetMadeClause", "()V"⟩, 10) := ⟨⟨by decide +kernel, by decide +kernel⟩, List.mem_of_getElem? (i := 8) (by decide +kernel), List.mem_of_getElem? (i := 151) (by decide +kernel), List.mem_of_getElem? (i := 152) (by decide +kernel)⟩
theorem lw_p4 : lw_okq (⟨"LessonSolver", "firstModelUnder", "(JI)I"⟩, 10) := ⟨⟨by decide +kernel, by decide +kernel⟩, List.mem_of_getElem? (i := 8) (by decide +kernel), List.mem_of_getElem? (i := 168) (by decide +kernel), List.mem_of_getElem? (i := 169) (by decide +kernel)⟩
theorem lw_p5 : lw_okq (⟨"LessonSolver$Search", "descend", "(I)I"⟩, 5) := ⟨⟨by decide +kernel, by decide +kernel⟩, List.mem_of_getElem? (i := 45) (by decide +kernel), List.mem_of_getElem? (i := 188) (by decide +kernel), List.mem_of_getElem? (i := 189) (by decide +kernel)⟩
theorem lw_p6 : lw_okq (⟨"LessonSolver$Search", "learn", "(I)V"⟩, 5) := ⟨⟨by decide +kernel, by decide +kernel⟩, List.mem_of_getElem? (i := 45) (by decide +kernel), List.mem_of_getElem? (i := 196) (by decide +kernel), List.mem_of_getElem? (i := 197) (by decide +kernel)⟩
theorem lw_p7 : lw_okq (⟨"LessonSolverModel", "clear", "()V"⟩, 12) := ⟨⟨by decide +kernel, by decide +kernel⟩, List.mem_of_getElem? (i := 255) (by decide +kernel), List.mem_of_getElem? (i := 261) (by decide +kernel), List.mem_of_getElem? (i := 262) (by decide +kernel)⟩
theorem lw_p8 : lw_okq (⟨"LessonSolverModel", "isLiteral", "(I)Z"⟩, 12) := ⟨⟨by decide +kernel, by decide +kernel⟩, List.mem_of_getElem? (i := 255) (by decide +kernel), List.mem_of_getElem? (i := 308) (by decide +kernel), List.mem_of_getElem? (i := 309) (by decide +kernel)⟩
theorem lw_p9 : lw_okq (⟨"LessonSolverModel", "row", "(II)J"⟩, 12) := ⟨⟨by decide +kernel, by decide +kernel⟩, List.mem_of_getElem? (i := 255) (by decide +kernel), List.mem_of_getElem? (i := 316) (by decide +kernel), List.mem_of_getElem? (i := 317) (by decide +kernel)⟩
theorem lw_p10 : lw_okq (⟨"LessonSolverModel", "leaves", "(J)Z"⟩, 12) := ⟨⟨by decide +kernel, by decide +kernel⟩, List.mem_of_getElem? (i := 255) (by decide +kernel), List.mem_of_getElem? (i := 338) (by decide +kernel), List.mem_of_getElem? (i := 339) (by decide +kernel)⟩
def lw_privs_1 : List (MethodName × Nat) := [(⟨"LessonSolver", "isLiteral", "(I)Z"⟩, 10), (⟨"LessonSolver", "bitOf", "(I)I"⟩, 10), (⟨"LessonSolver", "takeMadeClause", "()V"⟩, 10), (⟨"LessonSolver", "forgetMadeClause", "()V"⟩, 10), (⟨"LessonSolver", "firstModelUnder", "(JI)I"⟩, 10), (⟨"LessonSolver$Search", "descend", "(I)I"⟩, 5), (⟨"LessonSolver$Search", "learn", "(I)V"⟩, 5), (⟨"LessonSolverModel", "clear", "()V"⟩, 12), (⟨"LessonSolverModel", "isLiteral", "(I)Z"⟩, 12), (⟨"LessonSolverModel", "row", "(II)J"⟩, 12), (⟨"LessonSolverModel", "leaves", "(J)Z"⟩, 12)]
theorem lw_r1 : ∀ q ∈ lw_privs_1, lw_okq q := List.forall_mem_cons.mpr ⟨lw_p0, List.forall_mem_cons.mpr ⟨lw_p1, List.forall_mem_cons.mpr ⟨lw_p2, List.forall_mem_cons.mpr ⟨lw_p3, List.forall_mem_cons.mpr ⟨lw_p4, List.forall_mem_cons.mpr ⟨lw_p5, List.forall_mem_cons.mpr ⟨lw_p6, List.forall_mem_cons.mpr ⟨lw_p7, List.forall_mem_cons.mpr ⟨lw_p8, List.forall_mem_cons.mpr ⟨lw_p9, List.forall_mem_cons.mpr ⟨lw_p10, fun _ h => absurd h List.not_mem_nil⟩⟩⟩⟩⟩⟩⟩⟩⟩⟩⟩
def lw_privs : List (MethodName × Nat) := lw_privs_1
def lw_tbl : List Cond := k2_sels lw_privs ++ tables_1
theorem lw_privs_ok : ∀ q ∈ lw_privs, lw_okq q := lw_r1
end
section
/-! ===== BEGIN words of one list among another's, by their places ===== -/
theorem goodIn_r {big : List Cond} (ws : List Cond) (ps : List Nat) (hp : ws = ps.filterMap (fun i => big[i]?)) (h : ws.all goodWord = true) : GoodIn big ws := by
  intro w hw
  have h1 := List.all_eq_true.mp h w hw
  rw [hp] at hw
  obtain ⟨i, -, hi⟩ := List.mem_filterMap.mp hw
  have hm : w ∈ big := by first | exact List.mem_of_getElem? hi | exact List.getElem?_mem hi
  exact ⟨hm, good_of_word h1⟩
theorem goodIn_app {big a b : List Cond} (ha : GoodIn big a) (hb : GoodIn big b) : GoodIn big (a ++ b) := fun w h => (List.mem_append.mp h).elim (ha w) (hb w)
theorem goodIn_ca {big a b : List Cond} {c : Cond} (ha : GoodIn big (c :: a)) (hb : GoodIn big b) : GoodIn big (c :: (a ++ b)) := fun w h => (List.mem_cons.mp h).elim (fun e => ha w (List.mem_cons.mpr (Or.inl e))) (fun h => (List.mem_append.mp h).elim (fun h => ha w (List.mem_cons.mpr (Or.inr h))) (hb w))
theorem goodIn_sub {big ws : List Cond} (hm : ∀ w ∈ ws, w ∈ big) (h : ws.all goodWord = true) : GoodIn big ws := fun w hw => ⟨hm w hw, good_of_word (List.all_eq_true.mp h w hw)⟩
/-! ===== END ===== -/

/-! ===== BEGIN printed: names, fields, word lists, decode rows ===== -/
def RX0 : String := "LessonSolver$ClauseRow"
def TX0 : u_T := fun k => match k with
  | 0 => ("LessonSolver$ClauseRow", "plus", "[I", true)
  | 1 => ("LessonSolver$ClauseRow", "minus", "[I", true)
  | 2 => ("LessonSolver$ClauseRow", "given", "I", false)
  | _ => ("LessonSolver$ClauseRow", "size", "I", false)
def tyX0 : Nat → FieldType := fun k => match k with
  | 0 => .array .int
  | 1 => .array .int
  | 2 => .int
  | _ => .int
abbrev wsX00 : List Cond := u_ws RX0 TX0 4
theorem nmX0 : ∀ a, a < 4 → ∀ b, b < 4 → a ≠ b → (TX0 a).2.1 ≠ (TX0 b).2.1 := by decide +kernel
theorem tyX0_ok : ∀ k, k < 4 → parseFieldDescriptor (TX0 k).2.2.1 = some (tyX0 k) := by decide +kernel
abbrev cX0_init : ByteArray := prog_2_method_1_code
def yX0_init : MethodName := ⟨RX0, "<init>", "()V"⟩
abbrev cX0_give : ByteArray := prog_2_method_3_code
def yX0_give : MethodName := ⟨RX0, "give", "(II)V"⟩
abbrev cX0_hasRoomForLesson : ByteArray := prog_2_method_4_code
def yX0_hasRoomForLesson : MethodName := ⟨RX0, "hasRoomForLesson", "()Z"⟩
abbrev cX0_keepLesson : ByteArray := prog_2_method_5_code
def yX0_keepLesson : MethodName := ⟨RX0, "keepLesson", "(II)V"⟩
abbrev cX0_forgetLessonsIfMany : ByteArray := prog_2_method_6_code
def yX0_forgetLessonsIfMany : MethodName := ⟨RX0, "forgetLessonsIfMany", "()V"⟩
abbrev cX0_saysAlready : ByteArray := prog_2_method_7_code
def yX0_saysAlready : MethodName := ⟨RX0, "saysAlready", "(II)Z"⟩
def RX1 : String := "LessonSolver$Search"
def TX1 : u_T := fun k => match k with
  | 0 => ("LessonSolver$Search", "variables", "I", true)
  | 1 => ("LessonSolver$Search", "row", "LLessonSolver$ClauseRow;", true)
  | 2 => ("LessonSolver$Search", "trail", "LLessonSolver$Trail;", true)
  | 3 => ("LessonSolver$Search", "proof", "LLessonSolver$Trail;", true)
  | _ => ("LessonSolver$Search", "lapses", "I", false)
def tyX1 : Nat → FieldType := fun k => match k with
  | 0 => .int
  | 1 => .object "LessonSolver$ClauseRow"
  | 2 => .object "LessonSolver$Trail"
  | 3 => .object "LessonSolver$Trail"
  | _ => .int
abbrev wsX10 : List Cond := u_ws RX1 TX1 5
theorem nmX1 : ∀ a, a < 5 → ∀ b, b < 5 → a ≠ b → (TX1 a).2.1 ≠ (TX1 b).2.1 := by decide +kernel
theorem tyX1_ok : ∀ k, k < 5 → parseFieldDescriptor (TX1 k).2.2.1 = some (tyX1 k) := by decide +kernel
abbrev cX1_init : ByteArray := prog_3_method_1_code
def yX1_init : MethodName := ⟨RX1, "<init>", "(ILLessonSolver$ClauseRow;)V"⟩
abbrev cX1_firstModel : ByteArray := prog_3_method_2_code
def yX1_firstModel : MethodName := ⟨RX1, "firstModel", "(II)I"⟩
abbrev cX1_descend : ByteArray := prog_3_method_3_code
def yX1_descend : MethodName := ⟨RX1, "descend", "(I)I"⟩
abbrev cX1_learn : ByteArray := prog_3_method_4_code
def yX1_learn : MethodName := ⟨RX1, "learn", "(I)V"⟩
def RX2 : String := "LessonSolver$Trail"
def TX2 : u_T := fun k => match k with
  | 0 => ("LessonSolver$Trail", "bits", "[I", true)
  | 1 => ("LessonSolver$Trail", "reasons", "[I", true)
  | 2 => ("LessonSolver$Trail", "length", "I", false)
  | 3 => ("LessonSolver$Trail", "ones", "I", false)
  | _ => ("LessonSolver$Trail", "zeros", "I", false)
def tyX2 : Nat → FieldType := fun k => match k with
  | 0 => .array .int
  | 1 => .array .int
  | 2 => .int
  | 3 => .int
  | _ => .int
abbrev wsX20 : List Cond := u_ws RX2 TX2 5
theorem nmX2 : ∀ a, a < 5 → ∀ b, b < 5 → a ≠ b → (TX2 a).2.1 ≠ (TX2 b).2.1 := by decide +kernel
theorem tyX2_ok : ∀ k, k < 5 → parseFieldDescriptor (TX2 k).2.2.1 = some (tyX2 k) := by decide +kernel
abbrev cX2_init : ByteArray := prog_4_method_1_code
def yX2_init : MethodName := ⟨RX2, "<init>", "()V"⟩
abbrev cX2_start : ByteArray := prog_4_method_2_code
def yX2_start : MethodName := ⟨RX2, "start", "(II)V"⟩
abbrev cX2_assign : ByteArray := prog_4_method_3_code
def yX2_assign : MethodName := ⟨RX2, "assign", "(IZI)V"⟩
abbrev cX2_goBackTo : ByteArray := prog_4_method_4_code
def yX2_goBackTo : MethodName := ⟨RX2, "goBackTo", "(I)V"⟩
abbrev cX2_firstFree : ByteArray := prog_4_method_5_code
def yX2_firstFree : MethodName := ⟨RX2, "firstFree", "(I)I"⟩
abbrev cX2_propagate : ByteArray := prog_4_method_6_code
def yX2_propagate : MethodName := ⟨RX2, "propagate", "(LLessonSolver$ClauseRow;)I"⟩
abbrev cX2_rootsOf : ByteArray := prog_4_method_7_code
def yX2_rootsOf : MethodName := ⟨RX2, "rootsOf", "(I)I"⟩
def RX3 : String := "LessonSolver"
def TX3 : u_T := fun k => match k with
  | 0 => ("LessonSolver", "variables", "I", true)
  | 1 => ("LessonSolver", "clauses", "LLessonSolver$ClauseRow;", true)
  | 2 => ("LessonSolver", "search", "LLessonSolver$Search;", true)
  | 3 => ("LessonSolver", "assumptions", "[I", true)
  | 4 => ("LessonSolver", "assumptionCount", "I", false)
  | 5 => ("LessonSolver", "clauseCount", "I", false)
  | 6 => ("LessonSolver", "literalCount", "I", false)
  | 7 => ("LessonSolver", "madePlus", "I", false)
  | 8 => ("LessonSolver", "madeMinus", "I", false)
  | _ => ("LessonSolver", "madeLength", "I", false)
def tyX3 : Nat → FieldType := fun k => match k with
  | 0 => .int
  | 1 => .object "LessonSolver$ClauseRow"
  | 2 => .object "LessonSolver$Search"
  | 3 => .array .int
  | 4 => .int
  | 5 => .int
  | 6 => .int
  | 7 => .int
  | 8 => .int
  | _ => .int
abbrev wsX30 : List Cond := u_ws RX3 TX3 10
theorem nmX3 : ∀ a, a < 10 → ∀ b, b < 10 → a ≠ b → (TX3 a).2.1 ≠ (TX3 b).2.1 := by decide +kernel
theorem tyX3_ok : ∀ k, k < 10 → parseFieldDescriptor (TX3 k).2.2.1 = some (tyX3 k) := by decide +kernel
abbrev cX3_init : ByteArray := prog_1_method_1_code
def yX3_init : MethodName := ⟨RX3, "<init>", "(I)V"⟩
abbrev cX3_add : ByteArray := prog_1_method_2_code
def yX3_add : MethodName := ⟨RX3, "add", "(I)Z"⟩
abbrev cX3_close : ByteArray := prog_1_method_3_code
def yX3_close : MethodName := ⟨RX3, "close", "()I"⟩
abbrev cX3_assume : ByteArray := prog_1_method_4_code
def yX3_assume : MethodName := ⟨RX3, "assume", "(I)I"⟩
abbrev cX3_retract : ByteArray := prog_1_method_5_code
def yX3_retract : MethodName := ⟨RX3, "retract", "(I)I"⟩
abbrev cX3_solve : ByteArray := prog_1_method_6_code
def yX3_solve : MethodName := ⟨RX3, "solve", "()Z"⟩
abbrev cX3_least : ByteArray := prog_1_method_7_code
def yX3_least : MethodName := ⟨RX3, "least", "()I"⟩
abbrev cX3_implied : ByteArray := prog_1_method_8_code
def yX3_implied : MethodName := ⟨RX3, "implied", "(I)I"⟩
abbrev cX3_core : ByteArray := prog_1_method_9_code
def yX3_core : MethodName := ⟨RX3, "core", "()J"⟩
abbrev cX3_isLiteral : ByteArray := prog_1_method_12_code
def yX3_isLiteral : MethodName := ⟨RX3, "isLiteral", "(I)Z"⟩
abbrev cX3_bitOf : ByteArray := prog_1_method_13_code
def yX3_bitOf : MethodName := ⟨RX3, "bitOf", "(I)I"⟩
abbrev cX3_takeMadeClause : ByteArray := prog_1_method_14_code
def yX3_takeMadeClause : MethodName := ⟨RX3, "takeMadeClause", "()V"⟩
abbrev cX3_forgetMadeClause : ByteArray := prog_1_method_15_code
def yX3_forgetMadeClause : MethodName := ⟨RX3, "forgetMadeClause", "()V"⟩
abbrev cX3_firstModelUnder : ByteArray := prog_1_method_16_code
def yX3_firstModelUnder : MethodName := ⟨RX3, "firstModelUnder", "(JI)I"⟩
def RX4 : String := "LessonSolverModel"
def TX4 : u_T := fun k => match k with
  | _ => ("", "", "", false)
def tyX4 : Nat → FieldType := fun k => match k with
  | _ => .int
abbrev wsX40 : List Cond := u_ws RX4 TX4 0
theorem nmX4 : ∀ a, a < 0 → ∀ b, b < 0 → a ≠ b → (TX4 a).2.1 ≠ (TX4 b).2.1 := by decide +kernel
theorem tyX4_ok : ∀ k, k < 0 → parseFieldDescriptor (TX4 k).2.2.1 = some (tyX4 k) := by decide +kernel
def RJ9 : String := "java/lang/Math"
def TJ9 : u_T := fun k => match k with
  | _ => ("", "", "", false)
def tyJ9 : Nat → FieldType := fun k => match k with
  | _ => .int
abbrev wsJ90 : List Cond := u_ws RJ9 TJ9 0
theorem nmJ9 : ∀ a, a < 0 → ∀ b, b < 0 → a ≠ b → (TJ9 a).2.1 ≠ (TJ9 b).2.1 := by decide +kernel
theorem tyJ9_ok : ∀ k, k < 0 → parseFieldDescriptor (TJ9 k).2.2.1 = some (tyJ9 k) := by decide +kernel
abbrev cJ9_abs_0f7a4 : ByteArray := prog_7_method_59_code
def yJ9_abs_0f7a4 : MethodName := ⟨RJ9, "abs", "(I)I"⟩
abbrev cJ9_max_7cf53 : ByteArray := prog_7_method_65_code
def yJ9_max_7cf53 : MethodName := ⟨RJ9, "max", "(II)I"⟩
abbrev cJ9_min_7cf53 : ByteArray := prog_7_method_69_code
def yJ9_min_7cf53 : MethodName := ⟨RJ9, "min", "(II)I"⟩
def RL : String := "LessonSolverLaw"
abbrev cL_law : ByteArray := code
def yL_law : MethodName := ⟨RL, "law", "([I)Z"⟩
def wsX0_init : List Cond := .code yX0_init cX0_init 1 none :: ([.methodLink RX0 3 objectInit, .instanceMethod objectInit, .code objectInit ⟨#[0xb1]⟩ 1 none, .arrayClass .int, .fieldLink RX0 9 "LessonSolver$ClauseRow" "plus" "[I", .fieldLink RX0 15 "LessonSolver$ClauseRow" "minus" "[I"] ++ wsX00)
def wsX0_give : List Cond := .code yX0_give cX0_give 3 none :: ([.fieldLink RX0 18 "LessonSolver$ClauseRow" "given" "I", .fieldLink RX0 22 "LessonSolver$ClauseRow" "size" "I", .fieldLink RX0 9 "LessonSolver$ClauseRow" "plus" "[I", .fieldLink RX0 15 "LessonSolver$ClauseRow" "minus" "[I"] ++ wsX00)
def wsX0_hasRoomForLesson : List Cond := .code yX0_hasRoomForLesson cX0_hasRoomForLesson 1 (some .boolean) :: ([.fieldLink RX0 22 "LessonSolver$ClauseRow" "size" "I", .fieldLink RX0 18 "LessonSolver$ClauseRow" "given" "I", .fieldLink RX0 9 "LessonSolver$ClauseRow" "plus" "[I"] ++ wsX00)
def wsX0_keepLesson : List Cond := .code yX0_keepLesson cX0_keepLesson 3 none :: ([.fieldLink RX0 9 "LessonSolver$ClauseRow" "plus" "[I", .fieldLink RX0 22 "LessonSolver$ClauseRow" "size" "I", .fieldLink RX0 15 "LessonSolver$ClauseRow" "minus" "[I", .methodLink RX0 25 yX0_hasRoomForLesson, .instanceMethod yX0_hasRoomForLesson, .selects RX0 yX0_hasRoomForLesson yX0_hasRoomForLesson, .initialized RX0, .code yX0_hasRoomForLesson cX0_hasRoomForLesson 1 (some .boolean), .fieldLink RX0 18 "LessonSolver$ClauseRow" "given" "I"] ++ wsX00)
def wsX0_forgetLessonsIfMany : List Cond := .code yX0_forgetLessonsIfMany cX0_forgetLessonsIfMany 1 none :: ([.fieldLink RX0 22 "LessonSolver$ClauseRow" "size" "I", .fieldLink RX0 18 "LessonSolver$ClauseRow" "given" "I"] ++ wsX00)
def wsX0_saysAlready : List Cond := .code yX0_saysAlready cX0_saysAlready 4 (some .boolean) :: ([.fieldLink RX0 22 "LessonSolver$ClauseRow" "size" "I", .fieldLink RX0 9 "LessonSolver$ClauseRow" "plus" "[I", .fieldLink RX0 15 "LessonSolver$ClauseRow" "minus" "[I"] ++ wsX00)
def wsX2_init : List Cond := .code yX2_init cX2_init 1 none :: ([.methodLink RX2 3 objectInit, .instanceMethod objectInit, .code objectInit ⟨#[0xb1]⟩ 1 none, .arrayClass .int, .fieldLink RX2 9 "LessonSolver$Trail" "bits" "[I", .fieldLink RX2 15 "LessonSolver$Trail" "reasons" "[I"] ++ wsX20)
def wsX1_init : List Cond := .code yX1_init cX1_init 3 none :: ([.methodLink RX1 3 objectInit, .instanceMethod objectInit, .code objectInit ⟨#[0xb1]⟩ 1 none, .fieldLink RX1 9 "LessonSolver$Search" "variables" "I", .fieldLink RX1 15 "LessonSolver$Search" "row" "LLessonSolver$ClauseRow;", .classLink RX1 19 RX2, .instantiable RX2 5, .initialized RX2, .fieldLink RX1 22 "LessonSolver$Search" "trail" "LLessonSolver$Trail;", .fieldLink RX1 26 "LessonSolver$Search" "proof" "LLessonSolver$Trail;", .methodLink RX1 21 yX2_init, .instanceMethod yX2_init, .code yX2_init cX2_init 1 none, .methodLink RX2 3 objectInit, .arrayClass .int, .fieldLink RX2 9 "LessonSolver$Trail" "bits" "[I", .fieldLink RX2 15 "LessonSolver$Trail" "reasons" "[I"] ++ wsX10 ++ wsX20)
def wsX2_assign : List Cond := .code yX2_assign cX2_assign 4 none :: ([.fieldLink RX2 18 "LessonSolver$Trail" "length" "I", .fieldLink RX2 9 "LessonSolver$Trail" "bits" "[I", .fieldLink RX2 15 "LessonSolver$Trail" "reasons" "[I", .fieldLink RX2 22 "LessonSolver$Trail" "ones" "I", .fieldLink RX2 25 "LessonSolver$Trail" "zeros" "I"] ++ wsX20)
def wsX2_start : List Cond := .code yX2_start cX2_start 5 none :: ([.fieldLink RX2 18 "LessonSolver$Trail" "length" "I", .fieldLink RX2 22 "LessonSolver$Trail" "ones" "I", .fieldLink RX2 25 "LessonSolver$Trail" "zeros" "I", .methodLink RX2 28 yX2_assign, .instanceMethod yX2_assign, .selects RX2 yX2_assign yX2_assign, .initialized RX2, .code yX2_assign cX2_assign 4 none, .fieldLink RX2 9 "LessonSolver$Trail" "bits" "[I", .fieldLink RX2 15 "LessonSolver$Trail" "reasons" "[I"] ++ wsX20)
def wsX2_propagate : List Cond := .code yX2_propagate cX2_propagate 7 (some .int) :: ([.fieldLink RX2 18 "LessonSolver$Trail" "length" "I", .fieldLink RX2 22 "LessonSolver$Trail" "ones" "I", .fieldLink RX2 25 "LessonSolver$Trail" "zeros" "I", .methodLink RX2 28 yX2_assign, .instanceMethod yX2_assign, .selects RX2 yX2_assign yX2_assign, .initialized RX2, .code yX2_assign cX2_assign 4 none, .fieldLink RX2 9 "LessonSolver$Trail" "bits" "[I", .fieldLink RX2 15 "LessonSolver$Trail" "reasons" "[I"] ++ wsX20 ++ wsX00)
def wsX2_rootsOf : List Cond := .code yX2_rootsOf cX2_rootsOf 5 (some .int) :: ([.fieldLink RX2 18 "LessonSolver$Trail" "length" "I", .fieldLink RX2 9 "LessonSolver$Trail" "bits" "[I", .fieldLink RX2 15 "LessonSolver$Trail" "reasons" "[I"] ++ wsX20)
def wsX1_learn_r1 : List Cond := [Cond.fieldLink RX1 22 "LessonSolver$Search" "trail" "LLessonSolver$Trail;", Cond.fieldLink RX1 15 "LessonSolver$Search" "row" "LLessonSolver$ClauseRow;", Cond.fieldLink RX1 26 "LessonSolver$Search" "proof" "LLessonSolver$Trail;", Cond.fieldLink RX1 80 "LessonSolver$Search" "lapses" "I", Cond.methodLink RX1 66 yX2_rootsOf, Cond.instanceMethod yX2_rootsOf, Cond.selects RX2 yX2_rootsOf yX2_rootsOf, Cond.initialized RX2, Cond.code yX2_rootsOf cX2_rootsOf 5 (some .int), Cond.fieldLink RX2 18 "LessonSolver$Trail" "length" "I", Cond.fieldLink RX2 9 "LessonSolver$Trail" "bits" "[I", Cond.fieldLink RX2 15 "LessonSolver$Trail" "reasons" "[I", Cond.methodLink RX1 72 yX0_hasRoomForLesson, Cond.instanceMethod yX0_hasRoomForLesson, Cond.selects RX0 yX0_hasRoomForLesson yX0_hasRoomForLesson, Cond.initialized RX0, Cond.code yX0_hasRoomForLesson cX0_hasRoomForLesson 1 (some .boolean), Cond.fieldLink RX0 22 "LessonSolver$ClauseRow" "size" "I", Cond.fieldLink RX0 18 "LessonSolver$ClauseRow" "given" "I", Cond.fieldLink RX0 9 "LessonSolver$ClauseRow" "plus" "[I", Cond.methodLink RX1 76 yX0_saysAlready, Cond.instanceMethod yX0_saysAlready, Cond.selects RX0 yX0_saysAlready yX0_saysAlready, Cond.code yX0_saysAlready cX0_saysAlready 4 (some .boolean)]
def wsX1_learn_r2 : List Cond := [Cond.fieldLink RX0 15 "LessonSolver$ClauseRow" "minus" "[I", Cond.methodLink RX1 34 yX2_start, Cond.instanceMethod yX2_start, Cond.selects RX2 yX2_start yX2_start, Cond.code yX2_start cX2_start 5 none, Cond.fieldLink RX2 22 "LessonSolver$Trail" "ones" "I", Cond.fieldLink RX2 25 "LessonSolver$Trail" "zeros" "I", Cond.methodLink RX2 28 yX2_assign, Cond.instanceMethod yX2_assign, Cond.selects RX2 yX2_assign yX2_assign, Cond.code yX2_assign cX2_assign 4 none, Cond.methodLink RX1 42 yX2_propagate, Cond.instanceMethod yX2_propagate, Cond.selects RX2 yX2_propagate yX2_propagate, Cond.code yX2_propagate cX2_propagate 7 (some .int), Cond.methodLink RX1 83 yX0_keepLesson, Cond.instanceMethod yX0_keepLesson, Cond.selects RX0 yX0_keepLesson yX0_keepLesson, Cond.code yX0_keepLesson cX0_keepLesson 3 none, Cond.methodLink RX0 25 yX0_hasRoomForLesson]
def wsX1_learn : List Cond := .code yX1_learn cX1_learn 5 none :: ((wsX1_learn_r1 ++ wsX1_learn_r2) ++ wsX10 ++ wsX20 ++ wsX00)
def wsX2_firstFree : List Cond := .code yX2_firstFree cX2_firstFree 4 (some .int) :: ([.fieldLink RX2 22 "LessonSolver$Trail" "ones" "I", .fieldLink RX2 25 "LessonSolver$Trail" "zeros" "I"] ++ wsX20)
def wsX2_goBackTo : List Cond := .code yX2_goBackTo cX2_goBackTo 3 none :: ([.methodLink RX2 32 Lib.Math.max.name, .static Lib.Math.max.name, .initialized "java/lang/Math", .code Lib.Math.max.name Lib.Math.max.code 2 (some .int), .fieldLink RX2 18 "LessonSolver$Trail" "length" "I", .fieldLink RX2 22 "LessonSolver$Trail" "ones" "I", .fieldLink RX2 9 "LessonSolver$Trail" "bits" "[I", .fieldLink RX2 25 "LessonSolver$Trail" "zeros" "I", .methodLink RX2 38 Lib.Math.min.name, .static Lib.Math.min.name, .code Lib.Math.min.name Lib.Math.min.code 2 (some .int)] ++ wsX20)
def wsX1_descend_r1 : List Cond := [Cond.fieldLink RX1 9 "LessonSolver$Search" "variables" "I", Cond.fieldLink RX1 22 "LessonSolver$Search" "trail" "LLessonSolver$Trail;", Cond.fieldLink RX1 15 "LessonSolver$Search" "row" "LLessonSolver$ClauseRow;", Cond.methodLink RX1 42 yX2_propagate, Cond.instanceMethod yX2_propagate, Cond.selects RX2 yX2_propagate yX2_propagate, Cond.initialized RX2, Cond.code yX2_propagate cX2_propagate 7 (some .int), Cond.fieldLink RX2 18 "LessonSolver$Trail" "length" "I", Cond.fieldLink RX2 22 "LessonSolver$Trail" "ones" "I", Cond.fieldLink RX2 25 "LessonSolver$Trail" "zeros" "I", Cond.methodLink RX2 28 yX2_assign, Cond.instanceMethod yX2_assign, Cond.selects RX2 yX2_assign yX2_assign, Cond.code yX2_assign cX2_assign 4 none, Cond.fieldLink RX2 9 "LessonSolver$Trail" "bits" "[I", Cond.fieldLink RX2 15 "LessonSolver$Trail" "reasons" "[I", Cond.methodLink RX1 46 yX1_learn, Cond.instanceMethod yX1_learn, Cond.selects RX1 yX1_learn yX1_learn, Cond.initialized RX1, Cond.code yX1_learn cX1_learn 5 none, Cond.fieldLink RX1 26 "LessonSolver$Search" "proof" "LLessonSolver$Trail;", Cond.fieldLink RX1 80 "LessonSolver$Search" "lapses" "I"]
def wsX1_descend_r2 : List Cond := [Cond.methodLink RX1 66 yX2_rootsOf, Cond.instanceMethod yX2_rootsOf, Cond.selects RX2 yX2_rootsOf yX2_rootsOf, Cond.code yX2_rootsOf cX2_rootsOf 5 (some .int), Cond.methodLink RX1 72 yX0_hasRoomForLesson, Cond.instanceMethod yX0_hasRoomForLesson, Cond.selects RX0 yX0_hasRoomForLesson yX0_hasRoomForLesson, Cond.initialized RX0, Cond.code yX0_hasRoomForLesson cX0_hasRoomForLesson 1 (some .boolean), Cond.fieldLink RX0 22 "LessonSolver$ClauseRow" "size" "I", Cond.fieldLink RX0 18 "LessonSolver$ClauseRow" "given" "I", Cond.fieldLink RX0 9 "LessonSolver$ClauseRow" "plus" "[I", Cond.methodLink RX1 76 yX0_saysAlready, Cond.instanceMethod yX0_saysAlready, Cond.selects RX0 yX0_saysAlready yX0_saysAlready, Cond.code yX0_saysAlready cX0_saysAlready 4 (some .boolean), Cond.fieldLink RX0 15 "LessonSolver$ClauseRow" "minus" "[I", Cond.methodLink RX1 34 yX2_start, Cond.instanceMethod yX2_start, Cond.selects RX2 yX2_start yX2_start, Cond.code yX2_start cX2_start 5 none, Cond.methodLink RX1 83 yX0_keepLesson, Cond.instanceMethod yX0_keepLesson, Cond.selects RX0 yX0_keepLesson yX0_keepLesson]
def wsX1_descend_r3 : List Cond := [Cond.code yX0_keepLesson cX0_keepLesson 3 none, Cond.methodLink RX0 25 yX0_hasRoomForLesson, Cond.methodLink RX1 50 yX2_firstFree, Cond.instanceMethod yX2_firstFree, Cond.selects RX2 yX2_firstFree yX2_firstFree, Cond.code yX2_firstFree cX2_firstFree 4 (some .int), Cond.methodLink RX1 59 yX2_assign, Cond.methodLink RX1 38 yX1_descend, Cond.instanceMethod yX1_descend, Cond.selects RX1 yX1_descend yX1_descend, Cond.methodLink RX1 63 yX2_goBackTo, Cond.instanceMethod yX2_goBackTo, Cond.selects RX2 yX2_goBackTo yX2_goBackTo, Cond.code yX2_goBackTo cX2_goBackTo 3 none, Cond.methodLink RX2 32 Lib.Math.max.name, Cond.static Lib.Math.max.name, Cond.initialized "java/lang/Math", Cond.code Lib.Math.max.name Lib.Math.max.code 2 (some .int), Cond.methodLink RX2 38 Lib.Math.min.name, Cond.static Lib.Math.min.name, Cond.code Lib.Math.min.name Lib.Math.min.code 2 (some .int)]
def wsX1_descend : List Cond := .code yX1_descend cX1_descend 8 (some .int) :: ((wsX1_descend_r1 ++ (wsX1_descend_r2 ++ wsX1_descend_r3)) ++ wsX10 ++ wsX20 ++ wsX00)
def wsX1_firstModel_r1 : List Cond := [Cond.fieldLink RX1 15 "LessonSolver$Search" "row" "LLessonSolver$ClauseRow;", Cond.fieldLink RX1 22 "LessonSolver$Search" "trail" "LLessonSolver$Trail;", Cond.methodLink RX1 29 yX0_forgetLessonsIfMany, Cond.instanceMethod yX0_forgetLessonsIfMany, Cond.selects RX0 yX0_forgetLessonsIfMany yX0_forgetLessonsIfMany, Cond.initialized RX0, Cond.code yX0_forgetLessonsIfMany cX0_forgetLessonsIfMany 1 none, Cond.fieldLink RX0 22 "LessonSolver$ClauseRow" "size" "I", Cond.fieldLink RX0 18 "LessonSolver$ClauseRow" "given" "I", Cond.methodLink RX1 34 yX2_start, Cond.instanceMethod yX2_start, Cond.selects RX2 yX2_start yX2_start, Cond.initialized RX2, Cond.code yX2_start cX2_start 5 none, Cond.fieldLink RX2 18 "LessonSolver$Trail" "length" "I", Cond.fieldLink RX2 22 "LessonSolver$Trail" "ones" "I", Cond.fieldLink RX2 25 "LessonSolver$Trail" "zeros" "I", Cond.methodLink RX2 28 yX2_assign, Cond.instanceMethod yX2_assign, Cond.selects RX2 yX2_assign yX2_assign, Cond.code yX2_assign cX2_assign 4 none, Cond.fieldLink RX2 9 "LessonSolver$Trail" "bits" "[I", Cond.fieldLink RX2 15 "LessonSolver$Trail" "reasons" "[I", Cond.methodLink RX1 38 yX1_descend]
def wsX1_firstModel_r2 : List Cond := [Cond.instanceMethod yX1_descend, Cond.selects RX1 yX1_descend yX1_descend, Cond.initialized RX1, Cond.code yX1_descend cX1_descend 8 (some .int), Cond.fieldLink RX1 9 "LessonSolver$Search" "variables" "I", Cond.methodLink RX1 42 yX2_propagate, Cond.instanceMethod yX2_propagate, Cond.selects RX2 yX2_propagate yX2_propagate, Cond.code yX2_propagate cX2_propagate 7 (some .int), Cond.methodLink RX1 46 yX1_learn, Cond.instanceMethod yX1_learn, Cond.selects RX1 yX1_learn yX1_learn, Cond.code yX1_learn cX1_learn 5 none, Cond.fieldLink RX1 26 "LessonSolver$Search" "proof" "LLessonSolver$Trail;", Cond.fieldLink RX1 80 "LessonSolver$Search" "lapses" "I", Cond.methodLink RX1 66 yX2_rootsOf, Cond.instanceMethod yX2_rootsOf, Cond.selects RX2 yX2_rootsOf yX2_rootsOf, Cond.code yX2_rootsOf cX2_rootsOf 5 (some .int), Cond.methodLink RX1 72 yX0_hasRoomForLesson, Cond.instanceMethod yX0_hasRoomForLesson, Cond.selects RX0 yX0_hasRoomForLesson yX0_hasRoomForLesson, Cond.code yX0_hasRoomForLesson cX0_hasRoomForLesson 1 (some .boolean), Cond.fieldLink RX0 9 "LessonSolver$ClauseRow" "plus" "[I"]
def wsX1_firstModel_r3 : List Cond := [Cond.methodLink RX1 76 yX0_saysAlready, Cond.instanceMethod yX0_saysAlready, Cond.selects RX0 yX0_saysAlready yX0_saysAlready, Cond.code yX0_saysAlready cX0_saysAlready 4 (some .boolean), Cond.fieldLink RX0 15 "LessonSolver$ClauseRow" "minus" "[I", Cond.methodLink RX1 83 yX0_keepLesson, Cond.instanceMethod yX0_keepLesson, Cond.selects RX0 yX0_keepLesson yX0_keepLesson, Cond.code yX0_keepLesson cX0_keepLesson 3 none, Cond.methodLink RX0 25 yX0_hasRoomForLesson, Cond.methodLink RX1 50 yX2_firstFree, Cond.instanceMethod yX2_firstFree, Cond.selects RX2 yX2_firstFree yX2_firstFree, Cond.code yX2_firstFree cX2_firstFree 4 (some .int), Cond.methodLink RX1 59 yX2_assign, Cond.methodLink RX1 63 yX2_goBackTo, Cond.instanceMethod yX2_goBackTo, Cond.selects RX2 yX2_goBackTo yX2_goBackTo, Cond.code yX2_goBackTo cX2_goBackTo 3 none, Cond.methodLink RX2 32 Lib.Math.max.name, Cond.static Lib.Math.max.name, Cond.initialized "java/lang/Math", Cond.code Lib.Math.max.name Lib.Math.max.code 2 (some .int), Cond.methodLink RX2 38 Lib.Math.min.name]
def wsX1_firstModel_r4 : List Cond := [Cond.static Lib.Math.min.name, Cond.code Lib.Math.min.name Lib.Math.min.code 2 (some .int)]
def wsX1_firstModel : List Cond := .code yX1_firstModel cX1_firstModel 3 (some .int) :: ((wsX1_firstModel_r1 ++ (wsX1_firstModel_r2 ++ (wsX1_firstModel_r3 ++ wsX1_firstModel_r4))) ++ wsX10 ++ wsX00 ++ wsX20)
def wsX3_init_r1 : List Cond := [Cond.methodLink RX3 1 objectInit, Cond.instanceMethod objectInit, Cond.code objectInit ⟨#[0xb1]⟩ 1 none, Cond.methodLink RX3 9 Lib.Math.min.name, Cond.static Lib.Math.min.name, Cond.initialized "java/lang/Math", Cond.code Lib.Math.min.name Lib.Math.min.code 2 (some .int), Cond.methodLink RX3 15 Lib.Math.max.name, Cond.static Lib.Math.max.name, Cond.code Lib.Math.max.name Lib.Math.max.code 2 (some .int), Cond.fieldLink RX3 18 "LessonSolver" "variables" "I", Cond.classLink RX3 22 RX0, Cond.instantiable RX0 4, Cond.initialized RX0, Cond.fieldLink RX3 25 "LessonSolver" "clauses" "LLessonSolver$ClauseRow;", Cond.classLink RX3 29 RX1, Cond.instantiable RX1 5, Cond.initialized RX1, Cond.fieldLink RX3 34 "LessonSolver" "search" "LLessonSolver$Search;", Cond.arrayClass .int, Cond.fieldLink RX3 38 "LessonSolver" "assumptions" "[I", Cond.methodLink RX3 24 yX0_init, Cond.instanceMethod yX0_init, Cond.code yX0_init cX0_init 1 none]
def wsX3_init_r2 : List Cond := [Cond.methodLink RX0 3 objectInit, Cond.fieldLink RX0 9 "LessonSolver$ClauseRow" "plus" "[I", Cond.fieldLink RX0 15 "LessonSolver$ClauseRow" "minus" "[I", Cond.methodLink RX3 31 yX1_init, Cond.instanceMethod yX1_init, Cond.code yX1_init cX1_init 3 none, Cond.methodLink RX1 3 objectInit, Cond.fieldLink RX1 9 "LessonSolver$Search" "variables" "I", Cond.fieldLink RX1 15 "LessonSolver$Search" "row" "LLessonSolver$ClauseRow;", Cond.classLink RX1 19 RX2, Cond.instantiable RX2 5, Cond.initialized RX2, Cond.fieldLink RX1 22 "LessonSolver$Search" "trail" "LLessonSolver$Trail;", Cond.fieldLink RX1 26 "LessonSolver$Search" "proof" "LLessonSolver$Trail;", Cond.methodLink RX1 21 yX2_init, Cond.instanceMethod yX2_init, Cond.code yX2_init cX2_init 1 none, Cond.methodLink RX2 3 objectInit, Cond.fieldLink RX2 9 "LessonSolver$Trail" "bits" "[I", Cond.fieldLink RX2 15 "LessonSolver$Trail" "reasons" "[I"]
def wsX3_init : List Cond := .code yX3_init cX3_init 2 none :: ((wsX3_init_r1 ++ wsX3_init_r2) ++ wsX30 ++ wsX00 ++ wsX10 ++ wsX20)
def wsX3_isLiteral : List Cond := .code yX3_isLiteral cX3_isLiteral 2 (some .boolean) :: ([.fieldLink RX3 18 "LessonSolver" "variables" "I"] ++ wsX30)
def wsX3_bitOf : List Cond := .code yX3_bitOf cX3_bitOf 2 (some .int) :: ([.fieldLink RX3 18 "LessonSolver" "variables" "I", .methodLink RX3 86 Lib.Math.abs.name, .static Lib.Math.abs.name, .initialized "java/lang/Math", .code Lib.Math.abs.name Lib.Math.abs.code 1 (some .int)] ++ wsX30)
def wsX3_add : List Cond := .code yX3_add cX3_add 2 (some .boolean) :: ([.fieldLink RX3 46 "LessonSolver" "madeLength" "I", .fieldLink RX3 49 "LessonSolver" "madePlus" "I", .fieldLink RX3 56 "LessonSolver" "madeMinus" "I", .methodLink RX3 42 yX3_isLiteral, .instanceMethod yX3_isLiteral, .selects RX3 yX3_isLiteral yX3_isLiteral, .initialized RX3, .code yX3_isLiteral cX3_isLiteral 2 (some .boolean), .fieldLink RX3 18 "LessonSolver" "variables" "I", .methodLink RX3 52 yX3_bitOf, .instanceMethod yX3_bitOf, .selects RX3 yX3_bitOf yX3_bitOf, .code yX3_bitOf cX3_bitOf 2 (some .int), .methodLink RX3 86 Lib.Math.abs.name, .static Lib.Math.abs.name, .initialized "java/lang/Math", .code Lib.Math.abs.name Lib.Math.abs.code 1 (some .int)] ++ wsX30)
def wsX3_takeMadeClause : List Cond := .code yX3_takeMadeClause cX3_takeMadeClause 1 none :: ([.fieldLink RX3 49 "LessonSolver" "madePlus" "I", .fieldLink RX3 56 "LessonSolver" "madeMinus" "I", .fieldLink RX3 25 "LessonSolver" "clauses" "LLessonSolver$ClauseRow;", .methodLink RX3 89 yX0_give, .instanceMethod yX0_give, .selects RX0 yX0_give yX0_give, .initialized RX0, .code yX0_give cX0_give 3 none, .fieldLink RX0 18 "LessonSolver$ClauseRow" "given" "I", .fieldLink RX0 22 "LessonSolver$ClauseRow" "size" "I", .fieldLink RX0 9 "LessonSolver$ClauseRow" "plus" "[I", .fieldLink RX0 15 "LessonSolver$ClauseRow" "minus" "[I"] ++ wsX30 ++ wsX00)
def wsX3_forgetMadeClause : List Cond := .code yX3_forgetMadeClause cX3_forgetMadeClause 1 none :: ([.fieldLink RX3 49 "LessonSolver" "madePlus" "I", .fieldLink RX3 56 "LessonSolver" "madeMinus" "I", .fieldLink RX3 46 "LessonSolver" "madeLength" "I"] ++ wsX30)
def wsX3_close : List Cond := .code yX3_close cX3_close 2 (some .int) :: ([.fieldLink RX3 59 "LessonSolver" "clauseCount" "I", .fieldLink RX3 62 "LessonSolver" "literalCount" "I", .fieldLink RX3 46 "LessonSolver" "madeLength" "I", .methodLink RX3 65 yX3_takeMadeClause, .instanceMethod yX3_takeMadeClause, .selects RX3 yX3_takeMadeClause yX3_takeMadeClause, .initialized RX3, .code yX3_takeMadeClause cX3_takeMadeClause 1 none, .fieldLink RX3 49 "LessonSolver" "madePlus" "I", .fieldLink RX3 56 "LessonSolver" "madeMinus" "I", .fieldLink RX3 25 "LessonSolver" "clauses" "LLessonSolver$ClauseRow;", .methodLink RX3 89 yX0_give, .instanceMethod yX0_give, .selects RX0 yX0_give yX0_give, .initialized RX0, .code yX0_give cX0_give 3 none, .fieldLink RX0 18 "LessonSolver$ClauseRow" "given" "I", .fieldLink RX0 22 "LessonSolver$ClauseRow" "size" "I", .fieldLink RX0 9 "LessonSolver$ClauseRow" "plus" "[I", .fieldLink RX0 15 "LessonSolver$ClauseRow" "minus" "[I", .methodLink RX3 68 yX3_forgetMadeClause, .instanceMethod yX3_forgetMadeClause, .selects RX3 yX3_forgetMadeClause yX3_forgetMadeClause, .code yX3_forgetMadeClause cX3_forgetMadeClause 1 none] ++ wsX30 ++ wsX00)
def wsX3_assume : List Cond := .code yX3_assume cX3_assume 2 (some .int) :: ([.fieldLink RX3 71 "LessonSolver" "assumptionCount" "I", .fieldLink RX3 38 "LessonSolver" "assumptions" "[I", .methodLink RX3 42 yX3_isLiteral, .instanceMethod yX3_isLiteral, .selects RX3 yX3_isLiteral yX3_isLiteral, .initialized RX3, .code yX3_isLiteral cX3_isLiteral 2 (some .boolean), .fieldLink RX3 18 "LessonSolver" "variables" "I"] ++ wsX30)
def wsX3_retract : List Cond := .code yX3_retract cX3_retract 2 (some .int) :: ([.fieldLink RX3 71 "LessonSolver" "assumptionCount" "I"] ++ wsX30)
def wsX3_firstModelUnder_r1 : List Cond := [Cond.fieldLink RX3 71 "LessonSolver" "assumptionCount" "I", Cond.fieldLink RX3 38 "LessonSolver" "assumptions" "[I", Cond.fieldLink RX3 34 "LessonSolver" "search" "LLessonSolver$Search;", Cond.methodLink RX3 52 yX3_bitOf, Cond.instanceMethod yX3_bitOf, Cond.selects RX3 yX3_bitOf yX3_bitOf, Cond.initialized RX3, Cond.code yX3_bitOf cX3_bitOf 2 (some .int), Cond.fieldLink RX3 18 "LessonSolver" "variables" "I", Cond.methodLink RX3 86 Lib.Math.abs.name, Cond.static Lib.Math.abs.name, Cond.initialized "java/lang/Math", Cond.code Lib.Math.abs.name Lib.Math.abs.code 1 (some .int), Cond.methodLink RX3 93 yX1_firstModel, Cond.instanceMethod yX1_firstModel, Cond.selects RX1 yX1_firstModel yX1_firstModel, Cond.initialized RX1, Cond.code yX1_firstModel cX1_firstModel 3 (some .int), Cond.fieldLink RX1 15 "LessonSolver$Search" "row" "LLessonSolver$ClauseRow;", Cond.fieldLink RX1 22 "LessonSolver$Search" "trail" "LLessonSolver$Trail;", Cond.methodLink RX1 29 yX0_forgetLessonsIfMany, Cond.instanceMethod yX0_forgetLessonsIfMany, Cond.selects RX0 yX0_forgetLessonsIfMany yX0_forgetLessonsIfMany, Cond.initialized RX0]
def wsX3_firstModelUnder_r2 : List Cond := [Cond.code yX0_forgetLessonsIfMany cX0_forgetLessonsIfMany 1 none, Cond.fieldLink RX0 22 "LessonSolver$ClauseRow" "size" "I", Cond.fieldLink RX0 18 "LessonSolver$ClauseRow" "given" "I", Cond.methodLink RX1 34 yX2_start, Cond.instanceMethod yX2_start, Cond.selects RX2 yX2_start yX2_start, Cond.initialized RX2, Cond.code yX2_start cX2_start 5 none, Cond.fieldLink RX2 18 "LessonSolver$Trail" "length" "I", Cond.fieldLink RX2 22 "LessonSolver$Trail" "ones" "I", Cond.fieldLink RX2 25 "LessonSolver$Trail" "zeros" "I", Cond.methodLink RX2 28 yX2_assign, Cond.instanceMethod yX2_assign, Cond.selects RX2 yX2_assign yX2_assign, Cond.code yX2_assign cX2_assign 4 none, Cond.fieldLink RX2 9 "LessonSolver$Trail" "bits" "[I", Cond.fieldLink RX2 15 "LessonSolver$Trail" "reasons" "[I", Cond.methodLink RX1 38 yX1_descend, Cond.instanceMethod yX1_descend, Cond.selects RX1 yX1_descend yX1_descend, Cond.code yX1_descend cX1_descend 8 (some .int), Cond.fieldLink RX1 9 "LessonSolver$Search" "variables" "I", Cond.methodLink RX1 42 yX2_propagate, Cond.instanceMethod yX2_propagate]
def wsX3_firstModelUnder_r3 : List Cond := [Cond.selects RX2 yX2_propagate yX2_propagate, Cond.code yX2_propagate cX2_propagate 7 (some .int), Cond.methodLink RX1 46 yX1_learn, Cond.instanceMethod yX1_learn, Cond.selects RX1 yX1_learn yX1_learn, Cond.code yX1_learn cX1_learn 5 none, Cond.fieldLink RX1 26 "LessonSolver$Search" "proof" "LLessonSolver$Trail;", Cond.fieldLink RX1 80 "LessonSolver$Search" "lapses" "I", Cond.methodLink RX1 66 yX2_rootsOf, Cond.instanceMethod yX2_rootsOf, Cond.selects RX2 yX2_rootsOf yX2_rootsOf, Cond.code yX2_rootsOf cX2_rootsOf 5 (some .int), Cond.methodLink RX1 72 yX0_hasRoomForLesson, Cond.instanceMethod yX0_hasRoomForLesson, Cond.selects RX0 yX0_hasRoomForLesson yX0_hasRoomForLesson, Cond.code yX0_hasRoomForLesson cX0_hasRoomForLesson 1 (some .boolean), Cond.fieldLink RX0 9 "LessonSolver$ClauseRow" "plus" "[I", Cond.methodLink RX1 76 yX0_saysAlready, Cond.instanceMethod yX0_saysAlready, Cond.selects RX0 yX0_saysAlready yX0_saysAlready, Cond.code yX0_saysAlready cX0_saysAlready 4 (some .boolean), Cond.fieldLink RX0 15 "LessonSolver$ClauseRow" "minus" "[I", Cond.methodLink RX1 83 yX0_keepLesson, Cond.instanceMethod yX0_keepLesson]
def wsX3_firstModelUnder_r4 : List Cond := [Cond.selects RX0 yX0_keepLesson yX0_keepLesson, Cond.code yX0_keepLesson cX0_keepLesson 3 none, Cond.methodLink RX0 25 yX0_hasRoomForLesson, Cond.methodLink RX1 50 yX2_firstFree, Cond.instanceMethod yX2_firstFree, Cond.selects RX2 yX2_firstFree yX2_firstFree, Cond.code yX2_firstFree cX2_firstFree 4 (some .int), Cond.methodLink RX1 59 yX2_assign, Cond.methodLink RX1 63 yX2_goBackTo, Cond.instanceMethod yX2_goBackTo, Cond.selects RX2 yX2_goBackTo yX2_goBackTo, Cond.code yX2_goBackTo cX2_goBackTo 3 none, Cond.methodLink RX2 32 Lib.Math.max.name, Cond.static Lib.Math.max.name, Cond.code Lib.Math.max.name Lib.Math.max.code 2 (some .int), Cond.methodLink RX2 38 Lib.Math.min.name, Cond.static Lib.Math.min.name, Cond.code Lib.Math.min.name Lib.Math.min.code 2 (some .int)]
def wsX3_firstModelUnder : List Cond := .code yX3_firstModelUnder cX3_firstModelUnder 7 (some .int) :: ((wsX3_firstModelUnder_r1 ++ (wsX3_firstModelUnder_r2 ++ (wsX3_firstModelUnder_r3 ++ wsX3_firstModelUnder_r4))) ++ wsX30 ++ wsX10 ++ wsX00 ++ wsX20)
def wsX3_solve_r1 : List Cond := [Cond.constantLong RX3 74 (-1), Cond.methodLink RX3 76 yX3_firstModelUnder, Cond.instanceMethod yX3_firstModelUnder, Cond.selects RX3 yX3_firstModelUnder yX3_firstModelUnder, Cond.initialized RX3, Cond.code yX3_firstModelUnder cX3_firstModelUnder 7 (some .int), Cond.fieldLink RX3 71 "LessonSolver" "assumptionCount" "I", Cond.fieldLink RX3 38 "LessonSolver" "assumptions" "[I", Cond.fieldLink RX3 34 "LessonSolver" "search" "LLessonSolver$Search;", Cond.methodLink RX3 52 yX3_bitOf, Cond.instanceMethod yX3_bitOf, Cond.selects RX3 yX3_bitOf yX3_bitOf, Cond.code yX3_bitOf cX3_bitOf 2 (some .int), Cond.fieldLink RX3 18 "LessonSolver" "variables" "I", Cond.methodLink RX3 86 Lib.Math.abs.name, Cond.static Lib.Math.abs.name, Cond.initialized "java/lang/Math", Cond.code Lib.Math.abs.name Lib.Math.abs.code 1 (some .int), Cond.methodLink RX3 93 yX1_firstModel, Cond.instanceMethod yX1_firstModel, Cond.selects RX1 yX1_firstModel yX1_firstModel, Cond.initialized RX1, Cond.code yX1_firstModel cX1_firstModel 3 (some .int), Cond.fieldLink RX1 15 "LessonSolver$Search" "row" "LLessonSolver$ClauseRow;"]
def wsX3_solve_r2 : List Cond := [Cond.fieldLink RX1 22 "LessonSolver$Search" "trail" "LLessonSolver$Trail;", Cond.methodLink RX1 29 yX0_forgetLessonsIfMany, Cond.instanceMethod yX0_forgetLessonsIfMany, Cond.selects RX0 yX0_forgetLessonsIfMany yX0_forgetLessonsIfMany, Cond.initialized RX0, Cond.code yX0_forgetLessonsIfMany cX0_forgetLessonsIfMany 1 none, Cond.fieldLink RX0 22 "LessonSolver$ClauseRow" "size" "I", Cond.fieldLink RX0 18 "LessonSolver$ClauseRow" "given" "I", Cond.methodLink RX1 34 yX2_start, Cond.instanceMethod yX2_start, Cond.selects RX2 yX2_start yX2_start, Cond.initialized RX2, Cond.code yX2_start cX2_start 5 none, Cond.fieldLink RX2 18 "LessonSolver$Trail" "length" "I", Cond.fieldLink RX2 22 "LessonSolver$Trail" "ones" "I", Cond.fieldLink RX2 25 "LessonSolver$Trail" "zeros" "I", Cond.methodLink RX2 28 yX2_assign, Cond.instanceMethod yX2_assign, Cond.selects RX2 yX2_assign yX2_assign, Cond.code yX2_assign cX2_assign 4 none, Cond.fieldLink RX2 9 "LessonSolver$Trail" "bits" "[I", Cond.fieldLink RX2 15 "LessonSolver$Trail" "reasons" "[I", Cond.methodLink RX1 38 yX1_descend, Cond.instanceMethod yX1_descend]
def wsX3_solve_r3 : List Cond := [Cond.selects RX1 yX1_descend yX1_descend, Cond.code yX1_descend cX1_descend 8 (some .int), Cond.fieldLink RX1 9 "LessonSolver$Search" "variables" "I", Cond.methodLink RX1 42 yX2_propagate, Cond.instanceMethod yX2_propagate, Cond.selects RX2 yX2_propagate yX2_propagate, Cond.code yX2_propagate cX2_propagate 7 (some .int), Cond.methodLink RX1 46 yX1_learn, Cond.instanceMethod yX1_learn, Cond.selects RX1 yX1_learn yX1_learn, Cond.code yX1_learn cX1_learn 5 none, Cond.fieldLink RX1 26 "LessonSolver$Search" "proof" "LLessonSolver$Trail;", Cond.fieldLink RX1 80 "LessonSolver$Search" "lapses" "I", Cond.methodLink RX1 66 yX2_rootsOf, Cond.instanceMethod yX2_rootsOf, Cond.selects RX2 yX2_rootsOf yX2_rootsOf, Cond.code yX2_rootsOf cX2_rootsOf 5 (some .int), Cond.methodLink RX1 72 yX0_hasRoomForLesson, Cond.instanceMethod yX0_hasRoomForLesson, Cond.selects RX0 yX0_hasRoomForLesson yX0_hasRoomForLesson, Cond.code yX0_hasRoomForLesson cX0_hasRoomForLesson 1 (some .boolean), Cond.fieldLink RX0 9 "LessonSolver$ClauseRow" "plus" "[I", Cond.methodLink RX1 76 yX0_saysAlready, Cond.instanceMethod yX0_saysAlready]
def wsX3_solve_r4 : List Cond := [Cond.selects RX0 yX0_saysAlready yX0_saysAlready, Cond.code yX0_saysAlready cX0_saysAlready 4 (some .boolean), Cond.fieldLink RX0 15 "LessonSolver$ClauseRow" "minus" "[I", Cond.methodLink RX1 83 yX0_keepLesson, Cond.instanceMethod yX0_keepLesson, Cond.selects RX0 yX0_keepLesson yX0_keepLesson, Cond.code yX0_keepLesson cX0_keepLesson 3 none, Cond.methodLink RX0 25 yX0_hasRoomForLesson, Cond.methodLink RX1 50 yX2_firstFree, Cond.instanceMethod yX2_firstFree, Cond.selects RX2 yX2_firstFree yX2_firstFree, Cond.code yX2_firstFree cX2_firstFree 4 (some .int), Cond.methodLink RX1 59 yX2_assign, Cond.methodLink RX1 63 yX2_goBackTo, Cond.instanceMethod yX2_goBackTo, Cond.selects RX2 yX2_goBackTo yX2_goBackTo, Cond.code yX2_goBackTo cX2_goBackTo 3 none, Cond.methodLink RX2 32 Lib.Math.max.name, Cond.static Lib.Math.max.name, Cond.code Lib.Math.max.name Lib.Math.max.code 2 (some .int), Cond.methodLink RX2 38 Lib.Math.min.name, Cond.static Lib.Math.min.name, Cond.code Lib.Math.min.name Lib.Math.min.code 2 (some .int)]
def wsX3_solve : List Cond := .code yX3_solve cX3_solve 1 (some .boolean) :: ((wsX3_solve_r1 ++ (wsX3_solve_r2 ++ (wsX3_solve_r3 ++ wsX3_solve_r4))) ++ wsX30 ++ wsX10 ++ wsX00 ++ wsX20)
def wsX3_least_r1 : List Cond := [Cond.constantLong RX3 74 (-1), Cond.methodLink RX3 76 yX3_firstModelUnder, Cond.instanceMethod yX3_firstModelUnder, Cond.selects RX3 yX3_firstModelUnder yX3_firstModelUnder, Cond.initialized RX3, Cond.code yX3_firstModelUnder cX3_firstModelUnder 7 (some .int), Cond.fieldLink RX3 71 "LessonSolver" "assumptionCount" "I", Cond.fieldLink RX3 38 "LessonSolver" "assumptions" "[I", Cond.fieldLink RX3 34 "LessonSolver" "search" "LLessonSolver$Search;", Cond.methodLink RX3 52 yX3_bitOf, Cond.instanceMethod yX3_bitOf, Cond.selects RX3 yX3_bitOf yX3_bitOf, Cond.code yX3_bitOf cX3_bitOf 2 (some .int), Cond.fieldLink RX3 18 "LessonSolver" "variables" "I", Cond.methodLink RX3 86 Lib.Math.abs.name, Cond.static Lib.Math.abs.name, Cond.initialized "java/lang/Math", Cond.code Lib.Math.abs.name Lib.Math.abs.code 1 (some .int), Cond.methodLink RX3 93 yX1_firstModel, Cond.instanceMethod yX1_firstModel, Cond.selects RX1 yX1_firstModel yX1_firstModel, Cond.initialized RX1, Cond.code yX1_firstModel cX1_firstModel 3 (some .int), Cond.fieldLink RX1 15 "LessonSolver$Search" "row" "LLessonSolver$ClauseRow;"]
def wsX3_least_r2 : List Cond := [Cond.fieldLink RX1 22 "LessonSolver$Search" "trail" "LLessonSolver$Trail;", Cond.methodLink RX1 29 yX0_forgetLessonsIfMany, Cond.instanceMethod yX0_forgetLessonsIfMany, Cond.selects RX0 yX0_forgetLessonsIfMany yX0_forgetLessonsIfMany, Cond.initialized RX0, Cond.code yX0_forgetLessonsIfMany cX0_forgetLessonsIfMany 1 none, Cond.fieldLink RX0 22 "LessonSolver$ClauseRow" "size" "I", Cond.fieldLink RX0 18 "LessonSolver$ClauseRow" "given" "I", Cond.methodLink RX1 34 yX2_start, Cond.instanceMethod yX2_start, Cond.selects RX2 yX2_start yX2_start, Cond.initialized RX2, Cond.code yX2_start cX2_start 5 none, Cond.fieldLink RX2 18 "LessonSolver$Trail" "length" "I", Cond.fieldLink RX2 22 "LessonSolver$Trail" "ones" "I", Cond.fieldLink RX2 25 "LessonSolver$Trail" "zeros" "I", Cond.methodLink RX2 28 yX2_assign, Cond.instanceMethod yX2_assign, Cond.selects RX2 yX2_assign yX2_assign, Cond.code yX2_assign cX2_assign 4 none, Cond.fieldLink RX2 9 "LessonSolver$Trail" "bits" "[I", Cond.fieldLink RX2 15 "LessonSolver$Trail" "reasons" "[I", Cond.methodLink RX1 38 yX1_descend, Cond.instanceMethod yX1_descend]
def wsX3_least_r3 : List Cond := [Cond.selects RX1 yX1_descend yX1_descend, Cond.code yX1_descend cX1_descend 8 (some .int), Cond.fieldLink RX1 9 "LessonSolver$Search" "variables" "I", Cond.methodLink RX1 42 yX2_propagate, Cond.instanceMethod yX2_propagate, Cond.selects RX2 yX2_propagate yX2_propagate, Cond.code yX2_propagate cX2_propagate 7 (some .int), Cond.methodLink RX1 46 yX1_learn, Cond.instanceMethod yX1_learn, Cond.selects RX1 yX1_learn yX1_learn, Cond.code yX1_learn cX1_learn 5 none, Cond.fieldLink RX1 26 "LessonSolver$Search" "proof" "LLessonSolver$Trail;", Cond.fieldLink RX1 80 "LessonSolver$Search" "lapses" "I", Cond.methodLink RX1 66 yX2_rootsOf, Cond.instanceMethod yX2_rootsOf, Cond.selects RX2 yX2_rootsOf yX2_rootsOf, Cond.code yX2_rootsOf cX2_rootsOf 5 (some .int), Cond.methodLink RX1 72 yX0_hasRoomForLesson, Cond.instanceMethod yX0_hasRoomForLesson, Cond.selects RX0 yX0_hasRoomForLesson yX0_hasRoomForLesson, Cond.code yX0_hasRoomForLesson cX0_hasRoomForLesson 1 (some .boolean), Cond.fieldLink RX0 9 "LessonSolver$ClauseRow" "plus" "[I", Cond.methodLink RX1 76 yX0_saysAlready, Cond.instanceMethod yX0_saysAlready]
def wsX3_least_r4 : List Cond := [Cond.selects RX0 yX0_saysAlready yX0_saysAlready, Cond.code yX0_saysAlready cX0_saysAlready 4 (some .boolean), Cond.fieldLink RX0 15 "LessonSolver$ClauseRow" "minus" "[I", Cond.methodLink RX1 83 yX0_keepLesson, Cond.instanceMethod yX0_keepLesson, Cond.selects RX0 yX0_keepLesson yX0_keepLesson, Cond.code yX0_keepLesson cX0_keepLesson 3 none, Cond.methodLink RX0 25 yX0_hasRoomForLesson, Cond.methodLink RX1 50 yX2_firstFree, Cond.instanceMethod yX2_firstFree, Cond.selects RX2 yX2_firstFree yX2_firstFree, Cond.code yX2_firstFree cX2_firstFree 4 (some .int), Cond.methodLink RX1 59 yX2_assign, Cond.methodLink RX1 63 yX2_goBackTo, Cond.instanceMethod yX2_goBackTo, Cond.selects RX2 yX2_goBackTo yX2_goBackTo, Cond.code yX2_goBackTo cX2_goBackTo 3 none, Cond.methodLink RX2 32 Lib.Math.max.name, Cond.static Lib.Math.max.name, Cond.code Lib.Math.max.name Lib.Math.max.code 2 (some .int), Cond.methodLink RX2 38 Lib.Math.min.name, Cond.static Lib.Math.min.name, Cond.code Lib.Math.min.name Lib.Math.min.code 2 (some .int)]
def wsX3_least : List Cond := .code yX3_least cX3_least 1 (some .int) :: ((wsX3_least_r1 ++ (wsX3_least_r2 ++ (wsX3_least_r3 ++ wsX3_least_r4))) ++ wsX30 ++ wsX10 ++ wsX00 ++ wsX20)
def wsX3_implied_r1 : List Cond := [Cond.constantLong RX3 74 (-1), Cond.methodLink RX3 42 yX3_isLiteral, Cond.instanceMethod yX3_isLiteral, Cond.selects RX3 yX3_isLiteral yX3_isLiteral, Cond.initialized RX3, Cond.code yX3_isLiteral cX3_isLiteral 2 (some .boolean), Cond.fieldLink RX3 18 "LessonSolver" "variables" "I", Cond.methodLink RX3 76 yX3_firstModelUnder, Cond.instanceMethod yX3_firstModelUnder, Cond.selects RX3 yX3_firstModelUnder yX3_firstModelUnder, Cond.code yX3_firstModelUnder cX3_firstModelUnder 7 (some .int), Cond.fieldLink RX3 71 "LessonSolver" "assumptionCount" "I", Cond.fieldLink RX3 38 "LessonSolver" "assumptions" "[I", Cond.fieldLink RX3 34 "LessonSolver" "search" "LLessonSolver$Search;", Cond.methodLink RX3 52 yX3_bitOf, Cond.instanceMethod yX3_bitOf, Cond.selects RX3 yX3_bitOf yX3_bitOf, Cond.code yX3_bitOf cX3_bitOf 2 (some .int), Cond.methodLink RX3 86 Lib.Math.abs.name, Cond.static Lib.Math.abs.name, Cond.initialized "java/lang/Math", Cond.code Lib.Math.abs.name Lib.Math.abs.code 1 (some .int), Cond.methodLink RX3 93 yX1_firstModel, Cond.instanceMethod yX1_firstModel]
def wsX3_implied_r2 : List Cond := [Cond.selects RX1 yX1_firstModel yX1_firstModel, Cond.initialized RX1, Cond.code yX1_firstModel cX1_firstModel 3 (some .int), Cond.fieldLink RX1 15 "LessonSolver$Search" "row" "LLessonSolver$ClauseRow;", Cond.fieldLink RX1 22 "LessonSolver$Search" "trail" "LLessonSolver$Trail;", Cond.methodLink RX1 29 yX0_forgetLessonsIfMany, Cond.instanceMethod yX0_forgetLessonsIfMany, Cond.selects RX0 yX0_forgetLessonsIfMany yX0_forgetLessonsIfMany, Cond.initialized RX0, Cond.code yX0_forgetLessonsIfMany cX0_forgetLessonsIfMany 1 none, Cond.fieldLink RX0 22 "LessonSolver$ClauseRow" "size" "I", Cond.fieldLink RX0 18 "LessonSolver$ClauseRow" "given" "I", Cond.methodLink RX1 34 yX2_start, Cond.instanceMethod yX2_start, Cond.selects RX2 yX2_start yX2_start, Cond.initialized RX2, Cond.code yX2_start cX2_start 5 none, Cond.fieldLink RX2 18 "LessonSolver$Trail" "length" "I", Cond.fieldLink RX2 22 "LessonSolver$Trail" "ones" "I", Cond.fieldLink RX2 25 "LessonSolver$Trail" "zeros" "I", Cond.methodLink RX2 28 yX2_assign, Cond.instanceMethod yX2_assign, Cond.selects RX2 yX2_assign yX2_assign, Cond.code yX2_assign cX2_assign 4 none]
def wsX3_implied_r3 : List Cond := [Cond.fieldLink RX2 9 "LessonSolver$Trail" "bits" "[I", Cond.fieldLink RX2 15 "LessonSolver$Trail" "reasons" "[I", Cond.methodLink RX1 38 yX1_descend, Cond.instanceMethod yX1_descend, Cond.selects RX1 yX1_descend yX1_descend, Cond.code yX1_descend cX1_descend 8 (some .int), Cond.fieldLink RX1 9 "LessonSolver$Search" "variables" "I", Cond.methodLink RX1 42 yX2_propagate, Cond.instanceMethod yX2_propagate, Cond.selects RX2 yX2_propagate yX2_propagate, Cond.code yX2_propagate cX2_propagate 7 (some .int), Cond.methodLink RX1 46 yX1_learn, Cond.instanceMethod yX1_learn, Cond.selects RX1 yX1_learn yX1_learn, Cond.code yX1_learn cX1_learn 5 none, Cond.fieldLink RX1 26 "LessonSolver$Search" "proof" "LLessonSolver$Trail;", Cond.fieldLink RX1 80 "LessonSolver$Search" "lapses" "I", Cond.methodLink RX1 66 yX2_rootsOf, Cond.instanceMethod yX2_rootsOf, Cond.selects RX2 yX2_rootsOf yX2_rootsOf, Cond.code yX2_rootsOf cX2_rootsOf 5 (some .int), Cond.methodLink RX1 72 yX0_hasRoomForLesson, Cond.instanceMethod yX0_hasRoomForLesson, Cond.selects RX0 yX0_hasRoomForLesson yX0_hasRoomForLesson]
def wsX3_implied_r4 : List Cond := [Cond.code yX0_hasRoomForLesson cX0_hasRoomForLesson 1 (some .boolean), Cond.fieldLink RX0 9 "LessonSolver$ClauseRow" "plus" "[I", Cond.methodLink RX1 76 yX0_saysAlready, Cond.instanceMethod yX0_saysAlready, Cond.selects RX0 yX0_saysAlready yX0_saysAlready, Cond.code yX0_saysAlready cX0_saysAlready 4 (some .boolean), Cond.fieldLink RX0 15 "LessonSolver$ClauseRow" "minus" "[I", Cond.methodLink RX1 83 yX0_keepLesson, Cond.instanceMethod yX0_keepLesson, Cond.selects RX0 yX0_keepLesson yX0_keepLesson, Cond.code yX0_keepLesson cX0_keepLesson 3 none, Cond.methodLink RX0 25 yX0_hasRoomForLesson, Cond.methodLink RX1 50 yX2_firstFree, Cond.instanceMethod yX2_firstFree, Cond.selects RX2 yX2_firstFree yX2_firstFree, Cond.code yX2_firstFree cX2_firstFree 4 (some .int), Cond.methodLink RX1 59 yX2_assign, Cond.methodLink RX1 63 yX2_goBackTo, Cond.instanceMethod yX2_goBackTo, Cond.selects RX2 yX2_goBackTo yX2_goBackTo, Cond.code yX2_goBackTo cX2_goBackTo 3 none, Cond.methodLink RX2 32 Lib.Math.max.name, Cond.static Lib.Math.max.name, Cond.code Lib.Math.max.name Lib.Math.max.code 2 (some .int)]
def wsX3_implied_r5 : List Cond := [Cond.methodLink RX2 38 Lib.Math.min.name, Cond.static Lib.Math.min.name, Cond.code Lib.Math.min.name Lib.Math.min.code 2 (some .int)]
def wsX3_implied : List Cond := .code yX3_implied cX3_implied 2 (some .int) :: ((wsX3_implied_r1 ++ (wsX3_implied_r2 ++ (wsX3_implied_r3 ++ (wsX3_implied_r4 ++ wsX3_implied_r5)))) ++ wsX30 ++ wsX10 ++ wsX00 ++ wsX20)
def wsX3_core_r1 : List Cond := [Cond.constantLong RX3 74 (-1), Cond.fieldLink RX3 71 "LessonSolver" "assumptionCount" "I", Cond.methodLink RX3 76 yX3_firstModelUnder, Cond.instanceMethod yX3_firstModelUnder, Cond.selects RX3 yX3_firstModelUnder yX3_firstModelUnder, Cond.initialized RX3, Cond.code yX3_firstModelUnder cX3_firstModelUnder 7 (some .int), Cond.fieldLink RX3 38 "LessonSolver" "assumptions" "[I", Cond.fieldLink RX3 34 "LessonSolver" "search" "LLessonSolver$Search;", Cond.methodLink RX3 52 yX3_bitOf, Cond.instanceMethod yX3_bitOf, Cond.selects RX3 yX3_bitOf yX3_bitOf, Cond.code yX3_bitOf cX3_bitOf 2 (some .int), Cond.fieldLink RX3 18 "LessonSolver" "variables" "I", Cond.methodLink RX3 86 Lib.Math.abs.name, Cond.static Lib.Math.abs.name, Cond.initialized "java/lang/Math", Cond.code Lib.Math.abs.name Lib.Math.abs.code 1 (some .int), Cond.methodLink RX3 93 yX1_firstModel, Cond.instanceMethod yX1_firstModel, Cond.selects RX1 yX1_firstModel yX1_firstModel, Cond.initialized RX1, Cond.code yX1_firstModel cX1_firstModel 3 (some .int), Cond.fieldLink RX1 15 "LessonSolver$Search" "row" "LLessonSolver$ClauseRow;"]
def wsX3_core_r2 : List Cond := [Cond.fieldLink RX1 22 "LessonSolver$Search" "trail" "LLessonSolver$Trail;", Cond.methodLink RX1 29 yX0_forgetLessonsIfMany, Cond.instanceMethod yX0_forgetLessonsIfMany, Cond.selects RX0 yX0_forgetLessonsIfMany yX0_forgetLessonsIfMany, Cond.initialized RX0, Cond.code yX0_forgetLessonsIfMany cX0_forgetLessonsIfMany 1 none, Cond.fieldLink RX0 22 "LessonSolver$ClauseRow" "size" "I", Cond.fieldLink RX0 18 "LessonSolver$ClauseRow" "given" "I", Cond.methodLink RX1 34 yX2_start, Cond.instanceMethod yX2_start, Cond.selects RX2 yX2_start yX2_start, Cond.initialized RX2, Cond.code yX2_start cX2_start 5 none, Cond.fieldLink RX2 18 "LessonSolver$Trail" "length" "I", Cond.fieldLink RX2 22 "LessonSolver$Trail" "ones" "I", Cond.fieldLink RX2 25 "LessonSolver$Trail" "zeros" "I", Cond.methodLink RX2 28 yX2_assign, Cond.instanceMethod yX2_assign, Cond.selects RX2 yX2_assign yX2_assign, Cond.code yX2_assign cX2_assign 4 none, Cond.fieldLink RX2 9 "LessonSolver$Trail" "bits" "[I", Cond.fieldLink RX2 15 "LessonSolver$Trail" "reasons" "[I", Cond.methodLink RX1 38 yX1_descend, Cond.instanceMethod yX1_descend]
def wsX3_core_r3 : List Cond := [Cond.selects RX1 yX1_descend yX1_descend, Cond.code yX1_descend cX1_descend 8 (some .int), Cond.fieldLink RX1 9 "LessonSolver$Search" "variables" "I", Cond.methodLink RX1 42 yX2_propagate, Cond.instanceMethod yX2_propagate, Cond.selects RX2 yX2_propagate yX2_propagate, Cond.code yX2_propagate cX2_propagate 7 (some .int), Cond.methodLink RX1 46 yX1_learn, Cond.instanceMethod yX1_learn, Cond.selects RX1 yX1_learn yX1_learn, Cond.code yX1_learn cX1_learn 5 none, Cond.fieldLink RX1 26 "LessonSolver$Search" "proof" "LLessonSolver$Trail;", Cond.fieldLink RX1 80 "LessonSolver$Search" "lapses" "I", Cond.methodLink RX1 66 yX2_rootsOf, Cond.instanceMethod yX2_rootsOf, Cond.selects RX2 yX2_rootsOf yX2_rootsOf, Cond.code yX2_rootsOf cX2_rootsOf 5 (some .int), Cond.methodLink RX1 72 yX0_hasRoomForLesson, Cond.instanceMethod yX0_hasRoomForLesson, Cond.selects RX0 yX0_hasRoomForLesson yX0_hasRoomForLesson, Cond.code yX0_hasRoomForLesson cX0_hasRoomForLesson 1 (some .boolean), Cond.fieldLink RX0 9 "LessonSolver$ClauseRow" "plus" "[I", Cond.methodLink RX1 76 yX0_saysAlready, Cond.instanceMethod yX0_saysAlready]
def wsX3_core_r4 : List Cond := [Cond.selects RX0 yX0_saysAlready yX0_saysAlready, Cond.code yX0_saysAlready cX0_saysAlready 4 (some .boolean), Cond.fieldLink RX0 15 "LessonSolver$ClauseRow" "minus" "[I", Cond.methodLink RX1 83 yX0_keepLesson, Cond.instanceMethod yX0_keepLesson, Cond.selects RX0 yX0_keepLesson yX0_keepLesson, Cond.code yX0_keepLesson cX0_keepLesson 3 none, Cond.methodLink RX0 25 yX0_hasRoomForLesson, Cond.methodLink RX1 50 yX2_firstFree, Cond.instanceMethod yX2_firstFree, Cond.selects RX2 yX2_firstFree yX2_firstFree, Cond.code yX2_firstFree cX2_firstFree 4 (some .int), Cond.methodLink RX1 59 yX2_assign, Cond.methodLink RX1 63 yX2_goBackTo, Cond.instanceMethod yX2_goBackTo, Cond.selects RX2 yX2_goBackTo yX2_goBackTo, Cond.code yX2_goBackTo cX2_goBackTo 3 none, Cond.methodLink RX2 32 Lib.Math.max.name, Cond.static Lib.Math.max.name, Cond.code Lib.Math.max.name Lib.Math.max.code 2 (some .int), Cond.methodLink RX2 38 Lib.Math.min.name, Cond.static Lib.Math.min.name, Cond.code Lib.Math.min.name Lib.Math.min.code 2 (some .int)]
def wsX3_core : List Cond := .code yX3_core cX3_core 6 (some .long) :: ((wsX3_core_r1 ++ (wsX3_core_r2 ++ (wsX3_core_r3 ++ wsX3_core_r4))) ++ wsX30 ++ wsX10 ++ wsX00 ++ wsX20)
def wsJ9_abs_0f7a4 : List Cond := .code yJ9_abs_0f7a4 cJ9_abs_0f7a4 1 (some .int) :: ([])
def wsJ9_max_7cf53 : List Cond := .code yJ9_max_7cf53 cJ9_max_7cf53 2 (some .int) :: ([])
def wsJ9_min_7cf53 : List Cond := .code yJ9_min_7cf53 cJ9_min_7cf53 2 (some .int) :: ([])
def wsL_law_r1 : List Cond := [Cond.classLink RL 7 RX3, Cond.instantiable RX3 10, Cond.initialized RX3, Cond.methodLink RL 15 yX3_init, Cond.instanceMethod yX3_init, Cond.code yX3_init cX3_init 2 none, Cond.methodLink RX3 1 objectInit, Cond.instanceMethod objectInit, Cond.code objectInit ⟨#[0xb1]⟩ 1 none, Cond.methodLink RX3 9 Lib.Math.min.name, Cond.static Lib.Math.min.name, Cond.initialized "java/lang/Math", Cond.code Lib.Math.min.name Lib.Math.min.code 2 (some .int), Cond.methodLink RX3 15 Lib.Math.max.name, Cond.static Lib.Math.max.name, Cond.code Lib.Math.max.name Lib.Math.max.code 2 (some .int), Cond.fieldLink RX3 18 "LessonSolver" "variables" "I", Cond.classLink RX3 22 RX0, Cond.instantiable RX0 4, Cond.initialized RX0, Cond.fieldLink RX3 25 "LessonSolver" "clauses" "LLessonSolver$ClauseRow;", Cond.classLink RX3 29 RX1, Cond.instantiable RX1 5, Cond.initialized RX1]
def wsL_law_r2 : List Cond := [Cond.fieldLink RX3 34 "LessonSolver" "search" "LLessonSolver$Search;", Cond.arrayClass .int, Cond.fieldLink RX3 38 "LessonSolver" "assumptions" "[I", Cond.methodLink RX3 24 yX0_init, Cond.instanceMethod yX0_init, Cond.code yX0_init cX0_init 1 none, Cond.methodLink RX0 3 objectInit, Cond.fieldLink RX0 9 "LessonSolver$ClauseRow" "plus" "[I", Cond.fieldLink RX0 15 "LessonSolver$ClauseRow" "minus" "[I", Cond.methodLink RX3 31 yX1_init, Cond.instanceMethod yX1_init, Cond.code yX1_init cX1_init 3 none, Cond.methodLink RX1 3 objectInit, Cond.fieldLink RX1 9 "LessonSolver$Search" "variables" "I", Cond.fieldLink RX1 15 "LessonSolver$Search" "row" "LLessonSolver$ClauseRow;", Cond.classLink RX1 19 RX2, Cond.instantiable RX2 5, Cond.initialized RX2, Cond.fieldLink RX1 22 "LessonSolver$Search" "trail" "LLessonSolver$Trail;", Cond.fieldLink RX1 26 "LessonSolver$Search" "proof" "LLessonSolver$Trail;", Cond.methodLink RX1 21 yX2_init, Cond.instanceMethod yX2_init, Cond.code yX2_init cX2_init 1 none, Cond.methodLink RX2 3 objectInit]
def wsL_law_r3 : List Cond := [Cond.fieldLink RX2 9 "LessonSolver$Trail" "bits" "[I", Cond.fieldLink RX2 15 "LessonSolver$Trail" "reasons" "[I", Cond.methodLink RL 21 yX3_add, Cond.instanceMethod yX3_add, Cond.selects RX3 yX3_add yX3_add, Cond.code yX3_add cX3_add 2 (some .boolean), Cond.fieldLink RX3 46 "LessonSolver" "madeLength" "I", Cond.fieldLink RX3 49 "LessonSolver" "madePlus" "I", Cond.fieldLink RX3 56 "LessonSolver" "madeMinus" "I", Cond.methodLink RX3 42 yX3_isLiteral, Cond.instanceMethod yX3_isLiteral, Cond.selects RX3 yX3_isLiteral yX3_isLiteral, Cond.code yX3_isLiteral cX3_isLiteral 2 (some .boolean), Cond.methodLink RX3 52 yX3_bitOf, Cond.instanceMethod yX3_bitOf, Cond.selects RX3 yX3_bitOf yX3_bitOf, Cond.code yX3_bitOf cX3_bitOf 2 (some .int), Cond.methodLink RX3 86 Lib.Math.abs.name, Cond.static Lib.Math.abs.name, Cond.code Lib.Math.abs.name Lib.Math.abs.code 1 (some .int), Cond.methodLink RL 26 yX3_close, Cond.instanceMethod yX3_close, Cond.selects RX3 yX3_close yX3_close, Cond.code yX3_close cX3_close 2 (some .int)]
def wsL_law_r4 : List Cond := [Cond.fieldLink RX3 59 "LessonSolver" "clauseCount" "I", Cond.fieldLink RX3 62 "LessonSolver" "literalCount" "I", Cond.methodLink RX3 65 yX3_takeMadeClause, Cond.instanceMethod yX3_takeMadeClause, Cond.selects RX3 yX3_takeMadeClause yX3_takeMadeClause, Cond.code yX3_takeMadeClause cX3_takeMadeClause 1 none, Cond.methodLink RX3 89 yX0_give, Cond.instanceMethod yX0_give, Cond.selects RX0 yX0_give yX0_give, Cond.code yX0_give cX0_give 3 none, Cond.fieldLink RX0 18 "LessonSolver$ClauseRow" "given" "I", Cond.fieldLink RX0 22 "LessonSolver$ClauseRow" "size" "I", Cond.methodLink RX3 68 yX3_forgetMadeClause, Cond.instanceMethod yX3_forgetMadeClause, Cond.selects RX3 yX3_forgetMadeClause yX3_forgetMadeClause, Cond.code yX3_forgetMadeClause cX3_forgetMadeClause 1 none, Cond.methodLink RL 31 yX3_assume, Cond.instanceMethod yX3_assume, Cond.selects RX3 yX3_assume yX3_assume, Cond.code yX3_assume cX3_assume 2 (some .int), Cond.fieldLink RX3 71 "LessonSolver" "assumptionCount" "I", Cond.methodLink RL 36 yX3_retract, Cond.instanceMethod yX3_retract, Cond.selects RX3 yX3_retract yX3_retract]
def wsL_law_r5 : List Cond := [Cond.code yX3_retract cX3_retract 2 (some .int), Cond.methodLink RL 40 yX3_solve, Cond.instanceMethod yX3_solve, Cond.selects RX3 yX3_solve yX3_solve, Cond.code yX3_solve cX3_solve 1 (some .boolean), Cond.constantLong RX3 74 (-1), Cond.methodLink RX3 76 yX3_firstModelUnder, Cond.instanceMethod yX3_firstModelUnder, Cond.selects RX3 yX3_firstModelUnder yX3_firstModelUnder, Cond.code yX3_firstModelUnder cX3_firstModelUnder 7 (some .int), Cond.methodLink RX3 93 yX1_firstModel, Cond.instanceMethod yX1_firstModel, Cond.selects RX1 yX1_firstModel yX1_firstModel, Cond.code yX1_firstModel cX1_firstModel 3 (some .int), Cond.methodLink RX1 29 yX0_forgetLessonsIfMany, Cond.instanceMethod yX0_forgetLessonsIfMany, Cond.selects RX0 yX0_forgetLessonsIfMany yX0_forgetLessonsIfMany, Cond.code yX0_forgetLessonsIfMany cX0_forgetLessonsIfMany 1 none, Cond.methodLink RX1 34 yX2_start, Cond.instanceMethod yX2_start, Cond.selects RX2 yX2_start yX2_start, Cond.code yX2_start cX2_start 5 none, Cond.fieldLink RX2 18 "LessonSolver$Trail" "length" "I", Cond.fieldLink RX2 22 "LessonSolver$Trail" "ones" "I"]
def wsL_law_r6 : List Cond := [Cond.fieldLink RX2 25 "LessonSolver$Trail" "zeros" "I", Cond.methodLink RX2 28 yX2_assign, Cond.instanceMethod yX2_assign, Cond.selects RX2 yX2_assign yX2_assign, Cond.code yX2_assign cX2_assign 4 none, Cond.methodLink RX1 38 yX1_descend, Cond.instanceMethod yX1_descend, Cond.selects RX1 yX1_descend yX1_descend, Cond.code yX1_descend cX1_descend 8 (some .int), Cond.methodLink RX1 42 yX2_propagate, Cond.instanceMethod yX2_propagate, Cond.selects RX2 yX2_propagate yX2_propagate, Cond.code yX2_propagate cX2_propagate 7 (some .int), Cond.methodLink RX1 46 yX1_learn, Cond.instanceMethod yX1_learn, Cond.selects RX1 yX1_learn yX1_learn, Cond.code yX1_learn cX1_learn 5 none, Cond.fieldLink RX1 80 "LessonSolver$Search" "lapses" "I", Cond.methodLink RX1 66 yX2_rootsOf, Cond.instanceMethod yX2_rootsOf, Cond.selects RX2 yX2_rootsOf yX2_rootsOf, Cond.code yX2_rootsOf cX2_rootsOf 5 (some .int), Cond.methodLink RX1 72 yX0_hasRoomForLesson, Cond.instanceMethod yX0_hasRoomForLesson]
def wsL_law_r7 : List Cond := [Cond.selects RX0 yX0_hasRoomForLesson yX0_hasRoomForLesson, Cond.code yX0_hasRoomForLesson cX0_hasRoomForLesson 1 (some .boolean), Cond.methodLink RX1 76 yX0_saysAlready, Cond.instanceMethod yX0_saysAlready, Cond.selects RX0 yX0_saysAlready yX0_saysAlready, Cond.code yX0_saysAlready cX0_saysAlready 4 (some .boolean), Cond.methodLink RX1 83 yX0_keepLesson, Cond.instanceMethod yX0_keepLesson, Cond.selects RX0 yX0_keepLesson yX0_keepLesson, Cond.code yX0_keepLesson cX0_keepLesson 3 none, Cond.methodLink RX0 25 yX0_hasRoomForLesson, Cond.methodLink RX1 50 yX2_firstFree, Cond.instanceMethod yX2_firstFree, Cond.selects RX2 yX2_firstFree yX2_firstFree, Cond.code yX2_firstFree cX2_firstFree 4 (some .int), Cond.methodLink RX1 59 yX2_assign, Cond.methodLink RX1 63 yX2_goBackTo, Cond.instanceMethod yX2_goBackTo, Cond.selects RX2 yX2_goBackTo yX2_goBackTo, Cond.code yX2_goBackTo cX2_goBackTo 3 none, Cond.methodLink RX2 32 Lib.Math.max.name, Cond.methodLink RX2 38 Lib.Math.min.name, Cond.methodLink RL 45 yX3_least, Cond.instanceMethod yX3_least]
def wsL_law_r8 : List Cond := [Cond.selects RX3 yX3_least yX3_least, Cond.code yX3_least cX3_least 1 (some .int), Cond.methodLink RL 49 yX3_implied, Cond.instanceMethod yX3_implied, Cond.selects RX3 yX3_implied yX3_implied, Cond.code yX3_implied cX3_implied 2 (some .int), Cond.methodLink RL 53 yX3_core, Cond.instanceMethod yX3_core, Cond.selects RX3 yX3_core yX3_core, Cond.code yX3_core cX3_core 6 (some .long)]
def wsL_law : List Cond := (wsL_law_r1 ++ (wsL_law_r2 ++ (wsL_law_r3 ++ (wsL_law_r4 ++ (wsL_law_r5 ++ (wsL_law_r6 ++ (wsL_law_r7 ++ wsL_law_r8))))))) ++ wsX30 ++ wsX00 ++ wsX10 ++ wsX20 ++ ([] : List Cond)
set_option maxRecDepth 20000 in
theorem wsL_law_in : ∀ w ∈ wsL_law, w ∈ lw_tbl := by decide +kernel
theorem inlX0 : ∀ w ∈ wsX00, w ∈ wsL_law := fun _ h => List.mem_append_left _ (List.mem_append_left _ (List.mem_append_left _ (List.mem_append_right _ h)))
theorem inX0 : ∀ w ∈ wsX00, w ∈ lw_tbl := fun w h => wsL_law_in w (inlX0 w h)
theorem inlX1 : ∀ w ∈ wsX10, w ∈ wsL_law := fun _ h => List.mem_append_left _ (List.mem_append_left _ (List.mem_append_right _ h))
theorem inX1 : ∀ w ∈ wsX10, w ∈ lw_tbl := fun w h => wsL_law_in w (inlX1 w h)
theorem inlX2 : ∀ w ∈ wsX20, w ∈ wsL_law := fun _ h => List.mem_append_left _ (List.mem_append_right _ h)
theorem inX2 : ∀ w ∈ wsX20, w ∈ lw_tbl := fun w h => wsL_law_in w (inlX2 w h)
theorem inlX3 : ∀ w ∈ wsX30, w ∈ wsL_law := fun _ h => List.mem_append_left _ (List.mem_append_left _ (List.mem_append_left _ (List.mem_append_left _ (List.mem_append_right _ h))))
theorem inX3 : ∀ w ∈ wsX30, w ∈ lw_tbl := fun w h => wsL_law_in w (inlX3 w h)
theorem inX4 : ∀ w ∈ wsX40, w ∈ lw_tbl := by decide +kernel
theorem inJ9 : ∀ w ∈ wsJ90, w ∈ lw_tbl := by decide +kernel
end
section
theorem dX0_init_0 : decode cX0_init 0 = .ok (.aload_n 0, 1) := by decide +kernel
theorem dX0_init_1 : decode cX0_init 1 = .ok (.invokespecial 3, 3) := by decide +kernel
theorem dX0_init_4 : decode cX0_init 4 = .ok (.aload_n 0, 1) := by decide +kernel
theorem dX0_init_5 : decode cX0_init 5 = .ok (.sipush 664, 3) := by decide +kernel
theorem dX0_init_8 : decode cX0_init 8 = .ok (.newarray .int, 2) := by decide +kernel
theorem dX0_init_10 : decode cX0_init 10 = .ok (.putfield 9, 3) := by decide +kernel
theorem dX0_init_13 : decode cX0_init 13 = .ok (.aload_n 0, 1) := by decide +kernel
theorem dX0_init_14 : decode cX0_init 14 = .ok (.sipush 664, 3) := by decide +kernel
theorem dX0_init_17 : decode cX0_init 17 = .ok (.newarray .int, 2) := by decide +kernel
theorem dX0_init_19 : decode cX0_init 19 = .ok (.putfield 15, 3) := by decide +kernel
theorem dX0_init_22 : decode cX0_init 22 = .ok (.return_, 1) := by decide +kernel
theorem dX0_give_0 : decode cX0_give 0 = .ok (.aload_n 0, 1) := by decide +kernel
theorem dX0_give_1 : decode cX0_give 1 = .ok (.getfield 18, 3) := by decide +kernel
theorem dX0_give_4 : decode cX0_give 4 = .ok (.sipush 600, 3) := by decide +kernel
theorem dX0_give_7 : decode cX0_give 7 = .ok (.if_icmp .ge 15, 3) := by decide +kernel
theorem dX0_give_10 : decode cX0_give 10 = .ok (.aload_n 0, 1) := by decide +kernel
theorem dX0_give_11 : decode cX0_give 11 = .ok (.getfield 22, 3) := by decide +kernel
theorem dX0_give_14 : decode cX0_give 14 = .ok (.aload_n 0, 1) := by decide +kernel
theorem dX0_give_15 : decode cX0_give 15 = .ok (.getfield 9, 3) := by decide +kernel
theorem dX0_give_18 : decode cX0_give 18 = .ok (.arraylength, 1) := by decide +kernel
theorem dX0_give_19 : decode cX0_give 19 = .ok (.if_icmp .lt 4, 3) := by decide +kernel
theorem dX0_give_22 : decode cX0_give 22 = .ok (.return_, 1) := by decide +kernel
theorem dX0_give_23 : decode cX0_give 23 = .ok (.aload_n 0, 1) := by decide +kernel
theorem dX0_give_24 : decode cX0_give 24 = .ok (.getfield 9, 3) := by decide +kernel
theorem dX0_give_27 : decode cX0_give 27 = .ok (.aload_n 0, 1) := by decide +kernel
theorem dX0_give_28 : decode cX0_give 28 = .ok (.getfield 22, 3) := by decide +kernel
theorem dX0_give_31 : decode cX0_give 31 = .ok (.aload_n 0, 1) := by decide +kernel
theorem dX0_give_32 : decode cX0_give 32 = .ok (.getfield 9, 3) := by decide +kernel
theorem dX0_give_35 : decode cX0_give 35 = .ok (.aload_n 0, 1) := by decide +kernel
theorem dX0_give_36 : decode cX0_give 36 = .ok (.getfield 18, 3) := by decide +kernel
theorem dX0_give_39 : decode cX0_give 39 = .ok (.iaload, 1) := by decide +kernel
theorem dX0_give_40 : decode cX0_give 40 = .ok (.iastore, 1) := by decide +kernel
theorem dX0_give_41 : decode cX0_give 41 = .ok (.aload_n 0, 1) := by decide +kernel
theorem dX0_give_42 : decode cX0_give 42 = .ok (.getfield 15, 3) := by decide +kernel
theorem dX0_give_45 : decode cX0_give 45 = .ok (.aload_n 0, 1) := by decide +kernel
theorem dX0_give_46 : decode cX0_give 46 = .ok (.getfield 22, 3) := by decide +kernel
theorem dX0_give_49 : decode cX0_give 49 = .ok (.aload_n 0, 1) := by decide +kernel
theorem dX0_give_50 : decode cX0_give 50 = .ok (.getfield 15, 3) := by decide +kernel
theorem dX0_give_53 : decode cX0_give 53 = .ok (.aload_n 0, 1) := by decide +kernel
theorem dX0_give_54 : decode cX0_give 54 = .ok (.getfield 18, 3) := by decide +kernel
theorem dX0_give_57 : decode cX0_give 57 = .ok (.iaload, 1) := by decide +kernel
theorem dX0_give_58 : decode cX0_give 58 = .ok (.iastore, 1) := by decide +kernel
theorem dX0_give_59 : decode cX0_give 59 = .ok (.aload_n 0, 1) := by decide +kernel
theorem dX0_give_60 : decode cX0_give 60 = .ok (.getfield 9, 3) := by decide +kernel
theorem dX0_give_63 : decode cX0_give 63 = .ok (.aload_n 0, 1) := by decide +kernel
theorem dX0_give_64 : decode cX0_give 64 = .ok (.getfield 18, 3) := by decide +kernel
theorem dX0_give_67 : decode cX0_give 67 = .ok (.iload_n 1, 1) := by decide +kernel
theorem dX0_give_68 : decode cX0_give 68 = .ok (.iastore, 1) := by decide +kernel
theorem dX0_give_69 : decode cX0_give 69 = .ok (.aload_n 0, 1) := by decide +kernel
theorem dX0_give_70 : decode cX0_give 70 = .ok (.getfield 15, 3) := by decide +kernel
theorem dX0_give_73 : decode cX0_give 73 = .ok (.aload_n 0, 1) := by decide +kernel
theorem dX0_give_74 : decode cX0_give 74 = .ok (.getfield 18, 3) := by decide +kernel
theorem dX0_give_77 : decode cX0_give 77 = .ok (.iload_n 2, 1) := by decide +kernel
theorem dX0_give_78 : decode cX0_give 78 = .ok (.iastore, 1) := by decide +kernel
theorem dX0_give_79 : decode cX0_give 79 = .ok (.aload_n 0, 1) := by decide +kernel
theorem dX0_give_80 : decode cX0_give 80 = .ok (.dup, 1) := by decide +kernel
theorem dX0_give_81 : decode cX0_give 81 = .ok (.getfield 18, 3) := by decide +kernel
theorem dX0_give_84 : decode cX0_give 84 = .ok (.iconst 1, 1) := by decide +kernel
theorem dX0_give_85 : decode cX0_give 85 = .ok (.iadd, 1) := by decide +kernel
theorem dX0_give_86 : decode cX0_give 86 = .ok (.putfield 18, 3) := by decide +kernel
theorem dX0_give_89 : decode cX0_give 89 = .ok (.aload_n 0, 1) := by decide +kernel
theorem dX0_give_90 : decode cX0_give 90 = .ok (.dup, 1) := by decide +kernel
theorem dX0_give_91 : decode cX0_give 91 = .ok (.getfield 22, 3) := by decide +kernel
theorem dX0_give_94 : decode cX0_give 94 = .ok (.iconst 1, 1) := by decide +kernel
theorem dX0_give_95 : decode cX0_give 95 = .ok (.iadd, 1) := by decide +kernel
theorem dX0_give_96 : decode cX0_give 96 = .ok (.putfield 22, 3) := by decide +kernel
theorem dX0_give_99 : decode cX0_give 99 = .ok (.return_, 1) := by decide +kernel
theorem dX0_hasRoomForLesson_0 : decode cX0_hasRoomForLesson 0 = .ok (.aload_n 0, 1) := by decide +kernel
theorem dX0_hasRoomForLesson_1 : decode cX0_hasRoomForLesson 1 = .ok (.getfield 22, 3) := by decide +kernel
theorem dX0_hasRoomForLesson_4 : decode cX0_hasRoomForLesson 4 = .ok (.aload_n 0, 1) := by decide +kernel
theorem dX0_hasRoomForLesson_5 : decode cX0_hasRoomForLesson 5 = .ok (.getfield 18, 3) := by decide +kernel
theorem dX0_hasRoomForLesson_8 : decode cX0_hasRoomForLesson 8 = .ok (.isub, 1) := by decide +kernel
theorem dX0_hasRoomForLesson_9 : decode cX0_hasRoomForLesson 9 = .ok (.bipush 64, 2) := by decide +kernel
theorem dX0_hasRoomForLesson_11 : decode cX0_hasRoomForLesson 11 = .ok (.if_icmp .ge 19, 3) := by decide +kernel
theorem dX0_hasRoomForLesson_14 : decode cX0_hasRoomForLesson 14 = .ok (.aload_n 0, 1) := by decide +kernel
theorem dX0_hasRoomForLesson_15 : decode cX0_hasRoomForLesson 15 = .ok (.getfield 22, 3) := by decide +kernel
theorem dX0_hasRoomForLesson_18 : decode cX0_hasRoomForLesson 18 = .ok (.aload_n 0, 1) := by decide +kernel
theorem dX0_hasRoomForLesson_19 : decode cX0_hasRoomForLesson 19 = .ok (.getfield 9, 3) := by decide +kernel
theorem dX0_hasRoomForLesson_22 : decode cX0_hasRoomForLesson 22 = .ok (.arraylength, 1) := by decide +kernel
theorem dX0_hasRoomForLesson_23 : decode cX0_hasRoomForLesson 23 = .ok (.if_icmp .ge 7, 3) := by decide +kernel
theorem dX0_hasRoomForLesson_26 : decode cX0_hasRoomForLesson 26 = .ok (.iconst 1, 1) := by decide +kernel
theorem dX0_hasRoomForLesson_27 : decode cX0_hasRoomForLesson 27 = .ok (.goto 4, 3) := by decide +kernel
theorem dX0_hasRoomForLesson_30 : decode cX0_hasRoomForLesson 30 = .ok (.iconst 0, 1) := by decide +kernel
theorem dX0_hasRoomForLesson_31 : decode cX0_hasRoomForLesson 31 = .ok (.ireturn, 1) := by decide +kernel
set_option maxRecDepth 20000 in
theorem ggX0_keepLesson_X0_hasRoomForLesson : GoodIn wsX0_keepLesson wsX0_hasRoomForLesson := goodIn_r _ [8, 2, 9, 1, 10, 11, 12, 13] (by decide +kernel) (by decide +kernel)
set_option maxRecDepth 20000 in
theorem gX0_keepLesson_X0_hasRoomForLesson : GoodIn wsX0_keepLesson (wsV RX0 25 RX0 yX0_hasRoomForLesson wsX0_hasRoomForLesson) := goodIn_app (goodIn_of _ (by decide +kernel)) ggX0_keepLesson_X0_hasRoomForLesson
theorem dX0_keepLesson_0 : decode cX0_keepLesson 0 = .ok (.aload_n 0, 1) := by decide +kernel
theorem dX0_keepLesson_1 : decode cX0_keepLesson 1 = .ok (.invokevirtual 25, 3) := by decide +kernel
theorem dX0_keepLesson_4 : decode cX0_keepLesson 4 = .ok (.ifCond .eq 33, 3) := by decide +kernel
theorem dX0_keepLesson_7 : decode cX0_keepLesson 7 = .ok (.aload_n 0, 1) := by decide +kernel
theorem dX0_keepLesson_8 : decode cX0_keepLesson 8 = .ok (.getfield 9, 3) := by decide +kernel
theorem dX0_keepLesson_11 : decode cX0_keepLesson 11 = .ok (.aload_n 0, 1) := by decide +kernel
theorem dX0_keepLesson_12 : decode cX0_keepLesson 12 = .ok (.getfield 22, 3) := by decide +kernel
theorem dX0_keepLesson_15 : decode cX0_keepLesson 15 = .ok (.iload_n 1, 1) := by decide +kernel
theorem dX0_keepLesson_16 : decode cX0_keepLesson 16 = .ok (.iastore, 1) := by decide +kernel
theorem dX0_keepLesson_17 : decode cX0_keepLesson 17 = .ok (.aload_n 0, 1) := by decide +kernel
theorem dX0_keepLesson_18 : decode cX0_keepLesson 18 = .ok (.getfield 15, 3) := by decide +kernel
theorem dX0_keepLesson_21 : decode cX0_keepLesson 21 = .ok (.aload_n 0, 1) := by decide +kernel
theorem dX0_keepLesson_22 : decode cX0_keepLesson 22 = .ok (.getfield 22, 3) := by decide +kernel
theorem dX0_keepLesson_25 : decode cX0_keepLesson 25 = .ok (.iload_n 2, 1) := by decide +kernel
theorem dX0_keepLesson_26 : decode cX0_keepLesson 26 = .ok (.iastore, 1) := by decide +kernel
theorem dX0_keepLesson_27 : decode cX0_keepLesson 27 = .ok (.aload_n 0, 1) := by decide +kernel
theorem dX0_keepLesson_28 : decode cX0_keepLesson 28 = .ok (.dup, 1) := by decide +kernel
theorem dX0_keepLesson_29 : decode cX0_keepLesson 29 = .ok (.getfield 22, 3) := by decide +kernel
theorem dX0_keepLesson_32 : decode cX0_keepLesson 32 = .ok (.iconst 1, 1) := by decide +kernel
theorem dX0_keepLesson_33 : decode cX0_keepLesson 33 = .ok (.iadd, 1) := by decide +kernel
theorem dX0_keepLesson_34 : decode cX0_keepLesson 34 = .ok (.putfield 22, 3) := by decide +kernel
theorem dX0_keepLesson_37 : decode cX0_keepLesson 37 = .ok (.return_, 1) := by decide +kernel
theorem dX0_forgetLessonsIfMany_0 : decode cX0_forgetLessonsIfMany 0 = .ok (.aload_n 0, 1) := by decide +kernel
theorem dX0_forgetLessonsIfMany_1 : decode cX0_forgetLessonsIfMany 1 = .ok (.getfield 22, 3) := by decide +kernel
theorem dX0_forgetLessonsIfMany_4 : decode cX0_forgetLessonsIfMany 4 = .ok (.aload_n 0, 1) := by decide +kernel
theorem dX0_forgetLessonsIfMany_5 : decode cX0_forgetLessonsIfMany 5 = .ok (.getfield 18, 3) := by decide +kernel
theorem dX0_forgetLessonsIfMany_8 : decode cX0_forgetLessonsIfMany 8 = .ok (.isub, 1) := by decide +kernel
theorem dX0_forgetLessonsIfMany_9 : decode cX0_forgetLessonsIfMany 9 = .ok (.bipush 32, 2) := by decide +kernel
theorem dX0_forgetLessonsIfMany_11 : decode cX0_forgetLessonsIfMany 11 = .ok (.if_icmp .le 11, 3) := by decide +kernel
theorem dX0_forgetLessonsIfMany_14 : decode cX0_forgetLessonsIfMany 14 = .ok (.aload_n 0, 1) := by decide +kernel
theorem dX0_forgetLessonsIfMany_15 : decode cX0_forgetLessonsIfMany 15 = .ok (.aload_n 0, 1) := by decide +kernel
theorem dX0_forgetLessonsIfMany_16 : decode cX0_forgetLessonsIfMany 16 = .ok (.getfield 18, 3) := by decide +kernel
theorem dX0_forgetLessonsIfMany_19 : decode cX0_forgetLessonsIfMany 19 = .ok (.putfield 22, 3) := by decide +kernel
theorem dX0_forgetLessonsIfMany_22 : decode cX0_forgetLessonsIfMany 22 = .ok (.return_, 1) := by decide +kernel
theorem dX0_saysAlready_0 : decode cX0_saysAlready 0 = .ok (.iconst 0, 1) := by decide +kernel
theorem dX0_saysAlready_1 : decode cX0_saysAlready 1 = .ok (.istore_n 3, 1) := by decide +kernel
theorem dX0_saysAlready_2 : decode cX0_saysAlready 2 = .ok (.iload_n 3, 1) := by decide +kernel
theorem dX0_saysAlready_3 : decode cX0_saysAlready 3 = .ok (.aload_n 0, 1) := by decide +kernel
theorem dX0_saysAlready_4 : decode cX0_saysAlready 4 = .ok (.getfield 22, 3) := by decide +kernel
theorem dX0_saysAlready_7 : decode cX0_saysAlready 7 = .ok (.if_icmp .ge 37, 3) := by decide +kernel
theorem dX0_saysAlready_10 : decode cX0_saysAlready 10 = .ok (.aload_n 0, 1) := by decide +kernel
theorem dX0_saysAlready_11 : decode cX0_saysAlready 11 = .ok (.getfield 9, 3) := by decide +kernel
theorem dX0_saysAlready_14 : decode cX0_saysAlready 14 = .ok (.iload_n 3, 1) := by decide +kernel
theorem dX0_saysAlready_15 : decode cX0_saysAlready 15 = .ok (.iaload, 1) := by decide +kernel
theorem dX0_saysAlready_16 : decode cX0_saysAlready 16 = .ok (.iload_n 1, 1) := by decide +kernel
theorem dX0_saysAlready_17 : decode cX0_saysAlready 17 = .ok (.iconst (-1), 1) := by decide +kernel
theorem dX0_saysAlready_18 : decode cX0_saysAlready 18 = .ok (.ixor, 1) := by decide +kernel
theorem dX0_saysAlready_19 : decode cX0_saysAlready 19 = .ok (.iand, 1) := by decide +kernel
theorem dX0_saysAlready_20 : decode cX0_saysAlready 20 = .ok (.ifCond .ne 18, 3) := by decide +kernel
theorem dX0_saysAlready_23 : decode cX0_saysAlready 23 = .ok (.aload_n 0, 1) := by decide +kernel
theorem dX0_saysAlready_24 : decode cX0_saysAlready 24 = .ok (.getfield 15, 3) := by decide +kernel
theorem dX0_saysAlready_27 : decode cX0_saysAlready 27 = .ok (.iload_n 3, 1) := by decide +kernel
theorem dX0_saysAlready_28 : decode cX0_saysAlready 28 = .ok (.iaload, 1) := by decide +kernel
theorem dX0_saysAlready_29 : decode cX0_saysAlready 29 = .ok (.iload_n 2, 1) := by decide +kernel
theorem dX0_saysAlready_30 : decode cX0_saysAlready 30 = .ok (.iconst (-1), 1) := by decide +kernel
theorem dX0_saysAlready_31 : decode cX0_saysAlready 31 = .ok (.ixor, 1) := by decide +kernel
theorem dX0_saysAlready_32 : decode cX0_saysAlready 32 = .ok (.iand, 1) := by decide +kernel
theorem dX0_saysAlready_33 : decode cX0_saysAlready 33 = .ok (.ifCond .ne 5, 3) := by decide +kernel
theorem dX0_saysAlready_36 : decode cX0_saysAlready 36 = .ok (.iconst 1, 1) := by decide +kernel
theorem dX0_saysAlready_37 : decode cX0_saysAlready 37 = .ok (.ireturn, 1) := by decide +kernel
theorem dX0_saysAlready_38 : decode cX0_saysAlready 38 = .ok (.iinc 3 1, 3) := by decide +kernel
theorem dX0_saysAlready_41 : decode cX0_saysAlready 41 = .ok (.goto (-39), 3) := by decide +kernel
theorem dX0_saysAlready_44 : decode cX0_saysAlready 44 = .ok (.iconst 0, 1) := by decide +kernel
theorem dX0_saysAlready_45 : decode cX0_saysAlready 45 = .ok (.ireturn, 1) := by decide +kernel
set_option maxRecDepth 20000 in
theorem ggX1_init_X2_init : GoodIn wsX1_init wsX2_init := goodIn_r _ [13, 14, 2, 3, 15, 16, 17, 23, 24, 25, 26, 27] (by decide +kernel) (by decide +kernel)
set_option maxRecDepth 20000 in
theorem gX1_init_X2_init : GoodIn wsX1_init (wsX2_init) := ggX1_init_X2_init
theorem dX1_init_0 : decode cX1_init 0 = .ok (.aload_n 0, 1) := by decide +kernel
theorem dX1_init_1 : decode cX1_init 1 = .ok (.invokespecial 3, 3) := by decide +kernel
theorem dX1_init_4 : decode cX1_init 4 = .ok (.aload_n 0, 1) := by decide +kernel
theorem dX1_init_5 : decode cX1_init 5 = .ok (.iload_n 1, 1) := by decide +kernel
theorem dX1_init_6 : decode cX1_init 6 = .ok (.putfield 9, 3) := by decide +kernel
theorem dX1_init_9 : decode cX1_init 9 = .ok (.aload_n 0, 1) := by decide +kernel
theorem dX1_init_10 : decode cX1_init 10 = .ok (.aload_n 2, 1) := by decide +kernel
theorem dX1_init_11 : decode cX1_init 11 = .ok (.putfield 15, 3) := by decide +kernel
theorem dX1_init_14 : decode cX1_init 14 = .ok (.aload_n 0, 1) := by decide +kernel
theorem dX1_init_15 : decode cX1_init 15 = .ok (.new 19, 3) := by decide +kernel
theorem dX1_init_18 : decode cX1_init 18 = .ok (.dup, 1) := by decide +kernel
theorem dX1_init_19 : decode cX1_init 19 = .ok (.invokespecial 21, 3) := by decide +kernel
theorem dX1_init_22 : decode cX1_init 22 = .ok (.putfield 22, 3) := by decide +kernel
theorem dX1_init_25 : decode cX1_init 25 = .ok (.aload_n 0, 1) := by decide +kernel
theorem dX1_init_26 : decode cX1_init 26 = .ok (.new 19, 3) := by decide +kernel
theorem dX1_init_29 : decode cX1_init 29 = .ok (.dup, 1) := by decide +kernel
theorem dX1_init_30 : decode cX1_init 30 = .ok (.invokespecial 21, 3) := by decide +kernel
theorem dX1_init_33 : decode cX1_init 33 = .ok (.putfield 26, 3) := by decide +kernel
theorem dX1_init_36 : decode cX1_init 36 = .ok (.return_, 1) := by decide +kernel
set_option maxRecDepth 20000 in
theorem ggX1_firstModel_X0_forgetLessonsIfMany : GoodIn wsX1_firstModel wsX0_forgetLessonsIfMany := goodIn_r _ [7, 8, 9, 80, 81, 82, 83] (by decide +kernel) (by decide +kernel)
set_option maxRecDepth 20000 in
theorem gX1_firstModel_X0_forgetLessonsIfMany : GoodIn wsX1_firstModel (wsV RX1 29 RX0 yX0_forgetLessonsIfMany wsX0_forgetLessonsIfMany) := goodIn_app (goodIn_of _ (by decide +kernel)) ggX1_firstModel_X0_forgetLessonsIfMany
set_option maxRecDepth 20000 in
theorem ggX1_firstModel_X2_start : GoodIn wsX1_firstModel wsX2_start := goodIn_r _ [14, 15, 16, 17, 18, 19, 20, 13, 21, 22, 23, 84, 85, 86, 87, 88] (by decide +kernel) (by decide +kernel)
set_option maxRecDepth 20000 in
theorem gX1_firstModel_X2_start : GoodIn wsX1_firstModel (wsV RX1 34 RX2 yX2_start wsX2_start) := goodIn_app (goodIn_of _ (by decide +kernel)) ggX1_firstModel_X2_start
set_option maxRecDepth 20000 in
theorem ggX1_firstModel_X1_descend : GoodIn wsX1_firstModel wsX1_descend := goodIn_r _ [28, 29, 2, 1, 30, 31, 32, 13, 33, 15, 16, 17, 18, 19, 20, 21, 22, 23, 34, 35, 36, 27, 37, 38, 39, 40, 41, 42, 43, 44, 45, 46, 6, 47, 8, 9, 48, 49, 50, 51, 52, 53, 10, 11, 12, 14, 54, 55, 56, 57, 58, 59, 60, 61, 62, 63, 24, 25, 26, 64, 65, 66, 67, 68, 69, 70, 71, 72, 73, 74, 75, 76, 77, 78, 79, 84, 85, 86, 87, 88, 80, 81, 82, 83] (by decide +kernel) (by decide +kernel)
set_option maxRecDepth 20000 in
theorem gX1_firstModel_X1_descend : GoodIn wsX1_firstModel (wsV RX1 38 RX1 yX1_descend wsX1_descend) := goodIn_app (goodIn_of _ (by decide +kernel)) ggX1_firstModel_X1_descend
theorem dX1_firstModel_0 : decode cX1_firstModel 0 = .ok (.iload_n 1, 1) := by decide +kernel
theorem dX1_firstModel_1 : decode cX1_firstModel 1 = .ok (.iload_n 2, 1) := by decide +kernel
theorem dX1_firstModel_2 : decode cX1_firstModel 2 = .ok (.iand, 1) := by decide +kernel
theorem dX1_firstModel_3 : decode cX1_firstModel 3 = .ok (.ifCond .eq 5, 3) := by decide +kernel
theorem dX1_firstModel_6 : decode cX1_firstModel 6 = .ok (.iconst (-1), 1) := by decide +kernel
theorem dX1_firstModel_7 : decode cX1_firstModel 7 = .ok (.ireturn, 1) := by decide +kernel
theorem dX1_firstModel_8 : decode cX1_firstModel 8 = .ok (.aload_n 0, 1) := by decide +kernel
theorem dX1_firstModel_9 : decode cX1_firstModel 9 = .ok (.getfield 15, 3) := by decide +kernel
theorem dX1_firstModel_12 : decode cX1_firstModel 12 = .ok (.invokevirtual 29, 3) := by decide +kernel
theorem dX1_firstModel_15 : decode cX1_firstModel 15 = .ok (.aload_n 0, 1) := by decide +kernel
theorem dX1_firstModel_16 : decode cX1_firstModel 16 = .ok (.getfield 22, 3) := by decide +kernel
theorem dX1_firstModel_19 : decode cX1_firstModel 19 = .ok (.iload_n 1, 1) := by decide +kernel
theorem dX1_firstModel_20 : decode cX1_firstModel 20 = .ok (.iload_n 2, 1) := by decide +kernel
theorem dX1_firstModel_21 : decode cX1_firstModel 21 = .ok (.invokevirtual 34, 3) := by decide +kernel
theorem dX1_firstModel_24 : decode cX1_firstModel 24 = .ok (.aload_n 0, 1) := by decide +kernel
theorem dX1_firstModel_25 : decode cX1_firstModel 25 = .ok (.iconst 0, 1) := by decide +kernel
theorem dX1_firstModel_26 : decode cX1_firstModel 26 = .ok (.invokevirtual 38, 3) := by decide +kernel
theorem dX1_firstModel_29 : decode cX1_firstModel 29 = .ok (.ireturn, 1) := by decide +kernel
set_option maxRecDepth 20000 in
theorem ggX1_descend_X2_propagate : GoodIn wsX1_descend wsX2_propagate := goodIn_r _ [8, 9, 10, 11, 12, 13, 14, 7, 15, 16, 17, 75, 76, 77, 78, 79, 80, 81, 82, 83] (by decide +kernel) (by decide +kernel)
set_option maxRecDepth 20000 in
theorem gX1_descend_X2_propagate : GoodIn wsX1_descend (wsV RX1 42 RX2 yX2_propagate wsX2_propagate) := goodIn_app (goodIn_of _ (by decide +kernel)) ggX1_descend_X2_propagate
set_option maxRecDepth 20000 in
theorem ggX1_descend_X1_learn : GoodIn wsX1_descend wsX1_learn := goodIn_r _ [22, 2, 3, 23, 24, 25, 26, 27, 7, 28, 9, 16, 17, 29, 30, 31, 32, 33, 34, 35, 36, 37, 38, 39, 40, 41, 42, 43, 44, 45, 10, 11, 12, 13, 14, 15, 4, 5, 6, 8, 46, 47, 48, 49, 50, 70, 71, 72, 73, 74, 75, 76, 77, 78, 79, 80, 81, 82, 83] (by decide +kernel) (by decide +kernel)
set_option maxRecDepth 20000 in
theorem gX1_descend_X1_learn : GoodIn wsX1_descend (wsV RX1 46 RX1 yX1_learn wsX1_learn) := goodIn_app (goodIn_of _ (by decide +kernel)) ggX1_descend_X1_learn
set_option maxRecDepth 20000 in
theorem ggX1_descend_X2_firstFree : GoodIn wsX1_descend wsX2_firstFree := goodIn_r _ [54, 10, 11, 75, 76, 77, 78, 79] (by decide +kernel) (by decide +kernel)
set_option maxRecDepth 20000 in
theorem gX1_descend_X2_firstFree : GoodIn wsX1_descend (wsV RX1 50 RX2 yX2_firstFree wsX2_firstFree) := goodIn_app (goodIn_of _ (by decide +kernel)) ggX1_descend_X2_firstFree
set_option maxRecDepth 20000 in
theorem ggX1_descend_X2_assign : GoodIn wsX1_descend wsX2_assign := goodIn_r _ [15, 9, 16, 17, 10, 11, 75, 76, 77, 78, 79] (by decide +kernel) (by decide +kernel)
set_option maxRecDepth 20000 in
theorem gX1_descend_X2_assign : GoodIn wsX1_descend (wsV RX1 59 RX2 yX2_assign wsX2_assign) := goodIn_app (goodIn_of _ (by decide +kernel)) ggX1_descend_X2_assign
set_option maxRecDepth 20000 in
theorem ggX1_descend_X1_descend : GoodIn wsX1_descend wsX1_descend := goodIn_r _ [0, 1, 2, 3, 4, 5, 6, 7, 8, 9, 10, 11, 12, 13, 14, 15, 16, 17, 18, 19, 20, 21, 22, 23, 24, 25, 26, 27, 28, 29, 30, 31, 32, 33, 34, 35, 36, 37, 38, 39, 40, 41, 42, 43, 44, 45, 46, 47, 48, 49, 50, 51, 52, 53, 54, 55, 56, 57, 58, 59, 60, 61, 62, 63, 64, 65, 66, 67, 68, 69, 70, 71, 72, 73, 74, 75, 76, 77, 78, 79, 80, 81, 82, 83] (by decide +kernel) (by decide +kernel)
set_option maxRecDepth 20000 in
theorem gX1_descend_X1_descend : GoodIn wsX1_descend (wsV RX1 38 RX1 yX1_descend wsX1_descend) := goodIn_app (goodIn_of _ (by decide +kernel)) ggX1_descend_X1_descend
set_option maxRecDepth 20000 in
theorem ggX1_descend_X2_goBackTo : GoodIn wsX1_descend wsX2_goBackTo := goodIn_r _ [62, 63, 64, 65, 66, 9, 10, 16, 11, 67, 68, 69, 75, 76, 77, 78, 79] (by decide +kernel) (by decide +kernel)
set_option maxRecDepth 20000 in
theorem gX1_descend_X2_goBackTo : GoodIn wsX1_descend (wsV RX1 63 RX2 yX2_goBackTo wsX2_goBackTo) := goodIn_app (goodIn_of _ (by decide +kernel)) ggX1_descend_X2_goBackTo
theorem dX1_descend_0 : decode cX1_descend 0 = .ok (.iconst 0, 1) := by decide +kernel
theorem dX1_descend_1 : decode cX1_descend 1 = .ok (.istore_n 2, 1) := by decide +kernel
theorem dX1_descend_2 : decode cX1_descend 2 = .ok (.iconst 0, 1) := by decide +kernel
theorem dX1_descend_3 : decode cX1_descend 3 = .ok (.istore_n 3, 1) := by decide +kernel
theorem dX1_descend_4 : decode cX1_descend 4 = .ok (.iload_n 3, 1) := by decide +kernel
theorem dX1_descend_5 : decode cX1_descend 5 = .ok (.aload_n 0, 1) := by decide +kernel
theorem dX1_descend_6 : decode cX1_descend 6 = .ok (.getfield 9, 3) := by decide +kernel
theorem dX1_descend_9 : decode cX1_descend 9 = .ok (.if_icmp .gt 138, 3) := by decide +kernel
theorem dX1_descend_12 : decode cX1_descend 12 = .ok (.aload_n 0, 1) := by decide +kernel
theorem dX1_descend_13 : decode cX1_descend 13 = .ok (.getfield 22, 3) := by decide +kernel
theorem dX1_descend_16 : decode cX1_descend 16 = .ok (.aload_n 0, 1) := by decide +kernel
theorem dX1_descend_17 : decode cX1_descend 17 = .ok (.getfield 15, 3) := by decide +kernel
theorem dX1_descend_20 : decode cX1_descend 20 = .ok (.invokevirtual 42, 3) := by decide +kernel
theorem dX1_descend_23 : decode cX1_descend 23 = .ok (.istore 4, 2) := by decide +kernel
theorem dX1_descend_25 : decode cX1_descend 25 = .ok (.iload 4, 2) := by decide +kernel
theorem dX1_descend_27 : decode cX1_descend 27 = .ok (.iconst (-1), 1) := by decide +kernel
theorem dX1_descend_28 : decode cX1_descend 28 = .ok (.if_icmp .eq 11, 3) := by decide +kernel
theorem dX1_descend_31 : decode cX1_descend 31 = .ok (.aload_n 0, 1) := by decide +kernel
theorem dX1_descend_32 : decode cX1_descend 32 = .ok (.iload 4, 2) := by decide +kernel
theorem dX1_descend_34 : decode cX1_descend 34 = .ok (.invokevirtual 46, 3) := by decide +kernel
theorem dX1_descend_37 : decode cX1_descend 37 = .ok (.iconst (-1), 1) := by decide +kernel
theorem dX1_descend_38 : decode cX1_descend 38 = .ok (.ireturn, 1) := by decide +kernel
theorem dX1_descend_39 : decode cX1_descend 39 = .ok (.aload_n 0, 1) := by decide +kernel
theorem dX1_descend_40 : decode cX1_descend 40 = .ok (.getfield 22, 3) := by decide +kernel
theorem dX1_descend_43 : decode cX1_descend 43 = .ok (.aload_n 0, 1) := by decide +kernel
theorem dX1_descend_44 : decode cX1_descend 44 = .ok (.getfield 9, 3) := by decide +kernel
theorem dX1_descend_47 : decode cX1_descend 47 = .ok (.invokevirtual 50, 3) := by decide +kernel
theorem dX1_descend_50 : decode cX1_descend 50 = .ok (.istore 5, 2) := by decide +kernel
theorem dX1_descend_52 : decode cX1_descend 52 = .ok (.iload 5, 2) := by decide +kernel
theorem dX1_descend_54 : decode cX1_descend 54 = .ok (.ifCond .ne 11, 3) := by decide +kernel
theorem dX1_descend_57 : decode cX1_descend 57 = .ok (.aload_n 0, 1) := by decide +kernel
theorem dX1_descend_58 : decode cX1_descend 58 = .ok (.getfield 22, 3) := by decide +kernel
theorem dX1_descend_61 : decode cX1_descend 61 = .ok (.getfield 53, 3) := by decide +kernel
theorem dX1_descend_64 : decode cX1_descend 64 = .ok (.ireturn, 1) := by decide +kernel
theorem dX1_descend_65 : decode cX1_descend 65 = .ok (.iload_n 1, 1) := by decide +kernel
theorem dX1_descend_66 : decode cX1_descend 66 = .ok (.aload_n 0, 1) := by decide +kernel
theorem dX1_descend_67 : decode cX1_descend 67 = .ok (.getfield 9, 3) := by decide +kernel
theorem dX1_descend_70 : decode cX1_descend 70 = .ok (.if_icmp .lt 5, 3) := by decide +kernel
theorem dX1_descend_73 : decode cX1_descend 73 = .ok (.iconst (-1), 1) := by decide +kernel
theorem dX1_descend_74 : decode cX1_descend 74 = .ok (.ireturn, 1) := by decide +kernel
theorem dX1_descend_75 : decode cX1_descend 75 = .ok (.aload_n 0, 1) := by decide +kernel
theorem dX1_descend_76 : decode cX1_descend 76 = .ok (.getfield 22, 3) := by decide +kernel
theorem dX1_descend_79 : decode cX1_descend 79 = .ok (.getfield 56, 3) := by decide +kernel
theorem dX1_descend_82 : decode cX1_descend 82 = .ok (.istore 6, 2) := by decide +kernel
theorem dX1_descend_84 : decode cX1_descend 84 = .ok (.aload_n 0, 1) := by decide +kernel
theorem dX1_descend_85 : decode cX1_descend 85 = .ok (.getfield 22, 3) := by decide +kernel
theorem dX1_descend_88 : decode cX1_descend 88 = .ok (.iload 5, 2) := by decide +kernel
theorem dX1_descend_90 : decode cX1_descend 90 = .ok (.iload 5, 2) := by decide +kernel
theorem dX1_descend_92 : decode cX1_descend 92 = .ok (.iload_n 2, 1) := by decide +kernel
theorem dX1_descend_93 : decode cX1_descend 93 = .ok (.if_icmp .ne 7, 3) := by decide +kernel
theorem dX1_descend_96 : decode cX1_descend 96 = .ok (.iconst 1, 1) := by decide +kernel
theorem dX1_descend_97 : decode cX1_descend 97 = .ok (.goto 4, 3) := by decide +kernel
theorem dX1_descend_100 : decode cX1_descend 100 = .ok (.iconst 0, 1) := by decide +kernel
theorem dX1_descend_101 : decode cX1_descend 101 = .ok (.iconst 0, 1) := by decide +kernel
theorem dX1_descend_102 : decode cX1_descend 102 = .ok (.invokevirtual 59, 3) := by decide +kernel
theorem dX1_descend_105 : decode cX1_descend 105 = .ok (.aload_n 0, 1) := by decide +kernel
theorem dX1_descend_106 : decode cX1_descend 106 = .ok (.iload_n 1, 1) := by decide +kernel
theorem dX1_descend_107 : decode cX1_descend 107 = .ok (.iconst 1, 1) := by decide +kernel
theorem dX1_descend_108 : decode cX1_descend 108 = .ok (.iadd, 1) := by decide +kernel
theorem dX1_descend_109 : decode cX1_descend 109 = .ok (.invokevirtual 38, 3) := by decide +kernel
theorem dX1_descend_112 : decode cX1_descend 112 = .ok (.istore 7, 2) := by decide +kernel
theorem dX1_descend_114 : decode cX1_descend 114 = .ok (.iload 7, 2) := by decide +kernel
theorem dX1_descend_116 : decode cX1_descend 116 = .ok (.iconst (-1), 1) := by decide +kernel
theorem dX1_descend_117 : decode cX1_descend 117 = .ok (.if_icmp .ne 9, 3) := by decide +kernel
theorem dX1_descend_120 : decode cX1_descend 120 = .ok (.iload 5, 2) := by decide +kernel
theorem dX1_descend_122 : decode cX1_descend 122 = .ok (.iload_n 2, 1) := by decide +kernel
theorem dX1_descend_123 : decode cX1_descend 123 = .ok (.if_icmp .ne 6, 3) := by decide +kernel
theorem dX1_descend_126 : decode cX1_descend 126 = .ok (.iload 7, 2) := by decide +kernel
theorem dX1_descend_128 : decode cX1_descend 128 = .ok (.ireturn, 1) := by decide +kernel
theorem dX1_descend_129 : decode cX1_descend 129 = .ok (.aload_n 0, 1) := by decide +kernel
theorem dX1_descend_130 : decode cX1_descend 130 = .ok (.getfield 22, 3) := by decide +kernel
theorem dX1_descend_133 : decode cX1_descend 133 = .ok (.iload 6, 2) := by decide +kernel
theorem dX1_descend_135 : decode cX1_descend 135 = .ok (.invokevirtual 63, 3) := by decide +kernel
theorem dX1_descend_138 : decode cX1_descend 138 = .ok (.iload 5, 2) := by decide +kernel
theorem dX1_descend_140 : decode cX1_descend 140 = .ok (.istore_n 2, 1) := by decide +kernel
theorem dX1_descend_141 : decode cX1_descend 141 = .ok (.iinc 3 1, 3) := by decide +kernel
theorem dX1_descend_144 : decode cX1_descend 144 = .ok (.goto (-140), 3) := by decide +kernel
theorem dX1_descend_147 : decode cX1_descend 147 = .ok (.iconst (-1), 1) := by decide +kernel
theorem dX1_descend_148 : decode cX1_descend 148 = .ok (.ireturn, 1) := by decide +kernel
set_option maxRecDepth 20000 in
theorem ggX1_learn_X2_rootsOf : GoodIn wsX1_learn wsX2_rootsOf := goodIn_r _ [9, 10, 11, 12, 50, 51, 52, 53, 54] (by decide +kernel) (by decide +kernel)
set_option maxRecDepth 20000 in
theorem gX1_learn_X2_rootsOf : GoodIn wsX1_learn (wsV RX1 66 RX2 yX2_rootsOf wsX2_rootsOf) := goodIn_app (goodIn_of _ (by decide +kernel)) ggX1_learn_X2_rootsOf
set_option maxRecDepth 20000 in
theorem ggX1_learn_X0_hasRoomForLesson : GoodIn wsX1_learn wsX0_hasRoomForLesson := goodIn_r _ [17, 18, 19, 20, 55, 56, 57, 58] (by decide +kernel) (by decide +kernel)
set_option maxRecDepth 20000 in
theorem gX1_learn_X0_hasRoomForLesson : GoodIn wsX1_learn (wsV RX1 72 RX0 yX0_hasRoomForLesson wsX0_hasRoomForLesson) := goodIn_app (goodIn_of _ (by decide +kernel)) ggX1_learn_X0_hasRoomForLesson
set_option maxRecDepth 20000 in
theorem ggX1_learn_X0_saysAlready : GoodIn wsX1_learn wsX0_saysAlready := goodIn_r _ [24, 18, 20, 25, 55, 56, 57, 58] (by decide +kernel) (by decide +kernel)
set_option maxRecDepth 20000 in
theorem gX1_learn_X0_saysAlready : GoodIn wsX1_learn (wsV RX1 76 RX0 yX0_saysAlready wsX0_saysAlready) := goodIn_app (goodIn_of _ (by decide +kernel)) ggX1_learn_X0_saysAlready
set_option maxRecDepth 20000 in
theorem ggX1_learn_X2_start : GoodIn wsX1_learn wsX2_start := goodIn_r _ [29, 10, 30, 31, 32, 33, 34, 8, 35, 11, 12, 50, 51, 52, 53, 54] (by decide +kernel) (by decide +kernel)
set_option maxRecDepth 20000 in
theorem gX1_learn_X2_start : GoodIn wsX1_learn (wsV RX1 34 RX2 yX2_start wsX2_start) := goodIn_app (goodIn_of _ (by decide +kernel)) ggX1_learn_X2_start
set_option maxRecDepth 20000 in
theorem ggX1_learn_X2_propagate : GoodIn wsX1_learn wsX2_propagate := goodIn_r _ [39, 10, 30, 31, 32, 33, 34, 8, 35, 11, 12, 50, 51, 52, 53, 54, 55, 56, 57, 58] (by decide +kernel) (by decide +kernel)
set_option maxRecDepth 20000 in
theorem gX1_learn_X2_propagate : GoodIn wsX1_learn (wsV RX1 42 RX2 yX2_propagate wsX2_propagate) := goodIn_app (goodIn_of _ (by decide +kernel)) ggX1_learn_X2_propagate
set_option maxRecDepth 20000 in
theorem ggX1_learn_X0_keepLesson : GoodIn wsX1_learn wsX0_keepLesson := goodIn_r _ [43, 20, 18, 25, 44, 14, 15, 16, 17, 19, 55, 56, 57, 58] (by decide +kernel) (by decide +kernel)
set_option maxRecDepth 20000 in
theorem gX1_learn_X0_keepLesson : GoodIn wsX1_learn (wsV RX1 83 RX0 yX0_keepLesson wsX0_keepLesson) := goodIn_app (goodIn_of _ (by decide +kernel)) ggX1_learn_X0_keepLesson
theorem dX1_learn_0 : decode cX1_learn 0 = .ok (.aload_n 0, 1) := by decide +kernel
theorem dX1_learn_1 : decode cX1_learn 1 = .ok (.getfield 22, 3) := by decide +kernel
theorem dX1_learn_4 : decode cX1_learn 4 = .ok (.iload_n 1, 1) := by decide +kernel
theorem dX1_learn_5 : decode cX1_learn 5 = .ok (.invokevirtual 66, 3) := by decide +kernel
theorem dX1_learn_8 : decode cX1_learn 8 = .ok (.istore_n 2, 1) := by decide +kernel
theorem dX1_learn_9 : decode cX1_learn 9 = .ok (.iload_n 2, 1) := by decide +kernel
theorem dX1_learn_10 : decode cX1_learn 10 = .ok (.aload_n 0, 1) := by decide +kernel
theorem dX1_learn_11 : decode cX1_learn 11 = .ok (.getfield 22, 3) := by decide +kernel
theorem dX1_learn_14 : decode cX1_learn 14 = .ok (.getfield 69, 3) := by decide +kernel
theorem dX1_learn_17 : decode cX1_learn 17 = .ok (.iand, 1) := by decide +kernel
theorem dX1_learn_18 : decode cX1_learn 18 = .ok (.istore_n 3, 1) := by decide +kernel
theorem dX1_learn_19 : decode cX1_learn 19 = .ok (.iload_n 2, 1) := by decide +kernel
theorem dX1_learn_20 : decode cX1_learn 20 = .ok (.aload_n 0, 1) := by decide +kernel
theorem dX1_learn_21 : decode cX1_learn 21 = .ok (.getfield 22, 3) := by decide +kernel
theorem dX1_learn_24 : decode cX1_learn 24 = .ok (.getfield 53, 3) := by decide +kernel
theorem dX1_learn_27 : decode cX1_learn 27 = .ok (.iand, 1) := by decide +kernel
theorem dX1_learn_28 : decode cX1_learn 28 = .ok (.istore 4, 2) := by decide +kernel
theorem dX1_learn_30 : decode cX1_learn 30 = .ok (.aload_n 0, 1) := by decide +kernel
theorem dX1_learn_31 : decode cX1_learn 31 = .ok (.getfield 15, 3) := by decide +kernel
theorem dX1_learn_34 : decode cX1_learn 34 = .ok (.invokevirtual 72, 3) := by decide +kernel
theorem dX1_learn_37 : decode cX1_learn 37 = .ok (.ifCond .eq 16, 3) := by decide +kernel
theorem dX1_learn_40 : decode cX1_learn 40 = .ok (.aload_n 0, 1) := by decide +kernel
theorem dX1_learn_41 : decode cX1_learn 41 = .ok (.getfield 15, 3) := by decide +kernel
theorem dX1_learn_44 : decode cX1_learn 44 = .ok (.iload_n 3, 1) := by decide +kernel
theorem dX1_learn_45 : decode cX1_learn 45 = .ok (.iload 4, 2) := by decide +kernel
theorem dX1_learn_47 : decode cX1_learn 47 = .ok (.invokevirtual 76, 3) := by decide +kernel
theorem dX1_learn_50 : decode cX1_learn 50 = .ok (.ifCond .eq 4, 3) := by decide +kernel
theorem dX1_learn_53 : decode cX1_learn 53 = .ok (.return_, 1) := by decide +kernel
theorem dX1_learn_54 : decode cX1_learn 54 = .ok (.aload_n 0, 1) := by decide +kernel
theorem dX1_learn_55 : decode cX1_learn 55 = .ok (.getfield 26, 3) := by decide +kernel
theorem dX1_learn_58 : decode cX1_learn 58 = .ok (.iload 4, 2) := by decide +kernel
theorem dX1_learn_60 : decode cX1_learn 60 = .ok (.iload_n 3, 1) := by decide +kernel
theorem dX1_learn_61 : decode cX1_learn 61 = .ok (.invokevirtual 34, 3) := by decide +kernel
theorem dX1_learn_64 : decode cX1_learn 64 = .ok (.aload_n 0, 1) := by decide +kernel
theorem dX1_learn_65 : decode cX1_learn 65 = .ok (.getfield 26, 3) := by decide +kernel
theorem dX1_learn_68 : decode cX1_learn 68 = .ok (.aload_n 0, 1) := by decide +kernel
theorem dX1_learn_69 : decode cX1_learn 69 = .ok (.getfield 15, 3) := by decide +kernel
theorem dX1_learn_72 : decode cX1_learn 72 = .ok (.invokevirtual 42, 3) := by decide +kernel
theorem dX1_learn_75 : decode cX1_learn 75 = .ok (.iconst (-1), 1) := by decide +kernel
theorem dX1_learn_76 : decode cX1_learn 76 = .ok (.if_icmp .ne 16, 3) := by decide +kernel
theorem dX1_learn_79 : decode cX1_learn 79 = .ok (.aload_n 0, 1) := by decide +kernel
theorem dX1_learn_80 : decode cX1_learn 80 = .ok (.dup, 1) := by decide +kernel
theorem dX1_learn_81 : decode cX1_learn 81 = .ok (.getfield 80, 3) := by decide +kernel
theorem dX1_learn_84 : decode cX1_learn 84 = .ok (.iconst 1, 1) := by decide +kernel
theorem dX1_learn_85 : decode cX1_learn 85 = .ok (.iadd, 1) := by decide +kernel
theorem dX1_learn_86 : decode cX1_learn 86 = .ok (.putfield 80, 3) := by decide +kernel
theorem dX1_learn_89 : decode cX1_learn 89 = .ok (.goto 13, 3) := by decide +kernel
theorem dX1_learn_92 : decode cX1_learn 92 = .ok (.aload_n 0, 1) := by decide +kernel
theorem dX1_learn_93 : decode cX1_learn 93 = .ok (.getfield 15, 3) := by decide +kernel
theorem dX1_learn_96 : decode cX1_learn 96 = .ok (.iload_n 3, 1) := by decide +kernel
theorem dX1_learn_97 : decode cX1_learn 97 = .ok (.iload 4, 2) := by decide +kernel
theorem dX1_learn_99 : decode cX1_learn 99 = .ok (.invokevirtual 83, 3) := by decide +kernel
theorem dX1_learn_102 : decode cX1_learn 102 = .ok (.return_, 1) := by decide +kernel
theorem dX2_init_0 : decode cX2_init 0 = .ok (.aload_n 0, 1) := by decide +kernel
theorem dX2_init_1 : decode cX2_init 1 = .ok (.invokespecial 3, 3) := by decide +kernel
theorem dX2_init_4 : decode cX2_init 4 = .ok (.aload_n 0, 1) := by decide +kernel
theorem dX2_init_5 : decode cX2_init 5 = .ok (.bipush 16, 2) := by decide +kernel
theorem dX2_init_7 : decode cX2_init 7 = .ok (.newarray .int, 2) := by decide +kernel
theorem dX2_init_9 : decode cX2_init 9 = .ok (.putfield 9, 3) := by decide +kernel
theorem dX2_init_12 : decode cX2_init 12 = .ok (.aload_n 0, 1) := by decide +kernel
theorem dX2_init_13 : decode cX2_init 13 = .ok (.bipush 16, 2) := by decide +kernel
theorem dX2_init_15 : decode cX2_init 15 = .ok (.newarray .int, 2) := by decide +kernel
theorem dX2_init_17 : decode cX2_init 17 = .ok (.putfield 15, 3) := by decide +kernel
theorem dX2_init_20 : decode cX2_init 20 = .ok (.return_, 1) := by decide +kernel
set_option maxRecDepth 20000 in
theorem ggX2_start_X2_assign : GoodIn wsX2_start wsX2_assign := goodIn_r _ [8, 1, 9, 10, 2, 3, 11, 12, 13, 14, 15] (by decide +kernel) (by decide +kernel)
set_option maxRecDepth 20000 in
theorem gX2_start_X2_assign : GoodIn wsX2_start (wsV RX2 28 RX2 yX2_assign wsX2_assign) := goodIn_app (goodIn_of _ (by decide +kernel)) ggX2_start_X2_assign
theorem dX2_start_0 : decode cX2_start 0 = .ok (.aload_n 0, 1) := by decide +kernel
theorem dX2_start_1 : decode cX2_start 1 = .ok (.iconst 0, 1) := by decide +kernel
theorem dX2_start_2 : decode cX2_start 2 = .ok (.putfield 18, 3) := by decide +kernel
theorem dX2_start_5 : decode cX2_start 5 = .ok (.aload_n 0, 1) := by decide +kernel
theorem dX2_start_6 : decode cX2_start 6 = .ok (.iconst 0, 1) := by decide +kernel
theorem dX2_start_7 : decode cX2_start 7 = .ok (.putfield 22, 3) := by decide +kernel
theorem dX2_start_10 : decode cX2_start 10 = .ok (.aload_n 0, 1) := by decide +kernel
theorem dX2_start_11 : decode cX2_start 11 = .ok (.iconst 0, 1) := by decide +kernel
theorem dX2_start_12 : decode cX2_start 12 = .ok (.putfield 25, 3) := by decide +kernel
theorem dX2_start_15 : decode cX2_start 15 = .ok (.iconst 0, 1) := by decide +kernel
theorem dX2_start_16 : decode cX2_start 16 = .ok (.istore_n 3, 1) := by decide +kernel
theorem dX2_start_17 : decode cX2_start 17 = .ok (.iload_n 3, 1) := by decide +kernel
theorem dX2_start_18 : decode cX2_start 18 = .ok (.bipush 16, 2) := by decide +kernel
theorem dX2_start_20 : decode cX2_start 20 = .ok (.if_icmp .ge 42, 3) := by decide +kernel
theorem dX2_start_23 : decode cX2_start 23 = .ok (.iconst 1, 1) := by decide +kernel
theorem dX2_start_24 : decode cX2_start 24 = .ok (.iload_n 3, 1) := by decide +kernel
theorem dX2_start_25 : decode cX2_start 25 = .ok (.ishl, 1) := by decide +kernel
theorem dX2_start_26 : decode cX2_start 26 = .ok (.istore 4, 2) := by decide +kernel
theorem dX2_start_28 : decode cX2_start 28 = .ok (.iload_n 1, 1) := by decide +kernel
theorem dX2_start_29 : decode cX2_start 29 = .ok (.iload_n 2, 1) := by decide +kernel
theorem dX2_start_30 : decode cX2_start 30 = .ok (.ior, 1) := by decide +kernel
theorem dX2_start_31 : decode cX2_start 31 = .ok (.iload 4, 2) := by decide +kernel
theorem dX2_start_33 : decode cX2_start 33 = .ok (.iand, 1) := by decide +kernel
theorem dX2_start_34 : decode cX2_start 34 = .ok (.ifCond .eq 22, 3) := by decide +kernel
theorem dX2_start_37 : decode cX2_start 37 = .ok (.aload_n 0, 1) := by decide +kernel
theorem dX2_start_38 : decode cX2_start 38 = .ok (.iload 4, 2) := by decide +kernel
theorem dX2_start_40 : decode cX2_start 40 = .ok (.iload_n 1, 1) := by decide +kernel
theorem dX2_start_41 : decode cX2_start 41 = .ok (.iload 4, 2) := by decide +kernel
theorem dX2_start_43 : decode cX2_start 43 = .ok (.iand, 1) := by decide +kernel
theorem dX2_start_44 : decode cX2_start 44 = .ok (.ifCond .eq 7, 3) := by decide +kernel
end
section
theorem dX2_start_47 : decode cX2_start 47 = .ok (.iconst 1, 1) := by decide +kernel
theorem dX2_start_48 : decode cX2_start 48 = .ok (.goto 4, 3) := by decide +kernel
theorem dX2_start_51 : decode cX2_start 51 = .ok (.iconst 0, 1) := by decide +kernel
theorem dX2_start_52 : decode cX2_start 52 = .ok (.iconst 0, 1) := by decide +kernel
theorem dX2_start_53 : decode cX2_start 53 = .ok (.invokevirtual 28, 3) := by decide +kernel
theorem dX2_start_56 : decode cX2_start 56 = .ok (.iinc 3 1, 3) := by decide +kernel
theorem dX2_start_59 : decode cX2_start 59 = .ok (.goto (-42), 3) := by decide +kernel
theorem dX2_start_62 : decode cX2_start 62 = .ok (.return_, 1) := by decide +kernel
theorem dX2_assign_0 : decode cX2_assign 0 = .ok (.aload_n 0, 1) := by decide +kernel
theorem dX2_assign_1 : decode cX2_assign 1 = .ok (.getfield 18, 3) := by decide +kernel
theorem dX2_assign_4 : decode cX2_assign 4 = .ok (.aload_n 0, 1) := by decide +kernel
theorem dX2_assign_5 : decode cX2_assign 5 = .ok (.getfield 9, 3) := by decide +kernel
theorem dX2_assign_8 : decode cX2_assign 8 = .ok (.arraylength, 1) := by decide +kernel
theorem dX2_assign_9 : decode cX2_assign 9 = .ok (.if_icmp .lt 4, 3) := by decide +kernel
theorem dX2_assign_12 : decode cX2_assign 12 = .ok (.return_, 1) := by decide +kernel
theorem dX2_assign_13 : decode cX2_assign 13 = .ok (.aload_n 0, 1) := by decide +kernel
theorem dX2_assign_14 : decode cX2_assign 14 = .ok (.getfield 9, 3) := by decide +kernel
theorem dX2_assign_17 : decode cX2_assign 17 = .ok (.aload_n 0, 1) := by decide +kernel
theorem dX2_assign_18 : decode cX2_assign 18 = .ok (.getfield 18, 3) := by decide +kernel
theorem dX2_assign_21 : decode cX2_assign 21 = .ok (.iload_n 1, 1) := by decide +kernel
theorem dX2_assign_22 : decode cX2_assign 22 = .ok (.iastore, 1) := by decide +kernel
theorem dX2_assign_23 : decode cX2_assign 23 = .ok (.aload_n 0, 1) := by decide +kernel
theorem dX2_assign_24 : decode cX2_assign 24 = .ok (.getfield 15, 3) := by decide +kernel
theorem dX2_assign_27 : decode cX2_assign 27 = .ok (.aload_n 0, 1) := by decide +kernel
theorem dX2_assign_28 : decode cX2_assign 28 = .ok (.getfield 18, 3) := by decide +kernel
theorem dX2_assign_31 : decode cX2_assign 31 = .ok (.iload_n 3, 1) := by decide +kernel
theorem dX2_assign_32 : decode cX2_assign 32 = .ok (.iastore, 1) := by decide +kernel
theorem dX2_assign_33 : decode cX2_assign 33 = .ok (.aload_n 0, 1) := by decide +kernel
theorem dX2_assign_34 : decode cX2_assign 34 = .ok (.dup, 1) := by decide +kernel
theorem dX2_assign_35 : decode cX2_assign 35 = .ok (.getfield 18, 3) := by decide +kernel
theorem dX2_assign_38 : decode cX2_assign 38 = .ok (.iconst 1, 1) := by decide +kernel
theorem dX2_assign_39 : decode cX2_assign 39 = .ok (.iadd, 1) := by decide +kernel
theorem dX2_assign_40 : decode cX2_assign 40 = .ok (.putfield 18, 3) := by decide +kernel
theorem dX2_assign_43 : decode cX2_assign 43 = .ok (.iload_n 2, 1) := by decide +kernel
theorem dX2_assign_44 : decode cX2_assign 44 = .ok (.ifCond .eq 16, 3) := by decide +kernel
theorem dX2_assign_47 : decode cX2_assign 47 = .ok (.aload_n 0, 1) := by decide +kernel
theorem dX2_assign_48 : decode cX2_assign 48 = .ok (.dup, 1) := by decide +kernel
theorem dX2_assign_49 : decode cX2_assign 49 = .ok (.getfield 22, 3) := by decide +kernel
theorem dX2_assign_52 : decode cX2_assign 52 = .ok (.iload_n 1, 1) := by decide +kernel
theorem dX2_assign_53 : decode cX2_assign 53 = .ok (.ior, 1) := by decide +kernel
theorem dX2_assign_54 : decode cX2_assign 54 = .ok (.putfield 22, 3) := by decide +kernel
theorem dX2_assign_57 : decode cX2_assign 57 = .ok (.goto 13, 3) := by decide +kernel
theorem dX2_assign_60 : decode cX2_assign 60 = .ok (.aload_n 0, 1) := by decide +kernel
theorem dX2_assign_61 : decode cX2_assign 61 = .ok (.dup, 1) := by decide +kernel
theorem dX2_assign_62 : decode cX2_assign 62 = .ok (.getfield 25, 3) := by decide +kernel
theorem dX2_assign_65 : decode cX2_assign 65 = .ok (.iload_n 1, 1) := by decide +kernel
theorem dX2_assign_66 : decode cX2_assign 66 = .ok (.ior, 1) := by decide +kernel
theorem dX2_assign_67 : decode cX2_assign 67 = .ok (.putfield 25, 3) := by decide +kernel
theorem dX2_assign_70 : decode cX2_assign 70 = .ok (.return_, 1) := by decide +kernel
theorem dX2_goBackTo_0 : decode cX2_goBackTo 0 = .ok (.iconst 0, 1) := by decide +kernel
theorem dX2_goBackTo_1 : decode cX2_goBackTo 1 = .ok (.iload_n 1, 1) := by decide +kernel
theorem dX2_goBackTo_2 : decode cX2_goBackTo 2 = .ok (.invokestatic 32, 3) := by decide +kernel
theorem dX2_goBackTo_5 : decode cX2_goBackTo 5 = .ok (.istore_n 2, 1) := by decide +kernel
theorem dX2_goBackTo_6 : decode cX2_goBackTo 6 = .ok (.iload_n 2, 1) := by decide +kernel
theorem dX2_goBackTo_7 : decode cX2_goBackTo 7 = .ok (.aload_n 0, 1) := by decide +kernel
theorem dX2_goBackTo_8 : decode cX2_goBackTo 8 = .ok (.getfield 18, 3) := by decide +kernel
theorem dX2_goBackTo_11 : decode cX2_goBackTo 11 = .ok (.if_icmp .ge 43, 3) := by decide +kernel
theorem dX2_goBackTo_14 : decode cX2_goBackTo 14 = .ok (.aload_n 0, 1) := by decide +kernel
theorem dX2_goBackTo_15 : decode cX2_goBackTo 15 = .ok (.dup, 1) := by decide +kernel
theorem dX2_goBackTo_16 : decode cX2_goBackTo 16 = .ok (.getfield 22, 3) := by decide +kernel
theorem dX2_goBackTo_19 : decode cX2_goBackTo 19 = .ok (.aload_n 0, 1) := by decide +kernel
theorem dX2_goBackTo_20 : decode cX2_goBackTo 20 = .ok (.getfield 9, 3) := by decide +kernel
theorem dX2_goBackTo_23 : decode cX2_goBackTo 23 = .ok (.iload_n 2, 1) := by decide +kernel
theorem dX2_goBackTo_24 : decode cX2_goBackTo 24 = .ok (.iaload, 1) := by decide +kernel
theorem dX2_goBackTo_25 : decode cX2_goBackTo 25 = .ok (.iconst (-1), 1) := by decide +kernel
theorem dX2_goBackTo_26 : decode cX2_goBackTo 26 = .ok (.ixor, 1) := by decide +kernel
theorem dX2_goBackTo_27 : decode cX2_goBackTo 27 = .ok (.iand, 1) := by decide +kernel
theorem dX2_goBackTo_28 : decode cX2_goBackTo 28 = .ok (.putfield 22, 3) := by decide +kernel
theorem dX2_goBackTo_31 : decode cX2_goBackTo 31 = .ok (.aload_n 0, 1) := by decide +kernel
theorem dX2_goBackTo_32 : decode cX2_goBackTo 32 = .ok (.dup, 1) := by decide +kernel
theorem dX2_goBackTo_33 : decode cX2_goBackTo 33 = .ok (.getfield 25, 3) := by decide +kernel
theorem dX2_goBackTo_36 : decode cX2_goBackTo 36 = .ok (.aload_n 0, 1) := by decide +kernel
theorem dX2_goBackTo_37 : decode cX2_goBackTo 37 = .ok (.getfield 9, 3) := by decide +kernel
theorem dX2_goBackTo_40 : decode cX2_goBackTo 40 = .ok (.iload_n 2, 1) := by decide +kernel
theorem dX2_goBackTo_41 : decode cX2_goBackTo 41 = .ok (.iaload, 1) := by decide +kernel
theorem dX2_goBackTo_42 : decode cX2_goBackTo 42 = .ok (.iconst (-1), 1) := by decide +kernel
theorem dX2_goBackTo_43 : decode cX2_goBackTo 43 = .ok (.ixor, 1) := by decide +kernel
theorem dX2_goBackTo_44 : decode cX2_goBackTo 44 = .ok (.iand, 1) := by decide +kernel
theorem dX2_goBackTo_45 : decode cX2_goBackTo 45 = .ok (.putfield 25, 3) := by decide +kernel
theorem dX2_goBackTo_48 : decode cX2_goBackTo 48 = .ok (.iinc 2 1, 3) := by decide +kernel
theorem dX2_goBackTo_51 : decode cX2_goBackTo 51 = .ok (.goto (-45), 3) := by decide +kernel
theorem dX2_goBackTo_54 : decode cX2_goBackTo 54 = .ok (.aload_n 0, 1) := by decide +kernel
theorem dX2_goBackTo_55 : decode cX2_goBackTo 55 = .ok (.iconst 0, 1) := by decide +kernel
theorem dX2_goBackTo_56 : decode cX2_goBackTo 56 = .ok (.iload_n 1, 1) := by decide +kernel
theorem dX2_goBackTo_57 : decode cX2_goBackTo 57 = .ok (.aload_n 0, 1) := by decide +kernel
theorem dX2_goBackTo_58 : decode cX2_goBackTo 58 = .ok (.getfield 18, 3) := by decide +kernel
theorem dX2_goBackTo_61 : decode cX2_goBackTo 61 = .ok (.invokestatic 38, 3) := by decide +kernel
theorem dX2_goBackTo_64 : decode cX2_goBackTo 64 = .ok (.invokestatic 32, 3) := by decide +kernel
theorem dX2_goBackTo_67 : decode cX2_goBackTo 67 = .ok (.putfield 18, 3) := by decide +kernel
theorem dX2_goBackTo_70 : decode cX2_goBackTo 70 = .ok (.return_, 1) := by decide +kernel
theorem dX2_firstFree_0 : decode cX2_firstFree 0 = .ok (.iload_n 1, 1) := by decide +kernel
theorem dX2_firstFree_1 : decode cX2_firstFree 1 = .ok (.iconst 1, 1) := by decide +kernel
theorem dX2_firstFree_2 : decode cX2_firstFree 2 = .ok (.isub, 1) := by decide +kernel
theorem dX2_firstFree_3 : decode cX2_firstFree 3 = .ok (.istore_n 2, 1) := by decide +kernel
theorem dX2_firstFree_4 : decode cX2_firstFree 4 = .ok (.iload_n 2, 1) := by decide +kernel
theorem dX2_firstFree_5 : decode cX2_firstFree 5 = .ok (.ifCond .lt 29, 3) := by decide +kernel
theorem dX2_firstFree_8 : decode cX2_firstFree 8 = .ok (.iconst 1, 1) := by decide +kernel
theorem dX2_firstFree_9 : decode cX2_firstFree 9 = .ok (.iload_n 2, 1) := by decide +kernel
theorem dX2_firstFree_10 : decode cX2_firstFree 10 = .ok (.ishl, 1) := by decide +kernel
theorem dX2_firstFree_11 : decode cX2_firstFree 11 = .ok (.istore_n 3, 1) := by decide +kernel
theorem dX2_firstFree_12 : decode cX2_firstFree 12 = .ok (.aload_n 0, 1) := by decide +kernel
theorem dX2_firstFree_13 : decode cX2_firstFree 13 = .ok (.getfield 22, 3) := by decide +kernel
theorem dX2_firstFree_16 : decode cX2_firstFree 16 = .ok (.aload_n 0, 1) := by decide +kernel
theorem dX2_firstFree_17 : decode cX2_firstFree 17 = .ok (.getfield 25, 3) := by decide +kernel
theorem dX2_firstFree_20 : decode cX2_firstFree 20 = .ok (.ior, 1) := by decide +kernel
theorem dX2_firstFree_21 : decode cX2_firstFree 21 = .ok (.iload_n 3, 1) := by decide +kernel
theorem dX2_firstFree_22 : decode cX2_firstFree 22 = .ok (.iand, 1) := by decide +kernel
theorem dX2_firstFree_23 : decode cX2_firstFree 23 = .ok (.ifCond .ne 5, 3) := by decide +kernel
theorem dX2_firstFree_26 : decode cX2_firstFree 26 = .ok (.iload_n 3, 1) := by decide +kernel
theorem dX2_firstFree_27 : decode cX2_firstFree 27 = .ok (.ireturn, 1) := by decide +kernel
theorem dX2_firstFree_28 : decode cX2_firstFree 28 = .ok (.iinc 2 (-1), 3) := by decide +kernel
theorem dX2_firstFree_31 : decode cX2_firstFree 31 = .ok (.goto (-27), 3) := by decide +kernel
theorem dX2_firstFree_34 : decode cX2_firstFree 34 = .ok (.iconst 0, 1) := by decide +kernel
theorem dX2_firstFree_35 : decode cX2_firstFree 35 = .ok (.ireturn, 1) := by decide +kernel
set_option maxRecDepth 20000 in
theorem ggX2_propagate_X2_assign : GoodIn wsX2_propagate wsX2_assign := goodIn_r _ [8, 1, 9, 10, 2, 3, 11, 12, 13, 14, 15] (by decide +kernel) (by decide +kernel)
set_option maxRecDepth 20000 in
theorem gX2_propagate_X2_assign : GoodIn wsX2_propagate (wsV RX2 28 RX2 yX2_assign wsX2_assign) := goodIn_app (goodIn_of _ (by decide +kernel)) ggX2_propagate_X2_assign
theorem dX2_propagate_0 : decode cX2_propagate 0 = .ok (.iconst 0, 1) := by decide +kernel
theorem dX2_propagate_1 : decode cX2_propagate 1 = .ok (.istore_n 2, 1) := by decide +kernel
theorem dX2_propagate_2 : decode cX2_propagate 2 = .ok (.iload_n 2, 1) := by decide +kernel
theorem dX2_propagate_3 : decode cX2_propagate 3 = .ok (.bipush 16, 2) := by decide +kernel
theorem dX2_propagate_5 : decode cX2_propagate 5 = .ok (.if_icmp .gt 151, 3) := by decide +kernel
theorem dX2_propagate_8 : decode cX2_propagate 8 = .ok (.aload_n 0, 1) := by decide +kernel
theorem dX2_propagate_9 : decode cX2_propagate 9 = .ok (.getfield 18, 3) := by decide +kernel
theorem dX2_propagate_12 : decode cX2_propagate 12 = .ok (.istore_n 3, 1) := by decide +kernel
theorem dX2_propagate_13 : decode cX2_propagate 13 = .ok (.iconst 0, 1) := by decide +kernel
theorem dX2_propagate_14 : decode cX2_propagate 14 = .ok (.istore 4, 2) := by decide +kernel
theorem dX2_propagate_16 : decode cX2_propagate 16 = .ok (.iload 4, 2) := by decide +kernel
theorem dX2_propagate_18 : decode cX2_propagate 18 = .ok (.aload_n 1, 1) := by decide +kernel
theorem dX2_propagate_19 : decode cX2_propagate 19 = .ok (.getfield 41, 3) := by decide +kernel
theorem dX2_propagate_22 : decode cX2_propagate 22 = .ok (.if_icmp .ge 117, 3) := by decide +kernel
theorem dX2_propagate_25 : decode cX2_propagate 25 = .ok (.aload_n 1, 1) := by decide +kernel
theorem dX2_propagate_26 : decode cX2_propagate 26 = .ok (.getfield 46, 3) := by decide +kernel
theorem dX2_propagate_29 : decode cX2_propagate 29 = .ok (.iload 4, 2) := by decide +kernel
theorem dX2_propagate_31 : decode cX2_propagate 31 = .ok (.iaload, 1) := by decide +kernel
theorem dX2_propagate_32 : decode cX2_propagate 32 = .ok (.aload_n 0, 1) := by decide +kernel
theorem dX2_propagate_33 : decode cX2_propagate 33 = .ok (.getfield 22, 3) := by decide +kernel
theorem dX2_propagate_36 : decode cX2_propagate 36 = .ok (.iand, 1) := by decide +kernel
theorem dX2_propagate_37 : decode cX2_propagate 37 = .ok (.aload_n 1, 1) := by decide +kernel
theorem dX2_propagate_38 : decode cX2_propagate 38 = .ok (.getfield 49, 3) := by decide +kernel
theorem dX2_propagate_41 : decode cX2_propagate 41 = .ok (.iload 4, 2) := by decide +kernel
theorem dX2_propagate_43 : decode cX2_propagate 43 = .ok (.iaload, 1) := by decide +kernel
theorem dX2_propagate_44 : decode cX2_propagate 44 = .ok (.aload_n 0, 1) := by decide +kernel
theorem dX2_propagate_45 : decode cX2_propagate 45 = .ok (.getfield 25, 3) := by decide +kernel
theorem dX2_propagate_48 : decode cX2_propagate 48 = .ok (.iand, 1) := by decide +kernel
theorem dX2_propagate_49 : decode cX2_propagate 49 = .ok (.ior, 1) := by decide +kernel
theorem dX2_propagate_50 : decode cX2_propagate 50 = .ok (.ifCond .eq 6, 3) := by decide +kernel
theorem dX2_propagate_53 : decode cX2_propagate 53 = .ok (.goto 80, 3) := by decide +kernel
theorem dX2_propagate_56 : decode cX2_propagate 56 = .ok (.aload_n 1, 1) := by decide +kernel
theorem dX2_propagate_57 : decode cX2_propagate 57 = .ok (.getfield 46, 3) := by decide +kernel
theorem dX2_propagate_60 : decode cX2_propagate 60 = .ok (.iload 4, 2) := by decide +kernel
theorem dX2_propagate_62 : decode cX2_propagate 62 = .ok (.iaload, 1) := by decide +kernel
theorem dX2_propagate_63 : decode cX2_propagate 63 = .ok (.aload_n 1, 1) := by decide +kernel
theorem dX2_propagate_64 : decode cX2_propagate 64 = .ok (.getfield 49, 3) := by decide +kernel
theorem dX2_propagate_67 : decode cX2_propagate 67 = .ok (.iload 4, 2) := by decide +kernel
theorem dX2_propagate_69 : decode cX2_propagate 69 = .ok (.iaload, 1) := by decide +kernel
theorem dX2_propagate_70 : decode cX2_propagate 70 = .ok (.ior, 1) := by decide +kernel
theorem dX2_propagate_71 : decode cX2_propagate 71 = .ok (.istore 5, 2) := by decide +kernel
theorem dX2_propagate_73 : decode cX2_propagate 73 = .ok (.iload 5, 2) := by decide +kernel
theorem dX2_propagate_75 : decode cX2_propagate 75 = .ok (.aload_n 0, 1) := by decide +kernel
theorem dX2_propagate_76 : decode cX2_propagate 76 = .ok (.getfield 22, 3) := by decide +kernel
theorem dX2_propagate_79 : decode cX2_propagate 79 = .ok (.aload_n 0, 1) := by decide +kernel
theorem dX2_propagate_80 : decode cX2_propagate 80 = .ok (.getfield 25, 3) := by decide +kernel
theorem dX2_propagate_83 : decode cX2_propagate 83 = .ok (.ior, 1) := by decide +kernel
theorem dX2_propagate_84 : decode cX2_propagate 84 = .ok (.iconst (-1), 1) := by decide +kernel
theorem dX2_propagate_85 : decode cX2_propagate 85 = .ok (.ixor, 1) := by decide +kernel
theorem dX2_propagate_86 : decode cX2_propagate 86 = .ok (.iand, 1) := by decide +kernel
theorem dX2_propagate_87 : decode cX2_propagate 87 = .ok (.istore 6, 2) := by decide +kernel
theorem dX2_propagate_89 : decode cX2_propagate 89 = .ok (.iload 6, 2) := by decide +kernel
theorem dX2_propagate_91 : decode cX2_propagate 91 = .ok (.ifCond .ne 6, 3) := by decide +kernel
theorem dX2_propagate_94 : decode cX2_propagate 94 = .ok (.iload 5, 2) := by decide +kernel
theorem dX2_propagate_96 : decode cX2_propagate 96 = .ok (.ireturn, 1) := by decide +kernel
theorem dX2_propagate_97 : decode cX2_propagate 97 = .ok (.iload 6, 2) := by decide +kernel
theorem dX2_propagate_99 : decode cX2_propagate 99 = .ok (.iload 6, 2) := by decide +kernel
theorem dX2_propagate_101 : decode cX2_propagate 101 = .ok (.iconst 1, 1) := by decide +kernel
theorem dX2_propagate_102 : decode cX2_propagate 102 = .ok (.isub, 1) := by decide +kernel
theorem dX2_propagate_103 : decode cX2_propagate 103 = .ok (.iand, 1) := by decide +kernel
theorem dX2_propagate_104 : decode cX2_propagate 104 = .ok (.ifCond .ne 29, 3) := by decide +kernel
theorem dX2_propagate_107 : decode cX2_propagate 107 = .ok (.aload_n 0, 1) := by decide +kernel
theorem dX2_propagate_108 : decode cX2_propagate 108 = .ok (.iload 6, 2) := by decide +kernel
theorem dX2_propagate_110 : decode cX2_propagate 110 = .ok (.aload_n 1, 1) := by decide +kernel
theorem dX2_propagate_111 : decode cX2_propagate 111 = .ok (.getfield 46, 3) := by decide +kernel
theorem dX2_propagate_114 : decode cX2_propagate 114 = .ok (.iload 4, 2) := by decide +kernel
theorem dX2_propagate_116 : decode cX2_propagate 116 = .ok (.iaload, 1) := by decide +kernel
theorem dX2_propagate_117 : decode cX2_propagate 117 = .ok (.iload 6, 2) := by decide +kernel
theorem dX2_propagate_119 : decode cX2_propagate 119 = .ok (.iand, 1) := by decide +kernel
theorem dX2_propagate_120 : decode cX2_propagate 120 = .ok (.ifCond .eq 7, 3) := by decide +kernel
theorem dX2_propagate_123 : decode cX2_propagate 123 = .ok (.iconst 1, 1) := by decide +kernel
theorem dX2_propagate_124 : decode cX2_propagate 124 = .ok (.goto 4, 3) := by decide +kernel
theorem dX2_propagate_127 : decode cX2_propagate 127 = .ok (.iconst 0, 1) := by decide +kernel
theorem dX2_propagate_128 : decode cX2_propagate 128 = .ok (.iload 5, 2) := by decide +kernel
theorem dX2_propagate_130 : decode cX2_propagate 130 = .ok (.invokevirtual 28, 3) := by decide +kernel
theorem dX2_propagate_133 : decode cX2_propagate 133 = .ok (.iinc 4 1, 3) := by decide +kernel
theorem dX2_propagate_136 : decode cX2_propagate 136 = .ok (.goto (-120), 3) := by decide +kernel
theorem dX2_propagate_139 : decode cX2_propagate 139 = .ok (.aload_n 0, 1) := by decide +kernel
theorem dX2_propagate_140 : decode cX2_propagate 140 = .ok (.getfield 18, 3) := by decide +kernel
theorem dX2_propagate_143 : decode cX2_propagate 143 = .ok (.iload_n 3, 1) := by decide +kernel
theorem dX2_propagate_144 : decode cX2_propagate 144 = .ok (.if_icmp .ne 6, 3) := by decide +kernel
theorem dX2_propagate_147 : decode cX2_propagate 147 = .ok (.goto 9, 3) := by decide +kernel
theorem dX2_propagate_150 : decode cX2_propagate 150 = .ok (.iinc 2 1, 3) := by decide +kernel
theorem dX2_propagate_153 : decode cX2_propagate 153 = .ok (.goto (-151), 3) := by decide +kernel
theorem dX2_propagate_156 : decode cX2_propagate 156 = .ok (.iconst (-1), 1) := by decide +kernel
theorem dX2_propagate_157 : decode cX2_propagate 157 = .ok (.ireturn, 1) := by decide +kernel
theorem dX2_rootsOf_0 : decode cX2_rootsOf 0 = .ok (.iload_n 1, 1) := by decide +kernel
theorem dX2_rootsOf_1 : decode cX2_rootsOf 1 = .ok (.istore_n 2, 1) := by decide +kernel
theorem dX2_rootsOf_2 : decode cX2_rootsOf 2 = .ok (.iconst 0, 1) := by decide +kernel
theorem dX2_rootsOf_3 : decode cX2_rootsOf 3 = .ok (.istore_n 3, 1) := by decide +kernel
theorem dX2_rootsOf_4 : decode cX2_rootsOf 4 = .ok (.aload_n 0, 1) := by decide +kernel
theorem dX2_rootsOf_5 : decode cX2_rootsOf 5 = .ok (.getfield 18, 3) := by decide +kernel
theorem dX2_rootsOf_8 : decode cX2_rootsOf 8 = .ok (.iconst 1, 1) := by decide +kernel
theorem dX2_rootsOf_9 : decode cX2_rootsOf 9 = .ok (.isub, 1) := by decide +kernel
theorem dX2_rootsOf_10 : decode cX2_rootsOf 10 = .ok (.istore 4, 2) := by decide +kernel
theorem dX2_rootsOf_12 : decode cX2_rootsOf 12 = .ok (.iload 4, 2) := by decide +kernel
theorem dX2_rootsOf_14 : decode cX2_rootsOf 14 = .ok (.ifCond .lt 57, 3) := by decide +kernel
theorem dX2_rootsOf_17 : decode cX2_rootsOf 17 = .ok (.iload_n 2, 1) := by decide +kernel
theorem dX2_rootsOf_18 : decode cX2_rootsOf 18 = .ok (.aload_n 0, 1) := by decide +kernel
theorem dX2_rootsOf_19 : decode cX2_rootsOf 19 = .ok (.getfield 9, 3) := by decide +kernel
theorem dX2_rootsOf_22 : decode cX2_rootsOf 22 = .ok (.iload 4, 2) := by decide +kernel
theorem dX2_rootsOf_24 : decode cX2_rootsOf 24 = .ok (.iaload, 1) := by decide +kernel
theorem dX2_rootsOf_25 : decode cX2_rootsOf 25 = .ok (.iand, 1) := by decide +kernel
theorem dX2_rootsOf_26 : decode cX2_rootsOf 26 = .ok (.ifCond .ne 6, 3) := by decide +kernel
theorem dX2_rootsOf_29 : decode cX2_rootsOf 29 = .ok (.goto 36, 3) := by decide +kernel
theorem dX2_rootsOf_32 : decode cX2_rootsOf 32 = .ok (.aload_n 0, 1) := by decide +kernel
theorem dX2_rootsOf_33 : decode cX2_rootsOf 33 = .ok (.getfield 15, 3) := by decide +kernel
theorem dX2_rootsOf_36 : decode cX2_rootsOf 36 = .ok (.iload 4, 2) := by decide +kernel
theorem dX2_rootsOf_38 : decode cX2_rootsOf 38 = .ok (.iaload, 1) := by decide +kernel
theorem dX2_rootsOf_39 : decode cX2_rootsOf 39 = .ok (.ifCond .ne 16, 3) := by decide +kernel
theorem dX2_rootsOf_42 : decode cX2_rootsOf 42 = .ok (.iload_n 3, 1) := by decide +kernel
theorem dX2_rootsOf_43 : decode cX2_rootsOf 43 = .ok (.aload_n 0, 1) := by decide +kernel
theorem dX2_rootsOf_44 : decode cX2_rootsOf 44 = .ok (.getfield 9, 3) := by decide +kernel
theorem dX2_rootsOf_47 : decode cX2_rootsOf 47 = .ok (.iload 4, 2) := by decide +kernel
theorem dX2_rootsOf_49 : decode cX2_rootsOf 49 = .ok (.iaload, 1) := by decide +kernel
theorem dX2_rootsOf_50 : decode cX2_rootsOf 50 = .ok (.ior, 1) := by decide +kernel
theorem dX2_rootsOf_51 : decode cX2_rootsOf 51 = .ok (.istore_n 3, 1) := by decide +kernel
theorem dX2_rootsOf_52 : decode cX2_rootsOf 52 = .ok (.goto 13, 3) := by decide +kernel
theorem dX2_rootsOf_55 : decode cX2_rootsOf 55 = .ok (.iload_n 2, 1) := by decide +kernel
theorem dX2_rootsOf_56 : decode cX2_rootsOf 56 = .ok (.aload_n 0, 1) := by decide +kernel
theorem dX2_rootsOf_57 : decode cX2_rootsOf 57 = .ok (.getfield 15, 3) := by decide +kernel
theorem dX2_rootsOf_60 : decode cX2_rootsOf 60 = .ok (.iload 4, 2) := by decide +kernel
theorem dX2_rootsOf_62 : decode cX2_rootsOf 62 = .ok (.iaload, 1) := by decide +kernel
theorem dX2_rootsOf_63 : decode cX2_rootsOf 63 = .ok (.ior, 1) := by decide +kernel
theorem dX2_rootsOf_64 : decode cX2_rootsOf 64 = .ok (.istore_n 2, 1) := by decide +kernel
theorem dX2_rootsOf_65 : decode cX2_rootsOf 65 = .ok (.iinc 4 (-1), 3) := by decide +kernel
theorem dX2_rootsOf_68 : decode cX2_rootsOf 68 = .ok (.goto (-56), 3) := by decide +kernel
theorem dX2_rootsOf_71 : decode cX2_rootsOf 71 = .ok (.iload_n 3, 1) := by decide +kernel
theorem dX2_rootsOf_72 : decode cX2_rootsOf 72 = .ok (.ireturn, 1) := by decide +kernel
set_option maxRecDepth 20000 in
theorem ggX3_init_X0_init : GoodIn wsX3_init wsX0_init := goodIn_r _ [24, 25, 2, 3, 20, 26, 27, 55, 56, 57, 58] (by decide +kernel) (by decide +kernel)
set_option maxRecDepth 20000 in
theorem gX3_init_X0_init : GoodIn wsX3_init (wsX0_init) := ggX3_init_X0_init
set_option maxRecDepth 20000 in
theorem ggX3_init_X1_init : GoodIn wsX3_init wsX1_init := goodIn_r _ [30, 31, 2, 3, 32, 33, 34, 35, 36, 37, 38, 39, 40, 41, 42, 20, 43, 44, 59, 60, 61, 62, 63, 64, 65, 66, 67, 68] (by decide +kernel) (by decide +kernel)
set_option maxRecDepth 20000 in
theorem gX3_init_X1_init : GoodIn wsX3_init (wsX1_init) := ggX3_init_X1_init
theorem dX3_init_0 : decode cX3_init 0 = .ok (.aload_n 0, 1) := by decide +kernel
theorem dX3_init_1 : decode cX3_init 1 = .ok (.invokespecial 1, 3) := by decide +kernel
theorem dX3_init_4 : decode cX3_init 4 = .ok (.aload_n 0, 1) := by decide +kernel
theorem dX3_init_5 : decode cX3_init 5 = .ok (.iconst 1, 1) := by decide +kernel
theorem dX3_init_6 : decode cX3_init 6 = .ok (.bipush 16, 2) := by decide +kernel
theorem dX3_init_8 : decode cX3_init 8 = .ok (.iload_n 1, 1) := by decide +kernel
theorem dX3_init_9 : decode cX3_init 9 = .ok (.invokestatic 9, 3) := by decide +kernel
theorem dX3_init_12 : decode cX3_init 12 = .ok (.invokestatic 15, 3) := by decide +kernel
theorem dX3_init_15 : decode cX3_init 15 = .ok (.putfield 18, 3) := by decide +kernel
theorem dX3_init_18 : decode cX3_init 18 = .ok (.aload_n 0, 1) := by decide +kernel
theorem dX3_init_19 : decode cX3_init 19 = .ok (.new 22, 3) := by decide +kernel
theorem dX3_init_22 : decode cX3_init 22 = .ok (.dup, 1) := by decide +kernel
theorem dX3_init_23 : decode cX3_init 23 = .ok (.invokespecial 24, 3) := by decide +kernel
theorem dX3_init_26 : decode cX3_init 26 = .ok (.putfield 25, 3) := by decide +kernel
theorem dX3_init_29 : decode cX3_init 29 = .ok (.aload_n 0, 1) := by decide +kernel
theorem dX3_init_30 : decode cX3_init 30 = .ok (.new 29, 3) := by decide +kernel
theorem dX3_init_33 : decode cX3_init 33 = .ok (.dup, 1) := by decide +kernel
theorem dX3_init_34 : decode cX3_init 34 = .ok (.aload_n 0, 1) := by decide +kernel
theorem dX3_init_35 : decode cX3_init 35 = .ok (.getfield 18, 3) := by decide +kernel
theorem dX3_init_38 : decode cX3_init 38 = .ok (.aload_n 0, 1) := by decide +kernel
theorem dX3_init_39 : decode cX3_init 39 = .ok (.getfield 25, 3) := by decide +kernel
theorem dX3_init_42 : decode cX3_init 42 = .ok (.invokespecial 31, 3) := by decide +kernel
theorem dX3_init_45 : decode cX3_init 45 = .ok (.putfield 34, 3) := by decide +kernel
theorem dX3_init_48 : decode cX3_init 48 = .ok (.aload_n 0, 1) := by decide +kernel
theorem dX3_init_49 : decode cX3_init 49 = .ok (.bipush 40, 2) := by decide +kernel
theorem dX3_init_51 : decode cX3_init 51 = .ok (.newarray .int, 2) := by decide +kernel
theorem dX3_init_53 : decode cX3_init 53 = .ok (.putfield 38, 3) := by decide +kernel
theorem dX3_init_56 : decode cX3_init 56 = .ok (.return_, 1) := by decide +kernel
set_option maxRecDepth 20000 in
theorem ggX3_add_X3_isLiteral : GoodIn wsX3_add wsX3_isLiteral := goodIn_r _ [8, 9, 18, 19, 20, 21, 22, 23, 24, 25, 26, 27] (by decide +kernel) (by decide +kernel)
set_option maxRecDepth 20000 in
theorem gX3_add_X3_isLiteral : GoodIn wsX3_add (wsV RX3 42 RX3 yX3_isLiteral wsX3_isLiteral) := goodIn_app (goodIn_of _ (by decide +kernel)) ggX3_add_X3_isLiteral
set_option maxRecDepth 20000 in
theorem ggX3_add_X3_bitOf : GoodIn wsX3_add wsX3_bitOf := goodIn_r _ [13, 9, 14, 15, 16, 17, 18, 19, 20, 21, 22, 23, 24, 25, 26, 27] (by decide +kernel) (by decide +kernel)
set_option maxRecDepth 20000 in
theorem gX3_add_X3_bitOf : GoodIn wsX3_add (wsV RX3 52 RX3 yX3_bitOf wsX3_bitOf) := goodIn_app (goodIn_of _ (by decide +kernel)) ggX3_add_X3_bitOf
theorem dX3_add_0 : decode cX3_add 0 = .ok (.aload_n 0, 1) := by decide +kernel
theorem dX3_add_1 : decode cX3_add 1 = .ok (.iload_n 1, 1) := by decide +kernel
theorem dX3_add_2 : decode cX3_add 2 = .ok (.invokevirtual 42, 3) := by decide +kernel
theorem dX3_add_5 : decode cX3_add 5 = .ok (.ifCond .eq 12, 3) := by decide +kernel
theorem dX3_add_8 : decode cX3_add 8 = .ok (.aload_n 0, 1) := by decide +kernel
theorem dX3_add_9 : decode cX3_add 9 = .ok (.getfield 46, 3) := by decide +kernel
theorem dX3_add_12 : decode cX3_add 12 = .ok (.bipush 20, 2) := by decide +kernel
theorem dX3_add_14 : decode cX3_add 14 = .ok (.if_icmp .lt 5, 3) := by decide +kernel
theorem dX3_add_17 : decode cX3_add 17 = .ok (.iconst 0, 1) := by decide +kernel
theorem dX3_add_18 : decode cX3_add 18 = .ok (.ireturn, 1) := by decide +kernel
theorem dX3_add_19 : decode cX3_add 19 = .ok (.iload_n 1, 1) := by decide +kernel
theorem dX3_add_20 : decode cX3_add 20 = .ok (.ifCond .le 20, 3) := by decide +kernel
theorem dX3_add_23 : decode cX3_add 23 = .ok (.aload_n 0, 1) := by decide +kernel
theorem dX3_add_24 : decode cX3_add 24 = .ok (.dup, 1) := by decide +kernel
theorem dX3_add_25 : decode cX3_add 25 = .ok (.getfield 49, 3) := by decide +kernel
theorem dX3_add_28 : decode cX3_add 28 = .ok (.aload_n 0, 1) := by decide +kernel
theorem dX3_add_29 : decode cX3_add 29 = .ok (.iload_n 1, 1) := by decide +kernel
theorem dX3_add_30 : decode cX3_add 30 = .ok (.invokevirtual 52, 3) := by decide +kernel
theorem dX3_add_33 : decode cX3_add 33 = .ok (.ior, 1) := by decide +kernel
theorem dX3_add_34 : decode cX3_add 34 = .ok (.putfield 49, 3) := by decide +kernel
theorem dX3_add_37 : decode cX3_add 37 = .ok (.goto 17, 3) := by decide +kernel
theorem dX3_add_40 : decode cX3_add 40 = .ok (.aload_n 0, 1) := by decide +kernel
theorem dX3_add_41 : decode cX3_add 41 = .ok (.dup, 1) := by decide +kernel
theorem dX3_add_42 : decode cX3_add 42 = .ok (.getfield 56, 3) := by decide +kernel
theorem dX3_add_45 : decode cX3_add 45 = .ok (.aload_n 0, 1) := by decide +kernel
theorem dX3_add_46 : decode cX3_add 46 = .ok (.iload_n 1, 1) := by decide +kernel
theorem dX3_add_47 : decode cX3_add 47 = .ok (.invokevirtual 52, 3) := by decide +kernel
theorem dX3_add_50 : decode cX3_add 50 = .ok (.ior, 1) := by decide +kernel
theorem dX3_add_51 : decode cX3_add 51 = .ok (.putfield 56, 3) := by decide +kernel
theorem dX3_add_54 : decode cX3_add 54 = .ok (.aload_n 0, 1) := by decide +kernel
theorem dX3_add_55 : decode cX3_add 55 = .ok (.dup, 1) := by decide +kernel
theorem dX3_add_56 : decode cX3_add 56 = .ok (.getfield 46, 3) := by decide +kernel
theorem dX3_add_59 : decode cX3_add 59 = .ok (.iconst 1, 1) := by decide +kernel
theorem dX3_add_60 : decode cX3_add 60 = .ok (.iadd, 1) := by decide +kernel
theorem dX3_add_61 : decode cX3_add 61 = .ok (.putfield 46, 3) := by decide +kernel
theorem dX3_add_64 : decode cX3_add 64 = .ok (.iconst 1, 1) := by decide +kernel
theorem dX3_add_65 : decode cX3_add 65 = .ok (.ireturn, 1) := by decide +kernel
set_option maxRecDepth 20000 in
theorem ggX3_close_X3_takeMadeClause : GoodIn wsX3_close wsX3_takeMadeClause := goodIn_r _ [8, 9, 10, 11, 12, 13, 14, 15, 16, 17, 18, 19, 20, 25, 26, 27, 28, 29, 30, 31, 32, 33, 34, 35, 36, 37, 38] (by decide +kernel) (by decide +kernel)
set_option maxRecDepth 20000 in
theorem gX3_close_X3_takeMadeClause : GoodIn wsX3_close (wsV RX3 65 RX3 yX3_takeMadeClause wsX3_takeMadeClause) := goodIn_app (goodIn_of _ (by decide +kernel)) ggX3_close_X3_takeMadeClause
set_option maxRecDepth 20000 in
theorem ggX3_close_X3_forgetMadeClause : GoodIn wsX3_close wsX3_forgetMadeClause := goodIn_r _ [24, 9, 10, 3, 25, 26, 27, 28, 29, 30, 31, 32, 33, 34] (by decide +kernel) (by decide +kernel)
set_option maxRecDepth 20000 in
theorem gX3_close_X3_forgetMadeClause : GoodIn wsX3_close (wsV RX3 68 RX3 yX3_forgetMadeClause wsX3_forgetMadeClause) := goodIn_app (goodIn_of _ (by decide +kernel)) ggX3_close_X3_forgetMadeClause
theorem dX3_close_0 : decode cX3_close 0 = .ok (.aload_n 0, 1) := by decide +kernel
theorem dX3_close_1 : decode cX3_close 1 = .ok (.getfield 59, 3) := by decide +kernel
theorem dX3_close_4 : decode cX3_close 4 = .ok (.sipush 600, 3) := by decide +kernel
theorem dX3_close_7 : decode cX3_close 7 = .ok (.if_icmp .ge 22, 3) := by decide +kernel
theorem dX3_close_10 : decode cX3_close 10 = .ok (.aload_n 0, 1) := by decide +kernel
theorem dX3_close_11 : decode cX3_close 11 = .ok (.getfield 62, 3) := by decide +kernel
theorem dX3_close_14 : decode cX3_close 14 = .ok (.aload_n 0, 1) := by decide +kernel
theorem dX3_close_15 : decode cX3_close 15 = .ok (.getfield 46, 3) := by decide +kernel
theorem dX3_close_18 : decode cX3_close 18 = .ok (.iadd, 1) := by decide +kernel
theorem dX3_close_19 : decode cX3_close 19 = .ok (.sipush 4000, 3) := by decide +kernel
theorem dX3_close_22 : decode cX3_close 22 = .ok (.if_icmp .gt 7, 3) := by decide +kernel
theorem dX3_close_25 : decode cX3_close 25 = .ok (.iconst 1, 1) := by decide +kernel
theorem dX3_close_26 : decode cX3_close 26 = .ok (.goto 4, 3) := by decide +kernel
theorem dX3_close_29 : decode cX3_close 29 = .ok (.iconst 0, 1) := by decide +kernel
theorem dX3_close_30 : decode cX3_close 30 = .ok (.istore_n 1, 1) := by decide +kernel
theorem dX3_close_31 : decode cX3_close 31 = .ok (.iload_n 1, 1) := by decide +kernel
theorem dX3_close_32 : decode cX3_close 32 = .ok (.ifCond .eq 30, 3) := by decide +kernel
theorem dX3_close_35 : decode cX3_close 35 = .ok (.aload_n 0, 1) := by decide +kernel
theorem dX3_close_36 : decode cX3_close 36 = .ok (.dup, 1) := by decide +kernel
theorem dX3_close_37 : decode cX3_close 37 = .ok (.getfield 59, 3) := by decide +kernel
theorem dX3_close_40 : decode cX3_close 40 = .ok (.iconst 1, 1) := by decide +kernel
theorem dX3_close_41 : decode cX3_close 41 = .ok (.iadd, 1) := by decide +kernel
theorem dX3_close_42 : decode cX3_close 42 = .ok (.putfield 59, 3) := by decide +kernel
theorem dX3_close_45 : decode cX3_close 45 = .ok (.aload_n 0, 1) := by decide +kernel
theorem dX3_close_46 : decode cX3_close 46 = .ok (.dup, 1) := by decide +kernel
theorem dX3_close_47 : decode cX3_close 47 = .ok (.getfield 62, 3) := by decide +kernel
theorem dX3_close_50 : decode cX3_close 50 = .ok (.aload_n 0, 1) := by decide +kernel
theorem dX3_close_51 : decode cX3_close 51 = .ok (.getfield 46, 3) := by decide +kernel
theorem dX3_close_54 : decode cX3_close 54 = .ok (.iadd, 1) := by decide +kernel
theorem dX3_close_55 : decode cX3_close 55 = .ok (.putfield 62, 3) := by decide +kernel
theorem dX3_close_58 : decode cX3_close 58 = .ok (.aload_n 0, 1) := by decide +kernel
theorem dX3_close_59 : decode cX3_close 59 = .ok (.invokevirtual 65, 3) := by decide +kernel
theorem dX3_close_62 : decode cX3_close 62 = .ok (.aload_n 0, 1) := by decide +kernel
theorem dX3_close_63 : decode cX3_close 63 = .ok (.invokevirtual 68, 3) := by decide +kernel
theorem dX3_close_66 : decode cX3_close 66 = .ok (.iload_n 1, 1) := by decide +kernel
theorem dX3_close_67 : decode cX3_close 67 = .ok (.ifCond .eq 10, 3) := by decide +kernel
theorem dX3_close_70 : decode cX3_close 70 = .ok (.aload_n 0, 1) := by decide +kernel
theorem dX3_close_71 : decode cX3_close 71 = .ok (.getfield 59, 3) := by decide +kernel
theorem dX3_close_74 : decode cX3_close 74 = .ok (.goto 4, 3) := by decide +kernel
theorem dX3_close_77 : decode cX3_close 77 = .ok (.iconst (-1), 1) := by decide +kernel
theorem dX3_close_78 : decode cX3_close 78 = .ok (.ireturn, 1) := by decide +kernel
set_option maxRecDepth 20000 in
theorem ggX3_assume_X3_isLiteral : GoodIn wsX3_assume wsX3_isLiteral := goodIn_r _ [7, 8, 9, 10, 11, 12, 13, 14, 15, 16, 17, 18] (by decide +kernel) (by decide +kernel)
set_option maxRecDepth 20000 in
theorem gX3_assume_X3_isLiteral : GoodIn wsX3_assume (wsV RX3 42 RX3 yX3_isLiteral wsX3_isLiteral) := goodIn_app (goodIn_of _ (by decide +kernel)) ggX3_assume_X3_isLiteral
theorem dX3_assume_0 : decode cX3_assume 0 = .ok (.aload_n 0, 1) := by decide +kernel
theorem dX3_assume_1 : decode cX3_assume 1 = .ok (.iload_n 1, 1) := by decide +kernel
theorem dX3_assume_2 : decode cX3_assume 2 = .ok (.invokevirtual 42, 3) := by decide +kernel
theorem dX3_assume_5 : decode cX3_assume 5 = .ok (.ifCond .eq 12, 3) := by decide +kernel
theorem dX3_assume_8 : decode cX3_assume 8 = .ok (.aload_n 0, 1) := by decide +kernel
theorem dX3_assume_9 : decode cX3_assume 9 = .ok (.getfield 71, 3) := by decide +kernel
theorem dX3_assume_12 : decode cX3_assume 12 = .ok (.bipush 40, 2) := by decide +kernel
theorem dX3_assume_14 : decode cX3_assume 14 = .ok (.if_icmp .lt 5, 3) := by decide +kernel
theorem dX3_assume_17 : decode cX3_assume 17 = .ok (.iconst (-1), 1) := by decide +kernel
theorem dX3_assume_18 : decode cX3_assume 18 = .ok (.ireturn, 1) := by decide +kernel
theorem dX3_assume_19 : decode cX3_assume 19 = .ok (.aload_n 0, 1) := by decide +kernel
theorem dX3_assume_20 : decode cX3_assume 20 = .ok (.getfield 38, 3) := by decide +kernel
theorem dX3_assume_23 : decode cX3_assume 23 = .ok (.aload_n 0, 1) := by decide +kernel
theorem dX3_assume_24 : decode cX3_assume 24 = .ok (.getfield 71, 3) := by decide +kernel
theorem dX3_assume_27 : decode cX3_assume 27 = .ok (.iload_n 1, 1) := by decide +kernel
theorem dX3_assume_28 : decode cX3_assume 28 = .ok (.iastore, 1) := by decide +kernel
theorem dX3_assume_29 : decode cX3_assume 29 = .ok (.aload_n 0, 1) := by decide +kernel
theorem dX3_assume_30 : decode cX3_assume 30 = .ok (.dup, 1) := by decide +kernel
theorem dX3_assume_31 : decode cX3_assume 31 = .ok (.getfield 71, 3) := by decide +kernel
theorem dX3_assume_34 : decode cX3_assume 34 = .ok (.iconst 1, 1) := by decide +kernel
theorem dX3_assume_35 : decode cX3_assume 35 = .ok (.iadd, 1) := by decide +kernel
theorem dX3_assume_36 : decode cX3_assume 36 = .ok (.putfield 71, 3) := by decide +kernel
theorem dX3_assume_39 : decode cX3_assume 39 = .ok (.aload_n 0, 1) := by decide +kernel
theorem dX3_assume_40 : decode cX3_assume 40 = .ok (.getfield 71, 3) := by decide +kernel
theorem dX3_assume_43 : decode cX3_assume 43 = .ok (.ireturn, 1) := by decide +kernel
theorem dX3_retract_0 : decode cX3_retract 0 = .ok (.iload_n 1, 1) := by decide +kernel
theorem dX3_retract_1 : decode cX3_retract 1 = .ok (.ifCond .lt 11, 3) := by decide +kernel
theorem dX3_retract_4 : decode cX3_retract 4 = .ok (.iload_n 1, 1) := by decide +kernel
theorem dX3_retract_5 : decode cX3_retract 5 = .ok (.aload_n 0, 1) := by decide +kernel
theorem dX3_retract_6 : decode cX3_retract 6 = .ok (.getfield 71, 3) := by decide +kernel
theorem dX3_retract_9 : decode cX3_retract 9 = .ok (.if_icmp .le 5, 3) := by decide +kernel
theorem dX3_retract_12 : decode cX3_retract 12 = .ok (.iconst (-1), 1) := by decide +kernel
theorem dX3_retract_13 : decode cX3_retract 13 = .ok (.ireturn, 1) := by decide +kernel
theorem dX3_retract_14 : decode cX3_retract 14 = .ok (.aload_n 0, 1) := by decide +kernel
theorem dX3_retract_15 : decode cX3_retract 15 = .ok (.dup, 1) := by decide +kernel
theorem dX3_retract_16 : decode cX3_retract 16 = .ok (.getfield 71, 3) := by decide +kernel
theorem dX3_retract_19 : decode cX3_retract 19 = .ok (.iload_n 1, 1) := by decide +kernel
theorem dX3_retract_20 : decode cX3_retract 20 = .ok (.isub, 1) := by decide +kernel
theorem dX3_retract_21 : decode cX3_retract 21 = .ok (.putfield 71, 3) := by decide +kernel
theorem dX3_retract_24 : decode cX3_retract 24 = .ok (.aload_n 0, 1) := by decide +kernel
theorem dX3_retract_25 : decode cX3_retract 25 = .ok (.getfield 71, 3) := by decide +kernel
theorem dX3_retract_28 : decode cX3_retract 28 = .ok (.ireturn, 1) := by decide +kernel
set_option maxRecDepth 20000 in
theorem ggX3_solve_X3_firstModelUnder : GoodIn wsX3_solve wsX3_firstModelUnder := goodIn_r _ [6, 7, 8, 9, 10, 11, 12, 5, 13, 14, 15, 16, 17, 18, 19, 20, 21, 22, 23, 24, 25, 26, 27, 28, 29, 30, 31, 32, 33, 34, 35, 36, 37, 38, 39, 40, 41, 42, 43, 44, 45, 46, 47, 48, 49, 50, 51, 52, 53, 54, 55, 56, 57, 58, 59, 60, 61, 62, 63, 64, 65, 66, 67, 68, 69, 70, 71, 72, 73, 74, 75, 76, 77, 78, 79, 80, 81, 82, 83, 84, 85, 86, 87, 88, 89, 90, 91, 92, 93, 94, 95, 96, 97, 98, 99, 100, 101, 102, 103, 104, 105, 106, 107, 108, 109, 110, 111, 112, 113, 114, 115, 116, 117, 118, 119] (by decide +kernel) (by decide +kernel)
set_option maxRecDepth 20000 in
theorem gX3_solve_X3_firstModelUnder : GoodIn wsX3_solve (wsV RX3 76 RX3 yX3_firstModelUnder wsX3_firstModelUnder) := goodIn_app (goodIn_of _ (by decide +kernel)) ggX3_solve_X3_firstModelUnder
theorem dX3_solve_0 : decode cX3_solve 0 = .ok (.aload_n 0, 1) := by decide +kernel
theorem dX3_solve_1 : decode cX3_solve 1 = .ok (.ldc2_w 74, 3) := by decide +kernel
theorem dX3_solve_4 : decode cX3_solve 4 = .ok (.iconst 0, 1) := by decide +kernel
end
section
theorem dX3_solve_5 : decode cX3_solve 5 = .ok (.invokevirtual 76, 3) := by decide +kernel
theorem dX3_solve_8 : decode cX3_solve 8 = .ok (.iconst (-1), 1) := by decide +kernel
theorem dX3_solve_9 : decode cX3_solve 9 = .ok (.if_icmp .eq 7, 3) := by decide +kernel
theorem dX3_solve_12 : decode cX3_solve 12 = .ok (.iconst 1, 1) := by decide +kernel
theorem dX3_solve_13 : decode cX3_solve 13 = .ok (.goto 4, 3) := by decide +kernel
theorem dX3_solve_16 : decode cX3_solve 16 = .ok (.iconst 0, 1) := by decide +kernel
theorem dX3_solve_17 : decode cX3_solve 17 = .ok (.ireturn, 1) := by decide +kernel
set_option maxRecDepth 20000 in
theorem ggX3_least_X3_firstModelUnder : GoodIn wsX3_least wsX3_firstModelUnder := goodIn_r _ [6, 7, 8, 9, 10, 11, 12, 5, 13, 14, 15, 16, 17, 18, 19, 20, 21, 22, 23, 24, 25, 26, 27, 28, 29, 30, 31, 32, 33, 34, 35, 36, 37, 38, 39, 40, 41, 42, 43, 44, 45, 46, 47, 48, 49, 50, 51, 52, 53, 54, 55, 56, 57, 58, 59, 60, 61, 62, 63, 64, 65, 66, 67, 68, 69, 70, 71, 72, 73, 74, 75, 76, 77, 78, 79, 80, 81, 82, 83, 84, 85, 86, 87, 88, 89, 90, 91, 92, 93, 94, 95, 96, 97, 98, 99, 100, 101, 102, 103, 104, 105, 106, 107, 108, 109, 110, 111, 112, 113, 114, 115, 116, 117, 118, 119] (by decide +kernel) (by decide +kernel)
set_option maxRecDepth 20000 in
theorem gX3_least_X3_firstModelUnder : GoodIn wsX3_least (wsV RX3 76 RX3 yX3_firstModelUnder wsX3_firstModelUnder) := goodIn_app (goodIn_of _ (by decide +kernel)) ggX3_least_X3_firstModelUnder
theorem dX3_least_0 : decode cX3_least 0 = .ok (.aload_n 0, 1) := by decide +kernel
theorem dX3_least_1 : decode cX3_least 1 = .ok (.ldc2_w 74, 3) := by decide +kernel
theorem dX3_least_4 : decode cX3_least 4 = .ok (.iconst 0, 1) := by decide +kernel
theorem dX3_least_5 : decode cX3_least 5 = .ok (.invokevirtual 76, 3) := by decide +kernel
theorem dX3_least_8 : decode cX3_least 8 = .ok (.ireturn, 1) := by decide +kernel
set_option maxRecDepth 20000 in
theorem ggX3_implied_X3_isLiteral : GoodIn wsX3_implied wsX3_isLiteral := goodIn_r _ [6, 7, 100, 101, 102, 103, 104, 105, 106, 107, 108, 109] (by decide +kernel) (by decide +kernel)
set_option maxRecDepth 20000 in
theorem gX3_implied_X3_isLiteral : GoodIn wsX3_implied (wsV RX3 42 RX3 yX3_isLiteral wsX3_isLiteral) := goodIn_app (goodIn_of _ (by decide +kernel)) ggX3_implied_X3_isLiteral
set_option maxRecDepth 20000 in
theorem ggX3_implied_X3_firstModelUnder : GoodIn wsX3_implied wsX3_firstModelUnder := goodIn_r _ [11, 12, 13, 14, 15, 16, 17, 5, 18, 7, 19, 20, 21, 22, 23, 24, 25, 26, 27, 28, 29, 30, 31, 32, 33, 34, 35, 36, 37, 38, 39, 40, 41, 42, 43, 44, 45, 46, 47, 48, 49, 50, 51, 52, 53, 54, 55, 56, 57, 58, 59, 60, 61, 62, 63, 64, 65, 66, 67, 68, 69, 70, 71, 72, 73, 74, 75, 76, 77, 78, 79, 80, 81, 82, 83, 84, 85, 86, 87, 88, 89, 90, 91, 92, 93, 94, 95, 96, 97, 98, 99, 100, 101, 102, 103, 104, 105, 106, 107, 108, 109, 110, 111, 112, 113, 114, 115, 116, 117, 118, 119, 120, 121, 122, 123] (by decide +kernel) (by decide +kernel)
set_option maxRecDepth 20000 in
theorem gX3_implied_X3_firstModelUnder : GoodIn wsX3_implied (wsV RX3 76 RX3 yX3_firstModelUnder wsX3_firstModelUnder) := goodIn_app (goodIn_of _ (by decide +kernel)) ggX3_implied_X3_firstModelUnder
theorem dX3_implied_0 : decode cX3_implied 0 = .ok (.aload_n 0, 1) := by decide +kernel
theorem dX3_implied_1 : decode cX3_implied 1 = .ok (.iload_n 1, 1) := by decide +kernel
theorem dX3_implied_2 : decode cX3_implied 2 = .ok (.invokevirtual 42, 3) := by decide +kernel
theorem dX3_implied_5 : decode cX3_implied 5 = .ok (.ifCond .eq 15, 3) := by decide +kernel
theorem dX3_implied_8 : decode cX3_implied 8 = .ok (.aload_n 0, 1) := by decide +kernel
theorem dX3_implied_9 : decode cX3_implied 9 = .ok (.ldc2_w 74, 3) := by decide +kernel
theorem dX3_implied_12 : decode cX3_implied 12 = .ok (.iconst 0, 1) := by decide +kernel
theorem dX3_implied_13 : decode cX3_implied 13 = .ok (.invokevirtual 76, 3) := by decide +kernel
theorem dX3_implied_16 : decode cX3_implied 16 = .ok (.iconst (-1), 1) := by decide +kernel
theorem dX3_implied_17 : decode cX3_implied 17 = .ok (.if_icmp .ne 5, 3) := by decide +kernel
theorem dX3_implied_20 : decode cX3_implied 20 = .ok (.iconst (-1), 1) := by decide +kernel
theorem dX3_implied_21 : decode cX3_implied 21 = .ok (.ireturn, 1) := by decide +kernel
theorem dX3_implied_22 : decode cX3_implied 22 = .ok (.aload_n 0, 1) := by decide +kernel
theorem dX3_implied_23 : decode cX3_implied 23 = .ok (.ldc2_w 74, 3) := by decide +kernel
theorem dX3_implied_26 : decode cX3_implied 26 = .ok (.iload_n 1, 1) := by decide +kernel
theorem dX3_implied_27 : decode cX3_implied 27 = .ok (.ineg, 1) := by decide +kernel
theorem dX3_implied_28 : decode cX3_implied 28 = .ok (.invokevirtual 76, 3) := by decide +kernel
theorem dX3_implied_31 : decode cX3_implied 31 = .ok (.iconst (-1), 1) := by decide +kernel
theorem dX3_implied_32 : decode cX3_implied 32 = .ok (.if_icmp .ne 7, 3) := by decide +kernel
theorem dX3_implied_35 : decode cX3_implied 35 = .ok (.iconst 1, 1) := by decide +kernel
theorem dX3_implied_36 : decode cX3_implied 36 = .ok (.goto 4, 3) := by decide +kernel
theorem dX3_implied_39 : decode cX3_implied 39 = .ok (.iconst 0, 1) := by decide +kernel
theorem dX3_implied_40 : decode cX3_implied 40 = .ok (.ireturn, 1) := by decide +kernel
set_option maxRecDepth 20000 in
theorem ggX3_core_X3_firstModelUnder : GoodIn wsX3_core wsX3_firstModelUnder := goodIn_r _ [7, 2, 8, 9, 10, 11, 12, 6, 13, 14, 15, 16, 17, 18, 19, 20, 21, 22, 23, 24, 25, 26, 27, 28, 29, 30, 31, 32, 33, 34, 35, 36, 37, 38, 39, 40, 41, 42, 43, 44, 45, 46, 47, 48, 49, 50, 51, 52, 53, 54, 55, 56, 57, 58, 59, 60, 61, 62, 63, 64, 65, 66, 67, 68, 69, 70, 71, 72, 73, 74, 75, 76, 77, 78, 79, 80, 81, 82, 83, 84, 85, 86, 87, 88, 89, 90, 91, 92, 93, 94, 95, 96, 97, 98, 99, 100, 101, 102, 103, 104, 105, 106, 107, 108, 109, 110, 111, 112, 113, 114, 115, 116, 117, 118, 119] (by decide +kernel) (by decide +kernel)
set_option maxRecDepth 20000 in
theorem gX3_core_X3_firstModelUnder : GoodIn wsX3_core (wsV RX3 76 RX3 yX3_firstModelUnder wsX3_firstModelUnder) := goodIn_app (goodIn_of _ (by decide +kernel)) ggX3_core_X3_firstModelUnder
theorem dX3_core_0 : decode cX3_core 0 = .ok (.aload_n 0, 1) := by decide +kernel
theorem dX3_core_1 : decode cX3_core 1 = .ok (.ldc2_w 74, 3) := by decide +kernel
theorem dX3_core_4 : decode cX3_core 4 = .ok (.iconst 0, 1) := by decide +kernel
theorem dX3_core_5 : decode cX3_core 5 = .ok (.invokevirtual 76, 3) := by decide +kernel
theorem dX3_core_8 : decode cX3_core 8 = .ok (.iconst (-1), 1) := by decide +kernel
theorem dX3_core_9 : decode cX3_core 9 = .ok (.if_icmp .eq 5, 3) := by decide +kernel
theorem dX3_core_12 : decode cX3_core 12 = .ok (.lconst 0, 1) := by decide +kernel
theorem dX3_core_13 : decode cX3_core 13 = .ok (.lreturn, 1) := by decide +kernel
theorem dX3_core_14 : decode cX3_core 14 = .ok (.lconst 1, 1) := by decide +kernel
theorem dX3_core_15 : decode cX3_core 15 = .ok (.aload_n 0, 1) := by decide +kernel
theorem dX3_core_16 : decode cX3_core 16 = .ok (.getfield 71, 3) := by decide +kernel
theorem dX3_core_19 : decode cX3_core 19 = .ok (.lshl, 1) := by decide +kernel
theorem dX3_core_20 : decode cX3_core 20 = .ok (.lconst 1, 1) := by decide +kernel
theorem dX3_core_21 : decode cX3_core 21 = .ok (.lsub, 1) := by decide +kernel
theorem dX3_core_22 : decode cX3_core 22 = .ok (.lstore_n 1, 1) := by decide +kernel
theorem dX3_core_23 : decode cX3_core 23 = .ok (.iconst 0, 1) := by decide +kernel
theorem dX3_core_24 : decode cX3_core 24 = .ok (.istore_n 3, 1) := by decide +kernel
theorem dX3_core_25 : decode cX3_core 25 = .ok (.iload_n 3, 1) := by decide +kernel
theorem dX3_core_26 : decode cX3_core 26 = .ok (.aload_n 0, 1) := by decide +kernel
theorem dX3_core_27 : decode cX3_core 27 = .ok (.getfield 71, 3) := by decide +kernel
theorem dX3_core_30 : decode cX3_core 30 = .ok (.if_icmp .ge 34, 3) := by decide +kernel
theorem dX3_core_33 : decode cX3_core 33 = .ok (.lload_n 1, 1) := by decide +kernel
theorem dX3_core_34 : decode cX3_core 34 = .ok (.lconst 1, 1) := by decide +kernel
theorem dX3_core_35 : decode cX3_core 35 = .ok (.iload_n 3, 1) := by decide +kernel
theorem dX3_core_36 : decode cX3_core 36 = .ok (.lshl, 1) := by decide +kernel
theorem dX3_core_37 : decode cX3_core 37 = .ok (.ldc2_w 74, 3) := by decide +kernel
theorem dX3_core_40 : decode cX3_core 40 = .ok (.lxor, 1) := by decide +kernel
theorem dX3_core_41 : decode cX3_core 41 = .ok (.land, 1) := by decide +kernel
theorem dX3_core_42 : decode cX3_core 42 = .ok (.lstore 4, 2) := by decide +kernel
theorem dX3_core_44 : decode cX3_core 44 = .ok (.aload_n 0, 1) := by decide +kernel
theorem dX3_core_45 : decode cX3_core 45 = .ok (.lload 4, 2) := by decide +kernel
theorem dX3_core_47 : decode cX3_core 47 = .ok (.iconst 0, 1) := by decide +kernel
theorem dX3_core_48 : decode cX3_core 48 = .ok (.invokevirtual 76, 3) := by decide +kernel
theorem dX3_core_51 : decode cX3_core 51 = .ok (.iconst (-1), 1) := by decide +kernel
theorem dX3_core_52 : decode cX3_core 52 = .ok (.if_icmp .ne 6, 3) := by decide +kernel
theorem dX3_core_55 : decode cX3_core 55 = .ok (.lload 4, 2) := by decide +kernel
theorem dX3_core_57 : decode cX3_core 57 = .ok (.lstore_n 1, 1) := by decide +kernel
theorem dX3_core_58 : decode cX3_core 58 = .ok (.iinc 3 1, 3) := by decide +kernel
theorem dX3_core_61 : decode cX3_core 61 = .ok (.goto (-36), 3) := by decide +kernel
theorem dX3_core_64 : decode cX3_core 64 = .ok (.lload_n 1, 1) := by decide +kernel
theorem dX3_core_65 : decode cX3_core 65 = .ok (.lreturn, 1) := by decide +kernel
theorem dX3_isLiteral_0 : decode cX3_isLiteral 0 = .ok (.iload_n 1, 1) := by decide +kernel
theorem dX3_isLiteral_1 : decode cX3_isLiteral 1 = .ok (.ifCond .eq 24, 3) := by decide +kernel
theorem dX3_isLiteral_4 : decode cX3_isLiteral 4 = .ok (.iload_n 1, 1) := by decide +kernel
theorem dX3_isLiteral_5 : decode cX3_isLiteral 5 = .ok (.aload_n 0, 1) := by decide +kernel
theorem dX3_isLiteral_6 : decode cX3_isLiteral 6 = .ok (.getfield 18, 3) := by decide +kernel
theorem dX3_isLiteral_9 : decode cX3_isLiteral 9 = .ok (.ineg, 1) := by decide +kernel
theorem dX3_isLiteral_10 : decode cX3_isLiteral 10 = .ok (.if_icmp .lt 15, 3) := by decide +kernel
theorem dX3_isLiteral_13 : decode cX3_isLiteral 13 = .ok (.iload_n 1, 1) := by decide +kernel
theorem dX3_isLiteral_14 : decode cX3_isLiteral 14 = .ok (.aload_n 0, 1) := by decide +kernel
theorem dX3_isLiteral_15 : decode cX3_isLiteral 15 = .ok (.getfield 18, 3) := by decide +kernel
theorem dX3_isLiteral_18 : decode cX3_isLiteral 18 = .ok (.if_icmp .gt 7, 3) := by decide +kernel
theorem dX3_isLiteral_21 : decode cX3_isLiteral 21 = .ok (.iconst 1, 1) := by decide +kernel
theorem dX3_isLiteral_22 : decode cX3_isLiteral 22 = .ok (.goto 4, 3) := by decide +kernel
theorem dX3_isLiteral_25 : decode cX3_isLiteral 25 = .ok (.iconst 0, 1) := by decide +kernel
theorem dX3_isLiteral_26 : decode cX3_isLiteral 26 = .ok (.ireturn, 1) := by decide +kernel
theorem dX3_bitOf_0 : decode cX3_bitOf 0 = .ok (.iconst 1, 1) := by decide +kernel
theorem dX3_bitOf_1 : decode cX3_bitOf 1 = .ok (.aload_n 0, 1) := by decide +kernel
theorem dX3_bitOf_2 : decode cX3_bitOf 2 = .ok (.getfield 18, 3) := by decide +kernel
theorem dX3_bitOf_5 : decode cX3_bitOf 5 = .ok (.iload_n 1, 1) := by decide +kernel
theorem dX3_bitOf_6 : decode cX3_bitOf 6 = .ok (.invokestatic 86, 3) := by decide +kernel
theorem dX3_bitOf_9 : decode cX3_bitOf 9 = .ok (.isub, 1) := by decide +kernel
theorem dX3_bitOf_10 : decode cX3_bitOf 10 = .ok (.ishl, 1) := by decide +kernel
theorem dX3_bitOf_11 : decode cX3_bitOf 11 = .ok (.ireturn, 1) := by decide +kernel
set_option maxRecDepth 20000 in
theorem ggX3_takeMadeClause_X0_give : GoodIn wsX3_takeMadeClause wsX0_give := goodIn_r _ [8, 9, 10, 11, 12, 23, 24, 25, 26] (by decide +kernel) (by decide +kernel)
set_option maxRecDepth 20000 in
theorem gX3_takeMadeClause_X0_give : GoodIn wsX3_takeMadeClause (wsV RX3 89 RX0 yX0_give wsX0_give) := goodIn_app (goodIn_of _ (by decide +kernel)) ggX3_takeMadeClause_X0_give
theorem dX3_takeMadeClause_0 : decode cX3_takeMadeClause 0 = .ok (.aload_n 0, 1) := by decide +kernel
theorem dX3_takeMadeClause_1 : decode cX3_takeMadeClause 1 = .ok (.getfield 49, 3) := by decide +kernel
theorem dX3_takeMadeClause_4 : decode cX3_takeMadeClause 4 = .ok (.aload_n 0, 1) := by decide +kernel
theorem dX3_takeMadeClause_5 : decode cX3_takeMadeClause 5 = .ok (.getfield 56, 3) := by decide +kernel
theorem dX3_takeMadeClause_8 : decode cX3_takeMadeClause 8 = .ok (.iand, 1) := by decide +kernel
theorem dX3_takeMadeClause_9 : decode cX3_takeMadeClause 9 = .ok (.ifCond .ne 18, 3) := by decide +kernel
theorem dX3_takeMadeClause_12 : decode cX3_takeMadeClause 12 = .ok (.aload_n 0, 1) := by decide +kernel
theorem dX3_takeMadeClause_13 : decode cX3_takeMadeClause 13 = .ok (.getfield 25, 3) := by decide +kernel
theorem dX3_takeMadeClause_16 : decode cX3_takeMadeClause 16 = .ok (.aload_n 0, 1) := by decide +kernel
theorem dX3_takeMadeClause_17 : decode cX3_takeMadeClause 17 = .ok (.getfield 49, 3) := by decide +kernel
theorem dX3_takeMadeClause_20 : decode cX3_takeMadeClause 20 = .ok (.aload_n 0, 1) := by decide +kernel
theorem dX3_takeMadeClause_21 : decode cX3_takeMadeClause 21 = .ok (.getfield 56, 3) := by decide +kernel
theorem dX3_takeMadeClause_24 : decode cX3_takeMadeClause 24 = .ok (.invokevirtual 89, 3) := by decide +kernel
theorem dX3_takeMadeClause_27 : decode cX3_takeMadeClause 27 = .ok (.return_, 1) := by decide +kernel
theorem dX3_forgetMadeClause_0 : decode cX3_forgetMadeClause 0 = .ok (.aload_n 0, 1) := by decide +kernel
theorem dX3_forgetMadeClause_1 : decode cX3_forgetMadeClause 1 = .ok (.iconst 0, 1) := by decide +kernel
theorem dX3_forgetMadeClause_2 : decode cX3_forgetMadeClause 2 = .ok (.putfield 49, 3) := by decide +kernel
theorem dX3_forgetMadeClause_5 : decode cX3_forgetMadeClause 5 = .ok (.aload_n 0, 1) := by decide +kernel
theorem dX3_forgetMadeClause_6 : decode cX3_forgetMadeClause 6 = .ok (.iconst 0, 1) := by decide +kernel
theorem dX3_forgetMadeClause_7 : decode cX3_forgetMadeClause 7 = .ok (.putfield 56, 3) := by decide +kernel
theorem dX3_forgetMadeClause_10 : decode cX3_forgetMadeClause 10 = .ok (.aload_n 0, 1) := by decide +kernel
theorem dX3_forgetMadeClause_11 : decode cX3_forgetMadeClause 11 = .ok (.iconst 0, 1) := by decide +kernel
theorem dX3_forgetMadeClause_12 : decode cX3_forgetMadeClause 12 = .ok (.putfield 46, 3) := by decide +kernel
theorem dX3_forgetMadeClause_15 : decode cX3_forgetMadeClause 15 = .ok (.return_, 1) := by decide +kernel
set_option maxRecDepth 20000 in
theorem ggX3_firstModelUnder_X3_bitOf : GoodIn wsX3_firstModelUnder wsX3_bitOf := goodIn_r _ [8, 9, 10, 11, 12, 13, 91, 92, 93, 94, 95, 96, 97, 98, 99, 100] (by decide +kernel) (by decide +kernel)
set_option maxRecDepth 20000 in
theorem gX3_firstModelUnder_X3_bitOf : GoodIn wsX3_firstModelUnder (wsV RX3 52 RX3 yX3_bitOf wsX3_bitOf) := goodIn_app (goodIn_of _ (by decide +kernel)) ggX3_firstModelUnder_X3_bitOf
set_option maxRecDepth 20000 in
theorem ggX3_firstModelUnder_X1_firstModel : GoodIn wsX3_firstModelUnder wsX1_firstModel := goodIn_r _ [18, 19, 20, 21, 22, 23, 24, 25, 26, 27, 28, 29, 30, 31, 32, 33, 34, 35, 36, 37, 38, 39, 40, 41, 42, 43, 44, 17, 45, 46, 47, 48, 49, 50, 51, 52, 53, 54, 55, 56, 57, 58, 59, 60, 61, 62, 63, 64, 65, 66, 67, 68, 69, 70, 71, 72, 73, 74, 75, 76, 77, 78, 79, 80, 81, 82, 83, 84, 85, 86, 12, 87, 88, 89, 90, 101, 102, 103, 104, 105, 106, 107, 108, 109, 110, 111, 112, 113, 114] (by decide +kernel) (by decide +kernel)
set_option maxRecDepth 20000 in
theorem gX3_firstModelUnder_X1_firstModel : GoodIn wsX3_firstModelUnder (wsV RX3 93 RX1 yX1_firstModel wsX1_firstModel) := goodIn_app (goodIn_of _ (by decide +kernel)) ggX3_firstModelUnder_X1_firstModel
theorem dX3_firstModelUnder_0 : decode cX3_firstModelUnder 0 = .ok (.iload_n 3, 1) := by decide +kernel
theorem dX3_firstModelUnder_1 : decode cX3_firstModelUnder 1 = .ok (.ifCond .le 11, 3) := by decide +kernel
theorem dX3_firstModelUnder_4 : decode cX3_firstModelUnder 4 = .ok (.aload_n 0, 1) := by decide +kernel
theorem dX3_firstModelUnder_5 : decode cX3_firstModelUnder 5 = .ok (.iload_n 3, 1) := by decide +kernel
theorem dX3_firstModelUnder_6 : decode cX3_firstModelUnder 6 = .ok (.invokevirtual 52, 3) := by decide +kernel
theorem dX3_firstModelUnder_9 : decode cX3_firstModelUnder 9 = .ok (.goto 4, 3) := by decide +kernel
theorem dX3_firstModelUnder_12 : decode cX3_firstModelUnder 12 = .ok (.iconst 0, 1) := by decide +kernel
theorem dX3_firstModelUnder_13 : decode cX3_firstModelUnder 13 = .ok (.istore 4, 2) := by decide +kernel
theorem dX3_firstModelUnder_15 : decode cX3_firstModelUnder 15 = .ok (.iload_n 3, 1) := by decide +kernel
theorem dX3_firstModelUnder_16 : decode cX3_firstModelUnder 16 = .ok (.ifCond .ge 11, 3) := by decide +kernel
theorem dX3_firstModelUnder_19 : decode cX3_firstModelUnder 19 = .ok (.aload_n 0, 1) := by decide +kernel
theorem dX3_firstModelUnder_20 : decode cX3_firstModelUnder 20 = .ok (.iload_n 3, 1) := by decide +kernel
theorem dX3_firstModelUnder_21 : decode cX3_firstModelUnder 21 = .ok (.invokevirtual 52, 3) := by decide +kernel
theorem dX3_firstModelUnder_24 : decode cX3_firstModelUnder 24 = .ok (.goto 4, 3) := by decide +kernel
theorem dX3_firstModelUnder_27 : decode cX3_firstModelUnder 27 = .ok (.iconst 0, 1) := by decide +kernel
theorem dX3_firstModelUnder_28 : decode cX3_firstModelUnder 28 = .ok (.istore 5, 2) := by decide +kernel
theorem dX3_firstModelUnder_30 : decode cX3_firstModelUnder 30 = .ok (.iconst 0, 1) := by decide +kernel
theorem dX3_firstModelUnder_31 : decode cX3_firstModelUnder 31 = .ok (.istore 6, 2) := by decide +kernel
theorem dX3_firstModelUnder_33 : decode cX3_firstModelUnder 33 = .ok (.iload 6, 2) := by decide +kernel
theorem dX3_firstModelUnder_35 : decode cX3_firstModelUnder 35 = .ok (.aload_n 0, 1) := by decide +kernel
theorem dX3_firstModelUnder_36 : decode cX3_firstModelUnder 36 = .ok (.getfield 71, 3) := by decide +kernel
theorem dX3_firstModelUnder_39 : decode cX3_firstModelUnder 39 = .ok (.if_icmp .ge 68, 3) := by decide +kernel
theorem dX3_firstModelUnder_42 : decode cX3_firstModelUnder 42 = .ok (.lload_n 1, 1) := by decide +kernel
theorem dX3_firstModelUnder_43 : decode cX3_firstModelUnder 43 = .ok (.iload 6, 2) := by decide +kernel
theorem dX3_firstModelUnder_45 : decode cX3_firstModelUnder 45 = .ok (.lushr, 1) := by decide +kernel
theorem dX3_firstModelUnder_46 : decode cX3_firstModelUnder 46 = .ok (.lconst 1, 1) := by decide +kernel
theorem dX3_firstModelUnder_47 : decode cX3_firstModelUnder 47 = .ok (.land, 1) := by decide +kernel
theorem dX3_firstModelUnder_48 : decode cX3_firstModelUnder 48 = .ok (.lconst 0, 1) := by decide +kernel
theorem dX3_firstModelUnder_49 : decode cX3_firstModelUnder 49 = .ok (.lcmp, 1) := by decide +kernel
theorem dX3_firstModelUnder_50 : decode cX3_firstModelUnder 50 = .ok (.ifCond .ne 6, 3) := by decide +kernel
theorem dX3_firstModelUnder_53 : decode cX3_firstModelUnder 53 = .ok (.goto 48, 3) := by decide +kernel
theorem dX3_firstModelUnder_56 : decode cX3_firstModelUnder 56 = .ok (.aload_n 0, 1) := by decide +kernel
theorem dX3_firstModelUnder_57 : decode cX3_firstModelUnder 57 = .ok (.getfield 38, 3) := by decide +kernel
theorem dX3_firstModelUnder_60 : decode cX3_firstModelUnder 60 = .ok (.iload 6, 2) := by decide +kernel
theorem dX3_firstModelUnder_62 : decode cX3_firstModelUnder 62 = .ok (.iaload, 1) := by decide +kernel
theorem dX3_firstModelUnder_63 : decode cX3_firstModelUnder 63 = .ok (.ifCond .le 22, 3) := by decide +kernel
theorem dX3_firstModelUnder_66 : decode cX3_firstModelUnder 66 = .ok (.iload 4, 2) := by decide +kernel
theorem dX3_firstModelUnder_68 : decode cX3_firstModelUnder 68 = .ok (.aload_n 0, 1) := by decide +kernel
theorem dX3_firstModelUnder_69 : decode cX3_firstModelUnder 69 = .ok (.aload_n 0, 1) := by decide +kernel
theorem dX3_firstModelUnder_70 : decode cX3_firstModelUnder 70 = .ok (.getfield 38, 3) := by decide +kernel
theorem dX3_firstModelUnder_73 : decode cX3_firstModelUnder 73 = .ok (.iload 6, 2) := by decide +kernel
theorem dX3_firstModelUnder_75 : decode cX3_firstModelUnder 75 = .ok (.iaload, 1) := by decide +kernel
theorem dX3_firstModelUnder_76 : decode cX3_firstModelUnder 76 = .ok (.invokevirtual 52, 3) := by decide +kernel
theorem dX3_firstModelUnder_79 : decode cX3_firstModelUnder 79 = .ok (.ior, 1) := by decide +kernel
theorem dX3_firstModelUnder_80 : decode cX3_firstModelUnder 80 = .ok (.istore 4, 2) := by decide +kernel
theorem dX3_firstModelUnder_82 : decode cX3_firstModelUnder 82 = .ok (.goto 19, 3) := by decide +kernel
theorem dX3_firstModelUnder_85 : decode cX3_firstModelUnder 85 = .ok (.iload 5, 2) := by decide +kernel
theorem dX3_firstModelUnder_87 : decode cX3_firstModelUnder 87 = .ok (.aload_n 0, 1) := by decide +kernel
theorem dX3_firstModelUnder_88 : decode cX3_firstModelUnder 88 = .ok (.aload_n 0, 1) := by decide +kernel
theorem dX3_firstModelUnder_89 : decode cX3_firstModelUnder 89 = .ok (.getfield 38, 3) := by decide +kernel
theorem dX3_firstModelUnder_92 : decode cX3_firstModelUnder 92 = .ok (.iload 6, 2) := by decide +kernel
theorem dX3_firstModelUnder_94 : decode cX3_firstModelUnder 94 = .ok (.iaload, 1) := by decide +kernel
theorem dX3_firstModelUnder_95 : decode cX3_firstModelUnder 95 = .ok (.invokevirtual 52, 3) := by decide +kernel
theorem dX3_firstModelUnder_98 : decode cX3_firstModelUnder 98 = .ok (.ior, 1) := by decide +kernel
theorem dX3_firstModelUnder_99 : decode cX3_firstModelUnder 99 = .ok (.istore 5, 2) := by decide +kernel
theorem dX3_firstModelUnder_101 : decode cX3_firstModelUnder 101 = .ok (.iinc 6 1, 3) := by decide +kernel
theorem dX3_firstModelUnder_104 : decode cX3_firstModelUnder 104 = .ok (.goto (-71), 3) := by decide +kernel
theorem dX3_firstModelUnder_107 : decode cX3_firstModelUnder 107 = .ok (.aload_n 0, 1) := by decide +kernel
theorem dX3_firstModelUnder_108 : decode cX3_firstModelUnder 108 = .ok (.getfield 34, 3) := by decide +kernel
theorem dX3_firstModelUnder_111 : decode cX3_firstModelUnder 111 = .ok (.iload 4, 2) := by decide +kernel
theorem dX3_firstModelUnder_113 : decode cX3_firstModelUnder 113 = .ok (.iload 5, 2) := by decide +kernel
theorem dX3_firstModelUnder_115 : decode cX3_firstModelUnder 115 = .ok (.invokevirtual 93, 3) := by decide +kernel
theorem dX3_firstModelUnder_118 : decode cX3_firstModelUnder 118 = .ok (.ireturn, 1) := by decide +kernel
theorem dJ9_abs_0f7a4_0 : decode cJ9_abs_0f7a4 0 = .ok (.iload_n 0, 1) := by decide +kernel
theorem dJ9_abs_0f7a4_1 : decode cJ9_abs_0f7a4 1 = .ok (.ifCond .ge 8, 3) := by decide +kernel
theorem dJ9_abs_0f7a4_4 : decode cJ9_abs_0f7a4 4 = .ok (.iload_n 0, 1) := by decide +kernel
theorem dJ9_abs_0f7a4_5 : decode cJ9_abs_0f7a4 5 = .ok (.ineg, 1) := by decide +kernel
theorem dJ9_abs_0f7a4_6 : decode cJ9_abs_0f7a4 6 = .ok (.goto 4, 3) := by decide +kernel
theorem dJ9_abs_0f7a4_9 : decode cJ9_abs_0f7a4 9 = .ok (.iload_n 0, 1) := by decide +kernel
theorem dJ9_abs_0f7a4_10 : decode cJ9_abs_0f7a4 10 = .ok (.ireturn, 1) := by decide +kernel
theorem dJ9_max_7cf53_0 : decode cJ9_max_7cf53 0 = .ok (.iload_n 0, 1) := by decide +kernel
theorem dJ9_max_7cf53_1 : decode cJ9_max_7cf53 1 = .ok (.iload_n 1, 1) := by decide +kernel
theorem dJ9_max_7cf53_2 : decode cJ9_max_7cf53 2 = .ok (.if_icmp .lt 7, 3) := by decide +kernel
theorem dJ9_max_7cf53_5 : decode cJ9_max_7cf53 5 = .ok (.iload_n 0, 1) := by decide +kernel
theorem dJ9_max_7cf53_6 : decode cJ9_max_7cf53 6 = .ok (.goto 4, 3) := by decide +kernel
theorem dJ9_max_7cf53_9 : decode cJ9_max_7cf53 9 = .ok (.iload_n 1, 1) := by decide +kernel
theorem dJ9_max_7cf53_10 : decode cJ9_max_7cf53 10 = .ok (.ireturn, 1) := by decide +kernel
theorem dJ9_min_7cf53_0 : decode cJ9_min_7cf53 0 = .ok (.iload_n 0, 1) := by decide +kernel
theorem dJ9_min_7cf53_1 : decode cJ9_min_7cf53 1 = .ok (.iload_n 1, 1) := by decide +kernel
theorem dJ9_min_7cf53_2 : decode cJ9_min_7cf53 2 = .ok (.if_icmp .gt 7, 3) := by decide +kernel
theorem dJ9_min_7cf53_5 : decode cJ9_min_7cf53 5 = .ok (.iload_n 0, 1) := by decide +kernel
theorem dJ9_min_7cf53_6 : decode cJ9_min_7cf53 6 = .ok (.goto 4, 3) := by decide +kernel
theorem dJ9_min_7cf53_9 : decode cJ9_min_7cf53 9 = .ok (.iload_n 1, 1) := by decide +kernel
theorem dJ9_min_7cf53_10 : decode cJ9_min_7cf53 10 = .ok (.ireturn, 1) := by decide +kernel
set_option maxRecDepth 20000 in
theorem ggL_law_X3_init : GoodIn wsL_law wsX3_init := goodIn_r _ [5, 6, 7, 8, 9, 10, 11, 12, 13, 14, 15, 16, 17, 18, 19, 20, 21, 22, 23, 24, 25, 26, 27, 28, 29, 30, 31, 32, 33, 34, 35, 36, 37, 38, 39, 40, 41, 42, 43, 44, 45, 46, 47, 48, 49, 178, 179, 180, 181, 182, 183, 184, 185, 186, 187, 188, 189, 190, 191, 192, 193, 194, 195, 196, 197, 198, 199, 200, 201] (by decide +kernel) (by decide +kernel)
set_option maxRecDepth 20000 in
theorem gL_law_X3_init : GoodIn wsL_law (wsX3_init) := ggL_law_X3_init
set_option maxRecDepth 20000 in
theorem ggL_law_X3_add : GoodIn wsL_law wsX3_add := goodIn_r _ [53, 54, 55, 56, 57, 58, 59, 2, 60, 16, 61, 62, 63, 64, 65, 66, 11, 67, 178, 179, 180, 181, 182, 183, 184, 185, 186, 187] (by decide +kernel) (by decide +kernel)
set_option maxRecDepth 20000 in
theorem gL_law_X3_add : GoodIn wsL_law (wsV RL 21 RX3 yX3_add wsX3_add) := goodIn_app (goodIn_of _ (by decide +kernel)) ggL_law_X3_add
set_option maxRecDepth 20000 in
theorem ggL_law_X3_close : GoodIn wsL_law wsX3_close := goodIn_r _ [71, 72, 73, 54, 74, 75, 76, 2, 77, 55, 56, 20, 78, 79, 80, 19, 81, 82, 83, 31, 32, 84, 85, 86, 87, 178, 179, 180, 181, 182, 183, 184, 185, 186, 187, 188, 189, 190, 191] (by decide +kernel) (by decide +kernel)
set_option maxRecDepth 20000 in
theorem gL_law_X3_close : GoodIn wsL_law (wsV RL 26 RX3 yX3_close wsX3_close) := goodIn_app (goodIn_of _ (by decide +kernel)) ggL_law_X3_close
set_option maxRecDepth 20000 in
theorem ggL_law_X3_assume : GoodIn wsL_law wsX3_assume := goodIn_r _ [91, 92, 26, 57, 58, 59, 2, 60, 16, 178, 179, 180, 181, 182, 183, 184, 185, 186, 187] (by decide +kernel) (by decide +kernel)
set_option maxRecDepth 20000 in
theorem gL_law_X3_assume : GoodIn wsL_law (wsV RL 31 RX3 yX3_assume wsX3_assume) := goodIn_app (goodIn_of _ (by decide +kernel)) ggL_law_X3_assume
set_option maxRecDepth 20000 in
theorem ggL_law_X3_retract : GoodIn wsL_law wsX3_retract := goodIn_r _ [96, 92, 178, 179, 180, 181, 182, 183, 184, 185, 186, 187] (by decide +kernel) (by decide +kernel)
set_option maxRecDepth 20000 in
theorem gL_law_X3_retract : GoodIn wsL_law (wsV RL 36 RX3 yX3_retract wsX3_retract) := goodIn_app (goodIn_of _ (by decide +kernel)) ggL_law_X3_retract
set_option maxRecDepth 20000 in
theorem ggL_law_X3_solve : GoodIn wsL_law wsX3_solve := goodIn_r _ [100, 101, 102, 103, 104, 2, 105, 92, 26, 24, 61, 62, 63, 64, 16, 65, 66, 11, 67, 106, 107, 108, 23, 109, 38, 42, 110, 111, 112, 19, 113, 83, 82, 114, 115, 116, 41, 117, 118, 119, 120, 121, 122, 123, 124, 48, 49, 125, 126, 127, 128, 37, 129, 130, 131, 132, 133, 134, 135, 136, 43, 137, 138, 139, 140, 141, 142, 143, 144, 145, 31, 146, 147, 148, 149, 32, 150, 151, 152, 153, 154, 155, 156, 157, 158, 159, 160, 161, 162, 163, 164, 14, 15, 165, 10, 12, 178, 179, 180, 181, 182, 183, 184, 185, 186, 187, 192, 193, 194, 195, 196, 188, 189, 190, 191, 197, 198, 199, 200, 201] (by decide +kernel) (by decide +kernel)
set_option maxRecDepth 20000 in
theorem gL_law_X3_solve : GoodIn wsL_law (wsV RL 40 RX3 yX3_solve wsX3_solve) := goodIn_app (goodIn_of _ (by decide +kernel)) ggL_law_X3_solve
set_option maxRecDepth 20000 in
theorem ggL_law_X3_least : GoodIn wsL_law wsX3_least := goodIn_r _ [169, 101, 102, 103, 104, 2, 105, 92, 26, 24, 61, 62, 63, 64, 16, 65, 66, 11, 67, 106, 107, 108, 23, 109, 38, 42, 110, 111, 112, 19, 113, 83, 82, 114, 115, 116, 41, 117, 118, 119, 120, 121, 122, 123, 124, 48, 49, 125, 126, 127, 128, 37, 129, 130, 131, 132, 133, 134, 135, 136, 43, 137, 138, 139, 140, 141, 142, 143, 144, 145, 31, 146, 147, 148, 149, 32, 150, 151, 152, 153, 154, 155, 156, 157, 158, 159, 160, 161, 162, 163, 164, 14, 15, 165, 10, 12, 178, 179, 180, 181, 182, 183, 184, 185, 186, 187, 192, 193, 194, 195, 196, 188, 189, 190, 191, 197, 198, 199, 200, 201] (by decide +kernel) (by decide +kernel)
set_option maxRecDepth 20000 in
theorem gL_law_X3_least : GoodIn wsL_law (wsV RL 45 RX3 yX3_least wsX3_least) := goodIn_app (goodIn_of _ (by decide +kernel)) ggL_law_X3_least
set_option maxRecDepth 20000 in
theorem ggL_law_X3_implied : GoodIn wsL_law wsX3_implied := goodIn_r _ [173, 101, 57, 58, 59, 2, 60, 16, 102, 103, 104, 105, 92, 26, 24, 61, 62, 63, 64, 65, 66, 11, 67, 106, 107, 108, 23, 109, 38, 42, 110, 111, 112, 19, 113, 83, 82, 114, 115, 116, 41, 117, 118, 119, 120, 121, 122, 123, 124, 48, 49, 125, 126, 127, 128, 37, 129, 130, 131, 132, 133, 134, 135, 136, 43, 137, 138, 139, 140, 141, 142, 143, 144, 145, 31, 146, 147, 148, 149, 32, 150, 151, 152, 153, 154, 155, 156, 157, 158, 159, 160, 161, 162, 163, 164, 14, 15, 165, 10, 12, 178, 179, 180, 181, 182, 183, 184, 185, 186, 187, 192, 193, 194, 195, 196, 188, 189, 190, 191, 197, 198, 199, 200, 201] (by decide +kernel) (by decide +kernel)
set_option maxRecDepth 20000 in
theorem gL_law_X3_implied : GoodIn wsL_law (wsV RL 49 RX3 yX3_implied wsX3_implied) := goodIn_app (goodIn_of _ (by decide +kernel)) ggL_law_X3_implied
set_option maxRecDepth 20000 in
theorem ggL_law_X3_core : GoodIn wsL_law wsX3_core := goodIn_r _ [177, 101, 92, 102, 103, 104, 2, 105, 26, 24, 61, 62, 63, 64, 16, 65, 66, 11, 67, 106, 107, 108, 23, 109, 38, 42, 110, 111, 112, 19, 113, 83, 82, 114, 115, 116, 41, 117, 118, 119, 120, 121, 122, 123, 124, 48, 49, 125, 126, 127, 128, 37, 129, 130, 131, 132, 133, 134, 135, 136, 43, 137, 138, 139, 140, 141, 142, 143, 144, 145, 31, 146, 147, 148, 149, 32, 150, 151, 152, 153, 154, 155, 156, 157, 158, 159, 160, 161, 162, 163, 164, 14, 15, 165, 10, 12, 178, 179, 180, 181, 182, 183, 184, 185, 186, 187, 192, 193, 194, 195, 196, 188, 189, 190, 191, 197, 198, 199, 200, 201] (by decide +kernel) (by decide +kernel)
set_option maxRecDepth 20000 in
theorem gL_law_X3_core : GoodIn wsL_law (wsV RL 53 RX3 yX3_core wsX3_core) := goodIn_app (goodIn_of _ (by decide +kernel)) ggL_law_X3_core
theorem dL_law_0 : decode cL_law 0 = .ok (.new 7, 3) := by decide +kernel
theorem dL_law_3 : decode cL_law 3 = .ok (.dup, 1) := by decide +kernel
theorem dL_law_4 : decode cL_law 4 = .ok (.aload_n 0, 1) := by decide +kernel
theorem dL_law_5 : decode cL_law 5 = .ok (.iconst 0, 1) := by decide +kernel
theorem dL_law_6 : decode cL_law 6 = .ok (.invokestatic 9, 3) := by decide +kernel
theorem dL_law_9 : decode cL_law 9 = .ok (.invokespecial 15, 3) := by decide +kernel
theorem dL_law_12 : decode cL_law 12 = .ok (.astore_n 1, 1) := by decide +kernel
theorem dL_law_13 : decode cL_law 13 = .ok (.new 18, 3) := by decide +kernel
theorem dL_law_16 : decode cL_law 16 = .ok (.dup, 1) := by decide +kernel
theorem dL_law_17 : decode cL_law 17 = .ok (.aload_n 0, 1) := by decide +kernel
theorem dL_law_18 : decode cL_law 18 = .ok (.iconst 0, 1) := by decide +kernel
theorem dL_law_19 : decode cL_law 19 = .ok (.invokestatic 9, 3) := by decide +kernel
theorem dL_law_22 : decode cL_law 22 = .ok (.invokespecial 20, 3) := by decide +kernel
theorem dL_law_25 : decode cL_law 25 = .ok (.astore_n 2, 1) := by decide +kernel
theorem dL_law_26 : decode cL_law 26 = .ok (.iconst 1, 1) := by decide +kernel
theorem dL_law_27 : decode cL_law 27 = .ok (.istore_n 3, 1) := by decide +kernel
theorem dL_law_28 : decode cL_law 28 = .ok (.iload_n 3, 1) := by decide +kernel
theorem dL_law_29 : decode cL_law 29 = .ok (.aload_n 0, 1) := by decide +kernel
theorem dL_law_30 : decode cL_law 30 = .ok (.arraylength, 1) := by decide +kernel
theorem dL_law_31 : decode cL_law 31 = .ok (.iconst 2, 1) := by decide +kernel
theorem dL_law_32 : decode cL_law 32 = .ok (.isub, 1) := by decide +kernel
theorem dL_law_33 : decode cL_law 33 = .ok (.if_icmp .gt 248, 3) := by decide +kernel
theorem dL_law_36 : decode cL_law 36 = .ok (.aload_n 0, 1) := by decide +kernel
theorem dL_law_37 : decode cL_law 37 = .ok (.iload_n 3, 1) := by decide +kernel
theorem dL_law_38 : decode cL_law 38 = .ok (.iaload, 1) := by decide +kernel
theorem dL_law_39 : decode cL_law 39 = .ok (.bipush 15, 2) := by decide +kernel
theorem dL_law_41 : decode cL_law 41 = .ok (.iand, 1) := by decide +kernel
theorem dL_law_42 : decode cL_law 42 = .ok (.tableswitch 233 0 9 #[54, 77, 90, 113, 136, 149, 162, 185, 199, 222], 54) := by decide +kernel
theorem dL_law_96 : decode cL_law 96 = .ok (.aload_n 1, 1) := by decide +kernel
theorem dL_law_97 : decode cL_law 97 = .ok (.aload_n 0, 1) := by decide +kernel
theorem dL_law_98 : decode cL_law 98 = .ok (.iload_n 3, 1) := by decide +kernel
theorem dL_law_99 : decode cL_law 99 = .ok (.iconst 1, 1) := by decide +kernel
theorem dL_law_100 : decode cL_law 100 = .ok (.iadd, 1) := by decide +kernel
theorem dL_law_101 : decode cL_law 101 = .ok (.iaload, 1) := by decide +kernel
theorem dL_law_102 : decode cL_law 102 = .ok (.invokevirtual 21, 3) := by decide +kernel
theorem dL_law_105 : decode cL_law 105 = .ok (.aload_n 2, 1) := by decide +kernel
theorem dL_law_106 : decode cL_law 106 = .ok (.aload_n 0, 1) := by decide +kernel
theorem dL_law_107 : decode cL_law 107 = .ok (.iload_n 3, 1) := by decide +kernel
theorem dL_law_108 : decode cL_law 108 = .ok (.iconst 1, 1) := by decide +kernel
theorem dL_law_109 : decode cL_law 109 = .ok (.iadd, 1) := by decide +kernel
theorem dL_law_110 : decode cL_law 110 = .ok (.iaload, 1) := by decide +kernel
theorem dL_law_111 : decode cL_law 111 = .ok (.invokevirtual 25, 3) := by decide +kernel
theorem dL_law_114 : decode cL_law 114 = .ok (.if_icmp .eq 161, 3) := by decide +kernel
theorem dL_law_117 : decode cL_law 117 = .ok (.iconst 0, 1) := by decide +kernel
theorem dL_law_118 : decode cL_law 118 = .ok (.ireturn, 1) := by decide +kernel
theorem dL_law_119 : decode cL_law 119 = .ok (.aload_n 1, 1) := by decide +kernel
theorem dL_law_120 : decode cL_law 120 = .ok (.invokevirtual 26, 3) := by decide +kernel
theorem dL_law_123 : decode cL_law 123 = .ok (.aload_n 2, 1) := by decide +kernel
theorem dL_law_124 : decode cL_law 124 = .ok (.invokevirtual 30, 3) := by decide +kernel
theorem dL_law_127 : decode cL_law 127 = .ok (.if_icmp .eq 148, 3) := by decide +kernel
theorem dL_law_130 : decode cL_law 130 = .ok (.iconst 0, 1) := by decide +kernel
theorem dL_law_131 : decode cL_law 131 = .ok (.ireturn, 1) := by decide +kernel
theorem dL_law_132 : decode cL_law 132 = .ok (.aload_n 1, 1) := by decide +kernel
theorem dL_law_133 : decode cL_law 133 = .ok (.aload_n 0, 1) := by decide +kernel
theorem dL_law_134 : decode cL_law 134 = .ok (.iload_n 3, 1) := by decide +kernel
theorem dL_law_135 : decode cL_law 135 = .ok (.iconst 1, 1) := by decide +kernel
theorem dL_law_136 : decode cL_law 136 = .ok (.iadd, 1) := by decide +kernel
theorem dL_law_137 : decode cL_law 137 = .ok (.iaload, 1) := by decide +kernel
theorem dL_law_138 : decode cL_law 138 = .ok (.invokevirtual 31, 3) := by decide +kernel
theorem dL_law_141 : decode cL_law 141 = .ok (.aload_n 2, 1) := by decide +kernel
theorem dL_law_142 : decode cL_law 142 = .ok (.aload_n 0, 1) := by decide +kernel
theorem dL_law_143 : decode cL_law 143 = .ok (.iload_n 3, 1) := by decide +kernel
theorem dL_law_144 : decode cL_law 144 = .ok (.iconst 1, 1) := by decide +kernel
theorem dL_law_145 : decode cL_law 145 = .ok (.iadd, 1) := by decide +kernel
theorem dL_law_146 : decode cL_law 146 = .ok (.iaload, 1) := by decide +kernel
theorem dL_law_147 : decode cL_law 147 = .ok (.invokevirtual 35, 3) := by decide +kernel
theorem dL_law_150 : decode cL_law 150 = .ok (.if_icmp .eq 125, 3) := by decide +kernel
theorem dL_law_153 : decode cL_law 153 = .ok (.iconst 0, 1) := by decide +kernel
theorem dL_law_154 : decode cL_law 154 = .ok (.ireturn, 1) := by decide +kernel
theorem dL_law_155 : decode cL_law 155 = .ok (.aload_n 1, 1) := by decide +kernel
theorem dL_law_156 : decode cL_law 156 = .ok (.aload_n 0, 1) := by decide +kernel
theorem dL_law_157 : decode cL_law 157 = .ok (.iload_n 3, 1) := by decide +kernel
theorem dL_law_158 : decode cL_law 158 = .ok (.iconst 1, 1) := by decide +kernel
theorem dL_law_159 : decode cL_law 159 = .ok (.iadd, 1) := by decide +kernel
theorem dL_law_160 : decode cL_law 160 = .ok (.iaload, 1) := by decide +kernel
theorem dL_law_161 : decode cL_law 161 = .ok (.invokevirtual 36, 3) := by decide +kernel
theorem dL_law_164 : decode cL_law 164 = .ok (.aload_n 2, 1) := by decide +kernel
theorem dL_law_165 : decode cL_law 165 = .ok (.aload_n 0, 1) := by decide +kernel
theorem dL_law_166 : decode cL_law 166 = .ok (.iload_n 3, 1) := by decide +kernel
theorem dL_law_167 : decode cL_law 167 = .ok (.iconst 1, 1) := by decide +kernel
theorem dL_law_168 : decode cL_law 168 = .ok (.iadd, 1) := by decide +kernel
theorem dL_law_169 : decode cL_law 169 = .ok (.iaload, 1) := by decide +kernel
theorem dL_law_170 : decode cL_law 170 = .ok (.invokevirtual 39, 3) := by decide +kernel
theorem dL_law_173 : decode cL_law 173 = .ok (.if_icmp .eq 102, 3) := by decide +kernel
theorem dL_law_176 : decode cL_law 176 = .ok (.iconst 0, 1) := by decide +kernel
theorem dL_law_177 : decode cL_law 177 = .ok (.ireturn, 1) := by decide +kernel
theorem dL_law_178 : decode cL_law 178 = .ok (.aload_n 1, 1) := by decide +kernel
theorem dL_law_179 : decode cL_law 179 = .ok (.invokevirtual 40, 3) := by decide +kernel
theorem dL_law_182 : decode cL_law 182 = .ok (.aload_n 2, 1) := by decide +kernel
theorem dL_law_183 : decode cL_law 183 = .ok (.invokevirtual 44, 3) := by decide +kernel
theorem dL_law_186 : decode cL_law 186 = .ok (.if_icmp .eq 89, 3) := by decide +kernel
theorem dL_law_189 : decode cL_law 189 = .ok (.iconst 0, 1) := by decide +kernel
theorem dL_law_190 : decode cL_law 190 = .ok (.ireturn, 1) := by decide +kernel
theorem dL_law_191 : decode cL_law 191 = .ok (.aload_n 1, 1) := by decide +kernel
theorem dL_law_192 : decode cL_law 192 = .ok (.invokevirtual 45, 3) := by decide +kernel
theorem dL_law_195 : decode cL_law 195 = .ok (.aload_n 2, 1) := by decide +kernel
theorem dL_law_196 : decode cL_law 196 = .ok (.invokevirtual 48, 3) := by decide +kernel
theorem dL_law_199 : decode cL_law 199 = .ok (.if_icmp .eq 76, 3) := by decide +kernel
theorem dL_law_202 : decode cL_law 202 = .ok (.iconst 0, 1) := by decide +kernel
theorem dL_law_203 : decode cL_law 203 = .ok (.ireturn, 1) := by decide +kernel
theorem dL_law_204 : decode cL_law 204 = .ok (.aload_n 1, 1) := by decide +kernel
theorem dL_law_205 : decode cL_law 205 = .ok (.aload_n 0, 1) := by decide +kernel
theorem dL_law_206 : decode cL_law 206 = .ok (.iload_n 3, 1) := by decide +kernel
theorem dL_law_207 : decode cL_law 207 = .ok (.iconst 1, 1) := by decide +kernel
theorem dL_law_208 : decode cL_law 208 = .ok (.iadd, 1) := by decide +kernel
theorem dL_law_209 : decode cL_law 209 = .ok (.iaload, 1) := by decide +kernel
theorem dL_law_210 : decode cL_law 210 = .ok (.invokevirtual 49, 3) := by decide +kernel
theorem dL_law_213 : decode cL_law 213 = .ok (.aload_n 2, 1) := by decide +kernel
theorem dL_law_214 : decode cL_law 214 = .ok (.aload_n 0, 1) := by decide +kernel
theorem dL_law_215 : decode cL_law 215 = .ok (.iload_n 3, 1) := by decide +kernel
theorem dL_law_216 : decode cL_law 216 = .ok (.iconst 1, 1) := by decide +kernel
theorem dL_law_217 : decode cL_law 217 = .ok (.iadd, 1) := by decide +kernel
theorem dL_law_218 : decode cL_law 218 = .ok (.iaload, 1) := by decide +kernel
theorem dL_law_219 : decode cL_law 219 = .ok (.invokevirtual 52, 3) := by decide +kernel
theorem dL_law_222 : decode cL_law 222 = .ok (.if_icmp .eq 53, 3) := by decide +kernel
theorem dL_law_225 : decode cL_law 225 = .ok (.iconst 0, 1) := by decide +kernel
theorem dL_law_226 : decode cL_law 226 = .ok (.ireturn, 1) := by decide +kernel
theorem dL_law_227 : decode cL_law 227 = .ok (.aload_n 1, 1) := by decide +kernel
theorem dL_law_228 : decode cL_law 228 = .ok (.invokevirtual 53, 3) := by decide +kernel
theorem dL_law_231 : decode cL_law 231 = .ok (.aload_n 2, 1) := by decide +kernel
theorem dL_law_232 : decode cL_law 232 = .ok (.invokevirtual 57, 3) := by decide +kernel
theorem dL_law_235 : decode cL_law 235 = .ok (.lcmp, 1) := by decide +kernel
theorem dL_law_236 : decode cL_law 236 = .ok (.ifCond .eq 39, 3) := by decide +kernel
theorem dL_law_239 : decode cL_law 239 = .ok (.iconst 0, 1) := by decide +kernel
theorem dL_law_240 : decode cL_law 240 = .ok (.ireturn, 1) := by decide +kernel
theorem dL_law_241 : decode cL_law 241 = .ok (.aload_n 1, 1) := by decide +kernel
theorem dL_law_242 : decode cL_law 242 = .ok (.aload_n 0, 1) := by decide +kernel
theorem dL_law_243 : decode cL_law 243 = .ok (.iload_n 3, 1) := by decide +kernel
theorem dL_law_244 : decode cL_law 244 = .ok (.iconst 1, 1) := by decide +kernel
theorem dL_law_245 : decode cL_law 245 = .ok (.iadd, 1) := by decide +kernel
theorem dL_law_246 : decode cL_law 246 = .ok (.iaload, 1) := by decide +kernel
theorem dL_law_247 : decode cL_law 247 = .ok (.invokevirtual 58, 3) := by decide +kernel
theorem dL_law_250 : decode cL_law 250 = .ok (.aload_n 2, 1) := by decide +kernel
theorem dL_law_251 : decode cL_law 251 = .ok (.aload_n 0, 1) := by decide +kernel
theorem dL_law_252 : decode cL_law 252 = .ok (.iload_n 3, 1) := by decide +kernel
theorem dL_law_253 : decode cL_law 253 = .ok (.iconst 1, 1) := by decide +kernel
theorem dL_law_254 : decode cL_law 254 = .ok (.iadd, 1) := by decide +kernel
theorem dL_law_255 : decode cL_law 255 = .ok (.iaload, 1) := by decide +kernel
theorem dL_law_256 : decode cL_law 256 = .ok (.invokevirtual 61, 3) := by decide +kernel
theorem dL_law_259 : decode cL_law 259 = .ok (.if_icmp .eq 16, 3) := by decide +kernel
theorem dL_law_262 : decode cL_law 262 = .ok (.iconst 0, 1) := by decide +kernel
theorem dL_law_263 : decode cL_law 263 = .ok (.ireturn, 1) := by decide +kernel
theorem dL_law_264 : decode cL_law 264 = .ok (.aload_n 1, 1) := by decide +kernel
theorem dL_law_265 : decode cL_law 265 = .ok (.invokevirtual 62, 3) := by decide +kernel
theorem dL_law_268 : decode cL_law 268 = .ok (.aload_n 2, 1) := by decide +kernel
theorem dL_law_269 : decode cL_law 269 = .ok (.invokevirtual 65, 3) := by decide +kernel
theorem dL_law_272 : decode cL_law 272 = .ok (.goto 3, 3) := by decide +kernel
theorem dL_law_275 : decode cL_law 275 = .ok (.iinc 3 2, 3) := by decide +kernel
theorem dL_law_278 : decode cL_law 278 = .ok (.goto (-250), 3) := by decide +kernel
theorem dL_law_281 : decode cL_law 281 = .ok (.iconst 1, 1) := by decide +kernel
theorem dL_law_282 : decode cL_law 282 = .ok (.ireturn, 1) := by decide +kernel
abbrev vwCl : List vw_C := [(RX0, TX0, 4), (RX1, TX1, 5), (RX2, TX2, 5), (RX3, TX3, 10)]
end
section
/-! names of what the printed names leave out (by program) -/
def TM : u_T := fun k => match k with
  | 0 => ("LessonSolverModel", "thrown", "I", false)
  | 1 => ("LessonSolverModel", "n", "I", true)
  | 2 => ("LessonSolverModel", "words", "I", true)
  | 3 => ("LessonSolverModel", "all", "[J", true)
  | 4 => ("LessonSolverModel", "left", "[J", true)
  | 5 => ("LessonSolverModel", "clause", "[J", true)
  | 6 => ("LessonSolverModel", "making", "[I", true)
  | 7 => ("LessonSolverModel", "assumed", "[I", true)
  | 8 => ("LessonSolverModel", "made", "I", false)
  | 9 => ("LessonSolverModel", "clauses", "I", false)
  | 10 => ("LessonSolverModel", "literals", "I", false)
  | _ => ("LessonSolverModel", "assumptions", "I", false)
def tyM : Nat → FieldType := fun k => match k with
  | 0 => .int
  | 1 => .int
  | 2 => .int
  | 3 => .array .long
  | 4 => .array .long
  | 5 => .array .long
  | 6 => .array .int
  | 7 => .array .int
  | 8 => .int
  | 9 => .int
  | 10 => .int
  | _ => .int
theorem nmM : ∀ a, a < 12 → ∀ b, b < 12 → a ≠ b → (TM a).2.1 ≠ (TM b).2.1 := by decide +kernel
theorem tyM_ok : ∀ k, k < 12 → parseFieldDescriptor (TM k).2.2.1 = some (tyM k) := by decide +kernel
def ksT : List Cond := lw_tbl.filter goodWord
theorem inM : ∀ w ∈ u_ws RX4 TM 12, w ∈ ksT := by decide +kernel
abbrev ksCl : List vw_C := [(RX0, TX0, 4), (RX1, TX1, 5), (RX2, TX2, 5), (RX3, TX3, 10), (RX4, TM, 12)]
abbrev cX3_count : ByteArray := prog_1_method_10_code
def yX3_count : MethodName := ⟨RX3, "count", "(I)I"⟩
def wsX3_count : List Cond := .code yX3_count cX3_count 2 (some .int) :: ksT
abbrev cX3_wipe : ByteArray := prog_1_method_11_code
def yX3_wipe : MethodName := ⟨RX3, "wipe", "()V"⟩
def wsX3_wipe : List Cond := .code yX3_wipe cX3_wipe 1 none :: ksT
abbrev cX4_init : ByteArray := prog_6_method_1_code
def yX4_init : MethodName := ⟨RX4, "<init>", "(I)V"⟩
def wsX4_init : List Cond := .code yX4_init cX4_init 2 none :: ksT
abbrev cX4_clear : ByteArray := prog_6_method_3_code
def yX4_clear : MethodName := ⟨RX4, "clear", "()V"⟩
def wsX4_clear : List Cond := .code yX4_clear cX4_clear 2 none :: ksT
abbrev cX4_isLiteral : ByteArray := prog_6_method_4_code
def yX4_isLiteral : MethodName := ⟨RX4, "isLiteral", "(I)Z"⟩
def wsX4_isLiteral : List Cond := .code yX4_isLiteral cX4_isLiteral 2 (some .boolean) :: ksT
abbrev cX4_row : ByteArray := prog_6_method_5_code
def yX4_row : MethodName := ⟨RX4, "row", "(II)J"⟩
def wsX4_row : List Cond := .code yX4_row cX4_row 6 (some .long) :: ksT
abbrev cX4_add : ByteArray := prog_6_method_6_code
def yX4_add : MethodName := ⟨RX4, "add", "(I)Z"⟩
def wsX4_add : List Cond := .code yX4_add cX4_add 2 (some .boolean) :: ksT
abbrev cX4_close : ByteArray := prog_6_method_7_code
def yX4_close : MethodName := ⟨RX4, "close", "()I"⟩
def wsX4_close : List Cond := .code yX4_close cX4_close 6 (some .int) :: ksT
abbrev cX4_assume : ByteArray := prog_6_method_8_code
def yX4_assume : MethodName := ⟨RX4, "assume", "(I)I"⟩
def wsX4_assume : List Cond := .code yX4_assume cX4_assume 2 (some .int) :: ksT
abbrev cX4_retract : ByteArray := prog_6_method_9_code
def yX4_retract : MethodName := ⟨RX4, "retract", "(I)I"⟩
def wsX4_retract : List Cond := .code yX4_retract cX4_retract 2 (some .int) :: ksT
abbrev cX4_leaves : ByteArray := prog_6_method_10_code
def yX4_leaves : MethodName := ⟨RX4, "leaves", "(J)Z"⟩
def wsX4_leaves : List Cond := .code yX4_leaves cX4_leaves 7 (some .boolean) :: ksT
abbrev cX4_solve : ByteArray := prog_6_method_11_code
def yX4_solve : MethodName := ⟨RX4, "solve", "()Z"⟩
def wsX4_solve : List Cond := .code yX4_solve cX4_solve 1 (some .boolean) :: ksT
abbrev cX4_least : ByteArray := prog_6_method_12_code
def yX4_least : MethodName := ⟨RX4, "least", "()I"⟩
def wsX4_least : List Cond := .code yX4_least cX4_least 3 (some .int) :: ksT
abbrev cX4_implied : ByteArray := prog_6_method_13_code
def yX4_implied : MethodName := ⟨RX4, "implied", "(I)I"⟩
def wsX4_implied : List Cond := .code yX4_implied cX4_implied 4 (some .int) :: ksT
abbrev cX4_core : ByteArray := prog_6_method_14_code
def yX4_core : MethodName := ⟨RX4, "core", "()J"⟩
def wsX4_core : List Cond := .code yX4_core cX4_core 6 (some .long) :: ksT
abbrev cX4_count : ByteArray := prog_6_method_15_code
def yX4_count : MethodName := ⟨RX4, "count", "(I)I"⟩
def wsX4_count : List Cond := .code yX4_count cX4_count 2 (some .int) :: ksT
abbrev cX4_wipe : ByteArray := prog_6_method_16_code
def yX4_wipe : MethodName := ⟨RX4, "wipe", "()V"⟩
def wsX4_wipe : List Cond := .code yX4_wipe cX4_wipe 1 none :: ksT
abbrev cX0_clear : ByteArray := prog_2_method_2_code
def yX0_clear : MethodName := ⟨RX0, "clear", "()V"⟩
def wsX0_clear : List Cond := .code yX0_clear cX0_clear 1 none :: ksT
abbrev cL_cell : ByteArray := method_2_code
def yL_cell : MethodName := ⟨RL, "cell", "([II)I"⟩
def wsL_cell : List Cond := .code yL_cell cL_cell 2 (some .int) :: ksT
theorem ks_inT {w : Cond} (h : w ∈ ksT) : w ∈ lw_tbl := (List.mem_filter.mp h).1
theorem ks_gw {w : Cond} (h : w ∈ ksT) : (w.onTables && w.keeps) = true ∨ ∃ ty, w = .arrayClass ty := good_of_word (List.mem_filter.mp h).2
theorem ks_GI0 {own C : String} {idx : Nat} {y : MethodName} {ws : List Cond} (h : ∀ w ∈ wsV own idx C y [], w ∈ ksT) (h2 : ∀ w ∈ ws, w ∈ ksT) : GoodIn lw_tbl (wsV own idx C y ws) := by
  intro w hw
  have hm : w ∈ ksT := by
    rcases List.mem_append.mp hw with q | q
    · exact h w (List.mem_append_left _ q)
    · exact h2 w q
  exact ⟨ks_inT hm, ks_gw hm⟩
theorem ks_GI {own C : String} {idx : Nat} {y : MethodName} {ws : List Cond} {c0 : Cond} (h : ∀ w ∈ wsV own idx C y [], w ∈ ksT) (h2 : ∀ w ∈ ws, w ∈ ksT) : GoodIn (c0 :: ksT) (wsV own idx C y ws) := by
  intro w hw
  have hm : w ∈ ksT := by
    rcases List.mem_append.mp hw with q | q
    · exact h w (List.mem_append_left _ q)
    · exact h2 w q
  exact ⟨List.mem_cons_of_mem _ hm, ks_gw hm⟩
theorem ks_wt {y : MethodName} {cd : ByteArray} {mL : Nat} {r : Option FieldType} (h : Cond.code y cd mL r ∈ ksT) : ∀ w ∈ Cond.code y cd mL r :: ksT, w ∈ ksT := fun w hw => by
  rcases List.mem_cons.mp hw with q | q
  · rw [q]; exact h
  · exact q
end
section
theorem dX3_count_0 : decode cX3_count 0 = .ok (.iload_n 1, 1) := by decide +kernel
theorem dX3_count_1 : decode cX3_count 1 = .ok (.tableswitch 63 0 4 #[35, 40, 45, 50, 55], 35) := by decide +kernel
theorem dX3_count_36 : decode cX3_count 36 = .ok (.aload_n 0, 1) := by decide +kernel
theorem dX3_count_37 : decode cX3_count 37 = .ok (.getfield 59, 3) := by decide +kernel
theorem dX3_count_40 : decode cX3_count 40 = .ok (.ireturn, 1) := by decide +kernel
theorem dX3_count_41 : decode cX3_count 41 = .ok (.aload_n 0, 1) := by decide +kernel
theorem dX3_count_42 : decode cX3_count 42 = .ok (.getfield 62, 3) := by decide +kernel
theorem dX3_count_45 : decode cX3_count 45 = .ok (.ireturn, 1) := by decide +kernel
theorem dX3_count_46 : decode cX3_count 46 = .ok (.aload_n 0, 1) := by decide +kernel
theorem dX3_count_47 : decode cX3_count 47 = .ok (.getfield 71, 3) := by decide +kernel
theorem dX3_count_50 : decode cX3_count 50 = .ok (.ireturn, 1) := by decide +kernel
theorem dX3_count_51 : decode cX3_count 51 = .ok (.aload_n 0, 1) := by decide +kernel
theorem dX3_count_52 : decode cX3_count 52 = .ok (.getfield 46, 3) := by decide +kernel
theorem dX3_count_55 : decode cX3_count 55 = .ok (.ireturn, 1) := by decide +kernel
theorem dX3_count_56 : decode cX3_count 56 = .ok (.aload_n 0, 1) := by decide +kernel
theorem dX3_count_57 : decode cX3_count 57 = .ok (.getfield 34, 3) := by decide +kernel
theorem dX3_count_60 : decode cX3_count 60 = .ok (.getfield 80, 3) := by decide +kernel
theorem dX3_count_63 : decode cX3_count 63 = .ok (.ireturn, 1) := by decide +kernel
theorem dX3_count_64 : decode cX3_count 64 = .ok (.iconst (-1), 1) := by decide +kernel
theorem dX3_count_65 : decode cX3_count 65 = .ok (.ireturn, 1) := by decide +kernel
theorem dX3_wipe_0 : decode cX3_wipe 0 = .ok (.aload_n 0, 1) := by decide +kernel
theorem dX3_wipe_1 : decode cX3_wipe 1 = .ok (.getfield 25, 3) := by decide +kernel
theorem dX3_wipe_4 : decode cX3_wipe 4 = .ok (.invokevirtual 83, 3) := by decide +kernel
theorem dX3_wipe_7 : decode cX3_wipe 7 = .ok (.aload_n 0, 1) := by decide +kernel
theorem dX3_wipe_8 : decode cX3_wipe 8 = .ok (.iconst 0, 1) := by decide +kernel
theorem dX3_wipe_9 : decode cX3_wipe 9 = .ok (.putfield 59, 3) := by decide +kernel
theorem dX3_wipe_12 : decode cX3_wipe 12 = .ok (.aload_n 0, 1) := by decide +kernel
theorem dX3_wipe_13 : decode cX3_wipe 13 = .ok (.iconst 0, 1) := by decide +kernel
theorem dX3_wipe_14 : decode cX3_wipe 14 = .ok (.putfield 62, 3) := by decide +kernel
theorem dX3_wipe_17 : decode cX3_wipe 17 = .ok (.aload_n 0, 1) := by decide +kernel
theorem dX3_wipe_18 : decode cX3_wipe 18 = .ok (.iconst 0, 1) := by decide +kernel
theorem dX3_wipe_19 : decode cX3_wipe 19 = .ok (.putfield 71, 3) := by decide +kernel
theorem dX3_wipe_22 : decode cX3_wipe 22 = .ok (.aload_n 0, 1) := by decide +kernel
theorem dX3_wipe_23 : decode cX3_wipe 23 = .ok (.invokevirtual 68, 3) := by decide +kernel
theorem dX3_wipe_26 : decode cX3_wipe 26 = .ok (.return_, 1) := by decide +kernel
theorem dX4_init_0 : decode cX4_init 0 = .ok (.aload_n 0, 1) := by decide +kernel
theorem dX4_init_1 : decode cX4_init 1 = .ok (.invokespecial 1, 3) := by decide +kernel
theorem dX4_init_4 : decode cX4_init 4 = .ok (.aload_n 0, 1) := by decide +kernel
theorem dX4_init_5 : decode cX4_init 5 = .ok (.sipush 1024, 3) := by decide +kernel
theorem dX4_init_8 : decode cX4_init 8 = .ok (.newarray .long, 2) := by decide +kernel
theorem dX4_init_10 : decode cX4_init 10 = .ok (.putfield 7, 3) := by decide +kernel
theorem dX4_init_13 : decode cX4_init 13 = .ok (.aload_n 0, 1) := by decide +kernel
theorem dX4_init_14 : decode cX4_init 14 = .ok (.sipush 1024, 3) := by decide +kernel
theorem dX4_init_17 : decode cX4_init 17 = .ok (.newarray .long, 2) := by decide +kernel
theorem dX4_init_19 : decode cX4_init 19 = .ok (.putfield 13, 3) := by decide +kernel
theorem dX4_init_22 : decode cX4_init 22 = .ok (.aload_n 0, 1) := by decide +kernel
theorem dX4_init_23 : decode cX4_init 23 = .ok (.sipush 1024, 3) := by decide +kernel
theorem dX4_init_26 : decode cX4_init 26 = .ok (.newarray .long, 2) := by decide +kernel
theorem dX4_init_28 : decode cX4_init 28 = .ok (.putfield 16, 3) := by decide +kernel
theorem dX4_init_31 : decode cX4_init 31 = .ok (.aload_n 0, 1) := by decide +kernel
theorem dX4_init_32 : decode cX4_init 32 = .ok (.bipush 20, 2) := by decide +kernel
theorem dX4_init_34 : decode cX4_init 34 = .ok (.newarray .int, 2) := by decide +kernel
theorem dX4_init_36 : decode cX4_init 36 = .ok (.putfield 19, 3) := by decide +kernel
theorem dX4_init_39 : decode cX4_init 39 = .ok (.aload_n 0, 1) := by decide +kernel
theorem dX4_init_40 : decode cX4_init 40 = .ok (.bipush 40, 2) := by decide +kernel
theorem dX4_init_42 : decode cX4_init 42 = .ok (.newarray .int, 2) := by decide +kernel
theorem dX4_init_44 : decode cX4_init 44 = .ok (.putfield 23, 3) := by decide +kernel
theorem dX4_init_47 : decode cX4_init 47 = .ok (.aload_n 0, 1) := by decide +kernel
theorem dX4_init_48 : decode cX4_init 48 = .ok (.iload_n 1, 1) := by decide +kernel
theorem dX4_init_49 : decode cX4_init 49 = .ok (.iconst 1, 1) := by decide +kernel
theorem dX4_init_50 : decode cX4_init 50 = .ok (.if_icmp .ge 7, 3) := by decide +kernel
theorem dX4_init_53 : decode cX4_init 53 = .ok (.iconst 1, 1) := by decide +kernel
theorem dX4_init_54 : decode cX4_init 54 = .ok (.goto 15, 3) := by decide +kernel
theorem dX4_init_57 : decode cX4_init 57 = .ok (.iload_n 1, 1) := by decide +kernel
theorem dX4_init_58 : decode cX4_init 58 = .ok (.bipush 16, 2) := by decide +kernel
theorem dX4_init_60 : decode cX4_init 60 = .ok (.if_icmp .le 8, 3) := by decide +kernel
theorem dX4_init_63 : decode cX4_init 63 = .ok (.bipush 16, 2) := by decide +kernel
theorem dX4_init_65 : decode cX4_init 65 = .ok (.goto 4, 3) := by decide +kernel
theorem dX4_init_68 : decode cX4_init 68 = .ok (.iload_n 1, 1) := by decide +kernel
theorem dX4_init_69 : decode cX4_init 69 = .ok (.putfield 26, 3) := by decide +kernel
theorem dX4_init_72 : decode cX4_init 72 = .ok (.aload_n 0, 1) := by decide +kernel
theorem dX4_init_73 : decode cX4_init 73 = .ok (.aload_n 0, 1) := by decide +kernel
theorem dX4_init_74 : decode cX4_init 74 = .ok (.getfield 26, 3) := by decide +kernel
theorem dX4_init_77 : decode cX4_init 77 = .ok (.bipush 6, 2) := by decide +kernel
theorem dX4_init_79 : decode cX4_init 79 = .ok (.if_icmp .ge 7, 3) := by decide +kernel
theorem dX4_init_82 : decode cX4_init 82 = .ok (.iconst 1, 1) := by decide +kernel
theorem dX4_init_83 : decode cX4_init 83 = .ok (.goto 12, 3) := by decide +kernel
theorem dX4_init_86 : decode cX4_init 86 = .ok (.iconst 1, 1) := by decide +kernel
theorem dX4_init_87 : decode cX4_init 87 = .ok (.aload_n 0, 1) := by decide +kernel
theorem dX4_init_88 : decode cX4_init 88 = .ok (.getfield 26, 3) := by decide +kernel
theorem dX4_init_91 : decode cX4_init 91 = .ok (.bipush 6, 2) := by decide +kernel
theorem dX4_init_93 : decode cX4_init 93 = .ok (.isub, 1) := by decide +kernel
theorem dX4_init_94 : decode cX4_init 94 = .ok (.ishl, 1) := by decide +kernel
theorem dX4_init_95 : decode cX4_init 95 = .ok (.putfield 30, 3) := by decide +kernel
theorem dX4_init_98 : decode cX4_init 98 = .ok (.aload_n 0, 1) := by decide +kernel
theorem dX4_init_99 : decode cX4_init 99 = .ok (.invokevirtual 33, 3) := by decide +kernel
theorem dX4_init_102 : decode cX4_init 102 = .ok (.return_, 1) := by decide +kernel
theorem dX4_clear_0 : decode cX4_clear 0 = .ok (.iconst 0, 1) := by decide +kernel
theorem dX4_clear_1 : decode cX4_clear 1 = .ok (.istore_n 1, 1) := by decide +kernel
theorem dX4_clear_2 : decode cX4_clear 2 = .ok (.iload_n 1, 1) := by decide +kernel
theorem dX4_clear_3 : decode cX4_clear 3 = .ok (.aload_n 0, 1) := by decide +kernel
theorem dX4_clear_4 : decode cX4_clear 4 = .ok (.getfield 30, 3) := by decide +kernel
theorem dX4_clear_7 : decode cX4_clear 7 = .ok (.if_icmp .ge 40, 3) := by decide +kernel
theorem dX4_clear_10 : decode cX4_clear 10 = .ok (.aload_n 0, 1) := by decide +kernel
theorem dX4_clear_11 : decode cX4_clear 11 = .ok (.getfield 7, 3) := by decide +kernel
theorem dX4_clear_14 : decode cX4_clear 14 = .ok (.iload_n 1, 1) := by decide +kernel
theorem dX4_clear_15 : decode cX4_clear 15 = .ok (.aload_n 0, 1) := by decide +kernel
theorem dX4_clear_16 : decode cX4_clear 16 = .ok (.getfield 26, 3) := by decide +kernel
theorem dX4_clear_19 : decode cX4_clear 19 = .ok (.bipush 6, 2) := by decide +kernel
theorem dX4_clear_21 : decode cX4_clear 21 = .ok (.if_icmp .ge 16, 3) := by decide +kernel
theorem dX4_clear_24 : decode cX4_clear 24 = .ok (.lconst 1, 1) := by decide +kernel
theorem dX4_clear_25 : decode cX4_clear 25 = .ok (.iconst 1, 1) := by decide +kernel
theorem dX4_clear_26 : decode cX4_clear 26 = .ok (.aload_n 0, 1) := by decide +kernel
theorem dX4_clear_27 : decode cX4_clear 27 = .ok (.getfield 26, 3) := by decide +kernel
theorem dX4_clear_30 : decode cX4_clear 30 = .ok (.ishl, 1) := by decide +kernel
theorem dX4_clear_31 : decode cX4_clear 31 = .ok (.lshl, 1) := by decide +kernel
theorem dX4_clear_32 : decode cX4_clear 32 = .ok (.lconst 1, 1) := by decide +kernel
theorem dX4_clear_33 : decode cX4_clear 33 = .ok (.lsub, 1) := by decide +kernel
theorem dX4_clear_34 : decode cX4_clear 34 = .ok (.goto 6, 3) := by decide +kernel
theorem dX4_clear_37 : decode cX4_clear 37 = .ok (.ldc2_w 39, 3) := by decide +kernel
theorem dX4_clear_40 : decode cX4_clear 40 = .ok (.lastore, 1) := by decide +kernel
theorem dX4_clear_41 : decode cX4_clear 41 = .ok (.iinc 1 1, 3) := by decide +kernel
theorem dX4_clear_44 : decode cX4_clear 44 = .ok (.goto (-42), 3) := by decide +kernel
theorem dX4_clear_47 : decode cX4_clear 47 = .ok (.aload_n 0, 1) := by decide +kernel
theorem dX4_clear_48 : decode cX4_clear 48 = .ok (.iconst 0, 1) := by decide +kernel
theorem dX4_clear_49 : decode cX4_clear 49 = .ok (.putfield 41, 3) := by decide +kernel
theorem dX4_clear_52 : decode cX4_clear 52 = .ok (.aload_n 0, 1) := by decide +kernel
theorem dX4_clear_53 : decode cX4_clear 53 = .ok (.iconst 0, 1) := by decide +kernel
theorem dX4_clear_54 : decode cX4_clear 54 = .ok (.putfield 44, 3) := by decide +kernel
theorem dX4_clear_57 : decode cX4_clear 57 = .ok (.aload_n 0, 1) := by decide +kernel
theorem dX4_clear_58 : decode cX4_clear 58 = .ok (.iconst 0, 1) := by decide +kernel
theorem dX4_clear_59 : decode cX4_clear 59 = .ok (.putfield 47, 3) := by decide +kernel
theorem dX4_clear_62 : decode cX4_clear 62 = .ok (.aload_n 0, 1) := by decide +kernel
theorem dX4_clear_63 : decode cX4_clear 63 = .ok (.iconst 0, 1) := by decide +kernel
theorem dX4_clear_64 : decode cX4_clear 64 = .ok (.putfield 50, 3) := by decide +kernel
theorem dX4_clear_67 : decode cX4_clear 67 = .ok (.return_, 1) := by decide +kernel
theorem dX4_isLiteral_0 : decode cX4_isLiteral 0 = .ok (.iload_n 1, 1) := by decide +kernel
theorem dX4_isLiteral_1 : decode cX4_isLiteral 1 = .ok (.ifCond .eq 24, 3) := by decide +kernel
theorem dX4_isLiteral_4 : decode cX4_isLiteral 4 = .ok (.iload_n 1, 1) := by decide +kernel
theorem dX4_isLiteral_5 : decode cX4_isLiteral 5 = .ok (.aload_n 0, 1) := by decide +kernel
theorem dX4_isLiteral_6 : decode cX4_isLiteral 6 = .ok (.getfield 26, 3) := by decide +kernel
theorem dX4_isLiteral_9 : decode cX4_isLiteral 9 = .ok (.ineg, 1) := by decide +kernel
theorem dX4_isLiteral_10 : decode cX4_isLiteral 10 = .ok (.if_icmp .lt 15, 3) := by decide +kernel
theorem dX4_isLiteral_13 : decode cX4_isLiteral 13 = .ok (.iload_n 1, 1) := by decide +kernel
theorem dX4_isLiteral_14 : decode cX4_isLiteral 14 = .ok (.aload_n 0, 1) := by decide +kernel
theorem dX4_isLiteral_15 : decode cX4_isLiteral 15 = .ok (.getfield 26, 3) := by decide +kernel
theorem dX4_isLiteral_18 : decode cX4_isLiteral 18 = .ok (.if_icmp .gt 7, 3) := by decide +kernel
theorem dX4_isLiteral_21 : decode cX4_isLiteral 21 = .ok (.iconst 1, 1) := by decide +kernel
theorem dX4_isLiteral_22 : decode cX4_isLiteral 22 = .ok (.goto 4, 3) := by decide +kernel
theorem dX4_isLiteral_25 : decode cX4_isLiteral 25 = .ok (.iconst 0, 1) := by decide +kernel
theorem dX4_isLiteral_26 : decode cX4_isLiteral 26 = .ok (.ireturn, 1) := by decide +kernel
theorem dX4_row_0 : decode cX4_row 0 = .ok (.aload_n 0, 1) := by decide +kernel
theorem dX4_row_1 : decode cX4_row 1 = .ok (.getfield 26, 3) := by decide +kernel
theorem dX4_row_4 : decode cX4_row 4 = .ok (.iload_n 1, 1) := by decide +kernel
theorem dX4_row_5 : decode cX4_row 5 = .ok (.ifCond .ge 8, 3) := by decide +kernel
theorem dX4_row_8 : decode cX4_row 8 = .ok (.iload_n 1, 1) := by decide +kernel
theorem dX4_row_9 : decode cX4_row 9 = .ok (.ineg, 1) := by decide +kernel
theorem dX4_row_10 : decode cX4_row 10 = .ok (.goto 4, 3) := by decide +kernel
theorem dX4_row_13 : decode cX4_row 13 = .ok (.iload_n 1, 1) := by decide +kernel
theorem dX4_row_14 : decode cX4_row 14 = .ok (.isub, 1) := by decide +kernel
theorem dX4_row_15 : decode cX4_row 15 = .ok (.istore_n 3, 1) := by decide +kernel
theorem dX4_row_16 : decode cX4_row 16 = .ok (.iload_n 3, 1) := by decide +kernel
theorem dX4_row_17 : decode cX4_row 17 = .ok (.tableswitch 87 0 5 #[39, 47, 55, 63, 71, 79], 39) := by decide +kernel
theorem dX4_row_56 : decode cX4_row 56 = .ok (.ldc2_w 53, 3) := by decide +kernel
theorem dX4_row_59 : decode cX4_row 59 = .ok (.lstore 4, 2) := by decide +kernel
theorem dX4_row_61 : decode cX4_row 61 = .ok (.goto 64, 3) := by decide +kernel
theorem dX4_row_64 : decode cX4_row 64 = .ok (.ldc2_w 55, 3) := by decide +kernel
theorem dX4_row_67 : decode cX4_row 67 = .ok (.lstore 4, 2) := by decide +kernel
theorem dX4_row_69 : decode cX4_row 69 = .ok (.goto 56, 3) := by decide +kernel
theorem dX4_row_72 : decode cX4_row 72 = .ok (.ldc2_w 57, 3) := by decide +kernel
theorem dX4_row_75 : decode cX4_row 75 = .ok (.lstore 4, 2) := by decide +kernel
theorem dX4_row_77 : decode cX4_row 77 = .ok (.goto 48, 3) := by decide +kernel
theorem dX4_row_80 : decode cX4_row 80 = .ok (.ldc2_w 59, 3) := by decide +kernel
theorem dX4_row_83 : decode cX4_row 83 = .ok (.lstore 4, 2) := by decide +kernel
theorem dX4_row_85 : decode cX4_row 85 = .ok (.goto 40, 3) := by decide +kernel
theorem dX4_row_88 : decode cX4_row 88 = .ok (.ldc2_w 61, 3) := by decide +kernel
theorem dX4_row_91 : decode cX4_row 91 = .ok (.lstore 4, 2) := by decide +kernel
theorem dX4_row_93 : decode cX4_row 93 = .ok (.goto 32, 3) := by decide +kernel
theorem dX4_row_96 : decode cX4_row 96 = .ok (.ldc2_w 63, 3) := by decide +kernel
theorem dX4_row_99 : decode cX4_row 99 = .ok (.lstore 4, 2) := by decide +kernel
theorem dX4_row_101 : decode cX4_row 101 = .ok (.goto 24, 3) := by decide +kernel
theorem dX4_row_104 : decode cX4_row 104 = .ok (.iload_n 2, 1) := by decide +kernel
theorem dX4_row_105 : decode cX4_row 105 = .ok (.iload_n 3, 1) := by decide +kernel
theorem dX4_row_106 : decode cX4_row 106 = .ok (.bipush 6, 2) := by decide +kernel
theorem dX4_row_108 : decode cX4_row 108 = .ok (.isub, 1) := by decide +kernel
theorem dX4_row_109 : decode cX4_row 109 = .ok (.ishr, 1) := by decide +kernel
theorem dX4_row_110 : decode cX4_row 110 = .ok (.iconst 1, 1) := by decide +kernel
theorem dX4_row_111 : decode cX4_row 111 = .ok (.iand, 1) := by decide +kernel
theorem dX4_row_112 : decode cX4_row 112 = .ok (.iconst 1, 1) := by decide +kernel
theorem dX4_row_113 : decode cX4_row 113 = .ok (.if_icmp .ne 9, 3) := by decide +kernel
theorem dX4_row_116 : decode cX4_row 116 = .ok (.ldc2_w 39, 3) := by decide +kernel
theorem dX4_row_119 : decode cX4_row 119 = .ok (.goto 4, 3) := by decide +kernel
theorem dX4_row_122 : decode cX4_row 122 = .ok (.lconst 0, 1) := by decide +kernel
theorem dX4_row_123 : decode cX4_row 123 = .ok (.lstore 4, 2) := by decide +kernel
theorem dX4_row_125 : decode cX4_row 125 = .ok (.iload_n 1, 1) := by decide +kernel
theorem dX4_row_126 : decode cX4_row 126 = .ok (.ifCond .ge 12, 3) := by decide +kernel
theorem dX4_row_129 : decode cX4_row 129 = .ok (.lload 4, 2) := by decide +kernel
theorem dX4_row_131 : decode cX4_row 131 = .ok (.ldc2_w 39, 3) := by decide +kernel
theorem dX4_row_134 : decode cX4_row 134 = .ok (.lxor, 1) := by decide +kernel
theorem dX4_row_135 : decode cX4_row 135 = .ok (.goto 5, 3) := by decide +kernel
theorem dX4_row_138 : decode cX4_row 138 = .ok (.lload 4, 2) := by decide +kernel
theorem dX4_row_140 : decode cX4_row 140 = .ok (.lreturn, 1) := by decide +kernel
theorem dX4_add_0 : decode cX4_add 0 = .ok (.aload_n 0, 1) := by decide +kernel
theorem dX4_add_1 : decode cX4_add 1 = .ok (.iconst 0, 1) := by decide +kernel
theorem dX4_add_2 : decode cX4_add 2 = .ok (.putfield 36, 3) := by decide +kernel
theorem dX4_add_5 : decode cX4_add 5 = .ok (.aload_n 0, 1) := by decide +kernel
theorem dX4_add_6 : decode cX4_add 6 = .ok (.iload_n 1, 1) := by decide +kernel
theorem dX4_add_7 : decode cX4_add 7 = .ok (.invokevirtual 65, 3) := by decide +kernel
theorem dX4_add_10 : decode cX4_add 10 = .ok (.ifCond .eq 12, 3) := by decide +kernel
theorem dX4_add_13 : decode cX4_add 13 = .ok (.aload_n 0, 1) := by decide +kernel
theorem dX4_add_14 : decode cX4_add 14 = .ok (.getfield 41, 3) := by decide +kernel
theorem dX4_add_17 : decode cX4_add 17 = .ok (.bipush 20, 2) := by decide +kernel
theorem dX4_add_19 : decode cX4_add 19 = .ok (.if_icmp .ne 5, 3) := by decide +kernel
theorem dX4_add_22 : decode cX4_add 22 = .ok (.iconst 0, 1) := by decide +kernel
theorem dX4_add_23 : decode cX4_add 23 = .ok (.ireturn, 1) := by decide +kernel
theorem dX4_add_24 : decode cX4_add 24 = .ok (.aload_n 0, 1) := by decide +kernel
theorem dX4_add_25 : decode cX4_add 25 = .ok (.getfield 19, 3) := by decide +kernel
theorem dX4_add_28 : decode cX4_add 28 = .ok (.aload_n 0, 1) := by decide +kernel
theorem dX4_add_29 : decode cX4_add 29 = .ok (.getfield 41, 3) := by decide +kernel
theorem dX4_add_32 : decode cX4_add 32 = .ok (.iload_n 1, 1) := by decide +kernel
theorem dX4_add_33 : decode cX4_add 33 = .ok (.iastore, 1) := by decide +kernel
theorem dX4_add_34 : decode cX4_add 34 = .ok (.aload_n 0, 1) := by decide +kernel
theorem dX4_add_35 : decode cX4_add 35 = .ok (.dup, 1) := by decide +kernel
theorem dX4_add_36 : decode cX4_add 36 = .ok (.getfield 41, 3) := by decide +kernel
theorem dX4_add_39 : decode cX4_add 39 = .ok (.iconst 1, 1) := by decide +kernel
theorem dX4_add_40 : decode cX4_add 40 = .ok (.iadd, 1) := by decide +kernel
theorem dX4_add_41 : decode cX4_add 41 = .ok (.putfield 41, 3) := by decide +kernel
theorem dX4_add_44 : decode cX4_add 44 = .ok (.iconst 1, 1) := by decide +kernel
theorem dX4_add_45 : decode cX4_add 45 = .ok (.ireturn, 1) := by decide +kernel
theorem dX4_close_0 : decode cX4_close 0 = .ok (.aload_n 0, 1) := by decide +kernel
theorem dX4_close_1 : decode cX4_close 1 = .ok (.iconst 0, 1) := by decide +kernel
theorem dX4_close_2 : decode cX4_close 2 = .ok (.putfield 36, 3) := by decide +kernel
theorem dX4_close_5 : decode cX4_close 5 = .ok (.aload_n 0, 1) := by decide +kernel
theorem dX4_close_6 : decode cX4_close 6 = .ok (.getfield 41, 3) := by decide +kernel
theorem dX4_close_9 : decode cX4_close 9 = .ok (.istore_n 1, 1) := by decide +kernel
theorem dX4_close_10 : decode cX4_close 10 = .ok (.aload_n 0, 1) := by decide +kernel
theorem dX4_close_11 : decode cX4_close 11 = .ok (.iconst 0, 1) := by decide +kernel
theorem dX4_close_12 : decode cX4_close 12 = .ok (.putfield 41, 3) := by decide +kernel
theorem dX4_close_15 : decode cX4_close 15 = .ok (.aload_n 0, 1) := by decide +kernel
theorem dX4_close_16 : decode cX4_close 16 = .ok (.getfield 44, 3) := by decide +kernel
theorem dX4_close_19 : decode cX4_close 19 = .ok (.sipush 600, 3) := by decide +kernel
theorem dX4_close_22 : decode cX4_close 22 = .ok (.if_icmp .eq 15, 3) := by decide +kernel
theorem dX4_close_25 : decode cX4_close 25 = .ok (.aload_n 0, 1) := by decide +kernel
theorem dX4_close_26 : decode cX4_close 26 = .ok (.getfield 47, 3) := by decide +kernel
theorem dX4_close_29 : decode cX4_close 29 = .ok (.iload_n 1, 1) := by decide +kernel
theorem dX4_close_30 : decode cX4_close 30 = .ok (.iadd, 1) := by decide +kernel
theorem dX4_close_31 : decode cX4_close 31 = .ok (.sipush 4000, 3) := by decide +kernel
theorem dX4_close_34 : decode cX4_close 34 = .ok (.if_icmp .le 5, 3) := by decide +kernel
theorem dX4_close_37 : decode cX4_close 37 = .ok (.iconst (-1), 1) := by decide +kernel
theorem dX4_close_38 : decode cX4_close 38 = .ok (.ireturn, 1) := by decide +kernel
theorem dX4_close_39 : decode cX4_close 39 = .ok (.iconst 0, 1) := by decide +kernel
theorem dX4_close_40 : decode cX4_close 40 = .ok (.istore_n 2, 1) := by decide +kernel
theorem dX4_close_41 : decode cX4_close 41 = .ok (.iload_n 2, 1) := by decide +kernel
theorem dX4_close_42 : decode cX4_close 42 = .ok (.aload_n 0, 1) := by decide +kernel
theorem dX4_close_43 : decode cX4_close 43 = .ok (.getfield 30, 3) := by decide +kernel
theorem dX4_close_46 : decode cX4_close 46 = .ok (.if_icmp .ge 55, 3) := by decide +kernel
theorem dX4_close_49 : decode cX4_close 49 = .ok (.lconst 0, 1) := by decide +kernel
theorem dX4_close_50 : decode cX4_close 50 = .ok (.lstore_n 3, 1) := by decide +kernel
theorem dX4_close_51 : decode cX4_close 51 = .ok (.iconst 0, 1) := by decide +kernel
theorem dX4_close_52 : decode cX4_close 52 = .ok (.istore 5, 2) := by decide +kernel
theorem dX4_close_54 : decode cX4_close 54 = .ok (.iload 5, 2) := by decide +kernel
theorem dX4_close_56 : decode cX4_close 56 = .ok (.iload_n 1, 1) := by decide +kernel
theorem dX4_close_57 : decode cX4_close 57 = .ok (.if_icmp .ge 24, 3) := by decide +kernel
theorem dX4_close_60 : decode cX4_close 60 = .ok (.lload_n 3, 1) := by decide +kernel
theorem dX4_close_61 : decode cX4_close 61 = .ok (.aload_n 0, 1) := by decide +kernel
theorem dX4_close_62 : decode cX4_close 62 = .ok (.aload_n 0, 1) := by decide +kernel
theorem dX4_close_63 : decode cX4_close 63 = .ok (.getfield 19, 3) := by decide +kernel
theorem dX4_close_66 : decode cX4_close 66 = .ok (.iload 5, 2) := by decide +kernel
theorem dX4_close_68 : decode cX4_close 68 = .ok (.iaload, 1) := by decide +kernel
theorem dX4_close_69 : decode cX4_close 69 = .ok (.iload_n 2, 1) := by decide +kernel
theorem dX4_close_70 : decode cX4_close 70 = .ok (.invokevirtual 69, 3) := by decide +kernel
theorem dX4_close_73 : decode cX4_close 73 = .ok (.lor, 1) := by decide +kernel
theorem dX4_close_74 : decode cX4_close 74 = .ok (.lstore_n 3, 1) := by decide +kernel
theorem dX4_close_75 : decode cX4_close 75 = .ok (.iinc 5 1, 3) := by decide +kernel
theorem dX4_close_78 : decode cX4_close 78 = .ok (.goto (-24), 3) := by decide +kernel
theorem dX4_close_81 : decode cX4_close 81 = .ok (.aload_n 0, 1) := by decide +kernel
theorem dX4_close_82 : decode cX4_close 82 = .ok (.getfield 7, 3) := by decide +kernel
theorem dX4_close_85 : decode cX4_close 85 = .ok (.iload_n 2, 1) := by decide +kernel
theorem dX4_close_86 : decode cX4_close 86 = .ok (.aload_n 0, 1) := by decide +kernel
theorem dX4_close_87 : decode cX4_close 87 = .ok (.getfield 7, 3) := by decide +kernel
theorem dX4_close_90 : decode cX4_close 90 = .ok (.iload_n 2, 1) := by decide +kernel
theorem dX4_close_91 : decode cX4_close 91 = .ok (.laload, 1) := by decide +kernel
theorem dX4_close_92 : decode cX4_close 92 = .ok (.lload_n 3, 1) := by decide +kernel
theorem dX4_close_93 : decode cX4_close 93 = .ok (.land, 1) := by decide +kernel
theorem dX4_close_94 : decode cX4_close 94 = .ok (.lastore, 1) := by decide +kernel
theorem dX4_close_95 : decode cX4_close 95 = .ok (.iinc 2 1, 3) := by decide +kernel
theorem dX4_close_98 : decode cX4_close 98 = .ok (.goto (-57), 3) := by decide +kernel
theorem dX4_close_101 : decode cX4_close 101 = .ok (.aload_n 0, 1) := by decide +kernel
theorem dX4_close_102 : decode cX4_close 102 = .ok (.dup, 1) := by decide +kernel
theorem dX4_close_103 : decode cX4_close 103 = .ok (.getfield 47, 3) := by decide +kernel
theorem dX4_close_106 : decode cX4_close 106 = .ok (.iload_n 1, 1) := by decide +kernel
theorem dX4_close_107 : decode cX4_close 107 = .ok (.iadd, 1) := by decide +kernel
theorem dX4_close_108 : decode cX4_close 108 = .ok (.putfield 47, 3) := by decide +kernel
theorem dX4_close_111 : decode cX4_close 111 = .ok (.aload_n 0, 1) := by decide +kernel
theorem dX4_close_112 : decode cX4_close 112 = .ok (.dup, 1) := by decide +kernel
theorem dX4_close_113 : decode cX4_close 113 = .ok (.getfield 44, 3) := by decide +kernel
theorem dX4_close_116 : decode cX4_close 116 = .ok (.iconst 1, 1) := by decide +kernel
theorem dX4_close_117 : decode cX4_close 117 = .ok (.iadd, 1) := by decide +kernel
theorem dX4_close_118 : decode cX4_close 118 = .ok (.putfield 44, 3) := by decide +kernel
theorem dX4_close_121 : decode cX4_close 121 = .ok (.aload_n 0, 1) := by decide +kernel
theorem dX4_close_122 : decode cX4_close 122 = .ok (.getfield 44, 3) := by decide +kernel
theorem dX4_close_125 : decode cX4_close 125 = .ok (.ireturn, 1) := by decide +kernel
theorem dX4_assume_0 : decode cX4_assume 0 = .ok (.aload_n 0, 1) := by decide +kernel
theorem dX4_assume_1 : decode cX4_assume 1 = .ok (.iconst 0, 1) := by decide +kernel
theorem dX4_assume_2 : decode cX4_assume 2 = .ok (.putfield 36, 3) := by decide +kernel
theorem dX4_assume_5 : decode cX4_assume 5 = .ok (.aload_n 0, 1) := by decide +kernel
theorem dX4_assume_6 : decode cX4_assume 6 = .ok (.iload_n 1, 1) := by decide +kernel
theorem dX4_assume_7 : decode cX4_assume 7 = .ok (.invokevirtual 65, 3) := by decide +kernel
theorem dX4_assume_10 : decode cX4_assume 10 = .ok (.ifCond .eq 12, 3) := by decide +kernel
theorem dX4_assume_13 : decode cX4_assume 13 = .ok (.aload_n 0, 1) := by decide +kernel
end
section
theorem dX4_assume_14 : decode cX4_assume 14 = .ok (.getfield 50, 3) := by decide +kernel
theorem dX4_assume_17 : decode cX4_assume 17 = .ok (.bipush 40, 2) := by decide +kernel
theorem dX4_assume_19 : decode cX4_assume 19 = .ok (.if_icmp .ne 5, 3) := by decide +kernel
theorem dX4_assume_22 : decode cX4_assume 22 = .ok (.iconst (-1), 1) := by decide +kernel
theorem dX4_assume_23 : decode cX4_assume 23 = .ok (.ireturn, 1) := by decide +kernel
theorem dX4_assume_24 : decode cX4_assume 24 = .ok (.aload_n 0, 1) := by decide +kernel
theorem dX4_assume_25 : decode cX4_assume 25 = .ok (.getfield 23, 3) := by decide +kernel
theorem dX4_assume_28 : decode cX4_assume 28 = .ok (.aload_n 0, 1) := by decide +kernel
theorem dX4_assume_29 : decode cX4_assume 29 = .ok (.getfield 50, 3) := by decide +kernel
theorem dX4_assume_32 : decode cX4_assume 32 = .ok (.iload_n 1, 1) := by decide +kernel
theorem dX4_assume_33 : decode cX4_assume 33 = .ok (.iastore, 1) := by decide +kernel
theorem dX4_assume_34 : decode cX4_assume 34 = .ok (.aload_n 0, 1) := by decide +kernel
theorem dX4_assume_35 : decode cX4_assume 35 = .ok (.dup, 1) := by decide +kernel
theorem dX4_assume_36 : decode cX4_assume 36 = .ok (.getfield 50, 3) := by decide +kernel
theorem dX4_assume_39 : decode cX4_assume 39 = .ok (.iconst 1, 1) := by decide +kernel
theorem dX4_assume_40 : decode cX4_assume 40 = .ok (.iadd, 1) := by decide +kernel
theorem dX4_assume_41 : decode cX4_assume 41 = .ok (.putfield 50, 3) := by decide +kernel
theorem dX4_assume_44 : decode cX4_assume 44 = .ok (.aload_n 0, 1) := by decide +kernel
theorem dX4_assume_45 : decode cX4_assume 45 = .ok (.getfield 50, 3) := by decide +kernel
theorem dX4_assume_48 : decode cX4_assume 48 = .ok (.ireturn, 1) := by decide +kernel
theorem dX4_retract_0 : decode cX4_retract 0 = .ok (.aload_n 0, 1) := by decide +kernel
theorem dX4_retract_1 : decode cX4_retract 1 = .ok (.iconst 0, 1) := by decide +kernel
theorem dX4_retract_2 : decode cX4_retract 2 = .ok (.putfield 36, 3) := by decide +kernel
theorem dX4_retract_5 : decode cX4_retract 5 = .ok (.iload_n 1, 1) := by decide +kernel
theorem dX4_retract_6 : decode cX4_retract 6 = .ok (.ifCond .lt 11, 3) := by decide +kernel
theorem dX4_retract_9 : decode cX4_retract 9 = .ok (.iload_n 1, 1) := by decide +kernel
theorem dX4_retract_10 : decode cX4_retract 10 = .ok (.aload_n 0, 1) := by decide +kernel
theorem dX4_retract_11 : decode cX4_retract 11 = .ok (.getfield 50, 3) := by decide +kernel
theorem dX4_retract_14 : decode cX4_retract 14 = .ok (.if_icmp .le 5, 3) := by decide +kernel
theorem dX4_retract_17 : decode cX4_retract 17 = .ok (.iconst (-1), 1) := by decide +kernel
theorem dX4_retract_18 : decode cX4_retract 18 = .ok (.ireturn, 1) := by decide +kernel
theorem dX4_retract_19 : decode cX4_retract 19 = .ok (.aload_n 0, 1) := by decide +kernel
theorem dX4_retract_20 : decode cX4_retract 20 = .ok (.dup, 1) := by decide +kernel
theorem dX4_retract_21 : decode cX4_retract 21 = .ok (.getfield 50, 3) := by decide +kernel
theorem dX4_retract_24 : decode cX4_retract 24 = .ok (.iload_n 1, 1) := by decide +kernel
theorem dX4_retract_25 : decode cX4_retract 25 = .ok (.isub, 1) := by decide +kernel
theorem dX4_retract_26 : decode cX4_retract 26 = .ok (.putfield 50, 3) := by decide +kernel
theorem dX4_retract_29 : decode cX4_retract 29 = .ok (.aload_n 0, 1) := by decide +kernel
theorem dX4_retract_30 : decode cX4_retract 30 = .ok (.getfield 50, 3) := by decide +kernel
theorem dX4_retract_33 : decode cX4_retract 33 = .ok (.ireturn, 1) := by decide +kernel
theorem dX4_leaves_0 : decode cX4_leaves 0 = .ok (.lconst 0, 1) := by decide +kernel
theorem dX4_leaves_1 : decode cX4_leaves 1 = .ok (.lstore_n 3, 1) := by decide +kernel
theorem dX4_leaves_2 : decode cX4_leaves 2 = .ok (.iconst 0, 1) := by decide +kernel
theorem dX4_leaves_3 : decode cX4_leaves 3 = .ok (.istore 5, 2) := by decide +kernel
theorem dX4_leaves_5 : decode cX4_leaves 5 = .ok (.iload 5, 2) := by decide +kernel
theorem dX4_leaves_7 : decode cX4_leaves 7 = .ok (.aload_n 0, 1) := by decide +kernel
theorem dX4_leaves_8 : decode cX4_leaves 8 = .ok (.getfield 30, 3) := by decide +kernel
theorem dX4_leaves_11 : decode cX4_leaves 11 = .ok (.if_icmp .ge 90, 3) := by decide +kernel
theorem dX4_leaves_14 : decode cX4_leaves 14 = .ok (.aload_n 0, 1) := by decide +kernel
theorem dX4_leaves_15 : decode cX4_leaves 15 = .ok (.getfield 13, 3) := by decide +kernel
theorem dX4_leaves_18 : decode cX4_leaves 18 = .ok (.iload 5, 2) := by decide +kernel
theorem dX4_leaves_20 : decode cX4_leaves 20 = .ok (.aload_n 0, 1) := by decide +kernel
theorem dX4_leaves_21 : decode cX4_leaves 21 = .ok (.getfield 7, 3) := by decide +kernel
theorem dX4_leaves_24 : decode cX4_leaves 24 = .ok (.iload 5, 2) := by decide +kernel
theorem dX4_leaves_26 : decode cX4_leaves 26 = .ok (.laload, 1) := by decide +kernel
theorem dX4_leaves_27 : decode cX4_leaves 27 = .ok (.lastore, 1) := by decide +kernel
theorem dX4_leaves_28 : decode cX4_leaves 28 = .ok (.iconst 0, 1) := by decide +kernel
theorem dX4_leaves_29 : decode cX4_leaves 29 = .ok (.istore 6, 2) := by decide +kernel
theorem dX4_leaves_31 : decode cX4_leaves 31 = .ok (.iload 6, 2) := by decide +kernel
theorem dX4_leaves_33 : decode cX4_leaves 33 = .ok (.aload_n 0, 1) := by decide +kernel
theorem dX4_leaves_34 : decode cX4_leaves 34 = .ok (.getfield 50, 3) := by decide +kernel
theorem dX4_leaves_37 : decode cX4_leaves 37 = .ok (.if_icmp .ge 48, 3) := by decide +kernel
theorem dX4_leaves_40 : decode cX4_leaves 40 = .ok (.lload_n 1, 1) := by decide +kernel
theorem dX4_leaves_41 : decode cX4_leaves 41 = .ok (.iload 6, 2) := by decide +kernel
theorem dX4_leaves_43 : decode cX4_leaves 43 = .ok (.lshr, 1) := by decide +kernel
theorem dX4_leaves_44 : decode cX4_leaves 44 = .ok (.lconst 1, 1) := by decide +kernel
theorem dX4_leaves_45 : decode cX4_leaves 45 = .ok (.land, 1) := by decide +kernel
theorem dX4_leaves_46 : decode cX4_leaves 46 = .ok (.lconst 1, 1) := by decide +kernel
theorem dX4_leaves_47 : decode cX4_leaves 47 = .ok (.lcmp, 1) := by decide +kernel
theorem dX4_leaves_48 : decode cX4_leaves 48 = .ok (.ifCond .ne 31, 3) := by decide +kernel
theorem dX4_leaves_51 : decode cX4_leaves 51 = .ok (.aload_n 0, 1) := by decide +kernel
theorem dX4_leaves_52 : decode cX4_leaves 52 = .ok (.getfield 13, 3) := by decide +kernel
theorem dX4_leaves_55 : decode cX4_leaves 55 = .ok (.iload 5, 2) := by decide +kernel
theorem dX4_leaves_57 : decode cX4_leaves 57 = .ok (.aload_n 0, 1) := by decide +kernel
theorem dX4_leaves_58 : decode cX4_leaves 58 = .ok (.getfield 13, 3) := by decide +kernel
theorem dX4_leaves_61 : decode cX4_leaves 61 = .ok (.iload 5, 2) := by decide +kernel
theorem dX4_leaves_63 : decode cX4_leaves 63 = .ok (.laload, 1) := by decide +kernel
theorem dX4_leaves_64 : decode cX4_leaves 64 = .ok (.aload_n 0, 1) := by decide +kernel
theorem dX4_leaves_65 : decode cX4_leaves 65 = .ok (.aload_n 0, 1) := by decide +kernel
theorem dX4_leaves_66 : decode cX4_leaves 66 = .ok (.getfield 23, 3) := by decide +kernel
theorem dX4_leaves_69 : decode cX4_leaves 69 = .ok (.iload 6, 2) := by decide +kernel
theorem dX4_leaves_71 : decode cX4_leaves 71 = .ok (.iaload, 1) := by decide +kernel
theorem dX4_leaves_72 : decode cX4_leaves 72 = .ok (.iload 5, 2) := by decide +kernel
theorem dX4_leaves_74 : decode cX4_leaves 74 = .ok (.invokevirtual 69, 3) := by decide +kernel
theorem dX4_leaves_77 : decode cX4_leaves 77 = .ok (.land, 1) := by decide +kernel
theorem dX4_leaves_78 : decode cX4_leaves 78 = .ok (.lastore, 1) := by decide +kernel
theorem dX4_leaves_79 : decode cX4_leaves 79 = .ok (.iinc 6 1, 3) := by decide +kernel
theorem dX4_leaves_82 : decode cX4_leaves 82 = .ok (.goto (-51), 3) := by decide +kernel
theorem dX4_leaves_85 : decode cX4_leaves 85 = .ok (.lload_n 3, 1) := by decide +kernel
theorem dX4_leaves_86 : decode cX4_leaves 86 = .ok (.aload_n 0, 1) := by decide +kernel
theorem dX4_leaves_87 : decode cX4_leaves 87 = .ok (.getfield 13, 3) := by decide +kernel
theorem dX4_leaves_90 : decode cX4_leaves 90 = .ok (.iload 5, 2) := by decide +kernel
theorem dX4_leaves_92 : decode cX4_leaves 92 = .ok (.laload, 1) := by decide +kernel
theorem dX4_leaves_93 : decode cX4_leaves 93 = .ok (.lor, 1) := by decide +kernel
theorem dX4_leaves_94 : decode cX4_leaves 94 = .ok (.lstore_n 3, 1) := by decide +kernel
theorem dX4_leaves_95 : decode cX4_leaves 95 = .ok (.iinc 5 1, 3) := by decide +kernel
theorem dX4_leaves_98 : decode cX4_leaves 98 = .ok (.goto (-93), 3) := by decide +kernel
theorem dX4_leaves_101 : decode cX4_leaves 101 = .ok (.lload_n 3, 1) := by decide +kernel
theorem dX4_leaves_102 : decode cX4_leaves 102 = .ok (.lconst 0, 1) := by decide +kernel
theorem dX4_leaves_103 : decode cX4_leaves 103 = .ok (.lcmp, 1) := by decide +kernel
theorem dX4_leaves_104 : decode cX4_leaves 104 = .ok (.ifCond .eq 7, 3) := by decide +kernel
theorem dX4_leaves_107 : decode cX4_leaves 107 = .ok (.iconst 1, 1) := by decide +kernel
theorem dX4_leaves_108 : decode cX4_leaves 108 = .ok (.goto 4, 3) := by decide +kernel
theorem dX4_leaves_111 : decode cX4_leaves 111 = .ok (.iconst 0, 1) := by decide +kernel
theorem dX4_leaves_112 : decode cX4_leaves 112 = .ok (.ireturn, 1) := by decide +kernel
theorem dX4_solve_0 : decode cX4_solve 0 = .ok (.aload_n 0, 1) := by decide +kernel
theorem dX4_solve_1 : decode cX4_solve 1 = .ok (.iconst 0, 1) := by decide +kernel
theorem dX4_solve_2 : decode cX4_solve 2 = .ok (.putfield 36, 3) := by decide +kernel
theorem dX4_solve_5 : decode cX4_solve 5 = .ok (.aload_n 0, 1) := by decide +kernel
theorem dX4_solve_6 : decode cX4_solve 6 = .ok (.ldc2_w 39, 3) := by decide +kernel
theorem dX4_solve_9 : decode cX4_solve 9 = .ok (.invokevirtual 73, 3) := by decide +kernel
theorem dX4_solve_12 : decode cX4_solve 12 = .ok (.ireturn, 1) := by decide +kernel
theorem dX4_least_0 : decode cX4_least 0 = .ok (.aload_n 0, 1) := by decide +kernel
theorem dX4_least_1 : decode cX4_least 1 = .ok (.iconst 0, 1) := by decide +kernel
theorem dX4_least_2 : decode cX4_least 2 = .ok (.putfield 36, 3) := by decide +kernel
theorem dX4_least_5 : decode cX4_least 5 = .ok (.aload_n 0, 1) := by decide +kernel
theorem dX4_least_6 : decode cX4_least 6 = .ok (.ldc2_w 39, 3) := by decide +kernel
theorem dX4_least_9 : decode cX4_least 9 = .ok (.invokevirtual 73, 3) := by decide +kernel
theorem dX4_least_12 : decode cX4_least 12 = .ok (.ifCond .ne 5, 3) := by decide +kernel
theorem dX4_least_15 : decode cX4_least 15 = .ok (.iconst (-1), 1) := by decide +kernel
theorem dX4_least_16 : decode cX4_least 16 = .ok (.ireturn, 1) := by decide +kernel
theorem dX4_least_17 : decode cX4_least 17 = .ok (.iconst 0, 1) := by decide +kernel
theorem dX4_least_18 : decode cX4_least 18 = .ok (.istore_n 1, 1) := by decide +kernel
theorem dX4_least_19 : decode cX4_least 19 = .ok (.aload_n 0, 1) := by decide +kernel
theorem dX4_least_20 : decode cX4_least 20 = .ok (.getfield 13, 3) := by decide +kernel
theorem dX4_least_23 : decode cX4_least 23 = .ok (.iload_n 1, 1) := by decide +kernel
theorem dX4_least_24 : decode cX4_least 24 = .ok (.laload, 1) := by decide +kernel
theorem dX4_least_25 : decode cX4_least 25 = .ok (.lconst 0, 1) := by decide +kernel
theorem dX4_least_26 : decode cX4_least 26 = .ok (.lcmp, 1) := by decide +kernel
theorem dX4_least_27 : decode cX4_least 27 = .ok (.ifCond .ne 9, 3) := by decide +kernel
theorem dX4_least_30 : decode cX4_least 30 = .ok (.iinc 1 1, 3) := by decide +kernel
theorem dX4_least_33 : decode cX4_least 33 = .ok (.goto (-14), 3) := by decide +kernel
theorem dX4_least_36 : decode cX4_least 36 = .ok (.iconst 0, 1) := by decide +kernel
theorem dX4_least_37 : decode cX4_least 37 = .ok (.istore_n 2, 1) := by decide +kernel
theorem dX4_least_38 : decode cX4_least 38 = .ok (.aload_n 0, 1) := by decide +kernel
theorem dX4_least_39 : decode cX4_least 39 = .ok (.getfield 13, 3) := by decide +kernel
theorem dX4_least_42 : decode cX4_least 42 = .ok (.iload_n 1, 1) := by decide +kernel
theorem dX4_least_43 : decode cX4_least 43 = .ok (.laload, 1) := by decide +kernel
theorem dX4_least_44 : decode cX4_least 44 = .ok (.iload_n 2, 1) := by decide +kernel
theorem dX4_least_45 : decode cX4_least 45 = .ok (.lshr, 1) := by decide +kernel
theorem dX4_least_46 : decode cX4_least 46 = .ok (.lconst 1, 1) := by decide +kernel
theorem dX4_least_47 : decode cX4_least 47 = .ok (.land, 1) := by decide +kernel
theorem dX4_least_48 : decode cX4_least 48 = .ok (.lconst 0, 1) := by decide +kernel
theorem dX4_least_49 : decode cX4_least 49 = .ok (.lcmp, 1) := by decide +kernel
theorem dX4_least_50 : decode cX4_least 50 = .ok (.ifCond .ne 9, 3) := by decide +kernel
theorem dX4_least_53 : decode cX4_least 53 = .ok (.iinc 2 1, 3) := by decide +kernel
theorem dX4_least_56 : decode cX4_least 56 = .ok (.goto (-18), 3) := by decide +kernel
theorem dX4_least_59 : decode cX4_least 59 = .ok (.bipush 64, 2) := by decide +kernel
theorem dX4_least_61 : decode cX4_least 61 = .ok (.iload_n 1, 1) := by decide +kernel
theorem dX4_least_62 : decode cX4_least 62 = .ok (.imul, 1) := by decide +kernel
theorem dX4_least_63 : decode cX4_least 63 = .ok (.iload_n 2, 1) := by decide +kernel
theorem dX4_least_64 : decode cX4_least 64 = .ok (.iadd, 1) := by decide +kernel
theorem dX4_least_65 : decode cX4_least 65 = .ok (.ireturn, 1) := by decide +kernel
theorem dX4_implied_0 : decode cX4_implied 0 = .ok (.aload_n 0, 1) := by decide +kernel
theorem dX4_implied_1 : decode cX4_implied 1 = .ok (.iconst 0, 1) := by decide +kernel
theorem dX4_implied_2 : decode cX4_implied 2 = .ok (.putfield 36, 3) := by decide +kernel
theorem dX4_implied_5 : decode cX4_implied 5 = .ok (.aload_n 0, 1) := by decide +kernel
theorem dX4_implied_6 : decode cX4_implied 6 = .ok (.iload_n 1, 1) := by decide +kernel
theorem dX4_implied_7 : decode cX4_implied 7 = .ok (.invokevirtual 65, 3) := by decide +kernel
theorem dX4_implied_10 : decode cX4_implied 10 = .ok (.ifCond .eq 13, 3) := by decide +kernel
theorem dX4_implied_13 : decode cX4_implied 13 = .ok (.aload_n 0, 1) := by decide +kernel
theorem dX4_implied_14 : decode cX4_implied 14 = .ok (.ldc2_w 39, 3) := by decide +kernel
theorem dX4_implied_17 : decode cX4_implied 17 = .ok (.invokevirtual 73, 3) := by decide +kernel
theorem dX4_implied_20 : decode cX4_implied 20 = .ok (.ifCond .ne 5, 3) := by decide +kernel
theorem dX4_implied_23 : decode cX4_implied 23 = .ok (.iconst (-1), 1) := by decide +kernel
theorem dX4_implied_24 : decode cX4_implied 24 = .ok (.ireturn, 1) := by decide +kernel
theorem dX4_implied_25 : decode cX4_implied 25 = .ok (.iconst 1, 1) := by decide +kernel
theorem dX4_implied_26 : decode cX4_implied 26 = .ok (.istore_n 2, 1) := by decide +kernel
theorem dX4_implied_27 : decode cX4_implied 27 = .ok (.iconst 0, 1) := by decide +kernel
theorem dX4_implied_28 : decode cX4_implied 28 = .ok (.istore_n 3, 1) := by decide +kernel
theorem dX4_implied_29 : decode cX4_implied 29 = .ok (.iload_n 3, 1) := by decide +kernel
theorem dX4_implied_30 : decode cX4_implied 30 = .ok (.aload_n 0, 1) := by decide +kernel
theorem dX4_implied_31 : decode cX4_implied 31 = .ok (.getfield 30, 3) := by decide +kernel
theorem dX4_implied_34 : decode cX4_implied 34 = .ok (.if_icmp .ge 41, 3) := by decide +kernel
theorem dX4_implied_37 : decode cX4_implied 37 = .ok (.iload_n 2, 1) := by decide +kernel
theorem dX4_implied_38 : decode cX4_implied 38 = .ok (.ifCond .eq 29, 3) := by decide +kernel
theorem dX4_implied_41 : decode cX4_implied 41 = .ok (.aload_n 0, 1) := by decide +kernel
theorem dX4_implied_42 : decode cX4_implied 42 = .ok (.getfield 13, 3) := by decide +kernel
theorem dX4_implied_45 : decode cX4_implied 45 = .ok (.iload_n 3, 1) := by decide +kernel
theorem dX4_implied_46 : decode cX4_implied 46 = .ok (.laload, 1) := by decide +kernel
theorem dX4_implied_47 : decode cX4_implied 47 = .ok (.aload_n 0, 1) := by decide +kernel
theorem dX4_implied_48 : decode cX4_implied 48 = .ok (.iload_n 1, 1) := by decide +kernel
theorem dX4_implied_49 : decode cX4_implied 49 = .ok (.iload_n 3, 1) := by decide +kernel
theorem dX4_implied_50 : decode cX4_implied 50 = .ok (.invokevirtual 69, 3) := by decide +kernel
theorem dX4_implied_53 : decode cX4_implied 53 = .ok (.ldc2_w 39, 3) := by decide +kernel
theorem dX4_implied_56 : decode cX4_implied 56 = .ok (.lxor, 1) := by decide +kernel
theorem dX4_implied_57 : decode cX4_implied 57 = .ok (.land, 1) := by decide +kernel
theorem dX4_implied_58 : decode cX4_implied 58 = .ok (.lconst 0, 1) := by decide +kernel
theorem dX4_implied_59 : decode cX4_implied 59 = .ok (.lcmp, 1) := by decide +kernel
theorem dX4_implied_60 : decode cX4_implied 60 = .ok (.ifCond .ne 7, 3) := by decide +kernel
theorem dX4_implied_63 : decode cX4_implied 63 = .ok (.iconst 1, 1) := by decide +kernel
theorem dX4_implied_64 : decode cX4_implied 64 = .ok (.goto 4, 3) := by decide +kernel
theorem dX4_implied_67 : decode cX4_implied 67 = .ok (.iconst 0, 1) := by decide +kernel
theorem dX4_implied_68 : decode cX4_implied 68 = .ok (.istore_n 2, 1) := by decide +kernel
theorem dX4_implied_69 : decode cX4_implied 69 = .ok (.iinc 3 1, 3) := by decide +kernel
theorem dX4_implied_72 : decode cX4_implied 72 = .ok (.goto (-43), 3) := by decide +kernel
theorem dX4_implied_75 : decode cX4_implied 75 = .ok (.iload_n 2, 1) := by decide +kernel
theorem dX4_implied_76 : decode cX4_implied 76 = .ok (.ifCond .eq 7, 3) := by decide +kernel
theorem dX4_implied_79 : decode cX4_implied 79 = .ok (.iconst 1, 1) := by decide +kernel
theorem dX4_implied_80 : decode cX4_implied 80 = .ok (.goto 4, 3) := by decide +kernel
theorem dX4_implied_83 : decode cX4_implied 83 = .ok (.iconst 0, 1) := by decide +kernel
theorem dX4_implied_84 : decode cX4_implied 84 = .ok (.ireturn, 1) := by decide +kernel
theorem dX4_core_0 : decode cX4_core 0 = .ok (.aload_n 0, 1) := by decide +kernel
theorem dX4_core_1 : decode cX4_core 1 = .ok (.iconst 0, 1) := by decide +kernel
theorem dX4_core_2 : decode cX4_core 2 = .ok (.putfield 36, 3) := by decide +kernel
theorem dX4_core_5 : decode cX4_core 5 = .ok (.aload_n 0, 1) := by decide +kernel
theorem dX4_core_6 : decode cX4_core 6 = .ok (.ldc2_w 39, 3) := by decide +kernel
theorem dX4_core_9 : decode cX4_core 9 = .ok (.invokevirtual 73, 3) := by decide +kernel
theorem dX4_core_12 : decode cX4_core 12 = .ok (.ifCond .eq 5, 3) := by decide +kernel
theorem dX4_core_15 : decode cX4_core 15 = .ok (.lconst 0, 1) := by decide +kernel
theorem dX4_core_16 : decode cX4_core 16 = .ok (.lreturn, 1) := by decide +kernel
theorem dX4_core_17 : decode cX4_core 17 = .ok (.lconst 1, 1) := by decide +kernel
theorem dX4_core_18 : decode cX4_core 18 = .ok (.aload_n 0, 1) := by decide +kernel
theorem dX4_core_19 : decode cX4_core 19 = .ok (.getfield 50, 3) := by decide +kernel
theorem dX4_core_22 : decode cX4_core 22 = .ok (.lshl, 1) := by decide +kernel
theorem dX4_core_23 : decode cX4_core 23 = .ok (.lconst 1, 1) := by decide +kernel
theorem dX4_core_24 : decode cX4_core 24 = .ok (.lsub, 1) := by decide +kernel
theorem dX4_core_25 : decode cX4_core 25 = .ok (.lstore_n 1, 1) := by decide +kernel
theorem dX4_core_26 : decode cX4_core 26 = .ok (.iconst 0, 1) := by decide +kernel
theorem dX4_core_27 : decode cX4_core 27 = .ok (.istore_n 3, 1) := by decide +kernel
theorem dX4_core_28 : decode cX4_core 28 = .ok (.iload_n 3, 1) := by decide +kernel
theorem dX4_core_29 : decode cX4_core 29 = .ok (.aload_n 0, 1) := by decide +kernel
theorem dX4_core_30 : decode cX4_core 30 = .ok (.getfield 50, 3) := by decide +kernel
theorem dX4_core_33 : decode cX4_core 33 = .ok (.if_icmp .ge 32, 3) := by decide +kernel
theorem dX4_core_36 : decode cX4_core 36 = .ok (.lload_n 1, 1) := by decide +kernel
theorem dX4_core_37 : decode cX4_core 37 = .ok (.lconst 1, 1) := by decide +kernel
theorem dX4_core_38 : decode cX4_core 38 = .ok (.iload_n 3, 1) := by decide +kernel
theorem dX4_core_39 : decode cX4_core 39 = .ok (.lshl, 1) := by decide +kernel
theorem dX4_core_40 : decode cX4_core 40 = .ok (.ldc2_w 39, 3) := by decide +kernel
theorem dX4_core_43 : decode cX4_core 43 = .ok (.lxor, 1) := by decide +kernel
theorem dX4_core_44 : decode cX4_core 44 = .ok (.land, 1) := by decide +kernel
theorem dX4_core_45 : decode cX4_core 45 = .ok (.lstore 4, 2) := by decide +kernel
theorem dX4_core_47 : decode cX4_core 47 = .ok (.aload_n 0, 1) := by decide +kernel
theorem dX4_core_48 : decode cX4_core 48 = .ok (.lload 4, 2) := by decide +kernel
theorem dX4_core_50 : decode cX4_core 50 = .ok (.invokevirtual 73, 3) := by decide +kernel
theorem dX4_core_53 : decode cX4_core 53 = .ok (.ifCond .ne 6, 3) := by decide +kernel
theorem dX4_core_56 : decode cX4_core 56 = .ok (.lload 4, 2) := by decide +kernel
theorem dX4_core_58 : decode cX4_core 58 = .ok (.lstore_n 1, 1) := by decide +kernel
theorem dX4_core_59 : decode cX4_core 59 = .ok (.iinc 3 1, 3) := by decide +kernel
theorem dX4_core_62 : decode cX4_core 62 = .ok (.goto (-34), 3) := by decide +kernel
theorem dX4_core_65 : decode cX4_core 65 = .ok (.lload_n 1, 1) := by decide +kernel
theorem dX4_core_66 : decode cX4_core 66 = .ok (.lreturn, 1) := by decide +kernel
theorem dX4_count_0 : decode cX4_count 0 = .ok (.aload_n 0, 1) := by decide +kernel
theorem dX4_count_1 : decode cX4_count 1 = .ok (.iconst 0, 1) := by decide +kernel
theorem dX4_count_2 : decode cX4_count 2 = .ok (.putfield 36, 3) := by decide +kernel
theorem dX4_count_5 : decode cX4_count 5 = .ok (.iload_n 1, 1) := by decide +kernel
theorem dX4_count_6 : decode cX4_count 6 = .ok (.tableswitch 56 0 4 #[34, 39, 44, 49, 54], 34) := by decide +kernel
theorem dX4_count_40 : decode cX4_count 40 = .ok (.aload_n 0, 1) := by decide +kernel
theorem dX4_count_41 : decode cX4_count 41 = .ok (.getfield 44, 3) := by decide +kernel
theorem dX4_count_44 : decode cX4_count 44 = .ok (.ireturn, 1) := by decide +kernel
theorem dX4_count_45 : decode cX4_count 45 = .ok (.aload_n 0, 1) := by decide +kernel
theorem dX4_count_46 : decode cX4_count 46 = .ok (.getfield 47, 3) := by decide +kernel
theorem dX4_count_49 : decode cX4_count 49 = .ok (.ireturn, 1) := by decide +kernel
theorem dX4_count_50 : decode cX4_count 50 = .ok (.aload_n 0, 1) := by decide +kernel
theorem dX4_count_51 : decode cX4_count 51 = .ok (.getfield 50, 3) := by decide +kernel
theorem dX4_count_54 : decode cX4_count 54 = .ok (.ireturn, 1) := by decide +kernel
theorem dX4_count_55 : decode cX4_count 55 = .ok (.aload_n 0, 1) := by decide +kernel
theorem dX4_count_56 : decode cX4_count 56 = .ok (.getfield 41, 3) := by decide +kernel
theorem dX4_count_59 : decode cX4_count 59 = .ok (.ireturn, 1) := by decide +kernel
theorem dX4_count_60 : decode cX4_count 60 = .ok (.iconst 0, 1) := by decide +kernel
theorem dX4_count_61 : decode cX4_count 61 = .ok (.ireturn, 1) := by decide +kernel
theorem dX4_count_62 : decode cX4_count 62 = .ok (.iconst (-1), 1) := by decide +kernel
theorem dX4_count_63 : decode cX4_count 63 = .ok (.ireturn, 1) := by decide +kernel
theorem dX4_wipe_0 : decode cX4_wipe 0 = .ok (.aload_n 0, 1) := by decide +kernel
theorem dX4_wipe_1 : decode cX4_wipe 1 = .ok (.iconst 0, 1) := by decide +kernel
theorem dX4_wipe_2 : decode cX4_wipe 2 = .ok (.putfield 36, 3) := by decide +kernel
theorem dX4_wipe_5 : decode cX4_wipe 5 = .ok (.aload_n 0, 1) := by decide +kernel
theorem dX4_wipe_6 : decode cX4_wipe 6 = .ok (.invokevirtual 33, 3) := by decide +kernel
theorem dX4_wipe_9 : decode cX4_wipe 9 = .ok (.return_, 1) := by decide +kernel
theorem dX0_clear_0 : decode cX0_clear 0 = .ok (.aload_n 0, 1) := by decide +kernel
theorem dX0_clear_1 : decode cX0_clear 1 = .ok (.iconst 0, 1) := by decide +kernel
theorem dX0_clear_2 : decode cX0_clear 2 = .ok (.putfield 18, 3) := by decide +kernel
theorem dX0_clear_5 : decode cX0_clear 5 = .ok (.aload_n 0, 1) := by decide +kernel
theorem dX0_clear_6 : decode cX0_clear 6 = .ok (.iconst 0, 1) := by decide +kernel
theorem dX0_clear_7 : decode cX0_clear 7 = .ok (.putfield 22, 3) := by decide +kernel
theorem dX0_clear_10 : decode cX0_clear 10 = .ok (.return_, 1) := by decide +kernel
theorem dL_cell_0 : decode cL_cell 0 = .ok (.iload_n 1, 1) := by decide +kernel
theorem dL_cell_1 : decode cL_cell 1 = .ok (.aload_n 0, 1) := by decide +kernel
theorem dL_cell_2 : decode cL_cell 2 = .ok (.arraylength, 1) := by decide +kernel
theorem dL_cell_3 : decode cL_cell 3 = .ok (.if_icmp .ge 9, 3) := by decide +kernel
theorem dL_cell_6 : decode cL_cell 6 = .ok (.aload_n 0, 1) := by decide +kernel
theorem dL_cell_7 : decode cL_cell 7 = .ok (.iload_n 1, 1) := by decide +kernel
theorem dL_cell_8 : decode cL_cell 8 = .ok (.iaload, 1) := by decide +kernel
theorem dL_cell_9 : decode cL_cell 9 = .ok (.goto 4, 3) := by decide +kernel
theorem dL_cell_12 : decode cL_cell 12 = .ok (.iconst 0, 1) := by decide +kernel
theorem dL_cell_13 : decode cL_cell 13 = .ok (.ireturn, 1) := by decide +kernel
end
section
/-! the nest mates' fields: words that a state keeps -/
def ksN : List Cond := [.fieldLinkNest RX2 46 "LessonSolver$ClauseRow" "plus" "[I" "LessonSolver", .fieldLinkNest RX2 49 "LessonSolver$ClauseRow" "minus" "[I" "LessonSolver", .fieldLinkNest RX2 41 "LessonSolver$ClauseRow" "size" "I" "LessonSolver", .fieldLinkNest RX1 56 "LessonSolver$Trail" "length" "I" "LessonSolver", .fieldLinkNest RX1 53 "LessonSolver$Trail" "ones" "I" "LessonSolver", .fieldLinkNest RX1 69 "LessonSolver$Trail" "zeros" "I" "LessonSolver", .fieldLinkNest RX3 80 "LessonSolver$Search" "lapses" "I" "LessonSolver"]
def ks_NW (U : State) : Prop := ∀ w ∈ ksN, va_Nw w U
theorem ksN_f : ∀ w ∈ ksN, ∃ a i b n d h, w = Cond.fieldLinkNest a i b n d h := by
  intro w hw
  simp only [ksN, List.mem_cons, List.not_mem_nil, or_false] at hw
  rcases hw with rfl | rfl | rfl | rfl | rfl | rfl | rfl <;> exact ⟨_, _, _, _, _, _, rfl⟩
theorem ks_NW.warm {s U : State} (hW : s.WarmedH U.vm) (h : ks_NW s) : ks_NW U := fun w hw => by
  obtain ⟨a, i, b, n, d, h9, rfl⟩ := ksN_f w hw
  exact va_Nw.warmF hW (h _ hw)
theorem ks_NW.same {s U : State} (e : s.vm = U.vm) (h : ks_NW s) : ks_NW U := fun w hw => by
  obtain ⟨a, i, b, n, d, h9, rfl⟩ := ksN_f w hw
  exact va_Nw.same rfl e (h _ hw)
/-! rows over the worlds: elements at a known place, contracts in one form, calls with the frame rule done once -/
section KS
variable {p : Program} {l : Launch} {e : Env} {R : Room} {s : State} {m : MethodId} {args : Array Value} {below : List Frame} {meth : Method} {c : Code} {H : Heap} {locs : List Loc} {cells slots : Nat} {Q : State → Prop} {cc : ByteArray} {pc : Nat} {ls : Array Slot} {rest : List Value} {D : va_G} {tys : List (ClassId × FieldType)} {ws : va_W} {A : Nat → Prop} {H0 : Heap}
theorem ks_top {x y : Int32} (h : x = y) (k : W p l e R s m args below meth c H locs cells slots Q (F0 m pc ls (.int y :: rest))) : W p l e R s m args below meth c H locs cells slots Q (F0 m pc ls (.int x :: rest)) := by
  rw [h]; exact k
theorem ks_topl {x y : Int64} (h : x = y) (k : W p l e R s m args below meth c H locs cells slots Q (F0 m pc ls (.long y :: rest))) : W p l e R s m args below meth c H locs cells slots Q (F0 m pc ls (.long x :: rest)) := by
  rw [h]; exact k
theorem ks_ald (hexec : p.tables.exec = Jvm.exec) (hb : c.code = cc) (hK : va_K D ksCl tys s) (hP : va_P D ksCl ws H) (q0 t0 : Nat) {a : Nat} {cA : ClassId} {n : Nat} {f : Nat → Int32} (ha : ws[q0]? = some (a, .inl (cA, n, .inl f))) (ht : tys[t0]? = some (cA, .int)) {j : Nat} (hj : j < n) (hn : n < 2 ^ 31) (hdg : decode cc pc = .ok (.iaload, 1)) (kk : W p l e R s m args below meth c H locs cells slots Q (F0 m (pc + 1) ls (.int (f j) :: rest))) : W p l e R s m args below meth c H locs cells slots Q (F0 m pc ls (.int (nI j) :: .ref a :: rest)) :=
  va_iald hexec hb hK hP q0 t0 ha ht (vp_in_nI hj hn) hdg (by rw [nI_clamp (Nat.lt_trans hj hn)]; exact kk)
theorem ks_ast (hexec : p.tables.exec = Jvm.exec) (hb : c.code = cc) (hK : va_K D ksCl tys s) (hP : va_P D ksCl ws H) (hD : va_D A ws) (hS : va_S A H0 H locs) (q0 t0 : Nat) {a : Nat} {cA : ClassId} {n : Nat} {f : Nat → Int32} (ha : ws[q0]? = some (a, .inl (cA, n, .inl f))) (ht : tys[t0]? = some (cA, .int)) {j : Nat} {x : Int32} (hj : j < n) (hn : n < 2 ^ 31) (hdg : decode cc pc = .ok (.iastore, 1)) (kk : ∀ (H1 : Heap) (locs1 : List Loc), va_P D ksCl (ws.set q0 (a, .inl (cA, n, .inl (upd f j x)))) H1 → va_D A (ws.set q0 (a, .inl (cA, n, .inl (upd f j x)))) → va_S A H0 H1 locs1 → W p l e R s m args below meth c H1 locs1 cells slots Q (F0 m (pc + 1) ls rest)) : W p l e R s m args below meth c H locs cells slots Q (F0 m pc ls (.int x :: .int (nI j) :: .ref a :: rest)) :=
  va_iast hexec hb hK hP hD hS q0 t0 ha ht (vp_in_nI hj hn) hdg (fun H1 l1 a1 a2 a3 => by rw [nI_clamp (Nat.lt_trans hj hn)] at a1 a2; exact kk H1 l1 a1 a2 a3)
/-- a contract's start and end in one form -/
abbrev ks_pre (D : va_G) (sz : Nat) (ws : va_W) (tys : List (ClassId × FieldType)) (U : State) : Prop := U.heap.size = sz ∧ va_P D ksCl ws U.heap ∧ va_K D ksCl tys U ∧ va_D (fun _ => True) ws ∧ ks_NW U
abbrev ks_B (D : va_G) (A : Nat → Prop) (ws : va_W) (tys : List (ClassId × FieldType)) (t : State) : Prop := va_P D ksCl ws t.heap ∧ va_K D ksCl tys t ∧ va_D A ws
abbrev ks_Mi (l : Launch) (y : MethodName) (wy : List Cond) (rm : Room) (D : va_G) (av : List Value) (ws : va_W) (tys : List (ClassId × FieldType)) (mc ms : Nat) {S : Type} (post : Int32 → S → Prop) (w' : S → va_W) (t' : S → List (ClassId × FieldType)) : Prop :=
  ∀ sz : Nat, Met l y wy rm (va_Pc av (ks_pre D sz ws tys)) (va_Qi post (fun u t => ks_B D (va_A ws sz) (w' u) (t' u) t) (va_A ws sz)) mc ms (va_A ws sz)
abbrev ks_Ml (l : Launch) (y : MethodName) (wy : List Cond) (rm : Room) (D : va_G) (av : List Value) (ws : va_W) (tys : List (ClassId × FieldType)) (mc ms : Nat) {S : Type} (post : Int64 → S → Prop) (w' : S → va_W) (t' : S → List (ClassId × FieldType)) : Prop :=
  ∀ sz : Nat, Met l y wy rm (va_Pc av (ks_pre D sz ws tys)) (va_Ql post (fun u t => ks_B D (va_A ws sz) (w' u) (t' u) t) (va_A ws sz)) mc ms (va_A ws sz)
abbrev ks_Mv (l : Launch) (y : MethodName) (wy : List Cond) (rm : Room) (D : va_G) (av : List Value) (ws : va_W) (tys : List (ClassId × FieldType)) (mc ms : Nat) {S : Type} (post : S → Prop) (w' : S → va_W) (t' : S → List (ClassId × FieldType)) : Prop :=
  ∀ sz : Nat, Met l y wy rm (va_Pc av (ks_pre D sz ws tys)) (va_Qv post (fun u t => ks_B D (va_A ws sz) (w' u) (t' u) t) (va_A ws sz)) mc ms (va_A ws sz)
variable {S : Type} {w' wz : S → va_W} {t' : S → List (ClassId × FieldType)} {y : MethodName} {wy Ts : List Cond} {rm : Room} {mc ms n index maxL nL ci q0 b : Nat} {bytes : ByteArray} {ret : Option FieldType} {own C : String} {As st0 : List Value} {wc wr : va_W} {tc : List (ClassId × FieldType)} {q : vw_C} {fs : List Value}
theorem ks_calliV {post : Int32 → S → Prop} (F : CallFix p m c cc nL s args Ts own) (hM : ks_Mi l y wy rm D (.ref b :: As) wc tc mc ms post w' t') (cw : CallW R s args own C index y bytes maxL ret wy rm mc ms n)
    (hK : va_K D ksCl tys s) (hP : va_P D ksCl ws H) (hD : va_D A ws) (hS : va_S A H0 H locs) (hA : ∀ q, H0.size ≤ q → A q) (hNW : ks_NW s)
    (isC isR tC pm : List Nat) (hC : isC.map (fun i => ws[i]?) = wc.map some) (hC' : isC.filterMap (fun i => ws[i]?) = wc) (hR : isR.map (fun i => ws[i]?) = wr.map some) (hT : tC.filterMap (fun i => tys[i]?) = tc) (hn1 : va_nd isC = true) (hn2 : va_nd isR = true) (hdis : ∀ i ∈ isR, i ∉ isC)
    (hci : ksCl[ci]? = some q) (hq : q.1 = C) (he : wc[q0]? = some (b, .inr (ci, fs))) (hz : ∀ u, pm.map (fun i => (wr ++ w' u)[i]?) = (wz u).map some) (hz' : ∀ u, pm.filterMap (fun i => (wr ++ w' u)[i]?) = wz u) (hn3 : va_nd pm = true)
    (hn : As.length = n) (hsize : ls.size = nL) (hst : st0 = As.reverse ++ .ref b :: rest) (hroom : (rest.map fun v => v.category).sum ≤ 8) (hdg : decode cc pc = .ok (.invokevirtual index, 3)) (hf : cells + mc ≤ R.cells ∧ slots + ms ≤ R.slots)
    (kk : ∀ (r : Int32) (u : S) (H1 : Heap) (locs1 : List Loc), post r u → va_K D ksCl (tys ++ t' u) s → va_P D ksCl (wz u) H1 → va_D A (wz u) → va_S A H0 H1 locs1 → W p l e R s m args below meth c H1 locs1 (cells + mc) (slots + ms) Q (F0 m (pc + 3) ls (.int r :: rest))) :
    W p l e R s m args below meth c H locs cells slots Q (F0 m pc ls st0) := by
  have hPc : va_P D ksCl wc H := hP.sub isC hC'
  have hDc := hD.sub isC hn1 hC
  have hKc := hK.sub tC hT
  have hFc := va_free hD hS hA isC hC
  refine va_calli (va_runV (As := As) (rest := rest) F (hM H.size) cw ⟨fun a U g mk q => by obtain ⟨q0, q1, qP, qK, qD, qN⟩ := q; exact ⟨q0, q1, qP, va_K.moved (u := U) (U := U.calling g mk a) (Vm.Alike.refl U.vm) qK, qD, ks_NW.same (s := U) (U := U.calling g mk a) rfl qN⟩, by have h9 := va_recv hKc hPc hci he; rw [hq] at h9; exact h9, fun U hU hW => ⟨rfl, by rw [hU], by rw [hU]; exact hPc, va_K.moved hW.alike hKc, hDc.weaken (fun _ _ _ _ => trivial), ks_NW.warm hW hNW⟩⟩ rfl hn hsize hst (lv_room hroom) hdg hf) hS (fun q _ h => hFc q h) hFc (fun r u t H1 locs1 ht hvm hw hB hz1 hk1 hS1 => ?_)
  obtain ⟨hP1, hK1, hD1⟩ := hB
  rw [ht] at hP1
  have hK1 := va_K.moved hvm.symm hK1
  obtain ⟨hP2, hD2⟩ := va_join hP hD isC isR hC hR hn2 hdis hk1 hFc hP1 hD1
  exact kk r u H1 locs1 hw (hK.app hK1) (hP2.sub pm (hz' u)) (hD2.sub pm hn3 (hz u)) hS1
theorem ks_calllV {post : Int64 → S → Prop} (F : CallFix p m c cc nL s args Ts own) (hM : ks_Ml l y wy rm D (.ref b :: As) wc tc mc ms post w' t') (cw : CallW R s args own C index y bytes maxL ret wy rm mc ms n)
    (hK : va_K D ksCl tys s) (hP : va_P D ksCl ws H) (hD : va_D A ws) (hS : va_S A H0 H locs) (hA : ∀ q, H0.size ≤ q → A q) (hNW : ks_NW s)
    (isC isR tC pm : List Nat) (hC : isC.map (fun i => ws[i]?) = wc.map some) (hC' : isC.filterMap (fun i => ws[i]?) = wc) (hR : isR.map (fun i => ws[i]?) = wr.map some) (hT : tC.filterMap (fun i => tys[i]?) = tc) (hn1 : va_nd isC = true) (hn2 : va_nd isR = true) (hdis : ∀ i ∈ isR, i ∉ isC)
    (hci : ksCl[ci]? = some q) (hq : q.1 = C) (he : wc[q0]? = some (b, .inr (ci, fs))) (hz : ∀ u, pm.map (fun i => (wr ++ w' u)[i]?) = (wz u).map some) (hz' : ∀ u, pm.filterMap (fun i => (wr ++ w' u)[i]?) = wz u) (hn3 : va_nd pm = true)
    (hn : As.length = n) (hsize : ls.size = nL) (hst : st0 = As.reverse ++ .ref b :: rest) (hroom : (rest.map fun v => v.category).sum ≤ 8) (hdg : decode cc pc = .ok (.invokevirtual index, 3)) (hf : cells + mc ≤ R.cells ∧ slots + ms ≤ R.slots)
    (kk : ∀ (r : Int64) (u : S) (H1 : Heap) (locs1 : List Loc), post r u → va_K D ksCl (tys ++ t' u) s → va_P D ksCl (wz u) H1 → va_D A (wz u) → va_S A H0 H1 locs1 → W p l e R s m args below meth c H1 locs1 (cells + mc) (slots + ms) Q (F0 m (pc + 3) ls (.long r :: rest))) :
    W p l e R s m args below meth c H locs cells slots Q (F0 m pc ls st0) := by
  have hPc : va_P D ksCl wc H := hP.sub isC hC'
  have hDc := hD.sub isC hn1 hC
  have hKc := hK.sub tC hT
  have hFc := va_free hD hS hA isC hC
  refine va_calll (va_runV (As := As) (rest := rest) F (hM H.size) cw ⟨fun a U g mk q => by obtain ⟨q0, q1, qP, qK, qD, qN⟩ := q; exact ⟨q0, q1, qP, va_K.moved (u := U) (U := U.calling g mk a) (Vm.Alike.refl U.vm) qK, qD, ks_NW.same (s := U) (U := U.calling g mk a) rfl qN⟩, by have h9 := va_recv hKc hPc hci he; rw [hq] at h9; exact h9, fun U hU hW => ⟨rfl, by rw [hU], by rw [hU]; exact hPc, va_K.moved hW.alike hKc, hDc.weaken (fun _ _ _ _ => trivial), ks_NW.warm hW hNW⟩⟩ rfl hn hsize hst (lv_room hroom) hdg hf) hS (fun q _ h => hFc q h) hFc (fun r u t H1 locs1 ht hvm hw hB hz1 hk1 hS1 => ?_)
  obtain ⟨hP1, hK1, hD1⟩ := hB
  rw [ht] at hP1
  have hK1 := va_K.moved hvm.symm hK1
  obtain ⟨hP2, hD2⟩ := va_join hP hD isC isR hC hR hn2 hdis hk1 hFc hP1 hD1
  exact kk r u H1 locs1 hw (hK.app hK1) (hP2.sub pm (hz' u)) (hD2.sub pm hn3 (hz u)) hS1
theorem ks_callvV {post : S → Prop} (F : CallFix p m c cc nL s args Ts own) (hM : ks_Mv l y wy rm D (.ref b :: As) wc tc mc ms post w' t') (cw : CallW R s args own C index y bytes maxL ret wy rm mc ms n)
    (hK : va_K D ksCl tys s) (hP : va_P D ksCl ws H) (hD : va_D A ws) (hS : va_S A H0 H locs) (hA : ∀ q, H0.size ≤ q → A q) (hNW : ks_NW s)
    (isC isR tC pm : List Nat) (hC : isC.map (fun i => ws[i]?) = wc.map some) (hC' : isC.filterMap (fun i => ws[i]?) = wc) (hR : isR.map (fun i => ws[i]?) = wr.map some) (hT : tC.filterMap (fun i => tys[i]?) = tc) (hn1 : va_nd isC = true) (hn2 : va_nd isR = true) (hdis : ∀ i ∈ isR, i ∉ isC)
    (hci : ksCl[ci]? = some q) (hq : q.1 = C) (he : wc[q0]? = some (b, .inr (ci, fs))) (hz : ∀ u, pm.map (fun i => (wr ++ w' u)[i]?) = (wz u).map some) (hz' : ∀ u, pm.filterMap (fun i => (wr ++ w' u)[i]?) = wz u) (hn3 : va_nd pm = true)
    (hn : As.length = n) (hsize : ls.size = nL) (hst : st0 = As.reverse ++ .ref b :: rest) (hroom : (rest.map fun v => v.category).sum ≤ 8) (hdg : decode cc pc = .ok (.invokevirtual index, 3)) (hf : cells + mc ≤ R.cells ∧ slots + ms ≤ R.slots)
    (kk : ∀ (u : S) (H1 : Heap) (locs1 : List Loc), post u → va_K D ksCl (tys ++ t' u) s → va_P D ksCl (wz u) H1 → va_D A (wz u) → va_S A H0 H1 locs1 → W p l e R s m args below meth c H1 locs1 (cells + mc) (slots + ms) Q (F0 m (pc + 3) ls (rest))) :
    W p l e R s m args below meth c H locs cells slots Q (F0 m pc ls st0) := by
  have hPc : va_P D ksCl wc H := hP.sub isC hC'
  have hDc := hD.sub isC hn1 hC
  have hKc := hK.sub tC hT
  have hFc := va_free hD hS hA isC hC
  refine va_callv (va_runV (As := As) (rest := rest) F (hM H.size) cw ⟨fun a U g mk q => by obtain ⟨q0, q1, qP, qK, qD, qN⟩ := q; exact ⟨q0, q1, qP, va_K.moved (u := U) (U := U.calling g mk a) (Vm.Alike.refl U.vm) qK, qD, ks_NW.same (s := U) (U := U.calling g mk a) rfl qN⟩, by have h9 := va_recv hKc hPc hci he; rw [hq] at h9; exact h9, fun U hU hW => ⟨rfl, by rw [hU], by rw [hU]; exact hPc, va_K.moved hW.alike hKc, hDc.weaken (fun _ _ _ _ => trivial), ks_NW.warm hW hNW⟩⟩ rfl hn hsize hst (lv_room hroom) hdg hf) hS (fun q _ h => hFc q h) hFc (fun u t H1 locs1 ht hvm hw hB hz1 hk1 hS1 => ?_)
  obtain ⟨hP1, hK1, hD1⟩ := hB
  rw [ht] at hP1
  have hK1 := va_K.moved hvm.symm hK1
  obtain ⟨hP2, hD2⟩ := va_join hP hD isC isR hC hR hn2 hdis hk1 hFc hP1 hD1
  exact kk u H1 locs1 hw (hK.app hK1) (hP2.sub pm (hz' u)) (hD2.sub pm hn3 (hz u)) hS1
theorem ks_calliN {post : Int32 → S → Prop} (F : CallFix p m c cc nL s args Ts own) (hM : ks_Mi l y wy rm D (.ref b :: As) wc tc mc ms post w' t') {host : String} (cw : va_CN R s args own index y host bytes maxL ret wy rm mc ms n ∧ (Cond.instanceMethod y).before args s = true ∧ (Cond.selects C y y).before args s = true)
    (hK : va_K D ksCl tys s) (hP : va_P D ksCl ws H) (hD : va_D A ws) (hS : va_S A H0 H locs) (hA : ∀ q, H0.size ≤ q → A q) (hNW : ks_NW s)
    (isC isR tC pm : List Nat) (hC : isC.map (fun i => ws[i]?) = wc.map some) (hC' : isC.filterMap (fun i => ws[i]?) = wc) (hR : isR.map (fun i => ws[i]?) = wr.map some) (hT : tC.filterMap (fun i => tys[i]?) = tc) (hn1 : va_nd isC = true) (hn2 : va_nd isR = true) (hdis : ∀ i ∈ isR, i ∉ isC)
    (hci : ksCl[ci]? = some q) (hq : q.1 = C) (he : wc[q0]? = some (b, .inr (ci, fs))) (hz : ∀ u, pm.map (fun i => (wr ++ w' u)[i]?) = (wz u).map some) (hz' : ∀ u, pm.filterMap (fun i => (wr ++ w' u)[i]?) = wz u) (hn3 : va_nd pm = true)
    (hn : As.length = n) (hsize : ls.size = nL) (hst : st0 = As.reverse ++ .ref b :: rest) (hroom : (rest.map fun v => v.category).sum ≤ 8) (hdg : decode cc pc = .ok (.invokevirtual index, 3)) (hf : cells + mc ≤ R.cells ∧ slots + ms ≤ R.slots)
    (kk : ∀ (r : Int32) (u : S) (H1 : Heap) (locs1 : List Loc), post r u → va_K D ksCl (tys ++ t' u) s → va_P D ksCl (wz u) H1 → va_D A (wz u) → va_S A H0 H1 locs1 → W p l e R s m args below meth c H1 locs1 (cells + mc) (slots + ms) Q (F0 m (pc + 3) ls (.int r :: rest))) :
    W p l e R s m args below meth c H locs cells slots Q (F0 m pc ls st0) := by
  have hPc : va_P D ksCl wc H := hP.sub isC hC'
  have hDc := hD.sub isC hn1 hC
  have hKc := hK.sub tC hT
  have hFc := va_free hD hS hA isC hC
  refine va_calli (va_runVN (As := As) (rest := rest) F (hM H.size) cw ⟨fun a U g mk q => by obtain ⟨q0, q1, qP, qK, qD, qN⟩ := q; exact ⟨q0, q1, qP, va_K.moved (u := U) (U := U.calling g mk a) (Vm.Alike.refl U.vm) qK, qD, ks_NW.same (s := U) (U := U.calling g mk a) rfl qN⟩, by have h9 := va_recv hKc hPc hci he; rw [hq] at h9; exact h9, fun U hU hW => ⟨rfl, by rw [hU], by rw [hU]; exact hPc, va_K.moved hW.alike hKc, hDc.weaken (fun _ _ _ _ => trivial), ks_NW.warm hW hNW⟩⟩ rfl hn hsize hst (lv_room hroom) hdg hf) hS (fun q _ h => hFc q h) hFc (fun r u t H1 locs1 ht hvm hw hB hz1 hk1 hS1 => ?_)
  obtain ⟨hP1, hK1, hD1⟩ := hB
  rw [ht] at hP1
  have hK1 := va_K.moved hvm.symm hK1
  obtain ⟨hP2, hD2⟩ := va_join hP hD isC isR hC hR hn2 hdis hk1 hFc hP1 hD1
  exact kk r u H1 locs1 hw (hK.app hK1) (hP2.sub pm (hz' u)) (hD2.sub pm hn3 (hz u)) hS1
theorem ks_callvN {post : S → Prop} (F : CallFix p m c cc nL s args Ts own) (hM : ks_Mv l y wy rm D (.ref b :: As) wc tc mc ms post w' t') {host : String} (cw : va_CN R s args own index y host bytes maxL ret wy rm mc ms n ∧ (Cond.instanceMethod y).before args s = true ∧ (Cond.selects C y y).before args s = true)
    (hK : va_K D ksCl tys s) (hP : va_P D ksCl ws H) (hD : va_D A ws) (hS : va_S A H0 H locs) (hA : ∀ q, H0.size ≤ q → A q) (hNW : ks_NW s)
    (isC isR tC pm : List Nat) (hC : isC.map (fun i => ws[i]?) = wc.map some) (hC' : isC.filterMap (fun i => ws[i]?) = wc) (hR : isR.map (fun i => ws[i]?) = wr.map some) (hT : tC.filterMap (fun i => tys[i]?) = tc) (hn1 : va_nd isC = true) (hn2 : va_nd isR = true) (hdis : ∀ i ∈ isR, i ∉ isC)
    (hci : ksCl[ci]? = some q) (hq : q.1 = C) (he : wc[q0]? = some (b, .inr (ci, fs))) (hz : ∀ u, pm.map (fun i => (wr ++ w' u)[i]?) = (wz u).map some) (hz' : ∀ u, pm.filterMap (fun i => (wr ++ w' u)[i]?) = wz u) (hn3 : va_nd pm = true)
    (hn : As.length = n) (hsize : ls.size = nL) (hst : st0 = As.reverse ++ .ref b :: rest) (hroom : (rest.map fun v => v.category).sum ≤ 8) (hdg : decode cc pc = .ok (.invokevirtual index, 3)) (hf : cells + mc ≤ R.cells ∧ slots + ms ≤ R.slots)
    (kk : ∀ (u : S) (H1 : Heap) (locs1 : List Loc), post u → va_K D ksCl (tys ++ t' u) s → va_P D ksCl (wz u) H1 → va_D A (wz u) → va_S A H0 H1 locs1 → W p l e R s m args below meth c H1 locs1 (cells + mc) (slots + ms) Q (F0 m (pc + 3) ls (rest))) :
    W p l e R s m args below meth c H locs cells slots Q (F0 m pc ls st0) := by
  have hPc : va_P D ksCl wc H := hP.sub isC hC'
  have hDc := hD.sub isC hn1 hC
  have hKc := hK.sub tC hT
  have hFc := va_free hD hS hA isC hC
  refine va_callv (va_runVN (As := As) (rest := rest) F (hM H.size) cw ⟨fun a U g mk q => by obtain ⟨q0, q1, qP, qK, qD, qN⟩ := q; exact ⟨q0, q1, qP, va_K.moved (u := U) (U := U.calling g mk a) (Vm.Alike.refl U.vm) qK, qD, ks_NW.same (s := U) (U := U.calling g mk a) rfl qN⟩, by have h9 := va_recv hKc hPc hci he; rw [hq] at h9; exact h9, fun U hU hW => ⟨rfl, by rw [hU], by rw [hU]; exact hPc, va_K.moved hW.alike hKc, hDc.weaken (fun _ _ _ _ => trivial), ks_NW.warm hW hNW⟩⟩ rfl hn hsize hst (lv_room hroom) hdg hf) hS (fun q _ h => hFc q h) hFc (fun u t H1 locs1 ht hvm hw hB hz1 hk1 hS1 => ?_)
  obtain ⟨hP1, hK1, hD1⟩ := hB
  rw [ht] at hP1
  have hK1 := va_K.moved hvm.symm hK1
  obtain ⟨hP2, hD2⟩ := va_join hP hD isC isR hC hR hn2 hdis hk1 hFc hP1 hD1
  exact kk u H1 locs1 hw (hK.app hK1) (hP2.sub pm (hz' u)) (hD2.sub pm hn3 (hz u)) hS1
theorem ks_callvI {post : S → Prop} (F : CallFix p m c cc nL s args Ts own) (hM : ks_Mv l y wy rm D (.ref b :: As) wc tc mc ms post w' t') (cw : CallB R s args own index y bytes maxL none wy rm mc ms n ∧ y.name = "<init>" ∧ (Cond.instanceMethod y).before args s = true)
    (hK : va_K D ksCl tys s) (hP : va_P D ksCl ws H) (hD : va_D A ws) (hS : va_S A H0 H locs) (hA : ∀ q, H0.size ≤ q → A q) (hNW : ks_NW s)
    (isC isR tC pm : List Nat) (hC : isC.map (fun i => ws[i]?) = wc.map some) (hC' : isC.filterMap (fun i => ws[i]?) = wc) (hR : isR.map (fun i => ws[i]?) = wr.map some) (hT : tC.filterMap (fun i => tys[i]?) = tc) (hn1 : va_nd isC = true) (hn2 : va_nd isR = true) (hdis : ∀ i ∈ isR, i ∉ isC)
    (hz : ∀ u, pm.map (fun i => (wr ++ w' u)[i]?) = (wz u).map some) (hz' : ∀ u, pm.filterMap (fun i => (wr ++ w' u)[i]?) = wz u) (hn3 : va_nd pm = true)
    (hn : As.length = n) (hsize : ls.size = nL) (hst : st0 = As.reverse ++ .ref b :: rest) (hroom : (rest.map fun v => v.category).sum ≤ 8) (hdg : decode cc pc = .ok (.invokespecial index, 3)) (hf : cells + mc ≤ R.cells ∧ slots + ms ≤ R.slots)
    (kk : ∀ (u : S) (H1 : Heap) (locs1 : List Loc), post u → va_K D ksCl (tys ++ t' u) s → va_P D ksCl (wz u) H1 → va_D A (wz u) → va_S A H0 H1 locs1 → W p l e R s m args below meth c H1 locs1 (cells + mc) (slots + ms) Q (F0 m (pc + 3) ls (rest))) :
    W p l e R s m args below meth c H locs cells slots Q (F0 m pc ls st0) := by
  have hPc : va_P D ksCl wc H := hP.sub isC hC'
  have hDc := hD.sub isC hn1 hC
  have hKc := hK.sub tC hT
  have hFc := va_free hD hS hA isC hC
  refine va_callv (va_runI (As := As) (rest := rest) F (hM H.size) cw ⟨fun a U g mk q => by obtain ⟨q0, q1, qP, qK, qD, qN⟩ := q; exact ⟨q0, q1, qP, va_K.moved (u := U) (U := U.calling g mk a) (Vm.Alike.refl U.vm) qK, qD, ks_NW.same (s := U) (U := U.calling g mk a) rfl qN⟩, fun U hU hW => ⟨rfl, by rw [hU], by rw [hU]; exact hPc, va_K.moved hW.alike hKc, hDc.weaken (fun _ _ _ _ => trivial), ks_NW.warm hW hNW⟩⟩ rfl hn hsize hst (lv_room hroom) hdg hf) hS (fun q _ h => hFc q h) hFc (fun u t H1 locs1 ht hvm hw hB hz1 hk1 hS1 => ?_)
  obtain ⟨hP1, hK1, hD1⟩ := hB
  rw [ht] at hP1
  have hK1 := va_K.moved hvm.symm hK1
  obtain ⟨hP2, hD2⟩ := va_join hP hD isC isR hC hR hn2 hdis hk1 hFc hP1 hD1
  exact kk u H1 locs1 hw (hK.app hK1) (hP2.sub pm (hz' u)) (hD2.sub pm hn3 (hz u)) hS1
end KS
end
section
set_option maxHeartbeats 4000000 in
set_option maxRecDepth 100000 in
/-- assign: a place more -/
theorem ks_assign (l : Launch) (dC : Nat → ClassId) (dI : Nat → Nat → Nat) (ta tb tr : Nat) (cB cR : ClassId) (B Rs : Nat → Int32) (k : Nat) (o z f r : Int32) (v : Bool) (hk : k < 16) : ks_Mv l yX2_assign wsX2_assign ({ frames := 0, cells := 0, slots := 0, locals := 0 }) (dC, dI) [.ref ta, .int f, .int (ks_b v), .int r] [(ta, .inr (2, [.ref tb, .ref tr, .int (nI k), .int o, .int z])), (tb, .inl (cB, 16, .inl B)), (tr, .inl (cR, 16, .inl Rs))] [(cB, .int), (cR, .int)] 0 0 (S := Unit) (fun _ => True) (fun _ => [(ta, .inr (2, [.ref tb, .ref tr, .int (nI (k + 1)), .int (if v = true then o ||| f else o), .int (if v = true then z else z ||| f)])), (tb, .inl (cB, 16, .inl (upd B k f))), (tr, .inl (cR, 16, .inl (upd Rs k r)))]) (fun _ => [(cB, .int), (cR, .int)]) := by
  intro sz
  refine Met.ofW (cc := cX2_assign) (maxL := 4) (ret := none) (by decide) rfl ?_
  intro p e s m args below meth c s₁ B9 hml hv
  obtain ⟨rfl, hsz, hP, hK, hD0, hNW⟩ := hv
  have hx := B9.exec
  have hb := B9.bytes
  have hr := B9.returns
  have hts := atoms_spec (ws := wsX2_assign) B9.pre
  have hown : s.vm.findClass RX2 = some m.cls := findClass_of_methodNamed B9.named
  have hlocks := B9.notSynchronized
  subst hsz
  have hD := hD0.self (sz := s.heap.size)
  generalize hAe : va_A [(ta, .inr (2, [.ref tb, .ref tr, .int (nI k), .int o, .int z])), (tb, .inl (cB, 16, .inl B)), (tr, .inl (cR, 16, .inl Rs))] s.heap.size = A at hD ⊢
  have hA : ∀ q : Nat, s.heap.size ≤ q → A q := fun q h => by rw [← hAe]; exact Or.inr h
  have hS : va_S A s.heap s.heap [] := va_S.rf
  have hiX2 : ∀ w ∈ u_ws RX2 TX2 5, w ∈ wsX2_assign := by decide +kernel
  have f9 := hts (.fieldLink RX2 9 "LessonSolver$Trail" "bits" "[I") (by decide +kernel)
  have f15 := hts (.fieldLink RX2 15 "LessonSolver$Trail" "reasons" "[I") (by decide +kernel)
  have f18 := hts (.fieldLink RX2 18 "LessonSolver$Trail" "length" "I") (by decide +kernel)
  have f22 := hts (.fieldLink RX2 22 "LessonSolver$Trail" "ones" "I") (by decide +kernel)
  have f25 := hts (.fieldLink RX2 25 "LessonSolver$Trail" "zeros" "I") (by decide +kernel)
  have hl := lv_entry ([.ref ta, .int f, .int (ks_b v), .int r]) (n := 4) (Nat.le_of_ble_eq_true rfl)
  rw [lg_entry_eq]
  generalize (lg_sl ([.ref ta, .int f, .int (ks_b v), .int r]) ++ List.replicate (4 - (lg_sl ([.ref ta, .int f, .int (ks_b v), .int r])).length) Slot.unset).toArray = ls at hl ⊢
  have hl : lv_has ls 4 [(0, .ref ta), (1, .int f), (2, .int (ks_b v)), (3, .int r)] := hl
  refine lv_aload_n hx hb dX2_assign_0 rfl (lv_at hl 0 rfl) ?_
  refine va_get (D := (dC, dI)) (ci := 2) (v := .int (nI k)) (C := RX2) (T := TX2) (N := 5) hx hb hts hiX2 hown hK hP 0 rfl rfl 2 (by decide) f18 (fun _ h9 => h9) rfl dX2_assign_1 ?_
  refine lv_aload_n hx hb dX2_assign_4 rfl (lv_at hl 0 rfl) ?_
  refine va_get (D := (dC, dI)) (ci := 2) (v := .ref tb) (C := RX2) (T := TX2) (N := 5) hx hb hts hiX2 hown hK hP 0 rfl rfl 0 (by decide) f9 (fun _ h9 => h9) rfl dX2_assign_5 ?_
  refine va_alen (v := nI 16) hx hb hK hP 1 0 rfl rfl rfl dX2_assign_8 ?_
  refine lv_icmp_lt (tgt := 13) hx hb dX2_assign_9 (by decide) (fun c9 => ?_) (fun c9 => absurd (nI_lt hk (by decide)) c9)
  refine lv_aload_n hx hb dX2_assign_13 rfl (lv_at hl 0 rfl) ?_
  refine va_get (D := (dC, dI)) (ci := 2) (v := .ref tb) (C := RX2) (T := TX2) (N := 5) hx hb hts hiX2 hown hK hP 0 rfl rfl 0 (by decide) f9 (fun _ h9 => h9) rfl dX2_assign_14 ?_
  refine lv_aload_n hx hb dX2_assign_17 rfl (lv_at hl 0 rfl) ?_
  refine va_get (D := (dC, dI)) (ci := 2) (v := .int (nI k)) (C := RX2) (T := TX2) (N := 5) hx hb hts hiX2 hown hK hP 0 rfl rfl 2 (by decide) f18 (fun _ h9 => h9) rfl dX2_assign_18 ?_
  refine lv_iload_n hx hb dX2_assign_21 rfl (lv_at hl 1 rfl) ?_
  refine ks_ast hx hb hK hP hD hS 1 0 rfl rfl (j := k) (hk) (by decide) dX2_assign_22 (fun H locs hP hD hS => ?_)
  have hP : va_P (dC, dI) ksCl [(ta, .inr (2, [.ref tb, .ref tr, .int (nI k), .int o, .int z])), (tb, .inl (cB, 16, .inl (upd B k f))), (tr, .inl (cR, 16, .inl Rs))] H := hP
  have hD : va_D A [(ta, .inr (2, [.ref tb, .ref tr, .int (nI k), .int o, .int z])), (tb, .inl (cB, 16, .inl (upd B k f))), (tr, .inl (cR, 16, .inl Rs))] := hD
  refine lv_aload_n hx hb dX2_assign_23 rfl (lv_at hl 0 rfl) ?_
  refine va_get (D := (dC, dI)) (ci := 2) (v := .ref tr) (C := RX2) (T := TX2) (N := 5) hx hb hts hiX2 hown hK hP 0 rfl rfl 1 (by decide) f15 (fun _ h9 => h9) rfl dX2_assign_24 ?_
  refine lv_aload_n hx hb dX2_assign_27 rfl (lv_at hl 0 rfl) ?_
  refine va_get (D := (dC, dI)) (ci := 2) (v := .int (nI k)) (C := RX2) (T := TX2) (N := 5) hx hb hts hiX2 hown hK hP 0 rfl rfl 2 (by decide) f18 (fun _ h9 => h9) rfl dX2_assign_28 ?_
  refine lv_iload_n hx hb dX2_assign_31 rfl (lv_at hl 3 rfl) ?_
  refine ks_ast hx hb hK hP hD hS 2 1 rfl rfl (j := k) (hk) (by decide) dX2_assign_32 (fun H locs hP hD hS => ?_)
  have hP : va_P (dC, dI) ksCl [(ta, .inr (2, [.ref tb, .ref tr, .int (nI k), .int o, .int z])), (tb, .inl (cB, 16, .inl (upd B k f))), (tr, .inl (cR, 16, .inl (upd Rs k r)))] H := hP
  have hD : va_D A [(ta, .inr (2, [.ref tb, .ref tr, .int (nI k), .int o, .int z])), (tb, .inl (cB, 16, .inl (upd B k f))), (tr, .inl (cR, 16, .inl (upd Rs k r)))] := hD
  refine lv_aload_n hx hb dX2_assign_33 rfl (lv_at hl 0 rfl) ?_
  refine lv_dup hx hb dX2_assign_34 rfl ?_
  refine va_get (D := (dC, dI)) (ci := 2) (v := .int (nI k)) (C := RX2) (T := TX2) (N := 5) hx hb hts hiX2 hown hK hP 0 rfl rfl 2 (by decide) f18 (fun _ h9 => h9) rfl dX2_assign_35 ?_
  refine lv_iconst (v := 1) hx hb dX2_assign_38 (by decide) ?_
  refine lv_iadd hx hb dX2_assign_39 ?_
  refine ks_top (y := nI (k + 1)) (nI_1 k) ?_
  refine va_put (D := (dC, dI)) (ci := 2) (v := .int (nI (k + 1))) (ty := .int) (C := RX2) (T := TX2) (N := 5) hx hb hts hiX2 tyX2 tyX2_ok nmX2 hown hK hP hD hS 0 rfl rfl 2 (by decide) f18 (fun _ h9 => h9) rfl (by decide +kernel) rfl rfl (Nat.le_of_ble_eq_true rfl) dX2_assign_40 (fun H locs hP hD hS => ?_)
  have hP : va_P (dC, dI) ksCl [(ta, .inr (2, [.ref tb, .ref tr, .int (nI (k + 1)), .int o, .int z])), (tb, .inl (cB, 16, .inl (upd B k f))), (tr, .inl (cR, 16, .inl (upd Rs k r)))] H := hP
  have hD : va_D A [(ta, .inr (2, [.ref tb, .ref tr, .int (nI (k + 1)), .int o, .int z])), (tb, .inl (cB, 16, .inl (upd B k f))), (tr, .inl (cR, 16, .inl (upd Rs k r)))] := hD
  refine lv_iload_n hx hb dX2_assign_43 rfl (lv_at hl 2 rfl) ?_
  refine lv_if_eq (tgt := 60) hx hb dX2_assign_44 (by decide) (fun c44 => ?_) (fun c44 => ?_)
  · -- 44: jumps
    cases v
    case true => exact absurd c44 (by decide)
    refine lv_aload_n hx hb dX2_assign_60 rfl (lv_at hl 0 rfl) ?_
    refine lv_dup hx hb dX2_assign_61 rfl ?_
    refine va_get (D := (dC, dI)) (ci := 2) (v := .int z) (C := RX2) (T := TX2) (N := 5) hx hb hts hiX2 hown hK hP 0 rfl rfl 4 (by decide) f25 (fun _ h9 => h9) rfl dX2_assign_62 ?_
    refine lv_iload_n hx hb dX2_assign_65 rfl (lv_at hl 1 rfl) ?_
    refine lv_ior hx hb dX2_assign_66 ?_
    refine va_put (D := (dC, dI)) (ci := 2) (v := .int (z ||| f)) (ty := .int) (C := RX2) (T := TX2) (N := 5) hx hb hts hiX2 tyX2 tyX2_ok nmX2 hown hK hP hD hS 0 rfl rfl 4 (by decide) f25 (fun _ h9 => h9) rfl (by decide +kernel) rfl rfl (Nat.le_of_ble_eq_true rfl) dX2_assign_67 (fun H locs hP hD hS => ?_)
    have hP : va_P (dC, dI) ksCl [(ta, .inr (2, [.ref tb, .ref tr, .int (nI (k + 1)), .int o, .int (z ||| f)])), (tb, .inl (cB, 16, .inl (upd B k f))), (tr, .inl (cR, 16, .inl (upd Rs k r)))] H := hP
    have hD : va_D A [(ta, .inr (2, [.ref tb, .ref tr, .int (nI (k + 1)), .int o, .int (z ||| f)])), (tb, .inl (cB, 16, .inl (upd B k f))), (tr, .inl (cR, 16, .inl (upd Rs k r)))] := hD
    have hP9 : va_P (dC, dI) ksCl [(ta, .inr (2, [.ref tb, .ref tr, .int (nI (k + 1)), .int o, .int (z ||| f)])), (tb, .inl (cB, 16, .inl (upd B k f))), (tr, .inl (cR, 16, .inl (upd Rs k r)))] _ := hP
    have hD9 : va_D A [(ta, .inr (2, [.ref tb, .ref tr, .int (nI (k + 1)), .int o, .int (z ||| f)])), (tb, .inl (cB, 16, .inl (upd B k f))), (tr, .inl (cR, 16, .inl (upd Rs k r)))] := hD
    have hK9 : va_K (dC, dI) ksCl [(cB, .int), (cR, .int)] s := hK
    exact W.vret hx hb hr (fun t ht hW9 => ⟨⟨(), rfl, trivial, by rw [ht]; exact hP9, va_K.moved hW9.alike hK9, hD9⟩, hS.F ht⟩) hS.2.2 dX2_assign_70
  · -- 44: goes on
    cases v
    case false => exact absurd rfl c44
    refine lv_aload_n hx hb dX2_assign_47 rfl (lv_at hl 0 rfl) ?_
    refine lv_dup hx hb dX2_assign_48 rfl ?_
    refine va_get (D := (dC, dI)) (ci := 2) (v := .int o) (C := RX2) (T := TX2) (N := 5) hx hb hts hiX2 hown hK hP 0 rfl rfl 3 (by decide) f22 (fun _ h9 => h9) rfl dX2_assign_49 ?_
    refine lv_iload_n hx hb dX2_assign_52 rfl (lv_at hl 1 rfl) ?_
    refine lv_ior hx hb dX2_assign_53 ?_
    refine va_put (D := (dC, dI)) (ci := 2) (v := .int (o ||| f)) (ty := .int) (C := RX2) (T := TX2) (N := 5) hx hb hts hiX2 tyX2 tyX2_ok nmX2 hown hK hP hD hS 0 rfl rfl 3 (by decide) f22 (fun _ h9 => h9) rfl (by decide +kernel) rfl rfl (Nat.le_of_ble_eq_true rfl) dX2_assign_54 (fun H locs hP hD hS => ?_)
    have hP : va_P (dC, dI) ksCl [(ta, .inr (2, [.ref tb, .ref tr, .int (nI (k + 1)), .int (o ||| f), .int z])), (tb, .inl (cB, 16, .inl (upd B k f))), (tr, .inl (cR, 16, .inl (upd Rs k r)))] H := hP
    have hD : va_D A [(ta, .inr (2, [.ref tb, .ref tr, .int (nI (k + 1)), .int (o ||| f), .int z])), (tb, .inl (cB, 16, .inl (upd B k f))), (tr, .inl (cR, 16, .inl (upd Rs k r)))] := hD
    refine lv_goto (tgt := 70) hx hb dX2_assign_57 (by decide) ?_
    have hP9 : va_P (dC, dI) ksCl [(ta, .inr (2, [.ref tb, .ref tr, .int (nI (k + 1)), .int (o ||| f), .int z])), (tb, .inl (cB, 16, .inl (upd B k f))), (tr, .inl (cR, 16, .inl (upd Rs k r)))] _ := hP
    have hD9 : va_D A [(ta, .inr (2, [.ref tb, .ref tr, .int (nI (k + 1)), .int (o ||| f), .int z])), (tb, .inl (cB, 16, .inl (upd B k f))), (tr, .inl (cR, 16, .inl (upd Rs k r)))] := hD
    have hK9 : va_K (dC, dI) ksCl [(cB, .int), (cR, .int)] s := hK
    exact W.vret hx hb hr (fun t ht hW9 => ⟨⟨(), rfl, trivial, by rw [ht]; exact hP9, va_K.moved hW9.alike hK9, hD9⟩, hS.F ht⟩) hS.2.2 dX2_assign_70
end
section
set_option maxHeartbeats 4000000 in
set_option maxRecDepth 100000 in
/-- start: the wanted values alone -/
theorem ks_start (l : Launch) (dC : Nat → ClassId) (dI : Nat → Nat → Nat) (ta tb tr : Nat) (cB cR : ClassId) (B0 Rs0 : Nat → Int32) (k0 o0 z0 wo wz : Int32) (N : Nat) (P M : Nat → Int32) (nr : Nat) (hN : N ≤ 16) (hd : ∀ i, bt wo i = true → bt wz i = false) (hlN : ∀ i, bt wo i = true ∨ bt wz i = true → i < N) : ks_Mv l yX2_start wsX2_start ({ frames := 1, cells := 0, slots := 0, locals := 23 }) (dC, dI) [.ref ta, .int wo, .int wz] [(ta, .inr (2, [.ref tb, .ref tr, .int k0, .int o0, .int z0])), (tb, .inl (cB, 16, .inl B0)), (tr, .inl (cR, 16, .inl Rs0))] [(cB, .int), (cR, .int)] 0 0 (S := (Nat → Int32) × (Nat → Int32) × Nat) (fun u => ks_R N P M nr u.1 u.2.1 u.2.2 wo wz) (fun u => [(ta, .inr (2, [.ref tb, .ref tr, .int (nI u.2.2), .int wo, .int wz])), (tb, .inl (cB, 16, .inl u.1)), (tr, .inl (cR, 16, .inl u.2.1))]) (fun u => [(cB, .int), (cR, .int)]) := by
  intro sz
  refine Met.ofW (cc := cX2_start) (maxL := 5) (ret := none) (by decide) rfl ?_
  intro p e s m args below meth c s₁ B9 hml hv
  obtain ⟨rfl, hsz, hP, hK, hD0, hNW⟩ := hv
  have hx := B9.exec
  have hb := B9.bytes
  have hr := B9.returns
  have hts := atoms_spec (ws := wsX2_start) B9.pre
  have hown : s.vm.findClass RX2 = some m.cls := findClass_of_methodNamed B9.named
  have hlocks := B9.notSynchronized
  subst hsz
  have hD := hD0.self (sz := s.heap.size)
  generalize hAe : va_A [(ta, .inr (2, [.ref tb, .ref tr, .int k0, .int o0, .int z0])), (tb, .inl (cB, 16, .inl B0)), (tr, .inl (cR, 16, .inl Rs0))] s.heap.size = A at hD ⊢
  have hA : ∀ q : Nat, s.heap.size ≤ q → A q := fun q h => by rw [← hAe]; exact Or.inr h
  have hS : va_S A s.heap s.heap [] := va_S.rf
  have hiX2 : ∀ w ∈ u_ws RX2 TX2 5, w ∈ wsX2_start := by decide +kernel
  have f18 := hts (.fieldLink RX2 18 "LessonSolver$Trail" "length" "I") (by decide +kernel)
  have f22 := hts (.fieldLink RX2 22 "LessonSolver$Trail" "ones" "I") (by decide +kernel)
  have f25 := hts (.fieldLink RX2 25 "LessonSolver$Trail" "zeros" "I") (by decide +kernel)
  have hl := lv_entry ([.ref ta, .int wo, .int wz]) (n := 5) (Nat.le_of_ble_eq_true rfl)
  rw [lg_entry_eq]
  generalize (lg_sl ([.ref ta, .int wo, .int wz]) ++ List.replicate (5 - (lg_sl ([.ref ta, .int wo, .int wz])).length) Slot.unset).toArray = ls at hl ⊢
  have hl : lv_has ls 5 [(0, .ref ta), (1, .int wo), (2, .int wz)] := hl
  refine lv_aload_n hx hb dX2_start_0 rfl (lv_at hl 0 rfl) ?_
  refine lv_iconst (v := 0) hx hb dX2_start_1 (by decide) ?_
  refine va_put (D := (dC, dI)) (ci := 2) (v := .int 0) (ty := .int) (C := RX2) (T := TX2) (N := 5) hx hb hts hiX2 tyX2 tyX2_ok nmX2 hown hK hP hD hS 0 rfl rfl 2 (by decide) f18 (fun _ h9 => h9) rfl (by decide +kernel) rfl rfl (Nat.le_of_ble_eq_true rfl) dX2_start_2 (fun H locs hP hD hS => ?_)
  have hP : va_P (dC, dI) ksCl [(ta, .inr (2, [.ref tb, .ref tr, .int 0, .int o0, .int z0])), (tb, .inl (cB, 16, .inl B0)), (tr, .inl (cR, 16, .inl Rs0))] H := hP
  have hD : va_D A [(ta, .inr (2, [.ref tb, .ref tr, .int 0, .int o0, .int z0])), (tb, .inl (cB, 16, .inl B0)), (tr, .inl (cR, 16, .inl Rs0))] := hD
  refine lv_aload_n hx hb dX2_start_5 rfl (lv_at hl 0 rfl) ?_
  refine lv_iconst (v := 0) hx hb dX2_start_6 (by decide) ?_
  refine va_put (D := (dC, dI)) (ci := 2) (v := .int 0) (ty := .int) (C := RX2) (T := TX2) (N := 5) hx hb hts hiX2 tyX2 tyX2_ok nmX2 hown hK hP hD hS 0 rfl rfl 3 (by decide) f22 (fun _ h9 => h9) rfl (by decide +kernel) rfl rfl (Nat.le_of_ble_eq_true rfl) dX2_start_7 (fun H locs hP hD hS => ?_)
  have hP : va_P (dC, dI) ksCl [(ta, .inr (2, [.ref tb, .ref tr, .int 0, .int 0, .int z0])), (tb, .inl (cB, 16, .inl B0)), (tr, .inl (cR, 16, .inl Rs0))] H := hP
  have hD : va_D A [(ta, .inr (2, [.ref tb, .ref tr, .int 0, .int 0, .int z0])), (tb, .inl (cB, 16, .inl B0)), (tr, .inl (cR, 16, .inl Rs0))] := hD
  refine lv_aload_n hx hb dX2_start_10 rfl (lv_at hl 0 rfl) ?_
  refine lv_iconst (v := 0) hx hb dX2_start_11 (by decide) ?_
  refine va_put (D := (dC, dI)) (ci := 2) (v := .int 0) (ty := .int) (C := RX2) (T := TX2) (N := 5) hx hb hts hiX2 tyX2 tyX2_ok nmX2 hown hK hP hD hS 0 rfl rfl 4 (by decide) f25 (fun _ h9 => h9) rfl (by decide +kernel) rfl rfl (Nat.le_of_ble_eq_true rfl) dX2_start_12 (fun H locs hP hD hS => ?_)
  have hP : va_P (dC, dI) ksCl [(ta, .inr (2, [.ref tb, .ref tr, .int 0, .int 0, .int 0])), (tb, .inl (cB, 16, .inl B0)), (tr, .inl (cR, 16, .inl Rs0))] H := hP
  have hD : va_D A [(ta, .inr (2, [.ref tb, .ref tr, .int 0, .int 0, .int 0])), (tb, .inl (cB, 16, .inl B0)), (tr, .inl (cR, 16, .inl Rs0))] := hD
  refine lv_iconst (v := nI 0) hx hb dX2_start_15 (by decide) ?_
  refine lv_istore_n (lv' := [(3, .int (nI 0)), (0, .ref ta), (1, .int wo), (2, .int wz)]) hx hb dX2_start_16 rfl hl (by decide) rfl (fun ls hl => ?_)
  refine ks_wl (σ := Nat × (Nat → Int32) × (Nat → Int32) × Nat × Int32 × Int32) (fun n x H locs ls => (x.1 ≤ 16) ∧ (n + x.1 = 17) ∧ (ks_R N P M nr x.2.1 x.2.2.1 x.2.2.2.1 x.2.2.2.2.1 x.2.2.2.2.2) ∧ (ks_I wo x.1 x.2.2.2.2.1) ∧ (ks_I wz x.1 x.2.2.2.2.2) ∧ va_P (dC, dI) ksCl [(ta, .inr (2, [.ref tb, .ref tr, .int (nI x.2.2.2.1), .int x.2.2.2.2.1, .int x.2.2.2.2.2])), (tb, .inl (cB, 16, .inl x.2.1)), (tr, .inl (cR, 16, .inl x.2.2.1))] H ∧ va_D A [(ta, .inr (2, [.ref tb, .ref tr, .int (nI x.2.2.2.1), .int x.2.2.2.2.1, .int x.2.2.2.2.2])), (tb, .inl (cB, 16, .inl x.2.1)), (tr, .inl (cR, 16, .inl x.2.2.1))] ∧ va_S A s.heap H locs ∧ lv_has ls 5 [(0, .ref ta), (1, .int wo), (2, .int wz), (3, .int (nI x.1))]) 17 ?_ ?_ (17) (0, B0, Rs0, 0, 0, 0) _ _ ls ⟨Nat.zero_le 16, rfl, ks_R.none N P M nr B0 Rs0, ks_I.zero wo, ks_I.zero wz, hP, hD, hS, lv_sub hl [1, 2, 3, 0] rfl⟩
  · -- loop at 17
    intro n x H locs ls h9 ih
    obtain ⟨i, B, Rs, k, o, z⟩ := x
    obtain ⟨i1, i2, i3, i4, i5, hP, hD, hS, hl⟩ := h9
    have i1 : i ≤ 16 := i1
    have i2 : (n + 1) + i = 17 := i2
    have i3 : ks_R N P M nr B Rs k o z := i3
    have i4 : ks_I wo i o := i4
    have i5 : ks_I wz i z := i5
    have hP : va_P (dC, dI) ksCl [(ta, .inr (2, [.ref tb, .ref tr, .int (nI k), .int o, .int z])), (tb, .inl (cB, 16, .inl B)), (tr, .inl (cR, 16, .inl Rs))] H := hP
    have hD : va_D A [(ta, .inr (2, [.ref tb, .ref tr, .int (nI k), .int o, .int z])), (tb, .inl (cB, 16, .inl B)), (tr, .inl (cR, 16, .inl Rs))] := hD
    have hl : lv_has ls 5 [(0, .ref ta), (1, .int wo), (2, .int wz), (3, .int (nI i))] := hl
    refine lv_iload_n hx hb dX2_start_17 rfl (lv_at hl 3 rfl) ?_
    refine lv_bipush (v := nI 16) hx hb dX2_start_18 (by decide) ?_
    refine lv_icmp_ge (tgt := 62) hx hb dX2_start_20 (by decide) (fun c20 => ?_) (fun c20 => ?_)
    · -- 20: jumps
      have h16 : 16 ≤ i := by
        rcases Nat.lt_or_ge i 16 with q | q
        · exact absurd c20 (nI_ge q (by omega))
        · exact q
      have e16 : i = 16 := by omega
      subst e16
      have eo := i4.done (fun q hq => by have := hlN q (Or.inl hq); omega)
      have ez := i5.done (fun q hq => by have := hlN q (Or.inr hq); omega)
      subst eo; subst ez
      have hP9 : va_P (dC, dI) ksCl [(ta, .inr (2, [.ref tb, .ref tr, .int (nI k), .int o, .int z])), (tb, .inl (cB, 16, .inl B)), (tr, .inl (cR, 16, .inl Rs))] _ := hP
      have hD9 : va_D A [(ta, .inr (2, [.ref tb, .ref tr, .int (nI k), .int o, .int z])), (tb, .inl (cB, 16, .inl B)), (tr, .inl (cR, 16, .inl Rs))] := hD
      have hK9 : va_K (dC, dI) ksCl [(cB, .int), (cR, .int)] s := hK
      exact W.vret hx hb hr (fun t ht hW9 => ⟨⟨(B, Rs, k), rfl, i3, by rw [ht]; exact hP9, va_K.moved hW9.alike hK9, hD9⟩, hS.F ht⟩) hS.2.2 dX2_start_62
    · -- 20: goes on
      have h16 : i < 16 := by
        rcases Nat.lt_or_ge i 16 with q | q
        · exact q
        · exact absurd (nI_le q (by omega)) c20
      refine lv_iconst (v := 1) hx hb dX2_start_23 (by decide) ?_
      refine lv_iload_n hx hb dX2_start_24 rfl (lv_at hl 3 rfl) ?_
      refine lv_ishl hx hb dX2_start_25 ?_
      refine ks_top (y := ks_on i) (rfl) ?_
      refine lv_istore (lv' := [(4, .int (ks_on i)), (0, .ref ta), (1, .int wo), (2, .int wz), (3, .int (nI i))]) hx hb dX2_start_26 hl (by decide) rfl (fun ls hl => ?_)
      refine lv_iload_n hx hb dX2_start_28 rfl (lv_at hl 2 rfl) ?_
      refine lv_iload_n hx hb dX2_start_29 rfl (lv_at hl 3 rfl) ?_
      refine lv_ior hx hb dX2_start_30 ?_
      refine lv_iload hx hb dX2_start_31 (lv_at hl 0 rfl) ?_
      refine lv_iand hx hb dX2_start_33 ?_
      refine lv_if_eq (tgt := 56) hx hb dX2_start_34 (by decide) (fun c34 => ?_) (fun c34 => ?_)
      · -- 34: jumps
        have b0 := (ks_tst (by omega)).mp c34
        rw [b_or, Bool.or_eq_false_iff] at b0
        have j1 : i + 1 ≤ 16 := h16
        have j3 := i3
        have j4 := i4.skip b0.1
        have j5 := i5.skip b0.2
        refine lv_iinc (v := nI (i + 1)) (lv' := [(3, .int (nI (i + 1))), (4, .int (ks_on i)), (0, .ref ta), (1, .int wo), (2, .int wz)]) hx hb dX2_start_56 hl (k := 4) rfl (nI_1 _) (by decide) rfl (fun ls hl => ?_)
        refine lv_goto (tgt := 17) hx hb dX2_start_59 (by decide) ?_
        exact ih (i + 1, B, Rs, k, o, z) _ _ _ ⟨j1, by omega, j3, j4, j5, hP, hD, hS, lv_sub hl [2, 3, 4, 0] rfl⟩
      · -- 34: goes on
        have b1 := (ks_tst1 (by omega)).mp c34
        rw [b_or, Bool.or_eq_true] at b1
        have hiN : i < N := hlN i b1
        have j1 : i + 1 ≤ 16 := h16
        refine lv_aload_n hx hb dX2_start_37 rfl (lv_at hl 1 rfl) ?_
        refine lv_iload hx hb dX2_start_38 (lv_at hl 0 rfl) ?_
        refine lv_iload_n hx hb dX2_start_40 rfl (lv_at hl 2 rfl) ?_
        refine lv_iload hx hb dX2_start_41 (lv_at hl 0 rfl) ?_
        refine lv_iand hx hb dX2_start_43 ?_
        refine lv_if_eq (tgt := 51) hx hb dX2_start_44 (by decide) (fun c44 => ?_) (fun c44 => ?_)
        · -- 44: jumps
          have b2 := (ks_tst (by omega)).mp c44
          have b3 : bt wz i = true := by
            rcases b1 with q | q
            · rw [b2] at q; cases q
            · exact q
          have j3 := i3.assign hN hiN (i4.fr i5) false 0 (Or.inl rfl)
          have j4 := i4.skip b2
          have j5 := i5.add (by omega) b3
          refine lv_iconst (v := 0) hx hb dX2_start_51 (by decide) ?_
          refine lv_iconst (v := 0) hx hb dX2_start_52 (by decide) ?_
          refine ks_callvV (As := [.int (ks_on i), .int 0, .int 0]) (rest := []) (wr := []) (wz := fun _ => [(ta, .inr (2, [.ref tb, .ref tr, .int (nI (k + 1)), .int (if false = true then o ||| (ks_on i) else o), .int (if false = true then z else z ||| (ks_on i))])), (tb, .inl (cB, 16, .inl (upd B k (ks_on i)))), (tr, .inl (cR, 16, .inl (upd Rs k 0)))]) ⟨hx, hb, hml, hown, hts⟩ (ks_assign l dC dI ta tb tr cB cR B Rs k o z (ks_on i) 0 false (by have := i3.free hiN (i4.fr i5); omega)) (cwV 3 hts gX2_start_X2_assign rfl rfl rfl (by decide +kernel) ⟨Nat.le_of_ble_eq_true rfl, Nat.le_of_ble_eq_true rfl⟩) hK hP hD hS hA hNW [0, 1, 2] [] [0, 1] [0, 1, 2] rfl rfl rfl rfl (by decide) (by decide) (by decide) (ci := 2) (q0 := 0) rfl rfl rfl (fun _ => rfl) (fun _ => rfl) (by decide) rfl hl.1 rfl (Nat.le_of_ble_eq_true rfl) dX2_start_53 ⟨Nat.le_of_ble_eq_true rfl, Nat.le_of_ble_eq_true rfl⟩ (fun u9 H locs hw9 hK9 hP hD hS => ?_)
          have hP : va_P (dC, dI) ksCl [(ta, .inr (2, [.ref tb, .ref tr, .int (nI (k + 1)), .int (if false = true then o ||| (ks_on i) else o), .int (if false = true then z else z ||| (ks_on i))])), (tb, .inl (cB, 16, .inl (upd B k (ks_on i)))), (tr, .inl (cR, 16, .inl (upd Rs k 0)))] H := hP
          have hD : va_D A [(ta, .inr (2, [.ref tb, .ref tr, .int (nI (k + 1)), .int (if false = true then o ||| (ks_on i) else o), .int (if false = true then z else z ||| (ks_on i))])), (tb, .inl (cB, 16, .inl (upd B k (ks_on i)))), (tr, .inl (cR, 16, .inl (upd Rs k 0)))] := hD
          refine lv_iinc (v := nI (i + 1)) (lv' := [(3, .int (nI (i + 1))), (4, .int (ks_on i)), (0, .ref ta), (1, .int wo), (2, .int wz)]) hx hb dX2_start_56 hl (k := 4) rfl (nI_1 _) (by decide) rfl (fun ls hl => ?_)
          refine lv_goto (tgt := 17) hx hb dX2_start_59 (by decide) ?_
          exact ih (i + 1, upd B k (ks_on i), upd Rs k 0, k + 1, (if false = true then o ||| (ks_on i) else o), (if false = true then z else z ||| (ks_on i))) _ _ _ ⟨j1, by omega, j3, j4, j5, hP, hD, hS, lv_sub hl [2, 3, 4, 0] rfl⟩
        · -- 44: goes on
          have b2 := (ks_tst1 (by omega)).mp c44
          have j3 := i3.assign hN hiN (i4.fr i5) true 0 (Or.inl rfl)
          have j4 := i4.add (by omega) b2
          have j5 := i5.skip (hd i b2)
          refine lv_iconst (v := 1) hx hb dX2_start_47 (by decide) ?_
          refine lv_goto (tgt := 52) hx hb dX2_start_48 (by decide) ?_
          refine lv_iconst (v := 0) hx hb dX2_start_52 (by decide) ?_
          refine ks_callvV (As := [.int (ks_on i), .int 1, .int 0]) (rest := []) (wr := []) (wz := fun _ => [(ta, .inr (2, [.ref tb, .ref tr, .int (nI (k + 1)), .int (if true = true then o ||| (ks_on i) else o), .int (if true = true then z else z ||| (ks_on i))])), (tb, .inl (cB, 16, .inl (upd B k (ks_on i)))), (tr, .inl (cR, 16, .inl (upd Rs k 0)))]) ⟨hx, hb, hml, hown, hts⟩ (ks_assign l dC dI ta tb tr cB cR B Rs k o z (ks_on i) 0 true (by have := i3.free hiN (i4.fr i5); omega)) (cwV 3 hts gX2_start_X2_assign rfl rfl rfl (by decide +kernel) ⟨Nat.le_of_ble_eq_true rfl, Nat.le_of_ble_eq_true rfl⟩) hK hP hD hS hA hNW [0, 1, 2] [] [0, 1] [0, 1, 2] rfl rfl rfl rfl (by decide) (by decide) (by decide) (ci := 2) (q0 := 0) rfl rfl rfl (fun _ => rfl) (fun _ => rfl) (by decide) rfl hl.1 rfl (Nat.le_of_ble_eq_true rfl) dX2_start_53 ⟨Nat.le_of_ble_eq_true rfl, Nat.le_of_ble_eq_true rfl⟩ (fun u9 H locs hw9 hK9 hP hD hS => ?_)
          have hP : va_P (dC, dI) ksCl [(ta, .inr (2, [.ref tb, .ref tr, .int (nI (k + 1)), .int (if true = true then o ||| (ks_on i) else o), .int (if true = true then z else z ||| (ks_on i))])), (tb, .inl (cB, 16, .inl (upd B k (ks_on i)))), (tr, .inl (cR, 16, .inl (upd Rs k 0)))] H := hP
          have hD : va_D A [(ta, .inr (2, [.ref tb, .ref tr, .int (nI (k + 1)), .int (if true = true then o ||| (ks_on i) else o), .int (if true = true then z else z ||| (ks_on i))])), (tb, .inl (cB, 16, .inl (upd B k (ks_on i)))), (tr, .inl (cR, 16, .inl (upd Rs k 0)))] := hD
          refine lv_iinc (v := nI (i + 1)) (lv' := [(3, .int (nI (i + 1))), (4, .int (ks_on i)), (0, .ref ta), (1, .int wo), (2, .int wz)]) hx hb dX2_start_56 hl (k := 4) rfl (nI_1 _) (by decide) rfl (fun ls hl => ?_)
          refine lv_goto (tgt := 17) hx hb dX2_start_59 (by decide) ?_
          exact ih (i + 1, upd B k (ks_on i), upd Rs k 0, k + 1, (if true = true then o ||| (ks_on i) else o), (if true = true then z else z ||| (ks_on i))) _ _ _ ⟨j1, by omega, j3, j4, j5, hP, hD, hS, lv_sub hl [2, 3, 4, 0] rfl⟩
  · intro x H locs ls h9
    obtain ⟨i1, i2, i3, i4, i5, -, -, -, -⟩ := h9
    try dsimp only at i1 i2
    omega
end
section
set_option maxHeartbeats 4000000 in
set_option maxRecDepth 100000 in
/-- goBackTo -/
theorem ks_goBack (l : Launch) (dC : Nat → ClassId) (dI : Nat → Nat → Nat) (ta tb tr : Nat) (cB cR : ClassId) (B Rs : Nat → Int32) (k mk : Nat) (o z : Int32) (hk : k ≤ 16) (hm : mk ≤ k) : ks_Mv l yX2_goBackTo wsX2_goBackTo ({ frames := 1, cells := 0, slots := 0, locals := 15 }) (dC, dI) [.ref ta, .int (nI mk)] [(ta, .inr (2, [.ref tb, .ref tr, .int (nI k), .int o, .int z])), (tb, .inl (cB, 16, .inl B)), (tr, .inl (cR, 16, .inl Rs))] [(cB, .int), (cR, .int)] 0 0 (S := Int32 × Int32) (fun u => ks_cut B mk k o u.1 ∧ ks_cut B mk k z u.2) (fun u => [(ta, .inr (2, [.ref tb, .ref tr, .int (nI mk), .int u.1, .int u.2])), (tb, .inl (cB, 16, .inl B)), (tr, .inl (cR, 16, .inl Rs))]) (fun u => [(cB, .int), (cR, .int)]) := by
  intro sz
  refine Met.ofW (cc := cX2_goBackTo) (maxL := 3) (ret := none) (by decide) rfl ?_
  intro p e s m args below meth c s₁ B9 hml hv
  obtain ⟨rfl, hsz, hP, hK, hD0, hNW⟩ := hv
  have hx := B9.exec
  have hb := B9.bytes
  have hr := B9.returns
  have hts := atoms_spec (ws := wsX2_goBackTo) B9.pre
  have hown : s.vm.findClass RX2 = some m.cls := findClass_of_methodNamed B9.named
  have hlocks := B9.notSynchronized
  subst hsz
  have hD := hD0.self (sz := s.heap.size)
  generalize hAe : va_A [(ta, .inr (2, [.ref tb, .ref tr, .int (nI k), .int o, .int z])), (tb, .inl (cB, 16, .inl B)), (tr, .inl (cR, 16, .inl Rs))] s.heap.size = A at hD ⊢
  have hA : ∀ q : Nat, s.heap.size ≤ q → A q := fun q h => by rw [← hAe]; exact Or.inr h
  have hS : va_S A s.heap s.heap [] := va_S.rf
  have hiX2 : ∀ w ∈ u_ws RX2 TX2 5, w ∈ wsX2_goBackTo := by decide +kernel
  have f9 := hts (.fieldLink RX2 9 "LessonSolver$Trail" "bits" "[I") (by decide +kernel)
  have f18 := hts (.fieldLink RX2 18 "LessonSolver$Trail" "length" "I") (by decide +kernel)
  have f22 := hts (.fieldLink RX2 22 "LessonSolver$Trail" "ones" "I") (by decide +kernel)
  have f25 := hts (.fieldLink RX2 25 "LessonSolver$Trail" "zeros" "I") (by decide +kernel)
  have hl := lv_entry ([.ref ta, .int (nI mk)]) (n := 3) (Nat.le_of_ble_eq_true rfl)
  rw [lg_entry_eq]
  generalize (lg_sl ([.ref ta, .int (nI mk)]) ++ List.replicate (3 - (lg_sl ([.ref ta, .int (nI mk)])).length) Slot.unset).toArray = ls at hl ⊢
  have hl : lv_has ls 3 [(0, .ref ta), (1, .int (nI mk))] := hl
  refine lv_iconst (v := 0) hx hb dX2_goBackTo_0 (by decide) ?_
  refine lv_iload_n hx hb dX2_goBackTo_1 rfl (lv_at hl 1 rfl) ?_
  refine va_mmax hx hb (by rw [hml]; exact hl.1.symm) hown (hts (.methodLink RX2 32 Lib.Math.max.name) (by decide +kernel)) (hts (.static Lib.Math.max.name) (by decide +kernel)) (hts (.initialized "java/lang/Math") (by decide +kernel)) (hts (.code Lib.Math.max.name Lib.Math.max.code 2 (some .int)) (by decide +kernel)) (Nat.le_of_ble_eq_true rfl) (Nat.le_of_ble_eq_true rfl) (Nat.le_of_ble_eq_true rfl) (Nat.le_of_ble_eq_true rfl) dX2_goBackTo_2 ?_
  refine ks_top (y := nI mk) (ks_max0 (by omega)) ?_
  refine lv_istore_n (lv' := [(2, .int (nI mk)), (0, .ref ta), (1, .int (nI mk))]) hx hb dX2_goBackTo_5 rfl hl (by decide) rfl (fun ls hl => ?_)
  refine ks_wl (σ := Nat × Int32 × Int32) (fun n x H locs ls => (mk ≤ x.1) ∧ (x.1 ≤ k) ∧ (n + x.1 = k + 1) ∧ (ks_cut B mk x.1 o x.2.1) ∧ (ks_cut B mk x.1 z x.2.2) ∧ va_P (dC, dI) ksCl [(ta, .inr (2, [.ref tb, .ref tr, .int (nI k), .int x.2.1, .int x.2.2])), (tb, .inl (cB, 16, .inl B)), (tr, .inl (cR, 16, .inl Rs))] H ∧ va_D A [(ta, .inr (2, [.ref tb, .ref tr, .int (nI k), .int x.2.1, .int x.2.2])), (tb, .inl (cB, 16, .inl B)), (tr, .inl (cR, 16, .inl Rs))] ∧ va_S A s.heap H locs ∧ lv_has ls 3 [(0, .ref ta), (1, .int (nI mk)), (2, .int (nI x.1))]) 6 ?_ ?_ (k + 1 - mk) (mk, o, z) _ _ ls ⟨Nat.le_refl mk, hm, by show k + 1 - mk + mk = k + 1; omega, ks_cut.zero B mk o, ks_cut.zero B mk z, hP, hD, hS, lv_sub hl [1, 2, 0] rfl⟩
  · -- loop at 6
    intro n x H locs ls h9 ih
    obtain ⟨j, o1, z1⟩ := x
    obtain ⟨i1, i2, i3, i4, i5, hP, hD, hS, hl⟩ := h9
    have i1 : mk ≤ j := i1
    have i2 : j ≤ k := i2
    have i3 : (n + 1) + j = k + 1 := i3
    have i4 : ks_cut B mk j o o1 := i4
    have i5 : ks_cut B mk j z z1 := i5
    have hP : va_P (dC, dI) ksCl [(ta, .inr (2, [.ref tb, .ref tr, .int (nI k), .int o1, .int z1])), (tb, .inl (cB, 16, .inl B)), (tr, .inl (cR, 16, .inl Rs))] H := hP
    have hD : va_D A [(ta, .inr (2, [.ref tb, .ref tr, .int (nI k), .int o1, .int z1])), (tb, .inl (cB, 16, .inl B)), (tr, .inl (cR, 16, .inl Rs))] := hD
    have hl : lv_has ls 3 [(0, .ref ta), (1, .int (nI mk)), (2, .int (nI j))] := hl
    refine lv_iload_n hx hb dX2_goBackTo_6 rfl (lv_at hl 2 rfl) ?_
    refine lv_aload_n hx hb dX2_goBackTo_7 rfl (lv_at hl 0 rfl) ?_
    refine va_get (D := (dC, dI)) (ci := 2) (v := .int (nI k)) (C := RX2) (T := TX2) (N := 5) hx hb hts hiX2 hown hK hP 0 rfl rfl 2 (by decide) f18 (fun _ h9 => h9) rfl dX2_goBackTo_8 ?_
    refine lv_icmp_ge (tgt := 54) hx hb dX2_goBackTo_11 (by decide) (fun c11 => ?_) (fun c11 => ?_)
    · -- 11: jumps
      have hjk : k ≤ j := by
        rcases Nat.lt_or_ge j k with q | q
        · exact absurd c11 (nI_ge q (by omega))
        · exact q
      have ej : j = k := by omega
      rw [ej] at i4 i5
      refine lv_aload_n hx hb dX2_goBackTo_54 rfl (lv_at hl 0 rfl) ?_
      refine lv_iconst (v := 0) hx hb dX2_goBackTo_55 (by decide) ?_
      refine lv_iload_n hx hb dX2_goBackTo_56 rfl (lv_at hl 1 rfl) ?_
      refine lv_aload_n hx hb dX2_goBackTo_57 rfl (lv_at hl 0 rfl) ?_
      refine va_get (D := (dC, dI)) (ci := 2) (v := .int (nI k)) (C := RX2) (T := TX2) (N := 5) hx hb hts hiX2 hown hK hP 0 rfl rfl 2 (by decide) f18 (fun _ h9 => h9) rfl dX2_goBackTo_58 ?_
      refine va_mmin hx hb (by rw [hml]; exact hl.1.symm) hown (hts (.methodLink RX2 38 Lib.Math.min.name) (by decide +kernel)) (hts (.static Lib.Math.min.name) (by decide +kernel)) (hts (.initialized "java/lang/Math") (by decide +kernel)) (hts (.code Lib.Math.min.name Lib.Math.min.code 2 (some .int)) (by decide +kernel)) (Nat.le_of_ble_eq_true rfl) (Nat.le_of_ble_eq_true rfl) (Nat.le_of_ble_eq_true rfl) (Nat.le_of_ble_eq_true rfl) dX2_goBackTo_61 ?_
      refine ks_top (y := nI mk) (ks_min (by omega) (by omega)) ?_
      refine va_mmax hx hb (by rw [hml]; exact hl.1.symm) hown (hts (.methodLink RX2 32 Lib.Math.max.name) (by decide +kernel)) (hts (.static Lib.Math.max.name) (by decide +kernel)) (hts (.initialized "java/lang/Math") (by decide +kernel)) (hts (.code Lib.Math.max.name Lib.Math.max.code 2 (some .int)) (by decide +kernel)) (Nat.le_of_ble_eq_true rfl) (Nat.le_of_ble_eq_true rfl) (Nat.le_of_ble_eq_true rfl) (Nat.le_of_ble_eq_true rfl) dX2_goBackTo_64 ?_
      refine ks_top (y := nI mk) (ks_max0 (by omega)) ?_
      refine va_put (D := (dC, dI)) (ci := 2) (v := .int (nI mk)) (ty := .int) (C := RX2) (T := TX2) (N := 5) hx hb hts hiX2 tyX2 tyX2_ok nmX2 hown hK hP hD hS 0 rfl rfl 2 (by decide) f18 (fun _ h9 => h9) rfl (by decide +kernel) rfl rfl (Nat.le_of_ble_eq_true rfl) dX2_goBackTo_67 (fun H locs hP hD hS => ?_)
      have hP : va_P (dC, dI) ksCl [(ta, .inr (2, [.ref tb, .ref tr, .int (nI mk), .int o1, .int z1])), (tb, .inl (cB, 16, .inl B)), (tr, .inl (cR, 16, .inl Rs))] H := hP
      have hD : va_D A [(ta, .inr (2, [.ref tb, .ref tr, .int (nI mk), .int o1, .int z1])), (tb, .inl (cB, 16, .inl B)), (tr, .inl (cR, 16, .inl Rs))] := hD
      have hP9 : va_P (dC, dI) ksCl [(ta, .inr (2, [.ref tb, .ref tr, .int (nI mk), .int o1, .int z1])), (tb, .inl (cB, 16, .inl B)), (tr, .inl (cR, 16, .inl Rs))] _ := hP
      have hD9 : va_D A [(ta, .inr (2, [.ref tb, .ref tr, .int (nI mk), .int o1, .int z1])), (tb, .inl (cB, 16, .inl B)), (tr, .inl (cR, 16, .inl Rs))] := hD
      have hK9 : va_K (dC, dI) ksCl [(cB, .int), (cR, .int)] s := hK
      exact W.vret hx hb hr (fun t ht hW9 => ⟨⟨(o1, z1), rfl, ⟨i4, i5⟩, by rw [ht]; exact hP9, va_K.moved hW9.alike hK9, hD9⟩, hS.F ht⟩) hS.2.2 dX2_goBackTo_70
    · -- 11: goes on
      have hjk : j < k := by
        rcases Nat.lt_or_ge j k with q | q
        · exact q
        · exact absurd (nI_le q (by omega)) c11
      refine lv_aload_n hx hb dX2_goBackTo_14 rfl (lv_at hl 0 rfl) ?_
      refine lv_dup hx hb dX2_goBackTo_15 rfl ?_
      refine va_get (D := (dC, dI)) (ci := 2) (v := .int o1) (C := RX2) (T := TX2) (N := 5) hx hb hts hiX2 hown hK hP 0 rfl rfl 3 (by decide) f22 (fun _ h9 => h9) rfl dX2_goBackTo_16 ?_
      refine lv_aload_n hx hb dX2_goBackTo_19 rfl (lv_at hl 0 rfl) ?_
      refine va_get (D := (dC, dI)) (ci := 2) (v := .ref tb) (C := RX2) (T := TX2) (N := 5) hx hb hts hiX2 hown hK hP 0 rfl rfl 0 (by decide) f9 (fun _ h9 => h9) rfl dX2_goBackTo_20 ?_
      refine lv_iload_n hx hb dX2_goBackTo_23 rfl (lv_at hl 2 rfl) ?_
      refine ks_ald hx hb hK hP 1 0 rfl rfl (j := j) (by omega) (by decide) dX2_goBackTo_24 ?_
      refine lv_iconst (v := -1) hx hb dX2_goBackTo_25 (by decide) ?_
      refine lv_ixor hx hb dX2_goBackTo_26 ?_
      refine lv_iand hx hb dX2_goBackTo_27 ?_
      refine lv_topi (fun v28 ev28 => ?_)
      refine va_put (D := (dC, dI)) (ci := 2) (v := .int v28) (ty := .int) (C := RX2) (T := TX2) (N := 5) hx hb hts hiX2 tyX2 tyX2_ok nmX2 hown hK hP hD hS 0 rfl rfl 3 (by decide) f22 (fun _ h9 => h9) rfl (by decide +kernel) rfl rfl (Nat.le_of_ble_eq_true rfl) dX2_goBackTo_28 (fun H locs hP hD hS => ?_)
      have hP : va_P (dC, dI) ksCl [(ta, .inr (2, [.ref tb, .ref tr, .int (nI k), .int v28, .int z1])), (tb, .inl (cB, 16, .inl B)), (tr, .inl (cR, 16, .inl Rs))] H := hP
      have hD : va_D A [(ta, .inr (2, [.ref tb, .ref tr, .int (nI k), .int v28, .int z1])), (tb, .inl (cB, 16, .inl B)), (tr, .inl (cR, 16, .inl Rs))] := hD
      refine lv_aload_n hx hb dX2_goBackTo_31 rfl (lv_at hl 0 rfl) ?_
      refine lv_dup hx hb dX2_goBackTo_32 rfl ?_
      refine va_get (D := (dC, dI)) (ci := 2) (v := .int z1) (C := RX2) (T := TX2) (N := 5) hx hb hts hiX2 hown hK hP 0 rfl rfl 4 (by decide) f25 (fun _ h9 => h9) rfl dX2_goBackTo_33 ?_
      refine lv_aload_n hx hb dX2_goBackTo_36 rfl (lv_at hl 0 rfl) ?_
      refine va_get (D := (dC, dI)) (ci := 2) (v := .ref tb) (C := RX2) (T := TX2) (N := 5) hx hb hts hiX2 hown hK hP 0 rfl rfl 0 (by decide) f9 (fun _ h9 => h9) rfl dX2_goBackTo_37 ?_
      refine lv_iload_n hx hb dX2_goBackTo_40 rfl (lv_at hl 2 rfl) ?_
      refine ks_ald hx hb hK hP 1 0 rfl rfl (j := j) (by omega) (by decide) dX2_goBackTo_41 ?_
      refine lv_iconst (v := -1) hx hb dX2_goBackTo_42 (by decide) ?_
      refine lv_ixor hx hb dX2_goBackTo_43 ?_
      refine lv_iand hx hb dX2_goBackTo_44 ?_
      refine lv_topi (fun v45 ev45 => ?_)
      refine va_put (D := (dC, dI)) (ci := 2) (v := .int v45) (ty := .int) (C := RX2) (T := TX2) (N := 5) hx hb hts hiX2 tyX2 tyX2_ok nmX2 hown hK hP hD hS 0 rfl rfl 4 (by decide) f25 (fun _ h9 => h9) rfl (by decide +kernel) rfl rfl (Nat.le_of_ble_eq_true rfl) dX2_goBackTo_45 (fun H locs hP hD hS => ?_)
      have hP : va_P (dC, dI) ksCl [(ta, .inr (2, [.ref tb, .ref tr, .int (nI k), .int v28, .int v45])), (tb, .inl (cB, 16, .inl B)), (tr, .inl (cR, 16, .inl Rs))] H := hP
      have hD : va_D A [(ta, .inr (2, [.ref tb, .ref tr, .int (nI k), .int v28, .int v45])), (tb, .inl (cB, 16, .inl B)), (tr, .inl (cR, 16, .inl Rs))] := hD
      refine lv_iinc (v := nI (j + 1)) (lv' := [(2, .int (nI (j + 1))), (0, .ref ta), (1, .int (nI mk))]) hx hb dX2_goBackTo_48 hl (k := 2) rfl (nI_1 _) (by decide) rfl (fun ls hl => ?_)
      refine lv_goto (tgt := 6) hx hb dX2_goBackTo_51 (by decide) ?_
      exact ih (j + 1, v28, v45) _ _ _ ⟨by omega, hjk, by omega, by rw [ev28]; exact i4.step i1, by rw [ev45]; exact i5.step i1, hP, hD, hS, lv_sub hl [1, 2, 0] rfl⟩
  · intro x H locs ls h9
    obtain ⟨i1, i2, i3, i4, i5, -, -, -, -⟩ := h9
    try dsimp only at i1 i2 i3
    omega
end
section
set_option maxHeartbeats 4000000 in
set_option maxRecDepth 100000 in
/-- firstFree -/
theorem ks_firstFree (l : Launch) (dC : Nat → ClassId) (dI : Nat → Nat → Nat) (ta tb tr : Nat) (cB cR : ClassId) (B Rs : Nat → Int32) (k o z : Int32) (N : Nat) (hN : N ≤ 16) : ks_Mi l yX2_firstFree wsX2_firstFree ({ frames := 0, cells := 0, slots := 0, locals := 0 }) (dC, dI) [.ref ta, .int (nI N)] [(ta, .inr (2, [.ref tb, .ref tr, .int k, .int o, .int z])), (tb, .inl (cB, 16, .inl B)), (tr, .inl (cR, 16, .inl Rs))] [(cB, .int), (cR, .int)] 0 0 (S := Unit) (fun r _ => ks_ff N o z r) (fun _ => [(ta, .inr (2, [.ref tb, .ref tr, .int k, .int o, .int z])), (tb, .inl (cB, 16, .inl B)), (tr, .inl (cR, 16, .inl Rs))]) (fun _ => [(cB, .int), (cR, .int)]) := by
  intro sz
  refine Met.ofW (cc := cX2_firstFree) (maxL := 4) (ret := (some .int)) (by decide) rfl ?_
  intro p e s m args below meth c s₁ B9 hml hv
  obtain ⟨rfl, hsz, hP, hK, hD0, hNW⟩ := hv
  have hx := B9.exec
  have hb := B9.bytes
  have hr := B9.returns
  have hts := atoms_spec (ws := wsX2_firstFree) B9.pre
  have hown : s.vm.findClass RX2 = some m.cls := findClass_of_methodNamed B9.named
  have hlocks := B9.notSynchronized
  subst hsz
  have hD := hD0.self (sz := s.heap.size)
  generalize hAe : va_A [(ta, .inr (2, [.ref tb, .ref tr, .int k, .int o, .int z])), (tb, .inl (cB, 16, .inl B)), (tr, .inl (cR, 16, .inl Rs))] s.heap.size = A at hD ⊢
  have hA : ∀ q : Nat, s.heap.size ≤ q → A q := fun q h => by rw [← hAe]; exact Or.inr h
  have hS : va_S A s.heap s.heap [] := va_S.rf
  have hiX2 : ∀ w ∈ u_ws RX2 TX2 5, w ∈ wsX2_firstFree := by decide +kernel
  have f22 := hts (.fieldLink RX2 22 "LessonSolver$Trail" "ones" "I") (by decide +kernel)
  have f25 := hts (.fieldLink RX2 25 "LessonSolver$Trail" "zeros" "I") (by decide +kernel)
  have hl := lv_entry ([.ref ta, .int (nI N)]) (n := 4) (Nat.le_of_ble_eq_true rfl)
  rw [lg_entry_eq]
  generalize (lg_sl ([.ref ta, .int (nI N)]) ++ List.replicate (4 - (lg_sl ([.ref ta, .int (nI N)])).length) Slot.unset).toArray = ls at hl ⊢
  have hl : lv_has ls 4 [(0, .ref ta), (1, .int (nI N))] := hl
  refine lv_iload_n hx hb dX2_firstFree_0 rfl (lv_at hl 1 rfl) ?_
  refine lv_iconst (v := 1) hx hb dX2_firstFree_1 (by decide) ?_
  refine lv_isub hx hb dX2_firstFree_2 ?_
  refine lv_istore_n (lv' := [(2, .int ((nI N) - 1)), (0, .ref ta), (1, .int (nI N))]) hx hb dX2_firstFree_3 rfl hl (by decide) rfl (fun ls hl => ?_)
  refine ks_wl (σ := Nat) (fun n x H locs ls => (x ≤ N) ∧ (n = x + 1) ∧ (∀ q, x ≤ q → q < N → ¬ ks_fr o z q) ∧ va_P (dC, dI) ksCl [(ta, .inr (2, [.ref tb, .ref tr, .int k, .int o, .int z])), (tb, .inl (cB, 16, .inl B)), (tr, .inl (cR, 16, .inl Rs))] H ∧ va_D A [(ta, .inr (2, [.ref tb, .ref tr, .int k, .int o, .int z])), (tb, .inl (cB, 16, .inl B)), (tr, .inl (cR, 16, .inl Rs))] ∧ va_S A s.heap H locs ∧ lv_has ls 4 [(0, .ref ta), (2, .int (nI x - 1))]) 4 ?_ ?_ (N + 1) N _ _ ls ⟨Nat.le_refl N, rfl, fun q h1 h2 => absurd h1 (by omega), hP, hD, hS, lv_sub hl [1, 0] rfl⟩
  · -- loop at 4
    intro n x H locs ls h9 ih
    obtain ⟨j, rfl⟩ : ∃ z, z = x := ⟨_, rfl⟩
    obtain ⟨i1, i2, i3, hP, hD, hS, hl⟩ := h9
    have i1 : j ≤ N := i1
    have i2 : (n + 1) = j + 1 := i2
    have i3 : ∀ q, j ≤ q → q < N → ¬ ks_fr o z q := i3
    have hP : va_P (dC, dI) ksCl [(ta, .inr (2, [.ref tb, .ref tr, .int k, .int o, .int z])), (tb, .inl (cB, 16, .inl B)), (tr, .inl (cR, 16, .inl Rs))] H := hP
    have hD : va_D A [(ta, .inr (2, [.ref tb, .ref tr, .int k, .int o, .int z])), (tb, .inl (cB, 16, .inl B)), (tr, .inl (cR, 16, .inl Rs))] := hD
    have hl : lv_has ls 4 [(0, .ref ta), (2, .int (nI j - 1))] := hl
    cases j with
    | zero =>
      have hl : lv_has ls 4 [(0, .ref ta), (2, .int (-1))] := hl
      refine lv_iload_n hx hb dX2_firstFree_4 rfl (lv_at hl 1 rfl) ?_
      refine lv_if_lt (tgt := 34) hx hb dX2_firstFree_5 (by decide) (fun c5 => ?_) (fun c5 => absurd (by decide) c5)
      refine lv_iconst (v := 0) hx hb dX2_firstFree_34 (by decide) ?_
      have hP9 : va_P (dC, dI) ksCl [(ta, .inr (2, [.ref tb, .ref tr, .int k, .int o, .int z])), (tb, .inl (cB, 16, .inl B)), (tr, .inl (cR, 16, .inl Rs))] _ := hP
      have hD9 : va_D A [(ta, .inr (2, [.ref tb, .ref tr, .int k, .int o, .int z])), (tb, .inl (cB, 16, .inl B)), (tr, .inl (cR, 16, .inl Rs))] := hD
      have hK9 : va_K (dC, dI) ksCl [(cB, .int), (cR, .int)] s := hK
      exact W.iret (v := 0) hx hb hr (fun t ht hW9 => ⟨⟨0, (), rfl, Or.inl ⟨rfl, fun q hq => i3 q (Nat.zero_le q) hq⟩, by rw [ht]; exact hP9, va_K.moved hW9.alike hK9, hD9⟩, hS.F ht⟩) hS.2.2 dX2_firstFree_35
    | succ j =>
      rw [nI_pred] at hl
      have hl : lv_has ls 4 [(0, .ref ta), (2, .int (nI j))] := hl
      refine lv_iload_n hx hb dX2_firstFree_4 rfl (lv_at hl 1 rfl) ?_
      refine lv_if_lt (tgt := 34) hx hb dX2_firstFree_5 (by decide) (fun c5 => absurd c5 (nI_pos (by omega))) (fun c5 => ?_)
      refine lv_iconst (v := 1) hx hb dX2_firstFree_8 (by decide) ?_
      refine lv_iload_n hx hb dX2_firstFree_9 rfl (lv_at hl 1 rfl) ?_
      refine lv_ishl hx hb dX2_firstFree_10 ?_
      refine ks_top (y := ks_on j) (rfl) ?_
      refine lv_istore_n (lv' := [(3, .int (ks_on j)), (0, .ref ta), (2, .int (nI j))]) hx hb dX2_firstFree_11 rfl hl (by decide) rfl (fun ls hl => ?_)
      refine lv_aload_n hx hb dX2_firstFree_12 rfl (lv_at hl 1 rfl) ?_
      refine va_get (D := (dC, dI)) (ci := 2) (v := .int o) (C := RX2) (T := TX2) (N := 5) hx hb hts hiX2 hown hK hP 0 rfl rfl 3 (by decide) f22 (fun _ h9 => h9) rfl dX2_firstFree_13 ?_
      refine lv_aload_n hx hb dX2_firstFree_16 rfl (lv_at hl 1 rfl) ?_
      refine va_get (D := (dC, dI)) (ci := 2) (v := .int z) (C := RX2) (T := TX2) (N := 5) hx hb hts hiX2 hown hK hP 0 rfl rfl 4 (by decide) f25 (fun _ h9 => h9) rfl dX2_firstFree_17 ?_
      refine lv_ior hx hb dX2_firstFree_20 ?_
      refine lv_iload_n hx hb dX2_firstFree_21 rfl (lv_at hl 0 rfl) ?_
      refine lv_iand hx hb dX2_firstFree_22 ?_
      refine lv_if_ne (tgt := 28) hx hb dX2_firstFree_23 (by decide) (fun c23 => ?_) (fun c23 => ?_)
      · -- 23: jumps
        have b1 := (ks_tst1 (by omega)).mp c23
        have j3 : ∀ q, j ≤ q → q < N → ¬ ks_fr o z q := by
          intro q h1 h2
          by_cases e : q = j
          · subst e
            intro hf
            rw [b_or, hf.1, hf.2] at b1
            cases b1
          · exact i3 q (by omega) h2
        refine lv_iinc (v := nI j - 1) (lv' := [(2, .int (nI j - 1)), (3, .int (ks_on j)), (0, .ref ta)]) hx hb dX2_firstFree_28 hl (k := 2) rfl (by rw [Int32.sub_eq_add_neg]; rfl) (by decide) rfl (fun ls hl => ?_)
        refine lv_goto (tgt := 4) hx hb dX2_firstFree_31 (by decide) ?_
        exact ih j _ _ _ ⟨by omega, by omega, j3, hP, hD, hS, lv_sub hl [2, 0] rfl⟩
      · -- 23: goes on
        have b0 := ks_fr_of ((ks_tst (by omega)).mp c23)
        refine lv_iload_n hx hb dX2_firstFree_26 rfl (lv_at hl 0 rfl) ?_
        have hP9 : va_P (dC, dI) ksCl [(ta, .inr (2, [.ref tb, .ref tr, .int k, .int o, .int z])), (tb, .inl (cB, 16, .inl B)), (tr, .inl (cR, 16, .inl Rs))] _ := hP
        have hD9 : va_D A [(ta, .inr (2, [.ref tb, .ref tr, .int k, .int o, .int z])), (tb, .inl (cB, 16, .inl B)), (tr, .inl (cR, 16, .inl Rs))] := hD
        have hK9 : va_K (dC, dI) ksCl [(cB, .int), (cR, .int)] s := hK
        exact W.iret (v := ks_on j) hx hb hr (fun t ht hW9 => ⟨⟨ks_on j, (), rfl, Or.inr ⟨j, by omega, rfl, b0, fun q h1 h2 => i3 q h1 h2⟩, by rw [ht]; exact hP9, va_K.moved hW9.alike hK9, hD9⟩, hS.F ht⟩) hS.2.2 dX2_firstFree_27
  · intro x H locs ls h9
    obtain ⟨i1, i2, i3, -, -, -, -⟩ := h9
    skip
    omega
end
section
set_option maxHeartbeats 4000000 in
set_option maxRecDepth 100000 in
/-- rootsOf -/
theorem ks_rootsOf (l : Launch) (dC : Nat → ClassId) (dI : Nat → Nat → Nat) (ta tb tr : Nat) (cB cR : ClassId) (B Rs : Nat → Int32) (k : Nat) (o z cf : Int32) (N : Nat) (P M : Nat → Int32) (nr : Nat) (hN : N ≤ 16) (hR : ks_R N P M nr B Rs k o z) : ks_Mi l yX2_rootsOf wsX2_rootsOf ({ frames := 0, cells := 0, slots := 0, locals := 0 }) (dC, dI) [.ref ta, .int cf] [(ta, .inr (2, [.ref tb, .ref tr, .int (nI k), .int o, .int z])), (tb, .inl (cB, 16, .inl B)), (tr, .inl (cR, 16, .inl Rs))] [(cB, .int), (cR, .int)] 0 0 (S := Unit) (fun r _ => ∃ V, ks_C B Rs k 0 cf V r) (fun _ => [(ta, .inr (2, [.ref tb, .ref tr, .int (nI k), .int o, .int z])), (tb, .inl (cB, 16, .inl B)), (tr, .inl (cR, 16, .inl Rs))]) (fun _ => [(cB, .int), (cR, .int)]) := by
  intro sz
  refine Met.ofW (cc := cX2_rootsOf) (maxL := 5) (ret := (some .int)) (by decide) rfl ?_
  intro p e s m args below meth c s₁ B9 hml hv
  obtain ⟨rfl, hsz, hP, hK, hD0, hNW⟩ := hv
  have hx := B9.exec
  have hb := B9.bytes
  have hr := B9.returns
  have hts := atoms_spec (ws := wsX2_rootsOf) B9.pre
  have hown : s.vm.findClass RX2 = some m.cls := findClass_of_methodNamed B9.named
  have hlocks := B9.notSynchronized
  subst hsz
  have hD := hD0.self (sz := s.heap.size)
  generalize hAe : va_A [(ta, .inr (2, [.ref tb, .ref tr, .int (nI k), .int o, .int z])), (tb, .inl (cB, 16, .inl B)), (tr, .inl (cR, 16, .inl Rs))] s.heap.size = A at hD ⊢
  have hA : ∀ q : Nat, s.heap.size ≤ q → A q := fun q h => by rw [← hAe]; exact Or.inr h
  have hS : va_S A s.heap s.heap [] := va_S.rf
  have hiX2 : ∀ w ∈ u_ws RX2 TX2 5, w ∈ wsX2_rootsOf := by decide +kernel
  have f9 := hts (.fieldLink RX2 9 "LessonSolver$Trail" "bits" "[I") (by decide +kernel)
  have f15 := hts (.fieldLink RX2 15 "LessonSolver$Trail" "reasons" "[I") (by decide +kernel)
  have f18 := hts (.fieldLink RX2 18 "LessonSolver$Trail" "length" "I") (by decide +kernel)
  have hl := lv_entry ([.ref ta, .int cf]) (n := 5) (Nat.le_of_ble_eq_true rfl)
  rw [lg_entry_eq]
  generalize (lg_sl ([.ref ta, .int cf]) ++ List.replicate (5 - (lg_sl ([.ref ta, .int cf])).length) Slot.unset).toArray = ls at hl ⊢
  have hl : lv_has ls 5 [(0, .ref ta), (1, .int cf)] := hl
  have hkN := hR.le
  refine lv_iload_n hx hb dX2_rootsOf_0 rfl (lv_at hl 1 rfl) ?_
  refine lv_istore_n (lv' := [(2, .int cf), (0, .ref ta), (1, .int cf)]) hx hb dX2_rootsOf_1 rfl hl (by decide) rfl (fun ls hl => ?_)
  refine lv_iconst (v := 0) hx hb dX2_rootsOf_2 (by decide) ?_
  refine lv_istore_n (lv' := [(3, .int 0), (2, .int cf), (0, .ref ta), (1, .int cf)]) hx hb dX2_rootsOf_3 rfl hl (by decide) rfl (fun ls hl => ?_)
  refine lv_aload_n hx hb dX2_rootsOf_4 rfl (lv_at hl 2 rfl) ?_
  refine va_get (D := (dC, dI)) (ci := 2) (v := .int (nI k)) (C := RX2) (T := TX2) (N := 5) hx hb hts hiX2 hown hK hP 0 rfl rfl 2 (by decide) f18 (fun _ h9 => h9) rfl dX2_rootsOf_5 ?_
  refine lv_iconst (v := 1) hx hb dX2_rootsOf_8 (by decide) ?_
  refine lv_isub hx hb dX2_rootsOf_9 ?_
  refine lv_istore (lv' := [(4, .int ((nI k) - 1)), (3, .int 0), (2, .int cf), (0, .ref ta), (1, .int cf)]) hx hb dX2_rootsOf_10 hl (by decide) rfl (fun ls hl => ?_)
  refine ks_wl (σ := Nat × Int32 × Int32) (fun n x H locs ls => (x.1 ≤ k) ∧ (n = x.1 + 1) ∧ (ks_C B Rs k x.1 cf x.2.1 x.2.2) ∧ va_P (dC, dI) ksCl [(ta, .inr (2, [.ref tb, .ref tr, .int (nI k), .int o, .int z])), (tb, .inl (cB, 16, .inl B)), (tr, .inl (cR, 16, .inl Rs))] H ∧ va_D A [(ta, .inr (2, [.ref tb, .ref tr, .int (nI k), .int o, .int z])), (tb, .inl (cB, 16, .inl B)), (tr, .inl (cR, 16, .inl Rs))] ∧ va_S A s.heap H locs ∧ lv_has ls 5 [(0, .ref ta), (2, .int x.2.1), (3, .int x.2.2), (4, .int (nI x.1 - 1))]) 12 ?_ ?_ (k + 1) (k, cf, 0) _ _ ls ⟨Nat.le_refl k, rfl, ks_C.init B Rs k cf, hP, hD, hS, lv_sub hl [3, 2, 1, 0] rfl⟩
  · -- loop at 12
    intro n x H locs ls h9 ih
    obtain ⟨j, V, r⟩ := x
    obtain ⟨i1, i2, i3, hP, hD, hS, hl⟩ := h9
    have i1 : j ≤ k := i1
    have i2 : (n + 1) = j + 1 := i2
    have i3 : ks_C B Rs k j cf V r := i3
    have hP : va_P (dC, dI) ksCl [(ta, .inr (2, [.ref tb, .ref tr, .int (nI k), .int o, .int z])), (tb, .inl (cB, 16, .inl B)), (tr, .inl (cR, 16, .inl Rs))] H := hP
    have hD : va_D A [(ta, .inr (2, [.ref tb, .ref tr, .int (nI k), .int o, .int z])), (tb, .inl (cB, 16, .inl B)), (tr, .inl (cR, 16, .inl Rs))] := hD
    have hl : lv_has ls 5 [(0, .ref ta), (2, .int V), (3, .int r), (4, .int (nI j - 1))] := hl
    cases j with
    | zero =>
      have hl : lv_has ls 5 [(0, .ref ta), (2, .int V), (3, .int r), (4, .int (-1))] := hl
      refine lv_iload hx hb dX2_rootsOf_12 (lv_at hl 3 rfl) ?_
      refine lv_if_lt (tgt := 71) hx hb dX2_rootsOf_14 (by decide) (fun c14 => ?_) (fun c14 => absurd (by decide) c14)
      refine lv_iload_n hx hb dX2_rootsOf_71 rfl (lv_at hl 2 rfl) ?_
      have hP9 : va_P (dC, dI) ksCl [(ta, .inr (2, [.ref tb, .ref tr, .int (nI k), .int o, .int z])), (tb, .inl (cB, 16, .inl B)), (tr, .inl (cR, 16, .inl Rs))] _ := hP
      have hD9 : va_D A [(ta, .inr (2, [.ref tb, .ref tr, .int (nI k), .int o, .int z])), (tb, .inl (cB, 16, .inl B)), (tr, .inl (cR, 16, .inl Rs))] := hD
      have hK9 : va_K (dC, dI) ksCl [(cB, .int), (cR, .int)] s := hK
      exact W.iret (v := r) hx hb hr (fun t ht hW9 => ⟨⟨r, (), rfl, ⟨V, i3⟩, by rw [ht]; exact hP9, va_K.moved hW9.alike hK9, hD9⟩, hS.F ht⟩) hS.2.2 dX2_rootsOf_72
    | succ j =>
      rw [nI_pred] at hl
      have hl : lv_has ls 5 [(0, .ref ta), (2, .int V), (3, .int r), (4, .int (nI j))] := hl
      refine lv_iload hx hb dX2_rootsOf_12 (lv_at hl 3 rfl) ?_
      refine lv_if_lt (tgt := 71) hx hb dX2_rootsOf_14 (by decide) (fun c14 => absurd c14 (nI_pos (by omega))) (fun c14 => ?_)
      refine lv_iload_n hx hb dX2_rootsOf_17 rfl (lv_at hl 1 rfl) ?_
      refine lv_aload_n hx hb dX2_rootsOf_18 rfl (lv_at hl 0 rfl) ?_
      refine va_get (D := (dC, dI)) (ci := 2) (v := .ref tb) (C := RX2) (T := TX2) (N := 5) hx hb hts hiX2 hown hK hP 0 rfl rfl 0 (by decide) f9 (fun _ h9 => h9) rfl dX2_rootsOf_19 ?_
      refine lv_iload hx hb dX2_rootsOf_22 (lv_at hl 3 rfl) ?_
      refine ks_ald hx hb hK hP 1 0 rfl rfl (j := j) (by omega) (by decide) dX2_rootsOf_24 ?_
      refine lv_iand hx hb dX2_rootsOf_25 ?_
      refine lv_if_ne (tgt := 32) hx hb dX2_rootsOf_26 (by decide) (fun c26 => ?_) (fun c26 => ?_)
      · -- 26: jumps
        refine lv_aload_n hx hb dX2_rootsOf_32 rfl (lv_at hl 0 rfl) ?_
        refine va_get (D := (dC, dI)) (ci := 2) (v := .ref tr) (C := RX2) (T := TX2) (N := 5) hx hb hts hiX2 hown hK hP 0 rfl rfl 1 (by decide) f15 (fun _ h9 => h9) rfl dX2_rootsOf_33 ?_
        refine lv_iload hx hb dX2_rootsOf_36 (lv_at hl 3 rfl) ?_
        refine ks_ald hx hb hK hP 2 1 rfl rfl (j := j) (by omega) (by decide) dX2_rootsOf_38 ?_
        refine lv_if_ne (tgt := 55) hx hb dX2_rootsOf_39 (by decide) (fun c39 => ?_) (fun c39 => ?_)
        · -- 39: jumps
          have j3 := ks_C.more hR hN i3 (by omega) c39
          refine lv_iload_n hx hb dX2_rootsOf_55 rfl (lv_at hl 1 rfl) ?_
          refine lv_aload_n hx hb dX2_rootsOf_56 rfl (lv_at hl 0 rfl) ?_
          refine va_get (D := (dC, dI)) (ci := 2) (v := .ref tr) (C := RX2) (T := TX2) (N := 5) hx hb hts hiX2 hown hK hP 0 rfl rfl 1 (by decide) f15 (fun _ h9 => h9) rfl dX2_rootsOf_57 ?_
          refine lv_iload hx hb dX2_rootsOf_60 (lv_at hl 3 rfl) ?_
          refine ks_ald hx hb hK hP 2 1 rfl rfl (j := j) (by omega) (by decide) dX2_rootsOf_62 ?_
          refine lv_ior hx hb dX2_rootsOf_63 ?_
          refine lv_istore_n (lv' := [(2, .int (V ||| (Rs j))), (0, .ref ta), (3, .int r), (4, .int (nI j))]) hx hb dX2_rootsOf_64 rfl hl (by decide) rfl (fun ls hl => ?_)
          refine lv_iinc (v := nI j - 1) (lv' := [(4, .int (nI j - 1)), (2, .int (V ||| (Rs j))), (0, .ref ta), (3, .int r)]) hx hb dX2_rootsOf_65 hl (k := 3) rfl (by rw [Int32.sub_eq_add_neg]; rfl) (by decide) rfl (fun ls hl => ?_)
          refine lv_goto (tgt := 12) hx hb dX2_rootsOf_68 (by decide) ?_
          exact ih (j, V ||| (Rs j), r) _ _ _ ⟨by omega, by omega, j3, hP, hD, hS, lv_sub hl [2, 1, 3, 0] rfl⟩
        · -- 39: goes on
          have j3 := i3.root (by omega) c39
          refine lv_iload_n hx hb dX2_rootsOf_42 rfl (lv_at hl 2 rfl) ?_
          refine lv_aload_n hx hb dX2_rootsOf_43 rfl (lv_at hl 0 rfl) ?_
          refine va_get (D := (dC, dI)) (ci := 2) (v := .ref tb) (C := RX2) (T := TX2) (N := 5) hx hb hts hiX2 hown hK hP 0 rfl rfl 0 (by decide) f9 (fun _ h9 => h9) rfl dX2_rootsOf_44 ?_
          refine lv_iload hx hb dX2_rootsOf_47 (lv_at hl 3 rfl) ?_
          refine ks_ald hx hb hK hP 1 0 rfl rfl (j := j) (by omega) (by decide) dX2_rootsOf_49 ?_
          refine lv_ior hx hb dX2_rootsOf_50 ?_
          refine lv_istore_n (lv' := [(3, .int (r ||| (B j))), (0, .ref ta), (2, .int V), (4, .int (nI j))]) hx hb dX2_rootsOf_51 rfl hl (by decide) rfl (fun ls hl => ?_)
          refine lv_goto (tgt := 65) hx hb dX2_rootsOf_52 (by decide) ?_
          refine lv_iinc (v := nI j - 1) (lv' := [(4, .int (nI j - 1)), (3, .int (r ||| (B j))), (0, .ref ta), (2, .int V)]) hx hb dX2_rootsOf_65 hl (k := 3) rfl (by rw [Int32.sub_eq_add_neg]; rfl) (by decide) rfl (fun ls hl => ?_)
          refine lv_goto (tgt := 12) hx hb dX2_rootsOf_68 (by decide) ?_
          exact ih (j, V, r ||| (B j)) _ _ _ ⟨by omega, by omega, j3, hP, hD, hS, lv_sub hl [2, 3, 1, 0] rfl⟩
      · -- 26: goes on
        have j3 := i3.skip c26
        refine lv_goto (tgt := 65) hx hb dX2_rootsOf_29 (by decide) ?_
        refine lv_iinc (v := nI j - 1) (lv' := [(4, .int (nI j - 1)), (0, .ref ta), (2, .int V), (3, .int r)]) hx hb dX2_rootsOf_65 hl (k := 3) rfl (by rw [Int32.sub_eq_add_neg]; rfl) (by decide) rfl (fun ls hl => ?_)
        refine lv_goto (tgt := 12) hx hb dX2_rootsOf_68 (by decide) ?_
        exact ih (j, V, r) _ _ _ ⟨by omega, by omega, j3, hP, hD, hS, lv_sub hl [1, 2, 3, 0] rfl⟩
  · intro x H locs ls h9
    obtain ⟨i1, i2, i3, -, -, -, -⟩ := h9
    try dsimp only at i1 i2
    omega
end
section
set_option maxHeartbeats 4000000 in
set_option maxRecDepth 100000 in
/-- propagate -/
theorem ks_propagate (l : Launch) (dC : Nat → ClassId) (dI : Nat → Nat → Nat) (ta tb tr : Nat) (cB cR : ClassId) (ra rp rq : Nat) (cP cM : ClassId) (B0 Rs0 : Nat → Int32) (k0 : Nat) (o0 z0 : Int32) (N : Nat) (P M : Nat → Int32) (g nr : Nat) (hN : N ≤ 16) (hR : ks_R N P M nr B0 Rs0 k0 o0 z0) (hW : ks_W N P M g nr) (hg : g ≤ 600) : ks_Mi l yX2_propagate wsX2_propagate ({ frames := 1, cells := 0, slots := 0, locals := 23 }) (dC, dI) [.ref ta, .ref ra] [(ta, .inr (2, [.ref tb, .ref tr, .int (nI k0), .int o0, .int z0])), (tb, .inl (cB, 16, .inl B0)), (tr, .inl (cR, 16, .inl Rs0)), (ra, .inr (0, [.ref rp, .ref rq, .int (nI g), .int (nI nr)])), (rp, .inl (cP, 664, .inl P)), (rq, .inl (cM, 664, .inl M))] [(cB, .int), (cR, .int), (cP, .int), (cM, .int)] 0 0 (S := (Nat → Int32) × (Nat → Int32) × Nat × Int32 × Int32) (fun r u => ks_pp N P M nr B0 Rs0 k0 o0 z0 r u.1 u.2.1 u.2.2.1 u.2.2.2.1 u.2.2.2.2) (fun u => [(ta, .inr (2, [.ref tb, .ref tr, .int (nI u.2.2.1), .int u.2.2.2.1, .int u.2.2.2.2])), (tb, .inl (cB, 16, .inl u.1)), (tr, .inl (cR, 16, .inl u.2.1)), (ra, .inr (0, [.ref rp, .ref rq, .int (nI g), .int (nI nr)])), (rp, .inl (cP, 664, .inl P)), (rq, .inl (cM, 664, .inl M))]) (fun u => [(cB, .int), (cR, .int), (cP, .int), (cM, .int)]) := by
  intro sz
  refine Met.ofW (cc := cX2_propagate) (maxL := 7) (ret := (some .int)) (by decide) rfl ?_
  intro p e s m args below meth c s₁ B9 hml hv
  obtain ⟨rfl, hsz, hP, hK, hD0, hNW⟩ := hv
  have hx := B9.exec
  have hb := B9.bytes
  have hr := B9.returns
  have hts := atoms_spec (ws := wsX2_propagate) B9.pre
  have hown : s.vm.findClass RX2 = some m.cls := findClass_of_methodNamed B9.named
  have hlocks := B9.notSynchronized
  subst hsz
  have hD := hD0.self (sz := s.heap.size)
  generalize hAe : va_A [(ta, .inr (2, [.ref tb, .ref tr, .int (nI k0), .int o0, .int z0])), (tb, .inl (cB, 16, .inl B0)), (tr, .inl (cR, 16, .inl Rs0)), (ra, .inr (0, [.ref rp, .ref rq, .int (nI g), .int (nI nr)])), (rp, .inl (cP, 664, .inl P)), (rq, .inl (cM, 664, .inl M))] s.heap.size = A at hD ⊢
  have hA : ∀ q : Nat, s.heap.size ≤ q → A q := fun q h => by rw [← hAe]; exact Or.inr h
  have hS : va_S A s.heap s.heap [] := va_S.rf
  have hiX0 : ∀ w ∈ u_ws RX0 TX0 4, w ∈ wsX2_propagate := by decide +kernel
  have hiX2 : ∀ w ∈ u_ws RX2 TX2 5, w ∈ wsX2_propagate := by decide +kernel
  have f18 := hts (.fieldLink RX2 18 "LessonSolver$Trail" "length" "I") (by decide +kernel)
  have f22 := hts (.fieldLink RX2 22 "LessonSolver$Trail" "ones" "I") (by decide +kernel)
  have f25 := hts (.fieldLink RX2 25 "LessonSolver$Trail" "zeros" "I") (by decide +kernel)
  have f41 := va_Nw.use (A := ([.ref ta, .ref ra] : List Value).toArray) rfl (hNW (.fieldLinkNest RX2 41 "LessonSolver$ClauseRow" "size" "I" "LessonSolver") (by decide +kernel))
  have f46 := va_Nw.use (A := ([.ref ta, .ref ra] : List Value).toArray) rfl (hNW (.fieldLinkNest RX2 46 "LessonSolver$ClauseRow" "plus" "[I" "LessonSolver") (by decide +kernel))
  have f49 := va_Nw.use (A := ([.ref ta, .ref ra] : List Value).toArray) rfl (hNW (.fieldLinkNest RX2 49 "LessonSolver$ClauseRow" "minus" "[I" "LessonSolver") (by decide +kernel))
  have hl := lv_entry ([.ref ta, .ref ra]) (n := 7) (Nat.le_of_ble_eq_true rfl)
  rw [lg_entry_eq]
  generalize (lg_sl ([.ref ta, .ref ra]) ++ List.replicate (7 - (lg_sl ([.ref ta, .ref ra])).length) Slot.unset).toArray = ls at hl ⊢
  have hl : lv_has ls 7 [(0, .ref ta), (1, .ref ra)] := hl
  have hnr : nr ≤ 664 := by have := hW.2.1; omega
  refine lv_iconst (v := nI 0) hx hb dX2_propagate_0 (by decide) ?_
  refine lv_istore_n (lv' := [(2, .int (nI 0)), (0, .ref ta), (1, .ref ra)]) hx hb dX2_propagate_1 rfl hl (by decide) rfl (fun ls hl => ?_)
  refine ks_wl (σ := Nat × (Nat → Int32) × (Nat → Int32) × Nat × Int32 × Int32) (fun n x H locs ls => (x.1 ≤ x.2.2.2.1) ∧ (n + x.1 = 18) ∧ (ks_R N P M nr x.2.1 x.2.2.1 x.2.2.2.1 x.2.2.2.2.1 x.2.2.2.2.2) ∧ (ks_X B0 Rs0 k0 o0 z0 x.2.1 x.2.2.1 x.2.2.2.1 x.2.2.2.2.1 x.2.2.2.2.2) ∧ (∀ a, ks_E o0 z0 a → ks_M P M nr a → ks_E x.2.2.2.2.1 x.2.2.2.2.2 a) ∧ (x.1 ≤ 17) ∧ va_P (dC, dI) ksCl [(ta, .inr (2, [.ref tb, .ref tr, .int (nI x.2.2.2.1), .int x.2.2.2.2.1, .int x.2.2.2.2.2])), (tb, .inl (cB, 16, .inl x.2.1)), (tr, .inl (cR, 16, .inl x.2.2.1)), (ra, .inr (0, [.ref rp, .ref rq, .int (nI g), .int (nI nr)])), (rp, .inl (cP, 664, .inl P)), (rq, .inl (cM, 664, .inl M))] H ∧ va_D A [(ta, .inr (2, [.ref tb, .ref tr, .int (nI x.2.2.2.1), .int x.2.2.2.2.1, .int x.2.2.2.2.2])), (tb, .inl (cB, 16, .inl x.2.1)), (tr, .inl (cR, 16, .inl x.2.2.1)), (ra, .inr (0, [.ref rp, .ref rq, .int (nI g), .int (nI nr)])), (rp, .inl (cP, 664, .inl P)), (rq, .inl (cM, 664, .inl M))] ∧ va_S A s.heap H locs ∧ lv_has ls 7 [(0, .ref ta), (1, .ref ra), (2, .int (nI x.1))]) 2 ?_ ?_ (18) (0, B0, Rs0, k0, o0, z0) _ _ ls ⟨Nat.zero_le _, rfl, hR, ks_X.rf, fun _ h _ => h, Nat.zero_le 17, hP, hD, hS, lv_sub hl [1, 2, 0] rfl⟩
  · -- loop at 2
    intro n1 x H locs ls h9 ih1
    obtain ⟨ps, Bp, Rp, kp, op, zp⟩ := x
    obtain ⟨w1, w2, w3, w4, w5, w6, hP, hD, hS, hl⟩ := h9
    have w1 : ps ≤ kp := w1
    have w2 : (n1 + 1) + ps = 18 := w2
    have w3 : ks_R N P M nr Bp Rp kp op zp := w3
    have w4 : ks_X B0 Rs0 k0 o0 z0 Bp Rp kp op zp := w4
    have w5 : ∀ a, ks_E o0 z0 a → ks_M P M nr a → ks_E op zp a := w5
    have w6 : ps ≤ 17 := w6
    have hP : va_P (dC, dI) ksCl [(ta, .inr (2, [.ref tb, .ref tr, .int (nI kp), .int op, .int zp])), (tb, .inl (cB, 16, .inl Bp)), (tr, .inl (cR, 16, .inl Rp)), (ra, .inr (0, [.ref rp, .ref rq, .int (nI g), .int (nI nr)])), (rp, .inl (cP, 664, .inl P)), (rq, .inl (cM, 664, .inl M))] H := hP
    have hD : va_D A [(ta, .inr (2, [.ref tb, .ref tr, .int (nI kp), .int op, .int zp])), (tb, .inl (cB, 16, .inl Bp)), (tr, .inl (cR, 16, .inl Rp)), (ra, .inr (0, [.ref rp, .ref rq, .int (nI g), .int (nI nr)])), (rp, .inl (cP, 664, .inl P)), (rq, .inl (cM, 664, .inl M))] := hD
    have hl : lv_has ls 7 [(0, .ref ta), (1, .ref ra), (2, .int (nI ps))] := hl
    refine lv_iload_n hx hb dX2_propagate_2 rfl (lv_at hl 2 rfl) ?_
    refine lv_bipush (v := nI 16) hx hb dX2_propagate_3 (by decide) ?_
    refine lv_icmp_gt (tgt := 156) hx hb dX2_propagate_5 (by decide) (fun c5 => absurd c5 (nI_nlt (by have := w3.le; omega) (by decide))) (fun c5 => ?_)
    refine lv_aload_n hx hb dX2_propagate_8 rfl (lv_at hl 0 rfl) ?_
    refine va_get (D := (dC, dI)) (ci := 2) (v := .int (nI kp)) (C := RX2) (T := TX2) (N := 5) hx hb hts hiX2 hown hK hP 0 rfl rfl 2 (by decide) f18 (fun _ h9 => h9) rfl dX2_propagate_9 ?_
    refine lv_istore_n (lv' := [(3, .int (nI kp)), (0, .ref ta), (1, .ref ra), (2, .int (nI ps))]) hx hb dX2_propagate_12 rfl hl (by decide) rfl (fun ls hl => ?_)
    refine lv_iconst (v := nI 0) hx hb dX2_propagate_13 (by decide) ?_
    refine lv_istore (lv' := [(4, .int (nI 0)), (3, .int (nI kp)), (0, .ref ta), (1, .ref ra), (2, .int (nI ps))]) hx hb dX2_propagate_14 hl (by decide) rfl (fun ls hl => ?_)
    refine ks_wl (σ := Nat × (Nat → Int32) × (Nat → Int32) × Nat × Int32 × Int32) (fun n x H locs ls => (x.1 ≤ nr) ∧ (n + x.1 = nr + 1) ∧ (ks_R N P M nr x.2.1 x.2.2.1 x.2.2.2.1 x.2.2.2.2.1 x.2.2.2.2.2) ∧ (ks_X Bp Rp kp op zp x.2.1 x.2.2.1 x.2.2.2.1 x.2.2.2.2.1 x.2.2.2.2.2) ∧ (∀ a, ks_E op zp a → ks_M P M nr a → ks_E x.2.2.2.2.1 x.2.2.2.2.2 a) ∧ (kp < x.2.2.2.1 ∨ ∀ q, q < x.1 → ks_U (P q) (M q) x.2.2.2.2.1 x.2.2.2.2.2) ∧ va_P (dC, dI) ksCl [(ta, .inr (2, [.ref tb, .ref tr, .int (nI x.2.2.2.1), .int x.2.2.2.2.1, .int x.2.2.2.2.2])), (tb, .inl (cB, 16, .inl x.2.1)), (tr, .inl (cR, 16, .inl x.2.2.1)), (ra, .inr (0, [.ref rp, .ref rq, .int (nI g), .int (nI nr)])), (rp, .inl (cP, 664, .inl P)), (rq, .inl (cM, 664, .inl M))] H ∧ va_D A [(ta, .inr (2, [.ref tb, .ref tr, .int (nI x.2.2.2.1), .int x.2.2.2.2.1, .int x.2.2.2.2.2])), (tb, .inl (cB, 16, .inl x.2.1)), (tr, .inl (cR, 16, .inl x.2.2.1)), (ra, .inr (0, [.ref rp, .ref rq, .int (nI g), .int (nI nr)])), (rp, .inl (cP, 664, .inl P)), (rq, .inl (cM, 664, .inl M))] ∧ va_S A s.heap H locs ∧ lv_has ls 7 [(0, .ref ta), (1, .ref ra), (2, .int (nI ps)), (3, .int (nI kp)), (4, .int (nI x.1))]) 16 ?_ ?_ (nr + 1) (0, Bp, Rp, kp, op, zp) _ _ ls ⟨Nat.zero_le _, rfl, w3, ks_X.rf, fun _ h _ => h, Or.inr (fun q hq => absurd hq (by omega)), hP, hD, hS, lv_sub hl [2, 3, 4, 1, 0] rfl⟩
    · -- loop at 16
      intro n2 x H locs ls h9 ih2
      obtain ⟨cq, B, Rs, k, o, z⟩ := x
      obtain ⟨i1, i2, i3, i4, i5, i6, hP, hD, hS, hl⟩ := h9
      have i1 : cq ≤ nr := i1
      have i2 : (n2 + 1) + cq = nr + 1 := i2
      have i3 : ks_R N P M nr B Rs k o z := i3
      have i4 : ks_X Bp Rp kp op zp B Rs k o z := i4
      have i5 : ∀ a, ks_E op zp a → ks_M P M nr a → ks_E o z a := i5
      have i6 : kp < k ∨ ∀ q, q < cq → ks_U (P q) (M q) o z := i6
      have hP : va_P (dC, dI) ksCl [(ta, .inr (2, [.ref tb, .ref tr, .int (nI k), .int o, .int z])), (tb, .inl (cB, 16, .inl B)), (tr, .inl (cR, 16, .inl Rs)), (ra, .inr (0, [.ref rp, .ref rq, .int (nI g), .int (nI nr)])), (rp, .inl (cP, 664, .inl P)), (rq, .inl (cM, 664, .inl M))] H := hP
      have hD : va_D A [(ta, .inr (2, [.ref tb, .ref tr, .int (nI k), .int o, .int z])), (tb, .inl (cB, 16, .inl B)), (tr, .inl (cR, 16, .inl Rs)), (ra, .inr (0, [.ref rp, .ref rq, .int (nI g), .int (nI nr)])), (rp, .inl (cP, 664, .inl P)), (rq, .inl (cM, 664, .inl M))] := hD
      have hl : lv_has ls 7 [(0, .ref ta), (1, .ref ra), (2, .int (nI ps)), (3, .int (nI kp)), (4, .int (nI cq))] := hl
      refine lv_iload hx hb dX2_propagate_16 (lv_at hl 4 rfl) ?_
      refine lv_aload_n hx hb dX2_propagate_18 rfl (lv_at hl 1 rfl) ?_
      refine va_getN (D := (dC, dI)) (ci := 0) (v := .int (nI nr)) (C := RX0) (T := TX0) (N := 4) hx hb hts hiX0 hown hK hP 3 rfl rfl 3 (by decide) f41 (fun _ h9 => h9) rfl dX2_propagate_19 ?_
      refine lv_icmp_ge (tgt := 139) hx hb dX2_propagate_22 (by decide) (fun c22 => ?_) (fun c22 => ?_)
      · -- 22: jumps
        have hc : nr ≤ cq := by
          rcases Nat.lt_or_ge cq nr with q | q
          · exact absurd c22 (nI_ge q (by omega))
          · exact q
        have ec : cq = nr := by omega
        rw [ec] at i6
        refine lv_aload_n hx hb dX2_propagate_139 rfl (lv_at hl 0 rfl) ?_
        refine va_get (D := (dC, dI)) (ci := 2) (v := .int (nI k)) (C := RX2) (T := TX2) (N := 5) hx hb hts hiX2 hown hK hP 0 rfl rfl 2 (by decide) f18 (fun _ h9 => h9) rfl dX2_propagate_140 ?_
        refine lv_iload_n hx hb dX2_propagate_143 rfl (lv_at hl 3 rfl) ?_
        refine lv_icmp_ne (tgt := 150) hx hb dX2_propagate_144 (by decide) (fun c144 => ?_) (fun c144 => ?_)
        · -- 144: jumps
          have hne : k ≠ kp := fun e => c144 (by rw [e])
          have hge : kp ≤ k := i4.1
          have hps : ps + 1 ≤ k := by omega
          have hps2 : ps + 1 ≤ 17 := by have := w3.le; omega
          refine lv_iinc (v := nI (ps + 1)) (lv' := [(2, .int (nI (ps + 1))), (0, .ref ta), (1, .ref ra), (3, .int (nI kp)), (4, .int (nI cq))]) hx hb dX2_propagate_150 hl (k := 2) rfl (nI_1 _) (by decide) rfl (fun ls hl => ?_)
          refine lv_goto (tgt := 2) hx hb dX2_propagate_153 (by decide) ?_
          exact ih1 (ps + 1, B, Rs, k, o, z) _ _ _ ⟨hps, by omega, i3, w4.tr i4, fun a h1 h2 => i5 a (w5 a h1 h2) h2, hps2, hP, hD, hS, lv_sub hl [1, 2, 0] rfl⟩
        · -- 144: goes on
          have hke : k = kp := (nI_eq (by have := i3.le; omega) (by have := w3.le; omega)).mp c144
          have hU : ∀ q, q < nr → ks_U (P q) (M q) o z := by
            rcases i6 with y | y
            · omega
            · exact y
          refine lv_goto (tgt := 156) hx hb dX2_propagate_147 (by decide) ?_
          refine lv_iconst (v := -1) hx hb dX2_propagate_156 (by decide) ?_
          have hP9 : va_P (dC, dI) ksCl [(ta, .inr (2, [.ref tb, .ref tr, .int (nI k), .int o, .int z])), (tb, .inl (cB, 16, .inl B)), (tr, .inl (cR, 16, .inl Rs)), (ra, .inr (0, [.ref rp, .ref rq, .int (nI g), .int (nI nr)])), (rp, .inl (cP, 664, .inl P)), (rq, .inl (cM, 664, .inl M))] _ := hP
          have hD9 : va_D A [(ta, .inr (2, [.ref tb, .ref tr, .int (nI k), .int o, .int z])), (tb, .inl (cB, 16, .inl B)), (tr, .inl (cR, 16, .inl Rs)), (ra, .inr (0, [.ref rp, .ref rq, .int (nI g), .int (nI nr)])), (rp, .inl (cP, 664, .inl P)), (rq, .inl (cM, 664, .inl M))] := hD
          have hK9 : va_K (dC, dI) ksCl [(cB, .int), (cR, .int), (cP, .int), (cM, .int)] s := hK
          exact W.iret (v := -1) hx hb hr (fun t ht hW9 => ⟨⟨-1, (B, Rs, k, o, z), rfl, ⟨i3, w4.tr i4, fun a h1 h2 => i5 a (w5 a h1 h2) h2, Or.inl ⟨rfl, hU⟩⟩, by rw [ht]; exact hP9, va_K.moved hW9.alike hK9, hD9⟩, hS.F ht⟩) hS.2.2 dX2_propagate_157
      · -- 22: goes on
        have hc : cq < nr := by
          rcases Nat.lt_or_ge cq nr with q | q
          · exact q
          · exact absurd (nI_le q (by omega)) c22
        have hok := hW.2.2.1 cq hc
        refine lv_aload_n hx hb dX2_propagate_25 rfl (lv_at hl 1 rfl) ?_
        refine va_getN (D := (dC, dI)) (ci := 0) (v := .ref rp) (C := RX0) (T := TX0) (N := 4) hx hb hts hiX0 hown hK hP 3 rfl rfl 0 (by decide) f46 (fun _ h9 => h9) rfl dX2_propagate_26 ?_
        refine lv_iload hx hb dX2_propagate_29 (lv_at hl 4 rfl) ?_
        refine ks_ald hx hb hK hP 4 2 rfl rfl (j := cq) (by omega) (by decide) dX2_propagate_31 ?_
        refine lv_aload_n hx hb dX2_propagate_32 rfl (lv_at hl 0 rfl) ?_
        refine va_get (D := (dC, dI)) (ci := 2) (v := .int o) (C := RX2) (T := TX2) (N := 5) hx hb hts hiX2 hown hK hP 0 rfl rfl 3 (by decide) f22 (fun _ h9 => h9) rfl dX2_propagate_33 ?_
        refine lv_iand hx hb dX2_propagate_36 ?_
        refine lv_aload_n hx hb dX2_propagate_37 rfl (lv_at hl 1 rfl) ?_
        refine va_getN (D := (dC, dI)) (ci := 0) (v := .ref rq) (C := RX0) (T := TX0) (N := 4) hx hb hts hiX0 hown hK hP 3 rfl rfl 1 (by decide) f49 (fun _ h9 => h9) rfl dX2_propagate_38 ?_
        refine lv_iload hx hb dX2_propagate_41 (lv_at hl 4 rfl) ?_
        refine ks_ald hx hb hK hP 5 3 rfl rfl (j := cq) (by omega) (by decide) dX2_propagate_43 ?_
        refine lv_aload_n hx hb dX2_propagate_44 rfl (lv_at hl 0 rfl) ?_
        refine va_get (D := (dC, dI)) (ci := 2) (v := .int z) (C := RX2) (T := TX2) (N := 5) hx hb hts hiX2 hown hK hP 0 rfl rfl 4 (by decide) f25 (fun _ h9 => h9) rfl dX2_propagate_45 ?_
        refine lv_iand hx hb dX2_propagate_48 ?_
        refine lv_ior hx hb dX2_propagate_49 ?_
        refine lv_if_eq (tgt := 56) hx hb dX2_propagate_50 (by decide) (fun c50 => ?_) (fun c50 => ?_)
        · -- 50: jumps
          have hns := ks_S_z.mp c50
          refine lv_aload_n hx hb dX2_propagate_56 rfl (lv_at hl 1 rfl) ?_
          refine va_getN (D := (dC, dI)) (ci := 0) (v := .ref rp) (C := RX0) (T := TX0) (N := 4) hx hb hts hiX0 hown hK hP 3 rfl rfl 0 (by decide) f46 (fun _ h9 => h9) rfl dX2_propagate_57 ?_
          refine lv_iload hx hb dX2_propagate_60 (lv_at hl 4 rfl) ?_
          refine ks_ald hx hb hK hP 4 2 rfl rfl (j := cq) (by omega) (by decide) dX2_propagate_62 ?_
          refine lv_aload_n hx hb dX2_propagate_63 rfl (lv_at hl 1 rfl) ?_
          refine va_getN (D := (dC, dI)) (ci := 0) (v := .ref rq) (C := RX0) (T := TX0) (N := 4) hx hb hts hiX0 hown hK hP 3 rfl rfl 1 (by decide) f49 (fun _ h9 => h9) rfl dX2_propagate_64 ?_
          refine lv_iload hx hb dX2_propagate_67 (lv_at hl 4 rfl) ?_
          refine ks_ald hx hb hK hP 5 3 rfl rfl (j := cq) (by omega) (by decide) dX2_propagate_69 ?_
          refine lv_ior hx hb dX2_propagate_70 ?_
          refine lv_istore (lv' := [(5, .int ((P cq) ||| (M cq))), (0, .ref ta), (1, .ref ra), (2, .int (nI ps)), (3, .int (nI kp)), (4, .int (nI cq))]) hx hb dX2_propagate_71 hl (by decide) rfl (fun ls hl => ?_)
          refine lv_iload hx hb dX2_propagate_73 (lv_at hl 0 rfl) ?_
          refine lv_aload_n hx hb dX2_propagate_75 rfl (lv_at hl 1 rfl) ?_
          refine va_get (D := (dC, dI)) (ci := 2) (v := .int o) (C := RX2) (T := TX2) (N := 5) hx hb hts hiX2 hown hK hP 0 rfl rfl 3 (by decide) f22 (fun _ h9 => h9) rfl dX2_propagate_76 ?_
          refine lv_aload_n hx hb dX2_propagate_79 rfl (lv_at hl 1 rfl) ?_
          refine va_get (D := (dC, dI)) (ci := 2) (v := .int z) (C := RX2) (T := TX2) (N := 5) hx hb hts hiX2 hown hK hP 0 rfl rfl 4 (by decide) f25 (fun _ h9 => h9) rfl dX2_propagate_80 ?_
          refine lv_ior hx hb dX2_propagate_83 ?_
          refine lv_iconst (v := -1) hx hb dX2_propagate_84 (by decide) ?_
          refine lv_ixor hx hb dX2_propagate_85 ?_
          refine lv_iand hx hb dX2_propagate_86 ?_
          refine lv_topi (fun v87 ev87 => ?_)
          refine lv_istore (lv' := [(6, .int v87), (5, .int ((P cq) ||| (M cq))), (0, .ref ta), (1, .ref ra), (2, .int (nI ps)), (3, .int (nI kp)), (4, .int (nI cq))]) hx hb dX2_propagate_87 hl (by decide) rfl (fun ls hl => ?_)
          refine lv_iload hx hb dX2_propagate_89 (lv_at hl 0 rfl) ?_
          refine lv_if_ne (tgt := 97) hx hb dX2_propagate_91 (by decide) (fun c91 => ?_) (fun c91 => ?_)
          · -- 91: jumps
            refine lv_iload hx hb dX2_propagate_97 (lv_at hl 0 rfl) ?_
            refine lv_iload hx hb dX2_propagate_99 (lv_at hl 0 rfl) ?_
            refine lv_iconst (v := 1) hx hb dX2_propagate_101 (by decide) ?_
            refine lv_isub hx hb dX2_propagate_102 ?_
            refine lv_iand hx hb dX2_propagate_103 ?_
            refine lv_if_ne (tgt := 133) hx hb dX2_propagate_104 (by decide) (fun c104 => ?_) (fun c104 => ?_)
            · -- 104: jumps
              have j3 := i3
              have j4 := i4
              have j5 := i5
              have hU : ks_U (P cq) (M cq) o z := by rw [ev87] at c91 c104; exact ks_fine c91 c104
              have j6 : kp < k ∨ ∀ q, q < cq + 1 → ks_U (P q) (M q) o z := by
                rcases i6 with y | y
                · exact Or.inl y
                · refine Or.inr (fun q hq => ?_)
                  by_cases e : q = cq
                  · rw [e]; exact hU
                  · exact y q (by omega)
              refine lv_iinc (v := nI (cq + 1)) (lv' := [(4, .int (nI (cq + 1))), (6, .int v87), (5, .int ((P cq) ||| (M cq))), (0, .ref ta), (1, .ref ra), (2, .int (nI ps)), (3, .int (nI kp))]) hx hb dX2_propagate_133 hl (k := 6) rfl (nI_1 _) (by decide) rfl (fun ls hl => ?_)
              refine lv_goto (tgt := 16) hx hb dX2_propagate_136 (by decide) ?_
              exact ih2 (cq + 1, B, Rs, k, o, z) _ _ _ ⟨hc, by omega, j3, j4, j5, j6, hP, hD, hS, lv_sub hl [3, 4, 5, 6, 0] rfl⟩
            · -- 104: goes on
              have hsg : v87 &&& (v87 - 1) = 0 := c104
              refine lv_aload_n hx hb dX2_propagate_107 rfl (lv_at hl 2 rfl) ?_
              refine lv_iload hx hb dX2_propagate_108 (lv_at hl 0 rfl) ?_
              refine lv_aload_n hx hb dX2_propagate_110 rfl (lv_at hl 3 rfl) ?_
              refine va_getN (D := (dC, dI)) (ci := 0) (v := .ref rp) (C := RX0) (T := TX0) (N := 4) hx hb hts hiX0 hown hK hP 3 rfl rfl 0 (by decide) f46 (fun _ h9 => h9) rfl dX2_propagate_111 ?_
              refine lv_iload hx hb dX2_propagate_114 (lv_at hl 6 rfl) ?_
              refine ks_ald hx hb hK hP 4 2 rfl rfl (j := cq) (by omega) (by decide) dX2_propagate_116 ?_
              refine lv_iload hx hb dX2_propagate_117 (lv_at hl 0 rfl) ?_
              refine lv_iand hx hb dX2_propagate_119 ?_
              refine lv_if_eq (tgt := 127) hx hb dX2_propagate_120 (by decide) (fun c120 => ?_) (fun c120 => ?_)
              · -- 120: jumps
                have hu := i3.unit hN hc hok.1 hok.2 hns ev87 c91 hsg false (⟨fun q => absurd q (by decide), fun q => absurd c120 q⟩)
                have hk1 := hu.1
                have j3 := hu.2.1
                have j4 := i4.tr (ks_X.assign v87 (P cq ||| M cq) false)
                have j5 := fun a h1 h2 => hu.2.2 a (i5 a h1 h2) (h2 cq hc)
                have j6 : kp < k + 1 ∨ ∀ q, q < cq + 1 → ks_U (P q) (M q) (if false = true then o ||| v87 else o) (if false = true then z else z ||| v87) := Or.inl (by have := i4.1; omega)
                refine lv_iconst (v := 0) hx hb dX2_propagate_127 (by decide) ?_
                refine lv_iload hx hb dX2_propagate_128 (lv_at hl 1 rfl) ?_
                refine ks_callvV (As := [.int v87, .int 0, .int ((P cq) ||| (M cq))]) (rest := []) (wr := [(ra, .inr (0, [.ref rp, .ref rq, .int (nI g), .int (nI nr)])), (rp, .inl (cP, 664, .inl P)), (rq, .inl (cM, 664, .inl M))]) (wz := fun _ => [(ta, .inr (2, [.ref tb, .ref tr, .int (nI (k + 1)), .int (if false = true then o ||| v87 else o), .int (if false = true then z else z ||| v87)])), (tb, .inl (cB, 16, .inl (upd B k v87))), (tr, .inl (cR, 16, .inl (upd Rs k (P cq ||| M cq)))), (ra, .inr (0, [.ref rp, .ref rq, .int (nI g), .int (nI nr)])), (rp, .inl (cP, 664, .inl P)), (rq, .inl (cM, 664, .inl M))]) ⟨hx, hb, hml, hown, hts⟩ (ks_assign l dC dI ta tb tr cB cR B Rs k o z v87 (P cq ||| M cq) false (by omega)) (cwV 3 hts gX2_propagate_X2_assign rfl rfl rfl (by decide +kernel) ⟨Nat.le_of_ble_eq_true rfl, Nat.le_of_ble_eq_true rfl⟩) hK hP hD hS hA hNW [0, 1, 2] [3, 4, 5] [0, 1] [3, 4, 5, 0, 1, 2] rfl rfl rfl rfl (by decide) (by decide) (by decide) (ci := 2) (q0 := 0) rfl rfl rfl (fun _ => rfl) (fun _ => rfl) (by decide) rfl hl.1 rfl (Nat.le_of_ble_eq_true rfl) dX2_propagate_130 ⟨Nat.le_of_ble_eq_true rfl, Nat.le_of_ble_eq_true rfl⟩ (fun u9 H locs hw9 hK9 hP hD hS => ?_)
                have hP : va_P (dC, dI) ksCl [(ta, .inr (2, [.ref tb, .ref tr, .int (nI (k + 1)), .int (if false = true then o ||| v87 else o), .int (if false = true then z else z ||| v87)])), (tb, .inl (cB, 16, .inl (upd B k v87))), (tr, .inl (cR, 16, .inl (upd Rs k (P cq ||| M cq)))), (ra, .inr (0, [.ref rp, .ref rq, .int (nI g), .int (nI nr)])), (rp, .inl (cP, 664, .inl P)), (rq, .inl (cM, 664, .inl M))] H := hP
                have hD : va_D A [(ta, .inr (2, [.ref tb, .ref tr, .int (nI (k + 1)), .int (if false = true then o ||| v87 else o), .int (if false = true then z else z ||| v87)])), (tb, .inl (cB, 16, .inl (upd B k v87))), (tr, .inl (cR, 16, .inl (upd Rs k (P cq ||| M cq)))), (ra, .inr (0, [.ref rp, .ref rq, .int (nI g), .int (nI nr)])), (rp, .inl (cP, 664, .inl P)), (rq, .inl (cM, 664, .inl M))] := hD
                refine lv_iinc (v := nI (cq + 1)) (lv' := [(4, .int (nI (cq + 1))), (6, .int v87), (5, .int ((P cq) ||| (M cq))), (0, .ref ta), (1, .ref ra), (2, .int (nI ps)), (3, .int (nI kp))]) hx hb dX2_propagate_133 hl (k := 6) rfl (nI_1 _) (by decide) rfl (fun ls hl => ?_)
                refine lv_goto (tgt := 16) hx hb dX2_propagate_136 (by decide) ?_
                exact ih2 (cq + 1, upd B k v87, upd Rs k (P cq ||| M cq), k + 1, (if false = true then o ||| v87 else o), (if false = true then z else z ||| v87)) _ _ _ ⟨hc, by omega, j3, j4, j5, j6, hP, hD, hS, lv_sub hl [3, 4, 5, 6, 0] rfl⟩
              · -- 120: goes on
                have hu := i3.unit hN hc hok.1 hok.2 hns ev87 c91 hsg true (⟨fun _ => c120, fun _ => rfl⟩)
                have hk1 := hu.1
                have j3 := hu.2.1
                have j4 := i4.tr (ks_X.assign v87 (P cq ||| M cq) true)
                have j5 := fun a h1 h2 => hu.2.2 a (i5 a h1 h2) (h2 cq hc)
                have j6 : kp < k + 1 ∨ ∀ q, q < cq + 1 → ks_U (P q) (M q) (if true = true then o ||| v87 else o) (if true = true then z else z ||| v87) := Or.inl (by have := i4.1; omega)
                refine lv_iconst (v := 1) hx hb dX2_propagate_123 (by decide) ?_
                refine lv_goto (tgt := 128) hx hb dX2_propagate_124 (by decide) ?_
                refine lv_iload hx hb dX2_propagate_128 (lv_at hl 1 rfl) ?_
                refine ks_callvV (As := [.int v87, .int 1, .int ((P cq) ||| (M cq))]) (rest := []) (wr := [(ra, .inr (0, [.ref rp, .ref rq, .int (nI g), .int (nI nr)])), (rp, .inl (cP, 664, .inl P)), (rq, .inl (cM, 664, .inl M))]) (wz := fun _ => [(ta, .inr (2, [.ref tb, .ref tr, .int (nI (k + 1)), .int (if true = true then o ||| v87 else o), .int (if true = true then z else z ||| v87)])), (tb, .inl (cB, 16, .inl (upd B k v87))), (tr, .inl (cR, 16, .inl (upd Rs k (P cq ||| M cq)))), (ra, .inr (0, [.ref rp, .ref rq, .int (nI g), .int (nI nr)])), (rp, .inl (cP, 664, .inl P)), (rq, .inl (cM, 664, .inl M))]) ⟨hx, hb, hml, hown, hts⟩ (ks_assign l dC dI ta tb tr cB cR B Rs k o z v87 (P cq ||| M cq) true (by omega)) (cwV 3 hts gX2_propagate_X2_assign rfl rfl rfl (by decide +kernel) ⟨Nat.le_of_ble_eq_true rfl, Nat.le_of_ble_eq_true rfl⟩) hK hP hD hS hA hNW [0, 1, 2] [3, 4, 5] [0, 1] [3, 4, 5, 0, 1, 2] rfl rfl rfl rfl (by decide) (by decide) (by decide) (ci := 2) (q0 := 0) rfl rfl rfl (fun _ => rfl) (fun _ => rfl) (by decide) rfl hl.1 rfl (Nat.le_of_ble_eq_true rfl) dX2_propagate_130 ⟨Nat.le_of_ble_eq_true rfl, Nat.le_of_ble_eq_true rfl⟩ (fun u9 H locs hw9 hK9 hP hD hS => ?_)
                have hP : va_P (dC, dI) ksCl [(ta, .inr (2, [.ref tb, .ref tr, .int (nI (k + 1)), .int (if true = true then o ||| v87 else o), .int (if true = true then z else z ||| v87)])), (tb, .inl (cB, 16, .inl (upd B k v87))), (tr, .inl (cR, 16, .inl (upd Rs k (P cq ||| M cq)))), (ra, .inr (0, [.ref rp, .ref rq, .int (nI g), .int (nI nr)])), (rp, .inl (cP, 664, .inl P)), (rq, .inl (cM, 664, .inl M))] H := hP
                have hD : va_D A [(ta, .inr (2, [.ref tb, .ref tr, .int (nI (k + 1)), .int (if true = true then o ||| v87 else o), .int (if true = true then z else z ||| v87)])), (tb, .inl (cB, 16, .inl (upd B k v87))), (tr, .inl (cR, 16, .inl (upd Rs k (P cq ||| M cq)))), (ra, .inr (0, [.ref rp, .ref rq, .int (nI g), .int (nI nr)])), (rp, .inl (cP, 664, .inl P)), (rq, .inl (cM, 664, .inl M))] := hD
                refine lv_iinc (v := nI (cq + 1)) (lv' := [(4, .int (nI (cq + 1))), (6, .int v87), (5, .int ((P cq) ||| (M cq))), (0, .ref ta), (1, .ref ra), (2, .int (nI ps)), (3, .int (nI kp))]) hx hb dX2_propagate_133 hl (k := 6) rfl (nI_1 _) (by decide) rfl (fun ls hl => ?_)
                refine lv_goto (tgt := 16) hx hb dX2_propagate_136 (by decide) ?_
                exact ih2 (cq + 1, upd B k v87, upd Rs k (P cq ||| M cq), k + 1, (if true = true then o ||| v87 else o), (if true = true then z else z ||| v87)) _ _ _ ⟨hc, by omega, j3, j4, j5, j6, hP, hD, hS, lv_sub hl [3, 4, 5, 6, 0] rfl⟩
          · -- 91: goes on
            have e0 : v87 = 0 := c91
            rw [ev87] at e0
            have hF := ks_false hns e0
            refine lv_iload hx hb dX2_propagate_94 (lv_at hl 1 rfl) ?_
            have hP9 : va_P (dC, dI) ksCl [(ta, .inr (2, [.ref tb, .ref tr, .int (nI k), .int o, .int z])), (tb, .inl (cB, 16, .inl B)), (tr, .inl (cR, 16, .inl Rs)), (ra, .inr (0, [.ref rp, .ref rq, .int (nI g), .int (nI nr)])), (rp, .inl (cP, 664, .inl P)), (rq, .inl (cM, 664, .inl M))] _ := hP
            have hD9 : va_D A [(ta, .inr (2, [.ref tb, .ref tr, .int (nI k), .int o, .int z])), (tb, .inl (cB, 16, .inl B)), (tr, .inl (cR, 16, .inl Rs)), (ra, .inr (0, [.ref rp, .ref rq, .int (nI g), .int (nI nr)])), (rp, .inl (cP, 664, .inl P)), (rq, .inl (cM, 664, .inl M))] := hD
            have hK9 : va_K (dC, dI) ksCl [(cB, .int), (cR, .int), (cP, .int), (cM, .int)] s := hK
            exact W.iret (v := (P cq) ||| (M cq)) hx hb hr (fun t ht hW9 => ⟨⟨(P cq) ||| (M cq), (B, Rs, k, o, z), rfl, ⟨i3, w4.tr i4, fun a h1 h2 => i5 a (w5 a h1 h2) h2, Or.inr ⟨ks_mem_ne hN hok, cq, hc, rfl, hF⟩⟩, by rw [ht]; exact hP9, va_K.moved hW9.alike hK9, hD9⟩, hS.F ht⟩) hS.2.2 dX2_propagate_96
        · -- 50: goes on
          have j3 := i3
          have j4 := i4
          have j5 := i5
          have hU : ks_U (P cq) (M cq) o z := Or.inl (Classical.byContradiction (fun q => c50 (ks_S_z.mpr q)))
          have j6 : kp < k ∨ ∀ q, q < cq + 1 → ks_U (P q) (M q) o z := by
            rcases i6 with y | y
            · exact Or.inl y
            · refine Or.inr (fun q hq => ?_)
              by_cases e : q = cq
              · rw [e]; exact hU
              · exact y q (by omega)
          refine lv_goto (tgt := 133) hx hb dX2_propagate_53 (by decide) ?_
          refine lv_iinc (v := nI (cq + 1)) (lv' := [(4, .int (nI (cq + 1))), (0, .ref ta), (1, .ref ra), (2, .int (nI ps)), (3, .int (nI kp))]) hx hb dX2_propagate_133 hl (k := 4) rfl (nI_1 _) (by decide) rfl (fun ls hl => ?_)
          refine lv_goto (tgt := 16) hx hb dX2_propagate_136 (by decide) ?_
          exact ih2 (cq + 1, B, Rs, k, o, z) _ _ _ ⟨hc, by omega, j3, j4, j5, j6, hP, hD, hS, lv_sub hl [1, 2, 3, 4, 0] rfl⟩
    · intro x H locs ls h9
      obtain ⟨i1, i2, i3, i4, i5, i6, -, -, -, -⟩ := h9
      try dsimp only at i1 i2
      omega
  · intro x H locs ls h9
    obtain ⟨w1, w2, w3, w4, w5, w6, -, -, -, -⟩ := h9
    try dsimp only at w1 w2
    omega
end
section
set_option maxHeartbeats 4000000 in
set_option maxRecDepth 100000 in
/-- ClauseRow() -/
theorem ks_row_init (l : Launch) (dC : Nat → ClassId) (dI : Nat → Nat → Nat) (ra : Nat) : ks_Mv l yX0_init wsX0_init ({ frames := 1, cells := 2, slots := 1328, locals := 12 }) (dC, dI) [.ref ra] [(ra, .inr (0, [.null, .null, .int 0, .int 0]))] [] 2 1328 (S := Nat × Nat × ClassId × ClassId) (fun _ => True) (fun u => [(ra, .inr (0, [.ref u.1, .ref u.2.1, .int 0, .int 0])), (u.1, .inl (u.2.2.1, 664, .inl (fun _ => 0))), (u.2.1, .inl (u.2.2.2, 664, .inl (fun _ => 0)))]) (fun u => [(u.2.2.1, .int), (u.2.2.2, .int)]) := by
  intro sz
  refine Met.ofW (cc := cX0_init) (maxL := 1) (ret := none) (by decide) rfl ?_
  intro p e s m args below meth c s₁ B9 hml hv
  obtain ⟨rfl, hsz, hP, hK, hD0, hNW⟩ := hv
  have hx := B9.exec
  have hb := B9.bytes
  have hr := B9.returns
  have hts := atoms_spec (ws := wsX0_init) B9.pre
  have hown : s.vm.findClass RX0 = some m.cls := findClass_of_methodNamed B9.named
  have hlocks := B9.notSynchronized
  have hin : meth.name = "<init>" := (name_of_methodNamed B9.named B9.method).1
  subst hsz
  have hD := hD0.self (sz := s.heap.size)
  generalize hAe : va_A [(ra, .inr (0, [.null, .null, .int 0, .int 0]))] s.heap.size = A at hD ⊢
  have hA : ∀ q : Nat, s.heap.size ≤ q → A q := fun q h => by rw [← hAe]; exact Or.inr h
  have hS : va_S A s.heap s.heap [] := va_S.rf
  have hiX0 : ∀ w ∈ u_ws RX0 TX0 4, w ∈ wsX0_init := by decide +kernel
  have f9 := hts (.fieldLink RX0 9 "LessonSolver$ClauseRow" "plus" "[I") (by decide +kernel)
  have f15 := hts (.fieldLink RX0 15 "LessonSolver$ClauseRow" "minus" "[I") (by decide +kernel)
  have hari := hts (.arrayClass (newarray.typeOf .int)) (by decide +kernel)
  have hl := lv_entry ([.ref ra]) (n := 1) (Nat.le_of_ble_eq_true rfl)
  rw [lg_entry_eq]
  generalize (lg_sl ([.ref ra]) ++ List.replicate (1 - (lg_sl ([.ref ra])).length) Slot.unset).toArray = ls at hl ⊢
  have hl : lv_has ls 1 [(0, .ref ra)] := hl
  refine lv_aload_n hx hb dX0_init_0 rfl (lv_at hl 0 rfl) ?_
  refine W.objInit hx hb hown (hts (.methodLink RX0 3 objectInit) (by decide +kernel)) (hts (.instanceMethod objectInit) (by decide +kernel)) (hts (.code objectInit ⟨#[0xb1]⟩ 1 none) (by decide +kernel)) rfl (by rw [hml]; exact hl.1) rfl dX0_init_1 (Nat.le_of_ble_eq_true rfl) (Nat.le_of_ble_eq_true rfl) ?_
  refine W.eq (g2 := F0 m 4 ls []) rfl ?_
  refine lv_aload_n hx hb dX0_init_4 rfl (lv_at hl 0 rfl) ?_
  refine lv_sipush (v := nI 664) hx hb dX0_init_5 (by decide) ?_
  refine va_newa (N' := 664) (a0 := (664, .inl (fun _ => 0))) hx hb hari rfl hK hP hD hS hA (fun _ => rfl) (by decide) (by decide) (by decide) (Nat.le_of_ble_eq_true rfl) (Nat.le_of_ble_eq_true rfl) dX0_init_8 (fun rp cP H hK hP hD hS => ?_)
  have hP : va_P (dC, dI) ksCl [(ra, .inr (0, [.null, .null, .int 0, .int 0])), (rp, .inl (cP, 664, .inl (fun _ => 0)))] H := hP
  have hD : va_D A [(ra, .inr (0, [.null, .null, .int 0, .int 0])), (rp, .inl (cP, 664, .inl (fun _ => 0)))] := hD
  have hK : va_K (dC, dI) ksCl [(cP, .int)] s := hK
  refine va_putF (D := (dC, dI)) (ci := 0) (v := .ref rp) (ty := .array .int) (C := RX0) (T := TX0) (N := 4) hx hb hts hiX0 tyX0 tyX0_ok nmX0 hown hK hP hD hS 0 rfl rfl 0 (by decide) f9 (fun _ h9 => h9) rfl hin rfl (by decide +kernel) rfl rfl (Nat.le_of_ble_eq_true rfl) dX0_init_10 (fun H locs hP hD hS => ?_)
  have hP : va_P (dC, dI) ksCl [(ra, .inr (0, [.ref rp, .null, .int 0, .int 0])), (rp, .inl (cP, 664, .inl (fun _ => 0)))] H := hP
  have hD : va_D A [(ra, .inr (0, [.ref rp, .null, .int 0, .int 0])), (rp, .inl (cP, 664, .inl (fun _ => 0)))] := hD
  refine lv_aload_n hx hb dX0_init_13 rfl (lv_at hl 0 rfl) ?_
  refine lv_sipush (v := nI 664) hx hb dX0_init_14 (by decide) ?_
  refine va_newa (N' := 664) (a0 := (664, .inl (fun _ => 0))) hx hb hari rfl hK hP hD hS hA (fun _ => rfl) (by decide) (by decide) (by decide) (Nat.le_of_ble_eq_true rfl) (Nat.le_of_ble_eq_true rfl) dX0_init_17 (fun rq cM H hK hP hD hS => ?_)
  have hP : va_P (dC, dI) ksCl [(ra, .inr (0, [.ref rp, .null, .int 0, .int 0])), (rp, .inl (cP, 664, .inl (fun _ => 0))), (rq, .inl (cM, 664, .inl (fun _ => 0)))] H := hP
  have hD : va_D A [(ra, .inr (0, [.ref rp, .null, .int 0, .int 0])), (rp, .inl (cP, 664, .inl (fun _ => 0))), (rq, .inl (cM, 664, .inl (fun _ => 0)))] := hD
  have hK : va_K (dC, dI) ksCl [(cP, .int), (cM, .int)] s := hK
  refine va_putF (D := (dC, dI)) (ci := 0) (v := .ref rq) (ty := .array .int) (C := RX0) (T := TX0) (N := 4) hx hb hts hiX0 tyX0 tyX0_ok nmX0 hown hK hP hD hS 0 rfl rfl 1 (by decide) f15 (fun _ h9 => h9) rfl hin rfl (by decide +kernel) rfl rfl (Nat.le_of_ble_eq_true rfl) dX0_init_19 (fun H locs hP hD hS => ?_)
  have hP : va_P (dC, dI) ksCl [(ra, .inr (0, [.ref rp, .ref rq, .int 0, .int 0])), (rp, .inl (cP, 664, .inl (fun _ => 0))), (rq, .inl (cM, 664, .inl (fun _ => 0)))] H := hP
  have hD : va_D A [(ra, .inr (0, [.ref rp, .ref rq, .int 0, .int 0])), (rp, .inl (cP, 664, .inl (fun _ => 0))), (rq, .inl (cM, 664, .inl (fun _ => 0)))] := hD
  have hP9 : va_P (dC, dI) ksCl [(ra, .inr (0, [.ref rp, .ref rq, .int 0, .int 0])), (rp, .inl (cP, 664, .inl (fun _ => 0))), (rq, .inl (cM, 664, .inl (fun _ => 0)))] _ := hP
  have hD9 : va_D A [(ra, .inr (0, [.ref rp, .ref rq, .int 0, .int 0])), (rp, .inl (cP, 664, .inl (fun _ => 0))), (rq, .inl (cM, 664, .inl (fun _ => 0)))] := hD
  have hK9 : va_K (dC, dI) ksCl [(cP, .int), (cM, .int)] s := hK
  refine W.widen (k := 2) (n := 1328) (by omega) (by omega) ?_
  exact W.vret hx hb hr (fun t ht hW9 => ⟨⟨(rp, rq, cP, cM), rfl, trivial, by rw [ht]; exact hP9, va_K.moved hW9.alike hK9, hD9⟩, hS.F ht⟩) hS.2.2 dX0_init_22
end
section
set_option maxHeartbeats 4000000 in
set_option maxRecDepth 100000 in
/-- clear -/
theorem ks_clear (l : Launch) (dC : Nat → ClassId) (dI : Nat → Nat → Nat) (ra rp rq : Nat) (g n : Int32) : ks_Mv l yX0_clear wsX0_clear ({ frames := 0, cells := 0, slots := 0, locals := 0 }) (dC, dI) [.ref ra] [(ra, .inr (0, [.ref rp, .ref rq, .int g, .int n]))] [] 0 0 (S := Unit) (fun _ => True) (fun _ => [(ra, .inr (0, [.ref rp, .ref rq, .int (nI 0), .int (nI 0)]))]) (fun _ => []) := by
  intro sz
  refine Met.ofW (cc := cX0_clear) (maxL := 1) (ret := none) (by decide) rfl ?_
  intro p e s m args below meth c s₁ B9 hml hv
  obtain ⟨rfl, hsz, hP, hK, hD0, hNW⟩ := hv
  have hx := B9.exec
  have hb := B9.bytes
  have hr := B9.returns
  have hts := atoms_spec (ws := wsX0_clear) B9.pre
  have hown : s.vm.findClass RX0 = some m.cls := findClass_of_methodNamed B9.named
  have hlocks := B9.notSynchronized
  subst hsz
  have hD := hD0.self (sz := s.heap.size)
  generalize hAe : va_A [(ra, .inr (0, [.ref rp, .ref rq, .int g, .int n]))] s.heap.size = A at hD ⊢
  have hA : ∀ q : Nat, s.heap.size ≤ q → A q := fun q h => by rw [← hAe]; exact Or.inr h
  have hS : va_S A s.heap s.heap [] := va_S.rf
  have hiX0 : ∀ w ∈ u_ws RX0 TX0 4, w ∈ wsX0_clear := by decide +kernel
  have f18 := hts (.fieldLink RX0 18 "LessonSolver$ClauseRow" "given" "I") (by decide +kernel)
  have f22 := hts (.fieldLink RX0 22 "LessonSolver$ClauseRow" "size" "I") (by decide +kernel)
  have hl := lv_entry ([.ref ra]) (n := 1) (Nat.le_of_ble_eq_true rfl)
  rw [lg_entry_eq]
  generalize (lg_sl ([.ref ra]) ++ List.replicate (1 - (lg_sl ([.ref ra])).length) Slot.unset).toArray = ls at hl ⊢
  have hl : lv_has ls 1 [(0, .ref ra)] := hl
  refine lv_aload_n hx hb dX0_clear_0 rfl (lv_at hl 0 rfl) ?_
  refine lv_iconst (v := nI 0) hx hb dX0_clear_1 (by decide) ?_
  refine va_put (D := (dC, dI)) (ci := 0) (v := .int (nI 0)) (ty := .int) (C := RX0) (T := TX0) (N := 4) hx hb hts hiX0 tyX0 tyX0_ok nmX0 hown hK hP hD hS 0 rfl rfl 2 (by decide) f18 (fun _ h9 => h9) rfl (by decide +kernel) rfl rfl (Nat.le_of_ble_eq_true rfl) dX0_clear_2 (fun H locs hP hD hS => ?_)
  have hP : va_P (dC, dI) ksCl [(ra, .inr (0, [.ref rp, .ref rq, .int (nI 0), .int n]))] H := hP
  have hD : va_D A [(ra, .inr (0, [.ref rp, .ref rq, .int (nI 0), .int n]))] := hD
  refine lv_aload_n hx hb dX0_clear_5 rfl (lv_at hl 0 rfl) ?_
  refine lv_iconst (v := nI 0) hx hb dX0_clear_6 (by decide) ?_
  refine va_put (D := (dC, dI)) (ci := 0) (v := .int (nI 0)) (ty := .int) (C := RX0) (T := TX0) (N := 4) hx hb hts hiX0 tyX0 tyX0_ok nmX0 hown hK hP hD hS 0 rfl rfl 3 (by decide) f22 (fun _ h9 => h9) rfl (by decide +kernel) rfl rfl (Nat.le_of_ble_eq_true rfl) dX0_clear_7 (fun H locs hP hD hS => ?_)
  have hP : va_P (dC, dI) ksCl [(ra, .inr (0, [.ref rp, .ref rq, .int (nI 0), .int (nI 0)]))] H := hP
  have hD : va_D A [(ra, .inr (0, [.ref rp, .ref rq, .int (nI 0), .int (nI 0)]))] := hD
  have hP9 : va_P (dC, dI) ksCl [(ra, .inr (0, [.ref rp, .ref rq, .int (nI 0), .int (nI 0)]))] _ := hP
  have hD9 : va_D A [(ra, .inr (0, [.ref rp, .ref rq, .int (nI 0), .int (nI 0)]))] := hD
  have hK9 : va_K (dC, dI) ksCl [] s := hK
  exact W.vret hx hb hr (fun t ht hW9 => ⟨⟨(), rfl, trivial, by rw [ht]; exact hP9, va_K.moved hW9.alike hK9, hD9⟩, hS.F ht⟩) hS.2.2 dX0_clear_10
end
section
set_option maxHeartbeats 4000000 in
set_option maxRecDepth 100000 in
/-- give -/
theorem ks_give (l : Launch) (dC : Nat → ClassId) (dI : Nat → Nat → Nat) (ra rp rq : Nat) (cP cM : ClassId) (P M : Nat → Int32) (g nr : Nat) (p0 m0 : Int32) (hg : g < 600) (hgn : g ≤ nr) (hn : nr < 664) : ks_Mv l yX0_give wsX0_give ({ frames := 0, cells := 0, slots := 0, locals := 0 }) (dC, dI) [.ref ra, .int p0, .int m0] [(ra, .inr (0, [.ref rp, .ref rq, .int (nI g), .int (nI nr)])), (rp, .inl (cP, 664, .inl P)), (rq, .inl (cM, 664, .inl M))] [(cP, .int), (cM, .int)] 0 0 (S := Unit) (fun _ => True) (fun _ => [(ra, .inr (0, [.ref rp, .ref rq, .int (nI (g + 1)), .int (nI (nr + 1))])), (rp, .inl (cP, 664, .inl (upd (upd P nr (P g)) g p0))), (rq, .inl (cM, 664, .inl (upd (upd M nr (M g)) g m0)))]) (fun _ => [(cP, .int), (cM, .int)]) := by
  intro sz
  refine Met.ofW (cc := cX0_give) (maxL := 3) (ret := none) (by decide) rfl ?_
  intro p e s m args below meth c s₁ B9 hml hv
  obtain ⟨rfl, hsz, hP, hK, hD0, hNW⟩ := hv
  have hx := B9.exec
  have hb := B9.bytes
  have hr := B9.returns
  have hts := atoms_spec (ws := wsX0_give) B9.pre
  have hown : s.vm.findClass RX0 = some m.cls := findClass_of_methodNamed B9.named
  have hlocks := B9.notSynchronized
  subst hsz
  have hD := hD0.self (sz := s.heap.size)
  generalize hAe : va_A [(ra, .inr (0, [.ref rp, .ref rq, .int (nI g), .int (nI nr)])), (rp, .inl (cP, 664, .inl P)), (rq, .inl (cM, 664, .inl M))] s.heap.size = A at hD ⊢
  have hA : ∀ q : Nat, s.heap.size ≤ q → A q := fun q h => by rw [← hAe]; exact Or.inr h
  have hS : va_S A s.heap s.heap [] := va_S.rf
  have hiX0 : ∀ w ∈ u_ws RX0 TX0 4, w ∈ wsX0_give := by decide +kernel
  have f9 := hts (.fieldLink RX0 9 "LessonSolver$ClauseRow" "plus" "[I") (by decide +kernel)
  have f15 := hts (.fieldLink RX0 15 "LessonSolver$ClauseRow" "minus" "[I") (by decide +kernel)
  have f18 := hts (.fieldLink RX0 18 "LessonSolver$ClauseRow" "given" "I") (by decide +kernel)
  have f22 := hts (.fieldLink RX0 22 "LessonSolver$ClauseRow" "size" "I") (by decide +kernel)
  have hl := lv_entry ([.ref ra, .int p0, .int m0]) (n := 3) (Nat.le_of_ble_eq_true rfl)
  rw [lg_entry_eq]
  generalize (lg_sl ([.ref ra, .int p0, .int m0]) ++ List.replicate (3 - (lg_sl ([.ref ra, .int p0, .int m0])).length) Slot.unset).toArray = ls at hl ⊢
  have hl : lv_has ls 3 [(0, .ref ra), (1, .int p0), (2, .int m0)] := hl
  refine lv_aload_n hx hb dX0_give_0 rfl (lv_at hl 0 rfl) ?_
  refine va_get (D := (dC, dI)) (ci := 0) (v := .int (nI g)) (C := RX0) (T := TX0) (N := 4) hx hb hts hiX0 hown hK hP 0 rfl rfl 2 (by decide) f18 (fun _ h9 => h9) rfl dX0_give_1 ?_
  refine lv_sipush (v := nI 600) hx hb dX0_give_4 (by decide) ?_
  refine lv_icmp_ge (tgt := 22) hx hb dX0_give_7 (by decide) (fun c7 => absurd c7 (nI_ge hg (by decide))) (fun c7 => ?_)
  refine lv_aload_n hx hb dX0_give_10 rfl (lv_at hl 0 rfl) ?_
  refine va_get (D := (dC, dI)) (ci := 0) (v := .int (nI nr)) (C := RX0) (T := TX0) (N := 4) hx hb hts hiX0 hown hK hP 0 rfl rfl 3 (by decide) f22 (fun _ h9 => h9) rfl dX0_give_11 ?_
  refine lv_aload_n hx hb dX0_give_14 rfl (lv_at hl 0 rfl) ?_
  refine va_get (D := (dC, dI)) (ci := 0) (v := .ref rp) (C := RX0) (T := TX0) (N := 4) hx hb hts hiX0 hown hK hP 0 rfl rfl 0 (by decide) f9 (fun _ h9 => h9) rfl dX0_give_15 ?_
  refine va_alen (v := nI 664) hx hb hK hP 1 0 rfl rfl rfl dX0_give_18 ?_
  refine lv_icmp_lt (tgt := 23) hx hb dX0_give_19 (by decide) (fun c19 => ?_) (fun c19 => absurd (nI_lt hn (by decide)) c19)
  refine lv_aload_n hx hb dX0_give_23 rfl (lv_at hl 0 rfl) ?_
  refine va_get (D := (dC, dI)) (ci := 0) (v := .ref rp) (C := RX0) (T := TX0) (N := 4) hx hb hts hiX0 hown hK hP 0 rfl rfl 0 (by decide) f9 (fun _ h9 => h9) rfl dX0_give_24 ?_
  refine lv_aload_n hx hb dX0_give_27 rfl (lv_at hl 0 rfl) ?_
  refine va_get (D := (dC, dI)) (ci := 0) (v := .int (nI nr)) (C := RX0) (T := TX0) (N := 4) hx hb hts hiX0 hown hK hP 0 rfl rfl 3 (by decide) f22 (fun _ h9 => h9) rfl dX0_give_28 ?_
  refine lv_aload_n hx hb dX0_give_31 rfl (lv_at hl 0 rfl) ?_
  refine va_get (D := (dC, dI)) (ci := 0) (v := .ref rp) (C := RX0) (T := TX0) (N := 4) hx hb hts hiX0 hown hK hP 0 rfl rfl 0 (by decide) f9 (fun _ h9 => h9) rfl dX0_give_32 ?_
  refine lv_aload_n hx hb dX0_give_35 rfl (lv_at hl 0 rfl) ?_
  refine va_get (D := (dC, dI)) (ci := 0) (v := .int (nI g)) (C := RX0) (T := TX0) (N := 4) hx hb hts hiX0 hown hK hP 0 rfl rfl 2 (by decide) f18 (fun _ h9 => h9) rfl dX0_give_36 ?_
  refine ks_ald hx hb hK hP 1 0 rfl rfl (j := g) (by omega) (by decide) dX0_give_39 ?_
  refine ks_ast hx hb hK hP hD hS 1 0 rfl rfl (j := nr) (by omega) (by decide) dX0_give_40 (fun H locs hP hD hS => ?_)
  have hP : va_P (dC, dI) ksCl [(ra, .inr (0, [.ref rp, .ref rq, .int (nI g), .int (nI nr)])), (rp, .inl (cP, 664, .inl (upd P nr (P g)))), (rq, .inl (cM, 664, .inl M))] H := hP
  have hD : va_D A [(ra, .inr (0, [.ref rp, .ref rq, .int (nI g), .int (nI nr)])), (rp, .inl (cP, 664, .inl (upd P nr (P g)))), (rq, .inl (cM, 664, .inl M))] := hD
  refine lv_aload_n hx hb dX0_give_41 rfl (lv_at hl 0 rfl) ?_
  refine va_get (D := (dC, dI)) (ci := 0) (v := .ref rq) (C := RX0) (T := TX0) (N := 4) hx hb hts hiX0 hown hK hP 0 rfl rfl 1 (by decide) f15 (fun _ h9 => h9) rfl dX0_give_42 ?_
  refine lv_aload_n hx hb dX0_give_45 rfl (lv_at hl 0 rfl) ?_
  refine va_get (D := (dC, dI)) (ci := 0) (v := .int (nI nr)) (C := RX0) (T := TX0) (N := 4) hx hb hts hiX0 hown hK hP 0 rfl rfl 3 (by decide) f22 (fun _ h9 => h9) rfl dX0_give_46 ?_
  refine lv_aload_n hx hb dX0_give_49 rfl (lv_at hl 0 rfl) ?_
  refine va_get (D := (dC, dI)) (ci := 0) (v := .ref rq) (C := RX0) (T := TX0) (N := 4) hx hb hts hiX0 hown hK hP 0 rfl rfl 1 (by decide) f15 (fun _ h9 => h9) rfl dX0_give_50 ?_
  refine lv_aload_n hx hb dX0_give_53 rfl (lv_at hl 0 rfl) ?_
  refine va_get (D := (dC, dI)) (ci := 0) (v := .int (nI g)) (C := RX0) (T := TX0) (N := 4) hx hb hts hiX0 hown hK hP 0 rfl rfl 2 (by decide) f18 (fun _ h9 => h9) rfl dX0_give_54 ?_
  refine ks_ald hx hb hK hP 2 1 rfl rfl (j := g) (by omega) (by decide) dX0_give_57 ?_
  refine ks_ast hx hb hK hP hD hS 2 1 rfl rfl (j := nr) (by omega) (by decide) dX0_give_58 (fun H locs hP hD hS => ?_)
  have hP : va_P (dC, dI) ksCl [(ra, .inr (0, [.ref rp, .ref rq, .int (nI g), .int (nI nr)])), (rp, .inl (cP, 664, .inl (upd P nr (P g)))), (rq, .inl (cM, 664, .inl (upd M nr (M g))))] H := hP
  have hD : va_D A [(ra, .inr (0, [.ref rp, .ref rq, .int (nI g), .int (nI nr)])), (rp, .inl (cP, 664, .inl (upd P nr (P g)))), (rq, .inl (cM, 664, .inl (upd M nr (M g))))] := hD
  refine lv_aload_n hx hb dX0_give_59 rfl (lv_at hl 0 rfl) ?_
  refine va_get (D := (dC, dI)) (ci := 0) (v := .ref rp) (C := RX0) (T := TX0) (N := 4) hx hb hts hiX0 hown hK hP 0 rfl rfl 0 (by decide) f9 (fun _ h9 => h9) rfl dX0_give_60 ?_
  refine lv_aload_n hx hb dX0_give_63 rfl (lv_at hl 0 rfl) ?_
  refine va_get (D := (dC, dI)) (ci := 0) (v := .int (nI g)) (C := RX0) (T := TX0) (N := 4) hx hb hts hiX0 hown hK hP 0 rfl rfl 2 (by decide) f18 (fun _ h9 => h9) rfl dX0_give_64 ?_
  refine lv_iload_n hx hb dX0_give_67 rfl (lv_at hl 1 rfl) ?_
  refine ks_ast hx hb hK hP hD hS 1 0 rfl rfl (j := g) (by omega) (by decide) dX0_give_68 (fun H locs hP hD hS => ?_)
  have hP : va_P (dC, dI) ksCl [(ra, .inr (0, [.ref rp, .ref rq, .int (nI g), .int (nI nr)])), (rp, .inl (cP, 664, .inl (upd (upd P nr (P g)) g p0))), (rq, .inl (cM, 664, .inl (upd M nr (M g))))] H := hP
  have hD : va_D A [(ra, .inr (0, [.ref rp, .ref rq, .int (nI g), .int (nI nr)])), (rp, .inl (cP, 664, .inl (upd (upd P nr (P g)) g p0))), (rq, .inl (cM, 664, .inl (upd M nr (M g))))] := hD
  refine lv_aload_n hx hb dX0_give_69 rfl (lv_at hl 0 rfl) ?_
  refine va_get (D := (dC, dI)) (ci := 0) (v := .ref rq) (C := RX0) (T := TX0) (N := 4) hx hb hts hiX0 hown hK hP 0 rfl rfl 1 (by decide) f15 (fun _ h9 => h9) rfl dX0_give_70 ?_
  refine lv_aload_n hx hb dX0_give_73 rfl (lv_at hl 0 rfl) ?_
  refine va_get (D := (dC, dI)) (ci := 0) (v := .int (nI g)) (C := RX0) (T := TX0) (N := 4) hx hb hts hiX0 hown hK hP 0 rfl rfl 2 (by decide) f18 (fun _ h9 => h9) rfl dX0_give_74 ?_
  refine lv_iload_n hx hb dX0_give_77 rfl (lv_at hl 2 rfl) ?_
  refine ks_ast hx hb hK hP hD hS 2 1 rfl rfl (j := g) (by omega) (by decide) dX0_give_78 (fun H locs hP hD hS => ?_)
  have hP : va_P (dC, dI) ksCl [(ra, .inr (0, [.ref rp, .ref rq, .int (nI g), .int (nI nr)])), (rp, .inl (cP, 664, .inl (upd (upd P nr (P g)) g p0))), (rq, .inl (cM, 664, .inl (upd (upd M nr (M g)) g m0)))] H := hP
  have hD : va_D A [(ra, .inr (0, [.ref rp, .ref rq, .int (nI g), .int (nI nr)])), (rp, .inl (cP, 664, .inl (upd (upd P nr (P g)) g p0))), (rq, .inl (cM, 664, .inl (upd (upd M nr (M g)) g m0)))] := hD
  refine lv_aload_n hx hb dX0_give_79 rfl (lv_at hl 0 rfl) ?_
  refine lv_dup hx hb dX0_give_80 rfl ?_
  refine va_get (D := (dC, dI)) (ci := 0) (v := .int (nI g)) (C := RX0) (T := TX0) (N := 4) hx hb hts hiX0 hown hK hP 0 rfl rfl 2 (by decide) f18 (fun _ h9 => h9) rfl dX0_give_81 ?_
  refine lv_iconst (v := 1) hx hb dX0_give_84 (by decide) ?_
  refine lv_iadd hx hb dX0_give_85 ?_
  refine ks_top (y := nI (g + 1)) (nI_1 g) ?_
  refine va_put (D := (dC, dI)) (ci := 0) (v := .int (nI (g + 1))) (ty := .int) (C := RX0) (T := TX0) (N := 4) hx hb hts hiX0 tyX0 tyX0_ok nmX0 hown hK hP hD hS 0 rfl rfl 2 (by decide) f18 (fun _ h9 => h9) rfl (by decide +kernel) rfl rfl (Nat.le_of_ble_eq_true rfl) dX0_give_86 (fun H locs hP hD hS => ?_)
  have hP : va_P (dC, dI) ksCl [(ra, .inr (0, [.ref rp, .ref rq, .int (nI (g + 1)), .int (nI nr)])), (rp, .inl (cP, 664, .inl (upd (upd P nr (P g)) g p0))), (rq, .inl (cM, 664, .inl (upd (upd M nr (M g)) g m0)))] H := hP
  have hD : va_D A [(ra, .inr (0, [.ref rp, .ref rq, .int (nI (g + 1)), .int (nI nr)])), (rp, .inl (cP, 664, .inl (upd (upd P nr (P g)) g p0))), (rq, .inl (cM, 664, .inl (upd (upd M nr (M g)) g m0)))] := hD
  refine lv_aload_n hx hb dX0_give_89 rfl (lv_at hl 0 rfl) ?_
  refine lv_dup hx hb dX0_give_90 rfl ?_
  refine va_get (D := (dC, dI)) (ci := 0) (v := .int (nI nr)) (C := RX0) (T := TX0) (N := 4) hx hb hts hiX0 hown hK hP 0 rfl rfl 3 (by decide) f22 (fun _ h9 => h9) rfl dX0_give_91 ?_
  refine lv_iconst (v := 1) hx hb dX0_give_94 (by decide) ?_
  refine lv_iadd hx hb dX0_give_95 ?_
  refine ks_top (y := nI (nr + 1)) (nI_1 nr) ?_
  refine va_put (D := (dC, dI)) (ci := 0) (v := .int (nI (nr + 1))) (ty := .int) (C := RX0) (T := TX0) (N := 4) hx hb hts hiX0 tyX0 tyX0_ok nmX0 hown hK hP hD hS 0 rfl rfl 3 (by decide) f22 (fun _ h9 => h9) rfl (by decide +kernel) rfl rfl (Nat.le_of_ble_eq_true rfl) dX0_give_96 (fun H locs hP hD hS => ?_)
  have hP : va_P (dC, dI) ksCl [(ra, .inr (0, [.ref rp, .ref rq, .int (nI (g + 1)), .int (nI (nr + 1))])), (rp, .inl (cP, 664, .inl (upd (upd P nr (P g)) g p0))), (rq, .inl (cM, 664, .inl (upd (upd M nr (M g)) g m0)))] H := hP
  have hD : va_D A [(ra, .inr (0, [.ref rp, .ref rq, .int (nI (g + 1)), .int (nI (nr + 1))])), (rp, .inl (cP, 664, .inl (upd (upd P nr (P g)) g p0))), (rq, .inl (cM, 664, .inl (upd (upd M nr (M g)) g m0)))] := hD
  have hP9 : va_P (dC, dI) ksCl [(ra, .inr (0, [.ref rp, .ref rq, .int (nI (g + 1)), .int (nI (nr + 1))])), (rp, .inl (cP, 664, .inl (upd (upd P nr (P g)) g p0))), (rq, .inl (cM, 664, .inl (upd (upd M nr (M g)) g m0)))] _ := hP
  have hD9 : va_D A [(ra, .inr (0, [.ref rp, .ref rq, .int (nI (g + 1)), .int (nI (nr + 1))])), (rp, .inl (cP, 664, .inl (upd (upd P nr (P g)) g p0))), (rq, .inl (cM, 664, .inl (upd (upd M nr (M g)) g m0)))] := hD
  have hK9 : va_K (dC, dI) ksCl [(cP, .int), (cM, .int)] s := hK
  exact W.vret hx hb hr (fun t ht hW9 => ⟨⟨(), rfl, trivial, by rw [ht]; exact hP9, va_K.moved hW9.alike hK9, hD9⟩, hS.F ht⟩) hS.2.2 dX0_give_99
end
section
set_option maxHeartbeats 4000000 in
set_option maxRecDepth 100000 in
/-- hasRoomForLesson -/
theorem ks_hasRoom (l : Launch) (dC : Nat → ClassId) (dI : Nat → Nat → Nat) (ra rp rq : Nat) (cP cM : ClassId) (P M : Nat → Int32) (g nr : Nat) (hgn : g ≤ nr) (hn : nr ≤ 664) : ks_Mi l yX0_hasRoomForLesson wsX0_hasRoomForLesson ({ frames := 0, cells := 0, slots := 0, locals := 0 }) (dC, dI) [.ref ra] [(ra, .inr (0, [.ref rp, .ref rq, .int (nI g), .int (nI nr)])), (rp, .inl (cP, 664, .inl P)), (rq, .inl (cM, 664, .inl M))] [(cP, .int), (cM, .int)] 0 0 (S := Unit) (fun r _ => (r = 1 ∧ nr < g + 64 ∧ nr < 664) ∨ (r = 0 ∧ ¬ (nr < g + 64 ∧ nr < 664))) (fun _ => [(ra, .inr (0, [.ref rp, .ref rq, .int (nI g), .int (nI nr)])), (rp, .inl (cP, 664, .inl P)), (rq, .inl (cM, 664, .inl M))]) (fun _ => [(cP, .int), (cM, .int)]) := by
  intro sz
  refine Met.ofW (cc := cX0_hasRoomForLesson) (maxL := 1) (ret := (some .boolean)) (by decide) rfl ?_
  intro p e s m args below meth c s₁ B9 hml hv
  obtain ⟨rfl, hsz, hP, hK, hD0, hNW⟩ := hv
  have hx := B9.exec
  have hb := B9.bytes
  have hr := B9.returns
  have hts := atoms_spec (ws := wsX0_hasRoomForLesson) B9.pre
  have hown : s.vm.findClass RX0 = some m.cls := findClass_of_methodNamed B9.named
  have hlocks := B9.notSynchronized
  subst hsz
  have hD := hD0.self (sz := s.heap.size)
  generalize hAe : va_A [(ra, .inr (0, [.ref rp, .ref rq, .int (nI g), .int (nI nr)])), (rp, .inl (cP, 664, .inl P)), (rq, .inl (cM, 664, .inl M))] s.heap.size = A at hD ⊢
  have hA : ∀ q : Nat, s.heap.size ≤ q → A q := fun q h => by rw [← hAe]; exact Or.inr h
  have hS : va_S A s.heap s.heap [] := va_S.rf
  have hiX0 : ∀ w ∈ u_ws RX0 TX0 4, w ∈ wsX0_hasRoomForLesson := by decide +kernel
  have f9 := hts (.fieldLink RX0 9 "LessonSolver$ClauseRow" "plus" "[I") (by decide +kernel)
  have f18 := hts (.fieldLink RX0 18 "LessonSolver$ClauseRow" "given" "I") (by decide +kernel)
  have f22 := hts (.fieldLink RX0 22 "LessonSolver$ClauseRow" "size" "I") (by decide +kernel)
  have hl := lv_entry ([.ref ra]) (n := 1) (Nat.le_of_ble_eq_true rfl)
  rw [lg_entry_eq]
  generalize (lg_sl ([.ref ra]) ++ List.replicate (1 - (lg_sl ([.ref ra])).length) Slot.unset).toArray = ls at hl ⊢
  have hl : lv_has ls 1 [(0, .ref ra)] := hl
  refine lv_aload_n hx hb dX0_hasRoomForLesson_0 rfl (lv_at hl 0 rfl) ?_
  refine va_get (D := (dC, dI)) (ci := 0) (v := .int (nI nr)) (C := RX0) (T := TX0) (N := 4) hx hb hts hiX0 hown hK hP 0 rfl rfl 3 (by decide) f22 (fun _ h9 => h9) rfl dX0_hasRoomForLesson_1 ?_
  refine lv_aload_n hx hb dX0_hasRoomForLesson_4 rfl (lv_at hl 0 rfl) ?_
  refine va_get (D := (dC, dI)) (ci := 0) (v := .int (nI g)) (C := RX0) (T := TX0) (N := 4) hx hb hts hiX0 hown hK hP 0 rfl rfl 2 (by decide) f18 (fun _ h9 => h9) rfl dX0_hasRoomForLesson_5 ?_
  refine lv_isub hx hb dX0_hasRoomForLesson_8 ?_
  refine ks_top (y := nI (nr - g)) (pk_sub hgn) ?_
  refine lv_bipush (v := nI 64) hx hb dX0_hasRoomForLesson_9 (by decide) ?_
  refine lv_icmp_ge (tgt := 30) hx hb dX0_hasRoomForLesson_11 (by decide) (fun c11 => ?_) (fun c11 => ?_)
  · -- 11: jumps
    have h1 : 64 ≤ nr - g := by
      rcases Nat.lt_or_ge (nr - g) 64 with q | q
      · exact absurd c11 (nI_ge q (by omega))
      · exact q
    have hz : (0 : Int32) = 0 ∧ ¬ (nr < g + 64 ∧ nr < 664) := ⟨rfl, by omega⟩
    refine lv_iconst (v := 0) hx hb dX0_hasRoomForLesson_30 (by decide) ?_
    have hP9 : va_P (dC, dI) ksCl [(ra, .inr (0, [.ref rp, .ref rq, .int (nI g), .int (nI nr)])), (rp, .inl (cP, 664, .inl P)), (rq, .inl (cM, 664, .inl M))] _ := hP
    have hD9 : va_D A [(ra, .inr (0, [.ref rp, .ref rq, .int (nI g), .int (nI nr)])), (rp, .inl (cP, 664, .inl P)), (rq, .inl (cM, 664, .inl M))] := hD
    have hK9 : va_K (dC, dI) ksCl [(cP, .int), (cM, .int)] s := hK
    exact W.zret (v := 0) (ty := .boolean) hx hb hr (by decide) (fun t ht hW9 => ⟨⟨0, (), rfl, Or.inr hz, by rw [ht]; exact hP9, va_K.moved hW9.alike hK9, hD9⟩, hS.F ht⟩) hS.2.2 dX0_hasRoomForLesson_31
  · -- 11: goes on
    have h1 : nr - g < 64 := by
      rcases Nat.lt_or_ge (nr - g) 64 with q | q
      · exact q
      · exact absurd (nI_le q (by omega)) c11
    refine lv_aload_n hx hb dX0_hasRoomForLesson_14 rfl (lv_at hl 0 rfl) ?_
    refine va_get (D := (dC, dI)) (ci := 0) (v := .int (nI nr)) (C := RX0) (T := TX0) (N := 4) hx hb hts hiX0 hown hK hP 0 rfl rfl 3 (by decide) f22 (fun _ h9 => h9) rfl dX0_hasRoomForLesson_15 ?_
    refine lv_aload_n hx hb dX0_hasRoomForLesson_18 rfl (lv_at hl 0 rfl) ?_
    refine va_get (D := (dC, dI)) (ci := 0) (v := .ref rp) (C := RX0) (T := TX0) (N := 4) hx hb hts hiX0 hown hK hP 0 rfl rfl 0 (by decide) f9 (fun _ h9 => h9) rfl dX0_hasRoomForLesson_19 ?_
    refine va_alen (v := nI 664) hx hb hK hP 1 0 rfl rfl rfl dX0_hasRoomForLesson_22 ?_
    refine lv_icmp_ge (tgt := 30) hx hb dX0_hasRoomForLesson_23 (by decide) (fun c23 => ?_) (fun c23 => ?_)
    · -- 23: jumps
      have h2 : 664 ≤ nr := by
        rcases Nat.lt_or_ge nr 664 with q | q
        · exact absurd c23 (nI_ge q (by omega))
        · exact q
      have hz : (0 : Int32) = 0 ∧ ¬ (nr < g + 64 ∧ nr < 664) := ⟨rfl, by omega⟩
      refine lv_iconst (v := 0) hx hb dX0_hasRoomForLesson_30 (by decide) ?_
      have hP9 : va_P (dC, dI) ksCl [(ra, .inr (0, [.ref rp, .ref rq, .int (nI g), .int (nI nr)])), (rp, .inl (cP, 664, .inl P)), (rq, .inl (cM, 664, .inl M))] _ := hP
      have hD9 : va_D A [(ra, .inr (0, [.ref rp, .ref rq, .int (nI g), .int (nI nr)])), (rp, .inl (cP, 664, .inl P)), (rq, .inl (cM, 664, .inl M))] := hD
      have hK9 : va_K (dC, dI) ksCl [(cP, .int), (cM, .int)] s := hK
      exact W.zret (v := 0) (ty := .boolean) hx hb hr (by decide) (fun t ht hW9 => ⟨⟨0, (), rfl, Or.inr hz, by rw [ht]; exact hP9, va_K.moved hW9.alike hK9, hD9⟩, hS.F ht⟩) hS.2.2 dX0_hasRoomForLesson_31
    · -- 23: goes on
      have h2 : nr < 664 := by
        rcases Nat.lt_or_ge nr 664 with q | q
        · exact q
        · exact absurd (nI_le q (by omega)) c23
      refine lv_iconst (v := 1) hx hb dX0_hasRoomForLesson_26 (by decide) ?_
      refine lv_goto (tgt := 31) hx hb dX0_hasRoomForLesson_27 (by decide) ?_
      have hP9 : va_P (dC, dI) ksCl [(ra, .inr (0, [.ref rp, .ref rq, .int (nI g), .int (nI nr)])), (rp, .inl (cP, 664, .inl P)), (rq, .inl (cM, 664, .inl M))] _ := hP
      have hD9 : va_D A [(ra, .inr (0, [.ref rp, .ref rq, .int (nI g), .int (nI nr)])), (rp, .inl (cP, 664, .inl P)), (rq, .inl (cM, 664, .inl M))] := hD
      have hK9 : va_K (dC, dI) ksCl [(cP, .int), (cM, .int)] s := hK
      exact W.zret (v := 1) (ty := .boolean) hx hb hr (by decide) (fun t ht hW9 => ⟨⟨1, (), rfl, Or.inl ⟨rfl, by omega, by omega⟩, by rw [ht]; exact hP9, va_K.moved hW9.alike hK9, hD9⟩, hS.F ht⟩) hS.2.2 dX0_hasRoomForLesson_31
end
section
set_option maxHeartbeats 4000000 in
set_option maxRecDepth 100000 in
/-- keepLesson -/
theorem ks_keep (l : Launch) (dC : Nat → ClassId) (dI : Nat → Nat → Nat) (ra rp rq : Nat) (cP cM : ClassId) (P M : Nat → Int32) (g nr : Nat) (p0 m0 : Int32) (hgn : g ≤ nr) (hn1 : nr < g + 64) (hn : nr < 664) : ks_Mv l yX0_keepLesson wsX0_keepLesson ({ frames := 1, cells := 0, slots := 0, locals := 20 }) (dC, dI) [.ref ra, .int p0, .int m0] [(ra, .inr (0, [.ref rp, .ref rq, .int (nI g), .int (nI nr)])), (rp, .inl (cP, 664, .inl P)), (rq, .inl (cM, 664, .inl M))] [(cP, .int), (cM, .int)] 0 0 (S := Unit) (fun _ => True) (fun _ => [(ra, .inr (0, [.ref rp, .ref rq, .int (nI g), .int (nI (nr + 1))])), (rp, .inl (cP, 664, .inl (upd P nr p0))), (rq, .inl (cM, 664, .inl (upd M nr m0)))]) (fun _ => [(cP, .int), (cM, .int)]) := by
  intro sz
  refine Met.ofW (cc := cX0_keepLesson) (maxL := 3) (ret := none) (by decide) rfl ?_
  intro p e s m args below meth c s₁ B9 hml hv
  obtain ⟨rfl, hsz, hP, hK, hD0, hNW⟩ := hv
  have hx := B9.exec
  have hb := B9.bytes
  have hr := B9.returns
  have hts := atoms_spec (ws := wsX0_keepLesson) B9.pre
  have hown : s.vm.findClass RX0 = some m.cls := findClass_of_methodNamed B9.named
  have hlocks := B9.notSynchronized
  subst hsz
  have hD := hD0.self (sz := s.heap.size)
  generalize hAe : va_A [(ra, .inr (0, [.ref rp, .ref rq, .int (nI g), .int (nI nr)])), (rp, .inl (cP, 664, .inl P)), (rq, .inl (cM, 664, .inl M))] s.heap.size = A at hD ⊢
  have hA : ∀ q : Nat, s.heap.size ≤ q → A q := fun q h => by rw [← hAe]; exact Or.inr h
  have hS : va_S A s.heap s.heap [] := va_S.rf
  have hiX0 : ∀ w ∈ u_ws RX0 TX0 4, w ∈ wsX0_keepLesson := by decide +kernel
  have f9 := hts (.fieldLink RX0 9 "LessonSolver$ClauseRow" "plus" "[I") (by decide +kernel)
  have f15 := hts (.fieldLink RX0 15 "LessonSolver$ClauseRow" "minus" "[I") (by decide +kernel)
  have f22 := hts (.fieldLink RX0 22 "LessonSolver$ClauseRow" "size" "I") (by decide +kernel)
  have hl := lv_entry ([.ref ra, .int p0, .int m0]) (n := 3) (Nat.le_of_ble_eq_true rfl)
  rw [lg_entry_eq]
  generalize (lg_sl ([.ref ra, .int p0, .int m0]) ++ List.replicate (3 - (lg_sl ([.ref ra, .int p0, .int m0])).length) Slot.unset).toArray = ls at hl ⊢
  have hl : lv_has ls 3 [(0, .ref ra), (1, .int p0), (2, .int m0)] := hl
  refine lv_aload_n hx hb dX0_keepLesson_0 rfl (lv_at hl 0 rfl) ?_
  refine ks_calliV (As := []) (rest := []) (wr := []) (wz := fun _ => [(ra, .inr (0, [.ref rp, .ref rq, .int (nI g), .int (nI nr)])), (rp, .inl (cP, 664, .inl P)), (rq, .inl (cM, 664, .inl M))]) ⟨hx, hb, hml, hown, hts⟩ (ks_hasRoom l dC dI ra rp rq cP cM P M g nr hgn (by omega)) (cwV 0 hts gX0_keepLesson_X0_hasRoomForLesson rfl rfl rfl (by decide +kernel) ⟨Nat.le_of_ble_eq_true rfl, Nat.le_of_ble_eq_true rfl⟩) hK hP hD hS hA hNW [0, 1, 2] [] [0, 1] [0, 1, 2] rfl rfl rfl rfl (by decide) (by decide) (by decide) (ci := 0) (q0 := 0) rfl rfl rfl (fun _ => rfl) (fun _ => rfl) (by decide) rfl hl.1 rfl (Nat.le_of_ble_eq_true rfl) dX0_keepLesson_1 ⟨Nat.le_of_ble_eq_true rfl, Nat.le_of_ble_eq_true rfl⟩ (fun r1 u9 H locs hw9 hK9 hP hD hS => ?_)
  have er : r1 = 1 := by
    rcases hw9 with q | q
    · exact q.1
    · exact absurd ⟨hn1, hn⟩ q.2
  have hP : va_P (dC, dI) ksCl [(ra, .inr (0, [.ref rp, .ref rq, .int (nI g), .int (nI nr)])), (rp, .inl (cP, 664, .inl P)), (rq, .inl (cM, 664, .inl M))] H := hP
  have hD : va_D A [(ra, .inr (0, [.ref rp, .ref rq, .int (nI g), .int (nI nr)])), (rp, .inl (cP, 664, .inl P)), (rq, .inl (cM, 664, .inl M))] := hD
  refine lv_if_eq (tgt := 37) hx hb dX0_keepLesson_4 (by decide) (fun c4 => absurd (er.symm.trans c4) (by decide)) (fun c4 => ?_)
  refine lv_aload_n hx hb dX0_keepLesson_7 rfl (lv_at hl 0 rfl) ?_
  refine va_get (D := (dC, dI)) (ci := 0) (v := .ref rp) (C := RX0) (T := TX0) (N := 4) hx hb hts hiX0 hown hK hP 0 rfl rfl 0 (by decide) f9 (fun _ h9 => h9) rfl dX0_keepLesson_8 ?_
  refine lv_aload_n hx hb dX0_keepLesson_11 rfl (lv_at hl 0 rfl) ?_
  refine va_get (D := (dC, dI)) (ci := 0) (v := .int (nI nr)) (C := RX0) (T := TX0) (N := 4) hx hb hts hiX0 hown hK hP 0 rfl rfl 3 (by decide) f22 (fun _ h9 => h9) rfl dX0_keepLesson_12 ?_
  refine lv_iload_n hx hb dX0_keepLesson_15 rfl (lv_at hl 1 rfl) ?_
  refine ks_ast hx hb hK hP hD hS 1 0 rfl rfl (j := nr) (by omega) (by decide) dX0_keepLesson_16 (fun H locs hP hD hS => ?_)
  have hP : va_P (dC, dI) ksCl [(ra, .inr (0, [.ref rp, .ref rq, .int (nI g), .int (nI nr)])), (rp, .inl (cP, 664, .inl (upd P nr p0))), (rq, .inl (cM, 664, .inl M))] H := hP
  have hD : va_D A [(ra, .inr (0, [.ref rp, .ref rq, .int (nI g), .int (nI nr)])), (rp, .inl (cP, 664, .inl (upd P nr p0))), (rq, .inl (cM, 664, .inl M))] := hD
  refine lv_aload_n hx hb dX0_keepLesson_17 rfl (lv_at hl 0 rfl) ?_
  refine va_get (D := (dC, dI)) (ci := 0) (v := .ref rq) (C := RX0) (T := TX0) (N := 4) hx hb hts hiX0 hown hK hP 0 rfl rfl 1 (by decide) f15 (fun _ h9 => h9) rfl dX0_keepLesson_18 ?_
  refine lv_aload_n hx hb dX0_keepLesson_21 rfl (lv_at hl 0 rfl) ?_
  refine va_get (D := (dC, dI)) (ci := 0) (v := .int (nI nr)) (C := RX0) (T := TX0) (N := 4) hx hb hts hiX0 hown hK hP 0 rfl rfl 3 (by decide) f22 (fun _ h9 => h9) rfl dX0_keepLesson_22 ?_
  refine lv_iload_n hx hb dX0_keepLesson_25 rfl (lv_at hl 2 rfl) ?_
  refine ks_ast hx hb hK hP hD hS 2 1 rfl rfl (j := nr) (by omega) (by decide) dX0_keepLesson_26 (fun H locs hP hD hS => ?_)
  have hP : va_P (dC, dI) ksCl [(ra, .inr (0, [.ref rp, .ref rq, .int (nI g), .int (nI nr)])), (rp, .inl (cP, 664, .inl (upd P nr p0))), (rq, .inl (cM, 664, .inl (upd M nr m0)))] H := hP
  have hD : va_D A [(ra, .inr (0, [.ref rp, .ref rq, .int (nI g), .int (nI nr)])), (rp, .inl (cP, 664, .inl (upd P nr p0))), (rq, .inl (cM, 664, .inl (upd M nr m0)))] := hD
  refine lv_aload_n hx hb dX0_keepLesson_27 rfl (lv_at hl 0 rfl) ?_
  refine lv_dup hx hb dX0_keepLesson_28 rfl ?_
  refine va_get (D := (dC, dI)) (ci := 0) (v := .int (nI nr)) (C := RX0) (T := TX0) (N := 4) hx hb hts hiX0 hown hK hP 0 rfl rfl 3 (by decide) f22 (fun _ h9 => h9) rfl dX0_keepLesson_29 ?_
  refine lv_iconst (v := 1) hx hb dX0_keepLesson_32 (by decide) ?_
  refine lv_iadd hx hb dX0_keepLesson_33 ?_
  refine ks_top (y := nI (nr + 1)) (nI_1 nr) ?_
  refine va_put (D := (dC, dI)) (ci := 0) (v := .int (nI (nr + 1))) (ty := .int) (C := RX0) (T := TX0) (N := 4) hx hb hts hiX0 tyX0 tyX0_ok nmX0 hown hK hP hD hS 0 rfl rfl 3 (by decide) f22 (fun _ h9 => h9) rfl (by decide +kernel) rfl rfl (Nat.le_of_ble_eq_true rfl) dX0_keepLesson_34 (fun H locs hP hD hS => ?_)
  have hP : va_P (dC, dI) ksCl [(ra, .inr (0, [.ref rp, .ref rq, .int (nI g), .int (nI (nr + 1))])), (rp, .inl (cP, 664, .inl (upd P nr p0))), (rq, .inl (cM, 664, .inl (upd M nr m0)))] H := hP
  have hD : va_D A [(ra, .inr (0, [.ref rp, .ref rq, .int (nI g), .int (nI (nr + 1))])), (rp, .inl (cP, 664, .inl (upd P nr p0))), (rq, .inl (cM, 664, .inl (upd M nr m0)))] := hD
  have hP9 : va_P (dC, dI) ksCl [(ra, .inr (0, [.ref rp, .ref rq, .int (nI g), .int (nI (nr + 1))])), (rp, .inl (cP, 664, .inl (upd P nr p0))), (rq, .inl (cM, 664, .inl (upd M nr m0)))] _ := hP
  have hD9 : va_D A [(ra, .inr (0, [.ref rp, .ref rq, .int (nI g), .int (nI (nr + 1))])), (rp, .inl (cP, 664, .inl (upd P nr p0))), (rq, .inl (cM, 664, .inl (upd M nr m0)))] := hD
  have hK9 : va_K (dC, dI) ksCl [(cP, .int), (cM, .int)] s := hK
  exact W.vret hx hb hr (fun t ht hW9 => ⟨⟨(), rfl, trivial, by rw [ht]; exact hP9, va_K.moved hW9.alike hK9, hD9⟩, hS.F ht⟩) hS.2.2 dX0_keepLesson_37
end
section
set_option maxHeartbeats 4000000 in
set_option maxRecDepth 100000 in
/-- forgetLessonsIfMany -/
theorem ks_forget (l : Launch) (dC : Nat → ClassId) (dI : Nat → Nat → Nat) (ra rp rq : Nat) (g nr : Nat) (hgn : g ≤ nr) : ks_Mv l yX0_forgetLessonsIfMany wsX0_forgetLessonsIfMany ({ frames := 0, cells := 0, slots := 0, locals := 0 }) (dC, dI) [.ref ra] [(ra, .inr (0, [.ref rp, .ref rq, .int (nI g), .int (nI nr)]))] [] 0 0 (S := Nat) (fun u => u = nr ∨ u = g) (fun u => [(ra, .inr (0, [.ref rp, .ref rq, .int (nI g), .int (nI u)]))]) (fun u => []) := by
  intro sz
  refine Met.ofW (cc := cX0_forgetLessonsIfMany) (maxL := 1) (ret := none) (by decide) rfl ?_
  intro p e s m args below meth c s₁ B9 hml hv
  obtain ⟨rfl, hsz, hP, hK, hD0, hNW⟩ := hv
  have hx := B9.exec
  have hb := B9.bytes
  have hr := B9.returns
  have hts := atoms_spec (ws := wsX0_forgetLessonsIfMany) B9.pre
  have hown : s.vm.findClass RX0 = some m.cls := findClass_of_methodNamed B9.named
  have hlocks := B9.notSynchronized
  subst hsz
  have hD := hD0.self (sz := s.heap.size)
  generalize hAe : va_A [(ra, .inr (0, [.ref rp, .ref rq, .int (nI g), .int (nI nr)]))] s.heap.size = A at hD ⊢
  have hA : ∀ q : Nat, s.heap.size ≤ q → A q := fun q h => by rw [← hAe]; exact Or.inr h
  have hS : va_S A s.heap s.heap [] := va_S.rf
  have hiX0 : ∀ w ∈ u_ws RX0 TX0 4, w ∈ wsX0_forgetLessonsIfMany := by decide +kernel
  have f18 := hts (.fieldLink RX0 18 "LessonSolver$ClauseRow" "given" "I") (by decide +kernel)
  have f22 := hts (.fieldLink RX0 22 "LessonSolver$ClauseRow" "size" "I") (by decide +kernel)
  have hl := lv_entry ([.ref ra]) (n := 1) (Nat.le_of_ble_eq_true rfl)
  rw [lg_entry_eq]
  generalize (lg_sl ([.ref ra]) ++ List.replicate (1 - (lg_sl ([.ref ra])).length) Slot.unset).toArray = ls at hl ⊢
  have hl : lv_has ls 1 [(0, .ref ra)] := hl
  refine lv_aload_n hx hb dX0_forgetLessonsIfMany_0 rfl (lv_at hl 0 rfl) ?_
  refine va_get (D := (dC, dI)) (ci := 0) (v := .int (nI nr)) (C := RX0) (T := TX0) (N := 4) hx hb hts hiX0 hown hK hP 0 rfl rfl 3 (by decide) f22 (fun _ h9 => h9) rfl dX0_forgetLessonsIfMany_1 ?_
  refine lv_aload_n hx hb dX0_forgetLessonsIfMany_4 rfl (lv_at hl 0 rfl) ?_
  refine va_get (D := (dC, dI)) (ci := 0) (v := .int (nI g)) (C := RX0) (T := TX0) (N := 4) hx hb hts hiX0 hown hK hP 0 rfl rfl 2 (by decide) f18 (fun _ h9 => h9) rfl dX0_forgetLessonsIfMany_5 ?_
  refine lv_isub hx hb dX0_forgetLessonsIfMany_8 ?_
  refine ks_top (y := nI (nr - g)) (pk_sub hgn) ?_
  refine lv_bipush (v := nI 32) hx hb dX0_forgetLessonsIfMany_9 (by decide) ?_
  refine lv_icmp_le (tgt := 22) hx hb dX0_forgetLessonsIfMany_11 (by decide) (fun c11 => ?_) (fun c11 => ?_)
  · -- 11: jumps
    have hP9 : va_P (dC, dI) ksCl [(ra, .inr (0, [.ref rp, .ref rq, .int (nI g), .int (nI nr)]))] _ := hP
    have hD9 : va_D A [(ra, .inr (0, [.ref rp, .ref rq, .int (nI g), .int (nI nr)]))] := hD
    have hK9 : va_K (dC, dI) ksCl [] s := hK
    exact W.vret hx hb hr (fun t ht hW9 => ⟨⟨nr, rfl, Or.inl rfl, by rw [ht]; exact hP9, va_K.moved hW9.alike hK9, hD9⟩, hS.F ht⟩) hS.2.2 dX0_forgetLessonsIfMany_22
  · -- 11: goes on
    refine lv_aload_n hx hb dX0_forgetLessonsIfMany_14 rfl (lv_at hl 0 rfl) ?_
    refine lv_aload_n hx hb dX0_forgetLessonsIfMany_15 rfl (lv_at hl 0 rfl) ?_
    refine va_get (D := (dC, dI)) (ci := 0) (v := .int (nI g)) (C := RX0) (T := TX0) (N := 4) hx hb hts hiX0 hown hK hP 0 rfl rfl 2 (by decide) f18 (fun _ h9 => h9) rfl dX0_forgetLessonsIfMany_16 ?_
    refine va_put (D := (dC, dI)) (ci := 0) (v := .int (nI g)) (ty := .int) (C := RX0) (T := TX0) (N := 4) hx hb hts hiX0 tyX0 tyX0_ok nmX0 hown hK hP hD hS 0 rfl rfl 3 (by decide) f22 (fun _ h9 => h9) rfl (by decide +kernel) rfl rfl (Nat.le_of_ble_eq_true rfl) dX0_forgetLessonsIfMany_19 (fun H locs hP hD hS => ?_)
    have hP : va_P (dC, dI) ksCl [(ra, .inr (0, [.ref rp, .ref rq, .int (nI g), .int (nI g)]))] H := hP
    have hD : va_D A [(ra, .inr (0, [.ref rp, .ref rq, .int (nI g), .int (nI g)]))] := hD
    have hP9 : va_P (dC, dI) ksCl [(ra, .inr (0, [.ref rp, .ref rq, .int (nI g), .int (nI g)]))] _ := hP
    have hD9 : va_D A [(ra, .inr (0, [.ref rp, .ref rq, .int (nI g), .int (nI g)]))] := hD
    have hK9 : va_K (dC, dI) ksCl [] s := hK
    exact W.vret hx hb hr (fun t ht hW9 => ⟨⟨g, rfl, Or.inr rfl, by rw [ht]; exact hP9, va_K.moved hW9.alike hK9, hD9⟩, hS.F ht⟩) hS.2.2 dX0_forgetLessonsIfMany_22
end
section
set_option maxHeartbeats 4000000 in
set_option maxRecDepth 100000 in
/-- saysAlready -/
theorem ks_says (l : Launch) (dC : Nat → ClassId) (dI : Nat → Nat → Nat) (ra rp rq : Nat) (cP cM : ClassId) (P M : Nat → Int32) (g nr : Nat) (p0 m0 : Int32) (hn : nr ≤ 664) : ks_Mi l yX0_saysAlready wsX0_saysAlready ({ frames := 0, cells := 0, slots := 0, locals := 0 }) (dC, dI) [.ref ra, .int p0, .int m0] [(ra, .inr (0, [.ref rp, .ref rq, .int (nI g), .int (nI nr)])), (rp, .inl (cP, 664, .inl P)), (rq, .inl (cM, 664, .inl M))] [(cP, .int), (cM, .int)] 0 0 (S := Unit) (fun r _ => r = 0 ∨ r = 1) (fun _ => [(ra, .inr (0, [.ref rp, .ref rq, .int (nI g), .int (nI nr)])), (rp, .inl (cP, 664, .inl P)), (rq, .inl (cM, 664, .inl M))]) (fun _ => [(cP, .int), (cM, .int)]) := by
  intro sz
  refine Met.ofW (cc := cX0_saysAlready) (maxL := 4) (ret := (some .boolean)) (by decide) rfl ?_
  intro p e s m args below meth c s₁ B9 hml hv
  obtain ⟨rfl, hsz, hP, hK, hD0, hNW⟩ := hv
  have hx := B9.exec
  have hb := B9.bytes
  have hr := B9.returns
  have hts := atoms_spec (ws := wsX0_saysAlready) B9.pre
  have hown : s.vm.findClass RX0 = some m.cls := findClass_of_methodNamed B9.named
  have hlocks := B9.notSynchronized
  subst hsz
  have hD := hD0.self (sz := s.heap.size)
  generalize hAe : va_A [(ra, .inr (0, [.ref rp, .ref rq, .int (nI g), .int (nI nr)])), (rp, .inl (cP, 664, .inl P)), (rq, .inl (cM, 664, .inl M))] s.heap.size = A at hD ⊢
  have hA : ∀ q : Nat, s.heap.size ≤ q → A q := fun q h => by rw [← hAe]; exact Or.inr h
  have hS : va_S A s.heap s.heap [] := va_S.rf
  have hiX0 : ∀ w ∈ u_ws RX0 TX0 4, w ∈ wsX0_saysAlready := by decide +kernel
  have f9 := hts (.fieldLink RX0 9 "LessonSolver$ClauseRow" "plus" "[I") (by decide +kernel)
  have f15 := hts (.fieldLink RX0 15 "LessonSolver$ClauseRow" "minus" "[I") (by decide +kernel)
  have f22 := hts (.fieldLink RX0 22 "LessonSolver$ClauseRow" "size" "I") (by decide +kernel)
  have hl := lv_entry ([.ref ra, .int p0, .int m0]) (n := 4) (Nat.le_of_ble_eq_true rfl)
  rw [lg_entry_eq]
  generalize (lg_sl ([.ref ra, .int p0, .int m0]) ++ List.replicate (4 - (lg_sl ([.ref ra, .int p0, .int m0])).length) Slot.unset).toArray = ls at hl ⊢
  have hl : lv_has ls 4 [(0, .ref ra), (1, .int p0), (2, .int m0)] := hl
  refine lv_iconst (v := nI 0) hx hb dX0_saysAlready_0 (by decide) ?_
  refine lv_istore_n (lv' := [(3, .int (nI 0)), (0, .ref ra), (1, .int p0), (2, .int m0)]) hx hb dX0_saysAlready_1 rfl hl (by decide) rfl (fun ls hl => ?_)
  refine ks_wl (σ := Nat) (fun n x H locs ls => (x ≤ nr) ∧ (n + x = nr + 1) ∧ va_P (dC, dI) ksCl [(ra, .inr (0, [.ref rp, .ref rq, .int (nI g), .int (nI nr)])), (rp, .inl (cP, 664, .inl P)), (rq, .inl (cM, 664, .inl M))] H ∧ va_D A [(ra, .inr (0, [.ref rp, .ref rq, .int (nI g), .int (nI nr)])), (rp, .inl (cP, 664, .inl P)), (rq, .inl (cM, 664, .inl M))] ∧ va_S A s.heap H locs ∧ lv_has ls 4 [(0, .ref ra), (1, .int p0), (2, .int m0), (3, .int (nI x))]) 2 ?_ ?_ (nr + 1) 0 _ _ ls ⟨Nat.zero_le _, rfl, hP, hD, hS, lv_sub hl [1, 2, 3, 0] rfl⟩
  · -- loop at 2
    intro n x H locs ls h9 ih
    obtain ⟨cq, rfl⟩ : ∃ z, z = x := ⟨_, rfl⟩
    obtain ⟨i1, i2, hP, hD, hS, hl⟩ := h9
    have i1 : cq ≤ nr := i1
    have i2 : (n + 1) + cq = nr + 1 := i2
    have hP : va_P (dC, dI) ksCl [(ra, .inr (0, [.ref rp, .ref rq, .int (nI g), .int (nI nr)])), (rp, .inl (cP, 664, .inl P)), (rq, .inl (cM, 664, .inl M))] H := hP
    have hD : va_D A [(ra, .inr (0, [.ref rp, .ref rq, .int (nI g), .int (nI nr)])), (rp, .inl (cP, 664, .inl P)), (rq, .inl (cM, 664, .inl M))] := hD
    have hl : lv_has ls 4 [(0, .ref ra), (1, .int p0), (2, .int m0), (3, .int (nI cq))] := hl
    refine lv_iload_n hx hb dX0_saysAlready_2 rfl (lv_at hl 3 rfl) ?_
    refine lv_aload_n hx hb dX0_saysAlready_3 rfl (lv_at hl 0 rfl) ?_
    refine va_get (D := (dC, dI)) (ci := 0) (v := .int (nI nr)) (C := RX0) (T := TX0) (N := 4) hx hb hts hiX0 hown hK hP 0 rfl rfl 3 (by decide) f22 (fun _ h9 => h9) rfl dX0_saysAlready_4 ?_
    refine lv_icmp_ge (tgt := 44) hx hb dX0_saysAlready_7 (by decide) (fun c7 => ?_) (fun c7 => ?_)
    · -- 7: jumps
      have hc : nr ≤ cq := by
        rcases Nat.lt_or_ge cq nr with q | q
        · exact absurd c7 (nI_ge q (by omega))
        · exact q
      refine lv_iconst (v := 0) hx hb dX0_saysAlready_44 (by decide) ?_
      have hP9 : va_P (dC, dI) ksCl [(ra, .inr (0, [.ref rp, .ref rq, .int (nI g), .int (nI nr)])), (rp, .inl (cP, 664, .inl P)), (rq, .inl (cM, 664, .inl M))] _ := hP
      have hD9 : va_D A [(ra, .inr (0, [.ref rp, .ref rq, .int (nI g), .int (nI nr)])), (rp, .inl (cP, 664, .inl P)), (rq, .inl (cM, 664, .inl M))] := hD
      have hK9 : va_K (dC, dI) ksCl [(cP, .int), (cM, .int)] s := hK
      exact W.zret (v := 0) (ty := .boolean) hx hb hr (by decide) (fun t ht hW9 => ⟨⟨0, (), rfl, Or.inl rfl, by rw [ht]; exact hP9, va_K.moved hW9.alike hK9, hD9⟩, hS.F ht⟩) hS.2.2 dX0_saysAlready_45
    · -- 7: goes on
      have hc : cq < nr := by
        rcases Nat.lt_or_ge cq nr with q | q
        · exact q
        · exact absurd (nI_le q (by omega)) c7
      refine lv_aload_n hx hb dX0_saysAlready_10 rfl (lv_at hl 0 rfl) ?_
      refine va_get (D := (dC, dI)) (ci := 0) (v := .ref rp) (C := RX0) (T := TX0) (N := 4) hx hb hts hiX0 hown hK hP 0 rfl rfl 0 (by decide) f9 (fun _ h9 => h9) rfl dX0_saysAlready_11 ?_
      refine lv_iload_n hx hb dX0_saysAlready_14 rfl (lv_at hl 3 rfl) ?_
      refine ks_ald hx hb hK hP 1 0 rfl rfl (j := cq) (by omega) (by decide) dX0_saysAlready_15 ?_
      refine lv_iload_n hx hb dX0_saysAlready_16 rfl (lv_at hl 1 rfl) ?_
      refine lv_iconst (v := -1) hx hb dX0_saysAlready_17 (by decide) ?_
      refine lv_ixor hx hb dX0_saysAlready_18 ?_
      refine lv_iand hx hb dX0_saysAlready_19 ?_
      refine lv_if_ne (tgt := 38) hx hb dX0_saysAlready_20 (by decide) (fun c20 => ?_) (fun c20 => ?_)
      · -- 20: jumps
        refine lv_iinc (v := nI (cq + 1)) (lv' := [(3, .int (nI (cq + 1))), (0, .ref ra), (1, .int p0), (2, .int m0)]) hx hb dX0_saysAlready_38 hl (k := 3) rfl (nI_1 _) (by decide) rfl (fun ls hl => ?_)
        refine lv_goto (tgt := 2) hx hb dX0_saysAlready_41 (by decide) ?_
        exact ih (cq + 1) _ _ _ ⟨hc, by omega, hP, hD, hS, lv_sub hl [1, 2, 3, 0] rfl⟩
      · -- 20: goes on
        refine lv_aload_n hx hb dX0_saysAlready_23 rfl (lv_at hl 0 rfl) ?_
        refine va_get (D := (dC, dI)) (ci := 0) (v := .ref rq) (C := RX0) (T := TX0) (N := 4) hx hb hts hiX0 hown hK hP 0 rfl rfl 1 (by decide) f15 (fun _ h9 => h9) rfl dX0_saysAlready_24 ?_
        refine lv_iload_n hx hb dX0_saysAlready_27 rfl (lv_at hl 3 rfl) ?_
        refine ks_ald hx hb hK hP 2 1 rfl rfl (j := cq) (by omega) (by decide) dX0_saysAlready_28 ?_
        refine lv_iload_n hx hb dX0_saysAlready_29 rfl (lv_at hl 2 rfl) ?_
        refine lv_iconst (v := -1) hx hb dX0_saysAlready_30 (by decide) ?_
        refine lv_ixor hx hb dX0_saysAlready_31 ?_
        refine lv_iand hx hb dX0_saysAlready_32 ?_
        refine lv_if_ne (tgt := 38) hx hb dX0_saysAlready_33 (by decide) (fun c33 => ?_) (fun c33 => ?_)
        · -- 33: jumps
          refine lv_iinc (v := nI (cq + 1)) (lv' := [(3, .int (nI (cq + 1))), (0, .ref ra), (1, .int p0), (2, .int m0)]) hx hb dX0_saysAlready_38 hl (k := 3) rfl (nI_1 _) (by decide) rfl (fun ls hl => ?_)
          refine lv_goto (tgt := 2) hx hb dX0_saysAlready_41 (by decide) ?_
          exact ih (cq + 1) _ _ _ ⟨hc, by omega, hP, hD, hS, lv_sub hl [1, 2, 3, 0] rfl⟩
        · -- 33: goes on
          refine lv_iconst (v := 1) hx hb dX0_saysAlready_36 (by decide) ?_
          have hP9 : va_P (dC, dI) ksCl [(ra, .inr (0, [.ref rp, .ref rq, .int (nI g), .int (nI nr)])), (rp, .inl (cP, 664, .inl P)), (rq, .inl (cM, 664, .inl M))] _ := hP
          have hD9 : va_D A [(ra, .inr (0, [.ref rp, .ref rq, .int (nI g), .int (nI nr)])), (rp, .inl (cP, 664, .inl P)), (rq, .inl (cM, 664, .inl M))] := hD
          have hK9 : va_K (dC, dI) ksCl [(cP, .int), (cM, .int)] s := hK
          exact W.zret (v := 1) (ty := .boolean) hx hb hr (by decide) (fun t ht hW9 => ⟨⟨1, (), rfl, Or.inr rfl, by rw [ht]; exact hP9, va_K.moved hW9.alike hK9, hD9⟩, hS.F ht⟩) hS.2.2 dX0_saysAlready_37
  · intro x H locs ls h9
    obtain ⟨i1, i2, -, -, -, -⟩ := h9
    skip
    omega
end
section
set_option maxHeartbeats 4000000 in
set_option maxRecDepth 100000 in
/-- Trail() -/
theorem ks_trail_init (l : Launch) (dC : Nat → ClassId) (dI : Nat → Nat → Nat) (ta : Nat) : ks_Mv l yX2_init wsX2_init ({ frames := 1, cells := 2, slots := 32, locals := 12 }) (dC, dI) [.ref ta] [(ta, .inr (2, [.null, .null, .int 0, .int 0, .int 0]))] [] 2 32 (S := Nat × Nat × ClassId × ClassId) (fun _ => True) (fun u => [(ta, .inr (2, [.ref u.1, .ref u.2.1, .int 0, .int 0, .int 0])), (u.1, .inl (u.2.2.1, 16, .inl (fun _ => 0))), (u.2.1, .inl (u.2.2.2, 16, .inl (fun _ => 0)))]) (fun u => [(u.2.2.1, .int), (u.2.2.2, .int)]) := by
  intro sz
  refine Met.ofW (cc := cX2_init) (maxL := 1) (ret := none) (by decide) rfl ?_
  intro p e s m args below meth c s₁ B9 hml hv
  obtain ⟨rfl, hsz, hP, hK, hD0, hNW⟩ := hv
  have hx := B9.exec
  have hb := B9.bytes
  have hr := B9.returns
  have hts := atoms_spec (ws := wsX2_init) B9.pre
  have hown : s.vm.findClass RX2 = some m.cls := findClass_of_methodNamed B9.named
  have hlocks := B9.notSynchronized
  have hin : meth.name = "<init>" := (name_of_methodNamed B9.named B9.method).1
  subst hsz
  have hD := hD0.self (sz := s.heap.size)
  generalize hAe : va_A [(ta, .inr (2, [.null, .null, .int 0, .int 0, .int 0]))] s.heap.size = A at hD ⊢
  have hA : ∀ q : Nat, s.heap.size ≤ q → A q := fun q h => by rw [← hAe]; exact Or.inr h
  have hS : va_S A s.heap s.heap [] := va_S.rf
  have hiX2 : ∀ w ∈ u_ws RX2 TX2 5, w ∈ wsX2_init := by decide +kernel
  have f9 := hts (.fieldLink RX2 9 "LessonSolver$Trail" "bits" "[I") (by decide +kernel)
  have f15 := hts (.fieldLink RX2 15 "LessonSolver$Trail" "reasons" "[I") (by decide +kernel)
  have hari := hts (.arrayClass (newarray.typeOf .int)) (by decide +kernel)
  have hl := lv_entry ([.ref ta]) (n := 1) (Nat.le_of_ble_eq_true rfl)
  rw [lg_entry_eq]
  generalize (lg_sl ([.ref ta]) ++ List.replicate (1 - (lg_sl ([.ref ta])).length) Slot.unset).toArray = ls at hl ⊢
  have hl : lv_has ls 1 [(0, .ref ta)] := hl
  refine lv_aload_n hx hb dX2_init_0 rfl (lv_at hl 0 rfl) ?_
  refine W.objInit hx hb hown (hts (.methodLink RX2 3 objectInit) (by decide +kernel)) (hts (.instanceMethod objectInit) (by decide +kernel)) (hts (.code objectInit ⟨#[0xb1]⟩ 1 none) (by decide +kernel)) rfl (by rw [hml]; exact hl.1) rfl dX2_init_1 (Nat.le_of_ble_eq_true rfl) (Nat.le_of_ble_eq_true rfl) ?_
  refine W.eq (g2 := F0 m 4 ls []) rfl ?_
  refine lv_aload_n hx hb dX2_init_4 rfl (lv_at hl 0 rfl) ?_
  refine lv_bipush (v := nI 16) hx hb dX2_init_5 (by decide) ?_
  refine va_newa (N' := 16) (a0 := (16, .inl (fun _ => 0))) hx hb hari rfl hK hP hD hS hA (fun _ => rfl) (by decide) (by decide) (by decide) (Nat.le_of_ble_eq_true rfl) (Nat.le_of_ble_eq_true rfl) dX2_init_7 (fun tb cB H hK hP hD hS => ?_)
  have hP : va_P (dC, dI) ksCl [(ta, .inr (2, [.null, .null, .int 0, .int 0, .int 0])), (tb, .inl (cB, 16, .inl (fun _ => 0)))] H := hP
  have hD : va_D A [(ta, .inr (2, [.null, .null, .int 0, .int 0, .int 0])), (tb, .inl (cB, 16, .inl (fun _ => 0)))] := hD
  have hK : va_K (dC, dI) ksCl [(cB, .int)] s := hK
  refine va_putF (D := (dC, dI)) (ci := 2) (v := .ref tb) (ty := .array .int) (C := RX2) (T := TX2) (N := 5) hx hb hts hiX2 tyX2 tyX2_ok nmX2 hown hK hP hD hS 0 rfl rfl 0 (by decide) f9 (fun _ h9 => h9) rfl hin rfl (by decide +kernel) rfl rfl (Nat.le_of_ble_eq_true rfl) dX2_init_9 (fun H locs hP hD hS => ?_)
  have hP : va_P (dC, dI) ksCl [(ta, .inr (2, [.ref tb, .null, .int 0, .int 0, .int 0])), (tb, .inl (cB, 16, .inl (fun _ => 0)))] H := hP
  have hD : va_D A [(ta, .inr (2, [.ref tb, .null, .int 0, .int 0, .int 0])), (tb, .inl (cB, 16, .inl (fun _ => 0)))] := hD
  refine lv_aload_n hx hb dX2_init_12 rfl (lv_at hl 0 rfl) ?_
  refine lv_bipush (v := nI 16) hx hb dX2_init_13 (by decide) ?_
  refine va_newa (N' := 16) (a0 := (16, .inl (fun _ => 0))) hx hb hari rfl hK hP hD hS hA (fun _ => rfl) (by decide) (by decide) (by decide) (Nat.le_of_ble_eq_true rfl) (Nat.le_of_ble_eq_true rfl) dX2_init_15 (fun tr cR H hK hP hD hS => ?_)
  have hP : va_P (dC, dI) ksCl [(ta, .inr (2, [.ref tb, .null, .int 0, .int 0, .int 0])), (tb, .inl (cB, 16, .inl (fun _ => 0))), (tr, .inl (cR, 16, .inl (fun _ => 0)))] H := hP
  have hD : va_D A [(ta, .inr (2, [.ref tb, .null, .int 0, .int 0, .int 0])), (tb, .inl (cB, 16, .inl (fun _ => 0))), (tr, .inl (cR, 16, .inl (fun _ => 0)))] := hD
  have hK : va_K (dC, dI) ksCl [(cB, .int), (cR, .int)] s := hK
  refine va_putF (D := (dC, dI)) (ci := 2) (v := .ref tr) (ty := .array .int) (C := RX2) (T := TX2) (N := 5) hx hb hts hiX2 tyX2 tyX2_ok nmX2 hown hK hP hD hS 0 rfl rfl 1 (by decide) f15 (fun _ h9 => h9) rfl hin rfl (by decide +kernel) rfl rfl (Nat.le_of_ble_eq_true rfl) dX2_init_17 (fun H locs hP hD hS => ?_)
  have hP : va_P (dC, dI) ksCl [(ta, .inr (2, [.ref tb, .ref tr, .int 0, .int 0, .int 0])), (tb, .inl (cB, 16, .inl (fun _ => 0))), (tr, .inl (cR, 16, .inl (fun _ => 0)))] H := hP
  have hD : va_D A [(ta, .inr (2, [.ref tb, .ref tr, .int 0, .int 0, .int 0])), (tb, .inl (cB, 16, .inl (fun _ => 0))), (tr, .inl (cR, 16, .inl (fun _ => 0)))] := hD
  have hP9 : va_P (dC, dI) ksCl [(ta, .inr (2, [.ref tb, .ref tr, .int 0, .int 0, .int 0])), (tb, .inl (cB, 16, .inl (fun _ => 0))), (tr, .inl (cR, 16, .inl (fun _ => 0)))] _ := hP
  have hD9 : va_D A [(ta, .inr (2, [.ref tb, .ref tr, .int 0, .int 0, .int 0])), (tb, .inl (cB, 16, .inl (fun _ => 0))), (tr, .inl (cR, 16, .inl (fun _ => 0)))] := hD
  have hK9 : va_K (dC, dI) ksCl [(cB, .int), (cR, .int)] s := hK
  refine W.widen (k := 2) (n := 32) (by omega) (by omega) ?_
  exact W.vret hx hb hr (fun t ht hW9 => ⟨⟨(tb, tr, cB, cR), rfl, trivial, by rw [ht]; exact hP9, va_K.moved hW9.alike hK9, hD9⟩, hS.F ht⟩) hS.2.2 dX2_init_20
end
section
set_option maxHeartbeats 4000000 in
set_option maxRecDepth 100000 in
/-- Search(variables, row) -/
theorem ks_search_init (l : Launch) (dC : Nat → ClassId) (dI : Nat → Nat → Nat) (sa ra N : Nat) : ks_Mv l yX1_init wsX1_init ({ frames := 2, cells := 6, slots := 74, locals := 32 }) (dC, dI) [.ref sa, .int (nI N), .ref ra] [(sa, .inr (1, [.int 0, .null, .null, .null, .int 0]))] [] 6 74 (S := Nat × Nat × Nat × ClassId × ClassId × Nat × Nat × Nat × ClassId × ClassId) (fun _ => True) (fun u => [(sa, .inr (1, [.int (nI N), .ref ra, .ref u.1, .ref u.2.2.2.2.2.1, .int 0])), (u.1, .inr (2, [.ref u.2.1, .ref u.2.2.1, .int 0, .int 0, .int 0])), (u.2.1, .inl (u.2.2.2.1, 16, .inl (fun _ => 0))), (u.2.2.1, .inl (u.2.2.2.2.1, 16, .inl (fun _ => 0))), (u.2.2.2.2.2.1, .inr (2, [.ref u.2.2.2.2.2.2.1, .ref u.2.2.2.2.2.2.2.1, .int 0, .int 0, .int 0])), (u.2.2.2.2.2.2.1, .inl (u.2.2.2.2.2.2.2.2.1, 16, .inl (fun _ => 0))), (u.2.2.2.2.2.2.2.1, .inl (u.2.2.2.2.2.2.2.2.2, 16, .inl (fun _ => 0)))]) (fun u => [(u.2.2.2.1, .int), (u.2.2.2.2.1, .int), (u.2.2.2.2.2.2.2.2.1, .int), (u.2.2.2.2.2.2.2.2.2, .int)]) := by
  intro sz
  refine Met.ofW (cc := cX1_init) (maxL := 3) (ret := none) (by decide) rfl ?_
  intro p e s m args below meth c s₁ B9 hml hv
  obtain ⟨rfl, hsz, hP, hK, hD0, hNW⟩ := hv
  have hx := B9.exec
  have hb := B9.bytes
  have hr := B9.returns
  have hts := atoms_spec (ws := wsX1_init) B9.pre
  have hown : s.vm.findClass RX1 = some m.cls := findClass_of_methodNamed B9.named
  have hlocks := B9.notSynchronized
  have hin : meth.name = "<init>" := (name_of_methodNamed B9.named B9.method).1
  subst hsz
  have hD := hD0.self (sz := s.heap.size)
  generalize hAe : va_A [(sa, .inr (1, [.int 0, .null, .null, .null, .int 0]))] s.heap.size = A at hD ⊢
  have hA : ∀ q : Nat, s.heap.size ≤ q → A q := fun q h => by rw [← hAe]; exact Or.inr h
  have hS : va_S A s.heap s.heap [] := va_S.rf
  have hiX1 : ∀ w ∈ u_ws RX1 TX1 5, w ∈ wsX1_init := by decide +kernel
  have hiX2 : ∀ w ∈ u_ws RX2 TX2 5, w ∈ wsX1_init := by decide +kernel
  have f9 := hts (.fieldLink RX1 9 "LessonSolver$Search" "variables" "I") (by decide +kernel)
  have f15 := hts (.fieldLink RX1 15 "LessonSolver$Search" "row" "LLessonSolver$ClauseRow;") (by decide +kernel)
  have f22 := hts (.fieldLink RX1 22 "LessonSolver$Search" "trail" "LLessonSolver$Trail;") (by decide +kernel)
  have f26 := hts (.fieldLink RX1 26 "LessonSolver$Search" "proof" "LLessonSolver$Trail;") (by decide +kernel)
  have hl := lv_entry ([.ref sa, .int (nI N), .ref ra]) (n := 3) (Nat.le_of_ble_eq_true rfl)
  rw [lg_entry_eq]
  generalize (lg_sl ([.ref sa, .int (nI N), .ref ra]) ++ List.replicate (3 - (lg_sl ([.ref sa, .int (nI N), .ref ra])).length) Slot.unset).toArray = ls at hl ⊢
  have hl : lv_has ls 3 [(0, .ref sa), (1, .int (nI N)), (2, .ref ra)] := hl
  refine lv_aload_n hx hb dX1_init_0 rfl (lv_at hl 0 rfl) ?_
  refine W.objInit hx hb hown (hts (.methodLink RX1 3 objectInit) (by decide +kernel)) (hts (.instanceMethod objectInit) (by decide +kernel)) (hts (.code objectInit ⟨#[0xb1]⟩ 1 none) (by decide +kernel)) rfl (by rw [hml]; exact hl.1) rfl dX1_init_1 (Nat.le_of_ble_eq_true rfl) (Nat.le_of_ble_eq_true rfl) ?_
  refine W.eq (g2 := F0 m 4 ls []) rfl ?_
  refine lv_aload_n hx hb dX1_init_4 rfl (lv_at hl 0 rfl) ?_
  refine lv_iload_n hx hb dX1_init_5 rfl (lv_at hl 1 rfl) ?_
  refine va_putF (D := (dC, dI)) (ci := 1) (v := .int (nI N)) (ty := .int) (C := RX1) (T := TX1) (N := 5) hx hb hts hiX1 tyX1 tyX1_ok nmX1 hown hK hP hD hS 0 rfl rfl 0 (by decide) f9 (fun _ h9 => h9) rfl hin rfl (by decide +kernel) rfl rfl (Nat.le_of_ble_eq_true rfl) dX1_init_6 (fun H locs hP hD hS => ?_)
  have hP : va_P (dC, dI) ksCl [(sa, .inr (1, [.int (nI N), .null, .null, .null, .int 0]))] H := hP
  have hD : va_D A [(sa, .inr (1, [.int (nI N), .null, .null, .null, .int 0]))] := hD
  refine lv_aload_n hx hb dX1_init_9 rfl (lv_at hl 0 rfl) ?_
  refine lv_aload_n hx hb dX1_init_10 rfl (lv_at hl 2 rfl) ?_
  refine va_putF (D := (dC, dI)) (ci := 1) (v := .ref ra) (ty := .object "LessonSolver$ClauseRow") (C := RX1) (T := TX1) (N := 5) hx hb hts hiX1 tyX1 tyX1_ok nmX1 hown hK hP hD hS 0 rfl rfl 1 (by decide) f15 (fun _ h9 => h9) rfl hin rfl (by decide +kernel) rfl rfl (Nat.le_of_ble_eq_true rfl) dX1_init_11 (fun H locs hP hD hS => ?_)
  have hP : va_P (dC, dI) ksCl [(sa, .inr (1, [.int (nI N), .ref ra, .null, .null, .int 0]))] H := hP
  have hD : va_D A [(sa, .inr (1, [.int (nI N), .ref ra, .null, .null, .int 0]))] := hD
  refine lv_aload_n hx hb dX1_init_14 rfl (lv_at hl 0 rfl) ?_
  refine va_new (ci := 2) (fs := [.null, .null, .int 0, .int 0, .int 0]) (C := RX2) (T := TX2) (N := 5) hx hb hts hiX2 tyX2 tyX2_ok hown (hts (.classLink RX1 19 RX2) (by decide +kernel)) (hts (.instantiable RX2 5) (by decide +kernel)) (hts (.initialized RX2) (by decide +kernel)) hK hP hD hS hA rfl (fun j hj => by rcases (show j = 0 ∨ j = 1 ∨ j = 2 ∨ j = 3 ∨ j = 4 by omega) with rfl | rfl | rfl | rfl | rfl <;> rfl) (Nat.le_of_ble_eq_true rfl) (Nat.le_of_ble_eq_true rfl) dX1_init_15 (fun ta H hP hD hS => ?_)
  have hP : va_P (dC, dI) ksCl [(sa, .inr (1, [.int (nI N), .ref ra, .null, .null, .int 0])), (ta, .inr (2, [.null, .null, .int 0, .int 0, .int 0]))] H := hP
  have hD : va_D A [(sa, .inr (1, [.int (nI N), .ref ra, .null, .null, .int 0])), (ta, .inr (2, [.null, .null, .int 0, .int 0, .int 0]))] := hD
  refine lv_dup hx hb dX1_init_18 rfl ?_
  refine ks_callvI (As := []) (rest := [.ref ta, .ref sa]) (wr := [(sa, .inr (1, [.int (nI N), .ref ra, .null, .null, .int 0]))]) (wz := fun u => [(sa, .inr (1, [.int (nI N), .ref ra, .null, .null, .int 0])), (ta, .inr (2, [.ref u.1, .ref u.2.1, .int 0, .int 0, .int 0])), (u.1, .inl (u.2.2.1, 16, .inl (fun _ => 0))), (u.2.1, .inl (u.2.2.2, 16, .inl (fun _ => 0)))]) ⟨hx, hb, hml, hown, hts⟩ (ks_trail_init l dC dI ta) (cwI 0 hts gX1_init_X2_init rfl rfl rfl (hts (.initialized RX2) (by decide +kernel)) (hts (.methodLink RX1 21 yX2_init) (by decide +kernel)) (hts (.instanceMethod yX2_init) (by decide +kernel)) rfl (by decide +kernel) ⟨Nat.le_of_ble_eq_true rfl, Nat.le_of_ble_eq_true rfl⟩) hK hP hD hS hA hNW [1] [0] [] [0, 1, 2, 3] rfl rfl rfl rfl (by decide) (by decide) (by decide) (fun _ => rfl) (fun _ => rfl) (by decide) rfl hl.1 rfl (Nat.le_of_ble_eq_true rfl) dX1_init_19 ⟨Nat.le_of_ble_eq_true rfl, Nat.le_of_ble_eq_true rfl⟩ (fun u9 H locs hw9 hK9 hP hD hS => ?_)
  obtain ⟨tb, tr, cB, cR⟩ := u9
  have hP : va_P (dC, dI) ksCl [(sa, .inr (1, [.int (nI N), .ref ra, .null, .null, .int 0])), (ta, .inr (2, [.ref tb, .ref tr, .int 0, .int 0, .int 0])), (tb, .inl (cB, 16, .inl (fun _ => 0))), (tr, .inl (cR, 16, .inl (fun _ => 0)))] H := hP
  have hD : va_D A [(sa, .inr (1, [.int (nI N), .ref ra, .null, .null, .int 0])), (ta, .inr (2, [.ref tb, .ref tr, .int 0, .int 0, .int 0])), (tb, .inl (cB, 16, .inl (fun _ => 0))), (tr, .inl (cR, 16, .inl (fun _ => 0)))] := hD
  have hK : va_K (dC, dI) ksCl [(cB, .int), (cR, .int)] s := hK9
  refine va_putF (D := (dC, dI)) (ci := 1) (v := .ref ta) (ty := .object "LessonSolver$Trail") (C := RX1) (T := TX1) (N := 5) hx hb hts hiX1 tyX1 tyX1_ok nmX1 hown hK hP hD hS 0 rfl rfl 2 (by decide) f22 (fun _ h9 => h9) rfl hin rfl (by decide +kernel) rfl rfl (Nat.le_of_ble_eq_true rfl) dX1_init_22 (fun H locs hP hD hS => ?_)
  have hP : va_P (dC, dI) ksCl [(sa, .inr (1, [.int (nI N), .ref ra, .ref ta, .null, .int 0])), (ta, .inr (2, [.ref tb, .ref tr, .int 0, .int 0, .int 0])), (tb, .inl (cB, 16, .inl (fun _ => 0))), (tr, .inl (cR, 16, .inl (fun _ => 0)))] H := hP
  have hD : va_D A [(sa, .inr (1, [.int (nI N), .ref ra, .ref ta, .null, .int 0])), (ta, .inr (2, [.ref tb, .ref tr, .int 0, .int 0, .int 0])), (tb, .inl (cB, 16, .inl (fun _ => 0))), (tr, .inl (cR, 16, .inl (fun _ => 0)))] := hD
  refine lv_aload_n hx hb dX1_init_25 rfl (lv_at hl 0 rfl) ?_
  refine va_new (ci := 2) (fs := [.null, .null, .int 0, .int 0, .int 0]) (C := RX2) (T := TX2) (N := 5) hx hb hts hiX2 tyX2 tyX2_ok hown (hts (.classLink RX1 19 RX2) (by decide +kernel)) (hts (.instantiable RX2 5) (by decide +kernel)) (hts (.initialized RX2) (by decide +kernel)) hK hP hD hS hA rfl (fun j hj => by rcases (show j = 0 ∨ j = 1 ∨ j = 2 ∨ j = 3 ∨ j = 4 by omega) with rfl | rfl | rfl | rfl | rfl <;> rfl) (Nat.le_of_ble_eq_true rfl) (Nat.le_of_ble_eq_true rfl) dX1_init_26 (fun qa H hP hD hS => ?_)
  have hP : va_P (dC, dI) ksCl [(sa, .inr (1, [.int (nI N), .ref ra, .ref ta, .null, .int 0])), (ta, .inr (2, [.ref tb, .ref tr, .int 0, .int 0, .int 0])), (tb, .inl (cB, 16, .inl (fun _ => 0))), (tr, .inl (cR, 16, .inl (fun _ => 0))), (qa, .inr (2, [.null, .null, .int 0, .int 0, .int 0]))] H := hP
  have hD : va_D A [(sa, .inr (1, [.int (nI N), .ref ra, .ref ta, .null, .int 0])), (ta, .inr (2, [.ref tb, .ref tr, .int 0, .int 0, .int 0])), (tb, .inl (cB, 16, .inl (fun _ => 0))), (tr, .inl (cR, 16, .inl (fun _ => 0))), (qa, .inr (2, [.null, .null, .int 0, .int 0, .int 0]))] := hD
  refine lv_dup hx hb dX1_init_29 rfl ?_
  refine ks_callvI (As := []) (rest := [.ref qa, .ref sa]) (wr := [(sa, .inr (1, [.int (nI N), .ref ra, .ref ta, .null, .int 0])), (ta, .inr (2, [.ref tb, .ref tr, .int 0, .int 0, .int 0])), (tb, .inl (cB, 16, .inl (fun _ => 0))), (tr, .inl (cR, 16, .inl (fun _ => 0)))]) (wz := fun u => [(sa, .inr (1, [.int (nI N), .ref ra, .ref ta, .null, .int 0])), (ta, .inr (2, [.ref tb, .ref tr, .int 0, .int 0, .int 0])), (tb, .inl (cB, 16, .inl (fun _ => 0))), (tr, .inl (cR, 16, .inl (fun _ => 0))), (qa, .inr (2, [.ref u.1, .ref u.2.1, .int 0, .int 0, .int 0])), (u.1, .inl (u.2.2.1, 16, .inl (fun _ => 0))), (u.2.1, .inl (u.2.2.2, 16, .inl (fun _ => 0)))]) ⟨hx, hb, hml, hown, hts⟩ (ks_trail_init l dC dI qa) (cwI 0 hts gX1_init_X2_init rfl rfl rfl (hts (.initialized RX2) (by decide +kernel)) (hts (.methodLink RX1 21 yX2_init) (by decide +kernel)) (hts (.instanceMethod yX2_init) (by decide +kernel)) rfl (by decide +kernel) ⟨Nat.le_of_ble_eq_true rfl, Nat.le_of_ble_eq_true rfl⟩) hK hP hD hS hA hNW [4] [0, 1, 2, 3] [] [0, 1, 2, 3, 4, 5, 6] rfl rfl rfl rfl (by decide) (by decide) (by decide) (fun _ => rfl) (fun _ => rfl) (by decide) rfl hl.1 rfl (Nat.le_of_ble_eq_true rfl) dX1_init_30 ⟨Nat.le_of_ble_eq_true rfl, Nat.le_of_ble_eq_true rfl⟩ (fun u9 H locs hw9 hK9 hP hD hS => ?_)
  obtain ⟨qb, qr, cE, cF⟩ := u9
  have hP : va_P (dC, dI) ksCl [(sa, .inr (1, [.int (nI N), .ref ra, .ref ta, .null, .int 0])), (ta, .inr (2, [.ref tb, .ref tr, .int 0, .int 0, .int 0])), (tb, .inl (cB, 16, .inl (fun _ => 0))), (tr, .inl (cR, 16, .inl (fun _ => 0))), (qa, .inr (2, [.ref qb, .ref qr, .int 0, .int 0, .int 0])), (qb, .inl (cE, 16, .inl (fun _ => 0))), (qr, .inl (cF, 16, .inl (fun _ => 0)))] H := hP
  have hD : va_D A [(sa, .inr (1, [.int (nI N), .ref ra, .ref ta, .null, .int 0])), (ta, .inr (2, [.ref tb, .ref tr, .int 0, .int 0, .int 0])), (tb, .inl (cB, 16, .inl (fun _ => 0))), (tr, .inl (cR, 16, .inl (fun _ => 0))), (qa, .inr (2, [.ref qb, .ref qr, .int 0, .int 0, .int 0])), (qb, .inl (cE, 16, .inl (fun _ => 0))), (qr, .inl (cF, 16, .inl (fun _ => 0)))] := hD
  have hK : va_K (dC, dI) ksCl [(cB, .int), (cR, .int), (cE, .int), (cF, .int)] s := hK9
  refine va_putF (D := (dC, dI)) (ci := 1) (v := .ref qa) (ty := .object "LessonSolver$Trail") (C := RX1) (T := TX1) (N := 5) hx hb hts hiX1 tyX1 tyX1_ok nmX1 hown hK hP hD hS 0 rfl rfl 3 (by decide) f26 (fun _ h9 => h9) rfl hin rfl (by decide +kernel) rfl rfl (Nat.le_of_ble_eq_true rfl) dX1_init_33 (fun H locs hP hD hS => ?_)
  have hP : va_P (dC, dI) ksCl [(sa, .inr (1, [.int (nI N), .ref ra, .ref ta, .ref qa, .int 0])), (ta, .inr (2, [.ref tb, .ref tr, .int 0, .int 0, .int 0])), (tb, .inl (cB, 16, .inl (fun _ => 0))), (tr, .inl (cR, 16, .inl (fun _ => 0))), (qa, .inr (2, [.ref qb, .ref qr, .int 0, .int 0, .int 0])), (qb, .inl (cE, 16, .inl (fun _ => 0))), (qr, .inl (cF, 16, .inl (fun _ => 0)))] H := hP
  have hD : va_D A [(sa, .inr (1, [.int (nI N), .ref ra, .ref ta, .ref qa, .int 0])), (ta, .inr (2, [.ref tb, .ref tr, .int 0, .int 0, .int 0])), (tb, .inl (cB, 16, .inl (fun _ => 0))), (tr, .inl (cR, 16, .inl (fun _ => 0))), (qa, .inr (2, [.ref qb, .ref qr, .int 0, .int 0, .int 0])), (qb, .inl (cE, 16, .inl (fun _ => 0))), (qr, .inl (cF, 16, .inl (fun _ => 0)))] := hD
  have hP9 : va_P (dC, dI) ksCl [(sa, .inr (1, [.int (nI N), .ref ra, .ref ta, .ref qa, .int 0])), (ta, .inr (2, [.ref tb, .ref tr, .int 0, .int 0, .int 0])), (tb, .inl (cB, 16, .inl (fun _ => 0))), (tr, .inl (cR, 16, .inl (fun _ => 0))), (qa, .inr (2, [.ref qb, .ref qr, .int 0, .int 0, .int 0])), (qb, .inl (cE, 16, .inl (fun _ => 0))), (qr, .inl (cF, 16, .inl (fun _ => 0)))] _ := hP
  have hD9 : va_D A [(sa, .inr (1, [.int (nI N), .ref ra, .ref ta, .ref qa, .int 0])), (ta, .inr (2, [.ref tb, .ref tr, .int 0, .int 0, .int 0])), (tb, .inl (cB, 16, .inl (fun _ => 0))), (tr, .inl (cR, 16, .inl (fun _ => 0))), (qa, .inr (2, [.ref qb, .ref qr, .int 0, .int 0, .int 0])), (qb, .inl (cE, 16, .inl (fun _ => 0))), (qr, .inl (cF, 16, .inl (fun _ => 0)))] := hD
  have hK9 : va_K (dC, dI) ksCl [(cB, .int), (cR, .int), (cE, .int), (cF, .int)] s := hK
  refine W.widen (k := 6) (n := 74) (by omega) (by omega) ?_
  exact W.vret hx hb hr (fun t ht hW9 => ⟨⟨(ta, tb, tr, cB, cR, qa, qb, qr, cE, cF), rfl, trivial, by rw [ht]; exact hP9, va_K.moved hW9.alike hK9, hD9⟩, hS.F ht⟩) hS.2.2 dX1_init_36
end
section
set_option maxHeartbeats 4000000 in
set_option maxRecDepth 100000 in
/-- learn -/
theorem ks_learn (l : Launch) (dC : Nat → ClassId) (dI : Nat → Nat → Nat) (sa : Nat) (ta tb tr : Nat) (cB cR : ClassId) (qa qb qr : Nat) (cE cF : ClassId) (ra rp rq : Nat) (cP cM : ClassId) (N : Nat) (lap : Int32) (P M : Nat → Int32) (g nr : Nat) (B Rs : Nat → Int32) (k : Nat) (o z : Int32) (Bq Rq : Nat → Int32) (kq oq zq : Int32) (c0 : Nat) (hN : N ≤ 16) (hg : g ≤ 600) (hW : ks_W N P M g nr) (hR : ks_R N P M nr B Rs k o z) (hc0 : c0 < nr) (hF0 : ks_F (P c0) (M c0) o z) : ks_Mv l yX1_learn wsX1_learn ({ frames := 2, cells := 0, slots := 0, locals := 49 }) (dC, dI) [.ref sa, .int (P c0 ||| M c0)] [(sa, .inr (1, [.int (nI N), .ref ra, .ref ta, .ref qa, .int lap])), (ra, .inr (0, [.ref rp, .ref rq, .int (nI g), .int (nI nr)])), (rp, .inl (cP, 664, .inl P)), (rq, .inl (cM, 664, .inl M)), (ta, .inr (2, [.ref tb, .ref tr, .int (nI k), .int o, .int z])), (tb, .inl (cB, 16, .inl B)), (tr, .inl (cR, 16, .inl Rs)), (qa, .inr (2, [.ref qb, .ref qr, .int kq, .int oq, .int zq])), (qb, .inl (cE, 16, .inl Bq)), (qr, .inl (cF, 16, .inl Rq))] [(cP, .int), (cM, .int), (cB, .int), (cR, .int), (cE, .int), (cF, .int)] 0 0 (S := (Nat → Int32) × (Nat → Int32) × Nat × (Nat → Int32) × (Nat → Int32) × Int32 × Int32 × Int32) (fun u => ks_W N u.1 u.2.1 g u.2.2.1 ∧ ks_gr P M nr u.1 u.2.1 u.2.2.1) (fun u => [(sa, .inr (1, [.int (nI N), .ref ra, .ref ta, .ref qa, .int lap])), (ra, .inr (0, [.ref rp, .ref rq, .int (nI g), .int (nI u.2.2.1)])), (rp, .inl (cP, 664, .inl u.1)), (rq, .inl (cM, 664, .inl u.2.1)), (ta, .inr (2, [.ref tb, .ref tr, .int (nI k), .int o, .int z])), (tb, .inl (cB, 16, .inl B)), (tr, .inl (cR, 16, .inl Rs)), (qa, .inr (2, [.ref qb, .ref qr, .int u.2.2.2.2.2.1, .int u.2.2.2.2.2.2.1, .int u.2.2.2.2.2.2.2])), (qb, .inl (cE, 16, .inl u.2.2.2.1)), (qr, .inl (cF, 16, .inl u.2.2.2.2.1))]) (fun u => [(cP, .int), (cM, .int), (cB, .int), (cR, .int), (cE, .int), (cF, .int)]) := by
  intro sz
  refine Met.ofW (cc := cX1_learn) (maxL := 5) (ret := none) (by decide) rfl ?_
  intro p e s m args below meth c s₁ B9 hml hv
  obtain ⟨rfl, hsz, hP, hK, hD0, hNW⟩ := hv
  have hx := B9.exec
  have hb := B9.bytes
  have hr := B9.returns
  have hts := atoms_spec (ws := wsX1_learn) B9.pre
  have hown : s.vm.findClass RX1 = some m.cls := findClass_of_methodNamed B9.named
  have hlocks := B9.notSynchronized
  subst hsz
  have hD := hD0.self (sz := s.heap.size)
  generalize hAe : va_A [(sa, .inr (1, [.int (nI N), .ref ra, .ref ta, .ref qa, .int lap])), (ra, .inr (0, [.ref rp, .ref rq, .int (nI g), .int (nI nr)])), (rp, .inl (cP, 664, .inl P)), (rq, .inl (cM, 664, .inl M)), (ta, .inr (2, [.ref tb, .ref tr, .int (nI k), .int o, .int z])), (tb, .inl (cB, 16, .inl B)), (tr, .inl (cR, 16, .inl Rs)), (qa, .inr (2, [.ref qb, .ref qr, .int kq, .int oq, .int zq])), (qb, .inl (cE, 16, .inl Bq)), (qr, .inl (cF, 16, .inl Rq))] s.heap.size = A at hD ⊢
  have hA : ∀ q : Nat, s.heap.size ≤ q → A q := fun q h => by rw [← hAe]; exact Or.inr h
  have hS : va_S A s.heap s.heap [] := va_S.rf
  have hiX1 : ∀ w ∈ u_ws RX1 TX1 5, w ∈ wsX1_learn := by decide +kernel
  have hiX2 : ∀ w ∈ u_ws RX2 TX2 5, w ∈ wsX1_learn := by decide +kernel
  have f15 := hts (.fieldLink RX1 15 "LessonSolver$Search" "row" "LLessonSolver$ClauseRow;") (by decide +kernel)
  have f22 := hts (.fieldLink RX1 22 "LessonSolver$Search" "trail" "LLessonSolver$Trail;") (by decide +kernel)
  have f26 := hts (.fieldLink RX1 26 "LessonSolver$Search" "proof" "LLessonSolver$Trail;") (by decide +kernel)
  have f53 := va_Nw.use (A := ([.ref sa, .int (P c0 ||| M c0)] : List Value).toArray) rfl (hNW (.fieldLinkNest RX1 53 "LessonSolver$Trail" "ones" "I" "LessonSolver") (by decide +kernel))
  have f69 := va_Nw.use (A := ([.ref sa, .int (P c0 ||| M c0)] : List Value).toArray) rfl (hNW (.fieldLinkNest RX1 69 "LessonSolver$Trail" "zeros" "I" "LessonSolver") (by decide +kernel))
  have hl := lv_entry ([.ref sa, .int (P c0 ||| M c0)]) (n := 5) (Nat.le_of_ble_eq_true rfl)
  rw [lg_entry_eq]
  generalize (lg_sl ([.ref sa, .int (P c0 ||| M c0)]) ++ List.replicate (5 - (lg_sl ([.ref sa, .int (P c0 ||| M c0)])).length) Slot.unset).toArray = ls at hl ⊢
  have hl : lv_has ls 5 [(0, .ref sa), (1, .int (P c0 ||| M c0))] := hl
  have hnr : nr ≤ 664 := by have := hW.2.1; omega
  refine lv_aload_n hx hb dX1_learn_0 rfl (lv_at hl 0 rfl) ?_
  refine va_get (D := (dC, dI)) (ci := 1) (v := .ref ta) (C := RX1) (T := TX1) (N := 5) hx hb hts hiX1 hown hK hP 0 rfl rfl 2 (by decide) f22 (fun _ h9 => h9) rfl dX1_learn_1 ?_
  refine lv_iload_n hx hb dX1_learn_4 rfl (lv_at hl 1 rfl) ?_
  refine ks_calliV (As := [.int (P c0 ||| M c0)]) (rest := []) (wr := [(sa, .inr (1, [.int (nI N), .ref ra, .ref ta, .ref qa, .int lap])), (ra, .inr (0, [.ref rp, .ref rq, .int (nI g), .int (nI nr)])), (rp, .inl (cP, 664, .inl P)), (rq, .inl (cM, 664, .inl M)), (qa, .inr (2, [.ref qb, .ref qr, .int kq, .int oq, .int zq])), (qb, .inl (cE, 16, .inl Bq)), (qr, .inl (cF, 16, .inl Rq))]) (wz := fun _ => [(sa, .inr (1, [.int (nI N), .ref ra, .ref ta, .ref qa, .int lap])), (ra, .inr (0, [.ref rp, .ref rq, .int (nI g), .int (nI nr)])), (rp, .inl (cP, 664, .inl P)), (rq, .inl (cM, 664, .inl M)), (ta, .inr (2, [.ref tb, .ref tr, .int (nI k), .int o, .int z])), (tb, .inl (cB, 16, .inl B)), (tr, .inl (cR, 16, .inl Rs)), (qa, .inr (2, [.ref qb, .ref qr, .int kq, .int oq, .int zq])), (qb, .inl (cE, 16, .inl Bq)), (qr, .inl (cF, 16, .inl Rq))]) ⟨hx, hb, hml, hown, hts⟩ (ks_rootsOf l dC dI ta tb tr cB cR B Rs k o z (P c0 ||| M c0) N P M nr hN hR) (cwV 1 hts gX1_learn_X2_rootsOf rfl rfl rfl (by decide +kernel) ⟨Nat.le_of_ble_eq_true rfl, Nat.le_of_ble_eq_true rfl⟩) hK hP hD hS hA hNW [4, 5, 6] [0, 1, 2, 3, 7, 8, 9] [2, 3] [0, 1, 2, 3, 7, 8, 9, 4, 5, 6] rfl rfl rfl rfl (by decide) (by decide) (by decide) (ci := 2) (q0 := 0) rfl rfl rfl (fun _ => rfl) (fun _ => rfl) (by decide) rfl hl.1 rfl (Nat.le_of_ble_eq_true rfl) dX1_learn_5 ⟨Nat.le_of_ble_eq_true rfl, Nat.le_of_ble_eq_true rfl⟩ (fun r2 u9 H locs hw9 hK9 hP hD hS => ?_)
  obtain ⟨V, hC⟩ := hw9
  have hP : va_P (dC, dI) ksCl [(sa, .inr (1, [.int (nI N), .ref ra, .ref ta, .ref qa, .int lap])), (ra, .inr (0, [.ref rp, .ref rq, .int (nI g), .int (nI nr)])), (rp, .inl (cP, 664, .inl P)), (rq, .inl (cM, 664, .inl M)), (ta, .inr (2, [.ref tb, .ref tr, .int (nI k), .int o, .int z])), (tb, .inl (cB, 16, .inl B)), (tr, .inl (cR, 16, .inl Rs)), (qa, .inr (2, [.ref qb, .ref qr, .int kq, .int oq, .int zq])), (qb, .inl (cE, 16, .inl Bq)), (qr, .inl (cF, 16, .inl Rq))] H := hP
  have hD : va_D A [(sa, .inr (1, [.int (nI N), .ref ra, .ref ta, .ref qa, .int lap])), (ra, .inr (0, [.ref rp, .ref rq, .int (nI g), .int (nI nr)])), (rp, .inl (cP, 664, .inl P)), (rq, .inl (cM, 664, .inl M)), (ta, .inr (2, [.ref tb, .ref tr, .int (nI k), .int o, .int z])), (tb, .inl (cB, 16, .inl B)), (tr, .inl (cR, 16, .inl Rs)), (qa, .inr (2, [.ref qb, .ref qr, .int kq, .int oq, .int zq])), (qb, .inl (cE, 16, .inl Bq)), (qr, .inl (cF, 16, .inl Rq))] := hD
  refine lv_istore_n (lv' := [(2, .int r2), (0, .ref sa), (1, .int (P c0 ||| M c0))]) hx hb dX1_learn_8 rfl hl (by decide) rfl (fun ls hl => ?_)
  refine lv_iload_n hx hb dX1_learn_9 rfl (lv_at hl 0 rfl) ?_
  refine lv_aload_n hx hb dX1_learn_10 rfl (lv_at hl 1 rfl) ?_
  refine va_get (D := (dC, dI)) (ci := 1) (v := .ref ta) (C := RX1) (T := TX1) (N := 5) hx hb hts hiX1 hown hK hP 0 rfl rfl 2 (by decide) f22 (fun _ h9 => h9) rfl dX1_learn_11 ?_
  refine va_getN (D := (dC, dI)) (ci := 2) (v := .int z) (C := RX2) (T := TX2) (N := 5) hx hb hts hiX2 hown hK hP 4 rfl rfl 4 (by decide) f69 (fun _ h9 => h9) rfl dX1_learn_14 ?_
  refine lv_iand hx hb dX1_learn_17 ?_
  refine lv_istore_n (lv' := [(3, .int (r2 &&& z)), (2, .int r2), (0, .ref sa), (1, .int (P c0 ||| M c0))]) hx hb dX1_learn_18 rfl hl (by decide) rfl (fun ls hl => ?_)
  refine lv_iload_n hx hb dX1_learn_19 rfl (lv_at hl 1 rfl) ?_
  refine lv_aload_n hx hb dX1_learn_20 rfl (lv_at hl 2 rfl) ?_
  refine va_get (D := (dC, dI)) (ci := 1) (v := .ref ta) (C := RX1) (T := TX1) (N := 5) hx hb hts hiX1 hown hK hP 0 rfl rfl 2 (by decide) f22 (fun _ h9 => h9) rfl dX1_learn_21 ?_
  refine va_getN (D := (dC, dI)) (ci := 2) (v := .int o) (C := RX2) (T := TX2) (N := 5) hx hb hts hiX2 hown hK hP 4 rfl rfl 3 (by decide) f53 (fun _ h9 => h9) rfl dX1_learn_24 ?_
  refine lv_iand hx hb dX1_learn_27 ?_
  refine lv_istore (lv' := [(4, .int (r2 &&& o)), (3, .int (r2 &&& z)), (2, .int r2), (0, .ref sa), (1, .int (P c0 ||| M c0))]) hx hb dX1_learn_28 hl (by decide) rfl (fun ls hl => ?_)
  refine lv_aload_n hx hb dX1_learn_30 rfl (lv_at hl 3 rfl) ?_
  refine va_get (D := (dC, dI)) (ci := 1) (v := .ref ra) (C := RX1) (T := TX1) (N := 5) hx hb hts hiX1 hown hK hP 0 rfl rfl 1 (by decide) f15 (fun _ h9 => h9) rfl dX1_learn_31 ?_
  refine ks_calliV (As := []) (rest := []) (wr := [(sa, .inr (1, [.int (nI N), .ref ra, .ref ta, .ref qa, .int lap])), (ta, .inr (2, [.ref tb, .ref tr, .int (nI k), .int o, .int z])), (tb, .inl (cB, 16, .inl B)), (tr, .inl (cR, 16, .inl Rs)), (qa, .inr (2, [.ref qb, .ref qr, .int kq, .int oq, .int zq])), (qb, .inl (cE, 16, .inl Bq)), (qr, .inl (cF, 16, .inl Rq))]) (wz := fun _ => [(sa, .inr (1, [.int (nI N), .ref ra, .ref ta, .ref qa, .int lap])), (ra, .inr (0, [.ref rp, .ref rq, .int (nI g), .int (nI nr)])), (rp, .inl (cP, 664, .inl P)), (rq, .inl (cM, 664, .inl M)), (ta, .inr (2, [.ref tb, .ref tr, .int (nI k), .int o, .int z])), (tb, .inl (cB, 16, .inl B)), (tr, .inl (cR, 16, .inl Rs)), (qa, .inr (2, [.ref qb, .ref qr, .int kq, .int oq, .int zq])), (qb, .inl (cE, 16, .inl Bq)), (qr, .inl (cF, 16, .inl Rq))]) ⟨hx, hb, hml, hown, hts⟩ (ks_hasRoom l dC dI ra rp rq cP cM P M g nr hW.1 (by omega)) (cwV 0 hts gX1_learn_X0_hasRoomForLesson rfl rfl rfl (by decide +kernel) ⟨Nat.le_of_ble_eq_true rfl, Nat.le_of_ble_eq_true rfl⟩) hK hP hD hS hA hNW [1, 2, 3] [0, 4, 5, 6, 7, 8, 9] [0, 1] [0, 7, 8, 9, 1, 2, 3, 4, 5, 6] rfl rfl rfl rfl (by decide) (by decide) (by decide) (ci := 0) (q0 := 0) rfl rfl rfl (fun _ => rfl) (fun _ => rfl) (by decide) rfl hl.1 rfl (Nat.le_of_ble_eq_true rfl) dX1_learn_34 ⟨Nat.le_of_ble_eq_true rfl, Nat.le_of_ble_eq_true rfl⟩ (fun r3 u9 H locs hw9 hK9 hP hD hS => ?_)
  have hroom := hw9
  have hP : va_P (dC, dI) ksCl [(sa, .inr (1, [.int (nI N), .ref ra, .ref ta, .ref qa, .int lap])), (ra, .inr (0, [.ref rp, .ref rq, .int (nI g), .int (nI nr)])), (rp, .inl (cP, 664, .inl P)), (rq, .inl (cM, 664, .inl M)), (ta, .inr (2, [.ref tb, .ref tr, .int (nI k), .int o, .int z])), (tb, .inl (cB, 16, .inl B)), (tr, .inl (cR, 16, .inl Rs)), (qa, .inr (2, [.ref qb, .ref qr, .int kq, .int oq, .int zq])), (qb, .inl (cE, 16, .inl Bq)), (qr, .inl (cF, 16, .inl Rq))] H := hP
  have hD : va_D A [(sa, .inr (1, [.int (nI N), .ref ra, .ref ta, .ref qa, .int lap])), (ra, .inr (0, [.ref rp, .ref rq, .int (nI g), .int (nI nr)])), (rp, .inl (cP, 664, .inl P)), (rq, .inl (cM, 664, .inl M)), (ta, .inr (2, [.ref tb, .ref tr, .int (nI k), .int o, .int z])), (tb, .inl (cB, 16, .inl B)), (tr, .inl (cR, 16, .inl Rs)), (qa, .inr (2, [.ref qb, .ref qr, .int kq, .int oq, .int zq])), (qb, .inl (cE, 16, .inl Bq)), (qr, .inl (cF, 16, .inl Rq))] := hD
  refine lv_if_eq (tgt := 53) hx hb dX1_learn_37 (by decide) (fun c37 => ?_) (fun c37 => ?_)
  · -- 37: jumps
    have hP9 : va_P (dC, dI) ksCl [(sa, .inr (1, [.int (nI N), .ref ra, .ref ta, .ref qa, .int lap])), (ra, .inr (0, [.ref rp, .ref rq, .int (nI g), .int (nI nr)])), (rp, .inl (cP, 664, .inl P)), (rq, .inl (cM, 664, .inl M)), (ta, .inr (2, [.ref tb, .ref tr, .int (nI k), .int o, .int z])), (tb, .inl (cB, 16, .inl B)), (tr, .inl (cR, 16, .inl Rs)), (qa, .inr (2, [.ref qb, .ref qr, .int kq, .int oq, .int zq])), (qb, .inl (cE, 16, .inl Bq)), (qr, .inl (cF, 16, .inl Rq))] _ := hP
    have hD9 : va_D A [(sa, .inr (1, [.int (nI N), .ref ra, .ref ta, .ref qa, .int lap])), (ra, .inr (0, [.ref rp, .ref rq, .int (nI g), .int (nI nr)])), (rp, .inl (cP, 664, .inl P)), (rq, .inl (cM, 664, .inl M)), (ta, .inr (2, [.ref tb, .ref tr, .int (nI k), .int o, .int z])), (tb, .inl (cB, 16, .inl B)), (tr, .inl (cR, 16, .inl Rs)), (qa, .inr (2, [.ref qb, .ref qr, .int kq, .int oq, .int zq])), (qb, .inl (cE, 16, .inl Bq)), (qr, .inl (cF, 16, .inl Rq))] := hD
    have hK9 : va_K (dC, dI) ksCl [(cP, .int), (cM, .int), (cB, .int), (cR, .int), (cE, .int), (cF, .int)] s := hK
    exact W.vret hx hb hr (fun t ht hW9 => ⟨⟨(P, M, nr, Bq, Rq, kq, oq, zq), rfl, ⟨hW, ks_gr.rf⟩, by rw [ht]; exact hP9, va_K.moved hW9.alike hK9, hD9⟩, hS.F ht⟩) hS.2.2 dX1_learn_53
  · -- 37: goes on
    have hrm : nr < g + 64 ∧ nr < 664 := by
      rcases hroom with q | q
      · exact q.2
      · exact absurd q.1 c37
    refine lv_aload_n hx hb dX1_learn_40 rfl (lv_at hl 3 rfl) ?_
    refine va_get (D := (dC, dI)) (ci := 1) (v := .ref ra) (C := RX1) (T := TX1) (N := 5) hx hb hts hiX1 hown hK hP 0 rfl rfl 1 (by decide) f15 (fun _ h9 => h9) rfl dX1_learn_41 ?_
    refine lv_iload_n hx hb dX1_learn_44 rfl (lv_at hl 1 rfl) ?_
    refine lv_iload hx hb dX1_learn_45 (lv_at hl 0 rfl) ?_
    refine ks_calliV (As := [.int (r2 &&& z), .int (r2 &&& o)]) (rest := []) (wr := [(sa, .inr (1, [.int (nI N), .ref ra, .ref ta, .ref qa, .int lap])), (ta, .inr (2, [.ref tb, .ref tr, .int (nI k), .int o, .int z])), (tb, .inl (cB, 16, .inl B)), (tr, .inl (cR, 16, .inl Rs)), (qa, .inr (2, [.ref qb, .ref qr, .int kq, .int oq, .int zq])), (qb, .inl (cE, 16, .inl Bq)), (qr, .inl (cF, 16, .inl Rq))]) (wz := fun _ => [(sa, .inr (1, [.int (nI N), .ref ra, .ref ta, .ref qa, .int lap])), (ra, .inr (0, [.ref rp, .ref rq, .int (nI g), .int (nI nr)])), (rp, .inl (cP, 664, .inl P)), (rq, .inl (cM, 664, .inl M)), (ta, .inr (2, [.ref tb, .ref tr, .int (nI k), .int o, .int z])), (tb, .inl (cB, 16, .inl B)), (tr, .inl (cR, 16, .inl Rs)), (qa, .inr (2, [.ref qb, .ref qr, .int kq, .int oq, .int zq])), (qb, .inl (cE, 16, .inl Bq)), (qr, .inl (cF, 16, .inl Rq))]) ⟨hx, hb, hml, hown, hts⟩ (ks_says l dC dI ra rp rq cP cM P M g nr (r2 &&& z) (r2 &&& o) (by omega)) (cwV 2 hts gX1_learn_X0_saysAlready rfl rfl rfl (by decide +kernel) ⟨Nat.le_of_ble_eq_true rfl, Nat.le_of_ble_eq_true rfl⟩) hK hP hD hS hA hNW [1, 2, 3] [0, 4, 5, 6, 7, 8, 9] [0, 1] [0, 7, 8, 9, 1, 2, 3, 4, 5, 6] rfl rfl rfl rfl (by decide) (by decide) (by decide) (ci := 0) (q0 := 0) rfl rfl rfl (fun _ => rfl) (fun _ => rfl) (by decide) rfl hl.1 rfl (Nat.le_of_ble_eq_true rfl) dX1_learn_47 ⟨Nat.le_of_ble_eq_true rfl, Nat.le_of_ble_eq_true rfl⟩ (fun r4 u9 H locs hw9 hK9 hP hD hS => ?_)
    have hP : va_P (dC, dI) ksCl [(sa, .inr (1, [.int (nI N), .ref ra, .ref ta, .ref qa, .int lap])), (ra, .inr (0, [.ref rp, .ref rq, .int (nI g), .int (nI nr)])), (rp, .inl (cP, 664, .inl P)), (rq, .inl (cM, 664, .inl M)), (ta, .inr (2, [.ref tb, .ref tr, .int (nI k), .int o, .int z])), (tb, .inl (cB, 16, .inl B)), (tr, .inl (cR, 16, .inl Rs)), (qa, .inr (2, [.ref qb, .ref qr, .int kq, .int oq, .int zq])), (qb, .inl (cE, 16, .inl Bq)), (qr, .inl (cF, 16, .inl Rq))] H := hP
    have hD : va_D A [(sa, .inr (1, [.int (nI N), .ref ra, .ref ta, .ref qa, .int lap])), (ra, .inr (0, [.ref rp, .ref rq, .int (nI g), .int (nI nr)])), (rp, .inl (cP, 664, .inl P)), (rq, .inl (cM, 664, .inl M)), (ta, .inr (2, [.ref tb, .ref tr, .int (nI k), .int o, .int z])), (tb, .inl (cB, 16, .inl B)), (tr, .inl (cR, 16, .inl Rs)), (qa, .inr (2, [.ref qb, .ref qr, .int kq, .int oq, .int zq])), (qb, .inl (cE, 16, .inl Bq)), (qr, .inl (cF, 16, .inl Rq))] := hD
    refine lv_if_eq (tgt := 54) hx hb dX1_learn_50 (by decide) (fun c50 => ?_) (fun c50 => ?_)
    · -- 50: jumps
      refine lv_aload_n hx hb dX1_learn_54 rfl (lv_at hl 3 rfl) ?_
      refine va_get (D := (dC, dI)) (ci := 1) (v := .ref qa) (C := RX1) (T := TX1) (N := 5) hx hb hts hiX1 hown hK hP 0 rfl rfl 3 (by decide) f26 (fun _ h9 => h9) rfl dX1_learn_55 ?_
      refine lv_iload hx hb dX1_learn_58 (lv_at hl 0 rfl) ?_
      refine lv_iload_n hx hb dX1_learn_60 rfl (lv_at hl 1 rfl) ?_
      have hdj : ∀ i, bt (r2 &&& o) i = true → bt (r2 &&& z) i = false := fun i hi => by
        rw [b_and, Bool.and_eq_true] at hi
        rw [b_and, hR.dis i hi.2, Bool.and_false]
      have hlN : ∀ i, bt (r2 &&& o) i = true ∨ bt (r2 &&& z) i = true → i < N := fun i hi => by
        rw [b_and, b_and, Bool.and_eq_true, Bool.and_eq_true] at hi
        exact hR.lt i (hi.elim (fun q => Or.inl q.2) (fun q => Or.inr q.2))
      refine ks_callvV (As := [.int (r2 &&& o), .int (r2 &&& z)]) (rest := []) (wr := [(sa, .inr (1, [.int (nI N), .ref ra, .ref ta, .ref qa, .int lap])), (ra, .inr (0, [.ref rp, .ref rq, .int (nI g), .int (nI nr)])), (rp, .inl (cP, 664, .inl P)), (rq, .inl (cM, 664, .inl M)), (ta, .inr (2, [.ref tb, .ref tr, .int (nI k), .int o, .int z])), (tb, .inl (cB, 16, .inl B)), (tr, .inl (cR, 16, .inl Rs))]) (wz := fun u => [(sa, .inr (1, [.int (nI N), .ref ra, .ref ta, .ref qa, .int lap])), (ra, .inr (0, [.ref rp, .ref rq, .int (nI g), .int (nI nr)])), (rp, .inl (cP, 664, .inl P)), (rq, .inl (cM, 664, .inl M)), (ta, .inr (2, [.ref tb, .ref tr, .int (nI k), .int o, .int z])), (tb, .inl (cB, 16, .inl B)), (tr, .inl (cR, 16, .inl Rs)), (qa, .inr (2, [.ref qb, .ref qr, .int (nI u.2.2), .int (r2 &&& o), .int (r2 &&& z)])), (qb, .inl (cE, 16, .inl u.1)), (qr, .inl (cF, 16, .inl u.2.1))]) ⟨hx, hb, hml, hown, hts⟩ (ks_start l dC dI qa qb qr cE cF Bq Rq kq oq zq (r2 &&& o) (r2 &&& z) N P M nr hN hdj hlN) (cwV 2 hts gX1_learn_X2_start rfl rfl rfl (by decide +kernel) ⟨Nat.le_of_ble_eq_true rfl, Nat.le_of_ble_eq_true rfl⟩) hK hP hD hS hA hNW [7, 8, 9] [0, 1, 2, 3, 4, 5, 6] [4, 5] [0, 1, 2, 3, 4, 5, 6, 7, 8, 9] rfl rfl rfl rfl (by decide) (by decide) (by decide) (ci := 2) (q0 := 0) rfl rfl rfl (fun _ => rfl) (fun _ => rfl) (by decide) rfl hl.1 rfl (Nat.le_of_ble_eq_true rfl) dX1_learn_61 ⟨Nat.le_of_ble_eq_true rfl, Nat.le_of_ble_eq_true rfl⟩ (fun u9 H locs hw9 hK9 hP hD hS => ?_)
      obtain ⟨Bs, Rt, ks⟩ := u9
      have hRq : ks_R N P M nr Bs Rt ks (r2 &&& o) (r2 &&& z) := hw9
      have hP : va_P (dC, dI) ksCl [(sa, .inr (1, [.int (nI N), .ref ra, .ref ta, .ref qa, .int lap])), (ra, .inr (0, [.ref rp, .ref rq, .int (nI g), .int (nI nr)])), (rp, .inl (cP, 664, .inl P)), (rq, .inl (cM, 664, .inl M)), (ta, .inr (2, [.ref tb, .ref tr, .int (nI k), .int o, .int z])), (tb, .inl (cB, 16, .inl B)), (tr, .inl (cR, 16, .inl Rs)), (qa, .inr (2, [.ref qb, .ref qr, .int (nI ks), .int (r2 &&& o), .int (r2 &&& z)])), (qb, .inl (cE, 16, .inl Bs)), (qr, .inl (cF, 16, .inl Rt))] H := hP
      have hD : va_D A [(sa, .inr (1, [.int (nI N), .ref ra, .ref ta, .ref qa, .int lap])), (ra, .inr (0, [.ref rp, .ref rq, .int (nI g), .int (nI nr)])), (rp, .inl (cP, 664, .inl P)), (rq, .inl (cM, 664, .inl M)), (ta, .inr (2, [.ref tb, .ref tr, .int (nI k), .int o, .int z])), (tb, .inl (cB, 16, .inl B)), (tr, .inl (cR, 16, .inl Rs)), (qa, .inr (2, [.ref qb, .ref qr, .int (nI ks), .int (r2 &&& o), .int (r2 &&& z)])), (qb, .inl (cE, 16, .inl Bs)), (qr, .inl (cF, 16, .inl Rt))] := hD
      refine lv_aload_n hx hb dX1_learn_64 rfl (lv_at hl 3 rfl) ?_
      refine va_get (D := (dC, dI)) (ci := 1) (v := .ref qa) (C := RX1) (T := TX1) (N := 5) hx hb hts hiX1 hown hK hP 0 rfl rfl 3 (by decide) f26 (fun _ h9 => h9) rfl dX1_learn_65 ?_
      refine lv_aload_n hx hb dX1_learn_68 rfl (lv_at hl 3 rfl) ?_
      refine va_get (D := (dC, dI)) (ci := 1) (v := .ref ra) (C := RX1) (T := TX1) (N := 5) hx hb hts hiX1 hown hK hP 0 rfl rfl 1 (by decide) f15 (fun _ h9 => h9) rfl dX1_learn_69 ?_
      refine ks_calliV (As := [.ref ra]) (rest := []) (wr := [(sa, .inr (1, [.int (nI N), .ref ra, .ref ta, .ref qa, .int lap])), (ta, .inr (2, [.ref tb, .ref tr, .int (nI k), .int o, .int z])), (tb, .inl (cB, 16, .inl B)), (tr, .inl (cR, 16, .inl Rs))]) (wz := fun u => [(sa, .inr (1, [.int (nI N), .ref ra, .ref ta, .ref qa, .int lap])), (ra, .inr (0, [.ref rp, .ref rq, .int (nI g), .int (nI nr)])), (rp, .inl (cP, 664, .inl P)), (rq, .inl (cM, 664, .inl M)), (ta, .inr (2, [.ref tb, .ref tr, .int (nI k), .int o, .int z])), (tb, .inl (cB, 16, .inl B)), (tr, .inl (cR, 16, .inl Rs)), (qa, .inr (2, [.ref qb, .ref qr, .int (nI u.2.2.1), .int u.2.2.2.1, .int u.2.2.2.2])), (qb, .inl (cE, 16, .inl u.1)), (qr, .inl (cF, 16, .inl u.2.1))]) ⟨hx, hb, hml, hown, hts⟩ (ks_propagate l dC dI qa qb qr cE cF ra rp rq cP cM Bs Rt ks (r2 &&& o) (r2 &&& z) N P M g nr hN hRq hW hg) (cwV 1 hts gX1_learn_X2_propagate rfl rfl rfl (by decide +kernel) ⟨Nat.le_of_ble_eq_true rfl, Nat.le_of_ble_eq_true rfl⟩) hK hP hD hS hA hNW [7, 8, 9, 1, 2, 3] [0, 4, 5, 6] [4, 5, 0, 1] [0, 7, 8, 9, 1, 2, 3, 4, 5, 6] rfl rfl rfl rfl (by decide) (by decide) (by decide) (ci := 2) (q0 := 0) rfl rfl rfl (fun _ => rfl) (fun _ => rfl) (by decide) rfl hl.1 rfl (Nat.le_of_ble_eq_true rfl) dX1_learn_72 ⟨Nat.le_of_ble_eq_true rfl, Nat.le_of_ble_eq_true rfl⟩ (fun r5 u9 H locs hw9 hK9 hP hD hS => ?_)
      obtain ⟨Bv, Rv, kv, ov, zv⟩ := u9
      obtain ⟨p1, p2, p3, p4⟩ : ks_pp N P M nr Bs Rt ks (r2 &&& o) (r2 &&& z) r5 Bv Rv kv ov zv := hw9
      have hP : va_P (dC, dI) ksCl [(sa, .inr (1, [.int (nI N), .ref ra, .ref ta, .ref qa, .int lap])), (ra, .inr (0, [.ref rp, .ref rq, .int (nI g), .int (nI nr)])), (rp, .inl (cP, 664, .inl P)), (rq, .inl (cM, 664, .inl M)), (ta, .inr (2, [.ref tb, .ref tr, .int (nI k), .int o, .int z])), (tb, .inl (cB, 16, .inl B)), (tr, .inl (cR, 16, .inl Rs)), (qa, .inr (2, [.ref qb, .ref qr, .int (nI kv), .int ov, .int zv])), (qb, .inl (cE, 16, .inl Bv)), (qr, .inl (cF, 16, .inl Rv))] H := hP
      have hD : va_D A [(sa, .inr (1, [.int (nI N), .ref ra, .ref ta, .ref qa, .int lap])), (ra, .inr (0, [.ref rp, .ref rq, .int (nI g), .int (nI nr)])), (rp, .inl (cP, 664, .inl P)), (rq, .inl (cM, 664, .inl M)), (ta, .inr (2, [.ref tb, .ref tr, .int (nI k), .int o, .int z])), (tb, .inl (cB, 16, .inl B)), (tr, .inl (cR, 16, .inl Rs)), (qa, .inr (2, [.ref qb, .ref qr, .int (nI kv), .int ov, .int zv])), (qb, .inl (cE, 16, .inl Bv)), (qr, .inl (cF, 16, .inl Rv))] := hD
      refine lv_iconst (v := -1) hx hb dX1_learn_75 (by decide) ?_
      refine lv_icmp_ne (tgt := 92) hx hb dX1_learn_76 (by decide) (fun c76 => ?_) (fun c76 => by
      exfalso
      rcases p4 with q | q
      · exact ks_lesson hR hN hc0 (fun c hc => (hW.2.2.1 c hc).1) hC hF0 p1.dis q.2 (fun i => (p2.2.2 i).1) (fun i => (p2.2.2 i).2)
      · exact absurd c76 q.1)
      have hT : ∀ a, ks_M P M g a → ks_T (r2 &&& z) (r2 &&& o) a := fun a ha => ks_lesson_T (fun hE => by
        have ha := hW.all.mp ha
        rcases p4 with q | ⟨q1, cc9, q2, q3, q4⟩
        · exact c76 q.1
        · exact ks_F_no q4 (p3 a hE ha) (ha cc9 q2))
      have hok1 : ∀ i, bt (r2 &&& z) i = true → bt (r2 &&& o) i = false := fun i hi => by
        cases hb9 : bt (r2 &&& o) i
        · rfl
        · rw [hdj i hb9] at hi; cases hi
      have hok : ks_ok N (r2 &&& z) (r2 &&& o) := ⟨hok1, fun i hi => hlN i (Or.symm hi)⟩
      refine lv_aload_n hx hb dX1_learn_92 rfl (lv_at hl 3 rfl) ?_
      refine va_get (D := (dC, dI)) (ci := 1) (v := .ref ra) (C := RX1) (T := TX1) (N := 5) hx hb hts hiX1 hown hK hP 0 rfl rfl 1 (by decide) f15 (fun _ h9 => h9) rfl dX1_learn_93 ?_
      refine lv_iload_n hx hb dX1_learn_96 rfl (lv_at hl 1 rfl) ?_
      refine lv_iload hx hb dX1_learn_97 (lv_at hl 0 rfl) ?_
      refine ks_callvV (As := [.int (r2 &&& z), .int (r2 &&& o)]) (rest := []) (wr := [(sa, .inr (1, [.int (nI N), .ref ra, .ref ta, .ref qa, .int lap])), (ta, .inr (2, [.ref tb, .ref tr, .int (nI k), .int o, .int z])), (tb, .inl (cB, 16, .inl B)), (tr, .inl (cR, 16, .inl Rs)), (qa, .inr (2, [.ref qb, .ref qr, .int (nI kv), .int ov, .int zv])), (qb, .inl (cE, 16, .inl Bv)), (qr, .inl (cF, 16, .inl Rv))]) (wz := fun _ => [(sa, .inr (1, [.int (nI N), .ref ra, .ref ta, .ref qa, .int lap])), (ra, .inr (0, [.ref rp, .ref rq, .int (nI g), .int (nI (nr + 1))])), (rp, .inl (cP, 664, .inl (upd P nr (r2 &&& z)))), (rq, .inl (cM, 664, .inl (upd M nr (r2 &&& o)))), (ta, .inr (2, [.ref tb, .ref tr, .int (nI k), .int o, .int z])), (tb, .inl (cB, 16, .inl B)), (tr, .inl (cR, 16, .inl Rs)), (qa, .inr (2, [.ref qb, .ref qr, .int (nI kv), .int ov, .int zv])), (qb, .inl (cE, 16, .inl Bv)), (qr, .inl (cF, 16, .inl Rv))]) ⟨hx, hb, hml, hown, hts⟩ (ks_keep l dC dI ra rp rq cP cM P M g nr (r2 &&& z) (r2 &&& o) hW.1 hrm.1 hrm.2) (cwV 2 hts gX1_learn_X0_keepLesson rfl rfl rfl (by decide +kernel) ⟨Nat.le_of_ble_eq_true rfl, Nat.le_of_ble_eq_true rfl⟩) hK hP hD hS hA hNW [1, 2, 3] [0, 4, 5, 6, 7, 8, 9] [0, 1] [0, 7, 8, 9, 1, 2, 3, 4, 5, 6] rfl rfl rfl rfl (by decide) (by decide) (by decide) (ci := 0) (q0 := 0) rfl rfl rfl (fun _ => rfl) (fun _ => rfl) (by decide) rfl hl.1 rfl (Nat.le_of_ble_eq_true rfl) dX1_learn_99 ⟨Nat.le_of_ble_eq_true rfl, Nat.le_of_ble_eq_true rfl⟩ (fun u9 H locs hw9 hK9 hP hD hS => ?_)
      have hP : va_P (dC, dI) ksCl [(sa, .inr (1, [.int (nI N), .ref ra, .ref ta, .ref qa, .int lap])), (ra, .inr (0, [.ref rp, .ref rq, .int (nI g), .int (nI (nr + 1))])), (rp, .inl (cP, 664, .inl (upd P nr (r2 &&& z)))), (rq, .inl (cM, 664, .inl (upd M nr (r2 &&& o)))), (ta, .inr (2, [.ref tb, .ref tr, .int (nI k), .int o, .int z])), (tb, .inl (cB, 16, .inl B)), (tr, .inl (cR, 16, .inl Rs)), (qa, .inr (2, [.ref qb, .ref qr, .int (nI kv), .int ov, .int zv])), (qb, .inl (cE, 16, .inl Bv)), (qr, .inl (cF, 16, .inl Rv))] H := hP
      have hD : va_D A [(sa, .inr (1, [.int (nI N), .ref ra, .ref ta, .ref qa, .int lap])), (ra, .inr (0, [.ref rp, .ref rq, .int (nI g), .int (nI (nr + 1))])), (rp, .inl (cP, 664, .inl (upd P nr (r2 &&& z)))), (rq, .inl (cM, 664, .inl (upd M nr (r2 &&& o)))), (ta, .inr (2, [.ref tb, .ref tr, .int (nI k), .int o, .int z])), (tb, .inl (cB, 16, .inl B)), (tr, .inl (cR, 16, .inl Rs)), (qa, .inr (2, [.ref qb, .ref qr, .int (nI kv), .int ov, .int zv])), (qb, .inl (cE, 16, .inl Bv)), (qr, .inl (cF, 16, .inl Rv))] := hD
      have hP9 : va_P (dC, dI) ksCl [(sa, .inr (1, [.int (nI N), .ref ra, .ref ta, .ref qa, .int lap])), (ra, .inr (0, [.ref rp, .ref rq, .int (nI g), .int (nI (nr + 1))])), (rp, .inl (cP, 664, .inl (upd P nr (r2 &&& z)))), (rq, .inl (cM, 664, .inl (upd M nr (r2 &&& o)))), (ta, .inr (2, [.ref tb, .ref tr, .int (nI k), .int o, .int z])), (tb, .inl (cB, 16, .inl B)), (tr, .inl (cR, 16, .inl Rs)), (qa, .inr (2, [.ref qb, .ref qr, .int (nI kv), .int ov, .int zv])), (qb, .inl (cE, 16, .inl Bv)), (qr, .inl (cF, 16, .inl Rv))] _ := hP
      have hD9 : va_D A [(sa, .inr (1, [.int (nI N), .ref ra, .ref ta, .ref qa, .int lap])), (ra, .inr (0, [.ref rp, .ref rq, .int (nI g), .int (nI (nr + 1))])), (rp, .inl (cP, 664, .inl (upd P nr (r2 &&& z)))), (rq, .inl (cM, 664, .inl (upd M nr (r2 &&& o)))), (ta, .inr (2, [.ref tb, .ref tr, .int (nI k), .int o, .int z])), (tb, .inl (cB, 16, .inl B)), (tr, .inl (cR, 16, .inl Rs)), (qa, .inr (2, [.ref qb, .ref qr, .int (nI kv), .int ov, .int zv])), (qb, .inl (cE, 16, .inl Bv)), (qr, .inl (cF, 16, .inl Rv))] := hD
      have hK9 : va_K (dC, dI) ksCl [(cP, .int), (cM, .int), (cB, .int), (cR, .int), (cE, .int), (cF, .int)] s := hK
      exact W.vret hx hb hr (fun t ht hW9 => ⟨⟨(upd P nr (r2 &&& z), upd M nr (r2 &&& o), nr + 1, Bv, Rv, nI kv, ov, zv), rfl, ⟨hW.lesson hrm.1 hok hT, ks_gr.put P M nr _ _⟩, by rw [ht]; exact hP9, va_K.moved hW9.alike hK9, hD9⟩, hS.F ht⟩) hS.2.2 dX1_learn_102
    · -- 50: goes on
      have hP9 : va_P (dC, dI) ksCl [(sa, .inr (1, [.int (nI N), .ref ra, .ref ta, .ref qa, .int lap])), (ra, .inr (0, [.ref rp, .ref rq, .int (nI g), .int (nI nr)])), (rp, .inl (cP, 664, .inl P)), (rq, .inl (cM, 664, .inl M)), (ta, .inr (2, [.ref tb, .ref tr, .int (nI k), .int o, .int z])), (tb, .inl (cB, 16, .inl B)), (tr, .inl (cR, 16, .inl Rs)), (qa, .inr (2, [.ref qb, .ref qr, .int kq, .int oq, .int zq])), (qb, .inl (cE, 16, .inl Bq)), (qr, .inl (cF, 16, .inl Rq))] _ := hP
      have hD9 : va_D A [(sa, .inr (1, [.int (nI N), .ref ra, .ref ta, .ref qa, .int lap])), (ra, .inr (0, [.ref rp, .ref rq, .int (nI g), .int (nI nr)])), (rp, .inl (cP, 664, .inl P)), (rq, .inl (cM, 664, .inl M)), (ta, .inr (2, [.ref tb, .ref tr, .int (nI k), .int o, .int z])), (tb, .inl (cB, 16, .inl B)), (tr, .inl (cR, 16, .inl Rs)), (qa, .inr (2, [.ref qb, .ref qr, .int kq, .int oq, .int zq])), (qb, .inl (cE, 16, .inl Bq)), (qr, .inl (cF, 16, .inl Rq))] := hD
      have hK9 : va_K (dC, dI) ksCl [(cP, .int), (cM, .int), (cB, .int), (cR, .int), (cE, .int), (cF, .int)] s := hK
      exact W.vret hx hb hr (fun t ht hW9 => ⟨⟨(P, M, nr, Bq, Rq, kq, oq, zq), rfl, ⟨hW, ks_gr.rf⟩, by rw [ht]; exact hP9, va_K.moved hW9.alike hK9, hD9⟩, hS.F ht⟩) hS.2.2 dX1_learn_53
end
section
def ks_Dsc (l : Launch) (dC : Nat → ClassId) (dI : Nat → Nat → Nat) (e9 : Nat) : Prop := ∀ (sa : Nat) (ta tb tr : Nat) (cB cR : ClassId) (qa qb qr : Nat) (cE cF : ClassId) (ra rp rq : Nat) (cP cM : ClassId) (N : Nat) (lap : Int32) (P M : Nat → Int32) (g nr : Nat) (B Rs : Nat → Int32) (k : Nat) (o z : Int32) (Bq Rq : Nat → Int32) (kq oq zq : Int32) (d : Nat) (hN : N ≤ 16) (hg : g ≤ 600) (hW : ks_W N P M g nr) (hR : ks_R N P M nr B Rs k o z) (hdk : d ≤ k) (hde : N ≤ d + e9), ks_Mi l yX1_descend wsX1_descend ({ frames := 3 + e9, cells := 0, slots := 0, locals := 73 + 27 * e9 }) (dC, dI) [.ref sa, .int (nI d)] [(sa, .inr (1, [.int (nI N), .ref ra, .ref ta, .ref qa, .int lap])), (ra, .inr (0, [.ref rp, .ref rq, .int (nI g), .int (nI nr)])), (rp, .inl (cP, 664, .inl P)), (rq, .inl (cM, 664, .inl M)), (ta, .inr (2, [.ref tb, .ref tr, .int (nI k), .int o, .int z])), (tb, .inl (cB, 16, .inl B)), (tr, .inl (cR, 16, .inl Rs)), (qa, .inr (2, [.ref qb, .ref qr, .int kq, .int oq, .int zq])), (qb, .inl (cE, 16, .inl Bq)), (qr, .inl (cF, 16, .inl Rq))] [(cP, .int), (cM, .int), (cB, .int), (cR, .int), (cE, .int), (cF, .int)] 0 0 (S := (Nat → Int32) × (Nat → Int32) × Nat × (Nat → Int32) × (Nat → Int32) × Nat × Int32 × Int32 × (Nat → Int32) × (Nat → Int32) × Int32 × Int32 × Int32) (fun r u => ks_W N u.1 u.2.1 g u.2.2.1 ∧ ks_gr P M nr u.1 u.2.1 u.2.2.1 ∧ ks_R N u.1 u.2.1 u.2.2.1 u.2.2.2.1 u.2.2.2.2.1 u.2.2.2.2.2.1 u.2.2.2.2.2.2.1 u.2.2.2.2.2.2.2.1 ∧ ks_X B Rs k o z u.2.2.2.1 u.2.2.2.2.1 u.2.2.2.2.2.1 u.2.2.2.2.2.2.1 u.2.2.2.2.2.2.2.1 ∧ ks_L N (ks_Q P M g o z) r) (fun u => [(sa, .inr (1, [.int (nI N), .ref ra, .ref ta, .ref qa, .int lap])), (ra, .inr (0, [.ref rp, .ref rq, .int (nI g), .int (nI u.2.2.1)])), (rp, .inl (cP, 664, .inl u.1)), (rq, .inl (cM, 664, .inl u.2.1)), (ta, .inr (2, [.ref tb, .ref tr, .int (nI u.2.2.2.2.2.1), .int u.2.2.2.2.2.2.1, .int u.2.2.2.2.2.2.2.1])), (tb, .inl (cB, 16, .inl u.2.2.2.1)), (tr, .inl (cR, 16, .inl u.2.2.2.2.1)), (qa, .inr (2, [.ref qb, .ref qr, .int u.2.2.2.2.2.2.2.2.2.2.1, .int u.2.2.2.2.2.2.2.2.2.2.2.1, .int u.2.2.2.2.2.2.2.2.2.2.2.2])), (qb, .inl (cE, 16, .inl u.2.2.2.2.2.2.2.2.1)), (qr, .inl (cF, 16, .inl u.2.2.2.2.2.2.2.2.2.1))]) (fun u => [(cP, .int), (cM, .int), (cB, .int), (cR, .int), (cE, .int), (cF, .int)])
set_option maxHeartbeats 4000000 in
set_option maxRecDepth 100000 in
/-- descend -/
theorem ks_Dsc_step (l : Launch) (dC : Nat → ClassId) (dI : Nat → Nat → Nat) (e9 : Nat) (IH : ∀ e8, e9 = e8 + 1 → ks_Dsc l dC dI e8) : ks_Dsc l dC dI e9 := by
  intro sa ta tb tr cB cR qa qb qr cE cF ra rp rq cP cM N lap P M g nr B Rs k o z Bq Rq kq oq zq d hN hg hW hR hdk hde
  intro sz
  refine Met.ofW (cc := cX1_descend) (maxL := 8) (ret := (some .int)) (by decide) rfl ?_
  intro p e s m args below meth c s₁ B9 hml hv
  obtain ⟨rfl, hsz, hP, hK, hD0, hNW⟩ := hv
  have hx := B9.exec
  have hb := B9.bytes
  have hr := B9.returns
  have hts := atoms_spec (ws := wsX1_descend) B9.pre
  have hown : s.vm.findClass RX1 = some m.cls := findClass_of_methodNamed B9.named
  have hlocks := B9.notSynchronized
  subst hsz
  have hD := hD0.self (sz := s.heap.size)
  generalize hAe : va_A [(sa, .inr (1, [.int (nI N), .ref ra, .ref ta, .ref qa, .int lap])), (ra, .inr (0, [.ref rp, .ref rq, .int (nI g), .int (nI nr)])), (rp, .inl (cP, 664, .inl P)), (rq, .inl (cM, 664, .inl M)), (ta, .inr (2, [.ref tb, .ref tr, .int (nI k), .int o, .int z])), (tb, .inl (cB, 16, .inl B)), (tr, .inl (cR, 16, .inl Rs)), (qa, .inr (2, [.ref qb, .ref qr, .int kq, .int oq, .int zq])), (qb, .inl (cE, 16, .inl Bq)), (qr, .inl (cF, 16, .inl Rq))] s.heap.size = A at hD ⊢
  have hA : ∀ q : Nat, s.heap.size ≤ q → A q := fun q h => by rw [← hAe]; exact Or.inr h
  have hS : va_S A s.heap s.heap [] := va_S.rf
  have hiX1 : ∀ w ∈ u_ws RX1 TX1 5, w ∈ wsX1_descend := by decide +kernel
  have hiX2 : ∀ w ∈ u_ws RX2 TX2 5, w ∈ wsX1_descend := by decide +kernel
  have f9 := hts (.fieldLink RX1 9 "LessonSolver$Search" "variables" "I") (by decide +kernel)
  have f15 := hts (.fieldLink RX1 15 "LessonSolver$Search" "row" "LLessonSolver$ClauseRow;") (by decide +kernel)
  have f22 := hts (.fieldLink RX1 22 "LessonSolver$Search" "trail" "LLessonSolver$Trail;") (by decide +kernel)
  have f53 := va_Nw.use (A := ([.ref sa, .int (nI d)] : List Value).toArray) rfl (hNW (.fieldLinkNest RX1 53 "LessonSolver$Trail" "ones" "I" "LessonSolver") (by decide +kernel))
  have f56 := va_Nw.use (A := ([.ref sa, .int (nI d)] : List Value).toArray) rfl (hNW (.fieldLinkNest RX1 56 "LessonSolver$Trail" "length" "I" "LessonSolver") (by decide +kernel))
  have hl := lv_entry ([.ref sa, .int (nI d)]) (n := 8) (Nat.le_of_ble_eq_true rfl)
  rw [lg_entry_eq]
  generalize (lg_sl ([.ref sa, .int (nI d)]) ++ List.replicate (8 - (lg_sl ([.ref sa, .int (nI d)])).length) Slot.unset).toArray = ls at hl ⊢
  have hl : lv_has ls 8 [(0, .ref sa), (1, .int (nI d))] := hl
  refine lv_iconst (v := 0) hx hb dX1_descend_0 (by decide) ?_
  refine lv_istore_n (lv' := [(2, .int 0), (0, .ref sa), (1, .int (nI d))]) hx hb dX1_descend_1 rfl hl (by decide) rfl (fun ls hl => ?_)
  refine lv_iconst (v := nI 0) hx hb dX1_descend_2 (by decide) ?_
  refine lv_istore_n (lv' := [(3, .int (nI 0)), (2, .int 0), (0, .ref sa), (1, .int (nI d))]) hx hb dX1_descend_3 rfl hl (by decide) rfl (fun ls hl => ?_)
  refine ks_wl (σ := Nat × (Nat → Int32) × (Nat → Int32) × Nat × (Nat → Int32) × (Nat → Int32) × Nat × Int32 × Int32 × (Nat → Int32) × (Nat → Int32) × Int32 × Int32 × Int32 × Int32) (fun n x H locs ls => (x.1 ≤ N + 1) ∧ (n + x.1 = N + 2) ∧ (ks_W N x.2.1 x.2.2.1 g x.2.2.2.1) ∧ (ks_gr P M nr x.2.1 x.2.2.1 x.2.2.2.1) ∧ (ks_R N x.2.1 x.2.2.1 x.2.2.2.1 x.2.2.2.2.1 x.2.2.2.2.2.1 x.2.2.2.2.2.2.1 x.2.2.2.2.2.2.2.1 x.2.2.2.2.2.2.2.2.1) ∧ (ks_X B Rs k o z x.2.2.2.2.1 x.2.2.2.2.2.1 x.2.2.2.2.2.2.1 x.2.2.2.2.2.2.2.1 x.2.2.2.2.2.2.2.2.1) ∧ (ks_eqv N P M g o z x.2.2.2.2.2.2.2.1 x.2.2.2.2.2.2.2.2.1) ∧ (ks_rf N P M g x.1 x.2.2.2.2.2.2.1 x.2.2.2.2.2.2.2.2.2.2.2.2.2.2 x.2.2.2.2.2.2.2.1 x.2.2.2.2.2.2.2.2.1) ∧ (d ≤ x.2.2.2.2.2.2.1) ∧ va_P (dC, dI) ksCl [(sa, .inr (1, [.int (nI N), .ref ra, .ref ta, .ref qa, .int lap])), (ra, .inr (0, [.ref rp, .ref rq, .int (nI g), .int (nI x.2.2.2.1)])), (rp, .inl (cP, 664, .inl x.2.1)), (rq, .inl (cM, 664, .inl x.2.2.1)), (ta, .inr (2, [.ref tb, .ref tr, .int (nI x.2.2.2.2.2.2.1), .int x.2.2.2.2.2.2.2.1, .int x.2.2.2.2.2.2.2.2.1])), (tb, .inl (cB, 16, .inl x.2.2.2.2.1)), (tr, .inl (cR, 16, .inl x.2.2.2.2.2.1)), (qa, .inr (2, [.ref qb, .ref qr, .int x.2.2.2.2.2.2.2.2.2.2.2.1, .int x.2.2.2.2.2.2.2.2.2.2.2.2.1, .int x.2.2.2.2.2.2.2.2.2.2.2.2.2.1])), (qb, .inl (cE, 16, .inl x.2.2.2.2.2.2.2.2.2.1)), (qr, .inl (cF, 16, .inl x.2.2.2.2.2.2.2.2.2.2.1))] H ∧ va_D A [(sa, .inr (1, [.int (nI N), .ref ra, .ref ta, .ref qa, .int lap])), (ra, .inr (0, [.ref rp, .ref rq, .int (nI g), .int (nI x.2.2.2.1)])), (rp, .inl (cP, 664, .inl x.2.1)), (rq, .inl (cM, 664, .inl x.2.2.1)), (ta, .inr (2, [.ref tb, .ref tr, .int (nI x.2.2.2.2.2.2.1), .int x.2.2.2.2.2.2.2.1, .int x.2.2.2.2.2.2.2.2.1])), (tb, .inl (cB, 16, .inl x.2.2.2.2.1)), (tr, .inl (cR, 16, .inl x.2.2.2.2.2.1)), (qa, .inr (2, [.ref qb, .ref qr, .int x.2.2.2.2.2.2.2.2.2.2.2.1, .int x.2.2.2.2.2.2.2.2.2.2.2.2.1, .int x.2.2.2.2.2.2.2.2.2.2.2.2.2.1])), (qb, .inl (cE, 16, .inl x.2.2.2.2.2.2.2.2.2.1)), (qr, .inl (cF, 16, .inl x.2.2.2.2.2.2.2.2.2.2.1))] ∧ va_S A s.heap H locs ∧ lv_has ls 8 [(0, .ref sa), (1, .int (nI d)), (2, .int x.2.2.2.2.2.2.2.2.2.2.2.2.2.2), (3, .int (nI x.1))]) 4 ?_ ?_ (N + 2) (0, P, M, nr, B, Rs, k, o, z, Bq, Rq, kq, oq, zq, 0) _ _ ls ⟨Nat.zero_le _, rfl, hW, ks_gr.rf, hR, ks_X.rf, ks_eqv.rf, Or.inl ⟨rfl, rfl⟩, hdk, hP, hD, hS, lv_sub hl [2, 3, 1, 0] rfl⟩
  · -- loop at 4
    intro n x H locs ls h9 ih
    obtain ⟨rd, Pa, Ma, na, Ba, Ra, ka, oa, za, Bx, Rx, kx, ox, zx, rf⟩ := x
    obtain ⟨i1, i2, i3, i4, i5, i6, i7, i8, i9, hP, hD, hS, hl⟩ := h9
    have i1 : rd ≤ N + 1 := i1
    have i2 : (n + 1) + rd = N + 2 := i2
    have i3 : ks_W N Pa Ma g na := i3
    have i4 : ks_gr P M nr Pa Ma na := i4
    have i5 : ks_R N Pa Ma na Ba Ra ka oa za := i5
    have i6 : ks_X B Rs k o z Ba Ra ka oa za := i6
    have i7 : ks_eqv N P M g o z oa za := i7
    have i8 : ks_rf N P M g rd ka rf oa za := i8
    have i9 : d ≤ ka := i9
    have hP : va_P (dC, dI) ksCl [(sa, .inr (1, [.int (nI N), .ref ra, .ref ta, .ref qa, .int lap])), (ra, .inr (0, [.ref rp, .ref rq, .int (nI g), .int (nI na)])), (rp, .inl (cP, 664, .inl Pa)), (rq, .inl (cM, 664, .inl Ma)), (ta, .inr (2, [.ref tb, .ref tr, .int (nI ka), .int oa, .int za])), (tb, .inl (cB, 16, .inl Ba)), (tr, .inl (cR, 16, .inl Ra)), (qa, .inr (2, [.ref qb, .ref qr, .int kx, .int ox, .int zx])), (qb, .inl (cE, 16, .inl Bx)), (qr, .inl (cF, 16, .inl Rx))] H := hP
    have hD : va_D A [(sa, .inr (1, [.int (nI N), .ref ra, .ref ta, .ref qa, .int lap])), (ra, .inr (0, [.ref rp, .ref rq, .int (nI g), .int (nI na)])), (rp, .inl (cP, 664, .inl Pa)), (rq, .inl (cM, 664, .inl Ma)), (ta, .inr (2, [.ref tb, .ref tr, .int (nI ka), .int oa, .int za])), (tb, .inl (cB, 16, .inl Ba)), (tr, .inl (cR, 16, .inl Ra)), (qa, .inr (2, [.ref qb, .ref qr, .int kx, .int ox, .int zx])), (qb, .inl (cE, 16, .inl Bx)), (qr, .inl (cF, 16, .inl Rx))] := hD
    have hl : lv_has ls 8 [(0, .ref sa), (1, .int (nI d)), (2, .int rf), (3, .int (nI rd))] := hl
    have hna : na ≤ 664 := by have := i3.2.1; omega
    have hga : g ≤ na := i3.1
    refine lv_iload_n hx hb dX1_descend_4 rfl (lv_at hl 3 rfl) ?_
    refine lv_aload_n hx hb dX1_descend_5 rfl (lv_at hl 0 rfl) ?_
    refine va_get (D := (dC, dI)) (ci := 1) (v := .int (nI N)) (C := RX1) (T := TX1) (N := 5) hx hb hts hiX1 hown hK hP 0 rfl rfl 0 (by decide) f9 (fun _ h9 => h9) rfl dX1_descend_6 ?_
    refine lv_icmp_gt (tgt := 147) hx hb dX1_descend_9 (by decide) (fun c9 => absurd c9 (nI_nlt (by have := i8.round i5; omega) (by omega))) (fun c9 => ?_)
    refine lv_aload_n hx hb dX1_descend_12 rfl (lv_at hl 0 rfl) ?_
    refine va_get (D := (dC, dI)) (ci := 1) (v := .ref ta) (C := RX1) (T := TX1) (N := 5) hx hb hts hiX1 hown hK hP 0 rfl rfl 2 (by decide) f22 (fun _ h9 => h9) rfl dX1_descend_13 ?_
    refine lv_aload_n hx hb dX1_descend_16 rfl (lv_at hl 0 rfl) ?_
    refine va_get (D := (dC, dI)) (ci := 1) (v := .ref ra) (C := RX1) (T := TX1) (N := 5) hx hb hts hiX1 hown hK hP 0 rfl rfl 1 (by decide) f15 (fun _ h9 => h9) rfl dX1_descend_17 ?_
    refine ks_calliV (As := [.ref ra]) (rest := []) (wr := [(sa, .inr (1, [.int (nI N), .ref ra, .ref ta, .ref qa, .int lap])), (qa, .inr (2, [.ref qb, .ref qr, .int kx, .int ox, .int zx])), (qb, .inl (cE, 16, .inl Bx)), (qr, .inl (cF, 16, .inl Rx))]) (wz := fun u => [(sa, .inr (1, [.int (nI N), .ref ra, .ref ta, .ref qa, .int lap])), (ra, .inr (0, [.ref rp, .ref rq, .int (nI g), .int (nI na)])), (rp, .inl (cP, 664, .inl Pa)), (rq, .inl (cM, 664, .inl Ma)), (ta, .inr (2, [.ref tb, .ref tr, .int (nI u.2.2.1), .int u.2.2.2.1, .int u.2.2.2.2])), (tb, .inl (cB, 16, .inl u.1)), (tr, .inl (cR, 16, .inl u.2.1)), (qa, .inr (2, [.ref qb, .ref qr, .int kx, .int ox, .int zx])), (qb, .inl (cE, 16, .inl Bx)), (qr, .inl (cF, 16, .inl Rx))]) ⟨hx, hb, hml, hown, hts⟩ (ks_propagate l dC dI ta tb tr cB cR ra rp rq cP cM Ba Ra ka oa za N Pa Ma g na hN i5 i3 hg) (cwV 1 hts gX1_descend_X2_propagate rfl rfl rfl (by decide +kernel) ⟨(by show 2 ≤ 3 + e9; omega), (by show 49 ≤ 73 + 27 * e9; omega)⟩) hK hP hD hS hA hNW [4, 5, 6, 1, 2, 3] [0, 7, 8, 9] [2, 3, 0, 1] [0, 7, 8, 9, 4, 5, 6, 1, 2, 3] rfl rfl rfl rfl (by decide) (by decide) (by decide) (ci := 2) (q0 := 0) rfl rfl rfl (fun _ => rfl) (fun _ => rfl) (by decide) rfl hl.1 rfl (Nat.le_of_ble_eq_true rfl) dX1_descend_20 ⟨Nat.le_of_ble_eq_true rfl, Nat.le_of_ble_eq_true rfl⟩ (fun r4 u9 H locs hw9 hK9 hP hD hS => ?_)
    obtain ⟨B1, R1, k1, o1, z1⟩ := u9
    have hpp : ks_pp N Pa Ma na Ba Ra ka oa za r4 B1 R1 k1 o1 z1 := hw9
    obtain ⟨j1, j2, j3, j4⟩ := id hpp
    have hk1 := j1.le
    have hkk := j2.1
    have hP : va_P (dC, dI) ksCl [(sa, .inr (1, [.int (nI N), .ref ra, .ref ta, .ref qa, .int lap])), (ra, .inr (0, [.ref rp, .ref rq, .int (nI g), .int (nI na)])), (rp, .inl (cP, 664, .inl Pa)), (rq, .inl (cM, 664, .inl Ma)), (ta, .inr (2, [.ref tb, .ref tr, .int (nI k1), .int o1, .int z1])), (tb, .inl (cB, 16, .inl B1)), (tr, .inl (cR, 16, .inl R1)), (qa, .inr (2, [.ref qb, .ref qr, .int kx, .int ox, .int zx])), (qb, .inl (cE, 16, .inl Bx)), (qr, .inl (cF, 16, .inl Rx))] H := hP
    have hD : va_D A [(sa, .inr (1, [.int (nI N), .ref ra, .ref ta, .ref qa, .int lap])), (ra, .inr (0, [.ref rp, .ref rq, .int (nI g), .int (nI na)])), (rp, .inl (cP, 664, .inl Pa)), (rq, .inl (cM, 664, .inl Ma)), (ta, .inr (2, [.ref tb, .ref tr, .int (nI k1), .int o1, .int z1])), (tb, .inl (cB, 16, .inl B1)), (tr, .inl (cR, 16, .inl R1)), (qa, .inr (2, [.ref qb, .ref qr, .int kx, .int ox, .int zx])), (qb, .inl (cE, 16, .inl Bx)), (qr, .inl (cF, 16, .inl Rx))] := hD
    refine lv_istore (lv' := [(4, .int r4), (0, .ref sa), (1, .int (nI d)), (2, .int rf), (3, .int (nI rd))]) hx hb dX1_descend_23 hl (by decide) rfl (fun ls hl => ?_)
    refine lv_iload hx hb dX1_descend_25 (lv_at hl 0 rfl) ?_
    refine lv_iconst (v := -1) hx hb dX1_descend_27 (by decide) ?_
    refine lv_icmp_eq (tgt := 39) hx hb dX1_descend_28 (by decide) (fun c28 => ?_) (fun c28 => ?_)
    · -- 28: jumps
      have hfix : ∀ c, c < na → ks_U (Pa c) (Ma c) o1 z1 := by
        rcases j4 with q | q
        · exact q.2
        · exact absurd c28 q.1
      refine lv_aload_n hx hb dX1_descend_39 rfl (lv_at hl 1 rfl) ?_
      refine va_get (D := (dC, dI)) (ci := 1) (v := .ref ta) (C := RX1) (T := TX1) (N := 5) hx hb hts hiX1 hown hK hP 0 rfl rfl 2 (by decide) f22 (fun _ h9 => h9) rfl dX1_descend_40 ?_
      refine lv_aload_n hx hb dX1_descend_43 rfl (lv_at hl 1 rfl) ?_
      refine va_get (D := (dC, dI)) (ci := 1) (v := .int (nI N)) (C := RX1) (T := TX1) (N := 5) hx hb hts hiX1 hown hK hP 0 rfl rfl 0 (by decide) f9 (fun _ h9 => h9) rfl dX1_descend_44 ?_
      refine ks_calliV (As := [.int (nI N)]) (rest := []) (wr := [(sa, .inr (1, [.int (nI N), .ref ra, .ref ta, .ref qa, .int lap])), (ra, .inr (0, [.ref rp, .ref rq, .int (nI g), .int (nI na)])), (rp, .inl (cP, 664, .inl Pa)), (rq, .inl (cM, 664, .inl Ma)), (qa, .inr (2, [.ref qb, .ref qr, .int kx, .int ox, .int zx])), (qb, .inl (cE, 16, .inl Bx)), (qr, .inl (cF, 16, .inl Rx))]) (wz := fun _ => [(sa, .inr (1, [.int (nI N), .ref ra, .ref ta, .ref qa, .int lap])), (ra, .inr (0, [.ref rp, .ref rq, .int (nI g), .int (nI na)])), (rp, .inl (cP, 664, .inl Pa)), (rq, .inl (cM, 664, .inl Ma)), (ta, .inr (2, [.ref tb, .ref tr, .int (nI k1), .int o1, .int z1])), (tb, .inl (cB, 16, .inl B1)), (tr, .inl (cR, 16, .inl R1)), (qa, .inr (2, [.ref qb, .ref qr, .int kx, .int ox, .int zx])), (qb, .inl (cE, 16, .inl Bx)), (qr, .inl (cF, 16, .inl Rx))]) ⟨hx, hb, hml, hown, hts⟩ (ks_firstFree l dC dI ta tb tr cB cR B1 R1 (nI k1) o1 z1 N hN) (cwV 1 hts gX1_descend_X2_firstFree rfl rfl rfl (by decide +kernel) ⟨(by show 1 ≤ 3 + e9; omega), (by show 23 ≤ 73 + 27 * e9; omega)⟩) hK hP hD hS hA hNW [4, 5, 6] [0, 1, 2, 3, 7, 8, 9] [2, 3] [0, 1, 2, 3, 7, 8, 9, 4, 5, 6] rfl rfl rfl rfl (by decide) (by decide) (by decide) (ci := 2) (q0 := 0) rfl rfl rfl (fun _ => rfl) (fun _ => rfl) (by decide) rfl hl.1 rfl (Nat.le_of_ble_eq_true rfl) dX1_descend_47 ⟨Nat.le_of_ble_eq_true rfl, Nat.le_of_ble_eq_true rfl⟩ (fun r5 u9 H locs hw9 hK9 hP hD hS => ?_)
      have hff : ks_ff N o1 z1 r5 := hw9
      have hP : va_P (dC, dI) ksCl [(sa, .inr (1, [.int (nI N), .ref ra, .ref ta, .ref qa, .int lap])), (ra, .inr (0, [.ref rp, .ref rq, .int (nI g), .int (nI na)])), (rp, .inl (cP, 664, .inl Pa)), (rq, .inl (cM, 664, .inl Ma)), (ta, .inr (2, [.ref tb, .ref tr, .int (nI k1), .int o1, .int z1])), (tb, .inl (cB, 16, .inl B1)), (tr, .inl (cR, 16, .inl R1)), (qa, .inr (2, [.ref qb, .ref qr, .int kx, .int ox, .int zx])), (qb, .inl (cE, 16, .inl Bx)), (qr, .inl (cF, 16, .inl Rx))] H := hP
      have hD : va_D A [(sa, .inr (1, [.int (nI N), .ref ra, .ref ta, .ref qa, .int lap])), (ra, .inr (0, [.ref rp, .ref rq, .int (nI g), .int (nI na)])), (rp, .inl (cP, 664, .inl Pa)), (rq, .inl (cM, 664, .inl Ma)), (ta, .inr (2, [.ref tb, .ref tr, .int (nI k1), .int o1, .int z1])), (tb, .inl (cB, 16, .inl B1)), (tr, .inl (cR, 16, .inl R1)), (qa, .inr (2, [.ref qb, .ref qr, .int kx, .int ox, .int zx])), (qb, .inl (cE, 16, .inl Bx)), (qr, .inl (cF, 16, .inl Rx))] := hD
      refine lv_istore (lv' := [(5, .int r5), (4, .int r4), (0, .ref sa), (1, .int (nI d)), (2, .int rf), (3, .int (nI rd))]) hx hb dX1_descend_50 hl (by decide) rfl (fun ls hl => ?_)
      refine lv_iload hx hb dX1_descend_52 (lv_at hl 0 rfl) ?_
      refine lv_if_ne (tgt := 65) hx hb dX1_descend_54 (by decide) (fun c54 => ?_) (fun c54 => ?_)
      · -- 54: jumps
        obtain ⟨p9, hp9, ep9, hf9, hup9⟩ : ∃ p, p < N ∧ r5 = ks_on p ∧ ks_fr o1 z1 p ∧ ∀ q, p < q → q < N → ¬ ks_fr o1 z1 q := by
          rcases hff with q | q
          · exact absurd q.1 c54
          · exact q
        subst ep9
        have hfree := j1.free hp9 hf9
        refine lv_iload_n hx hb dX1_descend_65 rfl (lv_at hl 3 rfl) ?_
        refine lv_aload_n hx hb dX1_descend_66 rfl (lv_at hl 2 rfl) ?_
        refine va_get (D := (dC, dI)) (ci := 1) (v := .int (nI N)) (C := RX1) (T := TX1) (N := 5) hx hb hts hiX1 hown hK hP 0 rfl rfl 0 (by decide) f9 (fun _ h9 => h9) rfl dX1_descend_67 ?_
        refine lv_icmp_lt (tgt := 75) hx hb dX1_descend_70 (by decide) (fun c70 => ?_) (fun c70 => absurd (nI_lt (by omega) (by omega)) c70)
        refine lv_aload_n hx hb dX1_descend_75 rfl (lv_at hl 2 rfl) ?_
        refine va_get (D := (dC, dI)) (ci := 1) (v := .ref ta) (C := RX1) (T := TX1) (N := 5) hx hb hts hiX1 hown hK hP 0 rfl rfl 2 (by decide) f22 (fun _ h9 => h9) rfl dX1_descend_76 ?_
        refine va_getN (D := (dC, dI)) (ci := 2) (v := .int (nI k1)) (C := RX2) (T := TX2) (N := 5) hx hb hts hiX2 hown hK hP 4 rfl rfl 2 (by decide) f56 (fun _ h9 => h9) rfl dX1_descend_79 ?_
        refine lv_istore (lv' := [(6, .int (nI k1)), (5, .int (ks_on p9)), (4, .int r4), (0, .ref sa), (1, .int (nI d)), (2, .int rf), (3, .int (nI rd))]) hx hb dX1_descend_82 hl (by decide) rfl (fun ls hl => ?_)
        refine lv_aload_n hx hb dX1_descend_84 rfl (lv_at hl 3 rfl) ?_
        refine va_get (D := (dC, dI)) (ci := 1) (v := .ref ta) (C := RX1) (T := TX1) (N := 5) hx hb hts hiX1 hown hK hP 0 rfl rfl 2 (by decide) f22 (fun _ h9 => h9) rfl dX1_descend_85 ?_
        refine lv_iload hx hb dX1_descend_88 (lv_at hl 1 rfl) ?_
        refine lv_iload hx hb dX1_descend_90 (lv_at hl 1 rfl) ?_
        refine lv_iload_n hx hb dX1_descend_92 rfl (lv_at hl 5 rfl) ?_
        refine lv_icmp_ne (tgt := 100) hx hb dX1_descend_93 (by decide) (fun c93 => ?_) (fun c93 => ?_)
        · -- 93: jumps
          refine lv_iconst (v := 0) hx hb dX1_descend_100 (by decide) ?_
          refine lv_iconst (v := 0) hx hb dX1_descend_101 (by decide) ?_
          refine ks_callvV (As := [.int (ks_on p9), .int 0, .int 0]) (rest := []) (wr := [(sa, .inr (1, [.int (nI N), .ref ra, .ref ta, .ref qa, .int lap])), (ra, .inr (0, [.ref rp, .ref rq, .int (nI g), .int (nI na)])), (rp, .inl (cP, 664, .inl Pa)), (rq, .inl (cM, 664, .inl Ma)), (qa, .inr (2, [.ref qb, .ref qr, .int kx, .int ox, .int zx])), (qb, .inl (cE, 16, .inl Bx)), (qr, .inl (cF, 16, .inl Rx))]) (wz := fun _ => [(sa, .inr (1, [.int (nI N), .ref ra, .ref ta, .ref qa, .int lap])), (ra, .inr (0, [.ref rp, .ref rq, .int (nI g), .int (nI na)])), (rp, .inl (cP, 664, .inl Pa)), (rq, .inl (cM, 664, .inl Ma)), (ta, .inr (2, [.ref tb, .ref tr, .int (nI (k1 + 1)), .int (if false = true then o1 ||| ks_on p9 else o1), .int (if false = true then z1 else z1 ||| ks_on p9)])), (tb, .inl (cB, 16, .inl (upd B1 k1 (ks_on p9)))), (tr, .inl (cR, 16, .inl (upd R1 k1 0))), (qa, .inr (2, [.ref qb, .ref qr, .int kx, .int ox, .int zx])), (qb, .inl (cE, 16, .inl Bx)), (qr, .inl (cF, 16, .inl Rx))]) ⟨hx, hb, hml, hown, hts⟩ (ks_assign l dC dI ta tb tr cB cR B1 R1 k1 o1 z1 (ks_on p9) 0 false (by omega)) (cwV 3 hts gX1_descend_X2_assign rfl rfl rfl (by decide +kernel) ⟨(by show 1 ≤ 3 + e9; omega), (by show 23 ≤ 73 + 27 * e9; omega)⟩) hK hP hD hS hA hNW [4, 5, 6] [0, 1, 2, 3, 7, 8, 9] [2, 3] [0, 1, 2, 3, 7, 8, 9, 4, 5, 6] rfl rfl rfl rfl (by decide) (by decide) (by decide) (ci := 2) (q0 := 0) rfl rfl rfl (fun _ => rfl) (fun _ => rfl) (by decide) rfl hl.1 rfl (Nat.le_of_ble_eq_true rfl) dX1_descend_102 ⟨Nat.le_of_ble_eq_true rfl, Nat.le_of_ble_eq_true rfl⟩ (fun u9 H locs hw9 hK9 hP hD hS => ?_)
          have hP : va_P (dC, dI) ksCl [(sa, .inr (1, [.int (nI N), .ref ra, .ref ta, .ref qa, .int lap])), (ra, .inr (0, [.ref rp, .ref rq, .int (nI g), .int (nI na)])), (rp, .inl (cP, 664, .inl Pa)), (rq, .inl (cM, 664, .inl Ma)), (ta, .inr (2, [.ref tb, .ref tr, .int (nI (k1 + 1)), .int (if false = true then o1 ||| ks_on p9 else o1), .int (if false = true then z1 else z1 ||| ks_on p9)])), (tb, .inl (cB, 16, .inl (upd B1 k1 (ks_on p9)))), (tr, .inl (cR, 16, .inl (upd R1 k1 0))), (qa, .inr (2, [.ref qb, .ref qr, .int kx, .int ox, .int zx])), (qb, .inl (cE, 16, .inl Bx)), (qr, .inl (cF, 16, .inl Rx))] H := hP
          have hD : va_D A [(sa, .inr (1, [.int (nI N), .ref ra, .ref ta, .ref qa, .int lap])), (ra, .inr (0, [.ref rp, .ref rq, .int (nI g), .int (nI na)])), (rp, .inl (cP, 664, .inl Pa)), (rq, .inl (cM, 664, .inl Ma)), (ta, .inr (2, [.ref tb, .ref tr, .int (nI (k1 + 1)), .int (if false = true then o1 ||| ks_on p9 else o1), .int (if false = true then z1 else z1 ||| ks_on p9)])), (tb, .inl (cB, 16, .inl (upd B1 k1 (ks_on p9)))), (tr, .inl (cR, 16, .inl (upd R1 k1 0))), (qa, .inr (2, [.ref qb, .ref qr, .int kx, .int ox, .int zx])), (qb, .inl (cE, 16, .inl Bx)), (qr, .inl (cF, 16, .inl Rx))] := hD
          refine lv_aload_n hx hb dX1_descend_105 rfl (lv_at hl 3 rfl) ?_
          refine lv_iload_n hx hb dX1_descend_106 rfl (lv_at hl 4 rfl) ?_
          refine lv_iconst (v := 1) hx hb dX1_descend_107 (by decide) ?_
          refine lv_iadd hx hb dX1_descend_108 ?_
          obtain ⟨e8, he8⟩ : ∃ e8, e9 = e8 + 1 := ⟨e9 - 1, by omega⟩
          have hR2 := j1.assign hN hp9 hf9 false 0 (Or.inl rfl)
          refine ks_top (y := nI (d + 1)) (nI_1 d) ?_
          refine ks_calliV (As := [.int (nI (d + 1))]) (rest := []) (wr := []) (wz := fun u => [(sa, .inr (1, [.int (nI N), .ref ra, .ref ta, .ref qa, .int lap])), (ra, .inr (0, [.ref rp, .ref rq, .int (nI g), .int (nI u.2.2.1)])), (rp, .inl (cP, 664, .inl u.1)), (rq, .inl (cM, 664, .inl u.2.1)), (ta, .inr (2, [.ref tb, .ref tr, .int (nI u.2.2.2.2.2.1), .int u.2.2.2.2.2.2.1, .int u.2.2.2.2.2.2.2.1])), (tb, .inl (cB, 16, .inl u.2.2.2.1)), (tr, .inl (cR, 16, .inl u.2.2.2.2.1)), (qa, .inr (2, [.ref qb, .ref qr, .int u.2.2.2.2.2.2.2.2.2.2.1, .int u.2.2.2.2.2.2.2.2.2.2.2.1, .int u.2.2.2.2.2.2.2.2.2.2.2.2])), (qb, .inl (cE, 16, .inl u.2.2.2.2.2.2.2.2.1)), (qr, .inl (cF, 16, .inl u.2.2.2.2.2.2.2.2.2.1))]) ⟨hx, hb, hml, hown, hts⟩ (IH e8 he8 sa ta tb tr cB cR qa qb qr cE cF ra rp rq cP cM N lap Pa Ma g na (upd B1 k1 (ks_on p9)) (upd R1 k1 0) (k1 + 1) (if false = true then o1 ||| ks_on p9 else o1) (if false = true then z1 else z1 ||| ks_on p9) Bx Rx kx ox zx (d + 1) hN hg i3 hR2 (by omega) (by omega)) (cwV 1 hts gX1_descend_X1_descend rfl rfl rfl (by decide +kernel) ⟨by rw [he8]; exact Nat.le_refl _, by rw [he8]; show 8 + (8 + 11) + (73 + 27 * e8) ≤ 73 + 27 * (e8 + 1); omega⟩) hK hP hD hS hA hNW [0, 1, 2, 3, 4, 5, 6, 7, 8, 9] [] [0, 1, 2, 3, 4, 5] [0, 1, 2, 3, 4, 5, 6, 7, 8, 9] rfl rfl rfl rfl (by decide) (by decide) (by decide) (ci := 1) (q0 := 0) rfl rfl rfl (fun _ => rfl) (fun _ => rfl) (by decide) rfl hl.1 rfl (Nat.le_of_ble_eq_true rfl) dX1_descend_109 ⟨Nat.le_of_ble_eq_true rfl, Nat.le_of_ble_eq_true rfl⟩ (fun r7 u9 H locs hw9 hK9 hP hD hS => ?_)
          obtain ⟨P7, M7, n7, B7, R7, k7, o7, z7, B8, R8, k8, o8, z8⟩ := u9
          obtain ⟨s1, s2, s3, s4, s5⟩ := hw9
          have s5 := ks_L.ext (i4.low hW.1) s5
          have g1 := i4
          have x4 := (ks_X.assign (B := B1) (Rs := R1) (k := k1) (o := o1) (z := z1) (ks_on p9) 0 false).tr s4
          have hP : va_P (dC, dI) ksCl [(sa, .inr (1, [.int (nI N), .ref ra, .ref ta, .ref qa, .int lap])), (ra, .inr (0, [.ref rp, .ref rq, .int (nI g), .int (nI n7)])), (rp, .inl (cP, 664, .inl P7)), (rq, .inl (cM, 664, .inl M7)), (ta, .inr (2, [.ref tb, .ref tr, .int (nI k7), .int o7, .int z7])), (tb, .inl (cB, 16, .inl B7)), (tr, .inl (cR, 16, .inl R7)), (qa, .inr (2, [.ref qb, .ref qr, .int k8, .int o8, .int z8])), (qb, .inl (cE, 16, .inl B8)), (qr, .inl (cF, 16, .inl R8))] H := hP
          have hD : va_D A [(sa, .inr (1, [.int (nI N), .ref ra, .ref ta, .ref qa, .int lap])), (ra, .inr (0, [.ref rp, .ref rq, .int (nI g), .int (nI n7)])), (rp, .inl (cP, 664, .inl P7)), (rq, .inl (cM, 664, .inl M7)), (ta, .inr (2, [.ref tb, .ref tr, .int (nI k7), .int o7, .int z7])), (tb, .inl (cB, 16, .inl B7)), (tr, .inl (cR, 16, .inl R7)), (qa, .inr (2, [.ref qb, .ref qr, .int k8, .int o8, .int z8])), (qb, .inl (cE, 16, .inl B8)), (qr, .inl (cF, 16, .inl R8))] := hD
          refine lv_istore (lv' := [(7, .int r7), (6, .int (nI k1)), (5, .int (ks_on p9)), (4, .int r4), (0, .ref sa), (1, .int (nI d)), (2, .int rf), (3, .int (nI rd))]) hx hb dX1_descend_112 hl (by decide) rfl (fun ls hl => ?_)
          refine lv_iload hx hb dX1_descend_114 (lv_at hl 0 rfl) ?_
          refine lv_iconst (v := -1) hx hb dX1_descend_116 (by decide) ?_
          refine lv_icmp_ne (tgt := 126) hx hb dX1_descend_117 (by decide) (fun c117 => ?_) (fun c117 => ?_)
          · -- 117: jumps
            have hLr := (i7.tr (ks_eqv.ext (i4.low hW.1) (hpp.eqv i3))).L (ks_L.low hN hp9 hup9 c117 s5)
            refine lv_iload hx hb dX1_descend_126 (lv_at hl 0 rfl) ?_
            have hP9 : va_P (dC, dI) ksCl [(sa, .inr (1, [.int (nI N), .ref ra, .ref ta, .ref qa, .int lap])), (ra, .inr (0, [.ref rp, .ref rq, .int (nI g), .int (nI n7)])), (rp, .inl (cP, 664, .inl P7)), (rq, .inl (cM, 664, .inl M7)), (ta, .inr (2, [.ref tb, .ref tr, .int (nI k7), .int o7, .int z7])), (tb, .inl (cB, 16, .inl B7)), (tr, .inl (cR, 16, .inl R7)), (qa, .inr (2, [.ref qb, .ref qr, .int k8, .int o8, .int z8])), (qb, .inl (cE, 16, .inl B8)), (qr, .inl (cF, 16, .inl R8))] _ := hP
            have hD9 : va_D A [(sa, .inr (1, [.int (nI N), .ref ra, .ref ta, .ref qa, .int lap])), (ra, .inr (0, [.ref rp, .ref rq, .int (nI g), .int (nI n7)])), (rp, .inl (cP, 664, .inl P7)), (rq, .inl (cM, 664, .inl M7)), (ta, .inr (2, [.ref tb, .ref tr, .int (nI k7), .int o7, .int z7])), (tb, .inl (cB, 16, .inl B7)), (tr, .inl (cR, 16, .inl R7)), (qa, .inr (2, [.ref qb, .ref qr, .int k8, .int o8, .int z8])), (qb, .inl (cE, 16, .inl B8)), (qr, .inl (cF, 16, .inl R8))] := hD
            have hK9 : va_K (dC, dI) ksCl [(cP, .int), (cM, .int), (cB, .int), (cR, .int), (cE, .int), (cF, .int)] s := hK
            exact W.iret (v := r7) hx hb hr (fun t ht hW9 => ⟨⟨r7, (P7, M7, n7, B7, R7, k7, o7, z7, B8, R8, k8, o8, z8), rfl, ⟨s1, i4.tr s2, s3, (i6.tr j2).tr x4, hLr⟩, by rw [ht]; exact hP9, va_K.moved hW9.alike hK9, hD9⟩, hS.F ht⟩) hS.2.2 dX1_descend_128
          · -- 117: goes on
            have e7 : r7 = -1 := c117
            have hl9 := ks_L.nolow hN hp9 e7 s5
            refine lv_iload hx hb dX1_descend_120 (lv_at hl 2 rfl) ?_
            refine lv_iload_n hx hb dX1_descend_122 rfl (lv_at hl 6 rfl) ?_
            refine lv_icmp_ne (tgt := 129) hx hb dX1_descend_123 (by decide) (fun c123 => ?_) (fun c123 => absurd c123 c93)
            refine lv_aload_n hx hb dX1_descend_129 rfl (lv_at hl 4 rfl) ?_
            refine va_get (D := (dC, dI)) (ci := 1) (v := .ref ta) (C := RX1) (T := TX1) (N := 5) hx hb hts hiX1 hown hK hP 0 rfl rfl 2 (by decide) f22 (fun _ h9 => h9) rfl dX1_descend_130 ?_
            refine lv_iload hx hb dX1_descend_133 (lv_at hl 1 rfl) ?_
            refine ks_callvV (As := [.int (nI k1)]) (rest := []) (wr := [(sa, .inr (1, [.int (nI N), .ref ra, .ref ta, .ref qa, .int lap])), (ra, .inr (0, [.ref rp, .ref rq, .int (nI g), .int (nI n7)])), (rp, .inl (cP, 664, .inl P7)), (rq, .inl (cM, 664, .inl M7)), (qa, .inr (2, [.ref qb, .ref qr, .int k8, .int o8, .int z8])), (qb, .inl (cE, 16, .inl B8)), (qr, .inl (cF, 16, .inl R8))]) (wz := fun u => [(sa, .inr (1, [.int (nI N), .ref ra, .ref ta, .ref qa, .int lap])), (ra, .inr (0, [.ref rp, .ref rq, .int (nI g), .int (nI n7)])), (rp, .inl (cP, 664, .inl P7)), (rq, .inl (cM, 664, .inl M7)), (ta, .inr (2, [.ref tb, .ref tr, .int (nI k1), .int u.1, .int u.2])), (tb, .inl (cB, 16, .inl B7)), (tr, .inl (cR, 16, .inl R7)), (qa, .inr (2, [.ref qb, .ref qr, .int k8, .int o8, .int z8])), (qb, .inl (cE, 16, .inl B8)), (qr, .inl (cF, 16, .inl R8))]) ⟨hx, hb, hml, hown, hts⟩ (ks_goBack l dC dI ta tb tr cB cR B7 R7 k7 k1 o7 z7 (by have h9 : k7 ≤ N := s3.le; omega) x4.1) (cwV 1 hts gX1_descend_X2_goBackTo rfl rfl rfl (by decide +kernel) ⟨(by show 2 ≤ 3 + e9; omega), (by show 37 ≤ 73 + 27 * e9; omega)⟩) hK hP hD hS hA hNW [4, 5, 6] [0, 1, 2, 3, 7, 8, 9] [2, 3] [0, 1, 2, 3, 7, 8, 9, 4, 5, 6] rfl rfl rfl rfl (by decide) (by decide) (by decide) (ci := 2) (q0 := 0) rfl rfl rfl (fun _ => rfl) (fun _ => rfl) (by decide) rfl hl.1 rfl (Nat.le_of_ble_eq_true rfl) dX1_descend_135 ⟨Nat.le_of_ble_eq_true rfl, Nat.le_of_ble_eq_true rfl⟩ (fun u9 H locs hw9 hK9 hP hD hS => ?_)
            obtain ⟨o6, z6⟩ := u9
            have hdk1 : d ≤ k1 := by omega
            obtain ⟨y1, y2⟩ := hw9
            obtain ⟨eo6, ez6, y3⟩ := ks_R.back j1 hN s3 x4 y1 y2
            try dsimp only at eo6 ez6
            have j5 := s2.R y3
            have j6 : ks_X B Rs k o z B7 R7 k1 o1 z1 := i6.tr (j2.tr ⟨Nat.le_refl _, x4.2.1, fun _ => ⟨id, id⟩⟩)
            have j7 := i7.tr (ks_eqv.ext (i4.low hW.1) (hpp.eqv i3))
            have j8 := ks_rf.next hN i8 i5 j1 j2 hp9 hf9 hup9 c93 hl9
            have hP : va_P (dC, dI) ksCl [(sa, .inr (1, [.int (nI N), .ref ra, .ref ta, .ref qa, .int lap])), (ra, .inr (0, [.ref rp, .ref rq, .int (nI g), .int (nI n7)])), (rp, .inl (cP, 664, .inl P7)), (rq, .inl (cM, 664, .inl M7)), (ta, .inr (2, [.ref tb, .ref tr, .int (nI k1), .int o6, .int z6])), (tb, .inl (cB, 16, .inl B7)), (tr, .inl (cR, 16, .inl R7)), (qa, .inr (2, [.ref qb, .ref qr, .int k8, .int o8, .int z8])), (qb, .inl (cE, 16, .inl B8)), (qr, .inl (cF, 16, .inl R8))] H := hP
            have hD : va_D A [(sa, .inr (1, [.int (nI N), .ref ra, .ref ta, .ref qa, .int lap])), (ra, .inr (0, [.ref rp, .ref rq, .int (nI g), .int (nI n7)])), (rp, .inl (cP, 664, .inl P7)), (rq, .inl (cM, 664, .inl M7)), (ta, .inr (2, [.ref tb, .ref tr, .int (nI k1), .int o6, .int z6])), (tb, .inl (cB, 16, .inl B7)), (tr, .inl (cR, 16, .inl R7)), (qa, .inr (2, [.ref qb, .ref qr, .int k8, .int o8, .int z8])), (qb, .inl (cE, 16, .inl B8)), (qr, .inl (cF, 16, .inl R8))] := hD
            rw [eo6, ez6] at hP hD
            refine lv_iload hx hb dX1_descend_138 (lv_at hl 2 rfl) ?_
            refine lv_istore_n (lv' := [(2, .int (ks_on p9)), (7, .int r7), (6, .int (nI k1)), (5, .int (ks_on p9)), (4, .int r4), (0, .ref sa), (1, .int (nI d)), (3, .int (nI rd))]) hx hb dX1_descend_140 rfl hl (by decide) rfl (fun ls hl => ?_)
            refine lv_iinc (v := nI (rd + 1)) (lv' := [(3, .int (nI (rd + 1))), (2, .int (ks_on p9)), (7, .int r7), (6, .int (nI k1)), (5, .int (ks_on p9)), (4, .int r4), (0, .ref sa), (1, .int (nI d))]) hx hb dX1_descend_141 hl (k := 7) rfl (nI_1 _) (by decide) rfl (fun ls hl => ?_)
            refine lv_goto (tgt := 4) hx hb dX1_descend_144 (by decide) ?_
            exact ih (rd + 1, P7, M7, n7, B7, R7, k1, o1, z1, B8, R8, k8, o8, z8, ks_on p9) _ _ _ ⟨by have := hk1; have := i8.round i5; omega, by omega, s1, g1.tr s2, j5, j6, j7, j8, hdk1, hP, hD, hS, lv_sub hl [6, 7, 1, 0] rfl⟩
        · -- 93: goes on
          have e93 : ks_on p9 = rf := c93
          refine lv_iconst (v := 1) hx hb dX1_descend_96 (by decide) ?_
          refine lv_goto (tgt := 101) hx hb dX1_descend_97 (by decide) ?_
          refine lv_iconst (v := 0) hx hb dX1_descend_101 (by decide) ?_
          refine ks_callvV (As := [.int (ks_on p9), .int 1, .int 0]) (rest := []) (wr := [(sa, .inr (1, [.int (nI N), .ref ra, .ref ta, .ref qa, .int lap])), (ra, .inr (0, [.ref rp, .ref rq, .int (nI g), .int (nI na)])), (rp, .inl (cP, 664, .inl Pa)), (rq, .inl (cM, 664, .inl Ma)), (qa, .inr (2, [.ref qb, .ref qr, .int kx, .int ox, .int zx])), (qb, .inl (cE, 16, .inl Bx)), (qr, .inl (cF, 16, .inl Rx))]) (wz := fun _ => [(sa, .inr (1, [.int (nI N), .ref ra, .ref ta, .ref qa, .int lap])), (ra, .inr (0, [.ref rp, .ref rq, .int (nI g), .int (nI na)])), (rp, .inl (cP, 664, .inl Pa)), (rq, .inl (cM, 664, .inl Ma)), (ta, .inr (2, [.ref tb, .ref tr, .int (nI (k1 + 1)), .int (if true = true then o1 ||| ks_on p9 else o1), .int (if true = true then z1 else z1 ||| ks_on p9)])), (tb, .inl (cB, 16, .inl (upd B1 k1 (ks_on p9)))), (tr, .inl (cR, 16, .inl (upd R1 k1 0))), (qa, .inr (2, [.ref qb, .ref qr, .int kx, .int ox, .int zx])), (qb, .inl (cE, 16, .inl Bx)), (qr, .inl (cF, 16, .inl Rx))]) ⟨hx, hb, hml, hown, hts⟩ (ks_assign l dC dI ta tb tr cB cR B1 R1 k1 o1 z1 (ks_on p9) 0 true (by omega)) (cwV 3 hts gX1_descend_X2_assign rfl rfl rfl (by decide +kernel) ⟨(by show 1 ≤ 3 + e9; omega), (by show 23 ≤ 73 + 27 * e9; omega)⟩) hK hP hD hS hA hNW [4, 5, 6] [0, 1, 2, 3, 7, 8, 9] [2, 3] [0, 1, 2, 3, 7, 8, 9, 4, 5, 6] rfl rfl rfl rfl (by decide) (by decide) (by decide) (ci := 2) (q0 := 0) rfl rfl rfl (fun _ => rfl) (fun _ => rfl) (by decide) rfl hl.1 rfl (Nat.le_of_ble_eq_true rfl) dX1_descend_102 ⟨Nat.le_of_ble_eq_true rfl, Nat.le_of_ble_eq_true rfl⟩ (fun u9 H locs hw9 hK9 hP hD hS => ?_)
          have hP : va_P (dC, dI) ksCl [(sa, .inr (1, [.int (nI N), .ref ra, .ref ta, .ref qa, .int lap])), (ra, .inr (0, [.ref rp, .ref rq, .int (nI g), .int (nI na)])), (rp, .inl (cP, 664, .inl Pa)), (rq, .inl (cM, 664, .inl Ma)), (ta, .inr (2, [.ref tb, .ref tr, .int (nI (k1 + 1)), .int (if true = true then o1 ||| ks_on p9 else o1), .int (if true = true then z1 else z1 ||| ks_on p9)])), (tb, .inl (cB, 16, .inl (upd B1 k1 (ks_on p9)))), (tr, .inl (cR, 16, .inl (upd R1 k1 0))), (qa, .inr (2, [.ref qb, .ref qr, .int kx, .int ox, .int zx])), (qb, .inl (cE, 16, .inl Bx)), (qr, .inl (cF, 16, .inl Rx))] H := hP
          have hD : va_D A [(sa, .inr (1, [.int (nI N), .ref ra, .ref ta, .ref qa, .int lap])), (ra, .inr (0, [.ref rp, .ref rq, .int (nI g), .int (nI na)])), (rp, .inl (cP, 664, .inl Pa)), (rq, .inl (cM, 664, .inl Ma)), (ta, .inr (2, [.ref tb, .ref tr, .int (nI (k1 + 1)), .int (if true = true then o1 ||| ks_on p9 else o1), .int (if true = true then z1 else z1 ||| ks_on p9)])), (tb, .inl (cB, 16, .inl (upd B1 k1 (ks_on p9)))), (tr, .inl (cR, 16, .inl (upd R1 k1 0))), (qa, .inr (2, [.ref qb, .ref qr, .int kx, .int ox, .int zx])), (qb, .inl (cE, 16, .inl Bx)), (qr, .inl (cF, 16, .inl Rx))] := hD
          refine lv_aload_n hx hb dX1_descend_105 rfl (lv_at hl 3 rfl) ?_
          refine lv_iload_n hx hb dX1_descend_106 rfl (lv_at hl 4 rfl) ?_
          refine lv_iconst (v := 1) hx hb dX1_descend_107 (by decide) ?_
          refine lv_iadd hx hb dX1_descend_108 ?_
          obtain ⟨e8, he8⟩ : ∃ e8, e9 = e8 + 1 := ⟨e9 - 1, by omega⟩
          have hR2 := j1.assign hN hp9 hf9 true 0 (Or.inl rfl)
          refine ks_top (y := nI (d + 1)) (nI_1 d) ?_
          refine ks_calliV (As := [.int (nI (d + 1))]) (rest := []) (wr := []) (wz := fun u => [(sa, .inr (1, [.int (nI N), .ref ra, .ref ta, .ref qa, .int lap])), (ra, .inr (0, [.ref rp, .ref rq, .int (nI g), .int (nI u.2.2.1)])), (rp, .inl (cP, 664, .inl u.1)), (rq, .inl (cM, 664, .inl u.2.1)), (ta, .inr (2, [.ref tb, .ref tr, .int (nI u.2.2.2.2.2.1), .int u.2.2.2.2.2.2.1, .int u.2.2.2.2.2.2.2.1])), (tb, .inl (cB, 16, .inl u.2.2.2.1)), (tr, .inl (cR, 16, .inl u.2.2.2.2.1)), (qa, .inr (2, [.ref qb, .ref qr, .int u.2.2.2.2.2.2.2.2.2.2.1, .int u.2.2.2.2.2.2.2.2.2.2.2.1, .int u.2.2.2.2.2.2.2.2.2.2.2.2])), (qb, .inl (cE, 16, .inl u.2.2.2.2.2.2.2.2.1)), (qr, .inl (cF, 16, .inl u.2.2.2.2.2.2.2.2.2.1))]) ⟨hx, hb, hml, hown, hts⟩ (IH e8 he8 sa ta tb tr cB cR qa qb qr cE cF ra rp rq cP cM N lap Pa Ma g na (upd B1 k1 (ks_on p9)) (upd R1 k1 0) (k1 + 1) (if true = true then o1 ||| ks_on p9 else o1) (if true = true then z1 else z1 ||| ks_on p9) Bx Rx kx ox zx (d + 1) hN hg i3 hR2 (by omega) (by omega)) (cwV 1 hts gX1_descend_X1_descend rfl rfl rfl (by decide +kernel) ⟨by rw [he8]; exact Nat.le_refl _, by rw [he8]; show 8 + (8 + 11) + (73 + 27 * e8) ≤ 73 + 27 * (e8 + 1); omega⟩) hK hP hD hS hA hNW [0, 1, 2, 3, 4, 5, 6, 7, 8, 9] [] [0, 1, 2, 3, 4, 5] [0, 1, 2, 3, 4, 5, 6, 7, 8, 9] rfl rfl rfl rfl (by decide) (by decide) (by decide) (ci := 1) (q0 := 0) rfl rfl rfl (fun _ => rfl) (fun _ => rfl) (by decide) rfl hl.1 rfl (Nat.le_of_ble_eq_true rfl) dX1_descend_109 ⟨Nat.le_of_ble_eq_true rfl, Nat.le_of_ble_eq_true rfl⟩ (fun r7 u9 H locs hw9 hK9 hP hD hS => ?_)
          obtain ⟨P7, M7, n7, B7, R7, k7, o7, z7, B8, R8, k8, o8, z8⟩ := u9
          obtain ⟨s1, s2, s3, s4, s5⟩ := hw9
          have s5 := ks_L.ext (i4.low hW.1) s5
          have g1 := i4
          have x4 := (ks_X.assign (B := B1) (Rs := R1) (k := k1) (o := o1) (z := z1) (ks_on p9) 0 true).tr s4
          have hP : va_P (dC, dI) ksCl [(sa, .inr (1, [.int (nI N), .ref ra, .ref ta, .ref qa, .int lap])), (ra, .inr (0, [.ref rp, .ref rq, .int (nI g), .int (nI n7)])), (rp, .inl (cP, 664, .inl P7)), (rq, .inl (cM, 664, .inl M7)), (ta, .inr (2, [.ref tb, .ref tr, .int (nI k7), .int o7, .int z7])), (tb, .inl (cB, 16, .inl B7)), (tr, .inl (cR, 16, .inl R7)), (qa, .inr (2, [.ref qb, .ref qr, .int k8, .int o8, .int z8])), (qb, .inl (cE, 16, .inl B8)), (qr, .inl (cF, 16, .inl R8))] H := hP
          have hD : va_D A [(sa, .inr (1, [.int (nI N), .ref ra, .ref ta, .ref qa, .int lap])), (ra, .inr (0, [.ref rp, .ref rq, .int (nI g), .int (nI n7)])), (rp, .inl (cP, 664, .inl P7)), (rq, .inl (cM, 664, .inl M7)), (ta, .inr (2, [.ref tb, .ref tr, .int (nI k7), .int o7, .int z7])), (tb, .inl (cB, 16, .inl B7)), (tr, .inl (cR, 16, .inl R7)), (qa, .inr (2, [.ref qb, .ref qr, .int k8, .int o8, .int z8])), (qb, .inl (cE, 16, .inl B8)), (qr, .inl (cF, 16, .inl R8))] := hD
          refine lv_istore (lv' := [(7, .int r7), (6, .int (nI k1)), (5, .int (ks_on p9)), (4, .int r4), (0, .ref sa), (1, .int (nI d)), (2, .int rf), (3, .int (nI rd))]) hx hb dX1_descend_112 hl (by decide) rfl (fun ls hl => ?_)
          refine lv_iload hx hb dX1_descend_114 (lv_at hl 0 rfl) ?_
          refine lv_iconst (v := -1) hx hb dX1_descend_116 (by decide) ?_
          refine lv_icmp_ne (tgt := 126) hx hb dX1_descend_117 (by decide) (fun c117 => ?_) (fun c117 => ?_)
          · -- 117: jumps
            have hLr := (i7.tr (ks_eqv.ext (i4.low hW.1) (hpp.eqv i3))).L (ks_L.high hN hp9 (ks_rf.high hN i8 j2 hp9 e93) s5)
            refine lv_iload hx hb dX1_descend_126 (lv_at hl 0 rfl) ?_
            have hP9 : va_P (dC, dI) ksCl [(sa, .inr (1, [.int (nI N), .ref ra, .ref ta, .ref qa, .int lap])), (ra, .inr (0, [.ref rp, .ref rq, .int (nI g), .int (nI n7)])), (rp, .inl (cP, 664, .inl P7)), (rq, .inl (cM, 664, .inl M7)), (ta, .inr (2, [.ref tb, .ref tr, .int (nI k7), .int o7, .int z7])), (tb, .inl (cB, 16, .inl B7)), (tr, .inl (cR, 16, .inl R7)), (qa, .inr (2, [.ref qb, .ref qr, .int k8, .int o8, .int z8])), (qb, .inl (cE, 16, .inl B8)), (qr, .inl (cF, 16, .inl R8))] _ := hP
            have hD9 : va_D A [(sa, .inr (1, [.int (nI N), .ref ra, .ref ta, .ref qa, .int lap])), (ra, .inr (0, [.ref rp, .ref rq, .int (nI g), .int (nI n7)])), (rp, .inl (cP, 664, .inl P7)), (rq, .inl (cM, 664, .inl M7)), (ta, .inr (2, [.ref tb, .ref tr, .int (nI k7), .int o7, .int z7])), (tb, .inl (cB, 16, .inl B7)), (tr, .inl (cR, 16, .inl R7)), (qa, .inr (2, [.ref qb, .ref qr, .int k8, .int o8, .int z8])), (qb, .inl (cE, 16, .inl B8)), (qr, .inl (cF, 16, .inl R8))] := hD
            have hK9 : va_K (dC, dI) ksCl [(cP, .int), (cM, .int), (cB, .int), (cR, .int), (cE, .int), (cF, .int)] s := hK
            exact W.iret (v := r7) hx hb hr (fun t ht hW9 => ⟨⟨r7, (P7, M7, n7, B7, R7, k7, o7, z7, B8, R8, k8, o8, z8), rfl, ⟨s1, i4.tr s2, s3, (i6.tr j2).tr x4, hLr⟩, by rw [ht]; exact hP9, va_K.moved hW9.alike hK9, hD9⟩, hS.F ht⟩) hS.2.2 dX1_descend_128
          · -- 117: goes on
            have hLr := (i7.tr (ks_eqv.ext (i4.low hW.1) (hpp.eqv i3))).L (ks_L.high hN hp9 (ks_rf.high hN i8 j2 hp9 e93) s5)
            refine lv_iload hx hb dX1_descend_120 (lv_at hl 2 rfl) ?_
            refine lv_iload_n hx hb dX1_descend_122 rfl (lv_at hl 6 rfl) ?_
            refine lv_icmp_ne (tgt := 129) hx hb dX1_descend_123 (by decide) (fun c123 => absurd e93 c123) (fun c123 => ?_)
            refine lv_iload hx hb dX1_descend_126 (lv_at hl 0 rfl) ?_
            have hP9 : va_P (dC, dI) ksCl [(sa, .inr (1, [.int (nI N), .ref ra, .ref ta, .ref qa, .int lap])), (ra, .inr (0, [.ref rp, .ref rq, .int (nI g), .int (nI n7)])), (rp, .inl (cP, 664, .inl P7)), (rq, .inl (cM, 664, .inl M7)), (ta, .inr (2, [.ref tb, .ref tr, .int (nI k7), .int o7, .int z7])), (tb, .inl (cB, 16, .inl B7)), (tr, .inl (cR, 16, .inl R7)), (qa, .inr (2, [.ref qb, .ref qr, .int k8, .int o8, .int z8])), (qb, .inl (cE, 16, .inl B8)), (qr, .inl (cF, 16, .inl R8))] _ := hP
            have hD9 : va_D A [(sa, .inr (1, [.int (nI N), .ref ra, .ref ta, .ref qa, .int lap])), (ra, .inr (0, [.ref rp, .ref rq, .int (nI g), .int (nI n7)])), (rp, .inl (cP, 664, .inl P7)), (rq, .inl (cM, 664, .inl M7)), (ta, .inr (2, [.ref tb, .ref tr, .int (nI k7), .int o7, .int z7])), (tb, .inl (cB, 16, .inl B7)), (tr, .inl (cR, 16, .inl R7)), (qa, .inr (2, [.ref qb, .ref qr, .int k8, .int o8, .int z8])), (qb, .inl (cE, 16, .inl B8)), (qr, .inl (cF, 16, .inl R8))] := hD
            have hK9 : va_K (dC, dI) ksCl [(cP, .int), (cM, .int), (cB, .int), (cR, .int), (cE, .int), (cF, .int)] s := hK
            exact W.iret (v := r7) hx hb hr (fun t ht hW9 => ⟨⟨r7, (P7, M7, n7, B7, R7, k7, o7, z7, B8, R8, k8, o8, z8), rfl, ⟨s1, i4.tr s2, s3, (i6.tr j2).tr x4, hLr⟩, by rw [ht]; exact hP9, va_K.moved hW9.alike hK9, hD9⟩, hS.F ht⟩) hS.2.2 dX1_descend_128
      · -- 54: goes on
        have hall : ∀ q, q < N → ¬ ks_fr o1 z1 q := by
          rcases hff with q | ⟨p, q1, q2, -⟩
          · exact q.2
          · exact absurd (q2.symm.trans c54) (ks_on_ne0 (by omega))
        refine lv_aload_n hx hb dX1_descend_57 rfl (lv_at hl 2 rfl) ?_
        refine va_get (D := (dC, dI)) (ci := 1) (v := .ref ta) (C := RX1) (T := TX1) (N := 5) hx hb hts hiX1 hown hK hP 0 rfl rfl 2 (by decide) f22 (fun _ h9 => h9) rfl dX1_descend_58 ?_
        refine va_getN (D := (dC, dI)) (ci := 2) (v := .int o1) (C := RX2) (T := TX2) (N := 5) hx hb hts hiX2 hown hK hP 4 rfl rfl 3 (by decide) f53 (fun _ h9 => h9) rfl dX1_descend_61 ?_
        have hP9 : va_P (dC, dI) ksCl [(sa, .inr (1, [.int (nI N), .ref ra, .ref ta, .ref qa, .int lap])), (ra, .inr (0, [.ref rp, .ref rq, .int (nI g), .int (nI na)])), (rp, .inl (cP, 664, .inl Pa)), (rq, .inl (cM, 664, .inl Ma)), (ta, .inr (2, [.ref tb, .ref tr, .int (nI k1), .int o1, .int z1])), (tb, .inl (cB, 16, .inl B1)), (tr, .inl (cR, 16, .inl R1)), (qa, .inr (2, [.ref qb, .ref qr, .int kx, .int ox, .int zx])), (qb, .inl (cE, 16, .inl Bx)), (qr, .inl (cF, 16, .inl Rx))] _ := hP
        have hD9 : va_D A [(sa, .inr (1, [.int (nI N), .ref ra, .ref ta, .ref qa, .int lap])), (ra, .inr (0, [.ref rp, .ref rq, .int (nI g), .int (nI na)])), (rp, .inl (cP, 664, .inl Pa)), (rq, .inl (cM, 664, .inl Ma)), (ta, .inr (2, [.ref tb, .ref tr, .int (nI k1), .int o1, .int z1])), (tb, .inl (cB, 16, .inl B1)), (tr, .inl (cR, 16, .inl R1)), (qa, .inr (2, [.ref qb, .ref qr, .int kx, .int ox, .int zx])), (qb, .inl (cE, 16, .inl Bx)), (qr, .inl (cF, 16, .inl Rx))] := hD
        have hK9 : va_K (dC, dI) ksCl [(cP, .int), (cM, .int), (cB, .int), (cR, .int), (cE, .int), (cF, .int)] s := hK
        exact W.iret (v := o1) hx hb hr (fun t ht hW9 => ⟨⟨o1, (Pa, Ma, na, B1, R1, k1, o1, z1, Bx, Rx, kx, ox, zx), rfl, ⟨i3, i4, j1, i6.tr j2, (i7.tr (ks_eqv.ext (i4.low hW.1) (hpp.eqv i3))).L (ks_L.ext (i4.low hW.1) (ks_L.full hN j1 i3 hall hfix))⟩, by rw [ht]; exact hP9, va_K.moved hW9.alike hK9, hD9⟩, hS.F ht⟩) hS.2.2 dX1_descend_64
    · -- 28: goes on
      obtain ⟨c0, hc0, er, hF0⟩ : ∃ c0, c0 < na ∧ r4 = (Pa c0 ||| Ma c0) ∧ ks_F (Pa c0) (Ma c0) o1 z1 := by
        rcases j4 with q | q
        · exact absurd q.1 c28
        · exact q.2
      subst er
      refine lv_aload_n hx hb dX1_descend_31 rfl (lv_at hl 1 rfl) ?_
      refine lv_iload hx hb dX1_descend_32 (lv_at hl 0 rfl) ?_
      refine ks_callvV (As := [.int (Pa c0 ||| Ma c0)]) (rest := []) (wr := []) (wz := fun u => [(sa, .inr (1, [.int (nI N), .ref ra, .ref ta, .ref qa, .int lap])), (ra, .inr (0, [.ref rp, .ref rq, .int (nI g), .int (nI u.2.2.1)])), (rp, .inl (cP, 664, .inl u.1)), (rq, .inl (cM, 664, .inl u.2.1)), (ta, .inr (2, [.ref tb, .ref tr, .int (nI k1), .int o1, .int z1])), (tb, .inl (cB, 16, .inl B1)), (tr, .inl (cR, 16, .inl R1)), (qa, .inr (2, [.ref qb, .ref qr, .int u.2.2.2.2.2.1, .int u.2.2.2.2.2.2.1, .int u.2.2.2.2.2.2.2])), (qb, .inl (cE, 16, .inl u.2.2.2.1)), (qr, .inl (cF, 16, .inl u.2.2.2.2.1))]) ⟨hx, hb, hml, hown, hts⟩ (ks_learn l dC dI sa ta tb tr cB cR qa qb qr cE cF ra rp rq cP cM N lap Pa Ma g na B1 R1 k1 o1 z1 Bx Rx kx ox zx c0 hN hg i3 j1 hc0 hF0) (cwV 1 hts gX1_descend_X1_learn rfl rfl rfl (by decide +kernel) ⟨(by show 3 ≤ 3 + e9; omega), (by show 73 ≤ 73 + 27 * e9; omega)⟩) hK hP hD hS hA hNW [0, 1, 2, 3, 4, 5, 6, 7, 8, 9] [] [0, 1, 2, 3, 4, 5] [0, 1, 2, 3, 4, 5, 6, 7, 8, 9] rfl rfl rfl rfl (by decide) (by decide) (by decide) (ci := 1) (q0 := 0) rfl rfl rfl (fun _ => rfl) (fun _ => rfl) (by decide) rfl hl.1 rfl (Nat.le_of_ble_eq_true rfl) dX1_descend_34 ⟨Nat.le_of_ble_eq_true rfl, Nat.le_of_ble_eq_true rfl⟩ (fun u9 H locs hw9 hK9 hP hD hS => ?_)
      obtain ⟨P5, M5, n5, Bv, Rv, kv, ov, zv⟩ := u9
      obtain ⟨t1, t2⟩ := hw9
      have hP : va_P (dC, dI) ksCl [(sa, .inr (1, [.int (nI N), .ref ra, .ref ta, .ref qa, .int lap])), (ra, .inr (0, [.ref rp, .ref rq, .int (nI g), .int (nI n5)])), (rp, .inl (cP, 664, .inl P5)), (rq, .inl (cM, 664, .inl M5)), (ta, .inr (2, [.ref tb, .ref tr, .int (nI k1), .int o1, .int z1])), (tb, .inl (cB, 16, .inl B1)), (tr, .inl (cR, 16, .inl R1)), (qa, .inr (2, [.ref qb, .ref qr, .int kv, .int ov, .int zv])), (qb, .inl (cE, 16, .inl Bv)), (qr, .inl (cF, 16, .inl Rv))] H := hP
      have hD : va_D A [(sa, .inr (1, [.int (nI N), .ref ra, .ref ta, .ref qa, .int lap])), (ra, .inr (0, [.ref rp, .ref rq, .int (nI g), .int (nI n5)])), (rp, .inl (cP, 664, .inl P5)), (rq, .inl (cM, 664, .inl M5)), (ta, .inr (2, [.ref tb, .ref tr, .int (nI k1), .int o1, .int z1])), (tb, .inl (cB, 16, .inl B1)), (tr, .inl (cR, 16, .inl R1)), (qa, .inr (2, [.ref qb, .ref qr, .int kv, .int ov, .int zv])), (qb, .inl (cE, 16, .inl Bv)), (qr, .inl (cF, 16, .inl Rv))] := hD
      refine lv_iconst (v := -1) hx hb dX1_descend_37 (by decide) ?_
      have hP9 : va_P (dC, dI) ksCl [(sa, .inr (1, [.int (nI N), .ref ra, .ref ta, .ref qa, .int lap])), (ra, .inr (0, [.ref rp, .ref rq, .int (nI g), .int (nI n5)])), (rp, .inl (cP, 664, .inl P5)), (rq, .inl (cM, 664, .inl M5)), (ta, .inr (2, [.ref tb, .ref tr, .int (nI k1), .int o1, .int z1])), (tb, .inl (cB, 16, .inl B1)), (tr, .inl (cR, 16, .inl R1)), (qa, .inr (2, [.ref qb, .ref qr, .int kv, .int ov, .int zv])), (qb, .inl (cE, 16, .inl Bv)), (qr, .inl (cF, 16, .inl Rv))] _ := hP
      have hD9 : va_D A [(sa, .inr (1, [.int (nI N), .ref ra, .ref ta, .ref qa, .int lap])), (ra, .inr (0, [.ref rp, .ref rq, .int (nI g), .int (nI n5)])), (rp, .inl (cP, 664, .inl P5)), (rq, .inl (cM, 664, .inl M5)), (ta, .inr (2, [.ref tb, .ref tr, .int (nI k1), .int o1, .int z1])), (tb, .inl (cB, 16, .inl B1)), (tr, .inl (cR, 16, .inl R1)), (qa, .inr (2, [.ref qb, .ref qr, .int kv, .int ov, .int zv])), (qb, .inl (cE, 16, .inl Bv)), (qr, .inl (cF, 16, .inl Rv))] := hD
      have hK9 : va_K (dC, dI) ksCl [(cP, .int), (cM, .int), (cB, .int), (cR, .int), (cE, .int), (cF, .int)] s := hK
      exact W.iret (v := -1) hx hb hr (fun t ht hW9 => ⟨⟨-1, (P5, M5, n5, B1, R1, k1, o1, z1, Bv, Rv, kv, ov, zv), rfl, ⟨t1, i4.tr t2, t2.R j1, i6.tr j2, (i7.tr (ks_eqv.ext (i4.low hW.1) (hpp.eqv i3))).L (ks_L.ext (i4.low hW.1) (ks_L.conflict i3 hc0 hF0))⟩, by rw [ht]; exact hP9, va_K.moved hW9.alike hK9, hD9⟩, hS.F ht⟩) hS.2.2 dX1_descend_38
  · intro x H locs ls h9
    obtain ⟨i1, i2, i3, i4, i5, i6, i7, i8, i9, -, -, -, -⟩ := h9
    try dsimp only at i1 i2
    omega
end
section
theorem ks_descend (l : Launch) (dC : Nat → ClassId) (dI : Nat → Nat → Nat) : ∀ e9, ks_Dsc l dC dI e9 := by
  intro e9
  induction e9 with
  | zero => exact ks_Dsc_step l dC dI 0 (fun e8 h => absurd h (by omega))
  | succ e9 ih => exact ks_Dsc_step l dC dI (e9 + 1) (fun e8 h => by have : e8 = e9 := by omega
                                                                     rw [this]; exact ih)
end
section
set_option maxHeartbeats 4000000 in
set_option maxRecDepth 100000 in
/-- firstModel -/
theorem ks_firstModel (l : Launch) (dC : Nat → ClassId) (dI : Nat → Nat → Nat) (sa : Nat) (ta tb tr : Nat) (cB cR : ClassId) (qa qb qr : Nat) (cE cF : ClassId) (ra rp rq : Nat) (cP cM : ClassId) (N : Nat) (lap : Int32) (P M : Nat → Int32) (g nr : Nat) (Bt Rt : Nat → Int32) (kt ot zt : Int32) (Bq Rq : Nat → Int32) (kq oq zq : Int32) (wo wz : Int32) (hN : N ≤ 16) (hg : g ≤ 600) (hW : ks_W N P M g nr) (hlN : ks_in N wo wz) : ks_Mi l yX1_firstModel wsX1_firstModel ({ frames := 20, cells := 0, slots := 0, locals := 532 }) (dC, dI) [.ref sa, .int wo, .int wz] [(sa, .inr (1, [.int (nI N), .ref ra, .ref ta, .ref qa, .int lap])), (ra, .inr (0, [.ref rp, .ref rq, .int (nI g), .int (nI nr)])), (rp, .inl (cP, 664, .inl P)), (rq, .inl (cM, 664, .inl M)), (ta, .inr (2, [.ref tb, .ref tr, .int kt, .int ot, .int zt])), (tb, .inl (cB, 16, .inl Bt)), (tr, .inl (cR, 16, .inl Rt)), (qa, .inr (2, [.ref qb, .ref qr, .int kq, .int oq, .int zq])), (qb, .inl (cE, 16, .inl Bq)), (qr, .inl (cF, 16, .inl Rq))] [(cP, .int), (cM, .int), (cB, .int), (cR, .int), (cE, .int), (cF, .int)] 0 0 (S := (Nat → Int32) × (Nat → Int32) × Nat × (Nat → Int32) × (Nat → Int32) × Int32 × Int32 × Int32 × (Nat → Int32) × (Nat → Int32) × Int32 × Int32 × Int32) (fun r u => ks_W N u.1 u.2.1 g u.2.2.1 ∧ (∀ c, c < g → u.1 c = P c ∧ u.2.1 c = M c) ∧ ks_L N (ks_Q P M g wo wz) r) (fun u => [(sa, .inr (1, [.int (nI N), .ref ra, .ref ta, .ref qa, .int lap])), (ra, .inr (0, [.ref rp, .ref rq, .int (nI g), .int (nI u.2.2.1)])), (rp, .inl (cP, 664, .inl u.1)), (rq, .inl (cM, 664, .inl u.2.1)), (ta, .inr (2, [.ref tb, .ref tr, .int u.2.2.2.2.2.1, .int u.2.2.2.2.2.2.1, .int u.2.2.2.2.2.2.2.1])), (tb, .inl (cB, 16, .inl u.2.2.2.1)), (tr, .inl (cR, 16, .inl u.2.2.2.2.1)), (qa, .inr (2, [.ref qb, .ref qr, .int u.2.2.2.2.2.2.2.2.2.2.1, .int u.2.2.2.2.2.2.2.2.2.2.2.1, .int u.2.2.2.2.2.2.2.2.2.2.2.2])), (qb, .inl (cE, 16, .inl u.2.2.2.2.2.2.2.2.1)), (qr, .inl (cF, 16, .inl u.2.2.2.2.2.2.2.2.2.1))]) (fun u => [(cP, .int), (cM, .int), (cB, .int), (cR, .int), (cE, .int), (cF, .int)]) := by
  intro sz
  refine Met.ofW (cc := cX1_firstModel) (maxL := 3) (ret := (some .int)) (by decide) rfl ?_
  intro p e s m args below meth c s₁ B9 hml hv
  obtain ⟨rfl, hsz, hP, hK, hD0, hNW⟩ := hv
  have hx := B9.exec
  have hb := B9.bytes
  have hr := B9.returns
  have hts := atoms_spec (ws := wsX1_firstModel) B9.pre
  have hown : s.vm.findClass RX1 = some m.cls := findClass_of_methodNamed B9.named
  have hlocks := B9.notSynchronized
  subst hsz
  have hD := hD0.self (sz := s.heap.size)
  generalize hAe : va_A [(sa, .inr (1, [.int (nI N), .ref ra, .ref ta, .ref qa, .int lap])), (ra, .inr (0, [.ref rp, .ref rq, .int (nI g), .int (nI nr)])), (rp, .inl (cP, 664, .inl P)), (rq, .inl (cM, 664, .inl M)), (ta, .inr (2, [.ref tb, .ref tr, .int kt, .int ot, .int zt])), (tb, .inl (cB, 16, .inl Bt)), (tr, .inl (cR, 16, .inl Rt)), (qa, .inr (2, [.ref qb, .ref qr, .int kq, .int oq, .int zq])), (qb, .inl (cE, 16, .inl Bq)), (qr, .inl (cF, 16, .inl Rq))] s.heap.size = A at hD ⊢
  have hA : ∀ q : Nat, s.heap.size ≤ q → A q := fun q h => by rw [← hAe]; exact Or.inr h
  have hS : va_S A s.heap s.heap [] := va_S.rf
  have hiX1 : ∀ w ∈ u_ws RX1 TX1 5, w ∈ wsX1_firstModel := by decide +kernel
  have f15 := hts (.fieldLink RX1 15 "LessonSolver$Search" "row" "LLessonSolver$ClauseRow;") (by decide +kernel)
  have f22 := hts (.fieldLink RX1 22 "LessonSolver$Search" "trail" "LLessonSolver$Trail;") (by decide +kernel)
  have hl := lv_entry ([.ref sa, .int wo, .int wz]) (n := 3) (Nat.le_of_ble_eq_true rfl)
  rw [lg_entry_eq]
  generalize (lg_sl ([.ref sa, .int wo, .int wz]) ++ List.replicate (3 - (lg_sl ([.ref sa, .int wo, .int wz])).length) Slot.unset).toArray = ls at hl ⊢
  have hl : lv_has ls 3 [(0, .ref sa), (1, .int wo), (2, .int wz)] := hl
  refine lv_iload_n hx hb dX1_firstModel_0 rfl (lv_at hl 1 rfl) ?_
  refine lv_iload_n hx hb dX1_firstModel_1 rfl (lv_at hl 2 rfl) ?_
  refine lv_iand hx hb dX1_firstModel_2 ?_
  refine lv_if_eq (tgt := 8) hx hb dX1_firstModel_3 (by decide) (fun c3 => ?_) (fun c3 => ?_)
  · -- 3: jumps
    have hdj := ks_disj c3
    refine lv_aload_n hx hb dX1_firstModel_8 rfl (lv_at hl 0 rfl) ?_
    refine va_get (D := (dC, dI)) (ci := 1) (v := .ref ra) (C := RX1) (T := TX1) (N := 5) hx hb hts hiX1 hown hK hP 0 rfl rfl 1 (by decide) f15 (fun _ h9 => h9) rfl dX1_firstModel_9 ?_
    refine ks_callvV (As := []) (rest := []) (wr := [(sa, .inr (1, [.int (nI N), .ref ra, .ref ta, .ref qa, .int lap])), (rp, .inl (cP, 664, .inl P)), (rq, .inl (cM, 664, .inl M)), (ta, .inr (2, [.ref tb, .ref tr, .int kt, .int ot, .int zt])), (tb, .inl (cB, 16, .inl Bt)), (tr, .inl (cR, 16, .inl Rt)), (qa, .inr (2, [.ref qb, .ref qr, .int kq, .int oq, .int zq])), (qb, .inl (cE, 16, .inl Bq)), (qr, .inl (cF, 16, .inl Rq))]) (wz := fun u => [(sa, .inr (1, [.int (nI N), .ref ra, .ref ta, .ref qa, .int lap])), (ra, .inr (0, [.ref rp, .ref rq, .int (nI g), .int (nI u)])), (rp, .inl (cP, 664, .inl P)), (rq, .inl (cM, 664, .inl M)), (ta, .inr (2, [.ref tb, .ref tr, .int kt, .int ot, .int zt])), (tb, .inl (cB, 16, .inl Bt)), (tr, .inl (cR, 16, .inl Rt)), (qa, .inr (2, [.ref qb, .ref qr, .int kq, .int oq, .int zq])), (qb, .inl (cE, 16, .inl Bq)), (qr, .inl (cF, 16, .inl Rq))]) ⟨hx, hb, hml, hown, hts⟩ (ks_forget l dC dI ra rp rq g nr hW.1) (cwV 0 hts gX1_firstModel_X0_forgetLessonsIfMany rfl rfl rfl (by decide +kernel) ⟨Nat.le_of_ble_eq_true rfl, Nat.le_of_ble_eq_true rfl⟩) hK hP hD hS hA hNW [1] [0, 2, 3, 4, 5, 6, 7, 8, 9] [] [0, 9, 1, 2, 3, 4, 5, 6, 7, 8] rfl rfl rfl rfl (by decide) (by decide) (by decide) (ci := 0) (q0 := 0) rfl rfl rfl (fun _ => rfl) (fun _ => rfl) (by decide) rfl hl.1 rfl (Nat.le_of_ble_eq_true rfl) dX1_firstModel_12 ⟨Nat.le_of_ble_eq_true rfl, Nat.le_of_ble_eq_true rfl⟩ (fun n1 H locs hw9 hK9 hP hD hS => ?_)
    have hW1 : ks_W N P M g n1 := by
      rcases hw9 with q | q
      · rw [q]; exact hW
      · rw [q]; exact hW.forget
    have hP : va_P (dC, dI) ksCl [(sa, .inr (1, [.int (nI N), .ref ra, .ref ta, .ref qa, .int lap])), (ra, .inr (0, [.ref rp, .ref rq, .int (nI g), .int (nI n1)])), (rp, .inl (cP, 664, .inl P)), (rq, .inl (cM, 664, .inl M)), (ta, .inr (2, [.ref tb, .ref tr, .int kt, .int ot, .int zt])), (tb, .inl (cB, 16, .inl Bt)), (tr, .inl (cR, 16, .inl Rt)), (qa, .inr (2, [.ref qb, .ref qr, .int kq, .int oq, .int zq])), (qb, .inl (cE, 16, .inl Bq)), (qr, .inl (cF, 16, .inl Rq))] H := hP
    have hD : va_D A [(sa, .inr (1, [.int (nI N), .ref ra, .ref ta, .ref qa, .int lap])), (ra, .inr (0, [.ref rp, .ref rq, .int (nI g), .int (nI n1)])), (rp, .inl (cP, 664, .inl P)), (rq, .inl (cM, 664, .inl M)), (ta, .inr (2, [.ref tb, .ref tr, .int kt, .int ot, .int zt])), (tb, .inl (cB, 16, .inl Bt)), (tr, .inl (cR, 16, .inl Rt)), (qa, .inr (2, [.ref qb, .ref qr, .int kq, .int oq, .int zq])), (qb, .inl (cE, 16, .inl Bq)), (qr, .inl (cF, 16, .inl Rq))] := hD
    refine lv_aload_n hx hb dX1_firstModel_15 rfl (lv_at hl 0 rfl) ?_
    refine va_get (D := (dC, dI)) (ci := 1) (v := .ref ta) (C := RX1) (T := TX1) (N := 5) hx hb hts hiX1 hown hK hP 0 rfl rfl 2 (by decide) f22 (fun _ h9 => h9) rfl dX1_firstModel_16 ?_
    refine lv_iload_n hx hb dX1_firstModel_19 rfl (lv_at hl 1 rfl) ?_
    refine lv_iload_n hx hb dX1_firstModel_20 rfl (lv_at hl 2 rfl) ?_
    refine ks_callvV (As := [.int wo, .int wz]) (rest := []) (wr := [(sa, .inr (1, [.int (nI N), .ref ra, .ref ta, .ref qa, .int lap])), (ra, .inr (0, [.ref rp, .ref rq, .int (nI g), .int (nI n1)])), (rp, .inl (cP, 664, .inl P)), (rq, .inl (cM, 664, .inl M)), (qa, .inr (2, [.ref qb, .ref qr, .int kq, .int oq, .int zq])), (qb, .inl (cE, 16, .inl Bq)), (qr, .inl (cF, 16, .inl Rq))]) (wz := fun u => [(sa, .inr (1, [.int (nI N), .ref ra, .ref ta, .ref qa, .int lap])), (ra, .inr (0, [.ref rp, .ref rq, .int (nI g), .int (nI n1)])), (rp, .inl (cP, 664, .inl P)), (rq, .inl (cM, 664, .inl M)), (ta, .inr (2, [.ref tb, .ref tr, .int (nI u.2.2), .int wo, .int wz])), (tb, .inl (cB, 16, .inl u.1)), (tr, .inl (cR, 16, .inl u.2.1)), (qa, .inr (2, [.ref qb, .ref qr, .int kq, .int oq, .int zq])), (qb, .inl (cE, 16, .inl Bq)), (qr, .inl (cF, 16, .inl Rq))]) ⟨hx, hb, hml, hown, hts⟩ (ks_start l dC dI ta tb tr cB cR Bt Rt kt ot zt wo wz N P M n1 hN hdj hlN) (cwV 2 hts gX1_firstModel_X2_start rfl rfl rfl (by decide +kernel) ⟨Nat.le_of_ble_eq_true rfl, Nat.le_of_ble_eq_true rfl⟩) hK hP hD hS hA hNW [4, 5, 6] [0, 1, 2, 3, 7, 8, 9] [2, 3] [0, 1, 2, 3, 7, 8, 9, 4, 5, 6] rfl rfl rfl rfl (by decide) (by decide) (by decide) (ci := 2) (q0 := 0) rfl rfl rfl (fun _ => rfl) (fun _ => rfl) (by decide) rfl hl.1 rfl (Nat.le_of_ble_eq_true rfl) dX1_firstModel_21 ⟨Nat.le_of_ble_eq_true rfl, Nat.le_of_ble_eq_true rfl⟩ (fun u9 H locs hw9 hK9 hP hD hS => ?_)
    obtain ⟨Bs, Rz, kz⟩ := u9
    have hR1 : ks_R N P M n1 Bs Rz kz wo wz := hw9
    have hP : va_P (dC, dI) ksCl [(sa, .inr (1, [.int (nI N), .ref ra, .ref ta, .ref qa, .int lap])), (ra, .inr (0, [.ref rp, .ref rq, .int (nI g), .int (nI n1)])), (rp, .inl (cP, 664, .inl P)), (rq, .inl (cM, 664, .inl M)), (ta, .inr (2, [.ref tb, .ref tr, .int (nI kz), .int wo, .int wz])), (tb, .inl (cB, 16, .inl Bs)), (tr, .inl (cR, 16, .inl Rz)), (qa, .inr (2, [.ref qb, .ref qr, .int kq, .int oq, .int zq])), (qb, .inl (cE, 16, .inl Bq)), (qr, .inl (cF, 16, .inl Rq))] H := hP
    have hD : va_D A [(sa, .inr (1, [.int (nI N), .ref ra, .ref ta, .ref qa, .int lap])), (ra, .inr (0, [.ref rp, .ref rq, .int (nI g), .int (nI n1)])), (rp, .inl (cP, 664, .inl P)), (rq, .inl (cM, 664, .inl M)), (ta, .inr (2, [.ref tb, .ref tr, .int (nI kz), .int wo, .int wz])), (tb, .inl (cB, 16, .inl Bs)), (tr, .inl (cR, 16, .inl Rz)), (qa, .inr (2, [.ref qb, .ref qr, .int kq, .int oq, .int zq])), (qb, .inl (cE, 16, .inl Bq)), (qr, .inl (cF, 16, .inl Rq))] := hD
    refine lv_aload_n hx hb dX1_firstModel_24 rfl (lv_at hl 0 rfl) ?_
    refine lv_iconst (v := nI 0) hx hb dX1_firstModel_25 (by decide) ?_
    refine ks_calliV (As := [.int (nI 0)]) (rest := []) (wr := []) (wz := fun u => [(sa, .inr (1, [.int (nI N), .ref ra, .ref ta, .ref qa, .int lap])), (ra, .inr (0, [.ref rp, .ref rq, .int (nI g), .int (nI u.2.2.1)])), (rp, .inl (cP, 664, .inl u.1)), (rq, .inl (cM, 664, .inl u.2.1)), (ta, .inr (2, [.ref tb, .ref tr, .int (nI u.2.2.2.2.2.1), .int u.2.2.2.2.2.2.1, .int u.2.2.2.2.2.2.2.1])), (tb, .inl (cB, 16, .inl u.2.2.2.1)), (tr, .inl (cR, 16, .inl u.2.2.2.2.1)), (qa, .inr (2, [.ref qb, .ref qr, .int u.2.2.2.2.2.2.2.2.2.2.1, .int u.2.2.2.2.2.2.2.2.2.2.2.1, .int u.2.2.2.2.2.2.2.2.2.2.2.2])), (qb, .inl (cE, 16, .inl u.2.2.2.2.2.2.2.2.1)), (qr, .inl (cF, 16, .inl u.2.2.2.2.2.2.2.2.2.1))]) ⟨hx, hb, hml, hown, hts⟩ (ks_descend l dC dI 16 sa ta tb tr cB cR qa qb qr cE cF ra rp rq cP cM N lap P M g n1 Bs Rz kz wo wz Bq Rq kq oq zq 0 hN hg hW1 hR1 (Nat.zero_le _) (by omega)) (cwV 1 hts gX1_firstModel_X1_descend rfl rfl rfl (by decide +kernel) ⟨Nat.le_of_ble_eq_true rfl, Nat.le_of_ble_eq_true rfl⟩) hK hP hD hS hA hNW [0, 1, 2, 3, 4, 5, 6, 7, 8, 9] [] [0, 1, 2, 3, 4, 5] [0, 1, 2, 3, 4, 5, 6, 7, 8, 9] rfl rfl rfl rfl (by decide) (by decide) (by decide) (ci := 1) (q0 := 0) rfl rfl rfl (fun _ => rfl) (fun _ => rfl) (by decide) rfl hl.1 rfl (Nat.le_of_ble_eq_true rfl) dX1_firstModel_26 ⟨Nat.le_of_ble_eq_true rfl, Nat.le_of_ble_eq_true rfl⟩ (fun r7 u9 H locs hw9 hK9 hP hD hS => ?_)
    obtain ⟨P7, M7, n7, B7, R7, k7, o7, z7, B8, R8, k8, o8, z8⟩ := u9
    obtain ⟨s1, s2, s3, s4, s5⟩ := hw9
    have hP : va_P (dC, dI) ksCl [(sa, .inr (1, [.int (nI N), .ref ra, .ref ta, .ref qa, .int lap])), (ra, .inr (0, [.ref rp, .ref rq, .int (nI g), .int (nI n7)])), (rp, .inl (cP, 664, .inl P7)), (rq, .inl (cM, 664, .inl M7)), (ta, .inr (2, [.ref tb, .ref tr, .int (nI k7), .int o7, .int z7])), (tb, .inl (cB, 16, .inl B7)), (tr, .inl (cR, 16, .inl R7)), (qa, .inr (2, [.ref qb, .ref qr, .int k8, .int o8, .int z8])), (qb, .inl (cE, 16, .inl B8)), (qr, .inl (cF, 16, .inl R8))] H := hP
    have hD : va_D A [(sa, .inr (1, [.int (nI N), .ref ra, .ref ta, .ref qa, .int lap])), (ra, .inr (0, [.ref rp, .ref rq, .int (nI g), .int (nI n7)])), (rp, .inl (cP, 664, .inl P7)), (rq, .inl (cM, 664, .inl M7)), (ta, .inr (2, [.ref tb, .ref tr, .int (nI k7), .int o7, .int z7])), (tb, .inl (cB, 16, .inl B7)), (tr, .inl (cR, 16, .inl R7)), (qa, .inr (2, [.ref qb, .ref qr, .int k8, .int o8, .int z8])), (qb, .inl (cE, 16, .inl B8)), (qr, .inl (cF, 16, .inl R8))] := hD
    have hP9 : va_P (dC, dI) ksCl [(sa, .inr (1, [.int (nI N), .ref ra, .ref ta, .ref qa, .int lap])), (ra, .inr (0, [.ref rp, .ref rq, .int (nI g), .int (nI n7)])), (rp, .inl (cP, 664, .inl P7)), (rq, .inl (cM, 664, .inl M7)), (ta, .inr (2, [.ref tb, .ref tr, .int (nI k7), .int o7, .int z7])), (tb, .inl (cB, 16, .inl B7)), (tr, .inl (cR, 16, .inl R7)), (qa, .inr (2, [.ref qb, .ref qr, .int k8, .int o8, .int z8])), (qb, .inl (cE, 16, .inl B8)), (qr, .inl (cF, 16, .inl R8))] _ := hP
    have hD9 : va_D A [(sa, .inr (1, [.int (nI N), .ref ra, .ref ta, .ref qa, .int lap])), (ra, .inr (0, [.ref rp, .ref rq, .int (nI g), .int (nI n7)])), (rp, .inl (cP, 664, .inl P7)), (rq, .inl (cM, 664, .inl M7)), (ta, .inr (2, [.ref tb, .ref tr, .int (nI k7), .int o7, .int z7])), (tb, .inl (cB, 16, .inl B7)), (tr, .inl (cR, 16, .inl R7)), (qa, .inr (2, [.ref qb, .ref qr, .int k8, .int o8, .int z8])), (qb, .inl (cE, 16, .inl B8)), (qr, .inl (cF, 16, .inl R8))] := hD
    have hK9 : va_K (dC, dI) ksCl [(cP, .int), (cM, .int), (cB, .int), (cR, .int), (cE, .int), (cF, .int)] s := hK
    exact W.iret (v := r7) hx hb hr (fun t ht hW9 => ⟨⟨r7, (P7, M7, n7, B7, R7, nI k7, o7, z7, B8, R8, k8, o8, z8), rfl, ⟨s1, s2.low hW1.1, s5⟩, by rw [ht]; exact hP9, va_K.moved hW9.alike hK9, hD9⟩, hS.F ht⟩) hS.2.2 dX1_firstModel_29
  · -- 3: goes on
    refine lv_iconst (v := -1) hx hb dX1_firstModel_6 (by decide) ?_
    have hP9 : va_P (dC, dI) ksCl [(sa, .inr (1, [.int (nI N), .ref ra, .ref ta, .ref qa, .int lap])), (ra, .inr (0, [.ref rp, .ref rq, .int (nI g), .int (nI nr)])), (rp, .inl (cP, 664, .inl P)), (rq, .inl (cM, 664, .inl M)), (ta, .inr (2, [.ref tb, .ref tr, .int kt, .int ot, .int zt])), (tb, .inl (cB, 16, .inl Bt)), (tr, .inl (cR, 16, .inl Rt)), (qa, .inr (2, [.ref qb, .ref qr, .int kq, .int oq, .int zq])), (qb, .inl (cE, 16, .inl Bq)), (qr, .inl (cF, 16, .inl Rq))] _ := hP
    have hD9 : va_D A [(sa, .inr (1, [.int (nI N), .ref ra, .ref ta, .ref qa, .int lap])), (ra, .inr (0, [.ref rp, .ref rq, .int (nI g), .int (nI nr)])), (rp, .inl (cP, 664, .inl P)), (rq, .inl (cM, 664, .inl M)), (ta, .inr (2, [.ref tb, .ref tr, .int kt, .int ot, .int zt])), (tb, .inl (cB, 16, .inl Bt)), (tr, .inl (cR, 16, .inl Rt)), (qa, .inr (2, [.ref qb, .ref qr, .int kq, .int oq, .int zq])), (qb, .inl (cE, 16, .inl Bq)), (qr, .inl (cF, 16, .inl Rq))] := hD
    have hK9 : va_K (dC, dI) ksCl [(cP, .int), (cM, .int), (cB, .int), (cR, .int), (cE, .int), (cF, .int)] s := hK
    exact W.iret (v := -1) hx hb hr (fun t ht hW9 => ⟨⟨-1, (P, M, nr, Bt, Rt, kt, ot, zt, Bq, Rq, kq, oq, zq), rfl, ⟨hW, fun _ _ => ⟨rfl, rfl⟩, ks_L.clash c3⟩, by rw [ht]; exact hP9, va_K.moved hW9.alike hK9, hD9⟩, hS.F ht⟩) hS.2.2 dX1_firstModel_7
end
section
set_option maxHeartbeats 4000000 in
set_option maxRecDepth 100000 in
/-- isLiteral -/
theorem ks_isLiteral (l : Launch) (dC : Nat → ClassId) (dI : Nat → Nat → Nat) (xa ra sa aa : Nat) (N : Nat) (ac kc kl mp mm km : Int32) (x0 : Int32) (hN : N ≤ 16) : ks_Mi l yX3_isLiteral wsX3_isLiteral ({ frames := 0, cells := 0, slots := 0, locals := 0 }) (dC, dI) [.ref xa, .int x0] [(xa, .inr (3, [.int (nI N), .ref ra, .ref sa, .ref aa, .int ac, .int kc, .int kl, .int mp, .int mm, .int km]))] [] 0 0 (S := Unit) (fun r _ => (r = 1 ∧ ∃ v, ks_lit N x0 v) ∨ (r = 0 ∧ ¬ ∃ v, ks_lit N x0 v)) (fun _ => [(xa, .inr (3, [.int (nI N), .ref ra, .ref sa, .ref aa, .int ac, .int kc, .int kl, .int mp, .int mm, .int km]))]) (fun _ => []) := by
  intro sz
  refine Met.ofW (cc := cX3_isLiteral) (maxL := 2) (ret := (some .boolean)) (by decide) rfl ?_
  intro p e s m args below meth c s₁ B9 hml hv
  obtain ⟨rfl, hsz, hP, hK, hD0, hNW⟩ := hv
  have hx := B9.exec
  have hb := B9.bytes
  have hr := B9.returns
  have hts := atoms_spec (ws := wsX3_isLiteral) B9.pre
  have hown : s.vm.findClass RX3 = some m.cls := findClass_of_methodNamed B9.named
  have hlocks := B9.notSynchronized
  subst hsz
  have hD := hD0.self (sz := s.heap.size)
  generalize hAe : va_A [(xa, .inr (3, [.int (nI N), .ref ra, .ref sa, .ref aa, .int ac, .int kc, .int kl, .int mp, .int mm, .int km]))] s.heap.size = A at hD ⊢
  have hA : ∀ q : Nat, s.heap.size ≤ q → A q := fun q h => by rw [← hAe]; exact Or.inr h
  have hS : va_S A s.heap s.heap [] := va_S.rf
  have hiX3 : ∀ w ∈ u_ws RX3 TX3 10, w ∈ wsX3_isLiteral := by decide +kernel
  have f18 := hts (.fieldLink RX3 18 "LessonSolver" "variables" "I") (by decide +kernel)
  have hl := lv_entry ([.ref xa, .int x0]) (n := 2) (Nat.le_of_ble_eq_true rfl)
  rw [lg_entry_eq]
  generalize (lg_sl ([.ref xa, .int x0]) ++ List.replicate (2 - (lg_sl ([.ref xa, .int x0])).length) Slot.unset).toArray = ls at hl ⊢
  have hl : lv_has ls 2 [(0, .ref xa), (1, .int x0)] := hl
  refine lv_iload_n hx hb dX3_isLiteral_0 rfl (lv_at hl 1 rfl) ?_
  refine lv_if_eq (tgt := 25) hx hb dX3_isLiteral_1 (by decide) (fun c1 => ?_) (fun c1 => ?_)
  · -- 1: jumps
    have hz : ¬ ∃ v, ks_lit N x0 v := fun ⟨v, hv⟩ => hv.ne0 hN c1
    refine lv_iconst (v := 0) hx hb dX3_isLiteral_25 (by decide) ?_
    have hP9 : va_P (dC, dI) ksCl [(xa, .inr (3, [.int (nI N), .ref ra, .ref sa, .ref aa, .int ac, .int kc, .int kl, .int mp, .int mm, .int km]))] _ := hP
    have hD9 : va_D A [(xa, .inr (3, [.int (nI N), .ref ra, .ref sa, .ref aa, .int ac, .int kc, .int kl, .int mp, .int mm, .int km]))] := hD
    have hK9 : va_K (dC, dI) ksCl [] s := hK
    exact W.zret (v := 0) (ty := .boolean) hx hb hr (by decide) (fun t ht hW9 => ⟨⟨0, (), rfl, Or.inr ⟨rfl, hz⟩, by rw [ht]; exact hP9, va_K.moved hW9.alike hK9, hD9⟩, hS.F ht⟩) hS.2.2 dX3_isLiteral_26
  · -- 1: goes on
    refine lv_iload_n hx hb dX3_isLiteral_4 rfl (lv_at hl 1 rfl) ?_
    refine lv_aload_n hx hb dX3_isLiteral_5 rfl (lv_at hl 0 rfl) ?_
    refine va_get (D := (dC, dI)) (ci := 3) (v := .int (nI N)) (C := RX3) (T := TX3) (N := 10) hx hb hts hiX3 hown hK hP 0 rfl rfl 0 (by decide) f18 (fun _ h9 => h9) rfl dX3_isLiteral_6 ?_
    refine lv_ineg hx hb dX3_isLiteral_9 ?_
    refine lv_icmp_lt (tgt := 25) hx hb dX3_isLiteral_10 (by decide) (fun c10 => ?_) (fun c10 => ?_)
    · -- 10: jumps
      have hz : ¬ ∃ v, ks_lit N x0 v := fun ⟨v, hv⟩ => hv.lo hN c10
      refine lv_iconst (v := 0) hx hb dX3_isLiteral_25 (by decide) ?_
      have hP9 : va_P (dC, dI) ksCl [(xa, .inr (3, [.int (nI N), .ref ra, .ref sa, .ref aa, .int ac, .int kc, .int kl, .int mp, .int mm, .int km]))] _ := hP
      have hD9 : va_D A [(xa, .inr (3, [.int (nI N), .ref ra, .ref sa, .ref aa, .int ac, .int kc, .int kl, .int mp, .int mm, .int km]))] := hD
      have hK9 : va_K (dC, dI) ksCl [] s := hK
      exact W.zret (v := 0) (ty := .boolean) hx hb hr (by decide) (fun t ht hW9 => ⟨⟨0, (), rfl, Or.inr ⟨rfl, hz⟩, by rw [ht]; exact hP9, va_K.moved hW9.alike hK9, hD9⟩, hS.F ht⟩) hS.2.2 dX3_isLiteral_26
    · -- 10: goes on
      refine lv_iload_n hx hb dX3_isLiteral_13 rfl (lv_at hl 1 rfl) ?_
      refine lv_aload_n hx hb dX3_isLiteral_14 rfl (lv_at hl 0 rfl) ?_
      refine va_get (D := (dC, dI)) (ci := 3) (v := .int (nI N)) (C := RX3) (T := TX3) (N := 10) hx hb hts hiX3 hown hK hP 0 rfl rfl 0 (by decide) f18 (fun _ h9 => h9) rfl dX3_isLiteral_15 ?_
      refine lv_icmp_gt (tgt := 25) hx hb dX3_isLiteral_18 (by decide) (fun c18 => ?_) (fun c18 => ?_)
      · -- 18: jumps
        have hz : ¬ ∃ v, ks_lit N x0 v := fun ⟨v, hv⟩ => hv.hi hN c18
        refine lv_iconst (v := 0) hx hb dX3_isLiteral_25 (by decide) ?_
        have hP9 : va_P (dC, dI) ksCl [(xa, .inr (3, [.int (nI N), .ref ra, .ref sa, .ref aa, .int ac, .int kc, .int kl, .int mp, .int mm, .int km]))] _ := hP
        have hD9 : va_D A [(xa, .inr (3, [.int (nI N), .ref ra, .ref sa, .ref aa, .int ac, .int kc, .int kl, .int mp, .int mm, .int km]))] := hD
        have hK9 : va_K (dC, dI) ksCl [] s := hK
        exact W.zret (v := 0) (ty := .boolean) hx hb hr (by decide) (fun t ht hW9 => ⟨⟨0, (), rfl, Or.inr ⟨rfl, hz⟩, by rw [ht]; exact hP9, va_K.moved hW9.alike hK9, hD9⟩, hS.F ht⟩) hS.2.2 dX3_isLiteral_26
      · -- 18: goes on
        have ho := ks_isLit hN c1 c10 c18
        refine lv_iconst (v := 1) hx hb dX3_isLiteral_21 (by decide) ?_
        refine lv_goto (tgt := 26) hx hb dX3_isLiteral_22 (by decide) ?_
        have hP9 : va_P (dC, dI) ksCl [(xa, .inr (3, [.int (nI N), .ref ra, .ref sa, .ref aa, .int ac, .int kc, .int kl, .int mp, .int mm, .int km]))] _ := hP
        have hD9 : va_D A [(xa, .inr (3, [.int (nI N), .ref ra, .ref sa, .ref aa, .int ac, .int kc, .int kl, .int mp, .int mm, .int km]))] := hD
        have hK9 : va_K (dC, dI) ksCl [] s := hK
        exact W.zret (v := 1) (ty := .boolean) hx hb hr (by decide) (fun t ht hW9 => ⟨⟨1, (), rfl, Or.inl ⟨rfl, ho⟩, by rw [ht]; exact hP9, va_K.moved hW9.alike hK9, hD9⟩, hS.F ht⟩) hS.2.2 dX3_isLiteral_26
end
section
set_option maxHeartbeats 4000000 in
set_option maxRecDepth 100000 in
/-- bitOf -/
theorem ks_bitOf (l : Launch) (dC : Nat → ClassId) (dI : Nat → Nat → Nat) (xa ra sa aa : Nat) (N : Nat) (ac kc kl mp mm km : Int32) (x0 : Int32) (v0 : Nat) (hN : N ≤ 16) (hv : ks_lit N x0 v0) : ks_Mi l yX3_bitOf wsX3_bitOf ({ frames := 1, cells := 0, slots := 0, locals := 15 }) (dC, dI) [.ref xa, .int x0] [(xa, .inr (3, [.int (nI N), .ref ra, .ref sa, .ref aa, .int ac, .int kc, .int kl, .int mp, .int mm, .int km]))] [] 0 0 (S := Unit) (fun r _ => r = ks_on (N - v0)) (fun _ => [(xa, .inr (3, [.int (nI N), .ref ra, .ref sa, .ref aa, .int ac, .int kc, .int kl, .int mp, .int mm, .int km]))]) (fun _ => []) := by
  intro sz
  refine Met.ofW (cc := cX3_bitOf) (maxL := 2) (ret := (some .int)) (by decide) rfl ?_
  intro p e s m args below meth c s₁ B9 hml hv
  obtain ⟨rfl, hsz, hP, hK, hD0, hNW⟩ := hv
  have hx := B9.exec
  have hb := B9.bytes
  have hr := B9.returns
  have hts := atoms_spec (ws := wsX3_bitOf) B9.pre
  have hown : s.vm.findClass RX3 = some m.cls := findClass_of_methodNamed B9.named
  have hlocks := B9.notSynchronized
  subst hsz
  have hD := hD0.self (sz := s.heap.size)
  generalize hAe : va_A [(xa, .inr (3, [.int (nI N), .ref ra, .ref sa, .ref aa, .int ac, .int kc, .int kl, .int mp, .int mm, .int km]))] s.heap.size = A at hD ⊢
  have hA : ∀ q : Nat, s.heap.size ≤ q → A q := fun q h => by rw [← hAe]; exact Or.inr h
  have hS : va_S A s.heap s.heap [] := va_S.rf
  have hiX3 : ∀ w ∈ u_ws RX3 TX3 10, w ∈ wsX3_bitOf := by decide +kernel
  have f18 := hts (.fieldLink RX3 18 "LessonSolver" "variables" "I") (by decide +kernel)
  have hl := lv_entry ([.ref xa, .int x0]) (n := 2) (Nat.le_of_ble_eq_true rfl)
  rw [lg_entry_eq]
  generalize (lg_sl ([.ref xa, .int x0]) ++ List.replicate (2 - (lg_sl ([.ref xa, .int x0])).length) Slot.unset).toArray = ls at hl ⊢
  have hl : lv_has ls 2 [(0, .ref xa), (1, .int x0)] := hl
  refine lv_iconst (v := 1) hx hb dX3_bitOf_0 (by decide) ?_
  refine lv_aload_n hx hb dX3_bitOf_1 rfl (lv_at hl 0 rfl) ?_
  refine va_get (D := (dC, dI)) (ci := 3) (v := .int (nI N)) (C := RX3) (T := TX3) (N := 10) hx hb hts hiX3 hown hK hP 0 rfl rfl 0 (by decide) f18 (fun _ h9 => h9) rfl dX3_bitOf_2 ?_
  refine lv_iload_n hx hb dX3_bitOf_5 rfl (lv_at hl 1 rfl) ?_
  refine va_mabs hx hb (by rw [hml]; exact hl.1.symm) hown (hts (.methodLink RX3 86 Lib.Math.abs.name) (by decide +kernel)) (hts (.static Lib.Math.abs.name) (by decide +kernel)) (hts (.initialized "java/lang/Math") (by decide +kernel)) (hts (.code Lib.Math.abs.name Lib.Math.abs.code 1 (some .int)) (by decide +kernel)) (Nat.le_of_ble_eq_true rfl) (Nat.le_of_ble_eq_true rfl) (Nat.le_of_ble_eq_true rfl) (Nat.le_of_ble_eq_true rfl) dX3_bitOf_6 ?_
  refine ks_top (y := nI v0) (ks_abs hN hv) ?_
  refine lv_isub hx hb dX3_bitOf_9 ?_
  refine ks_top (y := nI (N - v0)) (pk_sub hv.2.1) ?_
  refine lv_ishl hx hb dX3_bitOf_10 ?_
  refine ks_top (y := ks_on (N - v0)) (rfl) ?_
  have hP9 : va_P (dC, dI) ksCl [(xa, .inr (3, [.int (nI N), .ref ra, .ref sa, .ref aa, .int ac, .int kc, .int kl, .int mp, .int mm, .int km]))] _ := hP
  have hD9 : va_D A [(xa, .inr (3, [.int (nI N), .ref ra, .ref sa, .ref aa, .int ac, .int kc, .int kl, .int mp, .int mm, .int km]))] := hD
  have hK9 : va_K (dC, dI) ksCl [] s := hK
  exact W.iret (v := ks_on (N - v0)) hx hb hr (fun t ht hW9 => ⟨⟨ks_on (N - v0), (), rfl, rfl, by rw [ht]; exact hP9, va_K.moved hW9.alike hK9, hD9⟩, hS.F ht⟩) hS.2.2 dX3_bitOf_11
end
section
set_option maxHeartbeats 4000000 in
set_option maxRecDepth 100000 in
/-- forgetMadeClause -/
theorem ks_forgetMade (l : Launch) (dC : Nat → ClassId) (dI : Nat → Nat → Nat) (xa ra sa aa : Nat) (N : Nat) (ac kc kl mp mm km : Int32) : ks_Mv l yX3_forgetMadeClause wsX3_forgetMadeClause ({ frames := 0, cells := 0, slots := 0, locals := 0 }) (dC, dI) [.ref xa] [(xa, .inr (3, [.int (nI N), .ref ra, .ref sa, .ref aa, .int ac, .int kc, .int kl, .int mp, .int mm, .int km]))] [] 0 0 (S := Unit) (fun _ => True) (fun _ => [(xa, .inr (3, [.int (nI N), .ref ra, .ref sa, .ref aa, .int ac, .int kc, .int kl, .int 0, .int 0, .int (nI 0)]))]) (fun _ => []) := by
  intro sz
  refine Met.ofW (cc := cX3_forgetMadeClause) (maxL := 1) (ret := none) (by decide) rfl ?_
  intro p e s m args below meth c s₁ B9 hml hv
  obtain ⟨rfl, hsz, hP, hK, hD0, hNW⟩ := hv
  have hx := B9.exec
  have hb := B9.bytes
  have hr := B9.returns
  have hts := atoms_spec (ws := wsX3_forgetMadeClause) B9.pre
  have hown : s.vm.findClass RX3 = some m.cls := findClass_of_methodNamed B9.named
  have hlocks := B9.notSynchronized
  subst hsz
  have hD := hD0.self (sz := s.heap.size)
  generalize hAe : va_A [(xa, .inr (3, [.int (nI N), .ref ra, .ref sa, .ref aa, .int ac, .int kc, .int kl, .int mp, .int mm, .int km]))] s.heap.size = A at hD ⊢
  have hA : ∀ q : Nat, s.heap.size ≤ q → A q := fun q h => by rw [← hAe]; exact Or.inr h
  have hS : va_S A s.heap s.heap [] := va_S.rf
  have hiX3 : ∀ w ∈ u_ws RX3 TX3 10, w ∈ wsX3_forgetMadeClause := by decide +kernel
  have f46 := hts (.fieldLink RX3 46 "LessonSolver" "madeLength" "I") (by decide +kernel)
  have f49 := hts (.fieldLink RX3 49 "LessonSolver" "madePlus" "I") (by decide +kernel)
  have f56 := hts (.fieldLink RX3 56 "LessonSolver" "madeMinus" "I") (by decide +kernel)
  have hl := lv_entry ([.ref xa]) (n := 1) (Nat.le_of_ble_eq_true rfl)
  rw [lg_entry_eq]
  generalize (lg_sl ([.ref xa]) ++ List.replicate (1 - (lg_sl ([.ref xa])).length) Slot.unset).toArray = ls at hl ⊢
  have hl : lv_has ls 1 [(0, .ref xa)] := hl
  refine lv_aload_n hx hb dX3_forgetMadeClause_0 rfl (lv_at hl 0 rfl) ?_
  refine lv_iconst (v := 0) hx hb dX3_forgetMadeClause_1 (by decide) ?_
  refine va_put (D := (dC, dI)) (ci := 3) (v := .int 0) (ty := .int) (C := RX3) (T := TX3) (N := 10) hx hb hts hiX3 tyX3 tyX3_ok nmX3 hown hK hP hD hS 0 rfl rfl 7 (by decide) f49 (fun _ h9 => h9) rfl (by decide +kernel) rfl rfl (Nat.le_of_ble_eq_true rfl) dX3_forgetMadeClause_2 (fun H locs hP hD hS => ?_)
  have hP : va_P (dC, dI) ksCl [(xa, .inr (3, [.int (nI N), .ref ra, .ref sa, .ref aa, .int ac, .int kc, .int kl, .int 0, .int mm, .int km]))] H := hP
  have hD : va_D A [(xa, .inr (3, [.int (nI N), .ref ra, .ref sa, .ref aa, .int ac, .int kc, .int kl, .int 0, .int mm, .int km]))] := hD
  refine lv_aload_n hx hb dX3_forgetMadeClause_5 rfl (lv_at hl 0 rfl) ?_
  refine lv_iconst (v := 0) hx hb dX3_forgetMadeClause_6 (by decide) ?_
  refine va_put (D := (dC, dI)) (ci := 3) (v := .int 0) (ty := .int) (C := RX3) (T := TX3) (N := 10) hx hb hts hiX3 tyX3 tyX3_ok nmX3 hown hK hP hD hS 0 rfl rfl 8 (by decide) f56 (fun _ h9 => h9) rfl (by decide +kernel) rfl rfl (Nat.le_of_ble_eq_true rfl) dX3_forgetMadeClause_7 (fun H locs hP hD hS => ?_)
  have hP : va_P (dC, dI) ksCl [(xa, .inr (3, [.int (nI N), .ref ra, .ref sa, .ref aa, .int ac, .int kc, .int kl, .int 0, .int 0, .int km]))] H := hP
  have hD : va_D A [(xa, .inr (3, [.int (nI N), .ref ra, .ref sa, .ref aa, .int ac, .int kc, .int kl, .int 0, .int 0, .int km]))] := hD
  refine lv_aload_n hx hb dX3_forgetMadeClause_10 rfl (lv_at hl 0 rfl) ?_
  refine lv_iconst (v := nI 0) hx hb dX3_forgetMadeClause_11 (by decide) ?_
  refine va_put (D := (dC, dI)) (ci := 3) (v := .int (nI 0)) (ty := .int) (C := RX3) (T := TX3) (N := 10) hx hb hts hiX3 tyX3 tyX3_ok nmX3 hown hK hP hD hS 0 rfl rfl 9 (by decide) f46 (fun _ h9 => h9) rfl (by decide +kernel) rfl rfl (Nat.le_of_ble_eq_true rfl) dX3_forgetMadeClause_12 (fun H locs hP hD hS => ?_)
  have hP : va_P (dC, dI) ksCl [(xa, .inr (3, [.int (nI N), .ref ra, .ref sa, .ref aa, .int ac, .int kc, .int kl, .int 0, .int 0, .int (nI 0)]))] H := hP
  have hD : va_D A [(xa, .inr (3, [.int (nI N), .ref ra, .ref sa, .ref aa, .int ac, .int kc, .int kl, .int 0, .int 0, .int (nI 0)]))] := hD
  have hP9 : va_P (dC, dI) ksCl [(xa, .inr (3, [.int (nI N), .ref ra, .ref sa, .ref aa, .int ac, .int kc, .int kl, .int 0, .int 0, .int (nI 0)]))] _ := hP
  have hD9 : va_D A [(xa, .inr (3, [.int (nI N), .ref ra, .ref sa, .ref aa, .int ac, .int kc, .int kl, .int 0, .int 0, .int (nI 0)]))] := hD
  have hK9 : va_K (dC, dI) ksCl [] s := hK
  exact W.vret hx hb hr (fun t ht hW9 => ⟨⟨(), rfl, trivial, by rw [ht]; exact hP9, va_K.moved hW9.alike hK9, hD9⟩, hS.F ht⟩) hS.2.2 dX3_forgetMadeClause_15
end
section
set_option maxHeartbeats 4000000 in
set_option maxRecDepth 100000 in
/-- add -/
theorem ks_add (l : Launch) (dC : Nat → ClassId) (dI : Nat → Nat → Nat) (xa ra sa aa : Nat) (N : Nat) (ac kc kl : Int32) (mp mm : Int32) (km : Nat) (x0 : Int32) (hN : N ≤ 16) (hkm : km ≤ 20) (hmk : ks_in N mp mm) : ks_Mi l yX3_add wsX3_add ({ frames := 2, cells := 0, slots := 0, locals := 36 }) (dC, dI) [.ref xa, .int x0] [(xa, .inr (3, [.int (nI N), .ref ra, .ref sa, .ref aa, .int ac, .int kc, .int kl, .int mp, .int mm, .int (nI km)]))] [] 0 0 (S := Int32 × Int32 × Nat) (fun r u => (r = 0 ∧ ((¬ ∃ v, ks_lit N x0 v) ∨ 20 ≤ km) ∧ u = (mp, mm, km)) ∨ (r = 1 ∧ km < 20 ∧ (∃ v, ks_lit N x0 v) ∧ u.2.2 = km + 1 ∧ (∀ a, ks_T u.1 u.2.1 a ↔ ks_T mp mm a ∨ ks_lt N x0 a) ∧ ks_in N u.1 u.2.1)) (fun u => [(xa, .inr (3, [.int (nI N), .ref ra, .ref sa, .ref aa, .int ac, .int kc, .int kl, .int u.1, .int u.2.1, .int (nI u.2.2)]))]) (fun u => []) := by
  intro sz
  refine Met.ofW (cc := cX3_add) (maxL := 2) (ret := (some .boolean)) (by decide) rfl ?_
  intro p e s m args below meth c s₁ B9 hml hv
  obtain ⟨rfl, hsz, hP, hK, hD0, hNW⟩ := hv
  have hx := B9.exec
  have hb := B9.bytes
  have hr := B9.returns
  have hts := atoms_spec (ws := wsX3_add) B9.pre
  have hown : s.vm.findClass RX3 = some m.cls := findClass_of_methodNamed B9.named
  have hlocks := B9.notSynchronized
  subst hsz
  have hD := hD0.self (sz := s.heap.size)
  generalize hAe : va_A [(xa, .inr (3, [.int (nI N), .ref ra, .ref sa, .ref aa, .int ac, .int kc, .int kl, .int mp, .int mm, .int (nI km)]))] s.heap.size = A at hD ⊢
  have hA : ∀ q : Nat, s.heap.size ≤ q → A q := fun q h => by rw [← hAe]; exact Or.inr h
  have hS : va_S A s.heap s.heap [] := va_S.rf
  have hiX3 : ∀ w ∈ u_ws RX3 TX3 10, w ∈ wsX3_add := by decide +kernel
  have f46 := hts (.fieldLink RX3 46 "LessonSolver" "madeLength" "I") (by decide +kernel)
  have f49 := hts (.fieldLink RX3 49 "LessonSolver" "madePlus" "I") (by decide +kernel)
  have f56 := hts (.fieldLink RX3 56 "LessonSolver" "madeMinus" "I") (by decide +kernel)
  have hl := lv_entry ([.ref xa, .int x0]) (n := 2) (Nat.le_of_ble_eq_true rfl)
  rw [lg_entry_eq]
  generalize (lg_sl ([.ref xa, .int x0]) ++ List.replicate (2 - (lg_sl ([.ref xa, .int x0])).length) Slot.unset).toArray = ls at hl ⊢
  have hl : lv_has ls 2 [(0, .ref xa), (1, .int x0)] := hl
  refine lv_aload_n hx hb dX3_add_0 rfl (lv_at hl 0 rfl) ?_
  refine lv_iload_n hx hb dX3_add_1 rfl (lv_at hl 1 rfl) ?_
  refine ks_calliV (As := [.int x0]) (rest := []) (wr := []) (wz := fun _ => [(xa, .inr (3, [.int (nI N), .ref ra, .ref sa, .ref aa, .int ac, .int kc, .int kl, .int mp, .int mm, .int (nI km)]))]) ⟨hx, hb, hml, hown, hts⟩ (ks_isLiteral l dC dI xa ra sa aa N ac kc kl mp mm (nI km) x0 hN) (cwV 1 hts gX3_add_X3_isLiteral rfl rfl rfl (by decide +kernel) ⟨Nat.le_of_ble_eq_true rfl, Nat.le_of_ble_eq_true rfl⟩) hK hP hD hS hA hNW [0] [] [] [0] rfl rfl rfl rfl (by decide) (by decide) (by decide) (ci := 3) (q0 := 0) rfl rfl rfl (fun _ => rfl) (fun _ => rfl) (by decide) rfl hl.1 rfl (Nat.le_of_ble_eq_true rfl) dX3_add_2 ⟨Nat.le_of_ble_eq_true rfl, Nat.le_of_ble_eq_true rfl⟩ (fun r1 u9 H locs hw9 hK9 hP hD hS => ?_)
  have hw1 := hw9
  have hP : va_P (dC, dI) ksCl [(xa, .inr (3, [.int (nI N), .ref ra, .ref sa, .ref aa, .int ac, .int kc, .int kl, .int mp, .int mm, .int (nI km)]))] H := hP
  have hD : va_D A [(xa, .inr (3, [.int (nI N), .ref ra, .ref sa, .ref aa, .int ac, .int kc, .int kl, .int mp, .int mm, .int (nI km)]))] := hD
  refine lv_if_eq (tgt := 17) hx hb dX3_add_5 (by decide) (fun c5 => ?_) (fun c5 => ?_)
  · -- 5: jumps
    have hno : (¬ ∃ v, ks_lit N x0 v) ∨ 20 ≤ km := Or.inl (by
      rcases hw1 with q | q
      · exact absurd (q.1.symm.trans c5) (by decide)
      · exact q.2)
    refine lv_iconst (v := 0) hx hb dX3_add_17 (by decide) ?_
    have hP9 : va_P (dC, dI) ksCl [(xa, .inr (3, [.int (nI N), .ref ra, .ref sa, .ref aa, .int ac, .int kc, .int kl, .int mp, .int mm, .int (nI km)]))] _ := hP
    have hD9 : va_D A [(xa, .inr (3, [.int (nI N), .ref ra, .ref sa, .ref aa, .int ac, .int kc, .int kl, .int mp, .int mm, .int (nI km)]))] := hD
    have hK9 : va_K (dC, dI) ksCl [] s := hK
    exact W.zret (v := 0) (ty := .boolean) hx hb hr (by decide) (fun t ht hW9 => ⟨⟨0, (mp, mm, km), rfl, Or.inl ⟨rfl, hno, rfl⟩, by rw [ht]; exact hP9, va_K.moved hW9.alike hK9, hD9⟩, hS.F ht⟩) hS.2.2 dX3_add_18
  · -- 5: goes on
    refine lv_aload_n hx hb dX3_add_8 rfl (lv_at hl 0 rfl) ?_
    refine va_get (D := (dC, dI)) (ci := 3) (v := .int (nI km)) (C := RX3) (T := TX3) (N := 10) hx hb hts hiX3 hown hK hP 0 rfl rfl 9 (by decide) f46 (fun _ h9 => h9) rfl dX3_add_9 ?_
    refine lv_bipush (v := nI 20) hx hb dX3_add_12 (by decide) ?_
    refine lv_icmp_lt (tgt := 19) hx hb dX3_add_14 (by decide) (fun c14 => ?_) (fun c14 => ?_)
    · -- 14: jumps
      have h20 : km < 20 := (nI_ltI (by omega) (by decide)).mp c14
      obtain ⟨v0, hv⟩ : ∃ v, ks_lit N x0 v := by
        rcases hw1 with q | q
        · exact q.2
        · exact absurd q.1 c5
      have hv0 : N - v0 < N := by have := hv.1; have := hv.2.1; omega
      refine lv_iload_n hx hb dX3_add_19 rfl (lv_at hl 1 rfl) ?_
      refine lv_if_le (tgt := 40) hx hb dX3_add_20 (by decide) (fun c20 => ?_) (fun c20 => ?_)
      · -- 20: jumps
        have hsg : ¬ 0 < x0 := fun q => absurd c20 (by rw [Int32.not_le]; exact q)
        refine lv_aload_n hx hb dX3_add_40 rfl (lv_at hl 0 rfl) ?_
        refine lv_dup hx hb dX3_add_41 rfl ?_
        refine va_get (D := (dC, dI)) (ci := 3) (v := .int mm) (C := RX3) (T := TX3) (N := 10) hx hb hts hiX3 hown hK hP 0 rfl rfl 8 (by decide) f56 (fun _ h9 => h9) rfl dX3_add_42 ?_
        refine lv_aload_n hx hb dX3_add_45 rfl (lv_at hl 0 rfl) ?_
        refine lv_iload_n hx hb dX3_add_46 rfl (lv_at hl 1 rfl) ?_
        refine ks_calliV (As := [.int x0]) (rest := [.int mm, .ref xa]) (wr := []) (wz := fun _ => [(xa, .inr (3, [.int (nI N), .ref ra, .ref sa, .ref aa, .int ac, .int kc, .int kl, .int mp, .int mm, .int (nI km)]))]) ⟨hx, hb, hml, hown, hts⟩ (ks_bitOf l dC dI xa ra sa aa N ac kc kl mp mm (nI km) x0 v0 hN hv) (cwV 1 hts gX3_add_X3_bitOf rfl rfl rfl (by decide +kernel) ⟨Nat.le_of_ble_eq_true rfl, Nat.le_of_ble_eq_true rfl⟩) hK hP hD hS hA hNW [0] [] [] [0] rfl rfl rfl rfl (by decide) (by decide) (by decide) (ci := 3) (q0 := 0) rfl rfl rfl (fun _ => rfl) (fun _ => rfl) (by decide) rfl hl.1 rfl (Nat.le_of_ble_eq_true rfl) dX3_add_47 ⟨Nat.le_of_ble_eq_true rfl, Nat.le_of_ble_eq_true rfl⟩ (fun r2 u9 H locs hw9 hK9 hP hD hS => ?_)
        have er2 : r2 = ks_on (N - v0) := hw9
        subst er2
        have hP : va_P (dC, dI) ksCl [(xa, .inr (3, [.int (nI N), .ref ra, .ref sa, .ref aa, .int ac, .int kc, .int kl, .int mp, .int mm, .int (nI km)]))] H := hP
        have hD : va_D A [(xa, .inr (3, [.int (nI N), .ref ra, .ref sa, .ref aa, .int ac, .int kc, .int kl, .int mp, .int mm, .int (nI km)]))] := hD
        refine lv_ior hx hb dX3_add_50 ?_
        refine va_put (D := (dC, dI)) (ci := 3) (v := .int (mm ||| (ks_on (N - v0)))) (ty := .int) (C := RX3) (T := TX3) (N := 10) hx hb hts hiX3 tyX3 tyX3_ok nmX3 hown hK hP hD hS 0 rfl rfl 8 (by decide) f56 (fun _ h9 => h9) rfl (by decide +kernel) rfl rfl (Nat.le_of_ble_eq_true rfl) dX3_add_51 (fun H locs hP hD hS => ?_)
        have hP : va_P (dC, dI) ksCl [(xa, .inr (3, [.int (nI N), .ref ra, .ref sa, .ref aa, .int ac, .int kc, .int kl, .int mp, .int (mm ||| (ks_on (N - v0))), .int (nI km)]))] H := hP
        have hD : va_D A [(xa, .inr (3, [.int (nI N), .ref ra, .ref sa, .ref aa, .int ac, .int kc, .int kl, .int mp, .int (mm ||| (ks_on (N - v0))), .int (nI km)]))] := hD
        refine lv_aload_n hx hb dX3_add_54 rfl (lv_at hl 0 rfl) ?_
        refine lv_dup hx hb dX3_add_55 rfl ?_
        refine va_get (D := (dC, dI)) (ci := 3) (v := .int (nI km)) (C := RX3) (T := TX3) (N := 10) hx hb hts hiX3 hown hK hP 0 rfl rfl 9 (by decide) f46 (fun _ h9 => h9) rfl dX3_add_56 ?_
        refine lv_iconst (v := 1) hx hb dX3_add_59 (by decide) ?_
        refine lv_iadd hx hb dX3_add_60 ?_
        refine ks_top (y := nI (km + 1)) (nI_1 km) ?_
        refine va_put (D := (dC, dI)) (ci := 3) (v := .int (nI (km + 1))) (ty := .int) (C := RX3) (T := TX3) (N := 10) hx hb hts hiX3 tyX3 tyX3_ok nmX3 hown hK hP hD hS 0 rfl rfl 9 (by decide) f46 (fun _ h9 => h9) rfl (by decide +kernel) rfl rfl (Nat.le_of_ble_eq_true rfl) dX3_add_61 (fun H locs hP hD hS => ?_)
        have hP : va_P (dC, dI) ksCl [(xa, .inr (3, [.int (nI N), .ref ra, .ref sa, .ref aa, .int ac, .int kc, .int kl, .int mp, .int (mm ||| (ks_on (N - v0))), .int (nI (km + 1))]))] H := hP
        have hD : va_D A [(xa, .inr (3, [.int (nI N), .ref ra, .ref sa, .ref aa, .int ac, .int kc, .int kl, .int mp, .int (mm ||| (ks_on (N - v0))), .int (nI (km + 1))]))] := hD
        refine lv_iconst (v := 1) hx hb dX3_add_64 (by decide) ?_
        have hP9 : va_P (dC, dI) ksCl [(xa, .inr (3, [.int (nI N), .ref ra, .ref sa, .ref aa, .int ac, .int kc, .int kl, .int mp, .int (mm ||| (ks_on (N - v0))), .int (nI (km + 1))]))] _ := hP
        have hD9 : va_D A [(xa, .inr (3, [.int (nI N), .ref ra, .ref sa, .ref aa, .int ac, .int kc, .int kl, .int mp, .int (mm ||| (ks_on (N - v0))), .int (nI (km + 1))]))] := hD
        have hK9 : va_K (dC, dI) ksCl [] s := hK
        exact W.zret (v := 1) (ty := .boolean) hx hb hr (by decide) (fun t ht hW9 => ⟨⟨1, (mp, mm ||| (ks_on (N - v0)), km + 1), rfl, Or.inr ⟨rfl, h20, ⟨v0, hv⟩, rfl, fun a => ks_T.addn hN hv hsg, hmk.lo hN hv0⟩, by rw [ht]; exact hP9, va_K.moved hW9.alike hK9, hD9⟩, hS.F ht⟩) hS.2.2 dX3_add_65
      · -- 20: goes on
        have hsg : 0 < x0 := by rw [Int32.not_le] at c20; exact c20
        refine lv_aload_n hx hb dX3_add_23 rfl (lv_at hl 0 rfl) ?_
        refine lv_dup hx hb dX3_add_24 rfl ?_
        refine va_get (D := (dC, dI)) (ci := 3) (v := .int mp) (C := RX3) (T := TX3) (N := 10) hx hb hts hiX3 hown hK hP 0 rfl rfl 7 (by decide) f49 (fun _ h9 => h9) rfl dX3_add_25 ?_
        refine lv_aload_n hx hb dX3_add_28 rfl (lv_at hl 0 rfl) ?_
        refine lv_iload_n hx hb dX3_add_29 rfl (lv_at hl 1 rfl) ?_
        refine ks_calliV (As := [.int x0]) (rest := [.int mp, .ref xa]) (wr := []) (wz := fun _ => [(xa, .inr (3, [.int (nI N), .ref ra, .ref sa, .ref aa, .int ac, .int kc, .int kl, .int mp, .int mm, .int (nI km)]))]) ⟨hx, hb, hml, hown, hts⟩ (ks_bitOf l dC dI xa ra sa aa N ac kc kl mp mm (nI km) x0 v0 hN hv) (cwV 1 hts gX3_add_X3_bitOf rfl rfl rfl (by decide +kernel) ⟨Nat.le_of_ble_eq_true rfl, Nat.le_of_ble_eq_true rfl⟩) hK hP hD hS hA hNW [0] [] [] [0] rfl rfl rfl rfl (by decide) (by decide) (by decide) (ci := 3) (q0 := 0) rfl rfl rfl (fun _ => rfl) (fun _ => rfl) (by decide) rfl hl.1 rfl (Nat.le_of_ble_eq_true rfl) dX3_add_30 ⟨Nat.le_of_ble_eq_true rfl, Nat.le_of_ble_eq_true rfl⟩ (fun r2 u9 H locs hw9 hK9 hP hD hS => ?_)
        have er2 : r2 = ks_on (N - v0) := hw9
        subst er2
        have hP : va_P (dC, dI) ksCl [(xa, .inr (3, [.int (nI N), .ref ra, .ref sa, .ref aa, .int ac, .int kc, .int kl, .int mp, .int mm, .int (nI km)]))] H := hP
        have hD : va_D A [(xa, .inr (3, [.int (nI N), .ref ra, .ref sa, .ref aa, .int ac, .int kc, .int kl, .int mp, .int mm, .int (nI km)]))] := hD
        refine lv_ior hx hb dX3_add_33 ?_
        refine va_put (D := (dC, dI)) (ci := 3) (v := .int (mp ||| (ks_on (N - v0)))) (ty := .int) (C := RX3) (T := TX3) (N := 10) hx hb hts hiX3 tyX3 tyX3_ok nmX3 hown hK hP hD hS 0 rfl rfl 7 (by decide) f49 (fun _ h9 => h9) rfl (by decide +kernel) rfl rfl (Nat.le_of_ble_eq_true rfl) dX3_add_34 (fun H locs hP hD hS => ?_)
        have hP : va_P (dC, dI) ksCl [(xa, .inr (3, [.int (nI N), .ref ra, .ref sa, .ref aa, .int ac, .int kc, .int kl, .int (mp ||| (ks_on (N - v0))), .int mm, .int (nI km)]))] H := hP
        have hD : va_D A [(xa, .inr (3, [.int (nI N), .ref ra, .ref sa, .ref aa, .int ac, .int kc, .int kl, .int (mp ||| (ks_on (N - v0))), .int mm, .int (nI km)]))] := hD
        refine lv_goto (tgt := 54) hx hb dX3_add_37 (by decide) ?_
        refine lv_aload_n hx hb dX3_add_54 rfl (lv_at hl 0 rfl) ?_
        refine lv_dup hx hb dX3_add_55 rfl ?_
        refine va_get (D := (dC, dI)) (ci := 3) (v := .int (nI km)) (C := RX3) (T := TX3) (N := 10) hx hb hts hiX3 hown hK hP 0 rfl rfl 9 (by decide) f46 (fun _ h9 => h9) rfl dX3_add_56 ?_
        refine lv_iconst (v := 1) hx hb dX3_add_59 (by decide) ?_
        refine lv_iadd hx hb dX3_add_60 ?_
        refine ks_top (y := nI (km + 1)) (nI_1 km) ?_
        refine va_put (D := (dC, dI)) (ci := 3) (v := .int (nI (km + 1))) (ty := .int) (C := RX3) (T := TX3) (N := 10) hx hb hts hiX3 tyX3 tyX3_ok nmX3 hown hK hP hD hS 0 rfl rfl 9 (by decide) f46 (fun _ h9 => h9) rfl (by decide +kernel) rfl rfl (Nat.le_of_ble_eq_true rfl) dX3_add_61 (fun H locs hP hD hS => ?_)
        have hP : va_P (dC, dI) ksCl [(xa, .inr (3, [.int (nI N), .ref ra, .ref sa, .ref aa, .int ac, .int kc, .int kl, .int (mp ||| (ks_on (N - v0))), .int mm, .int (nI (km + 1))]))] H := hP
        have hD : va_D A [(xa, .inr (3, [.int (nI N), .ref ra, .ref sa, .ref aa, .int ac, .int kc, .int kl, .int (mp ||| (ks_on (N - v0))), .int mm, .int (nI (km + 1))]))] := hD
        refine lv_iconst (v := 1) hx hb dX3_add_64 (by decide) ?_
        have hP9 : va_P (dC, dI) ksCl [(xa, .inr (3, [.int (nI N), .ref ra, .ref sa, .ref aa, .int ac, .int kc, .int kl, .int (mp ||| (ks_on (N - v0))), .int mm, .int (nI (km + 1))]))] _ := hP
        have hD9 : va_D A [(xa, .inr (3, [.int (nI N), .ref ra, .ref sa, .ref aa, .int ac, .int kc, .int kl, .int (mp ||| (ks_on (N - v0))), .int mm, .int (nI (km + 1))]))] := hD
        have hK9 : va_K (dC, dI) ksCl [] s := hK
        exact W.zret (v := 1) (ty := .boolean) hx hb hr (by decide) (fun t ht hW9 => ⟨⟨1, (mp ||| (ks_on (N - v0)), mm, km + 1), rfl, Or.inr ⟨rfl, h20, ⟨v0, hv⟩, rfl, fun a => ks_T.addp hN hv hsg, hmk.hi hN hv0⟩, by rw [ht]; exact hP9, va_K.moved hW9.alike hK9, hD9⟩, hS.F ht⟩) hS.2.2 dX3_add_65
    · -- 14: goes on
      have hno : (¬ ∃ v, ks_lit N x0 v) ∨ 20 ≤ km := Or.inr (by
        rcases Nat.lt_or_ge km 20 with q | q
        · exact absurd (nI_lt q (by decide)) c14
        · exact q)
      refine lv_iconst (v := 0) hx hb dX3_add_17 (by decide) ?_
      have hP9 : va_P (dC, dI) ksCl [(xa, .inr (3, [.int (nI N), .ref ra, .ref sa, .ref aa, .int ac, .int kc, .int kl, .int mp, .int mm, .int (nI km)]))] _ := hP
      have hD9 : va_D A [(xa, .inr (3, [.int (nI N), .ref ra, .ref sa, .ref aa, .int ac, .int kc, .int kl, .int mp, .int mm, .int (nI km)]))] := hD
      have hK9 : va_K (dC, dI) ksCl [] s := hK
      exact W.zret (v := 0) (ty := .boolean) hx hb hr (by decide) (fun t ht hW9 => ⟨⟨0, (mp, mm, km), rfl, Or.inl ⟨rfl, hno, rfl⟩, by rw [ht]; exact hP9, va_K.moved hW9.alike hK9, hD9⟩, hS.F ht⟩) hS.2.2 dX3_add_18
end
section
set_option maxHeartbeats 4000000 in
set_option maxRecDepth 100000 in
/-- takeMadeClause -/
theorem ks_takeMade (l : Launch) (dC : Nat → ClassId) (dI : Nat → Nat → Nat) (xa sa aa : Nat) (ra rp rq : Nat) (cP cM : ClassId) (N : Nat) (ac kc kl mp mm km : Int32) (P M : Nat → Int32) (g nr : Nat) (hW : ks_W N P M g nr) (hg : g < 600) (hmk : ks_in N mp mm) : ks_Mv l yX3_takeMadeClause wsX3_takeMadeClause ({ frames := 1, cells := 0, slots := 0, locals := 22 }) (dC, dI) [.ref xa] [(xa, .inr (3, [.int (nI N), .ref ra, .ref sa, .ref aa, .int ac, .int kc, .int kl, .int mp, .int mm, .int km])), (ra, .inr (0, [.ref rp, .ref rq, .int (nI g), .int (nI nr)])), (rp, .inl (cP, 664, .inl P)), (rq, .inl (cM, 664, .inl M))] [(cP, .int), (cM, .int)] 0 0 (S := (Nat → Int32) × (Nat → Int32) × Nat × Nat) (fun u => ks_W N u.1 u.2.1 u.2.2.1 u.2.2.2 ∧ u.2.2.1 ≤ g + 1 ∧ ∀ a, ks_M u.1 u.2.1 u.2.2.1 a ↔ ks_M P M g a ∧ ks_T mp mm a) (fun u => [(xa, .inr (3, [.int (nI N), .ref ra, .ref sa, .ref aa, .int ac, .int kc, .int kl, .int mp, .int mm, .int km])), (ra, .inr (0, [.ref rp, .ref rq, .int (nI u.2.2.1), .int (nI u.2.2.2)])), (rp, .inl (cP, 664, .inl u.1)), (rq, .inl (cM, 664, .inl u.2.1))]) (fun u => [(cP, .int), (cM, .int)]) := by
  intro sz
  refine Met.ofW (cc := cX3_takeMadeClause) (maxL := 1) (ret := none) (by decide) rfl ?_
  intro p e s m args below meth c s₁ B9 hml hv
  obtain ⟨rfl, hsz, hP, hK, hD0, hNW⟩ := hv
  have hx := B9.exec
  have hb := B9.bytes
  have hr := B9.returns
  have hts := atoms_spec (ws := wsX3_takeMadeClause) B9.pre
  have hown : s.vm.findClass RX3 = some m.cls := findClass_of_methodNamed B9.named
  have hlocks := B9.notSynchronized
  subst hsz
  have hD := hD0.self (sz := s.heap.size)
  generalize hAe : va_A [(xa, .inr (3, [.int (nI N), .ref ra, .ref sa, .ref aa, .int ac, .int kc, .int kl, .int mp, .int mm, .int km])), (ra, .inr (0, [.ref rp, .ref rq, .int (nI g), .int (nI nr)])), (rp, .inl (cP, 664, .inl P)), (rq, .inl (cM, 664, .inl M))] s.heap.size = A at hD ⊢
  have hA : ∀ q : Nat, s.heap.size ≤ q → A q := fun q h => by rw [← hAe]; exact Or.inr h
  have hS : va_S A s.heap s.heap [] := va_S.rf
  have hiX3 : ∀ w ∈ u_ws RX3 TX3 10, w ∈ wsX3_takeMadeClause := by decide +kernel
  have f25 := hts (.fieldLink RX3 25 "LessonSolver" "clauses" "LLessonSolver$ClauseRow;") (by decide +kernel)
  have f49 := hts (.fieldLink RX3 49 "LessonSolver" "madePlus" "I") (by decide +kernel)
  have f56 := hts (.fieldLink RX3 56 "LessonSolver" "madeMinus" "I") (by decide +kernel)
  have hl := lv_entry ([.ref xa]) (n := 1) (Nat.le_of_ble_eq_true rfl)
  rw [lg_entry_eq]
  generalize (lg_sl ([.ref xa]) ++ List.replicate (1 - (lg_sl ([.ref xa])).length) Slot.unset).toArray = ls at hl ⊢
  have hl : lv_has ls 1 [(0, .ref xa)] := hl
  refine lv_aload_n hx hb dX3_takeMadeClause_0 rfl (lv_at hl 0 rfl) ?_
  refine va_get (D := (dC, dI)) (ci := 3) (v := .int mp) (C := RX3) (T := TX3) (N := 10) hx hb hts hiX3 hown hK hP 0 rfl rfl 7 (by decide) f49 (fun _ h9 => h9) rfl dX3_takeMadeClause_1 ?_
  refine lv_aload_n hx hb dX3_takeMadeClause_4 rfl (lv_at hl 0 rfl) ?_
  refine va_get (D := (dC, dI)) (ci := 3) (v := .int mm) (C := RX3) (T := TX3) (N := 10) hx hb hts hiX3 hown hK hP 0 rfl rfl 8 (by decide) f56 (fun _ h9 => h9) rfl dX3_takeMadeClause_5 ?_
  refine lv_iand hx hb dX3_takeMadeClause_8 ?_
  refine lv_if_ne (tgt := 27) hx hb dX3_takeMadeClause_9 (by decide) (fun c9 => ?_) (fun c9 => ?_)
  · -- 9: jumps
    have hP9 : va_P (dC, dI) ksCl [(xa, .inr (3, [.int (nI N), .ref ra, .ref sa, .ref aa, .int ac, .int kc, .int kl, .int mp, .int mm, .int km])), (ra, .inr (0, [.ref rp, .ref rq, .int (nI g), .int (nI nr)])), (rp, .inl (cP, 664, .inl P)), (rq, .inl (cM, 664, .inl M))] _ := hP
    have hD9 : va_D A [(xa, .inr (3, [.int (nI N), .ref ra, .ref sa, .ref aa, .int ac, .int kc, .int kl, .int mp, .int mm, .int km])), (ra, .inr (0, [.ref rp, .ref rq, .int (nI g), .int (nI nr)])), (rp, .inl (cP, 664, .inl P)), (rq, .inl (cM, 664, .inl M))] := hD
    have hK9 : va_K (dC, dI) ksCl [(cP, .int), (cM, .int)] s := hK
    exact W.vret hx hb hr (fun t ht hW9 => ⟨⟨(P, M, g, nr), rfl, ⟨hW, Nat.le_succ _, fun a => ⟨fun q => ⟨q, ks_T.taut c9 a⟩, fun q => q.1⟩⟩, by rw [ht]; exact hP9, va_K.moved hW9.alike hK9, hD9⟩, hS.F ht⟩) hS.2.2 dX3_takeMadeClause_27
  · -- 9: goes on
    have hd0 : mp &&& mm = 0 := c9
    refine lv_aload_n hx hb dX3_takeMadeClause_12 rfl (lv_at hl 0 rfl) ?_
    refine va_get (D := (dC, dI)) (ci := 3) (v := .ref ra) (C := RX3) (T := TX3) (N := 10) hx hb hts hiX3 hown hK hP 0 rfl rfl 1 (by decide) f25 (fun _ h9 => h9) rfl dX3_takeMadeClause_13 ?_
    refine lv_aload_n hx hb dX3_takeMadeClause_16 rfl (lv_at hl 0 rfl) ?_
    refine va_get (D := (dC, dI)) (ci := 3) (v := .int mp) (C := RX3) (T := TX3) (N := 10) hx hb hts hiX3 hown hK hP 0 rfl rfl 7 (by decide) f49 (fun _ h9 => h9) rfl dX3_takeMadeClause_17 ?_
    refine lv_aload_n hx hb dX3_takeMadeClause_20 rfl (lv_at hl 0 rfl) ?_
    refine va_get (D := (dC, dI)) (ci := 3) (v := .int mm) (C := RX3) (T := TX3) (N := 10) hx hb hts hiX3 hown hK hP 0 rfl rfl 8 (by decide) f56 (fun _ h9 => h9) rfl dX3_takeMadeClause_21 ?_
    refine ks_callvV (As := [.int mp, .int mm]) (rest := []) (wr := [(xa, .inr (3, [.int (nI N), .ref ra, .ref sa, .ref aa, .int ac, .int kc, .int kl, .int mp, .int mm, .int km]))]) (wz := fun _ => [(xa, .inr (3, [.int (nI N), .ref ra, .ref sa, .ref aa, .int ac, .int kc, .int kl, .int mp, .int mm, .int km])), (ra, .inr (0, [.ref rp, .ref rq, .int (nI (g + 1)), .int (nI (nr + 1))])), (rp, .inl (cP, 664, .inl (upd (upd P nr (P g)) g mp))), (rq, .inl (cM, 664, .inl (upd (upd M nr (M g)) g mm)))]) ⟨hx, hb, hml, hown, hts⟩ (ks_give l dC dI ra rp rq cP cM P M g nr mp mm hg hW.1 (by have := hW.2.1; omega)) (cwV 2 hts gX3_takeMadeClause_X0_give rfl rfl rfl (by decide +kernel) ⟨Nat.le_of_ble_eq_true rfl, Nat.le_of_ble_eq_true rfl⟩) hK hP hD hS hA hNW [1, 2, 3] [0] [0, 1] [0, 1, 2, 3] rfl rfl rfl rfl (by decide) (by decide) (by decide) (ci := 0) (q0 := 0) rfl rfl rfl (fun _ => rfl) (fun _ => rfl) (by decide) rfl hl.1 rfl (Nat.le_of_ble_eq_true rfl) dX3_takeMadeClause_24 ⟨Nat.le_of_ble_eq_true rfl, Nat.le_of_ble_eq_true rfl⟩ (fun u9 H locs hw9 hK9 hP hD hS => ?_)
    have hP : va_P (dC, dI) ksCl [(xa, .inr (3, [.int (nI N), .ref ra, .ref sa, .ref aa, .int ac, .int kc, .int kl, .int mp, .int mm, .int km])), (ra, .inr (0, [.ref rp, .ref rq, .int (nI (g + 1)), .int (nI (nr + 1))])), (rp, .inl (cP, 664, .inl (upd (upd P nr (P g)) g mp))), (rq, .inl (cM, 664, .inl (upd (upd M nr (M g)) g mm)))] H := hP
    have hD : va_D A [(xa, .inr (3, [.int (nI N), .ref ra, .ref sa, .ref aa, .int ac, .int kc, .int kl, .int mp, .int mm, .int km])), (ra, .inr (0, [.ref rp, .ref rq, .int (nI (g + 1)), .int (nI (nr + 1))])), (rp, .inl (cP, 664, .inl (upd (upd P nr (P g)) g mp))), (rq, .inl (cM, 664, .inl (upd (upd M nr (M g)) g mm)))] := hD
    have hP9 : va_P (dC, dI) ksCl [(xa, .inr (3, [.int (nI N), .ref ra, .ref sa, .ref aa, .int ac, .int kc, .int kl, .int mp, .int mm, .int km])), (ra, .inr (0, [.ref rp, .ref rq, .int (nI (g + 1)), .int (nI (nr + 1))])), (rp, .inl (cP, 664, .inl (upd (upd P nr (P g)) g mp))), (rq, .inl (cM, 664, .inl (upd (upd M nr (M g)) g mm)))] _ := hP
    have hD9 : va_D A [(xa, .inr (3, [.int (nI N), .ref ra, .ref sa, .ref aa, .int ac, .int kc, .int kl, .int mp, .int mm, .int km])), (ra, .inr (0, [.ref rp, .ref rq, .int (nI (g + 1)), .int (nI (nr + 1))])), (rp, .inl (cP, 664, .inl (upd (upd P nr (P g)) g mp))), (rq, .inl (cM, 664, .inl (upd (upd M nr (M g)) g mm)))] := hD
    have hK9 : va_K (dC, dI) ksCl [(cP, .int), (cM, .int)] s := hK
    exact W.vret hx hb hr (fun t ht hW9 => ⟨⟨(upd (upd P nr (P g)) g mp, upd (upd M nr (M g)) g mm, g + 1, nr + 1), rfl, ⟨hW.give (hmk.mem hd0), Nat.le_refl _, fun a => ks_M.give hW.1 mp mm (P g) (M g)⟩, by rw [ht]; exact hP9, va_K.moved hW9.alike hK9, hD9⟩, hS.F ht⟩) hS.2.2 dX3_takeMadeClause_27
end
section
set_option maxHeartbeats 4000000 in
set_option maxRecDepth 100000 in
/-- close -/
theorem ks_close (l : Launch) (dC : Nat → ClassId) (dI : Nat → Nat → Nat) (xa sa aa : Nat) (ra rp rq : Nat) (cP cM : ClassId) (N : Nat) (ac mp mm : Int32) (kc kl km : Nat) (P M : Nat → Int32) (g nr : Nat) (hW : ks_W N P M g nr) (hgk : g ≤ kc) (hkc : kc ≤ 600) (hkl : kl ≤ 4000) (hkm : km ≤ 20) (hmk : ks_in N mp mm) : ks_Mi l yX3_close wsX3_close ({ frames := 2, cells := 0, slots := 0, locals := 42 }) (dC, dI) [.ref xa] [(xa, .inr (3, [.int (nI N), .ref ra, .ref sa, .ref aa, .int ac, .int (nI kc), .int (nI kl), .int mp, .int mm, .int (nI km)])), (ra, .inr (0, [.ref rp, .ref rq, .int (nI g), .int (nI nr)])), (rp, .inl (cP, 664, .inl P)), (rq, .inl (cM, 664, .inl M))] [(cP, .int), (cM, .int)] 0 0 (S := (Nat → Int32) × (Nat → Int32) × Nat × Nat × Nat × Nat) (fun r u => (r = -1 ∧ ¬ (kc < 600 ∧ kl + km ≤ 4000) ∧ u = (P, M, g, nr, kc, kl)) ∨ (r = nI (kc + 1) ∧ kc < 600 ∧ kl + km ≤ 4000 ∧ u.2.2.2.2.1 = kc + 1 ∧ u.2.2.2.2.2 = kl + km ∧ ks_W N u.1 u.2.1 u.2.2.1 u.2.2.2.1 ∧ u.2.2.1 ≤ kc + 1 ∧ ∀ a, ks_M u.1 u.2.1 u.2.2.1 a ↔ ks_M P M g a ∧ ks_T mp mm a)) (fun u => [(xa, .inr (3, [.int (nI N), .ref ra, .ref sa, .ref aa, .int ac, .int (nI u.2.2.2.2.1), .int (nI u.2.2.2.2.2), .int 0, .int 0, .int (nI 0)])), (ra, .inr (0, [.ref rp, .ref rq, .int (nI u.2.2.1), .int (nI u.2.2.2.1)])), (rp, .inl (cP, 664, .inl u.1)), (rq, .inl (cM, 664, .inl u.2.1))]) (fun u => [(cP, .int), (cM, .int)]) := by
  intro sz
  refine Met.ofW (cc := cX3_close) (maxL := 2) (ret := (some .int)) (by decide) rfl ?_
  intro p e s m args below meth c s₁ B9 hml hv
  obtain ⟨rfl, hsz, hP, hK, hD0, hNW⟩ := hv
  have hx := B9.exec
  have hb := B9.bytes
  have hr := B9.returns
  have hts := atoms_spec (ws := wsX3_close) B9.pre
  have hown : s.vm.findClass RX3 = some m.cls := findClass_of_methodNamed B9.named
  have hlocks := B9.notSynchronized
  subst hsz
  have hD := hD0.self (sz := s.heap.size)
  generalize hAe : va_A [(xa, .inr (3, [.int (nI N), .ref ra, .ref sa, .ref aa, .int ac, .int (nI kc), .int (nI kl), .int mp, .int mm, .int (nI km)])), (ra, .inr (0, [.ref rp, .ref rq, .int (nI g), .int (nI nr)])), (rp, .inl (cP, 664, .inl P)), (rq, .inl (cM, 664, .inl M))] s.heap.size = A at hD ⊢
  have hA : ∀ q : Nat, s.heap.size ≤ q → A q := fun q h => by rw [← hAe]; exact Or.inr h
  have hS : va_S A s.heap s.heap [] := va_S.rf
  have hiX3 : ∀ w ∈ u_ws RX3 TX3 10, w ∈ wsX3_close := by decide +kernel
  have f46 := hts (.fieldLink RX3 46 "LessonSolver" "madeLength" "I") (by decide +kernel)
  have f59 := hts (.fieldLink RX3 59 "LessonSolver" "clauseCount" "I") (by decide +kernel)
  have f62 := hts (.fieldLink RX3 62 "LessonSolver" "literalCount" "I") (by decide +kernel)
  have hl := lv_entry ([.ref xa]) (n := 2) (Nat.le_of_ble_eq_true rfl)
  rw [lg_entry_eq]
  generalize (lg_sl ([.ref xa]) ++ List.replicate (2 - (lg_sl ([.ref xa])).length) Slot.unset).toArray = ls at hl ⊢
  have hl : lv_has ls 2 [(0, .ref xa)] := hl
  refine lv_aload_n hx hb dX3_close_0 rfl (lv_at hl 0 rfl) ?_
  refine va_get (D := (dC, dI)) (ci := 3) (v := .int (nI kc)) (C := RX3) (T := TX3) (N := 10) hx hb hts hiX3 hown hK hP 0 rfl rfl 5 (by decide) f59 (fun _ h9 => h9) rfl dX3_close_1 ?_
  refine lv_sipush (v := nI 600) hx hb dX3_close_4 (by decide) ?_
  refine lv_icmp_ge (tgt := 29) hx hb dX3_close_7 (by decide) (fun c7 => ?_) (fun c7 => ?_)
  · -- 7: jumps
    have h600 : 600 ≤ kc := by
      rcases Nat.lt_or_ge kc 600 with q | q
      · exact absurd c7 (nI_ge q (by omega))
      · exact q
    have hno : ¬ (kc < 600 ∧ kl + km ≤ 4000) := by omega
    refine lv_iconst (v := 0) hx hb dX3_close_29 (by decide) ?_
    refine lv_istore_n (lv' := [(1, .int 0), (0, .ref xa)]) hx hb dX3_close_30 rfl hl (by decide) rfl (fun ls hl => ?_)
    refine lv_iload_n hx hb dX3_close_31 rfl (lv_at hl 0 rfl) ?_
    refine lv_if_eq (tgt := 62) hx hb dX3_close_32 (by decide) (fun c32 => ?_) (fun c32 => absurd rfl c32)
    refine lv_aload_n hx hb dX3_close_62 rfl (lv_at hl 1 rfl) ?_
    refine ks_callvV (As := []) (rest := []) (wr := [(ra, .inr (0, [.ref rp, .ref rq, .int (nI g), .int (nI nr)])), (rp, .inl (cP, 664, .inl P)), (rq, .inl (cM, 664, .inl M))]) (wz := fun _ => [(xa, .inr (3, [.int (nI N), .ref ra, .ref sa, .ref aa, .int ac, .int (nI kc), .int (nI kl), .int 0, .int 0, .int (nI 0)])), (ra, .inr (0, [.ref rp, .ref rq, .int (nI g), .int (nI nr)])), (rp, .inl (cP, 664, .inl P)), (rq, .inl (cM, 664, .inl M))]) ⟨hx, hb, hml, hown, hts⟩ (ks_forgetMade l dC dI xa ra sa aa N ac (nI kc) (nI kl) mp mm (nI km)) (cwV 0 hts gX3_close_X3_forgetMadeClause rfl rfl rfl (by decide +kernel) ⟨Nat.le_of_ble_eq_true rfl, Nat.le_of_ble_eq_true rfl⟩) hK hP hD hS hA hNW [0] [1, 2, 3] [] [3, 0, 1, 2] rfl rfl rfl rfl (by decide) (by decide) (by decide) (ci := 3) (q0 := 0) rfl rfl rfl (fun _ => rfl) (fun _ => rfl) (by decide) rfl hl.1 rfl (Nat.le_of_ble_eq_true rfl) dX3_close_63 ⟨Nat.le_of_ble_eq_true rfl, Nat.le_of_ble_eq_true rfl⟩ (fun u9 H locs hw9 hK9 hP hD hS => ?_)
    have hP : va_P (dC, dI) ksCl [(xa, .inr (3, [.int (nI N), .ref ra, .ref sa, .ref aa, .int ac, .int (nI kc), .int (nI kl), .int 0, .int 0, .int (nI 0)])), (ra, .inr (0, [.ref rp, .ref rq, .int (nI g), .int (nI nr)])), (rp, .inl (cP, 664, .inl P)), (rq, .inl (cM, 664, .inl M))] H := hP
    have hD : va_D A [(xa, .inr (3, [.int (nI N), .ref ra, .ref sa, .ref aa, .int ac, .int (nI kc), .int (nI kl), .int 0, .int 0, .int (nI 0)])), (ra, .inr (0, [.ref rp, .ref rq, .int (nI g), .int (nI nr)])), (rp, .inl (cP, 664, .inl P)), (rq, .inl (cM, 664, .inl M))] := hD
    refine lv_iload_n hx hb dX3_close_66 rfl (lv_at hl 0 rfl) ?_
    refine lv_if_eq (tgt := 77) hx hb dX3_close_67 (by decide) (fun c67 => ?_) (fun c67 => absurd rfl c67)
    refine lv_iconst (v := -1) hx hb dX3_close_77 (by decide) ?_
    have hP9 : va_P (dC, dI) ksCl [(xa, .inr (3, [.int (nI N), .ref ra, .ref sa, .ref aa, .int ac, .int (nI kc), .int (nI kl), .int 0, .int 0, .int (nI 0)])), (ra, .inr (0, [.ref rp, .ref rq, .int (nI g), .int (nI nr)])), (rp, .inl (cP, 664, .inl P)), (rq, .inl (cM, 664, .inl M))] _ := hP
    have hD9 : va_D A [(xa, .inr (3, [.int (nI N), .ref ra, .ref sa, .ref aa, .int ac, .int (nI kc), .int (nI kl), .int 0, .int 0, .int (nI 0)])), (ra, .inr (0, [.ref rp, .ref rq, .int (nI g), .int (nI nr)])), (rp, .inl (cP, 664, .inl P)), (rq, .inl (cM, 664, .inl M))] := hD
    have hK9 : va_K (dC, dI) ksCl [(cP, .int), (cM, .int)] s := hK
    exact W.iret (v := -1) hx hb hr (fun t ht hW9 => ⟨⟨-1, (P, M, g, nr, kc, kl), rfl, Or.inl ⟨rfl, hno, rfl⟩, by rw [ht]; exact hP9, va_K.moved hW9.alike hK9, hD9⟩, hS.F ht⟩) hS.2.2 dX3_close_78
  · -- 7: goes on
    have h600 : kc < 600 := by
      rcases Nat.lt_or_ge kc 600 with q | q
      · exact q
      · exact absurd (nI_le q (by omega)) c7
    refine lv_aload_n hx hb dX3_close_10 rfl (lv_at hl 0 rfl) ?_
    refine va_get (D := (dC, dI)) (ci := 3) (v := .int (nI kl)) (C := RX3) (T := TX3) (N := 10) hx hb hts hiX3 hown hK hP 0 rfl rfl 6 (by decide) f62 (fun _ h9 => h9) rfl dX3_close_11 ?_
    refine lv_aload_n hx hb dX3_close_14 rfl (lv_at hl 0 rfl) ?_
    refine va_get (D := (dC, dI)) (ci := 3) (v := .int (nI km)) (C := RX3) (T := TX3) (N := 10) hx hb hts hiX3 hown hK hP 0 rfl rfl 9 (by decide) f46 (fun _ h9 => h9) rfl dX3_close_15 ?_
    refine lv_iadd hx hb dX3_close_18 ?_
    refine ks_top (y := nI (kl + km)) (nI_add kl km) ?_
    refine lv_sipush (v := nI 4000) hx hb dX3_close_19 (by decide) ?_
    refine lv_icmp_gt (tgt := 29) hx hb dX3_close_22 (by decide) (fun c22 => ?_) (fun c22 => ?_)
    · -- 22: jumps
      have h4 : 4000 < kl + km := (nI_ltI (by decide) (by omega)).mp c22
      have hno : ¬ (kc < 600 ∧ kl + km ≤ 4000) := by omega
      refine lv_iconst (v := 0) hx hb dX3_close_29 (by decide) ?_
      refine lv_istore_n (lv' := [(1, .int 0), (0, .ref xa)]) hx hb dX3_close_30 rfl hl (by decide) rfl (fun ls hl => ?_)
      refine lv_iload_n hx hb dX3_close_31 rfl (lv_at hl 0 rfl) ?_
      refine lv_if_eq (tgt := 62) hx hb dX3_close_32 (by decide) (fun c32 => ?_) (fun c32 => absurd rfl c32)
      refine lv_aload_n hx hb dX3_close_62 rfl (lv_at hl 1 rfl) ?_
      refine ks_callvV (As := []) (rest := []) (wr := [(ra, .inr (0, [.ref rp, .ref rq, .int (nI g), .int (nI nr)])), (rp, .inl (cP, 664, .inl P)), (rq, .inl (cM, 664, .inl M))]) (wz := fun _ => [(xa, .inr (3, [.int (nI N), .ref ra, .ref sa, .ref aa, .int ac, .int (nI kc), .int (nI kl), .int 0, .int 0, .int (nI 0)])), (ra, .inr (0, [.ref rp, .ref rq, .int (nI g), .int (nI nr)])), (rp, .inl (cP, 664, .inl P)), (rq, .inl (cM, 664, .inl M))]) ⟨hx, hb, hml, hown, hts⟩ (ks_forgetMade l dC dI xa ra sa aa N ac (nI kc) (nI kl) mp mm (nI km)) (cwV 0 hts gX3_close_X3_forgetMadeClause rfl rfl rfl (by decide +kernel) ⟨Nat.le_of_ble_eq_true rfl, Nat.le_of_ble_eq_true rfl⟩) hK hP hD hS hA hNW [0] [1, 2, 3] [] [3, 0, 1, 2] rfl rfl rfl rfl (by decide) (by decide) (by decide) (ci := 3) (q0 := 0) rfl rfl rfl (fun _ => rfl) (fun _ => rfl) (by decide) rfl hl.1 rfl (Nat.le_of_ble_eq_true rfl) dX3_close_63 ⟨Nat.le_of_ble_eq_true rfl, Nat.le_of_ble_eq_true rfl⟩ (fun u9 H locs hw9 hK9 hP hD hS => ?_)
      have hP : va_P (dC, dI) ksCl [(xa, .inr (3, [.int (nI N), .ref ra, .ref sa, .ref aa, .int ac, .int (nI kc), .int (nI kl), .int 0, .int 0, .int (nI 0)])), (ra, .inr (0, [.ref rp, .ref rq, .int (nI g), .int (nI nr)])), (rp, .inl (cP, 664, .inl P)), (rq, .inl (cM, 664, .inl M))] H := hP
      have hD : va_D A [(xa, .inr (3, [.int (nI N), .ref ra, .ref sa, .ref aa, .int ac, .int (nI kc), .int (nI kl), .int 0, .int 0, .int (nI 0)])), (ra, .inr (0, [.ref rp, .ref rq, .int (nI g), .int (nI nr)])), (rp, .inl (cP, 664, .inl P)), (rq, .inl (cM, 664, .inl M))] := hD
      refine lv_iload_n hx hb dX3_close_66 rfl (lv_at hl 0 rfl) ?_
      refine lv_if_eq (tgt := 77) hx hb dX3_close_67 (by decide) (fun c67 => ?_) (fun c67 => absurd rfl c67)
      refine lv_iconst (v := -1) hx hb dX3_close_77 (by decide) ?_
      have hP9 : va_P (dC, dI) ksCl [(xa, .inr (3, [.int (nI N), .ref ra, .ref sa, .ref aa, .int ac, .int (nI kc), .int (nI kl), .int 0, .int 0, .int (nI 0)])), (ra, .inr (0, [.ref rp, .ref rq, .int (nI g), .int (nI nr)])), (rp, .inl (cP, 664, .inl P)), (rq, .inl (cM, 664, .inl M))] _ := hP
      have hD9 : va_D A [(xa, .inr (3, [.int (nI N), .ref ra, .ref sa, .ref aa, .int ac, .int (nI kc), .int (nI kl), .int 0, .int 0, .int (nI 0)])), (ra, .inr (0, [.ref rp, .ref rq, .int (nI g), .int (nI nr)])), (rp, .inl (cP, 664, .inl P)), (rq, .inl (cM, 664, .inl M))] := hD
      have hK9 : va_K (dC, dI) ksCl [(cP, .int), (cM, .int)] s := hK
      exact W.iret (v := -1) hx hb hr (fun t ht hW9 => ⟨⟨-1, (P, M, g, nr, kc, kl), rfl, Or.inl ⟨rfl, hno, rfl⟩, by rw [ht]; exact hP9, va_K.moved hW9.alike hK9, hD9⟩, hS.F ht⟩) hS.2.2 dX3_close_78
    · -- 22: goes on
      have h4 : kl + km ≤ 4000 := by
        rcases Nat.lt_or_ge 4000 (kl + km) with q | q
        · exact absurd (nI_lt q (by omega)) c22
        · exact q
      refine lv_iconst (v := 1) hx hb dX3_close_25 (by decide) ?_
      refine lv_goto (tgt := 30) hx hb dX3_close_26 (by decide) ?_
      refine lv_istore_n (lv' := [(1, .int 1), (0, .ref xa)]) hx hb dX3_close_30 rfl hl (by decide) rfl (fun ls hl => ?_)
      refine lv_iload_n hx hb dX3_close_31 rfl (lv_at hl 0 rfl) ?_
      refine lv_if_eq (tgt := 62) hx hb dX3_close_32 (by decide) (fun c32 => absurd c32 (by decide)) (fun c32 => ?_)
      refine lv_aload_n hx hb dX3_close_35 rfl (lv_at hl 1 rfl) ?_
      refine lv_dup hx hb dX3_close_36 rfl ?_
      refine va_get (D := (dC, dI)) (ci := 3) (v := .int (nI kc)) (C := RX3) (T := TX3) (N := 10) hx hb hts hiX3 hown hK hP 0 rfl rfl 5 (by decide) f59 (fun _ h9 => h9) rfl dX3_close_37 ?_
      refine lv_iconst (v := 1) hx hb dX3_close_40 (by decide) ?_
      refine lv_iadd hx hb dX3_close_41 ?_
      refine ks_top (y := nI (kc + 1)) (nI_1 kc) ?_
      refine va_put (D := (dC, dI)) (ci := 3) (v := .int (nI (kc + 1))) (ty := .int) (C := RX3) (T := TX3) (N := 10) hx hb hts hiX3 tyX3 tyX3_ok nmX3 hown hK hP hD hS 0 rfl rfl 5 (by decide) f59 (fun _ h9 => h9) rfl (by decide +kernel) rfl rfl (Nat.le_of_ble_eq_true rfl) dX3_close_42 (fun H locs hP hD hS => ?_)
      have hP : va_P (dC, dI) ksCl [(xa, .inr (3, [.int (nI N), .ref ra, .ref sa, .ref aa, .int ac, .int (nI (kc + 1)), .int (nI kl), .int mp, .int mm, .int (nI km)])), (ra, .inr (0, [.ref rp, .ref rq, .int (nI g), .int (nI nr)])), (rp, .inl (cP, 664, .inl P)), (rq, .inl (cM, 664, .inl M))] H := hP
      have hD : va_D A [(xa, .inr (3, [.int (nI N), .ref ra, .ref sa, .ref aa, .int ac, .int (nI (kc + 1)), .int (nI kl), .int mp, .int mm, .int (nI km)])), (ra, .inr (0, [.ref rp, .ref rq, .int (nI g), .int (nI nr)])), (rp, .inl (cP, 664, .inl P)), (rq, .inl (cM, 664, .inl M))] := hD
      refine lv_aload_n hx hb dX3_close_45 rfl (lv_at hl 1 rfl) ?_
      refine lv_dup hx hb dX3_close_46 rfl ?_
      refine va_get (D := (dC, dI)) (ci := 3) (v := .int (nI kl)) (C := RX3) (T := TX3) (N := 10) hx hb hts hiX3 hown hK hP 0 rfl rfl 6 (by decide) f62 (fun _ h9 => h9) rfl dX3_close_47 ?_
      refine lv_aload_n hx hb dX3_close_50 rfl (lv_at hl 1 rfl) ?_
      refine va_get (D := (dC, dI)) (ci := 3) (v := .int (nI km)) (C := RX3) (T := TX3) (N := 10) hx hb hts hiX3 hown hK hP 0 rfl rfl 9 (by decide) f46 (fun _ h9 => h9) rfl dX3_close_51 ?_
      refine lv_iadd hx hb dX3_close_54 ?_
      refine ks_top (y := nI (kl + km)) (nI_add kl km) ?_
      refine va_put (D := (dC, dI)) (ci := 3) (v := .int (nI (kl + km))) (ty := .int) (C := RX3) (T := TX3) (N := 10) hx hb hts hiX3 tyX3 tyX3_ok nmX3 hown hK hP hD hS 0 rfl rfl 6 (by decide) f62 (fun _ h9 => h9) rfl (by decide +kernel) rfl rfl (Nat.le_of_ble_eq_true rfl) dX3_close_55 (fun H locs hP hD hS => ?_)
      have hP : va_P (dC, dI) ksCl [(xa, .inr (3, [.int (nI N), .ref ra, .ref sa, .ref aa, .int ac, .int (nI (kc + 1)), .int (nI (kl + km)), .int mp, .int mm, .int (nI km)])), (ra, .inr (0, [.ref rp, .ref rq, .int (nI g), .int (nI nr)])), (rp, .inl (cP, 664, .inl P)), (rq, .inl (cM, 664, .inl M))] H := hP
      have hD : va_D A [(xa, .inr (3, [.int (nI N), .ref ra, .ref sa, .ref aa, .int ac, .int (nI (kc + 1)), .int (nI (kl + km)), .int mp, .int mm, .int (nI km)])), (ra, .inr (0, [.ref rp, .ref rq, .int (nI g), .int (nI nr)])), (rp, .inl (cP, 664, .inl P)), (rq, .inl (cM, 664, .inl M))] := hD
      refine lv_aload_n hx hb dX3_close_58 rfl (lv_at hl 1 rfl) ?_
      refine ks_callvV (As := []) (rest := []) (wr := []) (wz := fun u => [(xa, .inr (3, [.int (nI N), .ref ra, .ref sa, .ref aa, .int ac, .int (nI (kc + 1)), .int (nI (kl + km)), .int mp, .int mm, .int (nI km)])), (ra, .inr (0, [.ref rp, .ref rq, .int (nI u.2.2.1), .int (nI u.2.2.2)])), (rp, .inl (cP, 664, .inl u.1)), (rq, .inl (cM, 664, .inl u.2.1))]) ⟨hx, hb, hml, hown, hts⟩ (ks_takeMade l dC dI xa sa aa ra rp rq cP cM N ac (nI (kc + 1)) (nI (kl + km)) mp mm (nI km) P M g nr hW (by omega) hmk) (cwV 0 hts gX3_close_X3_takeMadeClause rfl rfl rfl (by decide +kernel) ⟨Nat.le_of_ble_eq_true rfl, Nat.le_of_ble_eq_true rfl⟩) hK hP hD hS hA hNW [0, 1, 2, 3] [] [0, 1] [0, 1, 2, 3] rfl rfl rfl rfl (by decide) (by decide) (by decide) (ci := 3) (q0 := 0) rfl rfl rfl (fun _ => rfl) (fun _ => rfl) (by decide) rfl hl.1 rfl (Nat.le_of_ble_eq_true rfl) dX3_close_59 ⟨Nat.le_of_ble_eq_true rfl, Nat.le_of_ble_eq_true rfl⟩ (fun u9 H locs hw9 hK9 hP hD hS => ?_)
      obtain ⟨P1, M1, g1, n1⟩ := u9
      obtain ⟨t1, t2, t3⟩ := hw9
      have hP : va_P (dC, dI) ksCl [(xa, .inr (3, [.int (nI N), .ref ra, .ref sa, .ref aa, .int ac, .int (nI (kc + 1)), .int (nI (kl + km)), .int mp, .int mm, .int (nI km)])), (ra, .inr (0, [.ref rp, .ref rq, .int (nI g1), .int (nI n1)])), (rp, .inl (cP, 664, .inl P1)), (rq, .inl (cM, 664, .inl M1))] H := hP
      have hD : va_D A [(xa, .inr (3, [.int (nI N), .ref ra, .ref sa, .ref aa, .int ac, .int (nI (kc + 1)), .int (nI (kl + km)), .int mp, .int mm, .int (nI km)])), (ra, .inr (0, [.ref rp, .ref rq, .int (nI g1), .int (nI n1)])), (rp, .inl (cP, 664, .inl P1)), (rq, .inl (cM, 664, .inl M1))] := hD
      refine lv_aload_n hx hb dX3_close_62 rfl (lv_at hl 1 rfl) ?_
      refine ks_callvV (As := []) (rest := []) (wr := [(ra, .inr (0, [.ref rp, .ref rq, .int (nI g1), .int (nI n1)])), (rp, .inl (cP, 664, .inl P1)), (rq, .inl (cM, 664, .inl M1))]) (wz := fun _ => [(xa, .inr (3, [.int (nI N), .ref ra, .ref sa, .ref aa, .int ac, .int (nI (kc + 1)), .int (nI (kl + km)), .int 0, .int 0, .int (nI 0)])), (ra, .inr (0, [.ref rp, .ref rq, .int (nI g1), .int (nI n1)])), (rp, .inl (cP, 664, .inl P1)), (rq, .inl (cM, 664, .inl M1))]) ⟨hx, hb, hml, hown, hts⟩ (ks_forgetMade l dC dI xa ra sa aa N ac (nI (kc + 1)) (nI (kl + km)) mp mm (nI km)) (cwV 0 hts gX3_close_X3_forgetMadeClause rfl rfl rfl (by decide +kernel) ⟨Nat.le_of_ble_eq_true rfl, Nat.le_of_ble_eq_true rfl⟩) hK hP hD hS hA hNW [0] [1, 2, 3] [] [3, 0, 1, 2] rfl rfl rfl rfl (by decide) (by decide) (by decide) (ci := 3) (q0 := 0) rfl rfl rfl (fun _ => rfl) (fun _ => rfl) (by decide) rfl hl.1 rfl (Nat.le_of_ble_eq_true rfl) dX3_close_63 ⟨Nat.le_of_ble_eq_true rfl, Nat.le_of_ble_eq_true rfl⟩ (fun u9 H locs hw9 hK9 hP hD hS => ?_)
      have hP : va_P (dC, dI) ksCl [(xa, .inr (3, [.int (nI N), .ref ra, .ref sa, .ref aa, .int ac, .int (nI (kc + 1)), .int (nI (kl + km)), .int 0, .int 0, .int (nI 0)])), (ra, .inr (0, [.ref rp, .ref rq, .int (nI g1), .int (nI n1)])), (rp, .inl (cP, 664, .inl P1)), (rq, .inl (cM, 664, .inl M1))] H := hP
      have hD : va_D A [(xa, .inr (3, [.int (nI N), .ref ra, .ref sa, .ref aa, .int ac, .int (nI (kc + 1)), .int (nI (kl + km)), .int 0, .int 0, .int (nI 0)])), (ra, .inr (0, [.ref rp, .ref rq, .int (nI g1), .int (nI n1)])), (rp, .inl (cP, 664, .inl P1)), (rq, .inl (cM, 664, .inl M1))] := hD
      refine lv_iload_n hx hb dX3_close_66 rfl (lv_at hl 0 rfl) ?_
      refine lv_if_eq (tgt := 77) hx hb dX3_close_67 (by decide) (fun c67 => absurd c67 (by decide)) (fun c67 => ?_)
      refine lv_aload_n hx hb dX3_close_70 rfl (lv_at hl 1 rfl) ?_
      refine va_get (D := (dC, dI)) (ci := 3) (v := .int (nI (kc + 1))) (C := RX3) (T := TX3) (N := 10) hx hb hts hiX3 hown hK hP 0 rfl rfl 5 (by decide) f59 (fun _ h9 => h9) rfl dX3_close_71 ?_
      refine lv_goto (tgt := 78) hx hb dX3_close_74 (by decide) ?_
      have hP9 : va_P (dC, dI) ksCl [(xa, .inr (3, [.int (nI N), .ref ra, .ref sa, .ref aa, .int ac, .int (nI (kc + 1)), .int (nI (kl + km)), .int 0, .int 0, .int (nI 0)])), (ra, .inr (0, [.ref rp, .ref rq, .int (nI g1), .int (nI n1)])), (rp, .inl (cP, 664, .inl P1)), (rq, .inl (cM, 664, .inl M1))] _ := hP
      have hD9 : va_D A [(xa, .inr (3, [.int (nI N), .ref ra, .ref sa, .ref aa, .int ac, .int (nI (kc + 1)), .int (nI (kl + km)), .int 0, .int 0, .int (nI 0)])), (ra, .inr (0, [.ref rp, .ref rq, .int (nI g1), .int (nI n1)])), (rp, .inl (cP, 664, .inl P1)), (rq, .inl (cM, 664, .inl M1))] := hD
      have hK9 : va_K (dC, dI) ksCl [(cP, .int), (cM, .int)] s := hK
      exact W.iret (v := nI (kc + 1)) hx hb hr (fun t ht hW9 => ⟨⟨nI (kc + 1), (P1, M1, g1, n1, kc + 1, kl + km), rfl, Or.inr ⟨rfl, h600, h4, rfl, rfl, t1, Nat.le_trans t2 (by omega), t3⟩, by rw [ht]; exact hP9, va_K.moved hW9.alike hK9, hD9⟩, hS.F ht⟩) hS.2.2 dX3_close_78
end
section
set_option maxHeartbeats 4000000 in
set_option maxRecDepth 100000 in
/-- assume -/
theorem ks_assume (l : Launch) (dC : Nat → ClassId) (dI : Nat → Nat → Nat) (xa ra sa aa : Nat) (cA : ClassId) (N : Nat) (kc kl mp mm km : Int32) (AS : Nat → Int32) (ac : Nat) (x0 : Int32) (hN : N ≤ 16) (hac : ac ≤ 40) : ks_Mi l yX3_assume wsX3_assume ({ frames := 1, cells := 0, slots := 0, locals := 21 }) (dC, dI) [.ref xa, .int x0] [(xa, .inr (3, [.int (nI N), .ref ra, .ref sa, .ref aa, .int (nI ac), .int kc, .int kl, .int mp, .int mm, .int km])), (aa, .inl (cA, 40, .inl AS))] [(cA, .int)] 0 0 (S := (Nat → Int32) × Nat) (fun r u => (r = -1 ∧ ((¬ ∃ v, ks_lit N x0 v) ∨ 40 ≤ ac) ∧ u = (AS, ac)) ∨ (r = nI (ac + 1) ∧ ac < 40 ∧ (∃ v, ks_lit N x0 v) ∧ u = (upd AS ac x0, ac + 1))) (fun u => [(xa, .inr (3, [.int (nI N), .ref ra, .ref sa, .ref aa, .int (nI u.2), .int kc, .int kl, .int mp, .int mm, .int km])), (aa, .inl (cA, 40, .inl u.1))]) (fun u => [(cA, .int)]) := by
  intro sz
  refine Met.ofW (cc := cX3_assume) (maxL := 2) (ret := (some .int)) (by decide) rfl ?_
  intro p e s m args below meth c s₁ B9 hml hv
  obtain ⟨rfl, hsz, hP, hK, hD0, hNW⟩ := hv
  have hx := B9.exec
  have hb := B9.bytes
  have hr := B9.returns
  have hts := atoms_spec (ws := wsX3_assume) B9.pre
  have hown : s.vm.findClass RX3 = some m.cls := findClass_of_methodNamed B9.named
  have hlocks := B9.notSynchronized
  subst hsz
  have hD := hD0.self (sz := s.heap.size)
  generalize hAe : va_A [(xa, .inr (3, [.int (nI N), .ref ra, .ref sa, .ref aa, .int (nI ac), .int kc, .int kl, .int mp, .int mm, .int km])), (aa, .inl (cA, 40, .inl AS))] s.heap.size = A at hD ⊢
  have hA : ∀ q : Nat, s.heap.size ≤ q → A q := fun q h => by rw [← hAe]; exact Or.inr h
  have hS : va_S A s.heap s.heap [] := va_S.rf
  have hiX3 : ∀ w ∈ u_ws RX3 TX3 10, w ∈ wsX3_assume := by decide +kernel
  have f38 := hts (.fieldLink RX3 38 "LessonSolver" "assumptions" "[I") (by decide +kernel)
  have f71 := hts (.fieldLink RX3 71 "LessonSolver" "assumptionCount" "I") (by decide +kernel)
  have hl := lv_entry ([.ref xa, .int x0]) (n := 2) (Nat.le_of_ble_eq_true rfl)
  rw [lg_entry_eq]
  generalize (lg_sl ([.ref xa, .int x0]) ++ List.replicate (2 - (lg_sl ([.ref xa, .int x0])).length) Slot.unset).toArray = ls at hl ⊢
  have hl : lv_has ls 2 [(0, .ref xa), (1, .int x0)] := hl
  refine lv_aload_n hx hb dX3_assume_0 rfl (lv_at hl 0 rfl) ?_
  refine lv_iload_n hx hb dX3_assume_1 rfl (lv_at hl 1 rfl) ?_
  refine ks_calliV (As := [.int x0]) (rest := []) (wr := [(aa, .inl (cA, 40, .inl AS))]) (wz := fun _ => [(xa, .inr (3, [.int (nI N), .ref ra, .ref sa, .ref aa, .int (nI ac), .int kc, .int kl, .int mp, .int mm, .int km])), (aa, .inl (cA, 40, .inl AS))]) ⟨hx, hb, hml, hown, hts⟩ (ks_isLiteral l dC dI xa ra sa aa N (nI ac) kc kl mp mm km x0 hN) (cwV 1 hts gX3_assume_X3_isLiteral rfl rfl rfl (by decide +kernel) ⟨Nat.le_of_ble_eq_true rfl, Nat.le_of_ble_eq_true rfl⟩) hK hP hD hS hA hNW [0] [1] [] [1, 0] rfl rfl rfl rfl (by decide) (by decide) (by decide) (ci := 3) (q0 := 0) rfl rfl rfl (fun _ => rfl) (fun _ => rfl) (by decide) rfl hl.1 rfl (Nat.le_of_ble_eq_true rfl) dX3_assume_2 ⟨Nat.le_of_ble_eq_true rfl, Nat.le_of_ble_eq_true rfl⟩ (fun r1 u9 H locs hw9 hK9 hP hD hS => ?_)
  have hw1 := hw9
  have hP : va_P (dC, dI) ksCl [(xa, .inr (3, [.int (nI N), .ref ra, .ref sa, .ref aa, .int (nI ac), .int kc, .int kl, .int mp, .int mm, .int km])), (aa, .inl (cA, 40, .inl AS))] H := hP
  have hD : va_D A [(xa, .inr (3, [.int (nI N), .ref ra, .ref sa, .ref aa, .int (nI ac), .int kc, .int kl, .int mp, .int mm, .int km])), (aa, .inl (cA, 40, .inl AS))] := hD
  refine lv_if_eq (tgt := 17) hx hb dX3_assume_5 (by decide) (fun c5 => ?_) (fun c5 => ?_)
  · -- 5: jumps
    have hno : (¬ ∃ v, ks_lit N x0 v) ∨ 40 ≤ ac := Or.inl (by
      rcases hw1 with q | q
      · exact absurd (q.1.symm.trans c5) (by decide)
      · exact q.2)
    refine lv_iconst (v := -1) hx hb dX3_assume_17 (by decide) ?_
    have hP9 : va_P (dC, dI) ksCl [(xa, .inr (3, [.int (nI N), .ref ra, .ref sa, .ref aa, .int (nI ac), .int kc, .int kl, .int mp, .int mm, .int km])), (aa, .inl (cA, 40, .inl AS))] _ := hP
    have hD9 : va_D A [(xa, .inr (3, [.int (nI N), .ref ra, .ref sa, .ref aa, .int (nI ac), .int kc, .int kl, .int mp, .int mm, .int km])), (aa, .inl (cA, 40, .inl AS))] := hD
    have hK9 : va_K (dC, dI) ksCl [(cA, .int)] s := hK
    exact W.iret (v := -1) hx hb hr (fun t ht hW9 => ⟨⟨-1, (AS, ac), rfl, Or.inl ⟨rfl, hno, rfl⟩, by rw [ht]; exact hP9, va_K.moved hW9.alike hK9, hD9⟩, hS.F ht⟩) hS.2.2 dX3_assume_18
  · -- 5: goes on
    refine lv_aload_n hx hb dX3_assume_8 rfl (lv_at hl 0 rfl) ?_
    refine va_get (D := (dC, dI)) (ci := 3) (v := .int (nI ac)) (C := RX3) (T := TX3) (N := 10) hx hb hts hiX3 hown hK hP 0 rfl rfl 4 (by decide) f71 (fun _ h9 => h9) rfl dX3_assume_9 ?_
    refine lv_bipush (v := nI 40) hx hb dX3_assume_12 (by decide) ?_
    refine lv_icmp_lt (tgt := 19) hx hb dX3_assume_14 (by decide) (fun c14 => ?_) (fun c14 => ?_)
    · -- 14: jumps
      have h40 : ac < 40 := (nI_ltI (by omega) (by decide)).mp c14
      have hv : ∃ v, ks_lit N x0 v := by
        rcases hw1 with q | q
        · exact q.2
        · exact absurd q.1 c5
      refine lv_aload_n hx hb dX3_assume_19 rfl (lv_at hl 0 rfl) ?_
      refine va_get (D := (dC, dI)) (ci := 3) (v := .ref aa) (C := RX3) (T := TX3) (N := 10) hx hb hts hiX3 hown hK hP 0 rfl rfl 3 (by decide) f38 (fun _ h9 => h9) rfl dX3_assume_20 ?_
      refine lv_aload_n hx hb dX3_assume_23 rfl (lv_at hl 0 rfl) ?_
      refine va_get (D := (dC, dI)) (ci := 3) (v := .int (nI ac)) (C := RX3) (T := TX3) (N := 10) hx hb hts hiX3 hown hK hP 0 rfl rfl 4 (by decide) f71 (fun _ h9 => h9) rfl dX3_assume_24 ?_
      refine lv_iload_n hx hb dX3_assume_27 rfl (lv_at hl 1 rfl) ?_
      refine ks_ast hx hb hK hP hD hS 1 0 rfl rfl (j := ac) (by omega) (by decide) dX3_assume_28 (fun H locs hP hD hS => ?_)
      have hP : va_P (dC, dI) ksCl [(xa, .inr (3, [.int (nI N), .ref ra, .ref sa, .ref aa, .int (nI ac), .int kc, .int kl, .int mp, .int mm, .int km])), (aa, .inl (cA, 40, .inl (upd AS ac x0)))] H := hP
      have hD : va_D A [(xa, .inr (3, [.int (nI N), .ref ra, .ref sa, .ref aa, .int (nI ac), .int kc, .int kl, .int mp, .int mm, .int km])), (aa, .inl (cA, 40, .inl (upd AS ac x0)))] := hD
      refine lv_aload_n hx hb dX3_assume_29 rfl (lv_at hl 0 rfl) ?_
      refine lv_dup hx hb dX3_assume_30 rfl ?_
      refine va_get (D := (dC, dI)) (ci := 3) (v := .int (nI ac)) (C := RX3) (T := TX3) (N := 10) hx hb hts hiX3 hown hK hP 0 rfl rfl 4 (by decide) f71 (fun _ h9 => h9) rfl dX3_assume_31 ?_
      refine lv_iconst (v := 1) hx hb dX3_assume_34 (by decide) ?_
      refine lv_iadd hx hb dX3_assume_35 ?_
      refine ks_top (y := nI (ac + 1)) (nI_1 ac) ?_
      refine va_put (D := (dC, dI)) (ci := 3) (v := .int (nI (ac + 1))) (ty := .int) (C := RX3) (T := TX3) (N := 10) hx hb hts hiX3 tyX3 tyX3_ok nmX3 hown hK hP hD hS 0 rfl rfl 4 (by decide) f71 (fun _ h9 => h9) rfl (by decide +kernel) rfl rfl (Nat.le_of_ble_eq_true rfl) dX3_assume_36 (fun H locs hP hD hS => ?_)
      have hP : va_P (dC, dI) ksCl [(xa, .inr (3, [.int (nI N), .ref ra, .ref sa, .ref aa, .int (nI (ac + 1)), .int kc, .int kl, .int mp, .int mm, .int km])), (aa, .inl (cA, 40, .inl (upd AS ac x0)))] H := hP
      have hD : va_D A [(xa, .inr (3, [.int (nI N), .ref ra, .ref sa, .ref aa, .int (nI (ac + 1)), .int kc, .int kl, .int mp, .int mm, .int km])), (aa, .inl (cA, 40, .inl (upd AS ac x0)))] := hD
      refine lv_aload_n hx hb dX3_assume_39 rfl (lv_at hl 0 rfl) ?_
      refine va_get (D := (dC, dI)) (ci := 3) (v := .int (nI (ac + 1))) (C := RX3) (T := TX3) (N := 10) hx hb hts hiX3 hown hK hP 0 rfl rfl 4 (by decide) f71 (fun _ h9 => h9) rfl dX3_assume_40 ?_
      have hP9 : va_P (dC, dI) ksCl [(xa, .inr (3, [.int (nI N), .ref ra, .ref sa, .ref aa, .int (nI (ac + 1)), .int kc, .int kl, .int mp, .int mm, .int km])), (aa, .inl (cA, 40, .inl (upd AS ac x0)))] _ := hP
      have hD9 : va_D A [(xa, .inr (3, [.int (nI N), .ref ra, .ref sa, .ref aa, .int (nI (ac + 1)), .int kc, .int kl, .int mp, .int mm, .int km])), (aa, .inl (cA, 40, .inl (upd AS ac x0)))] := hD
      have hK9 : va_K (dC, dI) ksCl [(cA, .int)] s := hK
      exact W.iret (v := nI (ac + 1)) hx hb hr (fun t ht hW9 => ⟨⟨nI (ac + 1), (upd AS ac x0, ac + 1), rfl, Or.inr ⟨rfl, h40, hv, rfl⟩, by rw [ht]; exact hP9, va_K.moved hW9.alike hK9, hD9⟩, hS.F ht⟩) hS.2.2 dX3_assume_43
    · -- 14: goes on
      have hno : (¬ ∃ v, ks_lit N x0 v) ∨ 40 ≤ ac := Or.inr (by
        rcases Nat.lt_or_ge ac 40 with q | q
        · exact absurd (nI_lt q (by decide)) c14
        · exact q)
      refine lv_iconst (v := -1) hx hb dX3_assume_17 (by decide) ?_
      have hP9 : va_P (dC, dI) ksCl [(xa, .inr (3, [.int (nI N), .ref ra, .ref sa, .ref aa, .int (nI ac), .int kc, .int kl, .int mp, .int mm, .int km])), (aa, .inl (cA, 40, .inl AS))] _ := hP
      have hD9 : va_D A [(xa, .inr (3, [.int (nI N), .ref ra, .ref sa, .ref aa, .int (nI ac), .int kc, .int kl, .int mp, .int mm, .int km])), (aa, .inl (cA, 40, .inl AS))] := hD
      have hK9 : va_K (dC, dI) ksCl [(cA, .int)] s := hK
      exact W.iret (v := -1) hx hb hr (fun t ht hW9 => ⟨⟨-1, (AS, ac), rfl, Or.inl ⟨rfl, hno, rfl⟩, by rw [ht]; exact hP9, va_K.moved hW9.alike hK9, hD9⟩, hS.F ht⟩) hS.2.2 dX3_assume_18
end
section
set_option maxHeartbeats 4000000 in
set_option maxRecDepth 100000 in
/-- retract -/
theorem ks_retract (l : Launch) (dC : Nat → ClassId) (dI : Nat → Nat → Nat) (xa ra sa aa : Nat) (N : Nat) (kc kl mp mm km : Int32) (ac : Nat) (x0 : Int32) (hac : ac ≤ 40) : ks_Mi l yX3_retract wsX3_retract ({ frames := 0, cells := 0, slots := 0, locals := 0 }) (dC, dI) [.ref xa, .int x0] [(xa, .inr (3, [.int (nI N), .ref ra, .ref sa, .ref aa, .int (nI ac), .int kc, .int kl, .int mp, .int mm, .int km]))] [] 0 0 (S := Nat) (fun r u => (r = -1 ∧ (x0 < 0 ∨ nI ac < x0) ∧ u = ac) ∨ (∃ j, x0 = nI j ∧ j ≤ ac ∧ u = ac - j ∧ r = nI (ac - j))) (fun u => [(xa, .inr (3, [.int (nI N), .ref ra, .ref sa, .ref aa, .int (nI u), .int kc, .int kl, .int mp, .int mm, .int km]))]) (fun u => []) := by
  intro sz
  refine Met.ofW (cc := cX3_retract) (maxL := 2) (ret := (some .int)) (by decide) rfl ?_
  intro p e s m args below meth c s₁ B9 hml hv
  obtain ⟨rfl, hsz, hP, hK, hD0, hNW⟩ := hv
  have hx := B9.exec
  have hb := B9.bytes
  have hr := B9.returns
  have hts := atoms_spec (ws := wsX3_retract) B9.pre
  have hown : s.vm.findClass RX3 = some m.cls := findClass_of_methodNamed B9.named
  have hlocks := B9.notSynchronized
  subst hsz
  have hD := hD0.self (sz := s.heap.size)
  generalize hAe : va_A [(xa, .inr (3, [.int (nI N), .ref ra, .ref sa, .ref aa, .int (nI ac), .int kc, .int kl, .int mp, .int mm, .int km]))] s.heap.size = A at hD ⊢
  have hA : ∀ q : Nat, s.heap.size ≤ q → A q := fun q h => by rw [← hAe]; exact Or.inr h
  have hS : va_S A s.heap s.heap [] := va_S.rf
  have hiX3 : ∀ w ∈ u_ws RX3 TX3 10, w ∈ wsX3_retract := by decide +kernel
  have f71 := hts (.fieldLink RX3 71 "LessonSolver" "assumptionCount" "I") (by decide +kernel)
  have hl := lv_entry ([.ref xa, .int x0]) (n := 2) (Nat.le_of_ble_eq_true rfl)
  rw [lg_entry_eq]
  generalize (lg_sl ([.ref xa, .int x0]) ++ List.replicate (2 - (lg_sl ([.ref xa, .int x0])).length) Slot.unset).toArray = ls at hl ⊢
  have hl : lv_has ls 2 [(0, .ref xa), (1, .int x0)] := hl
  refine lv_iload_n hx hb dX3_retract_0 rfl (lv_at hl 1 rfl) ?_
  refine lv_if_lt (tgt := 12) hx hb dX3_retract_1 (by decide) (fun c1 => ?_) (fun c1 => ?_)
  · -- 1: jumps
    have hno : x0 < 0 ∨ nI ac < x0 := Or.inl c1
    refine lv_iconst (v := -1) hx hb dX3_retract_12 (by decide) ?_
    have hP9 : va_P (dC, dI) ksCl [(xa, .inr (3, [.int (nI N), .ref ra, .ref sa, .ref aa, .int (nI ac), .int kc, .int kl, .int mp, .int mm, .int km]))] _ := hP
    have hD9 : va_D A [(xa, .inr (3, [.int (nI N), .ref ra, .ref sa, .ref aa, .int (nI ac), .int kc, .int kl, .int mp, .int mm, .int km]))] := hD
    have hK9 : va_K (dC, dI) ksCl [] s := hK
    exact W.iret (v := -1) hx hb hr (fun t ht hW9 => ⟨⟨-1, ac, rfl, Or.inl ⟨rfl, hno, rfl⟩, by rw [ht]; exact hP9, va_K.moved hW9.alike hK9, hD9⟩, hS.F ht⟩) hS.2.2 dX3_retract_13
  · -- 1: goes on
    obtain ⟨j, hj, ej⟩ := nI_of c1
    subst ej
    refine lv_iload_n hx hb dX3_retract_4 rfl (lv_at hl 1 rfl) ?_
    refine lv_aload_n hx hb dX3_retract_5 rfl (lv_at hl 0 rfl) ?_
    refine va_get (D := (dC, dI)) (ci := 3) (v := .int (nI ac)) (C := RX3) (T := TX3) (N := 10) hx hb hts hiX3 hown hK hP 0 rfl rfl 4 (by decide) f71 (fun _ h9 => h9) rfl dX3_retract_6 ?_
    refine lv_icmp_le (tgt := 14) hx hb dX3_retract_9 (by decide) (fun c9 => ?_) (fun c9 => ?_)
    · -- 9: jumps
      have hja : j ≤ ac := (nI_leI hj (by omega)).mp c9
      refine lv_aload_n hx hb dX3_retract_14 rfl (lv_at hl 0 rfl) ?_
      refine lv_dup hx hb dX3_retract_15 rfl ?_
      refine va_get (D := (dC, dI)) (ci := 3) (v := .int (nI ac)) (C := RX3) (T := TX3) (N := 10) hx hb hts hiX3 hown hK hP 0 rfl rfl 4 (by decide) f71 (fun _ h9 => h9) rfl dX3_retract_16 ?_
      refine lv_iload_n hx hb dX3_retract_19 rfl (lv_at hl 1 rfl) ?_
      refine lv_isub hx hb dX3_retract_20 ?_
      refine ks_top (y := nI (ac - j)) (pk_sub hja) ?_
      refine va_put (D := (dC, dI)) (ci := 3) (v := .int (nI (ac - j))) (ty := .int) (C := RX3) (T := TX3) (N := 10) hx hb hts hiX3 tyX3 tyX3_ok nmX3 hown hK hP hD hS 0 rfl rfl 4 (by decide) f71 (fun _ h9 => h9) rfl (by decide +kernel) rfl rfl (Nat.le_of_ble_eq_true rfl) dX3_retract_21 (fun H locs hP hD hS => ?_)
      have hP : va_P (dC, dI) ksCl [(xa, .inr (3, [.int (nI N), .ref ra, .ref sa, .ref aa, .int (nI (ac - j)), .int kc, .int kl, .int mp, .int mm, .int km]))] H := hP
      have hD : va_D A [(xa, .inr (3, [.int (nI N), .ref ra, .ref sa, .ref aa, .int (nI (ac - j)), .int kc, .int kl, .int mp, .int mm, .int km]))] := hD
      refine lv_aload_n hx hb dX3_retract_24 rfl (lv_at hl 0 rfl) ?_
      refine va_get (D := (dC, dI)) (ci := 3) (v := .int (nI (ac - j))) (C := RX3) (T := TX3) (N := 10) hx hb hts hiX3 hown hK hP 0 rfl rfl 4 (by decide) f71 (fun _ h9 => h9) rfl dX3_retract_25 ?_
      have hP9 : va_P (dC, dI) ksCl [(xa, .inr (3, [.int (nI N), .ref ra, .ref sa, .ref aa, .int (nI (ac - j)), .int kc, .int kl, .int mp, .int mm, .int km]))] _ := hP
      have hD9 : va_D A [(xa, .inr (3, [.int (nI N), .ref ra, .ref sa, .ref aa, .int (nI (ac - j)), .int kc, .int kl, .int mp, .int mm, .int km]))] := hD
      have hK9 : va_K (dC, dI) ksCl [] s := hK
      exact W.iret (v := nI (ac - j)) hx hb hr (fun t ht hW9 => ⟨⟨nI (ac - j), (ac - j), rfl, Or.inr ⟨j, rfl, hja, rfl, rfl⟩, by rw [ht]; exact hP9, va_K.moved hW9.alike hK9, hD9⟩, hS.F ht⟩) hS.2.2 dX3_retract_28
    · -- 9: goes on
      have hno : nI j < 0 ∨ nI ac < nI j := Or.inr (by rw [Int32.not_le] at c9; exact c9)
      refine lv_iconst (v := -1) hx hb dX3_retract_12 (by decide) ?_
      have hP9 : va_P (dC, dI) ksCl [(xa, .inr (3, [.int (nI N), .ref ra, .ref sa, .ref aa, .int (nI ac), .int kc, .int kl, .int mp, .int mm, .int km]))] _ := hP
      have hD9 : va_D A [(xa, .inr (3, [.int (nI N), .ref ra, .ref sa, .ref aa, .int (nI ac), .int kc, .int kl, .int mp, .int mm, .int km]))] := hD
      have hK9 : va_K (dC, dI) ksCl [] s := hK
      exact W.iret (v := -1) hx hb hr (fun t ht hW9 => ⟨⟨-1, ac, rfl, Or.inl ⟨rfl, hno, rfl⟩, by rw [ht]; exact hP9, va_K.moved hW9.alike hK9, hD9⟩, hS.F ht⟩) hS.2.2 dX3_retract_13
end
section
/-! words of callees among the callers' (by program) -/
theorem gX3_wipe_X0_clear : GoodIn wsX3_wipe (wsV RX3 83 RX0 yX0_clear wsX0_clear) := ks_GI (by decide +kernel) (ks_wt (by decide +kernel))
theorem gX3_wipe_X3_forgetMadeClause : GoodIn wsX3_wipe (wsV RX3 68 RX3 yX3_forgetMadeClause wsX3_forgetMadeClause) := ks_GI (by decide +kernel) (by decide +kernel)
theorem gX4_init_X4_clear : GoodIn wsX4_init (wsV RX4 33 RX4 yX4_clear wsX4_clear) := ks_GI (by decide +kernel) (ks_wt (by decide +kernel))
theorem gX4_add_X4_isLiteral : GoodIn wsX4_add (wsV RX4 65 RX4 yX4_isLiteral wsX4_isLiteral) := ks_GI (by decide +kernel) (ks_wt (by decide +kernel))
theorem gX4_close_X4_row : GoodIn wsX4_close (wsV RX4 69 RX4 yX4_row wsX4_row) := ks_GI (by decide +kernel) (ks_wt (by decide +kernel))
theorem gX4_assume_X4_isLiteral : GoodIn wsX4_assume (wsV RX4 65 RX4 yX4_isLiteral wsX4_isLiteral) := ks_GI (by decide +kernel) (ks_wt (by decide +kernel))
theorem gX4_leaves_X4_row : GoodIn wsX4_leaves (wsV RX4 69 RX4 yX4_row wsX4_row) := ks_GI (by decide +kernel) (ks_wt (by decide +kernel))
theorem gX4_solve_X4_leaves : GoodIn wsX4_solve (wsV RX4 73 RX4 yX4_leaves wsX4_leaves) := ks_GI (by decide +kernel) (ks_wt (by decide +kernel))
theorem gX4_least_X4_leaves : GoodIn wsX4_least (wsV RX4 73 RX4 yX4_leaves wsX4_leaves) := ks_GI (by decide +kernel) (ks_wt (by decide +kernel))
theorem gX4_implied_X4_isLiteral : GoodIn wsX4_implied (wsV RX4 65 RX4 yX4_isLiteral wsX4_isLiteral) := ks_GI (by decide +kernel) (ks_wt (by decide +kernel))
theorem gX4_implied_X4_leaves : GoodIn wsX4_implied (wsV RX4 73 RX4 yX4_leaves wsX4_leaves) := ks_GI (by decide +kernel) (ks_wt (by decide +kernel))
theorem gX4_implied_X4_row : GoodIn wsX4_implied (wsV RX4 69 RX4 yX4_row wsX4_row) := ks_GI (by decide +kernel) (ks_wt (by decide +kernel))
theorem gX4_core_X4_leaves : GoodIn wsX4_core (wsV RX4 73 RX4 yX4_leaves wsX4_leaves) := ks_GI (by decide +kernel) (ks_wt (by decide +kernel))
theorem gX4_wipe_X4_clear : GoodIn wsX4_wipe (wsV RX4 33 RX4 yX4_clear wsX4_clear) := ks_GI (by decide +kernel) (ks_wt (by decide +kernel))
theorem gL_law_X4_add : GoodIn lw_tbl (wsV RL 25 RX4 yX4_add wsX4_add) := ks_GI0 (by decide +kernel) (ks_wt (by decide +kernel))
theorem gL_law_X4_close : GoodIn lw_tbl (wsV RL 30 RX4 yX4_close wsX4_close) := ks_GI0 (by decide +kernel) (ks_wt (by decide +kernel))
theorem gL_law_X4_assume : GoodIn lw_tbl (wsV RL 35 RX4 yX4_assume wsX4_assume) := ks_GI0 (by decide +kernel) (ks_wt (by decide +kernel))
theorem gL_law_X4_retract : GoodIn lw_tbl (wsV RL 39 RX4 yX4_retract wsX4_retract) := ks_GI0 (by decide +kernel) (ks_wt (by decide +kernel))
theorem gL_law_X4_solve : GoodIn lw_tbl (wsV RL 44 RX4 yX4_solve wsX4_solve) := ks_GI0 (by decide +kernel) (ks_wt (by decide +kernel))
theorem gL_law_X4_least : GoodIn lw_tbl (wsV RL 48 RX4 yX4_least wsX4_least) := ks_GI0 (by decide +kernel) (ks_wt (by decide +kernel))
theorem gL_law_X4_implied : GoodIn lw_tbl (wsV RL 52 RX4 yX4_implied wsX4_implied) := ks_GI0 (by decide +kernel) (ks_wt (by decide +kernel))
theorem gL_law_X4_core : GoodIn lw_tbl (wsV RL 57 RX4 yX4_core wsX4_core) := ks_GI0 (by decide +kernel) (ks_wt (by decide +kernel))
theorem gL_law_X3_count : GoodIn lw_tbl (wsV RL 58 RX3 yX3_count wsX3_count) := ks_GI0 (by decide +kernel) (ks_wt (by decide +kernel))
theorem gL_law_X4_count : GoodIn lw_tbl (wsV RL 61 RX4 yX4_count wsX4_count) := ks_GI0 (by decide +kernel) (ks_wt (by decide +kernel))
theorem gL_law_X3_wipe : GoodIn lw_tbl (wsV RL 62 RX3 yX3_wipe wsX3_wipe) := ks_GI0 (by decide +kernel) (ks_wt (by decide +kernel))
theorem gL_law_X4_wipe : GoodIn lw_tbl (wsV RL 65 RX4 yX4_wipe wsX4_wipe) := ks_GI0 (by decide +kernel) (ks_wt (by decide +kernel))
end
section
set_option maxHeartbeats 4000000 in
set_option maxRecDepth 100000 in
/-- firstModelUnder -/
theorem ks_under (l : Launch) (dC : Nat → ClassId) (dI : Nat → Nat → Nat) (xa aa : Nat) (cA : ClassId) (sa : Nat) (ta tb tr : Nat) (cB cR : ClassId) (qa qb qr : Nat) (cE cF : ClassId) (ra rp rq : Nat) (cP cM : ClassId) (N : Nat) (lap kc kl mp mm km : Int32) (AS : Nat → Int32) (ac : Nat) (P M : Nat → Int32) (g nr : Nat) (Bt Rt : Nat → Int32) (kt ot zt : Int32) (Bq Rq : Nat → Int32) (kq oq zq : Int32) (ch : Int64) (ex : Int32) (hN : N ≤ 16) (hg : g ≤ 600) (hW : ks_W N P M g nr) (hac : ac ≤ 40) (hlit : ∀ j, j < ac → ∃ v, ks_lit N (AS j) v) (hex : ex = 0 ∨ ∃ v, ks_lit N ex v) : ks_Mi l yX3_firstModelUnder wsX3_firstModelUnder ({ frames := 21, cells := 0, slots := 0, locals := 554 }) (dC, dI) [.ref xa, .long ch, .int ex] [(xa, .inr (3, [.int (nI N), .ref ra, .ref sa, .ref aa, .int (nI ac), .int kc, .int kl, .int mp, .int mm, .int km])), (aa, .inl (cA, 40, .inl AS)), (sa, .inr (1, [.int (nI N), .ref ra, .ref ta, .ref qa, .int lap])), (ra, .inr (0, [.ref rp, .ref rq, .int (nI g), .int (nI nr)])), (rp, .inl (cP, 664, .inl P)), (rq, .inl (cM, 664, .inl M)), (ta, .inr (2, [.ref tb, .ref tr, .int kt, .int ot, .int zt])), (tb, .inl (cB, 16, .inl Bt)), (tr, .inl (cR, 16, .inl Rt)), (qa, .inr (2, [.ref qb, .ref qr, .int kq, .int oq, .int zq])), (qb, .inl (cE, 16, .inl Bq)), (qr, .inl (cF, 16, .inl Rq))] [(cA, .int), (cP, .int), (cM, .int), (cB, .int), (cR, .int), (cE, .int), (cF, .int)] 0 0 (S := (Nat → Int32) × (Nat → Int32) × Nat × (Nat → Int32) × (Nat → Int32) × Int32 × Int32 × Int32 × (Nat → Int32) × (Nat → Int32) × Int32 × Int32 × Int32) (fun r u => ks_W N u.1 u.2.1 g u.2.2.1 ∧ (∀ c, c < g → u.1 c = P c ∧ u.2.1 c = M c) ∧ ks_L N (ks_Y N AS ac ch ex P M g) r) (fun u => [(xa, .inr (3, [.int (nI N), .ref ra, .ref sa, .ref aa, .int (nI ac), .int kc, .int kl, .int mp, .int mm, .int km])), (aa, .inl (cA, 40, .inl AS)), (sa, .inr (1, [.int (nI N), .ref ra, .ref ta, .ref qa, .int lap])), (ra, .inr (0, [.ref rp, .ref rq, .int (nI g), .int (nI u.2.2.1)])), (rp, .inl (cP, 664, .inl u.1)), (rq, .inl (cM, 664, .inl u.2.1)), (ta, .inr (2, [.ref tb, .ref tr, .int u.2.2.2.2.2.1, .int u.2.2.2.2.2.2.1, .int u.2.2.2.2.2.2.2.1])), (tb, .inl (cB, 16, .inl u.2.2.2.1)), (tr, .inl (cR, 16, .inl u.2.2.2.2.1)), (qa, .inr (2, [.ref qb, .ref qr, .int u.2.2.2.2.2.2.2.2.2.2.1, .int u.2.2.2.2.2.2.2.2.2.2.2.1, .int u.2.2.2.2.2.2.2.2.2.2.2.2])), (qb, .inl (cE, 16, .inl u.2.2.2.2.2.2.2.2.1)), (qr, .inl (cF, 16, .inl u.2.2.2.2.2.2.2.2.2.1))]) (fun u => [(cA, .int), (cP, .int), (cM, .int), (cB, .int), (cR, .int), (cE, .int), (cF, .int)]) := by
  intro sz
  refine Met.ofW (cc := cX3_firstModelUnder) (maxL := 7) (ret := (some .int)) (by decide) rfl ?_
  intro p e s m args below meth c s₁ B9 hml hv
  obtain ⟨rfl, hsz, hP, hK, hD0, hNW⟩ := hv
  have hx := B9.exec
  have hb := B9.bytes
  have hr := B9.returns
  have hts := atoms_spec (ws := wsX3_firstModelUnder) B9.pre
  have hown : s.vm.findClass RX3 = some m.cls := findClass_of_methodNamed B9.named
  have hlocks := B9.notSynchronized
  subst hsz
  have hD := hD0.self (sz := s.heap.size)
  generalize hAe : va_A [(xa, .inr (3, [.int (nI N), .ref ra, .ref sa, .ref aa, .int (nI ac), .int kc, .int kl, .int mp, .int mm, .int km])), (aa, .inl (cA, 40, .inl AS)), (sa, .inr (1, [.int (nI N), .ref ra, .ref ta, .ref qa, .int lap])), (ra, .inr (0, [.ref rp, .ref rq, .int (nI g), .int (nI nr)])), (rp, .inl (cP, 664, .inl P)), (rq, .inl (cM, 664, .inl M)), (ta, .inr (2, [.ref tb, .ref tr, .int kt, .int ot, .int zt])), (tb, .inl (cB, 16, .inl Bt)), (tr, .inl (cR, 16, .inl Rt)), (qa, .inr (2, [.ref qb, .ref qr, .int kq, .int oq, .int zq])), (qb, .inl (cE, 16, .inl Bq)), (qr, .inl (cF, 16, .inl Rq))] s.heap.size = A at hD ⊢
  have hA : ∀ q : Nat, s.heap.size ≤ q → A q := fun q h => by rw [← hAe]; exact Or.inr h
  have hS : va_S A s.heap s.heap [] := va_S.rf
  have hiX3 : ∀ w ∈ u_ws RX3 TX3 10, w ∈ wsX3_firstModelUnder := by decide +kernel
  have f34 := hts (.fieldLink RX3 34 "LessonSolver" "search" "LLessonSolver$Search;") (by decide +kernel)
  have f38 := hts (.fieldLink RX3 38 "LessonSolver" "assumptions" "[I") (by decide +kernel)
  have f71 := hts (.fieldLink RX3 71 "LessonSolver" "assumptionCount" "I") (by decide +kernel)
  have hl := lv_entry ([.ref xa, .long ch, .int ex]) (n := 7) (Nat.le_of_ble_eq_true rfl)
  rw [lg_entry_eq]
  generalize (lg_sl ([.ref xa, .long ch, .int ex]) ++ List.replicate (7 - (lg_sl ([.ref xa, .long ch, .int ex])).length) Slot.unset).toArray = ls at hl ⊢
  have hl : lv_has ls 7 [(0, .ref xa), (1, .long ch), (3, .int ex)] := hl
  refine ks_join (σ := Int32 × Int32) (fun x H locs ls => (ks_un N AS ch ex 0 x.1 x.2) ∧ va_P (dC, dI) ksCl [(xa, .inr (3, [.int (nI N), .ref ra, .ref sa, .ref aa, .int (nI ac), .int kc, .int kl, .int mp, .int mm, .int km])), (aa, .inl (cA, 40, .inl AS)), (sa, .inr (1, [.int (nI N), .ref ra, .ref ta, .ref qa, .int lap])), (ra, .inr (0, [.ref rp, .ref rq, .int (nI g), .int (nI nr)])), (rp, .inl (cP, 664, .inl P)), (rq, .inl (cM, 664, .inl M)), (ta, .inr (2, [.ref tb, .ref tr, .int kt, .int ot, .int zt])), (tb, .inl (cB, 16, .inl Bt)), (tr, .inl (cR, 16, .inl Rt)), (qa, .inr (2, [.ref qb, .ref qr, .int kq, .int oq, .int zq])), (qb, .inl (cE, 16, .inl Bq)), (qr, .inl (cF, 16, .inl Rq))] H ∧ va_D A [(xa, .inr (3, [.int (nI N), .ref ra, .ref sa, .ref aa, .int (nI ac), .int kc, .int kl, .int mp, .int mm, .int km])), (aa, .inl (cA, 40, .inl AS)), (sa, .inr (1, [.int (nI N), .ref ra, .ref ta, .ref qa, .int lap])), (ra, .inr (0, [.ref rp, .ref rq, .int (nI g), .int (nI nr)])), (rp, .inl (cP, 664, .inl P)), (rq, .inl (cM, 664, .inl M)), (ta, .inr (2, [.ref tb, .ref tr, .int kt, .int ot, .int zt])), (tb, .inl (cB, 16, .inl Bt)), (tr, .inl (cR, 16, .inl Rt)), (qa, .inr (2, [.ref qb, .ref qr, .int kq, .int oq, .int zq])), (qb, .inl (cE, 16, .inl Bq)), (qr, .inl (cF, 16, .inl Rq))] ∧ va_S A s.heap H locs ∧ lv_has ls 7 [(0, .ref xa), (1, .long ch), (4, .int x.1), (5, .int x.2)]) 30 ?_ (fun hj => ?_)
  · -- where the ways meet: 30
    intro x H locs ls h9
    obtain ⟨o4, z5⟩ := x
    obtain ⟨q1, hP, hD, hS, hl⟩ := h9
    have q1 : ks_un N AS ch ex 0 o4 z5 := q1
    have hP : va_P (dC, dI) ksCl [(xa, .inr (3, [.int (nI N), .ref ra, .ref sa, .ref aa, .int (nI ac), .int kc, .int kl, .int mp, .int mm, .int km])), (aa, .inl (cA, 40, .inl AS)), (sa, .inr (1, [.int (nI N), .ref ra, .ref ta, .ref qa, .int lap])), (ra, .inr (0, [.ref rp, .ref rq, .int (nI g), .int (nI nr)])), (rp, .inl (cP, 664, .inl P)), (rq, .inl (cM, 664, .inl M)), (ta, .inr (2, [.ref tb, .ref tr, .int kt, .int ot, .int zt])), (tb, .inl (cB, 16, .inl Bt)), (tr, .inl (cR, 16, .inl Rt)), (qa, .inr (2, [.ref qb, .ref qr, .int kq, .int oq, .int zq])), (qb, .inl (cE, 16, .inl Bq)), (qr, .inl (cF, 16, .inl Rq))] H := hP
    have hD : va_D A [(xa, .inr (3, [.int (nI N), .ref ra, .ref sa, .ref aa, .int (nI ac), .int kc, .int kl, .int mp, .int mm, .int km])), (aa, .inl (cA, 40, .inl AS)), (sa, .inr (1, [.int (nI N), .ref ra, .ref ta, .ref qa, .int lap])), (ra, .inr (0, [.ref rp, .ref rq, .int (nI g), .int (nI nr)])), (rp, .inl (cP, 664, .inl P)), (rq, .inl (cM, 664, .inl M)), (ta, .inr (2, [.ref tb, .ref tr, .int kt, .int ot, .int zt])), (tb, .inl (cB, 16, .inl Bt)), (tr, .inl (cR, 16, .inl Rt)), (qa, .inr (2, [.ref qb, .ref qr, .int kq, .int oq, .int zq])), (qb, .inl (cE, 16, .inl Bq)), (qr, .inl (cF, 16, .inl Rq))] := hD
    have hl : lv_has ls 7 [(0, .ref xa), (1, .long ch), (4, .int o4), (5, .int z5)] := hl
    refine lv_iconst (v := nI 0) hx hb dX3_firstModelUnder_30 (by decide) ?_
    refine lv_istore (lv' := [(6, .int (nI 0)), (0, .ref xa), (1, .long ch), (4, .int o4), (5, .int z5)]) hx hb dX3_firstModelUnder_31 hl (by decide) rfl (fun ls hl => ?_)
    refine ks_wl (σ := Nat × Int32 × Int32) (fun n x H locs ls => (x.1 ≤ ac) ∧ (n + x.1 = ac + 1) ∧ (ks_un N AS ch ex x.1 x.2.1 x.2.2) ∧ va_P (dC, dI) ksCl [(xa, .inr (3, [.int (nI N), .ref ra, .ref sa, .ref aa, .int (nI ac), .int kc, .int kl, .int mp, .int mm, .int km])), (aa, .inl (cA, 40, .inl AS)), (sa, .inr (1, [.int (nI N), .ref ra, .ref ta, .ref qa, .int lap])), (ra, .inr (0, [.ref rp, .ref rq, .int (nI g), .int (nI nr)])), (rp, .inl (cP, 664, .inl P)), (rq, .inl (cM, 664, .inl M)), (ta, .inr (2, [.ref tb, .ref tr, .int kt, .int ot, .int zt])), (tb, .inl (cB, 16, .inl Bt)), (tr, .inl (cR, 16, .inl Rt)), (qa, .inr (2, [.ref qb, .ref qr, .int kq, .int oq, .int zq])), (qb, .inl (cE, 16, .inl Bq)), (qr, .inl (cF, 16, .inl Rq))] H ∧ va_D A [(xa, .inr (3, [.int (nI N), .ref ra, .ref sa, .ref aa, .int (nI ac), .int kc, .int kl, .int mp, .int mm, .int km])), (aa, .inl (cA, 40, .inl AS)), (sa, .inr (1, [.int (nI N), .ref ra, .ref ta, .ref qa, .int lap])), (ra, .inr (0, [.ref rp, .ref rq, .int (nI g), .int (nI nr)])), (rp, .inl (cP, 664, .inl P)), (rq, .inl (cM, 664, .inl M)), (ta, .inr (2, [.ref tb, .ref tr, .int kt, .int ot, .int zt])), (tb, .inl (cB, 16, .inl Bt)), (tr, .inl (cR, 16, .inl Rt)), (qa, .inr (2, [.ref qb, .ref qr, .int kq, .int oq, .int zq])), (qb, .inl (cE, 16, .inl Bq)), (qr, .inl (cF, 16, .inl Rq))] ∧ va_S A s.heap H locs ∧ lv_has ls 7 [(0, .ref xa), (1, .long ch), (4, .int x.2.1), (5, .int x.2.2), (6, .int (nI x.1))]) 33 ?_ ?_ (ac + 1) (0, o4, z5) _ _ ls ⟨Nat.zero_le _, rfl, q1, hP, hD, hS, lv_sub hl [1, 2, 3, 4, 0] rfl⟩
    · -- loop at 33
      intro n x H locs ls h9 ih
      obtain ⟨i, o, z⟩ := x
      obtain ⟨i1, i2, i3, hP, hD, hS, hl⟩ := h9
      have i1 : i ≤ ac := i1
      have i2 : (n + 1) + i = ac + 1 := i2
      have i3 : ks_un N AS ch ex i o z := i3
      have hP : va_P (dC, dI) ksCl [(xa, .inr (3, [.int (nI N), .ref ra, .ref sa, .ref aa, .int (nI ac), .int kc, .int kl, .int mp, .int mm, .int km])), (aa, .inl (cA, 40, .inl AS)), (sa, .inr (1, [.int (nI N), .ref ra, .ref ta, .ref qa, .int lap])), (ra, .inr (0, [.ref rp, .ref rq, .int (nI g), .int (nI nr)])), (rp, .inl (cP, 664, .inl P)), (rq, .inl (cM, 664, .inl M)), (ta, .inr (2, [.ref tb, .ref tr, .int kt, .int ot, .int zt])), (tb, .inl (cB, 16, .inl Bt)), (tr, .inl (cR, 16, .inl Rt)), (qa, .inr (2, [.ref qb, .ref qr, .int kq, .int oq, .int zq])), (qb, .inl (cE, 16, .inl Bq)), (qr, .inl (cF, 16, .inl Rq))] H := hP
      have hD : va_D A [(xa, .inr (3, [.int (nI N), .ref ra, .ref sa, .ref aa, .int (nI ac), .int kc, .int kl, .int mp, .int mm, .int km])), (aa, .inl (cA, 40, .inl AS)), (sa, .inr (1, [.int (nI N), .ref ra, .ref ta, .ref qa, .int lap])), (ra, .inr (0, [.ref rp, .ref rq, .int (nI g), .int (nI nr)])), (rp, .inl (cP, 664, .inl P)), (rq, .inl (cM, 664, .inl M)), (ta, .inr (2, [.ref tb, .ref tr, .int kt, .int ot, .int zt])), (tb, .inl (cB, 16, .inl Bt)), (tr, .inl (cR, 16, .inl Rt)), (qa, .inr (2, [.ref qb, .ref qr, .int kq, .int oq, .int zq])), (qb, .inl (cE, 16, .inl Bq)), (qr, .inl (cF, 16, .inl Rq))] := hD
      have hl : lv_has ls 7 [(0, .ref xa), (1, .long ch), (4, .int o), (5, .int z), (6, .int (nI i))] := hl
      refine lv_iload hx hb dX3_firstModelUnder_33 (lv_at hl 4 rfl) ?_
      refine lv_aload_n hx hb dX3_firstModelUnder_35 rfl (lv_at hl 0 rfl) ?_
      refine va_get (D := (dC, dI)) (ci := 3) (v := .int (nI ac)) (C := RX3) (T := TX3) (N := 10) hx hb hts hiX3 hown hK hP 0 rfl rfl 4 (by decide) f71 (fun _ h9 => h9) rfl dX3_firstModelUnder_36 ?_
      refine lv_icmp_ge (tgt := 107) hx hb dX3_firstModelUnder_39 (by decide) (fun c39 => ?_) (fun c39 => ?_)
      · -- 39: jumps
        have hi : ac ≤ i := by
          rcases Nat.lt_or_ge i ac with q | q
          · exact absurd c39 (nI_ge q (by omega))
          · exact q
        have ei : i = ac := by omega
        rw [ei] at i3
        refine lv_aload_n hx hb dX3_firstModelUnder_107 rfl (lv_at hl 0 rfl) ?_
        refine va_get (D := (dC, dI)) (ci := 3) (v := .ref sa) (C := RX3) (T := TX3) (N := 10) hx hb hts hiX3 hown hK hP 0 rfl rfl 2 (by decide) f34 (fun _ h9 => h9) rfl dX3_firstModelUnder_108 ?_
        refine lv_iload hx hb dX3_firstModelUnder_111 (lv_at hl 2 rfl) ?_
        refine lv_iload hx hb dX3_firstModelUnder_113 (lv_at hl 3 rfl) ?_
        refine ks_calliV (As := [.int o, .int z]) (rest := []) (wr := [(xa, .inr (3, [.int (nI N), .ref ra, .ref sa, .ref aa, .int (nI ac), .int kc, .int kl, .int mp, .int mm, .int km])), (aa, .inl (cA, 40, .inl AS))]) (wz := fun u => [(xa, .inr (3, [.int (nI N), .ref ra, .ref sa, .ref aa, .int (nI ac), .int kc, .int kl, .int mp, .int mm, .int km])), (aa, .inl (cA, 40, .inl AS)), (sa, .inr (1, [.int (nI N), .ref ra, .ref ta, .ref qa, .int lap])), (ra, .inr (0, [.ref rp, .ref rq, .int (nI g), .int (nI u.2.2.1)])), (rp, .inl (cP, 664, .inl u.1)), (rq, .inl (cM, 664, .inl u.2.1)), (ta, .inr (2, [.ref tb, .ref tr, .int u.2.2.2.2.2.1, .int u.2.2.2.2.2.2.1, .int u.2.2.2.2.2.2.2.1])), (tb, .inl (cB, 16, .inl u.2.2.2.1)), (tr, .inl (cR, 16, .inl u.2.2.2.2.1)), (qa, .inr (2, [.ref qb, .ref qr, .int u.2.2.2.2.2.2.2.2.2.2.1, .int u.2.2.2.2.2.2.2.2.2.2.2.1, .int u.2.2.2.2.2.2.2.2.2.2.2.2])), (qb, .inl (cE, 16, .inl u.2.2.2.2.2.2.2.2.1)), (qr, .inl (cF, 16, .inl u.2.2.2.2.2.2.2.2.2.1))]) ⟨hx, hb, hml, hown, hts⟩ (ks_firstModel l dC dI sa ta tb tr cB cR qa qb qr cE cF ra rp rq cP cM N lap P M g nr Bt Rt kt ot zt Bq Rq kq oq zq o z hN hg hW i3.1) (cwV 2 hts gX3_firstModelUnder_X1_firstModel rfl rfl rfl (by decide +kernel) ⟨Nat.le_of_ble_eq_true rfl, Nat.le_of_ble_eq_true rfl⟩) hK hP hD hS hA hNW [2, 3, 4, 5, 6, 7, 8, 9, 10, 11] [0, 1] [1, 2, 3, 4, 5, 6] [0, 1, 2, 3, 4, 5, 6, 7, 8, 9, 10, 11] rfl rfl rfl rfl (by decide) (by decide) (by decide) (ci := 1) (q0 := 0) rfl rfl rfl (fun _ => rfl) (fun _ => rfl) (by decide) rfl hl.1 rfl (Nat.le_of_ble_eq_true rfl) dX3_firstModelUnder_115 ⟨Nat.le_of_ble_eq_true rfl, Nat.le_of_ble_eq_true rfl⟩ (fun r7 u9 H locs hw9 hK9 hP hD hS => ?_)
        obtain ⟨P1, M1, n1, B1, R1, k1, o1, z1, Bv, Rv, kv, ov, zv⟩ := u9
        obtain ⟨s1, s2, s3⟩ := hw9
        have hP : va_P (dC, dI) ksCl [(xa, .inr (3, [.int (nI N), .ref ra, .ref sa, .ref aa, .int (nI ac), .int kc, .int kl, .int mp, .int mm, .int km])), (aa, .inl (cA, 40, .inl AS)), (sa, .inr (1, [.int (nI N), .ref ra, .ref ta, .ref qa, .int lap])), (ra, .inr (0, [.ref rp, .ref rq, .int (nI g), .int (nI n1)])), (rp, .inl (cP, 664, .inl P1)), (rq, .inl (cM, 664, .inl M1)), (ta, .inr (2, [.ref tb, .ref tr, .int k1, .int o1, .int z1])), (tb, .inl (cB, 16, .inl B1)), (tr, .inl (cR, 16, .inl R1)), (qa, .inr (2, [.ref qb, .ref qr, .int kv, .int ov, .int zv])), (qb, .inl (cE, 16, .inl Bv)), (qr, .inl (cF, 16, .inl Rv))] H := hP
        have hD : va_D A [(xa, .inr (3, [.int (nI N), .ref ra, .ref sa, .ref aa, .int (nI ac), .int kc, .int kl, .int mp, .int mm, .int km])), (aa, .inl (cA, 40, .inl AS)), (sa, .inr (1, [.int (nI N), .ref ra, .ref ta, .ref qa, .int lap])), (ra, .inr (0, [.ref rp, .ref rq, .int (nI g), .int (nI n1)])), (rp, .inl (cP, 664, .inl P1)), (rq, .inl (cM, 664, .inl M1)), (ta, .inr (2, [.ref tb, .ref tr, .int k1, .int o1, .int z1])), (tb, .inl (cB, 16, .inl B1)), (tr, .inl (cR, 16, .inl R1)), (qa, .inr (2, [.ref qb, .ref qr, .int kv, .int ov, .int zv])), (qb, .inl (cE, 16, .inl Bv)), (qr, .inl (cF, 16, .inl Rv))] := hD
        have hP9 : va_P (dC, dI) ksCl [(xa, .inr (3, [.int (nI N), .ref ra, .ref sa, .ref aa, .int (nI ac), .int kc, .int kl, .int mp, .int mm, .int km])), (aa, .inl (cA, 40, .inl AS)), (sa, .inr (1, [.int (nI N), .ref ra, .ref ta, .ref qa, .int lap])), (ra, .inr (0, [.ref rp, .ref rq, .int (nI g), .int (nI n1)])), (rp, .inl (cP, 664, .inl P1)), (rq, .inl (cM, 664, .inl M1)), (ta, .inr (2, [.ref tb, .ref tr, .int k1, .int o1, .int z1])), (tb, .inl (cB, 16, .inl B1)), (tr, .inl (cR, 16, .inl R1)), (qa, .inr (2, [.ref qb, .ref qr, .int kv, .int ov, .int zv])), (qb, .inl (cE, 16, .inl Bv)), (qr, .inl (cF, 16, .inl Rv))] _ := hP
        have hD9 : va_D A [(xa, .inr (3, [.int (nI N), .ref ra, .ref sa, .ref aa, .int (nI ac), .int kc, .int kl, .int mp, .int mm, .int km])), (aa, .inl (cA, 40, .inl AS)), (sa, .inr (1, [.int (nI N), .ref ra, .ref ta, .ref qa, .int lap])), (ra, .inr (0, [.ref rp, .ref rq, .int (nI g), .int (nI n1)])), (rp, .inl (cP, 664, .inl P1)), (rq, .inl (cM, 664, .inl M1)), (ta, .inr (2, [.ref tb, .ref tr, .int k1, .int o1, .int z1])), (tb, .inl (cB, 16, .inl B1)), (tr, .inl (cR, 16, .inl R1)), (qa, .inr (2, [.ref qb, .ref qr, .int kv, .int ov, .int zv])), (qb, .inl (cE, 16, .inl Bv)), (qr, .inl (cF, 16, .inl Rv))] := hD
        have hK9 : va_K (dC, dI) ksCl [(cA, .int), (cP, .int), (cM, .int), (cB, .int), (cR, .int), (cE, .int), (cF, .int)] s := hK
        exact W.iret (v := r7) hx hb hr (fun t ht hW9 => ⟨⟨r7, (P1, M1, n1, B1, R1, k1, o1, z1, Bv, Rv, kv, ov, zv), rfl, ⟨s1, s2, i3.L s3⟩, by rw [ht]; exact hP9, va_K.moved hW9.alike hK9, hD9⟩, hS.F ht⟩) hS.2.2 dX3_firstModelUnder_118
      · -- 39: goes on
        have hi : i < ac := by
          rcases Nat.lt_or_ge i ac with q | q
          · exact q
          · exact absurd (nI_le q (by omega)) c39
        refine lv_lload_n hx hb dX3_firstModelUnder_42 rfl (lv_at hl 1 rfl) ?_
        refine lv_iload hx hb dX3_firstModelUnder_43 (lv_at hl 4 rfl) ?_
        refine lv_lushr hx hb dX3_firstModelUnder_45 rfl ?_
        refine lv_lconst (v := 1) hx hb dX3_firstModelUnder_46 (by decide) ?_
        refine lv_land hx hb dX3_firstModelUnder_47 ?_
        refine lv_lconst (v := 0) hx hb dX3_firstModelUnder_48 (by decide) ?_
        refine W.lcmp hx hb dX3_firstModelUnder_49 ?_
        refine lv_if_ne (tgt := 56) hx hb dX3_firstModelUnder_50 (by decide) (fun c50 => ?_) (fun c50 => ?_)
        · -- 50: jumps
          have b1 : ks_bl ch i = true := by
            cases hb9 : ks_bl ch i
            · exact absurd ((lg_cmp_eq _ _).mpr ((ks_bl_tst (by omega)).mpr hb9)) c50
            · rfl
          obtain ⟨v0, hv⟩ := hlit i hi
          refine lv_aload_n hx hb dX3_firstModelUnder_56 rfl (lv_at hl 0 rfl) ?_
          refine va_get (D := (dC, dI)) (ci := 3) (v := .ref aa) (C := RX3) (T := TX3) (N := 10) hx hb hts hiX3 hown hK hP 0 rfl rfl 3 (by decide) f38 (fun _ h9 => h9) rfl dX3_firstModelUnder_57 ?_
          refine lv_iload hx hb dX3_firstModelUnder_60 (lv_at hl 4 rfl) ?_
          refine ks_ald hx hb hK hP 1 0 rfl rfl (j := i) (by omega) (by decide) dX3_firstModelUnder_62 ?_
          refine lv_if_le (tgt := 85) hx hb dX3_firstModelUnder_63 (by decide) (fun c63 => ?_) (fun c63 => ?_)
          · -- 63: jumps
            have j3 := i3.neg hN b1 hv (fun q => absurd c63 (by rw [Int32.not_le]; exact q))
            refine lv_iload hx hb dX3_firstModelUnder_85 (lv_at hl 3 rfl) ?_
            refine lv_aload_n hx hb dX3_firstModelUnder_87 rfl (lv_at hl 0 rfl) ?_
            refine lv_aload_n hx hb dX3_firstModelUnder_88 rfl (lv_at hl 0 rfl) ?_
            refine va_get (D := (dC, dI)) (ci := 3) (v := .ref aa) (C := RX3) (T := TX3) (N := 10) hx hb hts hiX3 hown hK hP 0 rfl rfl 3 (by decide) f38 (fun _ h9 => h9) rfl dX3_firstModelUnder_89 ?_
            refine lv_iload hx hb dX3_firstModelUnder_92 (lv_at hl 4 rfl) ?_
            refine ks_ald hx hb hK hP 1 0 rfl rfl (j := i) (by omega) (by decide) dX3_firstModelUnder_94 ?_
            refine ks_calliV (As := [.int (AS i)]) (rest := [.int z]) (wr := [(aa, .inl (cA, 40, .inl AS)), (sa, .inr (1, [.int (nI N), .ref ra, .ref ta, .ref qa, .int lap])), (ra, .inr (0, [.ref rp, .ref rq, .int (nI g), .int (nI nr)])), (rp, .inl (cP, 664, .inl P)), (rq, .inl (cM, 664, .inl M)), (ta, .inr (2, [.ref tb, .ref tr, .int kt, .int ot, .int zt])), (tb, .inl (cB, 16, .inl Bt)), (tr, .inl (cR, 16, .inl Rt)), (qa, .inr (2, [.ref qb, .ref qr, .int kq, .int oq, .int zq])), (qb, .inl (cE, 16, .inl Bq)), (qr, .inl (cF, 16, .inl Rq))]) (wz := fun _ => [(xa, .inr (3, [.int (nI N), .ref ra, .ref sa, .ref aa, .int (nI ac), .int kc, .int kl, .int mp, .int mm, .int km])), (aa, .inl (cA, 40, .inl AS)), (sa, .inr (1, [.int (nI N), .ref ra, .ref ta, .ref qa, .int lap])), (ra, .inr (0, [.ref rp, .ref rq, .int (nI g), .int (nI nr)])), (rp, .inl (cP, 664, .inl P)), (rq, .inl (cM, 664, .inl M)), (ta, .inr (2, [.ref tb, .ref tr, .int kt, .int ot, .int zt])), (tb, .inl (cB, 16, .inl Bt)), (tr, .inl (cR, 16, .inl Rt)), (qa, .inr (2, [.ref qb, .ref qr, .int kq, .int oq, .int zq])), (qb, .inl (cE, 16, .inl Bq)), (qr, .inl (cF, 16, .inl Rq))]) ⟨hx, hb, hml, hown, hts⟩ (ks_bitOf l dC dI xa ra sa aa N (nI ac) kc kl mp mm km (AS i) v0 hN hv) (cwV 1 hts gX3_firstModelUnder_X3_bitOf rfl rfl rfl (by decide +kernel) ⟨Nat.le_of_ble_eq_true rfl, Nat.le_of_ble_eq_true rfl⟩) hK hP hD hS hA hNW [0] [1, 2, 3, 4, 5, 6, 7, 8, 9, 10, 11] [] [11, 0, 1, 2, 3, 4, 5, 6, 7, 8, 9, 10] rfl rfl rfl rfl (by decide) (by decide) (by decide) (ci := 3) (q0 := 0) rfl rfl rfl (fun _ => rfl) (fun _ => rfl) (by decide) rfl hl.1 rfl (Nat.le_of_ble_eq_true rfl) dX3_firstModelUnder_95 ⟨Nat.le_of_ble_eq_true rfl, Nat.le_of_ble_eq_true rfl⟩ (fun r6 u9 H locs hw9 hK9 hP hD hS => ?_)
            have er6 : r6 = ks_on (N - v0) := hw9
            subst er6
            have hP : va_P (dC, dI) ksCl [(xa, .inr (3, [.int (nI N), .ref ra, .ref sa, .ref aa, .int (nI ac), .int kc, .int kl, .int mp, .int mm, .int km])), (aa, .inl (cA, 40, .inl AS)), (sa, .inr (1, [.int (nI N), .ref ra, .ref ta, .ref qa, .int lap])), (ra, .inr (0, [.ref rp, .ref rq, .int (nI g), .int (nI nr)])), (rp, .inl (cP, 664, .inl P)), (rq, .inl (cM, 664, .inl M)), (ta, .inr (2, [.ref tb, .ref tr, .int kt, .int ot, .int zt])), (tb, .inl (cB, 16, .inl Bt)), (tr, .inl (cR, 16, .inl Rt)), (qa, .inr (2, [.ref qb, .ref qr, .int kq, .int oq, .int zq])), (qb, .inl (cE, 16, .inl Bq)), (qr, .inl (cF, 16, .inl Rq))] H := hP
            have hD : va_D A [(xa, .inr (3, [.int (nI N), .ref ra, .ref sa, .ref aa, .int (nI ac), .int kc, .int kl, .int mp, .int mm, .int km])), (aa, .inl (cA, 40, .inl AS)), (sa, .inr (1, [.int (nI N), .ref ra, .ref ta, .ref qa, .int lap])), (ra, .inr (0, [.ref rp, .ref rq, .int (nI g), .int (nI nr)])), (rp, .inl (cP, 664, .inl P)), (rq, .inl (cM, 664, .inl M)), (ta, .inr (2, [.ref tb, .ref tr, .int kt, .int ot, .int zt])), (tb, .inl (cB, 16, .inl Bt)), (tr, .inl (cR, 16, .inl Rt)), (qa, .inr (2, [.ref qb, .ref qr, .int kq, .int oq, .int zq])), (qb, .inl (cE, 16, .inl Bq)), (qr, .inl (cF, 16, .inl Rq))] := hD
            refine lv_ior hx hb dX3_firstModelUnder_98 ?_
            refine lv_istore (lv' := [(5, .int (z ||| (ks_on (N - v0)))), (0, .ref xa), (1, .long ch), (4, .int o), (6, .int (nI i))]) hx hb dX3_firstModelUnder_99 hl (by decide) rfl (fun ls hl => ?_)
            refine lv_iinc (v := nI (i + 1)) (lv' := [(6, .int (nI (i + 1))), (5, .int (z ||| (ks_on (N - v0)))), (0, .ref xa), (1, .long ch), (4, .int o)]) hx hb dX3_firstModelUnder_101 hl (k := 4) rfl (nI_1 _) (by decide) rfl (fun ls hl => ?_)
            refine lv_goto (tgt := 33) hx hb dX3_firstModelUnder_104 (by decide) ?_
            exact ih (i + 1, o, z ||| (ks_on (N - v0))) _ _ _ ⟨hi, by omega, j3, hP, hD, hS, lv_sub hl [2, 3, 4, 1, 0] rfl⟩
          · -- 63: goes on
            have j3 := i3.pos hN b1 hv (by rw [Int32.not_le] at c63; exact c63)
            refine lv_iload hx hb dX3_firstModelUnder_66 (lv_at hl 2 rfl) ?_
            refine lv_aload_n hx hb dX3_firstModelUnder_68 rfl (lv_at hl 0 rfl) ?_
            refine lv_aload_n hx hb dX3_firstModelUnder_69 rfl (lv_at hl 0 rfl) ?_
            refine va_get (D := (dC, dI)) (ci := 3) (v := .ref aa) (C := RX3) (T := TX3) (N := 10) hx hb hts hiX3 hown hK hP 0 rfl rfl 3 (by decide) f38 (fun _ h9 => h9) rfl dX3_firstModelUnder_70 ?_
            refine lv_iload hx hb dX3_firstModelUnder_73 (lv_at hl 4 rfl) ?_
            refine ks_ald hx hb hK hP 1 0 rfl rfl (j := i) (by omega) (by decide) dX3_firstModelUnder_75 ?_
            refine ks_calliV (As := [.int (AS i)]) (rest := [.int o]) (wr := [(aa, .inl (cA, 40, .inl AS)), (sa, .inr (1, [.int (nI N), .ref ra, .ref ta, .ref qa, .int lap])), (ra, .inr (0, [.ref rp, .ref rq, .int (nI g), .int (nI nr)])), (rp, .inl (cP, 664, .inl P)), (rq, .inl (cM, 664, .inl M)), (ta, .inr (2, [.ref tb, .ref tr, .int kt, .int ot, .int zt])), (tb, .inl (cB, 16, .inl Bt)), (tr, .inl (cR, 16, .inl Rt)), (qa, .inr (2, [.ref qb, .ref qr, .int kq, .int oq, .int zq])), (qb, .inl (cE, 16, .inl Bq)), (qr, .inl (cF, 16, .inl Rq))]) (wz := fun _ => [(xa, .inr (3, [.int (nI N), .ref ra, .ref sa, .ref aa, .int (nI ac), .int kc, .int kl, .int mp, .int mm, .int km])), (aa, .inl (cA, 40, .inl AS)), (sa, .inr (1, [.int (nI N), .ref ra, .ref ta, .ref qa, .int lap])), (ra, .inr (0, [.ref rp, .ref rq, .int (nI g), .int (nI nr)])), (rp, .inl (cP, 664, .inl P)), (rq, .inl (cM, 664, .inl M)), (ta, .inr (2, [.ref tb, .ref tr, .int kt, .int ot, .int zt])), (tb, .inl (cB, 16, .inl Bt)), (tr, .inl (cR, 16, .inl Rt)), (qa, .inr (2, [.ref qb, .ref qr, .int kq, .int oq, .int zq])), (qb, .inl (cE, 16, .inl Bq)), (qr, .inl (cF, 16, .inl Rq))]) ⟨hx, hb, hml, hown, hts⟩ (ks_bitOf l dC dI xa ra sa aa N (nI ac) kc kl mp mm km (AS i) v0 hN hv) (cwV 1 hts gX3_firstModelUnder_X3_bitOf rfl rfl rfl (by decide +kernel) ⟨Nat.le_of_ble_eq_true rfl, Nat.le_of_ble_eq_true rfl⟩) hK hP hD hS hA hNW [0] [1, 2, 3, 4, 5, 6, 7, 8, 9, 10, 11] [] [11, 0, 1, 2, 3, 4, 5, 6, 7, 8, 9, 10] rfl rfl rfl rfl (by decide) (by decide) (by decide) (ci := 3) (q0 := 0) rfl rfl rfl (fun _ => rfl) (fun _ => rfl) (by decide) rfl hl.1 rfl (Nat.le_of_ble_eq_true rfl) dX3_firstModelUnder_76 ⟨Nat.le_of_ble_eq_true rfl, Nat.le_of_ble_eq_true rfl⟩ (fun r6 u9 H locs hw9 hK9 hP hD hS => ?_)
            have er6 : r6 = ks_on (N - v0) := hw9
            subst er6
            have hP : va_P (dC, dI) ksCl [(xa, .inr (3, [.int (nI N), .ref ra, .ref sa, .ref aa, .int (nI ac), .int kc, .int kl, .int mp, .int mm, .int km])), (aa, .inl (cA, 40, .inl AS)), (sa, .inr (1, [.int (nI N), .ref ra, .ref ta, .ref qa, .int lap])), (ra, .inr (0, [.ref rp, .ref rq, .int (nI g), .int (nI nr)])), (rp, .inl (cP, 664, .inl P)), (rq, .inl (cM, 664, .inl M)), (ta, .inr (2, [.ref tb, .ref tr, .int kt, .int ot, .int zt])), (tb, .inl (cB, 16, .inl Bt)), (tr, .inl (cR, 16, .inl Rt)), (qa, .inr (2, [.ref qb, .ref qr, .int kq, .int oq, .int zq])), (qb, .inl (cE, 16, .inl Bq)), (qr, .inl (cF, 16, .inl Rq))] H := hP
            have hD : va_D A [(xa, .inr (3, [.int (nI N), .ref ra, .ref sa, .ref aa, .int (nI ac), .int kc, .int kl, .int mp, .int mm, .int km])), (aa, .inl (cA, 40, .inl AS)), (sa, .inr (1, [.int (nI N), .ref ra, .ref ta, .ref qa, .int lap])), (ra, .inr (0, [.ref rp, .ref rq, .int (nI g), .int (nI nr)])), (rp, .inl (cP, 664, .inl P)), (rq, .inl (cM, 664, .inl M)), (ta, .inr (2, [.ref tb, .ref tr, .int kt, .int ot, .int zt])), (tb, .inl (cB, 16, .inl Bt)), (tr, .inl (cR, 16, .inl Rt)), (qa, .inr (2, [.ref qb, .ref qr, .int kq, .int oq, .int zq])), (qb, .inl (cE, 16, .inl Bq)), (qr, .inl (cF, 16, .inl Rq))] := hD
            refine lv_ior hx hb dX3_firstModelUnder_79 ?_
            refine lv_istore (lv' := [(4, .int (o ||| (ks_on (N - v0)))), (0, .ref xa), (1, .long ch), (5, .int z), (6, .int (nI i))]) hx hb dX3_firstModelUnder_80 hl (by decide) rfl (fun ls hl => ?_)
            refine lv_goto (tgt := 101) hx hb dX3_firstModelUnder_82 (by decide) ?_
            refine lv_iinc (v := nI (i + 1)) (lv' := [(6, .int (nI (i + 1))), (4, .int (o ||| (ks_on (N - v0)))), (0, .ref xa), (1, .long ch), (5, .int z)]) hx hb dX3_firstModelUnder_101 hl (k := 4) rfl (nI_1 _) (by decide) rfl (fun ls hl => ?_)
            refine lv_goto (tgt := 33) hx hb dX3_firstModelUnder_104 (by decide) ?_
            exact ih (i + 1, o ||| (ks_on (N - v0)), z) _ _ _ ⟨hi, by omega, j3, hP, hD, hS, lv_sub hl [2, 3, 1, 4, 0] rfl⟩
        · -- 50: goes on
          have b0 := (ks_bl_tst (by omega)).mp ((lg_cmp_eq _ _).mp c50)
          have j3 := i3.skip b0
          refine lv_goto (tgt := 101) hx hb dX3_firstModelUnder_53 (by decide) ?_
          refine lv_iinc (v := nI (i + 1)) (lv' := [(6, .int (nI (i + 1))), (0, .ref xa), (1, .long ch), (4, .int o), (5, .int z)]) hx hb dX3_firstModelUnder_101 hl (k := 4) rfl (nI_1 _) (by decide) rfl (fun ls hl => ?_)
          refine lv_goto (tgt := 33) hx hb dX3_firstModelUnder_104 (by decide) ?_
          exact ih (i + 1, o, z) _ _ _ ⟨hi, by omega, j3, hP, hD, hS, lv_sub hl [1, 2, 3, 4, 0] rfl⟩
    · intro x H locs ls h9
      obtain ⟨i1, i2, i3, -, -, -, -⟩ := h9
      try dsimp only at i1 i2
      omega
  · -- the ways to 30
    refine lv_iload_n hx hb dX3_firstModelUnder_0 rfl (lv_at hl 2 rfl) ?_
    refine lv_if_le (tgt := 12) hx hb dX3_firstModelUnder_1 (by decide) (fun c1 => ?_) (fun c1 => ?_)
    · -- 1: jumps
      refine lv_iconst (v := 0) hx hb dX3_firstModelUnder_12 (by decide) ?_
      refine lv_istore (lv' := [(4, .int 0), (0, .ref xa), (1, .long ch), (3, .int ex)]) hx hb dX3_firstModelUnder_13 hl (by decide) rfl (fun ls hl => ?_)
      refine lv_iload_n hx hb dX3_firstModelUnder_15 rfl (lv_at hl 3 rfl) ?_
      refine lv_if_ge (tgt := 27) hx hb dX3_firstModelUnder_16 (by decide) (fun c16 => ?_) (fun c16 => ?_)
      · -- 16: jumps
        have ex0 : ex = 0 := by
          apply Int32.toInt_inj.mp
          rw [Int32.le_iff_toInt_le, Int32.toInt_zero] at c1 c16
          rw [Int32.toInt_zero]; omega
        subst ex0
        have un0 := ks_un.zero0 N AS ch
        refine lv_iconst (v := 0) hx hb dX3_firstModelUnder_27 (by decide) ?_
        refine lv_istore (lv' := [(5, .int 0), (4, .int 0), (0, .ref xa), (1, .long ch), (3, .int 0)]) hx hb dX3_firstModelUnder_28 hl (by decide) rfl (fun ls hl => ?_)
        exact hj (0, 0) _ _ _ ⟨un0, hP, hD, hS, lv_sub hl [2, 3, 1, 0] rfl⟩
      · -- 16: goes on
        have hlx : ∃ v, ks_lit N ex v := by
          rcases hex with q | q
          · exact absurd (by rw [q]; decide) c16
          · exact q
        obtain ⟨v0, hv⟩ := hlx
        have un0 := ks_un.zeron hN (AS := AS) (ch := ch) hv (fun q => absurd c1 (by rw [Int32.not_le]; exact q))
        refine lv_aload_n hx hb dX3_firstModelUnder_19 rfl (lv_at hl 1 rfl) ?_
        refine lv_iload_n hx hb dX3_firstModelUnder_20 rfl (lv_at hl 3 rfl) ?_
        refine ks_calliV (As := [.int ex]) (rest := []) (wr := [(aa, .inl (cA, 40, .inl AS)), (sa, .inr (1, [.int (nI N), .ref ra, .ref ta, .ref qa, .int lap])), (ra, .inr (0, [.ref rp, .ref rq, .int (nI g), .int (nI nr)])), (rp, .inl (cP, 664, .inl P)), (rq, .inl (cM, 664, .inl M)), (ta, .inr (2, [.ref tb, .ref tr, .int kt, .int ot, .int zt])), (tb, .inl (cB, 16, .inl Bt)), (tr, .inl (cR, 16, .inl Rt)), (qa, .inr (2, [.ref qb, .ref qr, .int kq, .int oq, .int zq])), (qb, .inl (cE, 16, .inl Bq)), (qr, .inl (cF, 16, .inl Rq))]) (wz := fun _ => [(xa, .inr (3, [.int (nI N), .ref ra, .ref sa, .ref aa, .int (nI ac), .int kc, .int kl, .int mp, .int mm, .int km])), (aa, .inl (cA, 40, .inl AS)), (sa, .inr (1, [.int (nI N), .ref ra, .ref ta, .ref qa, .int lap])), (ra, .inr (0, [.ref rp, .ref rq, .int (nI g), .int (nI nr)])), (rp, .inl (cP, 664, .inl P)), (rq, .inl (cM, 664, .inl M)), (ta, .inr (2, [.ref tb, .ref tr, .int kt, .int ot, .int zt])), (tb, .inl (cB, 16, .inl Bt)), (tr, .inl (cR, 16, .inl Rt)), (qa, .inr (2, [.ref qb, .ref qr, .int kq, .int oq, .int zq])), (qb, .inl (cE, 16, .inl Bq)), (qr, .inl (cF, 16, .inl Rq))]) ⟨hx, hb, hml, hown, hts⟩ (ks_bitOf l dC dI xa ra sa aa N (nI ac) kc kl mp mm km ex v0 hN hv) (cwV 1 hts gX3_firstModelUnder_X3_bitOf rfl rfl rfl (by decide +kernel) ⟨Nat.le_of_ble_eq_true rfl, Nat.le_of_ble_eq_true rfl⟩) hK hP hD hS hA hNW [0] [1, 2, 3, 4, 5, 6, 7, 8, 9, 10, 11] [] [11, 0, 1, 2, 3, 4, 5, 6, 7, 8, 9, 10] rfl rfl rfl rfl (by decide) (by decide) (by decide) (ci := 3) (q0 := 0) rfl rfl rfl (fun _ => rfl) (fun _ => rfl) (by decide) rfl hl.1 rfl (Nat.le_of_ble_eq_true rfl) dX3_firstModelUnder_21 ⟨Nat.le_of_ble_eq_true rfl, Nat.le_of_ble_eq_true rfl⟩ (fun r2 u9 H locs hw9 hK9 hP hD hS => ?_)
        have er2 : r2 = ks_on (N - v0) := hw9
        subst er2
        have hP : va_P (dC, dI) ksCl [(xa, .inr (3, [.int (nI N), .ref ra, .ref sa, .ref aa, .int (nI ac), .int kc, .int kl, .int mp, .int mm, .int km])), (aa, .inl (cA, 40, .inl AS)), (sa, .inr (1, [.int (nI N), .ref ra, .ref ta, .ref qa, .int lap])), (ra, .inr (0, [.ref rp, .ref rq, .int (nI g), .int (nI nr)])), (rp, .inl (cP, 664, .inl P)), (rq, .inl (cM, 664, .inl M)), (ta, .inr (2, [.ref tb, .ref tr, .int kt, .int ot, .int zt])), (tb, .inl (cB, 16, .inl Bt)), (tr, .inl (cR, 16, .inl Rt)), (qa, .inr (2, [.ref qb, .ref qr, .int kq, .int oq, .int zq])), (qb, .inl (cE, 16, .inl Bq)), (qr, .inl (cF, 16, .inl Rq))] H := hP
        have hD : va_D A [(xa, .inr (3, [.int (nI N), .ref ra, .ref sa, .ref aa, .int (nI ac), .int kc, .int kl, .int mp, .int mm, .int km])), (aa, .inl (cA, 40, .inl AS)), (sa, .inr (1, [.int (nI N), .ref ra, .ref ta, .ref qa, .int lap])), (ra, .inr (0, [.ref rp, .ref rq, .int (nI g), .int (nI nr)])), (rp, .inl (cP, 664, .inl P)), (rq, .inl (cM, 664, .inl M)), (ta, .inr (2, [.ref tb, .ref tr, .int kt, .int ot, .int zt])), (tb, .inl (cB, 16, .inl Bt)), (tr, .inl (cR, 16, .inl Rt)), (qa, .inr (2, [.ref qb, .ref qr, .int kq, .int oq, .int zq])), (qb, .inl (cE, 16, .inl Bq)), (qr, .inl (cF, 16, .inl Rq))] := hD
        refine lv_goto (tgt := 28) hx hb dX3_firstModelUnder_24 (by decide) ?_
        refine lv_istore (lv' := [(5, .int (ks_on (N - v0))), (4, .int 0), (0, .ref xa), (1, .long ch), (3, .int ex)]) hx hb dX3_firstModelUnder_28 hl (by decide) rfl (fun ls hl => ?_)
        exact hj (0, ks_on (N - v0)) _ _ _ ⟨un0, hP, hD, hS, lv_sub hl [2, 3, 1, 0] rfl⟩
    · -- 1: goes on
      have hex1 : ∃ v, ks_lit N ex v := by
        rcases hex with q | q
        · exact absurd (by rw [q]; decide) c1
        · exact q
      obtain ⟨v0, hv⟩ := hex1
      have un0 := ks_un.zerop hN (AS := AS) (ch := ch) hv (by rw [Int32.not_le] at c1; exact c1)
      refine lv_aload_n hx hb dX3_firstModelUnder_4 rfl (lv_at hl 0 rfl) ?_
      refine lv_iload_n hx hb dX3_firstModelUnder_5 rfl (lv_at hl 2 rfl) ?_
      refine ks_calliV (As := [.int ex]) (rest := []) (wr := [(aa, .inl (cA, 40, .inl AS)), (sa, .inr (1, [.int (nI N), .ref ra, .ref ta, .ref qa, .int lap])), (ra, .inr (0, [.ref rp, .ref rq, .int (nI g), .int (nI nr)])), (rp, .inl (cP, 664, .inl P)), (rq, .inl (cM, 664, .inl M)), (ta, .inr (2, [.ref tb, .ref tr, .int kt, .int ot, .int zt])), (tb, .inl (cB, 16, .inl Bt)), (tr, .inl (cR, 16, .inl Rt)), (qa, .inr (2, [.ref qb, .ref qr, .int kq, .int oq, .int zq])), (qb, .inl (cE, 16, .inl Bq)), (qr, .inl (cF, 16, .inl Rq))]) (wz := fun _ => [(xa, .inr (3, [.int (nI N), .ref ra, .ref sa, .ref aa, .int (nI ac), .int kc, .int kl, .int mp, .int mm, .int km])), (aa, .inl (cA, 40, .inl AS)), (sa, .inr (1, [.int (nI N), .ref ra, .ref ta, .ref qa, .int lap])), (ra, .inr (0, [.ref rp, .ref rq, .int (nI g), .int (nI nr)])), (rp, .inl (cP, 664, .inl P)), (rq, .inl (cM, 664, .inl M)), (ta, .inr (2, [.ref tb, .ref tr, .int kt, .int ot, .int zt])), (tb, .inl (cB, 16, .inl Bt)), (tr, .inl (cR, 16, .inl Rt)), (qa, .inr (2, [.ref qb, .ref qr, .int kq, .int oq, .int zq])), (qb, .inl (cE, 16, .inl Bq)), (qr, .inl (cF, 16, .inl Rq))]) ⟨hx, hb, hml, hown, hts⟩ (ks_bitOf l dC dI xa ra sa aa N (nI ac) kc kl mp mm km ex v0 hN hv) (cwV 1 hts gX3_firstModelUnder_X3_bitOf rfl rfl rfl (by decide +kernel) ⟨Nat.le_of_ble_eq_true rfl, Nat.le_of_ble_eq_true rfl⟩) hK hP hD hS hA hNW [0] [1, 2, 3, 4, 5, 6, 7, 8, 9, 10, 11] [] [11, 0, 1, 2, 3, 4, 5, 6, 7, 8, 9, 10] rfl rfl rfl rfl (by decide) (by decide) (by decide) (ci := 3) (q0 := 0) rfl rfl rfl (fun _ => rfl) (fun _ => rfl) (by decide) rfl hl.1 rfl (Nat.le_of_ble_eq_true rfl) dX3_firstModelUnder_6 ⟨Nat.le_of_ble_eq_true rfl, Nat.le_of_ble_eq_true rfl⟩ (fun r2 u9 H locs hw9 hK9 hP hD hS => ?_)
      have er2 : r2 = ks_on (N - v0) := hw9
      subst er2
      have hP : va_P (dC, dI) ksCl [(xa, .inr (3, [.int (nI N), .ref ra, .ref sa, .ref aa, .int (nI ac), .int kc, .int kl, .int mp, .int mm, .int km])), (aa, .inl (cA, 40, .inl AS)), (sa, .inr (1, [.int (nI N), .ref ra, .ref ta, .ref qa, .int lap])), (ra, .inr (0, [.ref rp, .ref rq, .int (nI g), .int (nI nr)])), (rp, .inl (cP, 664, .inl P)), (rq, .inl (cM, 664, .inl M)), (ta, .inr (2, [.ref tb, .ref tr, .int kt, .int ot, .int zt])), (tb, .inl (cB, 16, .inl Bt)), (tr, .inl (cR, 16, .inl Rt)), (qa, .inr (2, [.ref qb, .ref qr, .int kq, .int oq, .int zq])), (qb, .inl (cE, 16, .inl Bq)), (qr, .inl (cF, 16, .inl Rq))] H := hP
      have hD : va_D A [(xa, .inr (3, [.int (nI N), .ref ra, .ref sa, .ref aa, .int (nI ac), .int kc, .int kl, .int mp, .int mm, .int km])), (aa, .inl (cA, 40, .inl AS)), (sa, .inr (1, [.int (nI N), .ref ra, .ref ta, .ref qa, .int lap])), (ra, .inr (0, [.ref rp, .ref rq, .int (nI g), .int (nI nr)])), (rp, .inl (cP, 664, .inl P)), (rq, .inl (cM, 664, .inl M)), (ta, .inr (2, [.ref tb, .ref tr, .int kt, .int ot, .int zt])), (tb, .inl (cB, 16, .inl Bt)), (tr, .inl (cR, 16, .inl Rt)), (qa, .inr (2, [.ref qb, .ref qr, .int kq, .int oq, .int zq])), (qb, .inl (cE, 16, .inl Bq)), (qr, .inl (cF, 16, .inl Rq))] := hD
      refine lv_goto (tgt := 13) hx hb dX3_firstModelUnder_9 (by decide) ?_
      refine lv_istore (lv' := [(4, .int (ks_on (N - v0))), (0, .ref xa), (1, .long ch), (3, .int ex)]) hx hb dX3_firstModelUnder_13 hl (by decide) rfl (fun ls hl => ?_)
      refine lv_iload_n hx hb dX3_firstModelUnder_15 rfl (lv_at hl 3 rfl) ?_
      refine lv_if_ge (tgt := 27) hx hb dX3_firstModelUnder_16 (by decide) (fun c16 => ?_) (fun c16 => absurd (by rw [Int32.le_iff_toInt_le, Int32.toInt_zero]; rw [Int32.le_iff_toInt_le, Int32.toInt_zero] at c1; omega) c16)
      refine lv_iconst (v := 0) hx hb dX3_firstModelUnder_27 (by decide) ?_
      refine lv_istore (lv' := [(5, .int 0), (4, .int (ks_on (N - v0))), (0, .ref xa), (1, .long ch), (3, .int ex)]) hx hb dX3_firstModelUnder_28 hl (by decide) rfl (fun ls hl => ?_)
      exact hj (ks_on (N - v0), 0) _ _ _ ⟨un0, hP, hD, hS, lv_sub hl [2, 3, 1, 0] rfl⟩
end
section
set_option maxHeartbeats 4000000 in
set_option maxRecDepth 100000 in
/-- least -/
theorem ks_least (l : Launch) (dC : Nat → ClassId) (dI : Nat → Nat → Nat) (xa aa : Nat) (cA : ClassId) (sa : Nat) (ta tb tr : Nat) (cB cR : ClassId) (qa qb qr : Nat) (cE cF : ClassId) (ra rp rq : Nat) (cP cM : ClassId) (N : Nat) (lap kc kl mp mm km : Int32) (AS : Nat → Int32) (ac : Nat) (P M : Nat → Int32) (g nr : Nat) (Bt Rt : Nat → Int32) (kt ot zt : Int32) (Bq Rq : Nat → Int32) (kq oq zq : Int32) (hN : N ≤ 16) (hg : g ≤ 600) (hW : ks_W N P M g nr) (hac : ac ≤ 40) (hlit : ∀ j, j < ac → ∃ v, ks_lit N (AS j) v) : ks_Mi l yX3_least wsX3_least ({ frames := 22, cells := 0, slots := 0, locals := 580 }) (dC, dI) [.ref xa] [(xa, .inr (3, [.int (nI N), .ref ra, .ref sa, .ref aa, .int (nI ac), .int kc, .int kl, .int mp, .int mm, .int km])), (aa, .inl (cA, 40, .inl AS)), (sa, .inr (1, [.int (nI N), .ref ra, .ref ta, .ref qa, .int lap])), (ra, .inr (0, [.ref rp, .ref rq, .int (nI g), .int (nI nr)])), (rp, .inl (cP, 664, .inl P)), (rq, .inl (cM, 664, .inl M)), (ta, .inr (2, [.ref tb, .ref tr, .int kt, .int ot, .int zt])), (tb, .inl (cB, 16, .inl Bt)), (tr, .inl (cR, 16, .inl Rt)), (qa, .inr (2, [.ref qb, .ref qr, .int kq, .int oq, .int zq])), (qb, .inl (cE, 16, .inl Bq)), (qr, .inl (cF, 16, .inl Rq))] [(cA, .int), (cP, .int), (cM, .int), (cB, .int), (cR, .int), (cE, .int), (cF, .int)] 0 0 (S := (Nat → Int32) × (Nat → Int32) × Nat × (Nat → Int32) × (Nat → Int32) × Int32 × Int32 × Int32 × (Nat → Int32) × (Nat → Int32) × Int32 × Int32 × Int32) (fun r u => ks_W N u.1 u.2.1 g u.2.2.1 ∧ (∀ c, c < g → u.1 c = P c ∧ u.2.1 c = M c) ∧ ks_L N (ks_Y N AS ac (-1) 0 P M g) r) (fun u => [(xa, .inr (3, [.int (nI N), .ref ra, .ref sa, .ref aa, .int (nI ac), .int kc, .int kl, .int mp, .int mm, .int km])), (aa, .inl (cA, 40, .inl AS)), (sa, .inr (1, [.int (nI N), .ref ra, .ref ta, .ref qa, .int lap])), (ra, .inr (0, [.ref rp, .ref rq, .int (nI g), .int (nI u.2.2.1)])), (rp, .inl (cP, 664, .inl u.1)), (rq, .inl (cM, 664, .inl u.2.1)), (ta, .inr (2, [.ref tb, .ref tr, .int u.2.2.2.2.2.1, .int u.2.2.2.2.2.2.1, .int u.2.2.2.2.2.2.2.1])), (tb, .inl (cB, 16, .inl u.2.2.2.1)), (tr, .inl (cR, 16, .inl u.2.2.2.2.1)), (qa, .inr (2, [.ref qb, .ref qr, .int u.2.2.2.2.2.2.2.2.2.2.1, .int u.2.2.2.2.2.2.2.2.2.2.2.1, .int u.2.2.2.2.2.2.2.2.2.2.2.2])), (qb, .inl (cE, 16, .inl u.2.2.2.2.2.2.2.2.1)), (qr, .inl (cF, 16, .inl u.2.2.2.2.2.2.2.2.2.1))]) (fun u => [(cA, .int), (cP, .int), (cM, .int), (cB, .int), (cR, .int), (cE, .int), (cF, .int)]) := by
  intro sz
  refine Met.ofW (cc := cX3_least) (maxL := 1) (ret := (some .int)) (by decide) rfl ?_
  intro p e s m args below meth c s₁ B9 hml hv
  obtain ⟨rfl, hsz, hP, hK, hD0, hNW⟩ := hv
  have hx := B9.exec
  have hb := B9.bytes
  have hr := B9.returns
  have hts := atoms_spec (ws := wsX3_least) B9.pre
  have hown : s.vm.findClass RX3 = some m.cls := findClass_of_methodNamed B9.named
  have hlocks := B9.notSynchronized
  subst hsz
  have hD := hD0.self (sz := s.heap.size)
  generalize hAe : va_A [(xa, .inr (3, [.int (nI N), .ref ra, .ref sa, .ref aa, .int (nI ac), .int kc, .int kl, .int mp, .int mm, .int km])), (aa, .inl (cA, 40, .inl AS)), (sa, .inr (1, [.int (nI N), .ref ra, .ref ta, .ref qa, .int lap])), (ra, .inr (0, [.ref rp, .ref rq, .int (nI g), .int (nI nr)])), (rp, .inl (cP, 664, .inl P)), (rq, .inl (cM, 664, .inl M)), (ta, .inr (2, [.ref tb, .ref tr, .int kt, .int ot, .int zt])), (tb, .inl (cB, 16, .inl Bt)), (tr, .inl (cR, 16, .inl Rt)), (qa, .inr (2, [.ref qb, .ref qr, .int kq, .int oq, .int zq])), (qb, .inl (cE, 16, .inl Bq)), (qr, .inl (cF, 16, .inl Rq))] s.heap.size = A at hD ⊢
  have hA : ∀ q : Nat, s.heap.size ≤ q → A q := fun q h => by rw [← hAe]; exact Or.inr h
  have hS : va_S A s.heap s.heap [] := va_S.rf
  have k74 := hts (.constantLong RX3 74 (-1)) (by decide +kernel)
  have hl := lv_entry ([.ref xa]) (n := 1) (Nat.le_of_ble_eq_true rfl)
  rw [lg_entry_eq]
  generalize (lg_sl ([.ref xa]) ++ List.replicate (1 - (lg_sl ([.ref xa])).length) Slot.unset).toArray = ls at hl ⊢
  have hl : lv_has ls 1 [(0, .ref xa)] := hl
  refine lv_aload_n hx hb dX3_least_0 rfl (lv_at hl 0 rfl) ?_
  refine lv_ldc2 (v := (-1)) hx hb hown k74 dX3_least_1 ?_
  refine lv_iconst (v := 0) hx hb dX3_least_4 (by decide) ?_
  refine ks_calliV (As := [.long (-1), .int 0]) (rest := []) (wr := []) (wz := fun u => [(xa, .inr (3, [.int (nI N), .ref ra, .ref sa, .ref aa, .int (nI ac), .int kc, .int kl, .int mp, .int mm, .int km])), (aa, .inl (cA, 40, .inl AS)), (sa, .inr (1, [.int (nI N), .ref ra, .ref ta, .ref qa, .int lap])), (ra, .inr (0, [.ref rp, .ref rq, .int (nI g), .int (nI u.2.2.1)])), (rp, .inl (cP, 664, .inl u.1)), (rq, .inl (cM, 664, .inl u.2.1)), (ta, .inr (2, [.ref tb, .ref tr, .int u.2.2.2.2.2.1, .int u.2.2.2.2.2.2.1, .int u.2.2.2.2.2.2.2.1])), (tb, .inl (cB, 16, .inl u.2.2.2.1)), (tr, .inl (cR, 16, .inl u.2.2.2.2.1)), (qa, .inr (2, [.ref qb, .ref qr, .int u.2.2.2.2.2.2.2.2.2.2.1, .int u.2.2.2.2.2.2.2.2.2.2.2.1, .int u.2.2.2.2.2.2.2.2.2.2.2.2])), (qb, .inl (cE, 16, .inl u.2.2.2.2.2.2.2.2.1)), (qr, .inl (cF, 16, .inl u.2.2.2.2.2.2.2.2.2.1))]) ⟨hx, hb, hml, hown, hts⟩ (ks_under l dC dI xa aa cA sa ta tb tr cB cR qa qb qr cE cF ra rp rq cP cM N lap kc kl mp mm km AS ac P M g nr Bt Rt kt ot zt Bq Rq kq oq zq (-1) 0 hN hg hW hac hlit (Or.inl rfl)) (cwV 2 hts gX3_least_X3_firstModelUnder rfl rfl rfl (by decide +kernel) ⟨Nat.le_of_ble_eq_true rfl, Nat.le_of_ble_eq_true rfl⟩) hK hP hD hS hA hNW [0, 1, 2, 3, 4, 5, 6, 7, 8, 9, 10, 11] [] [0, 1, 2, 3, 4, 5, 6] [0, 1, 2, 3, 4, 5, 6, 7, 8, 9, 10, 11] rfl rfl rfl rfl (by decide) (by decide) (by decide) (ci := 3) (q0 := 0) rfl rfl rfl (fun _ => rfl) (fun _ => rfl) (by decide) rfl hl.1 rfl (Nat.le_of_ble_eq_true rfl) dX3_least_5 ⟨Nat.le_of_ble_eq_true rfl, Nat.le_of_ble_eq_true rfl⟩ (fun r7 u9 H locs hw9 hK9 hP hD hS => ?_)
  obtain ⟨P1, M1, n1, B1, R1, k1, o1, z1, Bv, Rv, kv, ov, zv⟩ := u9
  obtain ⟨s1, s2, s3⟩ := hw9
  have hP : va_P (dC, dI) ksCl [(xa, .inr (3, [.int (nI N), .ref ra, .ref sa, .ref aa, .int (nI ac), .int kc, .int kl, .int mp, .int mm, .int km])), (aa, .inl (cA, 40, .inl AS)), (sa, .inr (1, [.int (nI N), .ref ra, .ref ta, .ref qa, .int lap])), (ra, .inr (0, [.ref rp, .ref rq, .int (nI g), .int (nI n1)])), (rp, .inl (cP, 664, .inl P1)), (rq, .inl (cM, 664, .inl M1)), (ta, .inr (2, [.ref tb, .ref tr, .int k1, .int o1, .int z1])), (tb, .inl (cB, 16, .inl B1)), (tr, .inl (cR, 16, .inl R1)), (qa, .inr (2, [.ref qb, .ref qr, .int kv, .int ov, .int zv])), (qb, .inl (cE, 16, .inl Bv)), (qr, .inl (cF, 16, .inl Rv))] H := hP
  have hD : va_D A [(xa, .inr (3, [.int (nI N), .ref ra, .ref sa, .ref aa, .int (nI ac), .int kc, .int kl, .int mp, .int mm, .int km])), (aa, .inl (cA, 40, .inl AS)), (sa, .inr (1, [.int (nI N), .ref ra, .ref ta, .ref qa, .int lap])), (ra, .inr (0, [.ref rp, .ref rq, .int (nI g), .int (nI n1)])), (rp, .inl (cP, 664, .inl P1)), (rq, .inl (cM, 664, .inl M1)), (ta, .inr (2, [.ref tb, .ref tr, .int k1, .int o1, .int z1])), (tb, .inl (cB, 16, .inl B1)), (tr, .inl (cR, 16, .inl R1)), (qa, .inr (2, [.ref qb, .ref qr, .int kv, .int ov, .int zv])), (qb, .inl (cE, 16, .inl Bv)), (qr, .inl (cF, 16, .inl Rv))] := hD
  have hP9 : va_P (dC, dI) ksCl [(xa, .inr (3, [.int (nI N), .ref ra, .ref sa, .ref aa, .int (nI ac), .int kc, .int kl, .int mp, .int mm, .int km])), (aa, .inl (cA, 40, .inl AS)), (sa, .inr (1, [.int (nI N), .ref ra, .ref ta, .ref qa, .int lap])), (ra, .inr (0, [.ref rp, .ref rq, .int (nI g), .int (nI n1)])), (rp, .inl (cP, 664, .inl P1)), (rq, .inl (cM, 664, .inl M1)), (ta, .inr (2, [.ref tb, .ref tr, .int k1, .int o1, .int z1])), (tb, .inl (cB, 16, .inl B1)), (tr, .inl (cR, 16, .inl R1)), (qa, .inr (2, [.ref qb, .ref qr, .int kv, .int ov, .int zv])), (qb, .inl (cE, 16, .inl Bv)), (qr, .inl (cF, 16, .inl Rv))] _ := hP
  have hD9 : va_D A [(xa, .inr (3, [.int (nI N), .ref ra, .ref sa, .ref aa, .int (nI ac), .int kc, .int kl, .int mp, .int mm, .int km])), (aa, .inl (cA, 40, .inl AS)), (sa, .inr (1, [.int (nI N), .ref ra, .ref ta, .ref qa, .int lap])), (ra, .inr (0, [.ref rp, .ref rq, .int (nI g), .int (nI n1)])), (rp, .inl (cP, 664, .inl P1)), (rq, .inl (cM, 664, .inl M1)), (ta, .inr (2, [.ref tb, .ref tr, .int k1, .int o1, .int z1])), (tb, .inl (cB, 16, .inl B1)), (tr, .inl (cR, 16, .inl R1)), (qa, .inr (2, [.ref qb, .ref qr, .int kv, .int ov, .int zv])), (qb, .inl (cE, 16, .inl Bv)), (qr, .inl (cF, 16, .inl Rv))] := hD
  have hK9 : va_K (dC, dI) ksCl [(cA, .int), (cP, .int), (cM, .int), (cB, .int), (cR, .int), (cE, .int), (cF, .int)] s := hK
  exact W.iret (v := r7) hx hb hr (fun t ht hW9 => ⟨⟨r7, (P1, M1, n1, B1, R1, k1, o1, z1, Bv, Rv, kv, ov, zv), rfl, ⟨s1, s2, s3⟩, by rw [ht]; exact hP9, va_K.moved hW9.alike hK9, hD9⟩, hS.F ht⟩) hS.2.2 dX3_least_8
end
section
set_option maxHeartbeats 4000000 in
set_option maxRecDepth 100000 in
/-- solve -/
theorem ks_solve (l : Launch) (dC : Nat → ClassId) (dI : Nat → Nat → Nat) (xa aa : Nat) (cA : ClassId) (sa : Nat) (ta tb tr : Nat) (cB cR : ClassId) (qa qb qr : Nat) (cE cF : ClassId) (ra rp rq : Nat) (cP cM : ClassId) (N : Nat) (lap kc kl mp mm km : Int32) (AS : Nat → Int32) (ac : Nat) (P M : Nat → Int32) (g nr : Nat) (Bt Rt : Nat → Int32) (kt ot zt : Int32) (Bq Rq : Nat → Int32) (kq oq zq : Int32) (hN : N ≤ 16) (hg : g ≤ 600) (hW : ks_W N P M g nr) (hac : ac ≤ 40) (hlit : ∀ j, j < ac → ∃ v, ks_lit N (AS j) v) : ks_Mi l yX3_solve wsX3_solve ({ frames := 22, cells := 0, slots := 0, locals := 580 }) (dC, dI) [.ref xa] [(xa, .inr (3, [.int (nI N), .ref ra, .ref sa, .ref aa, .int (nI ac), .int kc, .int kl, .int mp, .int mm, .int km])), (aa, .inl (cA, 40, .inl AS)), (sa, .inr (1, [.int (nI N), .ref ra, .ref ta, .ref qa, .int lap])), (ra, .inr (0, [.ref rp, .ref rq, .int (nI g), .int (nI nr)])), (rp, .inl (cP, 664, .inl P)), (rq, .inl (cM, 664, .inl M)), (ta, .inr (2, [.ref tb, .ref tr, .int kt, .int ot, .int zt])), (tb, .inl (cB, 16, .inl Bt)), (tr, .inl (cR, 16, .inl Rt)), (qa, .inr (2, [.ref qb, .ref qr, .int kq, .int oq, .int zq])), (qb, .inl (cE, 16, .inl Bq)), (qr, .inl (cF, 16, .inl Rq))] [(cA, .int), (cP, .int), (cM, .int), (cB, .int), (cR, .int), (cE, .int), (cF, .int)] 0 0 (S := (Nat → Int32) × (Nat → Int32) × Nat × (Nat → Int32) × (Nat → Int32) × Int32 × Int32 × Int32 × (Nat → Int32) × (Nat → Int32) × Int32 × Int32 × Int32) (fun r u => ks_W N u.1 u.2.1 g u.2.2.1 ∧ (∀ c, c < g → u.1 c = P c ∧ u.2.1 c = M c) ∧ ∃ r0, ks_L N (ks_Y N AS ac (-1) 0 P M g) r0 ∧ ((r0 = -1 ∧ r = 0) ∨ (¬ r0 = -1 ∧ r = 1))) (fun u => [(xa, .inr (3, [.int (nI N), .ref ra, .ref sa, .ref aa, .int (nI ac), .int kc, .int kl, .int mp, .int mm, .int km])), (aa, .inl (cA, 40, .inl AS)), (sa, .inr (1, [.int (nI N), .ref ra, .ref ta, .ref qa, .int lap])), (ra, .inr (0, [.ref rp, .ref rq, .int (nI g), .int (nI u.2.2.1)])), (rp, .inl (cP, 664, .inl u.1)), (rq, .inl (cM, 664, .inl u.2.1)), (ta, .inr (2, [.ref tb, .ref tr, .int u.2.2.2.2.2.1, .int u.2.2.2.2.2.2.1, .int u.2.2.2.2.2.2.2.1])), (tb, .inl (cB, 16, .inl u.2.2.2.1)), (tr, .inl (cR, 16, .inl u.2.2.2.2.1)), (qa, .inr (2, [.ref qb, .ref qr, .int u.2.2.2.2.2.2.2.2.2.2.1, .int u.2.2.2.2.2.2.2.2.2.2.2.1, .int u.2.2.2.2.2.2.2.2.2.2.2.2])), (qb, .inl (cE, 16, .inl u.2.2.2.2.2.2.2.2.1)), (qr, .inl (cF, 16, .inl u.2.2.2.2.2.2.2.2.2.1))]) (fun u => [(cA, .int), (cP, .int), (cM, .int), (cB, .int), (cR, .int), (cE, .int), (cF, .int)]) := by
  intro sz
  refine Met.ofW (cc := cX3_solve) (maxL := 1) (ret := (some .boolean)) (by decide) rfl ?_
  intro p e s m args below meth c s₁ B9 hml hv
  obtain ⟨rfl, hsz, hP, hK, hD0, hNW⟩ := hv
  have hx := B9.exec
  have hb := B9.bytes
  have hr := B9.returns
  have hts := atoms_spec (ws := wsX3_solve) B9.pre
  have hown : s.vm.findClass RX3 = some m.cls := findClass_of_methodNamed B9.named
  have hlocks := B9.notSynchronized
  subst hsz
  have hD := hD0.self (sz := s.heap.size)
  generalize hAe : va_A [(xa, .inr (3, [.int (nI N), .ref ra, .ref sa, .ref aa, .int (nI ac), .int kc, .int kl, .int mp, .int mm, .int km])), (aa, .inl (cA, 40, .inl AS)), (sa, .inr (1, [.int (nI N), .ref ra, .ref ta, .ref qa, .int lap])), (ra, .inr (0, [.ref rp, .ref rq, .int (nI g), .int (nI nr)])), (rp, .inl (cP, 664, .inl P)), (rq, .inl (cM, 664, .inl M)), (ta, .inr (2, [.ref tb, .ref tr, .int kt, .int ot, .int zt])), (tb, .inl (cB, 16, .inl Bt)), (tr, .inl (cR, 16, .inl Rt)), (qa, .inr (2, [.ref qb, .ref qr, .int kq, .int oq, .int zq])), (qb, .inl (cE, 16, .inl Bq)), (qr, .inl (cF, 16, .inl Rq))] s.heap.size = A at hD ⊢
  have hA : ∀ q : Nat, s.heap.size ≤ q → A q := fun q h => by rw [← hAe]; exact Or.inr h
  have hS : va_S A s.heap s.heap [] := va_S.rf
  have k74 := hts (.constantLong RX3 74 (-1)) (by decide +kernel)
  have hl := lv_entry ([.ref xa]) (n := 1) (Nat.le_of_ble_eq_true rfl)
  rw [lg_entry_eq]
  generalize (lg_sl ([.ref xa]) ++ List.replicate (1 - (lg_sl ([.ref xa])).length) Slot.unset).toArray = ls at hl ⊢
  have hl : lv_has ls 1 [(0, .ref xa)] := hl
  refine lv_aload_n hx hb dX3_solve_0 rfl (lv_at hl 0 rfl) ?_
  refine lv_ldc2 (v := (-1)) hx hb hown k74 dX3_solve_1 ?_
  refine lv_iconst (v := 0) hx hb dX3_solve_4 (by decide) ?_
  refine ks_calliV (As := [.long (-1), .int 0]) (rest := []) (wr := []) (wz := fun u => [(xa, .inr (3, [.int (nI N), .ref ra, .ref sa, .ref aa, .int (nI ac), .int kc, .int kl, .int mp, .int mm, .int km])), (aa, .inl (cA, 40, .inl AS)), (sa, .inr (1, [.int (nI N), .ref ra, .ref ta, .ref qa, .int lap])), (ra, .inr (0, [.ref rp, .ref rq, .int (nI g), .int (nI u.2.2.1)])), (rp, .inl (cP, 664, .inl u.1)), (rq, .inl (cM, 664, .inl u.2.1)), (ta, .inr (2, [.ref tb, .ref tr, .int u.2.2.2.2.2.1, .int u.2.2.2.2.2.2.1, .int u.2.2.2.2.2.2.2.1])), (tb, .inl (cB, 16, .inl u.2.2.2.1)), (tr, .inl (cR, 16, .inl u.2.2.2.2.1)), (qa, .inr (2, [.ref qb, .ref qr, .int u.2.2.2.2.2.2.2.2.2.2.1, .int u.2.2.2.2.2.2.2.2.2.2.2.1, .int u.2.2.2.2.2.2.2.2.2.2.2.2])), (qb, .inl (cE, 16, .inl u.2.2.2.2.2.2.2.2.1)), (qr, .inl (cF, 16, .inl u.2.2.2.2.2.2.2.2.2.1))]) ⟨hx, hb, hml, hown, hts⟩ (ks_under l dC dI xa aa cA sa ta tb tr cB cR qa qb qr cE cF ra rp rq cP cM N lap kc kl mp mm km AS ac P M g nr Bt Rt kt ot zt Bq Rq kq oq zq (-1) 0 hN hg hW hac hlit (Or.inl rfl)) (cwV 2 hts gX3_solve_X3_firstModelUnder rfl rfl rfl (by decide +kernel) ⟨Nat.le_of_ble_eq_true rfl, Nat.le_of_ble_eq_true rfl⟩) hK hP hD hS hA hNW [0, 1, 2, 3, 4, 5, 6, 7, 8, 9, 10, 11] [] [0, 1, 2, 3, 4, 5, 6] [0, 1, 2, 3, 4, 5, 6, 7, 8, 9, 10, 11] rfl rfl rfl rfl (by decide) (by decide) (by decide) (ci := 3) (q0 := 0) rfl rfl rfl (fun _ => rfl) (fun _ => rfl) (by decide) rfl hl.1 rfl (Nat.le_of_ble_eq_true rfl) dX3_solve_5 ⟨Nat.le_of_ble_eq_true rfl, Nat.le_of_ble_eq_true rfl⟩ (fun r7 u9 H locs hw9 hK9 hP hD hS => ?_)
  obtain ⟨P1, M1, n1, B1, R1, k1, o1, z1, Bv, Rv, kv, ov, zv⟩ := u9
  obtain ⟨s1, s2, s3⟩ := hw9
  have hP : va_P (dC, dI) ksCl [(xa, .inr (3, [.int (nI N), .ref ra, .ref sa, .ref aa, .int (nI ac), .int kc, .int kl, .int mp, .int mm, .int km])), (aa, .inl (cA, 40, .inl AS)), (sa, .inr (1, [.int (nI N), .ref ra, .ref ta, .ref qa, .int lap])), (ra, .inr (0, [.ref rp, .ref rq, .int (nI g), .int (nI n1)])), (rp, .inl (cP, 664, .inl P1)), (rq, .inl (cM, 664, .inl M1)), (ta, .inr (2, [.ref tb, .ref tr, .int k1, .int o1, .int z1])), (tb, .inl (cB, 16, .inl B1)), (tr, .inl (cR, 16, .inl R1)), (qa, .inr (2, [.ref qb, .ref qr, .int kv, .int ov, .int zv])), (qb, .inl (cE, 16, .inl Bv)), (qr, .inl (cF, 16, .inl Rv))] H := hP
  have hD : va_D A [(xa, .inr (3, [.int (nI N), .ref ra, .ref sa, .ref aa, .int (nI ac), .int kc, .int kl, .int mp, .int mm, .int km])), (aa, .inl (cA, 40, .inl AS)), (sa, .inr (1, [.int (nI N), .ref ra, .ref ta, .ref qa, .int lap])), (ra, .inr (0, [.ref rp, .ref rq, .int (nI g), .int (nI n1)])), (rp, .inl (cP, 664, .inl P1)), (rq, .inl (cM, 664, .inl M1)), (ta, .inr (2, [.ref tb, .ref tr, .int k1, .int o1, .int z1])), (tb, .inl (cB, 16, .inl B1)), (tr, .inl (cR, 16, .inl R1)), (qa, .inr (2, [.ref qb, .ref qr, .int kv, .int ov, .int zv])), (qb, .inl (cE, 16, .inl Bv)), (qr, .inl (cF, 16, .inl Rv))] := hD
  refine lv_iconst (v := -1) hx hb dX3_solve_8 (by decide) ?_
  refine lv_icmp_eq (tgt := 16) hx hb dX3_solve_9 (by decide) (fun c9 => ?_) (fun c9 => ?_)
  · -- 9: jumps
    refine lv_iconst (v := 0) hx hb dX3_solve_16 (by decide) ?_
    have hP9 : va_P (dC, dI) ksCl [(xa, .inr (3, [.int (nI N), .ref ra, .ref sa, .ref aa, .int (nI ac), .int kc, .int kl, .int mp, .int mm, .int km])), (aa, .inl (cA, 40, .inl AS)), (sa, .inr (1, [.int (nI N), .ref ra, .ref ta, .ref qa, .int lap])), (ra, .inr (0, [.ref rp, .ref rq, .int (nI g), .int (nI n1)])), (rp, .inl (cP, 664, .inl P1)), (rq, .inl (cM, 664, .inl M1)), (ta, .inr (2, [.ref tb, .ref tr, .int k1, .int o1, .int z1])), (tb, .inl (cB, 16, .inl B1)), (tr, .inl (cR, 16, .inl R1)), (qa, .inr (2, [.ref qb, .ref qr, .int kv, .int ov, .int zv])), (qb, .inl (cE, 16, .inl Bv)), (qr, .inl (cF, 16, .inl Rv))] _ := hP
    have hD9 : va_D A [(xa, .inr (3, [.int (nI N), .ref ra, .ref sa, .ref aa, .int (nI ac), .int kc, .int kl, .int mp, .int mm, .int km])), (aa, .inl (cA, 40, .inl AS)), (sa, .inr (1, [.int (nI N), .ref ra, .ref ta, .ref qa, .int lap])), (ra, .inr (0, [.ref rp, .ref rq, .int (nI g), .int (nI n1)])), (rp, .inl (cP, 664, .inl P1)), (rq, .inl (cM, 664, .inl M1)), (ta, .inr (2, [.ref tb, .ref tr, .int k1, .int o1, .int z1])), (tb, .inl (cB, 16, .inl B1)), (tr, .inl (cR, 16, .inl R1)), (qa, .inr (2, [.ref qb, .ref qr, .int kv, .int ov, .int zv])), (qb, .inl (cE, 16, .inl Bv)), (qr, .inl (cF, 16, .inl Rv))] := hD
    have hK9 : va_K (dC, dI) ksCl [(cA, .int), (cP, .int), (cM, .int), (cB, .int), (cR, .int), (cE, .int), (cF, .int)] s := hK
    exact W.zret (v := 0) (ty := .boolean) hx hb hr (by decide) (fun t ht hW9 => ⟨⟨0, (P1, M1, n1, B1, R1, k1, o1, z1, Bv, Rv, kv, ov, zv), rfl, ⟨s1, s2, r7, s3, Or.inl ⟨c9, rfl⟩⟩, by rw [ht]; exact hP9, va_K.moved hW9.alike hK9, hD9⟩, hS.F ht⟩) hS.2.2 dX3_solve_17
  · -- 9: goes on
    refine lv_iconst (v := 1) hx hb dX3_solve_12 (by decide) ?_
    refine lv_goto (tgt := 17) hx hb dX3_solve_13 (by decide) ?_
    have hP9 : va_P (dC, dI) ksCl [(xa, .inr (3, [.int (nI N), .ref ra, .ref sa, .ref aa, .int (nI ac), .int kc, .int kl, .int mp, .int mm, .int km])), (aa, .inl (cA, 40, .inl AS)), (sa, .inr (1, [.int (nI N), .ref ra, .ref ta, .ref qa, .int lap])), (ra, .inr (0, [.ref rp, .ref rq, .int (nI g), .int (nI n1)])), (rp, .inl (cP, 664, .inl P1)), (rq, .inl (cM, 664, .inl M1)), (ta, .inr (2, [.ref tb, .ref tr, .int k1, .int o1, .int z1])), (tb, .inl (cB, 16, .inl B1)), (tr, .inl (cR, 16, .inl R1)), (qa, .inr (2, [.ref qb, .ref qr, .int kv, .int ov, .int zv])), (qb, .inl (cE, 16, .inl Bv)), (qr, .inl (cF, 16, .inl Rv))] _ := hP
    have hD9 : va_D A [(xa, .inr (3, [.int (nI N), .ref ra, .ref sa, .ref aa, .int (nI ac), .int kc, .int kl, .int mp, .int mm, .int km])), (aa, .inl (cA, 40, .inl AS)), (sa, .inr (1, [.int (nI N), .ref ra, .ref ta, .ref qa, .int lap])), (ra, .inr (0, [.ref rp, .ref rq, .int (nI g), .int (nI n1)])), (rp, .inl (cP, 664, .inl P1)), (rq, .inl (cM, 664, .inl M1)), (ta, .inr (2, [.ref tb, .ref tr, .int k1, .int o1, .int z1])), (tb, .inl (cB, 16, .inl B1)), (tr, .inl (cR, 16, .inl R1)), (qa, .inr (2, [.ref qb, .ref qr, .int kv, .int ov, .int zv])), (qb, .inl (cE, 16, .inl Bv)), (qr, .inl (cF, 16, .inl Rv))] := hD
    have hK9 : va_K (dC, dI) ksCl [(cA, .int), (cP, .int), (cM, .int), (cB, .int), (cR, .int), (cE, .int), (cF, .int)] s := hK
    exact W.zret (v := 1) (ty := .boolean) hx hb hr (by decide) (fun t ht hW9 => ⟨⟨1, (P1, M1, n1, B1, R1, k1, o1, z1, Bv, Rv, kv, ov, zv), rfl, ⟨s1, s2, r7, s3, Or.inr ⟨c9, rfl⟩⟩, by rw [ht]; exact hP9, va_K.moved hW9.alike hK9, hD9⟩, hS.F ht⟩) hS.2.2 dX3_solve_17
end
section
set_option maxHeartbeats 4000000 in
set_option maxRecDepth 100000 in
/-- implied -/
theorem ks_implied (l : Launch) (dC : Nat → ClassId) (dI : Nat → Nat → Nat) (xa aa : Nat) (cA : ClassId) (sa : Nat) (ta tb tr : Nat) (cB cR : ClassId) (qa qb qr : Nat) (cE cF : ClassId) (ra rp rq : Nat) (cP cM : ClassId) (N : Nat) (lap kc kl mp mm km : Int32) (AS : Nat → Int32) (ac : Nat) (P M : Nat → Int32) (g nr : Nat) (Bt Rt : Nat → Int32) (kt ot zt : Int32) (Bq Rq : Nat → Int32) (kq oq zq : Int32) (x0 : Int32) (hN : N ≤ 16) (hg : g ≤ 600) (hW : ks_W N P M g nr) (hac : ac ≤ 40) (hlit : ∀ j, j < ac → ∃ v, ks_lit N (AS j) v) : ks_Mi l yX3_implied wsX3_implied ({ frames := 22, cells := 0, slots := 0, locals := 580 }) (dC, dI) [.ref xa, .int x0] [(xa, .inr (3, [.int (nI N), .ref ra, .ref sa, .ref aa, .int (nI ac), .int kc, .int kl, .int mp, .int mm, .int km])), (aa, .inl (cA, 40, .inl AS)), (sa, .inr (1, [.int (nI N), .ref ra, .ref ta, .ref qa, .int lap])), (ra, .inr (0, [.ref rp, .ref rq, .int (nI g), .int (nI nr)])), (rp, .inl (cP, 664, .inl P)), (rq, .inl (cM, 664, .inl M)), (ta, .inr (2, [.ref tb, .ref tr, .int kt, .int ot, .int zt])), (tb, .inl (cB, 16, .inl Bt)), (tr, .inl (cR, 16, .inl Rt)), (qa, .inr (2, [.ref qb, .ref qr, .int kq, .int oq, .int zq])), (qb, .inl (cE, 16, .inl Bq)), (qr, .inl (cF, 16, .inl Rq))] [(cA, .int), (cP, .int), (cM, .int), (cB, .int), (cR, .int), (cE, .int), (cF, .int)] 0 0 (S := (Nat → Int32) × (Nat → Int32) × Nat × (Nat → Int32) × (Nat → Int32) × Int32 × Int32 × Int32 × (Nat → Int32) × (Nat → Int32) × Int32 × Int32 × Int32) (fun r u => ks_W N u.1 u.2.1 g u.2.2.1 ∧ (∀ c, c < g → u.1 c = P c ∧ u.2.1 c = M c) ∧ ((¬ (∃ v, ks_lit N x0 v) ∧ r = -1) ∨ ((∃ v, ks_lit N x0 v) ∧ ∃ r0, ks_L N (ks_Y N AS ac (-1) 0 P M g) r0 ∧ ((r0 = -1 ∧ r = -1) ∨ (¬ r0 = -1 ∧ ∃ r1, ks_L N (ks_Y N AS ac (-1) (-x0) P M g) r1 ∧ ((r1 = -1 ∧ r = 1) ∨ (¬ r1 = -1 ∧ r = 0))))))) (fun u => [(xa, .inr (3, [.int (nI N), .ref ra, .ref sa, .ref aa, .int (nI ac), .int kc, .int kl, .int mp, .int mm, .int km])), (aa, .inl (cA, 40, .inl AS)), (sa, .inr (1, [.int (nI N), .ref ra, .ref ta, .ref qa, .int lap])), (ra, .inr (0, [.ref rp, .ref rq, .int (nI g), .int (nI u.2.2.1)])), (rp, .inl (cP, 664, .inl u.1)), (rq, .inl (cM, 664, .inl u.2.1)), (ta, .inr (2, [.ref tb, .ref tr, .int u.2.2.2.2.2.1, .int u.2.2.2.2.2.2.1, .int u.2.2.2.2.2.2.2.1])), (tb, .inl (cB, 16, .inl u.2.2.2.1)), (tr, .inl (cR, 16, .inl u.2.2.2.2.1)), (qa, .inr (2, [.ref qb, .ref qr, .int u.2.2.2.2.2.2.2.2.2.2.1, .int u.2.2.2.2.2.2.2.2.2.2.2.1, .int u.2.2.2.2.2.2.2.2.2.2.2.2])), (qb, .inl (cE, 16, .inl u.2.2.2.2.2.2.2.2.1)), (qr, .inl (cF, 16, .inl u.2.2.2.2.2.2.2.2.2.1))]) (fun u => [(cA, .int), (cP, .int), (cM, .int), (cB, .int), (cR, .int), (cE, .int), (cF, .int)]) := by
  intro sz
  refine Met.ofW (cc := cX3_implied) (maxL := 2) (ret := (some .int)) (by decide) rfl ?_
  intro p e s m args below meth c s₁ B9 hml hv
  obtain ⟨rfl, hsz, hP, hK, hD0, hNW⟩ := hv
  have hx := B9.exec
  have hb := B9.bytes
  have hr := B9.returns
  have hts := atoms_spec (ws := wsX3_implied) B9.pre
  have hown : s.vm.findClass RX3 = some m.cls := findClass_of_methodNamed B9.named
  have hlocks := B9.notSynchronized
  subst hsz
  have hD := hD0.self (sz := s.heap.size)
  generalize hAe : va_A [(xa, .inr (3, [.int (nI N), .ref ra, .ref sa, .ref aa, .int (nI ac), .int kc, .int kl, .int mp, .int mm, .int km])), (aa, .inl (cA, 40, .inl AS)), (sa, .inr (1, [.int (nI N), .ref ra, .ref ta, .ref qa, .int lap])), (ra, .inr (0, [.ref rp, .ref rq, .int (nI g), .int (nI nr)])), (rp, .inl (cP, 664, .inl P)), (rq, .inl (cM, 664, .inl M)), (ta, .inr (2, [.ref tb, .ref tr, .int kt, .int ot, .int zt])), (tb, .inl (cB, 16, .inl Bt)), (tr, .inl (cR, 16, .inl Rt)), (qa, .inr (2, [.ref qb, .ref qr, .int kq, .int oq, .int zq])), (qb, .inl (cE, 16, .inl Bq)), (qr, .inl (cF, 16, .inl Rq))] s.heap.size = A at hD ⊢
  have hA : ∀ q : Nat, s.heap.size ≤ q → A q := fun q h => by rw [← hAe]; exact Or.inr h
  have hS : va_S A s.heap s.heap [] := va_S.rf
  have k74 := hts (.constantLong RX3 74 (-1)) (by decide +kernel)
  have hl := lv_entry ([.ref xa, .int x0]) (n := 2) (Nat.le_of_ble_eq_true rfl)
  rw [lg_entry_eq]
  generalize (lg_sl ([.ref xa, .int x0]) ++ List.replicate (2 - (lg_sl ([.ref xa, .int x0])).length) Slot.unset).toArray = ls at hl ⊢
  have hl : lv_has ls 2 [(0, .ref xa), (1, .int x0)] := hl
  refine lv_aload_n hx hb dX3_implied_0 rfl (lv_at hl 0 rfl) ?_
  refine lv_iload_n hx hb dX3_implied_1 rfl (lv_at hl 1 rfl) ?_
  refine ks_calliV (As := [.int x0]) (rest := []) (wr := [(aa, .inl (cA, 40, .inl AS)), (sa, .inr (1, [.int (nI N), .ref ra, .ref ta, .ref qa, .int lap])), (ra, .inr (0, [.ref rp, .ref rq, .int (nI g), .int (nI nr)])), (rp, .inl (cP, 664, .inl P)), (rq, .inl (cM, 664, .inl M)), (ta, .inr (2, [.ref tb, .ref tr, .int kt, .int ot, .int zt])), (tb, .inl (cB, 16, .inl Bt)), (tr, .inl (cR, 16, .inl Rt)), (qa, .inr (2, [.ref qb, .ref qr, .int kq, .int oq, .int zq])), (qb, .inl (cE, 16, .inl Bq)), (qr, .inl (cF, 16, .inl Rq))]) (wz := fun _ => [(xa, .inr (3, [.int (nI N), .ref ra, .ref sa, .ref aa, .int (nI ac), .int kc, .int kl, .int mp, .int mm, .int km])), (aa, .inl (cA, 40, .inl AS)), (sa, .inr (1, [.int (nI N), .ref ra, .ref ta, .ref qa, .int lap])), (ra, .inr (0, [.ref rp, .ref rq, .int (nI g), .int (nI nr)])), (rp, .inl (cP, 664, .inl P)), (rq, .inl (cM, 664, .inl M)), (ta, .inr (2, [.ref tb, .ref tr, .int kt, .int ot, .int zt])), (tb, .inl (cB, 16, .inl Bt)), (tr, .inl (cR, 16, .inl Rt)), (qa, .inr (2, [.ref qb, .ref qr, .int kq, .int oq, .int zq])), (qb, .inl (cE, 16, .inl Bq)), (qr, .inl (cF, 16, .inl Rq))]) ⟨hx, hb, hml, hown, hts⟩ (ks_isLiteral l dC dI xa ra sa aa N (nI ac) kc kl mp mm km x0 hN) (cwV 1 hts gX3_implied_X3_isLiteral rfl rfl rfl (by decide +kernel) ⟨Nat.le_of_ble_eq_true rfl, Nat.le_of_ble_eq_true rfl⟩) hK hP hD hS hA hNW [0] [1, 2, 3, 4, 5, 6, 7, 8, 9, 10, 11] [] [11, 0, 1, 2, 3, 4, 5, 6, 7, 8, 9, 10] rfl rfl rfl rfl (by decide) (by decide) (by decide) (ci := 3) (q0 := 0) rfl rfl rfl (fun _ => rfl) (fun _ => rfl) (by decide) rfl hl.1 rfl (Nat.le_of_ble_eq_true rfl) dX3_implied_2 ⟨Nat.le_of_ble_eq_true rfl, Nat.le_of_ble_eq_true rfl⟩ (fun r1 u9 H locs hw9 hK9 hP hD hS => ?_)
  have hw1 := hw9
  have hP : va_P (dC, dI) ksCl [(xa, .inr (3, [.int (nI N), .ref ra, .ref sa, .ref aa, .int (nI ac), .int kc, .int kl, .int mp, .int mm, .int km])), (aa, .inl (cA, 40, .inl AS)), (sa, .inr (1, [.int (nI N), .ref ra, .ref ta, .ref qa, .int lap])), (ra, .inr (0, [.ref rp, .ref rq, .int (nI g), .int (nI nr)])), (rp, .inl (cP, 664, .inl P)), (rq, .inl (cM, 664, .inl M)), (ta, .inr (2, [.ref tb, .ref tr, .int kt, .int ot, .int zt])), (tb, .inl (cB, 16, .inl Bt)), (tr, .inl (cR, 16, .inl Rt)), (qa, .inr (2, [.ref qb, .ref qr, .int kq, .int oq, .int zq])), (qb, .inl (cE, 16, .inl Bq)), (qr, .inl (cF, 16, .inl Rq))] H := hP
  have hD : va_D A [(xa, .inr (3, [.int (nI N), .ref ra, .ref sa, .ref aa, .int (nI ac), .int kc, .int kl, .int mp, .int mm, .int km])), (aa, .inl (cA, 40, .inl AS)), (sa, .inr (1, [.int (nI N), .ref ra, .ref ta, .ref qa, .int lap])), (ra, .inr (0, [.ref rp, .ref rq, .int (nI g), .int (nI nr)])), (rp, .inl (cP, 664, .inl P)), (rq, .inl (cM, 664, .inl M)), (ta, .inr (2, [.ref tb, .ref tr, .int kt, .int ot, .int zt])), (tb, .inl (cB, 16, .inl Bt)), (tr, .inl (cR, 16, .inl Rt)), (qa, .inr (2, [.ref qb, .ref qr, .int kq, .int oq, .int zq])), (qb, .inl (cE, 16, .inl Bq)), (qr, .inl (cF, 16, .inl Rq))] := hD
  refine lv_if_eq (tgt := 20) hx hb dX3_implied_5 (by decide) (fun c5 => ?_) (fun c5 => ?_)
  · -- 5: jumps
    have hnl : ¬ ∃ v, ks_lit N x0 v := by
      rcases hw1 with q | q
      · exact absurd (q.1.symm.trans c5) (by decide)
      · exact q.2
    refine lv_iconst (v := -1) hx hb dX3_implied_20 (by decide) ?_
    have hP9 : va_P (dC, dI) ksCl [(xa, .inr (3, [.int (nI N), .ref ra, .ref sa, .ref aa, .int (nI ac), .int kc, .int kl, .int mp, .int mm, .int km])), (aa, .inl (cA, 40, .inl AS)), (sa, .inr (1, [.int (nI N), .ref ra, .ref ta, .ref qa, .int lap])), (ra, .inr (0, [.ref rp, .ref rq, .int (nI g), .int (nI nr)])), (rp, .inl (cP, 664, .inl P)), (rq, .inl (cM, 664, .inl M)), (ta, .inr (2, [.ref tb, .ref tr, .int kt, .int ot, .int zt])), (tb, .inl (cB, 16, .inl Bt)), (tr, .inl (cR, 16, .inl Rt)), (qa, .inr (2, [.ref qb, .ref qr, .int kq, .int oq, .int zq])), (qb, .inl (cE, 16, .inl Bq)), (qr, .inl (cF, 16, .inl Rq))] _ := hP
    have hD9 : va_D A [(xa, .inr (3, [.int (nI N), .ref ra, .ref sa, .ref aa, .int (nI ac), .int kc, .int kl, .int mp, .int mm, .int km])), (aa, .inl (cA, 40, .inl AS)), (sa, .inr (1, [.int (nI N), .ref ra, .ref ta, .ref qa, .int lap])), (ra, .inr (0, [.ref rp, .ref rq, .int (nI g), .int (nI nr)])), (rp, .inl (cP, 664, .inl P)), (rq, .inl (cM, 664, .inl M)), (ta, .inr (2, [.ref tb, .ref tr, .int kt, .int ot, .int zt])), (tb, .inl (cB, 16, .inl Bt)), (tr, .inl (cR, 16, .inl Rt)), (qa, .inr (2, [.ref qb, .ref qr, .int kq, .int oq, .int zq])), (qb, .inl (cE, 16, .inl Bq)), (qr, .inl (cF, 16, .inl Rq))] := hD
    have hK9 : va_K (dC, dI) ksCl [(cA, .int), (cP, .int), (cM, .int), (cB, .int), (cR, .int), (cE, .int), (cF, .int)] s := hK
    exact W.iret (v := -1) hx hb hr (fun t ht hW9 => ⟨⟨-1, (P, M, nr, Bt, Rt, kt, ot, zt, Bq, Rq, kq, oq, zq), rfl, ⟨hW, fun _ _ => ⟨rfl, rfl⟩, Or.inl ⟨hnl, rfl⟩⟩, by rw [ht]; exact hP9, va_K.moved hW9.alike hK9, hD9⟩, hS.F ht⟩) hS.2.2 dX3_implied_21
  · -- 5: goes on
    have hl0 : ∃ v, ks_lit N x0 v := by
      rcases hw1 with q | q
      · exact q.2
      · exact absurd q.1 c5
    refine lv_aload_n hx hb dX3_implied_8 rfl (lv_at hl 0 rfl) ?_
    refine lv_ldc2 (v := (-1)) hx hb hown k74 dX3_implied_9 ?_
    refine lv_iconst (v := 0) hx hb dX3_implied_12 (by decide) ?_
    refine ks_calliV (As := [.long (-1), .int 0]) (rest := []) (wr := []) (wz := fun u => [(xa, .inr (3, [.int (nI N), .ref ra, .ref sa, .ref aa, .int (nI ac), .int kc, .int kl, .int mp, .int mm, .int km])), (aa, .inl (cA, 40, .inl AS)), (sa, .inr (1, [.int (nI N), .ref ra, .ref ta, .ref qa, .int lap])), (ra, .inr (0, [.ref rp, .ref rq, .int (nI g), .int (nI u.2.2.1)])), (rp, .inl (cP, 664, .inl u.1)), (rq, .inl (cM, 664, .inl u.2.1)), (ta, .inr (2, [.ref tb, .ref tr, .int u.2.2.2.2.2.1, .int u.2.2.2.2.2.2.1, .int u.2.2.2.2.2.2.2.1])), (tb, .inl (cB, 16, .inl u.2.2.2.1)), (tr, .inl (cR, 16, .inl u.2.2.2.2.1)), (qa, .inr (2, [.ref qb, .ref qr, .int u.2.2.2.2.2.2.2.2.2.2.1, .int u.2.2.2.2.2.2.2.2.2.2.2.1, .int u.2.2.2.2.2.2.2.2.2.2.2.2])), (qb, .inl (cE, 16, .inl u.2.2.2.2.2.2.2.2.1)), (qr, .inl (cF, 16, .inl u.2.2.2.2.2.2.2.2.2.1))]) ⟨hx, hb, hml, hown, hts⟩ (ks_under l dC dI xa aa cA sa ta tb tr cB cR qa qb qr cE cF ra rp rq cP cM N lap kc kl mp mm km AS ac P M g nr Bt Rt kt ot zt Bq Rq kq oq zq (-1) 0 hN hg hW hac hlit (Or.inl rfl)) (cwV 2 hts gX3_implied_X3_firstModelUnder rfl rfl rfl (by decide +kernel) ⟨Nat.le_of_ble_eq_true rfl, Nat.le_of_ble_eq_true rfl⟩) hK hP hD hS hA hNW [0, 1, 2, 3, 4, 5, 6, 7, 8, 9, 10, 11] [] [0, 1, 2, 3, 4, 5, 6] [0, 1, 2, 3, 4, 5, 6, 7, 8, 9, 10, 11] rfl rfl rfl rfl (by decide) (by decide) (by decide) (ci := 3) (q0 := 0) rfl rfl rfl (fun _ => rfl) (fun _ => rfl) (by decide) rfl hl.1 rfl (Nat.le_of_ble_eq_true rfl) dX3_implied_13 ⟨Nat.le_of_ble_eq_true rfl, Nat.le_of_ble_eq_true rfl⟩ (fun r7 u9 H locs hw9 hK9 hP hD hS => ?_)
    obtain ⟨P1, M1, n1, B1, R1, k1, o1, z1, Bv, Rv, kv, ov, zv⟩ := u9
    obtain ⟨s1, s2, s3⟩ := hw9
    have hP : va_P (dC, dI) ksCl [(xa, .inr (3, [.int (nI N), .ref ra, .ref sa, .ref aa, .int (nI ac), .int kc, .int kl, .int mp, .int mm, .int km])), (aa, .inl (cA, 40, .inl AS)), (sa, .inr (1, [.int (nI N), .ref ra, .ref ta, .ref qa, .int lap])), (ra, .inr (0, [.ref rp, .ref rq, .int (nI g), .int (nI n1)])), (rp, .inl (cP, 664, .inl P1)), (rq, .inl (cM, 664, .inl M1)), (ta, .inr (2, [.ref tb, .ref tr, .int k1, .int o1, .int z1])), (tb, .inl (cB, 16, .inl B1)), (tr, .inl (cR, 16, .inl R1)), (qa, .inr (2, [.ref qb, .ref qr, .int kv, .int ov, .int zv])), (qb, .inl (cE, 16, .inl Bv)), (qr, .inl (cF, 16, .inl Rv))] H := hP
    have hD : va_D A [(xa, .inr (3, [.int (nI N), .ref ra, .ref sa, .ref aa, .int (nI ac), .int kc, .int kl, .int mp, .int mm, .int km])), (aa, .inl (cA, 40, .inl AS)), (sa, .inr (1, [.int (nI N), .ref ra, .ref ta, .ref qa, .int lap])), (ra, .inr (0, [.ref rp, .ref rq, .int (nI g), .int (nI n1)])), (rp, .inl (cP, 664, .inl P1)), (rq, .inl (cM, 664, .inl M1)), (ta, .inr (2, [.ref tb, .ref tr, .int k1, .int o1, .int z1])), (tb, .inl (cB, 16, .inl B1)), (tr, .inl (cR, 16, .inl R1)), (qa, .inr (2, [.ref qb, .ref qr, .int kv, .int ov, .int zv])), (qb, .inl (cE, 16, .inl Bv)), (qr, .inl (cF, 16, .inl Rv))] := hD
    refine lv_iconst (v := -1) hx hb dX3_implied_16 (by decide) ?_
    refine lv_icmp_ne (tgt := 22) hx hb dX3_implied_17 (by decide) (fun c17 => ?_) (fun c17 => ?_)
    · -- 17: jumps
      refine lv_aload_n hx hb dX3_implied_22 rfl (lv_at hl 0 rfl) ?_
      refine lv_ldc2 (v := (-1)) hx hb hown k74 dX3_implied_23 ?_
      refine lv_iload_n hx hb dX3_implied_26 rfl (lv_at hl 1 rfl) ?_
      refine lv_ineg hx hb dX3_implied_27 ?_
      refine ks_calliV (As := [.long (-1), .int (-x0)]) (rest := []) (wr := []) (wz := fun u => [(xa, .inr (3, [.int (nI N), .ref ra, .ref sa, .ref aa, .int (nI ac), .int kc, .int kl, .int mp, .int mm, .int km])), (aa, .inl (cA, 40, .inl AS)), (sa, .inr (1, [.int (nI N), .ref ra, .ref ta, .ref qa, .int lap])), (ra, .inr (0, [.ref rp, .ref rq, .int (nI g), .int (nI u.2.2.1)])), (rp, .inl (cP, 664, .inl u.1)), (rq, .inl (cM, 664, .inl u.2.1)), (ta, .inr (2, [.ref tb, .ref tr, .int u.2.2.2.2.2.1, .int u.2.2.2.2.2.2.1, .int u.2.2.2.2.2.2.2.1])), (tb, .inl (cB, 16, .inl u.2.2.2.1)), (tr, .inl (cR, 16, .inl u.2.2.2.2.1)), (qa, .inr (2, [.ref qb, .ref qr, .int u.2.2.2.2.2.2.2.2.2.2.1, .int u.2.2.2.2.2.2.2.2.2.2.2.1, .int u.2.2.2.2.2.2.2.2.2.2.2.2])), (qb, .inl (cE, 16, .inl u.2.2.2.2.2.2.2.2.1)), (qr, .inl (cF, 16, .inl u.2.2.2.2.2.2.2.2.2.1))]) ⟨hx, hb, hml, hown, hts⟩ (ks_under l dC dI xa aa cA sa ta tb tr cB cR qa qb qr cE cF ra rp rq cP cM N lap kc kl mp mm km AS ac P1 M1 g n1 B1 R1 k1 o1 z1 Bv Rv kv ov zv (-1) (-x0) hN hg s1 hac hlit (Or.inr ⟨hl0.choose, ks_lit_neg hl0.choose_spec⟩)) (cwV 2 hts gX3_implied_X3_firstModelUnder rfl rfl rfl (by decide +kernel) ⟨Nat.le_of_ble_eq_true rfl, Nat.le_of_ble_eq_true rfl⟩) hK hP hD hS hA hNW [0, 1, 2, 3, 4, 5, 6, 7, 8, 9, 10, 11] [] [0, 1, 2, 3, 4, 5, 6] [0, 1, 2, 3, 4, 5, 6, 7, 8, 9, 10, 11] rfl rfl rfl rfl (by decide) (by decide) (by decide) (ci := 3) (q0 := 0) rfl rfl rfl (fun _ => rfl) (fun _ => rfl) (by decide) rfl hl.1 rfl (Nat.le_of_ble_eq_true rfl) dX3_implied_28 ⟨Nat.le_of_ble_eq_true rfl, Nat.le_of_ble_eq_true rfl⟩ (fun r8 u9 H locs hw9 hK9 hP hD hS => ?_)
      obtain ⟨P2, M2, n2, B2, R2, k2, o2, z2, Bw, Rw, kw, ow, zw⟩ := u9
      obtain ⟨s1b, s2b, s3b⟩ := hw9
      have hP : va_P (dC, dI) ksCl [(xa, .inr (3, [.int (nI N), .ref ra, .ref sa, .ref aa, .int (nI ac), .int kc, .int kl, .int mp, .int mm, .int km])), (aa, .inl (cA, 40, .inl AS)), (sa, .inr (1, [.int (nI N), .ref ra, .ref ta, .ref qa, .int lap])), (ra, .inr (0, [.ref rp, .ref rq, .int (nI g), .int (nI n2)])), (rp, .inl (cP, 664, .inl P2)), (rq, .inl (cM, 664, .inl M2)), (ta, .inr (2, [.ref tb, .ref tr, .int k2, .int o2, .int z2])), (tb, .inl (cB, 16, .inl B2)), (tr, .inl (cR, 16, .inl R2)), (qa, .inr (2, [.ref qb, .ref qr, .int kw, .int ow, .int zw])), (qb, .inl (cE, 16, .inl Bw)), (qr, .inl (cF, 16, .inl Rw))] H := hP
      have hD : va_D A [(xa, .inr (3, [.int (nI N), .ref ra, .ref sa, .ref aa, .int (nI ac), .int kc, .int kl, .int mp, .int mm, .int km])), (aa, .inl (cA, 40, .inl AS)), (sa, .inr (1, [.int (nI N), .ref ra, .ref ta, .ref qa, .int lap])), (ra, .inr (0, [.ref rp, .ref rq, .int (nI g), .int (nI n2)])), (rp, .inl (cP, 664, .inl P2)), (rq, .inl (cM, 664, .inl M2)), (ta, .inr (2, [.ref tb, .ref tr, .int k2, .int o2, .int z2])), (tb, .inl (cB, 16, .inl B2)), (tr, .inl (cR, 16, .inl R2)), (qa, .inr (2, [.ref qb, .ref qr, .int kw, .int ow, .int zw])), (qb, .inl (cE, 16, .inl Bw)), (qr, .inl (cF, 16, .inl Rw))] := hD
      refine lv_iconst (v := -1) hx hb dX3_implied_31 (by decide) ?_
      refine lv_icmp_ne (tgt := 39) hx hb dX3_implied_32 (by decide) (fun c32 => ?_) (fun c32 => ?_)
      · -- 32: jumps
        refine lv_iconst (v := 0) hx hb dX3_implied_39 (by decide) ?_
        have hP9 : va_P (dC, dI) ksCl [(xa, .inr (3, [.int (nI N), .ref ra, .ref sa, .ref aa, .int (nI ac), .int kc, .int kl, .int mp, .int mm, .int km])), (aa, .inl (cA, 40, .inl AS)), (sa, .inr (1, [.int (nI N), .ref ra, .ref ta, .ref qa, .int lap])), (ra, .inr (0, [.ref rp, .ref rq, .int (nI g), .int (nI n2)])), (rp, .inl (cP, 664, .inl P2)), (rq, .inl (cM, 664, .inl M2)), (ta, .inr (2, [.ref tb, .ref tr, .int k2, .int o2, .int z2])), (tb, .inl (cB, 16, .inl B2)), (tr, .inl (cR, 16, .inl R2)), (qa, .inr (2, [.ref qb, .ref qr, .int kw, .int ow, .int zw])), (qb, .inl (cE, 16, .inl Bw)), (qr, .inl (cF, 16, .inl Rw))] _ := hP
        have hD9 : va_D A [(xa, .inr (3, [.int (nI N), .ref ra, .ref sa, .ref aa, .int (nI ac), .int kc, .int kl, .int mp, .int mm, .int km])), (aa, .inl (cA, 40, .inl AS)), (sa, .inr (1, [.int (nI N), .ref ra, .ref ta, .ref qa, .int lap])), (ra, .inr (0, [.ref rp, .ref rq, .int (nI g), .int (nI n2)])), (rp, .inl (cP, 664, .inl P2)), (rq, .inl (cM, 664, .inl M2)), (ta, .inr (2, [.ref tb, .ref tr, .int k2, .int o2, .int z2])), (tb, .inl (cB, 16, .inl B2)), (tr, .inl (cR, 16, .inl R2)), (qa, .inr (2, [.ref qb, .ref qr, .int kw, .int ow, .int zw])), (qb, .inl (cE, 16, .inl Bw)), (qr, .inl (cF, 16, .inl Rw))] := hD
        have hK9 : va_K (dC, dI) ksCl [(cA, .int), (cP, .int), (cM, .int), (cB, .int), (cR, .int), (cE, .int), (cF, .int)] s := hK
        exact W.iret (v := 0) hx hb hr (fun t ht hW9 => ⟨⟨0, (P2, M2, n2, B2, R2, k2, o2, z2, Bw, Rw, kw, ow, zw), rfl, ⟨s1b, fun c hc => ⟨((s2b c hc).1).trans (s2 c hc).1, ((s2b c hc).2).trans (s2 c hc).2⟩, Or.inr ⟨hl0, r7, s3, Or.inr ⟨c17, r8, ks_Y.ext s2 s3b, Or.inr ⟨c32, rfl⟩⟩⟩⟩, by rw [ht]; exact hP9, va_K.moved hW9.alike hK9, hD9⟩, hS.F ht⟩) hS.2.2 dX3_implied_40
      · -- 32: goes on
        refine lv_iconst (v := 1) hx hb dX3_implied_35 (by decide) ?_
        refine lv_goto (tgt := 40) hx hb dX3_implied_36 (by decide) ?_
        have hP9 : va_P (dC, dI) ksCl [(xa, .inr (3, [.int (nI N), .ref ra, .ref sa, .ref aa, .int (nI ac), .int kc, .int kl, .int mp, .int mm, .int km])), (aa, .inl (cA, 40, .inl AS)), (sa, .inr (1, [.int (nI N), .ref ra, .ref ta, .ref qa, .int lap])), (ra, .inr (0, [.ref rp, .ref rq, .int (nI g), .int (nI n2)])), (rp, .inl (cP, 664, .inl P2)), (rq, .inl (cM, 664, .inl M2)), (ta, .inr (2, [.ref tb, .ref tr, .int k2, .int o2, .int z2])), (tb, .inl (cB, 16, .inl B2)), (tr, .inl (cR, 16, .inl R2)), (qa, .inr (2, [.ref qb, .ref qr, .int kw, .int ow, .int zw])), (qb, .inl (cE, 16, .inl Bw)), (qr, .inl (cF, 16, .inl Rw))] _ := hP
        have hD9 : va_D A [(xa, .inr (3, [.int (nI N), .ref ra, .ref sa, .ref aa, .int (nI ac), .int kc, .int kl, .int mp, .int mm, .int km])), (aa, .inl (cA, 40, .inl AS)), (sa, .inr (1, [.int (nI N), .ref ra, .ref ta, .ref qa, .int lap])), (ra, .inr (0, [.ref rp, .ref rq, .int (nI g), .int (nI n2)])), (rp, .inl (cP, 664, .inl P2)), (rq, .inl (cM, 664, .inl M2)), (ta, .inr (2, [.ref tb, .ref tr, .int k2, .int o2, .int z2])), (tb, .inl (cB, 16, .inl B2)), (tr, .inl (cR, 16, .inl R2)), (qa, .inr (2, [.ref qb, .ref qr, .int kw, .int ow, .int zw])), (qb, .inl (cE, 16, .inl Bw)), (qr, .inl (cF, 16, .inl Rw))] := hD
        have hK9 : va_K (dC, dI) ksCl [(cA, .int), (cP, .int), (cM, .int), (cB, .int), (cR, .int), (cE, .int), (cF, .int)] s := hK
        exact W.iret (v := 1) hx hb hr (fun t ht hW9 => ⟨⟨1, (P2, M2, n2, B2, R2, k2, o2, z2, Bw, Rw, kw, ow, zw), rfl, ⟨s1b, fun c hc => ⟨((s2b c hc).1).trans (s2 c hc).1, ((s2b c hc).2).trans (s2 c hc).2⟩, Or.inr ⟨hl0, r7, s3, Or.inr ⟨c17, r8, ks_Y.ext s2 s3b, Or.inl ⟨c32, rfl⟩⟩⟩⟩, by rw [ht]; exact hP9, va_K.moved hW9.alike hK9, hD9⟩, hS.F ht⟩) hS.2.2 dX3_implied_40
    · -- 17: goes on
      refine lv_iconst (v := -1) hx hb dX3_implied_20 (by decide) ?_
      have hP9 : va_P (dC, dI) ksCl [(xa, .inr (3, [.int (nI N), .ref ra, .ref sa, .ref aa, .int (nI ac), .int kc, .int kl, .int mp, .int mm, .int km])), (aa, .inl (cA, 40, .inl AS)), (sa, .inr (1, [.int (nI N), .ref ra, .ref ta, .ref qa, .int lap])), (ra, .inr (0, [.ref rp, .ref rq, .int (nI g), .int (nI n1)])), (rp, .inl (cP, 664, .inl P1)), (rq, .inl (cM, 664, .inl M1)), (ta, .inr (2, [.ref tb, .ref tr, .int k1, .int o1, .int z1])), (tb, .inl (cB, 16, .inl B1)), (tr, .inl (cR, 16, .inl R1)), (qa, .inr (2, [.ref qb, .ref qr, .int kv, .int ov, .int zv])), (qb, .inl (cE, 16, .inl Bv)), (qr, .inl (cF, 16, .inl Rv))] _ := hP
      have hD9 : va_D A [(xa, .inr (3, [.int (nI N), .ref ra, .ref sa, .ref aa, .int (nI ac), .int kc, .int kl, .int mp, .int mm, .int km])), (aa, .inl (cA, 40, .inl AS)), (sa, .inr (1, [.int (nI N), .ref ra, .ref ta, .ref qa, .int lap])), (ra, .inr (0, [.ref rp, .ref rq, .int (nI g), .int (nI n1)])), (rp, .inl (cP, 664, .inl P1)), (rq, .inl (cM, 664, .inl M1)), (ta, .inr (2, [.ref tb, .ref tr, .int k1, .int o1, .int z1])), (tb, .inl (cB, 16, .inl B1)), (tr, .inl (cR, 16, .inl R1)), (qa, .inr (2, [.ref qb, .ref qr, .int kv, .int ov, .int zv])), (qb, .inl (cE, 16, .inl Bv)), (qr, .inl (cF, 16, .inl Rv))] := hD
      have hK9 : va_K (dC, dI) ksCl [(cA, .int), (cP, .int), (cM, .int), (cB, .int), (cR, .int), (cE, .int), (cF, .int)] s := hK
      exact W.iret (v := -1) hx hb hr (fun t ht hW9 => ⟨⟨-1, (P1, M1, n1, B1, R1, k1, o1, z1, Bv, Rv, kv, ov, zv), rfl, ⟨s1, s2, Or.inr ⟨hl0, r7, s3, Or.inl ⟨c17, rfl⟩⟩⟩, by rw [ht]; exact hP9, va_K.moved hW9.alike hK9, hD9⟩, hS.F ht⟩) hS.2.2 dX3_implied_21
end
section
set_option maxHeartbeats 4000000 in
set_option maxRecDepth 100000 in
/-- core -/
theorem ks_core (l : Launch) (dC : Nat → ClassId) (dI : Nat → Nat → Nat) (xa aa : Nat) (cA : ClassId) (sa : Nat) (ta tb tr : Nat) (cB cR : ClassId) (qa qb qr : Nat) (cE cF : ClassId) (ra rp rq : Nat) (cP cM : ClassId) (N : Nat) (lap kc kl mp mm km : Int32) (AS : Nat → Int32) (ac : Nat) (P M : Nat → Int32) (g nr : Nat) (Bt Rt : Nat → Int32) (kt ot zt : Int32) (Bq Rq : Nat → Int32) (kq oq zq : Int32) (hN : N ≤ 16) (hg : g ≤ 600) (hW : ks_W N P M g nr) (hac : ac ≤ 40) (hlit : ∀ j, j < ac → ∃ v, ks_lit N (AS j) v) : ks_Ml l yX3_core wsX3_core ({ frames := 22, cells := 0, slots := 0, locals := 580 }) (dC, dI) [.ref xa] [(xa, .inr (3, [.int (nI N), .ref ra, .ref sa, .ref aa, .int (nI ac), .int kc, .int kl, .int mp, .int mm, .int km])), (aa, .inl (cA, 40, .inl AS)), (sa, .inr (1, [.int (nI N), .ref ra, .ref ta, .ref qa, .int lap])), (ra, .inr (0, [.ref rp, .ref rq, .int (nI g), .int (nI nr)])), (rp, .inl (cP, 664, .inl P)), (rq, .inl (cM, 664, .inl M)), (ta, .inr (2, [.ref tb, .ref tr, .int kt, .int ot, .int zt])), (tb, .inl (cB, 16, .inl Bt)), (tr, .inl (cR, 16, .inl Rt)), (qa, .inr (2, [.ref qb, .ref qr, .int kq, .int oq, .int zq])), (qb, .inl (cE, 16, .inl Bq)), (qr, .inl (cF, 16, .inl Rq))] [(cA, .int), (cP, .int), (cM, .int), (cB, .int), (cR, .int), (cE, .int), (cF, .int)] 0 0 (S := (Nat → Int32) × (Nat → Int32) × Nat × (Nat → Int32) × (Nat → Int32) × Int32 × Int32 × Int32 × (Nat → Int32) × (Nat → Int32) × Int32 × Int32 × Int32) (fun r u => ks_W N u.1 u.2.1 g u.2.2.1 ∧ (∀ c, c < g → u.1 c = P c ∧ u.2.1 c = M c) ∧ ∃ r0, ks_L N (ks_Y N AS ac (-1) 0 P M g) r0 ∧ ((¬ r0 = -1 ∧ r = 0) ∨ (r0 = -1 ∧ ks_kp (ks_nm N AS ac P M g) (ks_K0 ac) ac r))) (fun u => [(xa, .inr (3, [.int (nI N), .ref ra, .ref sa, .ref aa, .int (nI ac), .int kc, .int kl, .int mp, .int mm, .int km])), (aa, .inl (cA, 40, .inl AS)), (sa, .inr (1, [.int (nI N), .ref ra, .ref ta, .ref qa, .int lap])), (ra, .inr (0, [.ref rp, .ref rq, .int (nI g), .int (nI u.2.2.1)])), (rp, .inl (cP, 664, .inl u.1)), (rq, .inl (cM, 664, .inl u.2.1)), (ta, .inr (2, [.ref tb, .ref tr, .int u.2.2.2.2.2.1, .int u.2.2.2.2.2.2.1, .int u.2.2.2.2.2.2.2.1])), (tb, .inl (cB, 16, .inl u.2.2.2.1)), (tr, .inl (cR, 16, .inl u.2.2.2.2.1)), (qa, .inr (2, [.ref qb, .ref qr, .int u.2.2.2.2.2.2.2.2.2.2.1, .int u.2.2.2.2.2.2.2.2.2.2.2.1, .int u.2.2.2.2.2.2.2.2.2.2.2.2])), (qb, .inl (cE, 16, .inl u.2.2.2.2.2.2.2.2.1)), (qr, .inl (cF, 16, .inl u.2.2.2.2.2.2.2.2.2.1))]) (fun u => [(cA, .int), (cP, .int), (cM, .int), (cB, .int), (cR, .int), (cE, .int), (cF, .int)]) := by
  intro sz
  refine Met.ofW (cc := cX3_core) (maxL := 6) (ret := (some .long)) (by decide) rfl ?_
  intro p e s m args below meth c s₁ B9 hml hv
  obtain ⟨rfl, hsz, hP, hK, hD0, hNW⟩ := hv
  have hx := B9.exec
  have hb := B9.bytes
  have hr := B9.returns
  have hts := atoms_spec (ws := wsX3_core) B9.pre
  have hown : s.vm.findClass RX3 = some m.cls := findClass_of_methodNamed B9.named
  have hlocks := B9.notSynchronized
  subst hsz
  have hD := hD0.self (sz := s.heap.size)
  generalize hAe : va_A [(xa, .inr (3, [.int (nI N), .ref ra, .ref sa, .ref aa, .int (nI ac), .int kc, .int kl, .int mp, .int mm, .int km])), (aa, .inl (cA, 40, .inl AS)), (sa, .inr (1, [.int (nI N), .ref ra, .ref ta, .ref qa, .int lap])), (ra, .inr (0, [.ref rp, .ref rq, .int (nI g), .int (nI nr)])), (rp, .inl (cP, 664, .inl P)), (rq, .inl (cM, 664, .inl M)), (ta, .inr (2, [.ref tb, .ref tr, .int kt, .int ot, .int zt])), (tb, .inl (cB, 16, .inl Bt)), (tr, .inl (cR, 16, .inl Rt)), (qa, .inr (2, [.ref qb, .ref qr, .int kq, .int oq, .int zq])), (qb, .inl (cE, 16, .inl Bq)), (qr, .inl (cF, 16, .inl Rq))] s.heap.size = A at hD ⊢
  have hA : ∀ q : Nat, s.heap.size ≤ q → A q := fun q h => by rw [← hAe]; exact Or.inr h
  have hS : va_S A s.heap s.heap [] := va_S.rf
  have hiX3 : ∀ w ∈ u_ws RX3 TX3 10, w ∈ wsX3_core := by decide +kernel
  have f71 := hts (.fieldLink RX3 71 "LessonSolver" "assumptionCount" "I") (by decide +kernel)
  have k74 := hts (.constantLong RX3 74 (-1)) (by decide +kernel)
  have hl := lv_entry ([.ref xa]) (n := 6) (Nat.le_of_ble_eq_true rfl)
  rw [lg_entry_eq]
  generalize (lg_sl ([.ref xa]) ++ List.replicate (6 - (lg_sl ([.ref xa])).length) Slot.unset).toArray = ls at hl ⊢
  have hl : lv_has ls 6 [(0, .ref xa)] := hl
  refine lv_aload_n hx hb dX3_core_0 rfl (lv_at hl 0 rfl) ?_
  refine lv_ldc2 (v := (-1)) hx hb hown k74 dX3_core_1 ?_
  refine lv_iconst (v := 0) hx hb dX3_core_4 (by decide) ?_
  refine ks_calliV (As := [.long (-1), .int 0]) (rest := []) (wr := []) (wz := fun u => [(xa, .inr (3, [.int (nI N), .ref ra, .ref sa, .ref aa, .int (nI ac), .int kc, .int kl, .int mp, .int mm, .int km])), (aa, .inl (cA, 40, .inl AS)), (sa, .inr (1, [.int (nI N), .ref ra, .ref ta, .ref qa, .int lap])), (ra, .inr (0, [.ref rp, .ref rq, .int (nI g), .int (nI u.2.2.1)])), (rp, .inl (cP, 664, .inl u.1)), (rq, .inl (cM, 664, .inl u.2.1)), (ta, .inr (2, [.ref tb, .ref tr, .int u.2.2.2.2.2.1, .int u.2.2.2.2.2.2.1, .int u.2.2.2.2.2.2.2.1])), (tb, .inl (cB, 16, .inl u.2.2.2.1)), (tr, .inl (cR, 16, .inl u.2.2.2.2.1)), (qa, .inr (2, [.ref qb, .ref qr, .int u.2.2.2.2.2.2.2.2.2.2.1, .int u.2.2.2.2.2.2.2.2.2.2.2.1, .int u.2.2.2.2.2.2.2.2.2.2.2.2])), (qb, .inl (cE, 16, .inl u.2.2.2.2.2.2.2.2.1)), (qr, .inl (cF, 16, .inl u.2.2.2.2.2.2.2.2.2.1))]) ⟨hx, hb, hml, hown, hts⟩ (ks_under l dC dI xa aa cA sa ta tb tr cB cR qa qb qr cE cF ra rp rq cP cM N lap kc kl mp mm km AS ac P M g nr Bt Rt kt ot zt Bq Rq kq oq zq (-1) 0 hN hg hW hac hlit (Or.inl rfl)) (cwV 2 hts gX3_core_X3_firstModelUnder rfl rfl rfl (by decide +kernel) ⟨Nat.le_of_ble_eq_true rfl, Nat.le_of_ble_eq_true rfl⟩) hK hP hD hS hA hNW [0, 1, 2, 3, 4, 5, 6, 7, 8, 9, 10, 11] [] [0, 1, 2, 3, 4, 5, 6] [0, 1, 2, 3, 4, 5, 6, 7, 8, 9, 10, 11] rfl rfl rfl rfl (by decide) (by decide) (by decide) (ci := 3) (q0 := 0) rfl rfl rfl (fun _ => rfl) (fun _ => rfl) (by decide) rfl hl.1 rfl (Nat.le_of_ble_eq_true rfl) dX3_core_5 ⟨Nat.le_of_ble_eq_true rfl, Nat.le_of_ble_eq_true rfl⟩ (fun r7 u9 H locs hw9 hK9 hP hD hS => ?_)
  obtain ⟨P1, M1, n1, B1, R1, k1, o1, z1, Bv, Rv, kv, ov, zv⟩ := u9
  obtain ⟨s1, s2, s3⟩ := hw9
  have hP : va_P (dC, dI) ksCl [(xa, .inr (3, [.int (nI N), .ref ra, .ref sa, .ref aa, .int (nI ac), .int kc, .int kl, .int mp, .int mm, .int km])), (aa, .inl (cA, 40, .inl AS)), (sa, .inr (1, [.int (nI N), .ref ra, .ref ta, .ref qa, .int lap])), (ra, .inr (0, [.ref rp, .ref rq, .int (nI g), .int (nI n1)])), (rp, .inl (cP, 664, .inl P1)), (rq, .inl (cM, 664, .inl M1)), (ta, .inr (2, [.ref tb, .ref tr, .int k1, .int o1, .int z1])), (tb, .inl (cB, 16, .inl B1)), (tr, .inl (cR, 16, .inl R1)), (qa, .inr (2, [.ref qb, .ref qr, .int kv, .int ov, .int zv])), (qb, .inl (cE, 16, .inl Bv)), (qr, .inl (cF, 16, .inl Rv))] H := hP
  have hD : va_D A [(xa, .inr (3, [.int (nI N), .ref ra, .ref sa, .ref aa, .int (nI ac), .int kc, .int kl, .int mp, .int mm, .int km])), (aa, .inl (cA, 40, .inl AS)), (sa, .inr (1, [.int (nI N), .ref ra, .ref ta, .ref qa, .int lap])), (ra, .inr (0, [.ref rp, .ref rq, .int (nI g), .int (nI n1)])), (rp, .inl (cP, 664, .inl P1)), (rq, .inl (cM, 664, .inl M1)), (ta, .inr (2, [.ref tb, .ref tr, .int k1, .int o1, .int z1])), (tb, .inl (cB, 16, .inl B1)), (tr, .inl (cR, 16, .inl R1)), (qa, .inr (2, [.ref qb, .ref qr, .int kv, .int ov, .int zv])), (qb, .inl (cE, 16, .inl Bv)), (qr, .inl (cF, 16, .inl Rv))] := hD
  refine lv_iconst (v := -1) hx hb dX3_core_8 (by decide) ?_
  refine lv_icmp_eq (tgt := 14) hx hb dX3_core_9 (by decide) (fun c9 => ?_) (fun c9 => ?_)
  · -- 9: jumps
    refine lv_lconst (v := 1) hx hb dX3_core_14 (by decide) ?_
    refine lv_aload_n hx hb dX3_core_15 rfl (lv_at hl 0 rfl) ?_
    refine va_get (D := (dC, dI)) (ci := 3) (v := .int (nI ac)) (C := RX3) (T := TX3) (N := 10) hx hb hts hiX3 hown hK hP 0 rfl rfl 4 (by decide) f71 (fun _ h9 => h9) rfl dX3_core_16 ?_
    refine lv_lshl hx hb dX3_core_19 rfl ?_
    refine lv_lconst (v := 1) hx hb dX3_core_20 (by decide) ?_
    refine lv_lsub hx hb dX3_core_21 ?_
    refine ks_topl (y := ks_K0 ac) (rfl) ?_
    refine lv_lstore_n (lv' := [(1, .long (ks_K0 ac)), (0, .ref xa)]) hx hb dX3_core_22 rfl hl (by decide) rfl (fun ls hl => ?_)
    refine lv_iconst (v := nI 0) hx hb dX3_core_23 (by decide) ?_
    refine lv_istore_n (lv' := [(3, .int (nI 0)), (1, .long (ks_K0 ac)), (0, .ref xa)]) hx hb dX3_core_24 rfl hl (by decide) rfl (fun ls hl => ?_)
    refine ks_wl (σ := Nat × Int64 × (Nat → Int32) × (Nat → Int32) × Nat × (Nat → Int32) × (Nat → Int32) × Int32 × Int32 × Int32 × (Nat → Int32) × (Nat → Int32) × Int32 × Int32 × Int32) (fun n x H locs ls => (x.1 ≤ ac) ∧ (n + x.1 = ac + 1) ∧ (ks_kp (ks_nm N AS ac P M g) (ks_K0 ac) x.1 x.2.1) ∧ (ks_W N x.2.2.1 x.2.2.2.1 g x.2.2.2.2.1) ∧ (∀ c, c < g → x.2.2.1 c = P c ∧ x.2.2.2.1 c = M c) ∧ va_P (dC, dI) ksCl [(xa, .inr (3, [.int (nI N), .ref ra, .ref sa, .ref aa, .int (nI ac), .int kc, .int kl, .int mp, .int mm, .int km])), (aa, .inl (cA, 40, .inl AS)), (sa, .inr (1, [.int (nI N), .ref ra, .ref ta, .ref qa, .int lap])), (ra, .inr (0, [.ref rp, .ref rq, .int (nI g), .int (nI x.2.2.2.2.1)])), (rp, .inl (cP, 664, .inl x.2.2.1)), (rq, .inl (cM, 664, .inl x.2.2.2.1)), (ta, .inr (2, [.ref tb, .ref tr, .int x.2.2.2.2.2.2.2.1, .int x.2.2.2.2.2.2.2.2.1, .int x.2.2.2.2.2.2.2.2.2.1])), (tb, .inl (cB, 16, .inl x.2.2.2.2.2.1)), (tr, .inl (cR, 16, .inl x.2.2.2.2.2.2.1)), (qa, .inr (2, [.ref qb, .ref qr, .int x.2.2.2.2.2.2.2.2.2.2.2.2.1, .int x.2.2.2.2.2.2.2.2.2.2.2.2.2.1, .int x.2.2.2.2.2.2.2.2.2.2.2.2.2.2])), (qb, .inl (cE, 16, .inl x.2.2.2.2.2.2.2.2.2.2.1)), (qr, .inl (cF, 16, .inl x.2.2.2.2.2.2.2.2.2.2.2.1))] H ∧ va_D A [(xa, .inr (3, [.int (nI N), .ref ra, .ref sa, .ref aa, .int (nI ac), .int kc, .int kl, .int mp, .int mm, .int km])), (aa, .inl (cA, 40, .inl AS)), (sa, .inr (1, [.int (nI N), .ref ra, .ref ta, .ref qa, .int lap])), (ra, .inr (0, [.ref rp, .ref rq, .int (nI g), .int (nI x.2.2.2.2.1)])), (rp, .inl (cP, 664, .inl x.2.2.1)), (rq, .inl (cM, 664, .inl x.2.2.2.1)), (ta, .inr (2, [.ref tb, .ref tr, .int x.2.2.2.2.2.2.2.1, .int x.2.2.2.2.2.2.2.2.1, .int x.2.2.2.2.2.2.2.2.2.1])), (tb, .inl (cB, 16, .inl x.2.2.2.2.2.1)), (tr, .inl (cR, 16, .inl x.2.2.2.2.2.2.1)), (qa, .inr (2, [.ref qb, .ref qr, .int x.2.2.2.2.2.2.2.2.2.2.2.2.1, .int x.2.2.2.2.2.2.2.2.2.2.2.2.2.1, .int x.2.2.2.2.2.2.2.2.2.2.2.2.2.2])), (qb, .inl (cE, 16, .inl x.2.2.2.2.2.2.2.2.2.2.1)), (qr, .inl (cF, 16, .inl x.2.2.2.2.2.2.2.2.2.2.2.1))] ∧ va_S A s.heap H locs ∧ lv_has ls 6 [(0, .ref xa), (1, .long x.2.1), (3, .int (nI x.1))]) 25 ?_ ?_ (ac + 1) (0, ks_K0 ac, P1, M1, n1, B1, R1, k1, o1, z1, Bv, Rv, kv, ov, zv) _ _ ls ⟨Nat.zero_le _, rfl, rfl, s1, s2, hP, hD, hS, lv_sub hl [2, 1, 0] rfl⟩
    · -- loop at 25
      intro n x H locs ls h9 ih
      obtain ⟨i, K, P1, M1, n1, B1, R1, k1, o1, z1, Bv, Rv, kv, ov, zv⟩ := x
      obtain ⟨i1, i2, i3, i4, i5, hP, hD, hS, hl⟩ := h9
      have i1 : i ≤ ac := i1
      have i2 : (n + 1) + i = ac + 1 := i2
      have i3 : ks_kp (ks_nm N AS ac P M g) (ks_K0 ac) i K := i3
      have i4 : ks_W N P1 M1 g n1 := i4
      have i5 : ∀ c, c < g → P1 c = P c ∧ M1 c = M c := i5
      have hP : va_P (dC, dI) ksCl [(xa, .inr (3, [.int (nI N), .ref ra, .ref sa, .ref aa, .int (nI ac), .int kc, .int kl, .int mp, .int mm, .int km])), (aa, .inl (cA, 40, .inl AS)), (sa, .inr (1, [.int (nI N), .ref ra, .ref ta, .ref qa, .int lap])), (ra, .inr (0, [.ref rp, .ref rq, .int (nI g), .int (nI n1)])), (rp, .inl (cP, 664, .inl P1)), (rq, .inl (cM, 664, .inl M1)), (ta, .inr (2, [.ref tb, .ref tr, .int k1, .int o1, .int z1])), (tb, .inl (cB, 16, .inl B1)), (tr, .inl (cR, 16, .inl R1)), (qa, .inr (2, [.ref qb, .ref qr, .int kv, .int ov, .int zv])), (qb, .inl (cE, 16, .inl Bv)), (qr, .inl (cF, 16, .inl Rv))] H := hP
      have hD : va_D A [(xa, .inr (3, [.int (nI N), .ref ra, .ref sa, .ref aa, .int (nI ac), .int kc, .int kl, .int mp, .int mm, .int km])), (aa, .inl (cA, 40, .inl AS)), (sa, .inr (1, [.int (nI N), .ref ra, .ref ta, .ref qa, .int lap])), (ra, .inr (0, [.ref rp, .ref rq, .int (nI g), .int (nI n1)])), (rp, .inl (cP, 664, .inl P1)), (rq, .inl (cM, 664, .inl M1)), (ta, .inr (2, [.ref tb, .ref tr, .int k1, .int o1, .int z1])), (tb, .inl (cB, 16, .inl B1)), (tr, .inl (cR, 16, .inl R1)), (qa, .inr (2, [.ref qb, .ref qr, .int kv, .int ov, .int zv])), (qb, .inl (cE, 16, .inl Bv)), (qr, .inl (cF, 16, .inl Rv))] := hD
      have hl : lv_has ls 6 [(0, .ref xa), (1, .long K), (3, .int (nI i))] := hl
      refine lv_iload_n hx hb dX3_core_25 rfl (lv_at hl 2 rfl) ?_
      refine lv_aload_n hx hb dX3_core_26 rfl (lv_at hl 0 rfl) ?_
      refine va_get (D := (dC, dI)) (ci := 3) (v := .int (nI ac)) (C := RX3) (T := TX3) (N := 10) hx hb hts hiX3 hown hK hP 0 rfl rfl 4 (by decide) f71 (fun _ h9 => h9) rfl dX3_core_27 ?_
      refine lv_icmp_ge (tgt := 64) hx hb dX3_core_30 (by decide) (fun c30 => ?_) (fun c30 => ?_)
      · -- 30: jumps
        have hi : ac ≤ i := by
          rcases Nat.lt_or_ge i ac with q | q
          · exact absurd c30 (nI_ge q (by omega))
          · exact q
        have ei : i = ac := by omega
        rw [ei] at i3
        refine lv_lload_n hx hb dX3_core_64 rfl (lv_at hl 1 rfl) ?_
        have hP9 : va_P (dC, dI) ksCl [(xa, .inr (3, [.int (nI N), .ref ra, .ref sa, .ref aa, .int (nI ac), .int kc, .int kl, .int mp, .int mm, .int km])), (aa, .inl (cA, 40, .inl AS)), (sa, .inr (1, [.int (nI N), .ref ra, .ref ta, .ref qa, .int lap])), (ra, .inr (0, [.ref rp, .ref rq, .int (nI g), .int (nI n1)])), (rp, .inl (cP, 664, .inl P1)), (rq, .inl (cM, 664, .inl M1)), (ta, .inr (2, [.ref tb, .ref tr, .int k1, .int o1, .int z1])), (tb, .inl (cB, 16, .inl B1)), (tr, .inl (cR, 16, .inl R1)), (qa, .inr (2, [.ref qb, .ref qr, .int kv, .int ov, .int zv])), (qb, .inl (cE, 16, .inl Bv)), (qr, .inl (cF, 16, .inl Rv))] _ := hP
        have hD9 : va_D A [(xa, .inr (3, [.int (nI N), .ref ra, .ref sa, .ref aa, .int (nI ac), .int kc, .int kl, .int mp, .int mm, .int km])), (aa, .inl (cA, 40, .inl AS)), (sa, .inr (1, [.int (nI N), .ref ra, .ref ta, .ref qa, .int lap])), (ra, .inr (0, [.ref rp, .ref rq, .int (nI g), .int (nI n1)])), (rp, .inl (cP, 664, .inl P1)), (rq, .inl (cM, 664, .inl M1)), (ta, .inr (2, [.ref tb, .ref tr, .int k1, .int o1, .int z1])), (tb, .inl (cB, 16, .inl B1)), (tr, .inl (cR, 16, .inl R1)), (qa, .inr (2, [.ref qb, .ref qr, .int kv, .int ov, .int zv])), (qb, .inl (cE, 16, .inl Bv)), (qr, .inl (cF, 16, .inl Rv))] := hD
        have hK9 : va_K (dC, dI) ksCl [(cA, .int), (cP, .int), (cM, .int), (cB, .int), (cR, .int), (cE, .int), (cF, .int)] s := hK
        exact W.lret (v := K) hx hb hr (fun t ht hW9 => ⟨⟨K, (P1, M1, n1, B1, R1, k1, o1, z1, Bv, Rv, kv, ov, zv), rfl, ⟨i4, i5, r7, s3, Or.inr ⟨c9, i3⟩⟩, by rw [ht]; exact hP9, va_K.moved hW9.alike hK9, hD9⟩, hS.F ht⟩) hS.2.2 dX3_core_65
      · -- 30: goes on
        have hi : i < ac := by
          rcases Nat.lt_or_ge i ac with q | q
          · exact q
          · exact absurd (nI_le q (by omega)) c30
        refine lv_lload_n hx hb dX3_core_33 rfl (lv_at hl 1 rfl) ?_
        refine lv_lconst (v := 1) hx hb dX3_core_34 (by decide) ?_
        refine lv_iload_n hx hb dX3_core_35 rfl (lv_at hl 2 rfl) ?_
        refine lv_lshl hx hb dX3_core_36 rfl ?_
        refine lv_ldc2 (v := (-1)) hx hb hown k74 dX3_core_37 ?_
        refine lv_lxor hx hb dX3_core_40 ?_
        refine lv_land hx hb dX3_core_41 ?_
        refine ks_topl (y := ks_rm K i) (rfl) ?_
        refine lv_lstore (lv' := [(4, .long (ks_rm K i)), (0, .ref xa), (1, .long K), (3, .int (nI i))]) hx hb dX3_core_42 hl (by decide) rfl (fun ls hl => ?_)
        refine lv_aload_n hx hb dX3_core_44 rfl (lv_at hl 1 rfl) ?_
        refine lv_lload hx hb dX3_core_45 (lv_at hl 0 rfl) ?_
        refine lv_iconst (v := 0) hx hb dX3_core_47 (by decide) ?_
        refine ks_calliV (As := [.long (ks_rm K i), .int 0]) (rest := []) (wr := []) (wz := fun u => [(xa, .inr (3, [.int (nI N), .ref ra, .ref sa, .ref aa, .int (nI ac), .int kc, .int kl, .int mp, .int mm, .int km])), (aa, .inl (cA, 40, .inl AS)), (sa, .inr (1, [.int (nI N), .ref ra, .ref ta, .ref qa, .int lap])), (ra, .inr (0, [.ref rp, .ref rq, .int (nI g), .int (nI u.2.2.1)])), (rp, .inl (cP, 664, .inl u.1)), (rq, .inl (cM, 664, .inl u.2.1)), (ta, .inr (2, [.ref tb, .ref tr, .int u.2.2.2.2.2.1, .int u.2.2.2.2.2.2.1, .int u.2.2.2.2.2.2.2.1])), (tb, .inl (cB, 16, .inl u.2.2.2.1)), (tr, .inl (cR, 16, .inl u.2.2.2.2.1)), (qa, .inr (2, [.ref qb, .ref qr, .int u.2.2.2.2.2.2.2.2.2.2.1, .int u.2.2.2.2.2.2.2.2.2.2.2.1, .int u.2.2.2.2.2.2.2.2.2.2.2.2])), (qb, .inl (cE, 16, .inl u.2.2.2.2.2.2.2.2.1)), (qr, .inl (cF, 16, .inl u.2.2.2.2.2.2.2.2.2.1))]) ⟨hx, hb, hml, hown, hts⟩ (ks_under l dC dI xa aa cA sa ta tb tr cB cR qa qb qr cE cF ra rp rq cP cM N lap kc kl mp mm km AS ac P1 M1 g n1 B1 R1 k1 o1 z1 Bv Rv kv ov zv (ks_rm K i) 0 hN hg i4 hac hlit (Or.inl rfl)) (cwV 2 hts gX3_core_X3_firstModelUnder rfl rfl rfl (by decide +kernel) ⟨Nat.le_of_ble_eq_true rfl, Nat.le_of_ble_eq_true rfl⟩) hK hP hD hS hA hNW [0, 1, 2, 3, 4, 5, 6, 7, 8, 9, 10, 11] [] [0, 1, 2, 3, 4, 5, 6] [0, 1, 2, 3, 4, 5, 6, 7, 8, 9, 10, 11] rfl rfl rfl rfl (by decide) (by decide) (by decide) (ci := 3) (q0 := 0) rfl rfl rfl (fun _ => rfl) (fun _ => rfl) (by decide) rfl hl.1 rfl (Nat.le_of_ble_eq_true rfl) dX3_core_48 ⟨Nat.le_of_ble_eq_true rfl, Nat.le_of_ble_eq_true rfl⟩ (fun r8 u9 H locs hw9 hK9 hP hD hS => ?_)
        obtain ⟨P2, M2, n2, B2, R2, k2, o2, z2, Bw, Rw, kw, ow, zw⟩ := u9
        obtain ⟨s1b, s2b, s3b⟩ := hw9
        have hP : va_P (dC, dI) ksCl [(xa, .inr (3, [.int (nI N), .ref ra, .ref sa, .ref aa, .int (nI ac), .int kc, .int kl, .int mp, .int mm, .int km])), (aa, .inl (cA, 40, .inl AS)), (sa, .inr (1, [.int (nI N), .ref ra, .ref ta, .ref qa, .int lap])), (ra, .inr (0, [.ref rp, .ref rq, .int (nI g), .int (nI n2)])), (rp, .inl (cP, 664, .inl P2)), (rq, .inl (cM, 664, .inl M2)), (ta, .inr (2, [.ref tb, .ref tr, .int k2, .int o2, .int z2])), (tb, .inl (cB, 16, .inl B2)), (tr, .inl (cR, 16, .inl R2)), (qa, .inr (2, [.ref qb, .ref qr, .int kw, .int ow, .int zw])), (qb, .inl (cE, 16, .inl Bw)), (qr, .inl (cF, 16, .inl Rw))] H := hP
        have hD : va_D A [(xa, .inr (3, [.int (nI N), .ref ra, .ref sa, .ref aa, .int (nI ac), .int kc, .int kl, .int mp, .int mm, .int km])), (aa, .inl (cA, 40, .inl AS)), (sa, .inr (1, [.int (nI N), .ref ra, .ref ta, .ref qa, .int lap])), (ra, .inr (0, [.ref rp, .ref rq, .int (nI g), .int (nI n2)])), (rp, .inl (cP, 664, .inl P2)), (rq, .inl (cM, 664, .inl M2)), (ta, .inr (2, [.ref tb, .ref tr, .int k2, .int o2, .int z2])), (tb, .inl (cB, 16, .inl B2)), (tr, .inl (cR, 16, .inl R2)), (qa, .inr (2, [.ref qb, .ref qr, .int kw, .int ow, .int zw])), (qb, .inl (cE, 16, .inl Bw)), (qr, .inl (cF, 16, .inl Rw))] := hD
        refine lv_iconst (v := -1) hx hb dX3_core_51 (by decide) ?_
        refine lv_icmp_ne (tgt := 58) hx hb dX3_core_52 (by decide) (fun c52 => ?_) (fun c52 => ?_)
        · -- 52: jumps
          have s3c := ks_Y.ext i5 s3b
          have j3 : ks_kp (ks_nm N AS ac P M g) (ks_K0 ac) (i + 1) K := ⟨K, i3, Or.inr ⟨s3c.yes c52, rfl⟩⟩
          refine lv_iinc (v := nI (i + 1)) (lv' := [(3, .int (nI (i + 1))), (4, .long (ks_rm K i)), (0, .ref xa), (1, .long K)]) hx hb dX3_core_58 hl (k := 3) rfl (nI_1 _) (by decide) rfl (fun ls hl => ?_)
          refine lv_goto (tgt := 25) hx hb dX3_core_61 (by decide) ?_
          exact ih (i + 1, K, P2, M2, n2, B2, R2, k2, o2, z2, Bw, Rw, kw, ow, zw) _ _ _ ⟨hi, by omega, j3, s1b, fun c hc => ⟨((s2b c hc).1).trans (i5 c hc).1, ((s2b c hc).2).trans (i5 c hc).2⟩, hP, hD, hS, lv_sub hl [2, 3, 0] rfl⟩
        · -- 52: goes on
          have s3c := ks_Y.ext i5 s3b
          have j3 : ks_kp (ks_nm N AS ac P M g) (ks_K0 ac) (i + 1) (ks_rm K i) := ⟨K, i3, Or.inl ⟨s3c.no hN c52, rfl⟩⟩
          refine lv_lload hx hb dX3_core_55 (lv_at hl 0 rfl) ?_
          refine lv_lstore_n (lv' := [(1, .long (ks_rm K i)), (4, .long (ks_rm K i)), (0, .ref xa), (3, .int (nI i))]) hx hb dX3_core_57 rfl hl (by decide) rfl (fun ls hl => ?_)
          refine lv_iinc (v := nI (i + 1)) (lv' := [(3, .int (nI (i + 1))), (1, .long (ks_rm K i)), (4, .long (ks_rm K i)), (0, .ref xa)]) hx hb dX3_core_58 hl (k := 3) rfl (nI_1 _) (by decide) rfl (fun ls hl => ?_)
          refine lv_goto (tgt := 25) hx hb dX3_core_61 (by decide) ?_
          exact ih (i + 1, ks_rm K i, P2, M2, n2, B2, R2, k2, o2, z2, Bw, Rw, kw, ow, zw) _ _ _ ⟨hi, by omega, j3, s1b, fun c hc => ⟨((s2b c hc).1).trans (i5 c hc).1, ((s2b c hc).2).trans (i5 c hc).2⟩, hP, hD, hS, lv_sub hl [3, 1, 0] rfl⟩
    · intro x H locs ls h9
      obtain ⟨i1, i2, i3, i4, i5, -, -, -, -⟩ := h9
      try dsimp only at i1 i2
      omega
  · -- 9: goes on
    refine lv_lconst (v := 0) hx hb dX3_core_12 (by decide) ?_
    have hP9 : va_P (dC, dI) ksCl [(xa, .inr (3, [.int (nI N), .ref ra, .ref sa, .ref aa, .int (nI ac), .int kc, .int kl, .int mp, .int mm, .int km])), (aa, .inl (cA, 40, .inl AS)), (sa, .inr (1, [.int (nI N), .ref ra, .ref ta, .ref qa, .int lap])), (ra, .inr (0, [.ref rp, .ref rq, .int (nI g), .int (nI n1)])), (rp, .inl (cP, 664, .inl P1)), (rq, .inl (cM, 664, .inl M1)), (ta, .inr (2, [.ref tb, .ref tr, .int k1, .int o1, .int z1])), (tb, .inl (cB, 16, .inl B1)), (tr, .inl (cR, 16, .inl R1)), (qa, .inr (2, [.ref qb, .ref qr, .int kv, .int ov, .int zv])), (qb, .inl (cE, 16, .inl Bv)), (qr, .inl (cF, 16, .inl Rv))] _ := hP
    have hD9 : va_D A [(xa, .inr (3, [.int (nI N), .ref ra, .ref sa, .ref aa, .int (nI ac), .int kc, .int kl, .int mp, .int mm, .int km])), (aa, .inl (cA, 40, .inl AS)), (sa, .inr (1, [.int (nI N), .ref ra, .ref ta, .ref qa, .int lap])), (ra, .inr (0, [.ref rp, .ref rq, .int (nI g), .int (nI n1)])), (rp, .inl (cP, 664, .inl P1)), (rq, .inl (cM, 664, .inl M1)), (ta, .inr (2, [.ref tb, .ref tr, .int k1, .int o1, .int z1])), (tb, .inl (cB, 16, .inl B1)), (tr, .inl (cR, 16, .inl R1)), (qa, .inr (2, [.ref qb, .ref qr, .int kv, .int ov, .int zv])), (qb, .inl (cE, 16, .inl Bv)), (qr, .inl (cF, 16, .inl Rv))] := hD
    have hK9 : va_K (dC, dI) ksCl [(cA, .int), (cP, .int), (cM, .int), (cB, .int), (cR, .int), (cE, .int), (cF, .int)] s := hK
    exact W.lret (v := 0) hx hb hr (fun t ht hW9 => ⟨⟨0, (P1, M1, n1, B1, R1, k1, o1, z1, Bv, Rv, kv, ov, zv), rfl, ⟨s1, s2, r7, s3, Or.inl ⟨c9, rfl⟩⟩, by rw [ht]; exact hP9, va_K.moved hW9.alike hK9, hD9⟩, hS.F ht⟩) hS.2.2 dX3_core_13
end
section
set_option maxHeartbeats 4000000 in
set_option maxRecDepth 100000 in
/-- count -/
theorem ks_count (l : Launch) (dC : Nat → ClassId) (dI : Nat → Nat → Nat) (xa ra sa aa ta qa : Nat) (N : Nat) (ac kc kl mp mm km lap x0 : Int32) : ks_Mi l yX3_count wsX3_count ({ frames := 0, cells := 0, slots := 0, locals := 0 }) (dC, dI) [.ref xa, .int x0] [(xa, .inr (3, [.int (nI N), .ref ra, .ref sa, .ref aa, .int ac, .int kc, .int kl, .int mp, .int mm, .int km])), (sa, .inr (1, [.int (nI N), .ref ra, .ref ta, .ref qa, .int lap]))] [] 0 0 (S := Unit) (fun r _ => r = (if x0 = 0 then kc else if x0 = 1 then kl else if x0 = 2 then ac else if x0 = 3 then km else if x0 = 4 then lap else -1)) (fun _ => [(xa, .inr (3, [.int (nI N), .ref ra, .ref sa, .ref aa, .int ac, .int kc, .int kl, .int mp, .int mm, .int km])), (sa, .inr (1, [.int (nI N), .ref ra, .ref ta, .ref qa, .int lap]))]) (fun _ => []) := by
  intro sz
  refine Met.ofW (cc := cX3_count) (maxL := 2) (ret := (some .int)) (by decide) rfl ?_
  intro p e s m args below meth c s₁ B9 hml hv
  obtain ⟨rfl, hsz, hP, hK, hD0, hNW⟩ := hv
  have hx := B9.exec
  have hb := B9.bytes
  have hr := B9.returns
  have hts := atoms_spec (ws := wsX3_count) B9.pre
  have hown : s.vm.findClass RX3 = some m.cls := findClass_of_methodNamed B9.named
  have hlocks := B9.notSynchronized
  subst hsz
  have hD := hD0.self (sz := s.heap.size)
  generalize hAe : va_A [(xa, .inr (3, [.int (nI N), .ref ra, .ref sa, .ref aa, .int ac, .int kc, .int kl, .int mp, .int mm, .int km])), (sa, .inr (1, [.int (nI N), .ref ra, .ref ta, .ref qa, .int lap]))] s.heap.size = A at hD ⊢
  have hA : ∀ q : Nat, s.heap.size ≤ q → A q := fun q h => by rw [← hAe]; exact Or.inr h
  have hS : va_S A s.heap s.heap [] := va_S.rf
  have hiX3 : ∀ w ∈ u_ws RX3 TX3 10, w ∈ wsX3_count := by decide +kernel
  have hiX1 : ∀ w ∈ u_ws RX1 TX1 5, w ∈ wsX3_count := by decide +kernel
  have f34 := hts (.fieldLink RX3 34 "LessonSolver" "search" "LLessonSolver$Search;") (by decide +kernel)
  have f46 := hts (.fieldLink RX3 46 "LessonSolver" "madeLength" "I") (by decide +kernel)
  have f59 := hts (.fieldLink RX3 59 "LessonSolver" "clauseCount" "I") (by decide +kernel)
  have f62 := hts (.fieldLink RX3 62 "LessonSolver" "literalCount" "I") (by decide +kernel)
  have f71 := hts (.fieldLink RX3 71 "LessonSolver" "assumptionCount" "I") (by decide +kernel)
  have f80 := va_Nw.use (A := ([.ref xa, .int x0] : List Value).toArray) rfl (hNW (.fieldLinkNest RX3 80 "LessonSolver$Search" "lapses" "I" "LessonSolver") (by decide +kernel))
  have hl := lv_entry ([.ref xa, .int x0]) (n := 2) (Nat.le_of_ble_eq_true rfl)
  rw [lg_entry_eq]
  generalize (lg_sl ([.ref xa, .int x0]) ++ List.replicate (2 - (lg_sl ([.ref xa, .int x0])).length) Slot.unset).toArray = ls at hl ⊢
  have hl : lv_has ls 2 [(0, .ref xa), (1, .int x0)] := hl
  refine lv_iload_n hx hb dX3_count_0 rfl (lv_at hl 1 rfl) ?_
  by_cases hsw : x0.toInt < 0 ∨ 4 < x0.toInt
  · refine lv_tableOut (tgt := 64) hx hb dX3_count_1 hsw (by decide) ?_
    have n0 : ¬ x0 = 0 := fun q => by rw [q] at hsw; revert hsw; decide
    have n1 : ¬ x0 = 1 := fun q => by rw [q] at hsw; revert hsw; decide
    have n2 : ¬ x0 = 2 := fun q => by rw [q] at hsw; revert hsw; decide
    have n3 : ¬ x0 = 3 := fun q => by rw [q] at hsw; revert hsw; decide
    have n4 : ¬ x0 = 4 := fun q => by rw [q] at hsw; revert hsw; decide
    refine lv_iconst (v := -1) hx hb dX3_count_64 (by decide) ?_
    have hP9 : va_P (dC, dI) ksCl [(xa, .inr (3, [.int (nI N), .ref ra, .ref sa, .ref aa, .int ac, .int kc, .int kl, .int mp, .int mm, .int km])), (sa, .inr (1, [.int (nI N), .ref ra, .ref ta, .ref qa, .int lap]))] _ := hP
    have hD9 : va_D A [(xa, .inr (3, [.int (nI N), .ref ra, .ref sa, .ref aa, .int ac, .int kc, .int kl, .int mp, .int mm, .int km])), (sa, .inr (1, [.int (nI N), .ref ra, .ref ta, .ref qa, .int lap]))] := hD
    have hK9 : va_K (dC, dI) ksCl [] s := hK
    exact W.iret (v := -1) hx hb hr (fun t ht hW9 => ⟨⟨-1, (), rfl, by rw [if_neg n0, if_neg n1, if_neg n2, if_neg n3, if_neg n4], by rw [ht]; exact hP9, va_K.moved hW9.alike hK9, hD9⟩, hS.F ht⟩) hS.2.2 dX3_count_65
  · have hsw2 : x0 = 0 ∨ x0 = 1 ∨ x0 = 2 ∨ x0 = 3 ∨ x0 = 4 := by
      have e9 : x0.toInt = 0 ∨ x0.toInt = 1 ∨ x0.toInt = 2 ∨ x0.toInt = 3 ∨ x0.toInt = 4 := by omega
      rcases e9 with e9 | e9 | e9 | e9 | e9
      · exact Or.inl (Int32.toInt_inj.mp e9)
      · exact Or.inr (Or.inl (Int32.toInt_inj.mp e9))
      · exact Or.inr (Or.inr (Or.inl (Int32.toInt_inj.mp e9)))
      · exact Or.inr (Or.inr (Or.inr (Or.inl (Int32.toInt_inj.mp e9))))
      · exact Or.inr (Or.inr (Or.inr (Or.inr (Int32.toInt_inj.mp e9))))
    rcases hsw2 with hsw2 | hsw2 | hsw2 | hsw2 | hsw2
    · subst hsw2
      refine lv_tableIn (tgt := 36) hx hb dX3_count_1 (by decide) (by decide) rfl (by decide) ?_
      refine lv_aload_n hx hb dX3_count_36 rfl (lv_at hl 0 rfl) ?_
      refine va_get (D := (dC, dI)) (ci := 3) (v := .int kc) (C := RX3) (T := TX3) (N := 10) hx hb hts hiX3 hown hK hP 0 rfl rfl 5 (by decide) f59 (fun _ h9 => h9) rfl dX3_count_37 ?_
      have hP9 : va_P (dC, dI) ksCl [(xa, .inr (3, [.int (nI N), .ref ra, .ref sa, .ref aa, .int ac, .int kc, .int kl, .int mp, .int mm, .int km])), (sa, .inr (1, [.int (nI N), .ref ra, .ref ta, .ref qa, .int lap]))] _ := hP
      have hD9 : va_D A [(xa, .inr (3, [.int (nI N), .ref ra, .ref sa, .ref aa, .int ac, .int kc, .int kl, .int mp, .int mm, .int km])), (sa, .inr (1, [.int (nI N), .ref ra, .ref ta, .ref qa, .int lap]))] := hD
      have hK9 : va_K (dC, dI) ksCl [] s := hK
      exact W.iret (v := kc) hx hb hr (fun t ht hW9 => ⟨⟨kc, (), rfl, rfl, by rw [ht]; exact hP9, va_K.moved hW9.alike hK9, hD9⟩, hS.F ht⟩) hS.2.2 dX3_count_40
    · subst hsw2
      refine lv_tableIn (tgt := 41) hx hb dX3_count_1 (by decide) (by decide) rfl (by decide) ?_
      refine lv_aload_n hx hb dX3_count_41 rfl (lv_at hl 0 rfl) ?_
      refine va_get (D := (dC, dI)) (ci := 3) (v := .int kl) (C := RX3) (T := TX3) (N := 10) hx hb hts hiX3 hown hK hP 0 rfl rfl 6 (by decide) f62 (fun _ h9 => h9) rfl dX3_count_42 ?_
      have hP9 : va_P (dC, dI) ksCl [(xa, .inr (3, [.int (nI N), .ref ra, .ref sa, .ref aa, .int ac, .int kc, .int kl, .int mp, .int mm, .int km])), (sa, .inr (1, [.int (nI N), .ref ra, .ref ta, .ref qa, .int lap]))] _ := hP
      have hD9 : va_D A [(xa, .inr (3, [.int (nI N), .ref ra, .ref sa, .ref aa, .int ac, .int kc, .int kl, .int mp, .int mm, .int km])), (sa, .inr (1, [.int (nI N), .ref ra, .ref ta, .ref qa, .int lap]))] := hD
      have hK9 : va_K (dC, dI) ksCl [] s := hK
      exact W.iret (v := kl) hx hb hr (fun t ht hW9 => ⟨⟨kl, (), rfl, rfl, by rw [ht]; exact hP9, va_K.moved hW9.alike hK9, hD9⟩, hS.F ht⟩) hS.2.2 dX3_count_45
    · subst hsw2
      refine lv_tableIn (tgt := 46) hx hb dX3_count_1 (by decide) (by decide) rfl (by decide) ?_
      refine lv_aload_n hx hb dX3_count_46 rfl (lv_at hl 0 rfl) ?_
      refine va_get (D := (dC, dI)) (ci := 3) (v := .int ac) (C := RX3) (T := TX3) (N := 10) hx hb hts hiX3 hown hK hP 0 rfl rfl 4 (by decide) f71 (fun _ h9 => h9) rfl dX3_count_47 ?_
      have hP9 : va_P (dC, dI) ksCl [(xa, .inr (3, [.int (nI N), .ref ra, .ref sa, .ref aa, .int ac, .int kc, .int kl, .int mp, .int mm, .int km])), (sa, .inr (1, [.int (nI N), .ref ra, .ref ta, .ref qa, .int lap]))] _ := hP
      have hD9 : va_D A [(xa, .inr (3, [.int (nI N), .ref ra, .ref sa, .ref aa, .int ac, .int kc, .int kl, .int mp, .int mm, .int km])), (sa, .inr (1, [.int (nI N), .ref ra, .ref ta, .ref qa, .int lap]))] := hD
      have hK9 : va_K (dC, dI) ksCl [] s := hK
      exact W.iret (v := ac) hx hb hr (fun t ht hW9 => ⟨⟨ac, (), rfl, rfl, by rw [ht]; exact hP9, va_K.moved hW9.alike hK9, hD9⟩, hS.F ht⟩) hS.2.2 dX3_count_50
    · subst hsw2
      refine lv_tableIn (tgt := 51) hx hb dX3_count_1 (by decide) (by decide) rfl (by decide) ?_
      refine lv_aload_n hx hb dX3_count_51 rfl (lv_at hl 0 rfl) ?_
      refine va_get (D := (dC, dI)) (ci := 3) (v := .int km) (C := RX3) (T := TX3) (N := 10) hx hb hts hiX3 hown hK hP 0 rfl rfl 9 (by decide) f46 (fun _ h9 => h9) rfl dX3_count_52 ?_
      have hP9 : va_P (dC, dI) ksCl [(xa, .inr (3, [.int (nI N), .ref ra, .ref sa, .ref aa, .int ac, .int kc, .int kl, .int mp, .int mm, .int km])), (sa, .inr (1, [.int (nI N), .ref ra, .ref ta, .ref qa, .int lap]))] _ := hP
      have hD9 : va_D A [(xa, .inr (3, [.int (nI N), .ref ra, .ref sa, .ref aa, .int ac, .int kc, .int kl, .int mp, .int mm, .int km])), (sa, .inr (1, [.int (nI N), .ref ra, .ref ta, .ref qa, .int lap]))] := hD
      have hK9 : va_K (dC, dI) ksCl [] s := hK
      exact W.iret (v := km) hx hb hr (fun t ht hW9 => ⟨⟨km, (), rfl, rfl, by rw [ht]; exact hP9, va_K.moved hW9.alike hK9, hD9⟩, hS.F ht⟩) hS.2.2 dX3_count_55
    · subst hsw2
      refine lv_tableIn (tgt := 56) hx hb dX3_count_1 (by decide) (by decide) rfl (by decide) ?_
      refine lv_aload_n hx hb dX3_count_56 rfl (lv_at hl 0 rfl) ?_
      refine va_get (D := (dC, dI)) (ci := 3) (v := .ref sa) (C := RX3) (T := TX3) (N := 10) hx hb hts hiX3 hown hK hP 0 rfl rfl 2 (by decide) f34 (fun _ h9 => h9) rfl dX3_count_57 ?_
      refine va_getN (D := (dC, dI)) (ci := 1) (v := .int lap) (C := RX1) (T := TX1) (N := 5) hx hb hts hiX1 hown hK hP 1 rfl rfl 4 (by decide) f80 (fun _ h9 => h9) rfl dX3_count_60 ?_
      have hP9 : va_P (dC, dI) ksCl [(xa, .inr (3, [.int (nI N), .ref ra, .ref sa, .ref aa, .int ac, .int kc, .int kl, .int mp, .int mm, .int km])), (sa, .inr (1, [.int (nI N), .ref ra, .ref ta, .ref qa, .int lap]))] _ := hP
      have hD9 : va_D A [(xa, .inr (3, [.int (nI N), .ref ra, .ref sa, .ref aa, .int ac, .int kc, .int kl, .int mp, .int mm, .int km])), (sa, .inr (1, [.int (nI N), .ref ra, .ref ta, .ref qa, .int lap]))] := hD
      have hK9 : va_K (dC, dI) ksCl [] s := hK
      exact W.iret (v := lap) hx hb hr (fun t ht hW9 => ⟨⟨lap, (), rfl, rfl, by rw [ht]; exact hP9, va_K.moved hW9.alike hK9, hD9⟩, hS.F ht⟩) hS.2.2 dX3_count_63
end
section
set_option maxHeartbeats 4000000 in
set_option maxRecDepth 100000 in
/-- wipe -/
theorem ks_wipe (l : Launch) (dC : Nat → ClassId) (dI : Nat → Nat → Nat) (xa ra rp rq sa aa : Nat) (N : Nat) (ac kc kl mp mm km g nr : Int32) : ks_Mv l yX3_wipe wsX3_wipe ({ frames := 1, cells := 0, slots := 0, locals := 20 }) (dC, dI) [.ref xa] [(xa, .inr (3, [.int (nI N), .ref ra, .ref sa, .ref aa, .int ac, .int kc, .int kl, .int mp, .int mm, .int km])), (ra, .inr (0, [.ref rp, .ref rq, .int g, .int nr]))] [] 0 0 (S := Unit) (fun _ => True) (fun _ => [(xa, .inr (3, [.int (nI N), .ref ra, .ref sa, .ref aa, .int (nI 0), .int (nI 0), .int (nI 0), .int 0, .int 0, .int (nI 0)])), (ra, .inr (0, [.ref rp, .ref rq, .int (nI 0), .int (nI 0)]))]) (fun _ => []) := by
  intro sz
  refine Met.ofW (cc := cX3_wipe) (maxL := 1) (ret := none) (by decide) rfl ?_
  intro p e s m args below meth c s₁ B9 hml hv
  obtain ⟨rfl, hsz, hP, hK, hD0, hNW⟩ := hv
  have hx := B9.exec
  have hb := B9.bytes
  have hr := B9.returns
  have hts := atoms_spec (ws := wsX3_wipe) B9.pre
  have hown : s.vm.findClass RX3 = some m.cls := findClass_of_methodNamed B9.named
  have hlocks := B9.notSynchronized
  subst hsz
  have hD := hD0.self (sz := s.heap.size)
  generalize hAe : va_A [(xa, .inr (3, [.int (nI N), .ref ra, .ref sa, .ref aa, .int ac, .int kc, .int kl, .int mp, .int mm, .int km])), (ra, .inr (0, [.ref rp, .ref rq, .int g, .int nr]))] s.heap.size = A at hD ⊢
  have hA : ∀ q : Nat, s.heap.size ≤ q → A q := fun q h => by rw [← hAe]; exact Or.inr h
  have hS : va_S A s.heap s.heap [] := va_S.rf
  have hiX3 : ∀ w ∈ u_ws RX3 TX3 10, w ∈ wsX3_wipe := by decide +kernel
  have f25 := hts (.fieldLink RX3 25 "LessonSolver" "clauses" "LLessonSolver$ClauseRow;") (by decide +kernel)
  have f59 := hts (.fieldLink RX3 59 "LessonSolver" "clauseCount" "I") (by decide +kernel)
  have f62 := hts (.fieldLink RX3 62 "LessonSolver" "literalCount" "I") (by decide +kernel)
  have f71 := hts (.fieldLink RX3 71 "LessonSolver" "assumptionCount" "I") (by decide +kernel)
  have hl := lv_entry ([.ref xa]) (n := 1) (Nat.le_of_ble_eq_true rfl)
  rw [lg_entry_eq]
  generalize (lg_sl ([.ref xa]) ++ List.replicate (1 - (lg_sl ([.ref xa])).length) Slot.unset).toArray = ls at hl ⊢
  have hl : lv_has ls 1 [(0, .ref xa)] := hl
  refine lv_aload_n hx hb dX3_wipe_0 rfl (lv_at hl 0 rfl) ?_
  refine va_get (D := (dC, dI)) (ci := 3) (v := .ref ra) (C := RX3) (T := TX3) (N := 10) hx hb hts hiX3 hown hK hP 0 rfl rfl 1 (by decide) f25 (fun _ h9 => h9) rfl dX3_wipe_1 ?_
  refine ks_callvV (As := []) (rest := []) (wr := [(xa, .inr (3, [.int (nI N), .ref ra, .ref sa, .ref aa, .int ac, .int kc, .int kl, .int mp, .int mm, .int km]))]) (wz := fun _ => [(xa, .inr (3, [.int (nI N), .ref ra, .ref sa, .ref aa, .int ac, .int kc, .int kl, .int mp, .int mm, .int km])), (ra, .inr (0, [.ref rp, .ref rq, .int (nI 0), .int (nI 0)]))]) ⟨hx, hb, hml, hown, hts⟩ (ks_clear l dC dI ra rp rq g nr) (cwV 0 hts gX3_wipe_X0_clear rfl rfl rfl (by decide +kernel) ⟨Nat.le_of_ble_eq_true rfl, Nat.le_of_ble_eq_true rfl⟩) hK hP hD hS hA hNW [1] [0] [] [0, 1] rfl rfl rfl rfl (by decide) (by decide) (by decide) (ci := 0) (q0 := 0) rfl rfl rfl (fun _ => rfl) (fun _ => rfl) (by decide) rfl hl.1 rfl (Nat.le_of_ble_eq_true rfl) dX3_wipe_4 ⟨Nat.le_of_ble_eq_true rfl, Nat.le_of_ble_eq_true rfl⟩ (fun u9 H locs hw9 hK9 hP hD hS => ?_)
  have hP : va_P (dC, dI) ksCl [(xa, .inr (3, [.int (nI N), .ref ra, .ref sa, .ref aa, .int ac, .int kc, .int kl, .int mp, .int mm, .int km])), (ra, .inr (0, [.ref rp, .ref rq, .int (nI 0), .int (nI 0)]))] H := hP
  have hD : va_D A [(xa, .inr (3, [.int (nI N), .ref ra, .ref sa, .ref aa, .int ac, .int kc, .int kl, .int mp, .int mm, .int km])), (ra, .inr (0, [.ref rp, .ref rq, .int (nI 0), .int (nI 0)]))] := hD
  refine lv_aload_n hx hb dX3_wipe_7 rfl (lv_at hl 0 rfl) ?_
  refine lv_iconst (v := nI 0) hx hb dX3_wipe_8 (by decide) ?_
  refine va_put (D := (dC, dI)) (ci := 3) (v := .int (nI 0)) (ty := .int) (C := RX3) (T := TX3) (N := 10) hx hb hts hiX3 tyX3 tyX3_ok nmX3 hown hK hP hD hS 0 rfl rfl 5 (by decide) f59 (fun _ h9 => h9) rfl (by decide +kernel) rfl rfl (Nat.le_of_ble_eq_true rfl) dX3_wipe_9 (fun H locs hP hD hS => ?_)
  have hP : va_P (dC, dI) ksCl [(xa, .inr (3, [.int (nI N), .ref ra, .ref sa, .ref aa, .int ac, .int (nI 0), .int kl, .int mp, .int mm, .int km])), (ra, .inr (0, [.ref rp, .ref rq, .int (nI 0), .int (nI 0)]))] H := hP
  have hD : va_D A [(xa, .inr (3, [.int (nI N), .ref ra, .ref sa, .ref aa, .int ac, .int (nI 0), .int kl, .int mp, .int mm, .int km])), (ra, .inr (0, [.ref rp, .ref rq, .int (nI 0), .int (nI 0)]))] := hD
  refine lv_aload_n hx hb dX3_wipe_12 rfl (lv_at hl 0 rfl) ?_
  refine lv_iconst (v := nI 0) hx hb dX3_wipe_13 (by decide) ?_
  refine va_put (D := (dC, dI)) (ci := 3) (v := .int (nI 0)) (ty := .int) (C := RX3) (T := TX3) (N := 10) hx hb hts hiX3 tyX3 tyX3_ok nmX3 hown hK hP hD hS 0 rfl rfl 6 (by decide) f62 (fun _ h9 => h9) rfl (by decide +kernel) rfl rfl (Nat.le_of_ble_eq_true rfl) dX3_wipe_14 (fun H locs hP hD hS => ?_)
  have hP : va_P (dC, dI) ksCl [(xa, .inr (3, [.int (nI N), .ref ra, .ref sa, .ref aa, .int ac, .int (nI 0), .int (nI 0), .int mp, .int mm, .int km])), (ra, .inr (0, [.ref rp, .ref rq, .int (nI 0), .int (nI 0)]))] H := hP
  have hD : va_D A [(xa, .inr (3, [.int (nI N), .ref ra, .ref sa, .ref aa, .int ac, .int (nI 0), .int (nI 0), .int mp, .int mm, .int km])), (ra, .inr (0, [.ref rp, .ref rq, .int (nI 0), .int (nI 0)]))] := hD
  refine lv_aload_n hx hb dX3_wipe_17 rfl (lv_at hl 0 rfl) ?_
  refine lv_iconst (v := nI 0) hx hb dX3_wipe_18 (by decide) ?_
  refine va_put (D := (dC, dI)) (ci := 3) (v := .int (nI 0)) (ty := .int) (C := RX3) (T := TX3) (N := 10) hx hb hts hiX3 tyX3 tyX3_ok nmX3 hown hK hP hD hS 0 rfl rfl 4 (by decide) f71 (fun _ h9 => h9) rfl (by decide +kernel) rfl rfl (Nat.le_of_ble_eq_true rfl) dX3_wipe_19 (fun H locs hP hD hS => ?_)
  have hP : va_P (dC, dI) ksCl [(xa, .inr (3, [.int (nI N), .ref ra, .ref sa, .ref aa, .int (nI 0), .int (nI 0), .int (nI 0), .int mp, .int mm, .int km])), (ra, .inr (0, [.ref rp, .ref rq, .int (nI 0), .int (nI 0)]))] H := hP
  have hD : va_D A [(xa, .inr (3, [.int (nI N), .ref ra, .ref sa, .ref aa, .int (nI 0), .int (nI 0), .int (nI 0), .int mp, .int mm, .int km])), (ra, .inr (0, [.ref rp, .ref rq, .int (nI 0), .int (nI 0)]))] := hD
  refine lv_aload_n hx hb dX3_wipe_22 rfl (lv_at hl 0 rfl) ?_
  refine ks_callvV (As := []) (rest := []) (wr := [(ra, .inr (0, [.ref rp, .ref rq, .int (nI 0), .int (nI 0)]))]) (wz := fun _ => [(xa, .inr (3, [.int (nI N), .ref ra, .ref sa, .ref aa, .int (nI 0), .int (nI 0), .int (nI 0), .int 0, .int 0, .int (nI 0)])), (ra, .inr (0, [.ref rp, .ref rq, .int (nI 0), .int (nI 0)]))]) ⟨hx, hb, hml, hown, hts⟩ (ks_forgetMade l dC dI xa ra sa aa N (nI 0) (nI 0) (nI 0) mp mm km) (cwV 0 hts gX3_wipe_X3_forgetMadeClause rfl rfl rfl (by decide +kernel) ⟨Nat.le_of_ble_eq_true rfl, Nat.le_of_ble_eq_true rfl⟩) hK hP hD hS hA hNW [0] [1] [] [1, 0] rfl rfl rfl rfl (by decide) (by decide) (by decide) (ci := 3) (q0 := 0) rfl rfl rfl (fun _ => rfl) (fun _ => rfl) (by decide) rfl hl.1 rfl (Nat.le_of_ble_eq_true rfl) dX3_wipe_23 ⟨Nat.le_of_ble_eq_true rfl, Nat.le_of_ble_eq_true rfl⟩ (fun u9 H locs hw9 hK9 hP hD hS => ?_)
  have hP : va_P (dC, dI) ksCl [(xa, .inr (3, [.int (nI N), .ref ra, .ref sa, .ref aa, .int (nI 0), .int (nI 0), .int (nI 0), .int 0, .int 0, .int (nI 0)])), (ra, .inr (0, [.ref rp, .ref rq, .int (nI 0), .int (nI 0)]))] H := hP
  have hD : va_D A [(xa, .inr (3, [.int (nI N), .ref ra, .ref sa, .ref aa, .int (nI 0), .int (nI 0), .int (nI 0), .int 0, .int 0, .int (nI 0)])), (ra, .inr (0, [.ref rp, .ref rq, .int (nI 0), .int (nI 0)]))] := hD
  have hP9 : va_P (dC, dI) ksCl [(xa, .inr (3, [.int (nI N), .ref ra, .ref sa, .ref aa, .int (nI 0), .int (nI 0), .int (nI 0), .int 0, .int 0, .int (nI 0)])), (ra, .inr (0, [.ref rp, .ref rq, .int (nI 0), .int (nI 0)]))] _ := hP
  have hD9 : va_D A [(xa, .inr (3, [.int (nI N), .ref ra, .ref sa, .ref aa, .int (nI 0), .int (nI 0), .int (nI 0), .int 0, .int 0, .int (nI 0)])), (ra, .inr (0, [.ref rp, .ref rq, .int (nI 0), .int (nI 0)]))] := hD
  have hK9 : va_K (dC, dI) ksCl [] s := hK
  exact W.vret hx hb hr (fun t ht hW9 => ⟨⟨(), rfl, trivial, by rw [ht]; exact hP9, va_K.moved hW9.alike hK9, hD9⟩, hS.F ht⟩) hS.2.2 dX3_wipe_26
end
section
set_option maxHeartbeats 4000000 in
set_option maxRecDepth 100000 in
/-- LessonSolver(variables) -/
theorem ks_init (l : Launch) (dC : Nat → ClassId) (dI : Nat → Nat → Nat) (xa : Nat) (x0 : Int32) : ks_Mv l yX3_init wsX3_init ({ frames := 3, cells := 11, slots := 1451, locals := 54 }) (dC, dI) [.ref xa, .int x0] [(xa, .inr (3, [.int 0, .null, .null, .null, .int 0, .int 0, .int 0, .int 0, .int 0, .int 0]))] [] 11 1451 (S := Nat × Nat × Nat × ClassId × ClassId × Nat × Nat × Nat × Nat × ClassId × ClassId × Nat × Nat × Nat × ClassId × ClassId × Nat × ClassId) (fun _ => True) (fun u => [(xa, .inr (3, [.int (nI (ks_N x0)), .ref u.1, .ref u.2.2.2.2.2.1, .ref u.2.2.2.2.2.2.2.2.2.2.2.2.2.2.2.2.1, .int 0, .int 0, .int 0, .int 0, .int 0, .int 0])), (u.1, .inr (0, [.ref u.2.1, .ref u.2.2.1, .int 0, .int 0])), (u.2.1, .inl (u.2.2.2.1, 664, .inl (fun _ => 0))), (u.2.2.1, .inl (u.2.2.2.2.1, 664, .inl (fun _ => 0))), (u.2.2.2.2.2.1, .inr (1, [.int (nI (ks_N x0)), .ref u.1, .ref u.2.2.2.2.2.2.1, .ref u.2.2.2.2.2.2.2.2.2.2.2.1, .int 0])), (u.2.2.2.2.2.2.1, .inr (2, [.ref u.2.2.2.2.2.2.2.1, .ref u.2.2.2.2.2.2.2.2.1, .int 0, .int 0, .int 0])), (u.2.2.2.2.2.2.2.1, .inl (u.2.2.2.2.2.2.2.2.2.1, 16, .inl (fun _ => 0))), (u.2.2.2.2.2.2.2.2.1, .inl (u.2.2.2.2.2.2.2.2.2.2.1, 16, .inl (fun _ => 0))), (u.2.2.2.2.2.2.2.2.2.2.2.1, .inr (2, [.ref u.2.2.2.2.2.2.2.2.2.2.2.2.1, .ref u.2.2.2.2.2.2.2.2.2.2.2.2.2.1, .int 0, .int 0, .int 0])), (u.2.2.2.2.2.2.2.2.2.2.2.2.1, .inl (u.2.2.2.2.2.2.2.2.2.2.2.2.2.2.1, 16, .inl (fun _ => 0))), (u.2.2.2.2.2.2.2.2.2.2.2.2.2.1, .inl (u.2.2.2.2.2.2.2.2.2.2.2.2.2.2.2.1, 16, .inl (fun _ => 0))), (u.2.2.2.2.2.2.2.2.2.2.2.2.2.2.2.2.1, .inl (u.2.2.2.2.2.2.2.2.2.2.2.2.2.2.2.2.2, 40, .inl (fun _ => 0)))]) (fun u => [(u.2.2.2.1, .int), (u.2.2.2.2.1, .int), (u.2.2.2.2.2.2.2.2.2.1, .int), (u.2.2.2.2.2.2.2.2.2.2.1, .int), (u.2.2.2.2.2.2.2.2.2.2.2.2.2.2.1, .int), (u.2.2.2.2.2.2.2.2.2.2.2.2.2.2.2.1, .int), (u.2.2.2.2.2.2.2.2.2.2.2.2.2.2.2.2.2, .int)]) := by
  intro sz
  refine Met.ofW (cc := cX3_init) (maxL := 2) (ret := none) (by decide) rfl ?_
  intro p e s m args below meth c s₁ B9 hml hv
  obtain ⟨rfl, hsz, hP, hK, hD0, hNW⟩ := hv
  have hx := B9.exec
  have hb := B9.bytes
  have hr := B9.returns
  have hts := atoms_spec (ws := wsX3_init) B9.pre
  have hown : s.vm.findClass RX3 = some m.cls := findClass_of_methodNamed B9.named
  have hlocks := B9.notSynchronized
  have hin : meth.name = "<init>" := (name_of_methodNamed B9.named B9.method).1
  subst hsz
  have hD := hD0.self (sz := s.heap.size)
  generalize hAe : va_A [(xa, .inr (3, [.int 0, .null, .null, .null, .int 0, .int 0, .int 0, .int 0, .int 0, .int 0]))] s.heap.size = A at hD ⊢
  have hA : ∀ q : Nat, s.heap.size ≤ q → A q := fun q h => by rw [← hAe]; exact Or.inr h
  have hS : va_S A s.heap s.heap [] := va_S.rf
  have hiX3 : ∀ w ∈ u_ws RX3 TX3 10, w ∈ wsX3_init := by decide +kernel
  have hiX0 : ∀ w ∈ u_ws RX0 TX0 4, w ∈ wsX3_init := by decide +kernel
  have hiX1 : ∀ w ∈ u_ws RX1 TX1 5, w ∈ wsX3_init := by decide +kernel
  have f18 := hts (.fieldLink RX3 18 "LessonSolver" "variables" "I") (by decide +kernel)
  have f25 := hts (.fieldLink RX3 25 "LessonSolver" "clauses" "LLessonSolver$ClauseRow;") (by decide +kernel)
  have f34 := hts (.fieldLink RX3 34 "LessonSolver" "search" "LLessonSolver$Search;") (by decide +kernel)
  have f38 := hts (.fieldLink RX3 38 "LessonSolver" "assumptions" "[I") (by decide +kernel)
  have hari := hts (.arrayClass (newarray.typeOf .int)) (by decide +kernel)
  have hl := lv_entry ([.ref xa, .int x0]) (n := 2) (Nat.le_of_ble_eq_true rfl)
  rw [lg_entry_eq]
  generalize (lg_sl ([.ref xa, .int x0]) ++ List.replicate (2 - (lg_sl ([.ref xa, .int x0])).length) Slot.unset).toArray = ls at hl ⊢
  have hl : lv_has ls 2 [(0, .ref xa), (1, .int x0)] := hl
  refine lv_aload_n hx hb dX3_init_0 rfl (lv_at hl 0 rfl) ?_
  refine W.objInit hx hb hown (hts (.methodLink RX3 1 objectInit) (by decide +kernel)) (hts (.instanceMethod objectInit) (by decide +kernel)) (hts (.code objectInit ⟨#[0xb1]⟩ 1 none) (by decide +kernel)) rfl (by rw [hml]; exact hl.1) rfl dX3_init_1 (Nat.le_of_ble_eq_true rfl) (Nat.le_of_ble_eq_true rfl) ?_
  refine W.eq (g2 := F0 m 4 ls []) rfl ?_
  refine lv_aload_n hx hb dX3_init_4 rfl (lv_at hl 0 rfl) ?_
  refine lv_iconst (v := 1) hx hb dX3_init_5 (by decide) ?_
  refine lv_bipush (v := nI 16) hx hb dX3_init_6 (by decide) ?_
  refine lv_iload_n hx hb dX3_init_8 rfl (lv_at hl 1 rfl) ?_
  refine va_mmin hx hb (by rw [hml]; exact hl.1.symm) hown (hts (.methodLink RX3 9 Lib.Math.min.name) (by decide +kernel)) (hts (.static Lib.Math.min.name) (by decide +kernel)) (hts (.initialized "java/lang/Math") (by decide +kernel)) (hts (.code Lib.Math.min.name Lib.Math.min.code 2 (some .int)) (by decide +kernel)) (Nat.le_of_ble_eq_true rfl) (Nat.le_of_ble_eq_true rfl) (Nat.le_of_ble_eq_true rfl) (Nat.le_of_ble_eq_true rfl) dX3_init_9 ?_
  refine va_mmax hx hb (by rw [hml]; exact hl.1.symm) hown (hts (.methodLink RX3 15 Lib.Math.max.name) (by decide +kernel)) (hts (.static Lib.Math.max.name) (by decide +kernel)) (hts (.initialized "java/lang/Math") (by decide +kernel)) (hts (.code Lib.Math.max.name Lib.Math.max.code 2 (some .int)) (by decide +kernel)) (Nat.le_of_ble_eq_true rfl) (Nat.le_of_ble_eq_true rfl) (Nat.le_of_ble_eq_true rfl) (Nat.le_of_ble_eq_true rfl) dX3_init_12 ?_
  refine ks_top (y := nI (ks_N x0)) (ks_Nv x0) ?_
  refine va_putF (D := (dC, dI)) (ci := 3) (v := .int (nI (ks_N x0))) (ty := .int) (C := RX3) (T := TX3) (N := 10) hx hb hts hiX3 tyX3 tyX3_ok nmX3 hown hK hP hD hS 0 rfl rfl 0 (by decide) f18 (fun _ h9 => h9) rfl hin rfl (by decide +kernel) rfl rfl (Nat.le_of_ble_eq_true rfl) dX3_init_15 (fun H locs hP hD hS => ?_)
  have hP : va_P (dC, dI) ksCl [(xa, .inr (3, [.int (nI (ks_N x0)), .null, .null, .null, .int 0, .int 0, .int 0, .int 0, .int 0, .int 0]))] H := hP
  have hD : va_D A [(xa, .inr (3, [.int (nI (ks_N x0)), .null, .null, .null, .int 0, .int 0, .int 0, .int 0, .int 0, .int 0]))] := hD
  refine lv_aload_n hx hb dX3_init_18 rfl (lv_at hl 0 rfl) ?_
  refine va_new (ci := 0) (fs := [.null, .null, .int 0, .int 0]) (C := RX0) (T := TX0) (N := 4) hx hb hts hiX0 tyX0 tyX0_ok hown (hts (.classLink RX3 22 RX0) (by decide +kernel)) (hts (.instantiable RX0 4) (by decide +kernel)) (hts (.initialized RX0) (by decide +kernel)) hK hP hD hS hA rfl (fun j hj => by rcases (show j = 0 ∨ j = 1 ∨ j = 2 ∨ j = 3 by omega) with rfl | rfl | rfl | rfl <;> rfl) (Nat.le_of_ble_eq_true rfl) (Nat.le_of_ble_eq_true rfl) dX3_init_19 (fun ra H hP hD hS => ?_)
  have hP : va_P (dC, dI) ksCl [(xa, .inr (3, [.int (nI (ks_N x0)), .null, .null, .null, .int 0, .int 0, .int 0, .int 0, .int 0, .int 0])), (ra, .inr (0, [.null, .null, .int 0, .int 0]))] H := hP
  have hD : va_D A [(xa, .inr (3, [.int (nI (ks_N x0)), .null, .null, .null, .int 0, .int 0, .int 0, .int 0, .int 0, .int 0])), (ra, .inr (0, [.null, .null, .int 0, .int 0]))] := hD
  refine lv_dup hx hb dX3_init_22 rfl ?_
  refine ks_callvI (As := []) (rest := [.ref ra, .ref xa]) (wr := [(xa, .inr (3, [.int (nI (ks_N x0)), .null, .null, .null, .int 0, .int 0, .int 0, .int 0, .int 0, .int 0]))]) (wz := fun u => [(xa, .inr (3, [.int (nI (ks_N x0)), .null, .null, .null, .int 0, .int 0, .int 0, .int 0, .int 0, .int 0])), (ra, .inr (0, [.ref u.1, .ref u.2.1, .int 0, .int 0])), (u.1, .inl (u.2.2.1, 664, .inl (fun _ => 0))), (u.2.1, .inl (u.2.2.2, 664, .inl (fun _ => 0)))]) ⟨hx, hb, hml, hown, hts⟩ (ks_row_init l dC dI ra) (cwI 0 hts gX3_init_X0_init rfl rfl rfl (hts (.initialized RX0) (by decide +kernel)) (hts (.methodLink RX3 24 yX0_init) (by decide +kernel)) (hts (.instanceMethod yX0_init) (by decide +kernel)) rfl (by decide +kernel) ⟨Nat.le_of_ble_eq_true rfl, Nat.le_of_ble_eq_true rfl⟩) hK hP hD hS hA hNW [1] [0] [] [0, 1, 2, 3] rfl rfl rfl rfl (by decide) (by decide) (by decide) (fun _ => rfl) (fun _ => rfl) (by decide) rfl hl.1 rfl (Nat.le_of_ble_eq_true rfl) dX3_init_23 ⟨Nat.le_of_ble_eq_true rfl, Nat.le_of_ble_eq_true rfl⟩ (fun u9 H locs hw9 hK9 hP hD hS => ?_)
  obtain ⟨rp, rq, cP, cM⟩ := u9
  have hP : va_P (dC, dI) ksCl [(xa, .inr (3, [.int (nI (ks_N x0)), .null, .null, .null, .int 0, .int 0, .int 0, .int 0, .int 0, .int 0])), (ra, .inr (0, [.ref rp, .ref rq, .int 0, .int 0])), (rp, .inl (cP, 664, .inl (fun _ => 0))), (rq, .inl (cM, 664, .inl (fun _ => 0)))] H := hP
  have hD : va_D A [(xa, .inr (3, [.int (nI (ks_N x0)), .null, .null, .null, .int 0, .int 0, .int 0, .int 0, .int 0, .int 0])), (ra, .inr (0, [.ref rp, .ref rq, .int 0, .int 0])), (rp, .inl (cP, 664, .inl (fun _ => 0))), (rq, .inl (cM, 664, .inl (fun _ => 0)))] := hD
  have hK : va_K (dC, dI) ksCl [(cP, .int), (cM, .int)] s := hK9
  refine va_putF (D := (dC, dI)) (ci := 3) (v := .ref ra) (ty := .object "LessonSolver$ClauseRow") (C := RX3) (T := TX3) (N := 10) hx hb hts hiX3 tyX3 tyX3_ok nmX3 hown hK hP hD hS 0 rfl rfl 1 (by decide) f25 (fun _ h9 => h9) rfl hin rfl (by decide +kernel) rfl rfl (Nat.le_of_ble_eq_true rfl) dX3_init_26 (fun H locs hP hD hS => ?_)
  have hP : va_P (dC, dI) ksCl [(xa, .inr (3, [.int (nI (ks_N x0)), .ref ra, .null, .null, .int 0, .int 0, .int 0, .int 0, .int 0, .int 0])), (ra, .inr (0, [.ref rp, .ref rq, .int 0, .int 0])), (rp, .inl (cP, 664, .inl (fun _ => 0))), (rq, .inl (cM, 664, .inl (fun _ => 0)))] H := hP
  have hD : va_D A [(xa, .inr (3, [.int (nI (ks_N x0)), .ref ra, .null, .null, .int 0, .int 0, .int 0, .int 0, .int 0, .int 0])), (ra, .inr (0, [.ref rp, .ref rq, .int 0, .int 0])), (rp, .inl (cP, 664, .inl (fun _ => 0))), (rq, .inl (cM, 664, .inl (fun _ => 0)))] := hD
  refine lv_aload_n hx hb dX3_init_29 rfl (lv_at hl 0 rfl) ?_
  refine va_new (ci := 1) (fs := [.int 0, .null, .null, .null, .int 0]) (C := RX1) (T := TX1) (N := 5) hx hb hts hiX1 tyX1 tyX1_ok hown (hts (.classLink RX3 29 RX1) (by decide +kernel)) (hts (.instantiable RX1 5) (by decide +kernel)) (hts (.initialized RX1) (by decide +kernel)) hK hP hD hS hA rfl (fun j hj => by rcases (show j = 0 ∨ j = 1 ∨ j = 2 ∨ j = 3 ∨ j = 4 by omega) with rfl | rfl | rfl | rfl | rfl <;> rfl) (Nat.le_of_ble_eq_true rfl) (Nat.le_of_ble_eq_true rfl) dX3_init_30 (fun sa H hP hD hS => ?_)
  have hP : va_P (dC, dI) ksCl [(xa, .inr (3, [.int (nI (ks_N x0)), .ref ra, .null, .null, .int 0, .int 0, .int 0, .int 0, .int 0, .int 0])), (ra, .inr (0, [.ref rp, .ref rq, .int 0, .int 0])), (rp, .inl (cP, 664, .inl (fun _ => 0))), (rq, .inl (cM, 664, .inl (fun _ => 0))), (sa, .inr (1, [.int 0, .null, .null, .null, .int 0]))] H := hP
  have hD : va_D A [(xa, .inr (3, [.int (nI (ks_N x0)), .ref ra, .null, .null, .int 0, .int 0, .int 0, .int 0, .int 0, .int 0])), (ra, .inr (0, [.ref rp, .ref rq, .int 0, .int 0])), (rp, .inl (cP, 664, .inl (fun _ => 0))), (rq, .inl (cM, 664, .inl (fun _ => 0))), (sa, .inr (1, [.int 0, .null, .null, .null, .int 0]))] := hD
  refine lv_dup hx hb dX3_init_33 rfl ?_
  refine lv_aload_n hx hb dX3_init_34 rfl (lv_at hl 0 rfl) ?_
  refine va_get (D := (dC, dI)) (ci := 3) (v := .int (nI (ks_N x0))) (C := RX3) (T := TX3) (N := 10) hx hb hts hiX3 hown hK hP 0 rfl rfl 0 (by decide) f18 (fun _ h9 => h9) rfl dX3_init_35 ?_
  refine lv_aload_n hx hb dX3_init_38 rfl (lv_at hl 0 rfl) ?_
  refine va_get (D := (dC, dI)) (ci := 3) (v := .ref ra) (C := RX3) (T := TX3) (N := 10) hx hb hts hiX3 hown hK hP 0 rfl rfl 1 (by decide) f25 (fun _ h9 => h9) rfl dX3_init_39 ?_
  refine ks_callvI (As := [.int (nI (ks_N x0)), .ref ra]) (rest := [.ref sa, .ref xa]) (wr := [(xa, .inr (3, [.int (nI (ks_N x0)), .ref ra, .null, .null, .int 0, .int 0, .int 0, .int 0, .int 0, .int 0])), (ra, .inr (0, [.ref rp, .ref rq, .int 0, .int 0])), (rp, .inl (cP, 664, .inl (fun _ => 0))), (rq, .inl (cM, 664, .inl (fun _ => 0)))]) (wz := fun u => [(xa, .inr (3, [.int (nI (ks_N x0)), .ref ra, .null, .null, .int 0, .int 0, .int 0, .int 0, .int 0, .int 0])), (ra, .inr (0, [.ref rp, .ref rq, .int 0, .int 0])), (rp, .inl (cP, 664, .inl (fun _ => 0))), (rq, .inl (cM, 664, .inl (fun _ => 0))), (sa, .inr (1, [.int (nI (ks_N x0)), .ref ra, .ref u.1, .ref u.2.2.2.2.2.1, .int 0])), (u.1, .inr (2, [.ref u.2.1, .ref u.2.2.1, .int 0, .int 0, .int 0])), (u.2.1, .inl (u.2.2.2.1, 16, .inl (fun _ => 0))), (u.2.2.1, .inl (u.2.2.2.2.1, 16, .inl (fun _ => 0))), (u.2.2.2.2.2.1, .inr (2, [.ref u.2.2.2.2.2.2.1, .ref u.2.2.2.2.2.2.2.1, .int 0, .int 0, .int 0])), (u.2.2.2.2.2.2.1, .inl (u.2.2.2.2.2.2.2.2.1, 16, .inl (fun _ => 0))), (u.2.2.2.2.2.2.2.1, .inl (u.2.2.2.2.2.2.2.2.2, 16, .inl (fun _ => 0)))]) ⟨hx, hb, hml, hown, hts⟩ (ks_search_init l dC dI sa ra (ks_N x0)) (cwI 2 hts gX3_init_X1_init rfl rfl rfl (hts (.initialized RX1) (by decide +kernel)) (hts (.methodLink RX3 31 yX1_init) (by decide +kernel)) (hts (.instanceMethod yX1_init) (by decide +kernel)) rfl (by decide +kernel) ⟨Nat.le_of_ble_eq_true rfl, Nat.le_of_ble_eq_true rfl⟩) hK hP hD hS hA hNW [4] [0, 1, 2, 3] [] [0, 1, 2, 3, 4, 5, 6, 7, 8, 9, 10] rfl rfl rfl rfl (by decide) (by decide) (by decide) (fun _ => rfl) (fun _ => rfl) (by decide) rfl hl.1 rfl (Nat.le_of_ble_eq_true rfl) dX3_init_42 ⟨Nat.le_of_ble_eq_true rfl, Nat.le_of_ble_eq_true rfl⟩ (fun u9 H locs hw9 hK9 hP hD hS => ?_)
  obtain ⟨ta, tb, tr, cB, cR, qa, qb, qr, cE, cF⟩ := u9
  have hP : va_P (dC, dI) ksCl [(xa, .inr (3, [.int (nI (ks_N x0)), .ref ra, .null, .null, .int 0, .int 0, .int 0, .int 0, .int 0, .int 0])), (ra, .inr (0, [.ref rp, .ref rq, .int 0, .int 0])), (rp, .inl (cP, 664, .inl (fun _ => 0))), (rq, .inl (cM, 664, .inl (fun _ => 0))), (sa, .inr (1, [.int (nI (ks_N x0)), .ref ra, .ref ta, .ref qa, .int 0])), (ta, .inr (2, [.ref tb, .ref tr, .int 0, .int 0, .int 0])), (tb, .inl (cB, 16, .inl (fun _ => 0))), (tr, .inl (cR, 16, .inl (fun _ => 0))), (qa, .inr (2, [.ref qb, .ref qr, .int 0, .int 0, .int 0])), (qb, .inl (cE, 16, .inl (fun _ => 0))), (qr, .inl (cF, 16, .inl (fun _ => 0)))] H := hP
  have hD : va_D A [(xa, .inr (3, [.int (nI (ks_N x0)), .ref ra, .null, .null, .int 0, .int 0, .int 0, .int 0, .int 0, .int 0])), (ra, .inr (0, [.ref rp, .ref rq, .int 0, .int 0])), (rp, .inl (cP, 664, .inl (fun _ => 0))), (rq, .inl (cM, 664, .inl (fun _ => 0))), (sa, .inr (1, [.int (nI (ks_N x0)), .ref ra, .ref ta, .ref qa, .int 0])), (ta, .inr (2, [.ref tb, .ref tr, .int 0, .int 0, .int 0])), (tb, .inl (cB, 16, .inl (fun _ => 0))), (tr, .inl (cR, 16, .inl (fun _ => 0))), (qa, .inr (2, [.ref qb, .ref qr, .int 0, .int 0, .int 0])), (qb, .inl (cE, 16, .inl (fun _ => 0))), (qr, .inl (cF, 16, .inl (fun _ => 0)))] := hD
  have hK : va_K (dC, dI) ksCl [(cP, .int), (cM, .int), (cB, .int), (cR, .int), (cE, .int), (cF, .int)] s := hK9
  refine va_putF (D := (dC, dI)) (ci := 3) (v := .ref sa) (ty := .object "LessonSolver$Search") (C := RX3) (T := TX3) (N := 10) hx hb hts hiX3 tyX3 tyX3_ok nmX3 hown hK hP hD hS 0 rfl rfl 2 (by decide) f34 (fun _ h9 => h9) rfl hin rfl (by decide +kernel) rfl rfl (Nat.le_of_ble_eq_true rfl) dX3_init_45 (fun H locs hP hD hS => ?_)
  have hP : va_P (dC, dI) ksCl [(xa, .inr (3, [.int (nI (ks_N x0)), .ref ra, .ref sa, .null, .int 0, .int 0, .int 0, .int 0, .int 0, .int 0])), (ra, .inr (0, [.ref rp, .ref rq, .int 0, .int 0])), (rp, .inl (cP, 664, .inl (fun _ => 0))), (rq, .inl (cM, 664, .inl (fun _ => 0))), (sa, .inr (1, [.int (nI (ks_N x0)), .ref ra, .ref ta, .ref qa, .int 0])), (ta, .inr (2, [.ref tb, .ref tr, .int 0, .int 0, .int 0])), (tb, .inl (cB, 16, .inl (fun _ => 0))), (tr, .inl (cR, 16, .inl (fun _ => 0))), (qa, .inr (2, [.ref qb, .ref qr, .int 0, .int 0, .int 0])), (qb, .inl (cE, 16, .inl (fun _ => 0))), (qr, .inl (cF, 16, .inl (fun _ => 0)))] H := hP
  have hD : va_D A [(xa, .inr (3, [.int (nI (ks_N x0)), .ref ra, .ref sa, .null, .int 0, .int 0, .int 0, .int 0, .int 0, .int 0])), (ra, .inr (0, [.ref rp, .ref rq, .int 0, .int 0])), (rp, .inl (cP, 664, .inl (fun _ => 0))), (rq, .inl (cM, 664, .inl (fun _ => 0))), (sa, .inr (1, [.int (nI (ks_N x0)), .ref ra, .ref ta, .ref qa, .int 0])), (ta, .inr (2, [.ref tb, .ref tr, .int 0, .int 0, .int 0])), (tb, .inl (cB, 16, .inl (fun _ => 0))), (tr, .inl (cR, 16, .inl (fun _ => 0))), (qa, .inr (2, [.ref qb, .ref qr, .int 0, .int 0, .int 0])), (qb, .inl (cE, 16, .inl (fun _ => 0))), (qr, .inl (cF, 16, .inl (fun _ => 0)))] := hD
  refine lv_aload_n hx hb dX3_init_48 rfl (lv_at hl 0 rfl) ?_
  refine lv_bipush (v := nI 40) hx hb dX3_init_49 (by decide) ?_
  refine va_newa (N' := 40) (a0 := (40, .inl (fun _ => 0))) hx hb hari rfl hK hP hD hS hA (fun _ => rfl) (by decide) (by decide) (by decide) (Nat.le_of_ble_eq_true rfl) (Nat.le_of_ble_eq_true rfl) dX3_init_51 (fun aa cA H hK hP hD hS => ?_)
  have hP : va_P (dC, dI) ksCl [(xa, .inr (3, [.int (nI (ks_N x0)), .ref ra, .ref sa, .null, .int 0, .int 0, .int 0, .int 0, .int 0, .int 0])), (ra, .inr (0, [.ref rp, .ref rq, .int 0, .int 0])), (rp, .inl (cP, 664, .inl (fun _ => 0))), (rq, .inl (cM, 664, .inl (fun _ => 0))), (sa, .inr (1, [.int (nI (ks_N x0)), .ref ra, .ref ta, .ref qa, .int 0])), (ta, .inr (2, [.ref tb, .ref tr, .int 0, .int 0, .int 0])), (tb, .inl (cB, 16, .inl (fun _ => 0))), (tr, .inl (cR, 16, .inl (fun _ => 0))), (qa, .inr (2, [.ref qb, .ref qr, .int 0, .int 0, .int 0])), (qb, .inl (cE, 16, .inl (fun _ => 0))), (qr, .inl (cF, 16, .inl (fun _ => 0))), (aa, .inl (cA, 40, .inl (fun _ => 0)))] H := hP
  have hD : va_D A [(xa, .inr (3, [.int (nI (ks_N x0)), .ref ra, .ref sa, .null, .int 0, .int 0, .int 0, .int 0, .int 0, .int 0])), (ra, .inr (0, [.ref rp, .ref rq, .int 0, .int 0])), (rp, .inl (cP, 664, .inl (fun _ => 0))), (rq, .inl (cM, 664, .inl (fun _ => 0))), (sa, .inr (1, [.int (nI (ks_N x0)), .ref ra, .ref ta, .ref qa, .int 0])), (ta, .inr (2, [.ref tb, .ref tr, .int 0, .int 0, .int 0])), (tb, .inl (cB, 16, .inl (fun _ => 0))), (tr, .inl (cR, 16, .inl (fun _ => 0))), (qa, .inr (2, [.ref qb, .ref qr, .int 0, .int 0, .int 0])), (qb, .inl (cE, 16, .inl (fun _ => 0))), (qr, .inl (cF, 16, .inl (fun _ => 0))), (aa, .inl (cA, 40, .inl (fun _ => 0)))] := hD
  have hK : va_K (dC, dI) ksCl [(cP, .int), (cM, .int), (cB, .int), (cR, .int), (cE, .int), (cF, .int), (cA, .int)] s := hK
  refine va_putF (D := (dC, dI)) (ci := 3) (v := .ref aa) (ty := .array .int) (C := RX3) (T := TX3) (N := 10) hx hb hts hiX3 tyX3 tyX3_ok nmX3 hown hK hP hD hS 0 rfl rfl 3 (by decide) f38 (fun _ h9 => h9) rfl hin rfl (by decide +kernel) rfl rfl (Nat.le_of_ble_eq_true rfl) dX3_init_53 (fun H locs hP hD hS => ?_)
  have hP : va_P (dC, dI) ksCl [(xa, .inr (3, [.int (nI (ks_N x0)), .ref ra, .ref sa, .ref aa, .int 0, .int 0, .int 0, .int 0, .int 0, .int 0])), (ra, .inr (0, [.ref rp, .ref rq, .int 0, .int 0])), (rp, .inl (cP, 664, .inl (fun _ => 0))), (rq, .inl (cM, 664, .inl (fun _ => 0))), (sa, .inr (1, [.int (nI (ks_N x0)), .ref ra, .ref ta, .ref qa, .int 0])), (ta, .inr (2, [.ref tb, .ref tr, .int 0, .int 0, .int 0])), (tb, .inl (cB, 16, .inl (fun _ => 0))), (tr, .inl (cR, 16, .inl (fun _ => 0))), (qa, .inr (2, [.ref qb, .ref qr, .int 0, .int 0, .int 0])), (qb, .inl (cE, 16, .inl (fun _ => 0))), (qr, .inl (cF, 16, .inl (fun _ => 0))), (aa, .inl (cA, 40, .inl (fun _ => 0)))] H := hP
  have hD : va_D A [(xa, .inr (3, [.int (nI (ks_N x0)), .ref ra, .ref sa, .ref aa, .int 0, .int 0, .int 0, .int 0, .int 0, .int 0])), (ra, .inr (0, [.ref rp, .ref rq, .int 0, .int 0])), (rp, .inl (cP, 664, .inl (fun _ => 0))), (rq, .inl (cM, 664, .inl (fun _ => 0))), (sa, .inr (1, [.int (nI (ks_N x0)), .ref ra, .ref ta, .ref qa, .int 0])), (ta, .inr (2, [.ref tb, .ref tr, .int 0, .int 0, .int 0])), (tb, .inl (cB, 16, .inl (fun _ => 0))), (tr, .inl (cR, 16, .inl (fun _ => 0))), (qa, .inr (2, [.ref qb, .ref qr, .int 0, .int 0, .int 0])), (qb, .inl (cE, 16, .inl (fun _ => 0))), (qr, .inl (cF, 16, .inl (fun _ => 0))), (aa, .inl (cA, 40, .inl (fun _ => 0)))] := hD
  have hP9 : va_P (dC, dI) ksCl [(xa, .inr (3, [.int (nI (ks_N x0)), .ref ra, .ref sa, .ref aa, .int 0, .int 0, .int 0, .int 0, .int 0, .int 0])), (ra, .inr (0, [.ref rp, .ref rq, .int 0, .int 0])), (rp, .inl (cP, 664, .inl (fun _ => 0))), (rq, .inl (cM, 664, .inl (fun _ => 0))), (sa, .inr (1, [.int (nI (ks_N x0)), .ref ra, .ref ta, .ref qa, .int 0])), (ta, .inr (2, [.ref tb, .ref tr, .int 0, .int 0, .int 0])), (tb, .inl (cB, 16, .inl (fun _ => 0))), (tr, .inl (cR, 16, .inl (fun _ => 0))), (qa, .inr (2, [.ref qb, .ref qr, .int 0, .int 0, .int 0])), (qb, .inl (cE, 16, .inl (fun _ => 0))), (qr, .inl (cF, 16, .inl (fun _ => 0))), (aa, .inl (cA, 40, .inl (fun _ => 0)))] _ := hP
  have hD9 : va_D A [(xa, .inr (3, [.int (nI (ks_N x0)), .ref ra, .ref sa, .ref aa, .int 0, .int 0, .int 0, .int 0, .int 0, .int 0])), (ra, .inr (0, [.ref rp, .ref rq, .int 0, .int 0])), (rp, .inl (cP, 664, .inl (fun _ => 0))), (rq, .inl (cM, 664, .inl (fun _ => 0))), (sa, .inr (1, [.int (nI (ks_N x0)), .ref ra, .ref ta, .ref qa, .int 0])), (ta, .inr (2, [.ref tb, .ref tr, .int 0, .int 0, .int 0])), (tb, .inl (cB, 16, .inl (fun _ => 0))), (tr, .inl (cR, 16, .inl (fun _ => 0))), (qa, .inr (2, [.ref qb, .ref qr, .int 0, .int 0, .int 0])), (qb, .inl (cE, 16, .inl (fun _ => 0))), (qr, .inl (cF, 16, .inl (fun _ => 0))), (aa, .inl (cA, 40, .inl (fun _ => 0)))] := hD
  have hK9 : va_K (dC, dI) ksCl [(cP, .int), (cM, .int), (cB, .int), (cR, .int), (cE, .int), (cF, .int), (cA, .int)] s := hK
  refine W.widen (k := 11) (n := 1451) (by omega) (by omega) ?_
  exact W.vret hx hb hr (fun t ht hW9 => ⟨⟨(ra, rp, rq, cP, cM, sa, ta, tb, tr, cB, cR, qa, qb, qr, cE, cF, aa, cA), rfl, trivial, by rw [ht]; exact hP9, va_K.moved hW9.alike hK9, hD9⟩, hS.F ht⟩) hS.2.2 dX3_init_56
end
section
/-! the reference: a table of all assignments, 64 to a word -/
theorem ks_bl_and (x y : Int64) (j : Nat) : ks_bl (x &&& y) j = (ks_bl x j && ks_bl y j) := by unfold ks_bl; rw [Int64.toBitVec_and, BitVec.getLsbD_and]
theorem ks_bl_or (x y : Int64) (j : Nat) : ks_bl (x ||| y) j = (ks_bl x j || ks_bl y j) := by unfold ks_bl; rw [Int64.toBitVec_or, BitVec.getLsbD_or]
theorem ks_bl_m1 : ∀ j, j < 64 → ks_bl (-1) j = true := by decide +kernel
theorem ks_bl_0 (j : Nat) : ks_bl 0 j = false := BitVec.getLsbD_zero
theorem ks_bl_not (x : Int64) {j : Nat} (hj : j < 64) : ks_bl (x ^^^ (-1)) j = !ks_bl x j := by
  have h : ks_bl (x ^^^ (-1)) j = (ks_bl x j ^^ ks_bl (-1) j) := by unfold ks_bl; rw [Int64.toBitVec_xor, BitVec.getLsbD_xor]
  rw [h, ks_bl_m1 j hj, Bool.xor_true]
theorem ks_bl_ext {x y : Int64} (h : ∀ j, j < 64 → ks_bl x j = ks_bl y j) : x = y := Int64.toBitVec_inj.mp (BitVec.eq_of_getLsbD_eq (fun i hi => h i hi))
theorem ks_bl_z {x : Int64} : x = 0 ↔ ∀ j, j < 64 → ks_bl x j = false :=
  ⟨fun h j _ => by rw [h]; exact ks_bl_0 j, fun h => ks_bl_ext (fun j hj => by rw [h j hj, ks_bl_0])⟩
theorem ks_bl_nz {x : Int64} : ¬ x = 0 ↔ ∃ j, j < 64 ∧ ks_bl x j = true := by
  constructor
  · intro h
    apply Classical.byContradiction
    intro h2
    exact h (ks_bl_z.mpr (fun j hj => by
      cases hb : ks_bl x j
      · rfl
      · exact absurd ⟨j, hj, hb⟩ h2))
  · intro ⟨j, hj, h⟩ e
    rw [e, ks_bl_0] at h
    cases h
theorem ks_bl_1 : ∀ j, j < 64 → ks_bl 1 j = decide (j = 0) := by decide +kernel
theorem ks_sm63 : ∀ k, k < 64 → (((nI k).toInt64 &&& 63).toBitVec.smod 64).toNat = k := by decide +kernel
theorem ks_bl_shr (x : Int64) {k : Nat} (hk : k < 64) : ks_bl (x >>> ((nI k).toInt64 &&& 63)) 0 = ks_bl x k := by
  unfold ks_bl
  rw [Int64.toBitVec_shiftRight]
  show (x.toBitVec.sshiftRight (((nI k).toInt64 &&& 63).toBitVec.smod 64).toNat).getLsbD 0 = _
  rw [ks_sm63 k hk, BitVec.getLsbD_sshiftRight]
  simp [hk]
theorem ks_bl_bit (x : Int64) {k : Nat} (hk : k < 64) : (x >>> ((nI k).toInt64 &&& 63)) &&& 1 = if ks_bl x k = true then 1 else 0 := by
  apply ks_bl_ext
  intro j hj
  rw [ks_bl_and, ks_bl_1 j hj]
  by_cases e : j = 0
  · subst e
    rw [ks_bl_shr x hk]
    cases ks_bl x k
    · rfl
    · rfl
  · rw [decide_eq_false e, Bool.and_false]
    by_cases h : ks_bl x k = true
    · rw [if_pos h, ks_bl_1 j hj, decide_eq_false e]
    · rw [if_neg h, ks_bl_0]
theorem ks_bit1 {x : Int64} {k : Nat} (hk : k < 64) : (x >>> ((nI k).toInt64 &&& 63)) &&& 1 = 1 ↔ ks_bl x k = true := by
  rw [ks_bl_bit x hk]
  by_cases h : ks_bl x k = true
  · rw [if_pos h]; exact ⟨fun _ => h, fun _ => rfl⟩
  · rw [if_neg h]; exact ⟨fun q => absurd q (by decide), fun q => absurd q h⟩
theorem ks_bit0 {x : Int64} {k : Nat} (hk : k < 64) : (x >>> ((nI k).toInt64 &&& 63)) &&& 1 = 0 ↔ ks_bl x k = false := by
  rw [ks_bl_bit x hk]
  cases h : ks_bl x k
  · simp
  · simp
/-- how many words -/
def ks_wd (N : Nat) : Nat := if N < 6 then 1 else 2 ^ (N - 6)
theorem ks_wd_le : ∀ N, N ≤ 16 → 1 ≤ ks_wd N ∧ ks_wd N ≤ 1024 := by decide +kernel
theorem ks_wd_cov : ∀ N, N ≤ 16 → 2 ^ N ≤ 64 * ks_wd N := by decide +kernel
theorem ks_wd_lo : ∀ N, N ≤ 16 → 6 ≤ N → 64 * ks_wd N = 2 ^ N := by decide +kernel
theorem ks_wd_sm {N : Nat} (h : N < 6) : ks_wd N = 1 := if_pos h
theorem ks_wd_sh : ∀ N, N ≤ 16 → 6 ≤ N → (1 : Int32) <<< ((nI (N - 6)) &&& 31) = nI (ks_wd N) := by decide +kernel
/-- the table A has just the assignments with F -/
def ks_TT (N : Nat) (A : Nat → Int64) (F : (Nat → Bool) → Prop) : Prop := ∀ w, w < ks_wd N → ∀ b, b < 64 → (ks_bl (A w) b = true ↔ 64 * w + b < 2 ^ N ∧ F (64 * w + b).testBit)
theorem ks_TT.congr {N : Nat} {A : Nat → Int64} {F G : (Nat → Bool) → Prop} (h : ks_TT N A F) (e : ∀ v, v < 2 ^ N → (F v.testBit ↔ G v.testBit)) : ks_TT N A G := fun w hw b hb =>
  (h w hw b hb).trans ⟨fun q => ⟨q.1, (e _ q.1).mp q.2⟩, fun q => ⟨q.1, (e _ q.1).mpr q.2⟩⟩
theorem ks_TT.at {N : Nat} (hN : N ≤ 16) {A : Nat → Int64} {F : (Nat → Bool) → Prop} (h : ks_TT N A F) {v : Nat} (hv : v < 2 ^ N) : v / 64 < ks_wd N ∧ v % 64 < 64 ∧ (ks_bl (A (v / 64)) (v % 64) = true ↔ F v.testBit) := by
  have h1 := ks_wd_cov N hN
  have h2 : v / 64 < ks_wd N := by omega
  have h3 : v % 64 < 64 := by omega
  have h4 := h (v / 64) h2 (v % 64) h3
  have e : 64 * (v / 64) + v % 64 = v := by omega
  rw [e] at h4
  exact ⟨h2, h3, h4.trans ⟨fun q => q.2, fun q => ⟨hv, q⟩⟩⟩
theorem ks_tbl {w b p : Nat} (hb : b < 64) : (64 * w + b).testBit p = if p < 6 then b.testBit p else w.testBit (p - 6) := Nat.testBit_two_pow_mul_add w (show b < 2 ^ 6 from hb) p
/-- the full table -/
theorem ks_clr : ∀ N, N < 6 → ∀ b, b < 64 → ks_bl ((1 <<< (((1 : Int32) <<< (nI N &&& 31)).toInt64 &&& 63)) - 1) b = decide (b < 2 ^ N) := by decide +kernel
/-- the words of the variables -/
theorem ks_r0 : ∀ b, b < 64 → ks_bl (-6148914691236517206) b = b.testBit 0 := by decide +kernel
theorem ks_r1 : ∀ b, b < 64 → ks_bl (-3689348814741910324) b = b.testBit 1 := by decide +kernel
theorem ks_r2 : ∀ b, b < 64 → ks_bl (-1085102592571150096) b = b.testBit 2 := by decide +kernel
theorem ks_r3 : ∀ b, b < 64 → ks_bl (-71777214294589696) b = b.testBit 3 := by decide +kernel
theorem ks_r4 : ∀ b, b < 64 → ks_bl (-281470681808896) b = b.testBit 4 := by decide +kernel
theorem ks_r5 : ∀ b, b < 64 → ks_bl (-4294967296) b = b.testBit 5 := by decide +kernel
theorem ks_ri {w k : Nat} (hw : w < 1024) (hk : k < 16) : (nI w >>> (nI k &&& 31)) &&& 1 = 1 ↔ w.testBit k = true := by
  have hs : ((nI k &&& 31).toBitVec.smod 32).toNat = k := (by decide +kernel : ∀ n, n < 32 → ((nI n &&& 31).toBitVec.smod 32).toNat = n) k (by omega)
  have hlt : w / 2 ^ k < 1024 := Nat.lt_of_le_of_lt (Nat.div_le_self _ _) hw
  have e1 : nI (w / 2 ^ k) &&& 1 = nI (w / 2 ^ k % 2) := pk_andN (by omega) 1 (by decide)
  rw [pk_shrN (by omega) _ k hs, e1, Nat.testBit_eq_decide_div_mod_eq, decide_eq_true_iff]
  have e : (1 : Int32) = nI 1 := rfl
  rw [e, nI_eq (by omega) (by decide)]
/-- a literal's word: what row answers -/
def ks_rw (N : Nat) (x : Int32) (w : Nat) (r : Int64) : Prop := ∀ b, b < 64 → (ks_bl r b = true ↔ ks_lt N x (64 * w + b).testBit)
theorem ks_rw.pos {N : Nat} (hN : N ≤ 16) {x : Int32} {v w : Nat} {o : Int64} (h : ks_lit N x v) (hp : 0 < x) (ho : ∀ b, b < 64 → ks_bl o b = (64 * w + b).testBit (N - v)) : ks_rw N x w o := fun b hb => by
  rw [ks_lt_pos hN h hp, ho b hb]
theorem ks_rw.neg {N : Nat} (hN : N ≤ 16) {x : Int32} {v w : Nat} {o : Int64} (h : ks_lit N x v) (hp : ¬ 0 < x) (ho : ∀ b, b < 64 → ks_bl o b = (64 * w + b).testBit (N - v)) : ks_rw N x w (o ^^^ (-1)) := fun b hb => by
  rw [ks_lt_neg hN h hp, ks_bl_not o hb, ho b hb]
  cases (64 * w + b).testBit (N - v) <;> simp
theorem ks_rlo {w q : Nat} {o : Int64} (hq : q < 6) (h : ∀ b, b < 64 → ks_bl o b = b.testBit q) : ∀ b, b < 64 → ks_bl o b = (64 * w + b).testBit q := fun b hb => by
  rw [ks_tbl hb, if_pos hq, h b hb]
theorem ks_rhi1 {w q : Nat} (hq : 6 ≤ q) (h : w.testBit (q - 6) = true) : ∀ b, b < 64 → ks_bl (-1) b = (64 * w + b).testBit q := fun b hb => by
  rw [ks_tbl hb, if_neg (by omega), h, ks_bl_m1 b hb]
theorem ks_rhi0 {w q : Nat} (hq : 6 ≤ q) (h : ¬ w.testBit (q - 6) = true) : ∀ b, b < 64 → ks_bl 0 b = (64 * w + b).testBit q := fun b hb => by
  rw [ks_tbl hb, if_neg (by omega), ks_bl_0]
  cases hh : w.testBit (q - 6)
  · rfl
  · exact absurd hh h
/-- a model under assumptions, F for the clauses -/
def ks_Z (N : Nat) (AS : Nat → Int32) (ac : Nat) (ch : Int64) (ex : Int32) (F : (Nat → Bool) → Prop) (a : Nat → Bool) : Prop := ks_As N AS ch ex ac a ∧ F a
/-- leaves, word by word: j assumptions are in the word w -/
def ks_lw (N : Nat) (AS : Nat → Int32) (ch : Int64) (F : (Nat → Bool) → Prop) (w j : Nat) (x : Int64) : Prop := ∀ b, b < 64 → (ks_bl x b = true ↔ 64 * w + b < 2 ^ N ∧ ks_Z N AS j ch 0 F (64 * w + b).testBit)
theorem ks_lw.zero {N : Nat} {AS : Nat → Int32} {ch : Int64} {F : (Nat → Bool) → Prop} {A : Nat → Int64} {w : Nat} (h : ks_TT N A F) (hw : w < ks_wd N) : ks_lw N AS ch F w 0 (A w) := fun b hb =>
  (h w hw b hb).trans ⟨fun q => ⟨q.1, ⟨Or.inl rfl, fun j hj => absurd hj (by omega)⟩, q.2⟩, fun q => ⟨q.1, q.2.2⟩⟩
theorem ks_lw.skip {N : Nat} {AS : Nat → Int32} {ch : Int64} {F : (Nat → Bool) → Prop} {w j : Nat} {x : Int64} (h : ks_lw N AS ch F w j x) (hb : ks_bl ch j = false) : ks_lw N AS ch F w (j + 1) x := fun b hb9 =>
  (h b hb9).trans ⟨fun q => ⟨q.1, (ks_As.skip hb).mp q.2.1, q.2.2⟩, fun q => ⟨q.1, (ks_As.skip hb).mpr q.2.1, q.2.2⟩⟩
theorem ks_lw.add {N : Nat} {AS : Nat → Int32} {ch : Int64} {F : (Nat → Bool) → Prop} {w j : Nat} {x y : Int64} (h : ks_lw N AS ch F w j x) (hb : ks_bl ch j = true) (hy : ks_rw N (AS j) w y) : ks_lw N AS ch F w (j + 1) (x &&& y) := fun b hb9 => by
  rw [ks_bl_and, Bool.and_eq_true, h b hb9, hy b hb9]
  exact ⟨fun q => ⟨q.1.1, (ks_As.add hb).mpr ⟨q.1.2.1, q.2⟩, q.1.2.2⟩, fun q => ⟨⟨q.1, ((ks_As.add hb).mp q.2.1).1, q.2.2⟩, ((ks_As.add hb).mp q.2.1).2⟩⟩
/-- what is in some of the first words -/
def ks_sm (L : Nat → Int64) (w : Nat) (x : Int64) : Prop := ∀ b, b < 64 → (ks_bl x b = true ↔ ∃ i, i < w ∧ ks_bl (L i) b = true)
theorem ks_sm.zero (L : Nat → Int64) : ks_sm L 0 0 := fun b hb => by
  rw [ks_bl_0]
  exact ⟨fun q => absurd q (by decide), fun ⟨i, hi, _⟩ => absurd hi (by omega)⟩
theorem ks_sm.add {L L1 : Nat → Int64} {w : Nat} {x : Int64} (h : ks_sm L w x) (hL : ∀ i, i < w → L1 i = L i) : ks_sm L1 (w + 1) (x ||| L1 w) := fun b hb => by
  rw [ks_bl_or, Bool.or_eq_true, h b hb]
  constructor
  · intro q
    rcases q with ⟨i, hi, q⟩ | q
    · exact ⟨i, by omega, by rw [hL i hi]; exact q⟩
    · exact ⟨w, by omega, q⟩
  · intro ⟨i, hi, q⟩
    by_cases e : i = w
    · rw [e] at q; exact Or.inr q
    · exact Or.inl ⟨i, by omega, by rw [← hL i (by omega)]; exact q⟩
theorem ks_sm.zero_iff {N : Nat} (hN : N ≤ 16) {L : Nat → Int64} {x : Int64} {F : (Nat → Bool) → Prop} (h : ks_sm L (ks_wd N) x) (hT : ks_TT N L F) : x = 0 ↔ ∀ v, v < 2 ^ N → ¬ F v.testBit := by
  rw [ks_bl_z]
  constructor
  · intro q v hv hF
    obtain ⟨h1, h2, h3⟩ := hT.at hN hv
    have := (h (v % 64) h2).mpr ⟨v / 64, h1, h3.mpr hF⟩
    rw [q _ h2] at this
    cases this
  · intro q j hj
    cases hb : ks_bl x j
    · rfl
    · obtain ⟨i, hi, hb2⟩ := (h j hj).mp hb
      have := (hT i hi j hj).mp hb2
      exact absurd this.2 (q _ this.1)
/-- least: the first word that isn't empty, the first bit in it -/
theorem ks_TT.least {N : Nat} (hN : N ≤ 16) {L : Nat → Int64} {F : (Nat → Bool) → Prop} (hT : ks_TT N L F) {w b : Nat} (hw : w < ks_wd N) (hb : b < 64) (h1 : ∀ i, i < w → L i = 0) (h2 : ∀ j, j < b → ks_bl (L w) j = false) (h3 : ks_bl (L w) b = true) : ks_L N F (nI (64 * w + b)) := by
  obtain ⟨h4, h5⟩ := (hT w hw b hb).mp h3
  refine Or.inr ⟨64 * w + b, h4, rfl, h5, fun v hv hF => ?_⟩
  obtain ⟨q1, q2, q3⟩ := hT.at hN (Nat.lt_trans hv h4)
  have q4 := q3.mpr hF
  by_cases e : v / 64 < w
  · rw [h1 _ e, ks_bl_0] at q4; cases q4
  · have e2 : v / 64 = w := by omega
    rw [e2, h2 (v % 64) (by omega)] at q4
    cases q4
/-- close: the clause that is being made -/
def ks_mkT (N : Nat) (MK : Nat → Int32) (k : Nat) (a : Nat → Bool) : Prop := ∃ j, j < k ∧ ks_lt N (MK j) a
def ks_cw (N : Nat) (MK : Nat → Int32) (w k : Nat) (x : Int64) : Prop := ∀ b, b < 64 → (ks_bl x b = true ↔ ks_mkT N MK k (64 * w + b).testBit)
theorem ks_cw.zero (N : Nat) (MK : Nat → Int32) (w : Nat) : ks_cw N MK w 0 0 := fun b hb => by
  rw [ks_bl_0]
  exact ⟨fun q => absurd q (by decide), fun ⟨i, hi, _⟩ => absurd hi (by omega)⟩
theorem ks_cw.add {N : Nat} {MK : Nat → Int32} {w k : Nat} {x y : Int64} (h : ks_cw N MK w k x) (hy : ks_rw N (MK k) w y) : ks_cw N MK w (k + 1) (x ||| y) := fun b hb => by
  rw [ks_bl_or, Bool.or_eq_true, h b hb, hy b hb]
  constructor
  · intro q
    rcases q with ⟨i, hi, q⟩ | q
    · exact ⟨i, by omega, q⟩
    · exact ⟨k, by omega, q⟩
  · intro ⟨i, hi, q⟩
    by_cases e : i = k
    · rw [e] at q; exact Or.inr q
    · exact Or.inl ⟨i, by omega, q⟩
/-- of the table the first w words have the clause more -/
def ks_TC (N : Nat) (A A1 : Nat → Int64) (G : (Nat → Bool) → Prop) (w : Nat) : Prop := (∀ i, w ≤ i → A1 i = A i) ∧ ∀ i, i < w → ∀ b, b < 64 → (ks_bl (A1 i) b = true ↔ ks_bl (A i) b = true ∧ G (64 * i + b).testBit)
theorem ks_TC.zero (N : Nat) (A : Nat → Int64) (G : (Nat → Bool) → Prop) : ks_TC N A A G 0 := ⟨fun _ _ => rfl, fun i hi => absurd hi (by omega)⟩
theorem ks_TC.step {N : Nat} {A A1 : Nat → Int64} {G : (Nat → Bool) → Prop} {w : Nat} {y : Int64} (h : ks_TC N A A1 G w) (hy : ∀ b, b < 64 → (ks_bl y b = true ↔ G (64 * w + b).testBit)) : ks_TC N A (vp_updL A1 w (A1 w &&& y)) G (w + 1) := by
  refine ⟨fun i hi => ?_, fun i hi b hb => ?_⟩
  · rw [pk_uLn (by omega)]; exact h.1 i (by omega)
  · by_cases e : i = w
    · subst e
      rw [pk_uLs, ks_bl_and, Bool.and_eq_true, hy b hb, h.1 i (Nat.le_refl i)]
    · rw [pk_uLn e]; exact h.2 i (by omega) b hb
theorem ks_TC.done {N : Nat} {A A1 : Nat → Int64} {F G : (Nat → Bool) → Prop} (h : ks_TC N A A1 G (ks_wd N)) (hT : ks_TT N A F) : ks_TT N A1 (fun a => F a ∧ G a) := fun w hw b hb => by
  rw [h.2 w hw b hb, hT w hw b hb]
  exact ⟨fun q => ⟨q.1.1, q.1.2, q.2⟩, fun q => ⟨⟨q.1, q.2.1⟩, q.2.2⟩⟩
/-- leaves: the first w words are done -/
def ks_TL (N : Nat) (L : Nat → Int64) (F : (Nat → Bool) → Prop) (w : Nat) : Prop := ∀ i, i < w → ∀ b, b < 64 → (ks_bl (L i) b = true ↔ 64 * i + b < 2 ^ N ∧ F (64 * i + b).testBit)
/-- implied: so far all are true -/
def ks_im (N : Nat) (L : Nat → Int64) (x : Int32) (w : Nat) (r : Int32) : Prop := (r = 1 ∧ ∀ i, i < w → ∀ b, b < 64 → ks_bl (L i) b = true → ks_lt N x (64 * i + b).testBit) ∨ (r = 0 ∧ ∃ i, i < w ∧ ∃ b, b < 64 ∧ ks_bl (L i) b = true ∧ ¬ ks_lt N x (64 * i + b).testBit)
theorem ks_im.step0 {N : Nat} {L : Nat → Int64} {x : Int32} {w : Nat} {r : Int32} (h : ks_im N L x w r) (e : r = 0) : ks_im N L x (w + 1) 0 := by
  rcases h with ⟨q, _⟩ | ⟨_, i, hi, b, hb⟩
  · rw [e] at q; exact absurd q (by decide)
  · exact Or.inr ⟨rfl, i, by omega, b, hb⟩
theorem ks_im.step {N : Nat} {L : Nat → Int64} {x : Int32} {w : Nat} {r : Int32} {y : Int64} (h : ks_im N L x w r) (e : ¬ r = 0) (hy : ks_rw N x w y) : (L w &&& (y ^^^ (-1)) = 0 → ks_im N L x (w + 1) 1) ∧ (¬ L w &&& (y ^^^ (-1)) = 0 → ks_im N L x (w + 1) 0) := by
  have h1 : ∀ i, i < w → ∀ b, b < 64 → ks_bl (L i) b = true → ks_lt N x (64 * i + b).testBit := by
    rcases h with ⟨_, q⟩ | ⟨q, _⟩
    · exact q
    · exact absurd q e
  refine ⟨fun z => Or.inl ⟨rfl, fun i hi b hb hL => ?_⟩, fun z => ?_⟩
  · by_cases ei : i = w
    · subst ei
      have := ks_bl_z.mp z b hb
      rw [ks_bl_and, hL, Bool.true_and, ks_bl_not y hb] at this
      apply (hy b hb).mp
      cases hh : ks_bl y b
      · rw [hh] at this; cases this
      · rfl
    · exact h1 i (by omega) b hb hL
  · obtain ⟨b, hb, q⟩ := ks_bl_nz.mp z
    rw [ks_bl_and, Bool.and_eq_true, ks_bl_not y hb] at q
    refine Or.inr ⟨rfl, w, by omega, b, hb, q.1, fun hl => ?_⟩
    rw [(hy b hb).mpr hl] at q
    exact absurd q.2 (by decide)
theorem ks_im.done {N : Nat} (hN : N ≤ 16) {L : Nat → Int64} {F : (Nat → Bool) → Prop} {x r : Int32} (h : ks_im N L x (ks_wd N) r) (hT : ks_TT N L F) : (r = 1 ∧ ∀ v, v < 2 ^ N → F v.testBit → ks_lt N x v.testBit) ∨ (r = 0 ∧ ¬ ∀ v, v < 2 ^ N → F v.testBit → ks_lt N x v.testBit) := by
  rcases h with ⟨e, q⟩ | ⟨e, i, hi, b, hb, q1, q2⟩
  · refine Or.inl ⟨e, fun v hv hF => ?_⟩
    obtain ⟨h1, h2, h3⟩ := hT.at hN hv
    have := q (v / 64) h1 (v % 64) h2 (h3.mpr hF)
    rw [show 64 * (v / 64) + v % 64 = v by omega] at this
    exact this
  · refine Or.inr ⟨e, fun q => ?_⟩
    have := (hT i hi b hb).mp q1
    exact q2 (q _ this.1 this.2)
end
section
/-! elements of long arrays at a known place -/
section KSL
variable {p : Program} {l : Launch} {e : Env} {R : Room} {s : State} {m : MethodId} {args : Array Value} {below : List Frame} {meth : Method} {c : Code} {H : Heap} {locs : List Loc} {cells slots : Nat} {Q : State → Prop} {cc : ByteArray} {pc : Nat} {ls : Array Slot} {rest : List Value} {D : va_G} {tys : List (ClassId × FieldType)} {ws : va_W} {A : Nat → Prop} {H0 : Heap}
theorem ks_lald (hexec : p.tables.exec = Jvm.exec) (hb : c.code = cc) (hK : va_K D ksCl tys s) (hP : va_P D ksCl ws H) (q0 t0 : Nat) {a : Nat} {cA : ClassId} {n : Nat} {f : Nat → Int64} (ha : ws[q0]? = some (a, .inl (cA, n, .inr (.inl f)))) (ht : tys[t0]? = some (cA, .long)) {j : Nat} (hj : j < n) (hn : n < 2 ^ 31) (hdg : decode cc pc = .ok (.laload, 1)) (kk : W p l e R s m args below meth c H locs cells slots Q (F0 m (pc + 1) ls (.long (f j) :: rest))) : W p l e R s m args below meth c H locs cells slots Q (F0 m pc ls (.int (nI j) :: .ref a :: rest)) :=
  va_lald hexec hb hK hP q0 t0 ha ht (vp_in_nI hj hn) hdg (by rw [nI_clamp (Nat.lt_trans hj hn)]; exact kk)
theorem ks_last (hexec : p.tables.exec = Jvm.exec) (hb : c.code = cc) (hK : va_K D ksCl tys s) (hP : va_P D ksCl ws H) (hD : va_D A ws) (hS : va_S A H0 H locs) (q0 t0 : Nat) {a : Nat} {cA : ClassId} {n : Nat} {f : Nat → Int64} (ha : ws[q0]? = some (a, .inl (cA, n, .inr (.inl f)))) (ht : tys[t0]? = some (cA, .long)) {j : Nat} {x : Int64} (hj : j < n) (hn : n < 2 ^ 31) (hdg : decode cc pc = .ok (.lastore, 1)) (kk : ∀ (H1 : Heap) (locs1 : List Loc), va_P D ksCl (ws.set q0 (a, .inl (cA, n, .inr (.inl (vp_updL f j x))))) H1 → va_D A (ws.set q0 (a, .inl (cA, n, .inr (.inl (vp_updL f j x))))) → va_S A H0 H1 locs1 → W p l e R s m args below meth c H1 locs1 cells slots Q (F0 m (pc + 1) ls rest)) : W p l e R s m args below meth c H locs cells slots Q (F0 m pc ls (.long x :: .int (nI j) :: .ref a :: rest)) :=
  va_last hexec hb hK hP hD hS q0 t0 ha ht (vp_in_nI hj hn) hdg (fun H1 l1 a1 a2 a3 => by rw [nI_clamp (Nat.lt_trans hj hn)] at a1 a2; exact kk H1 l1 a1 a2 a3)
end KSL
/-! clear, and the start -/
theorem ks_TL.hi {N : Nat} (hN : N ≤ 16) {A : Nat → Int64} {w : Nat} (h : ks_TL N A (fun _ => True) w) (h6 : 6 ≤ N) (hw : w < ks_wd N) : ks_TL N (vp_updL A w (-1)) (fun _ => True) (w + 1) := fun i hi b hb => by
  by_cases e : i = w
  · subst e
    have := ks_wd_lo N hN h6
    rw [pk_uLs, ks_bl_m1 b hb]
    exact ⟨fun _ => ⟨by omega, trivial⟩, fun _ => rfl⟩
  · rw [pk_uLn e]; exact h i (by omega) b hb
def ks_cN (N : Nat) : Int64 := (1 <<< (((1 : Int32) <<< (nI N &&& 31)).toInt64 &&& 63)) - 1
theorem ks_TL.lo {N : Nat} {A : Nat → Int64} {w : Nat} (h : ks_TL N A (fun _ => True) w) (h6 : N < 6) (hw : w < ks_wd N) : ks_TL N (vp_updL A w (ks_cN N)) (fun _ => True) (w + 1) := fun i hi b hb => by
  rw [ks_wd_sm h6] at hw
  have ei : i = 0 := by omega
  have ew : w = 0 := by omega
  subst ei; subst ew
  have e9 : ks_bl (ks_cN N) b = decide (b < 2 ^ N) := ks_clr N h6 b hb
  rw [pk_uLs, e9, decide_eq_true_iff]
  exact ⟨fun q => ⟨by omega, trivial⟩, fun q => by omega⟩
theorem ks_N_lo {x : Int32} (h : ¬ 1 ≤ x) : (1 : Int32) = nI (ks_N x) := by
  apply Int32.toInt_inj.mp
  rw [ks_N_toInt]
  rw [Int32.le_iff_toInt_le, show (1 : Int32).toInt = 1 by decide] at h
  rw [if_pos (by omega)]
  decide
theorem ks_N_hi {x : Int32} (h : ¬ x ≤ nI 16) : nI 16 = nI (ks_N x) := by
  apply Int32.toInt_inj.mp
  rw [ks_N_toInt]
  rw [Int32.le_iff_toInt_le, nI_toInt (by decide)] at h
  rw [if_neg (by omega), if_pos (by omega), nI_toInt (by decide)]
  rfl
theorem ks_N_mid {x : Int32} (h1 : 1 ≤ x) (h : x ≤ nI 16) : x = nI (ks_N x) := by
  apply Int32.toInt_inj.mp
  rw [ks_N_toInt]
  rw [Int32.le_iff_toInt_le, nI_toInt (by decide)] at h
  rw [Int32.le_iff_toInt_le, show (1 : Int32).toInt = 1 by decide] at h1
  rw [if_neg (by omega), if_neg (by omega)]
theorem ks_lit_ge {N : Nat} (hN : N ≤ 16) {x : Int32} {v : Nat} (h : ks_lit N x v) (h0 : 0 ≤ x) : 0 < x := by
  have h1 := h.ne0 hN
  rw [Int32.le_iff_toInt_le, Int32.toInt_zero] at h0
  rw [Int32.lt_iff_toInt_lt, Int32.toInt_zero]
  rcases Int.lt_or_eq_of_le h0 with q | q
  · exact q
  · exact absurd (Int32.toInt_inj.mp (by rw [Int32.toInt_zero]; exact q.symm)) h1
end
section
set_option maxHeartbeats 4000000 in
set_option maxRecDepth 100000 in
/-- the reference: isLiteral -/
theorem km_isLiteral (l : Launch) (dC : Nat → ClassId) (dI : Nat → Nat → Nat) (xm m1 m2 m3 m4 m5 wd : Nat) (N : Nat) (th km kc kl ac : Int32) (x0 : Int32) (hN : N ≤ 16) : ks_Mi l yX4_isLiteral wsX4_isLiteral ({ frames := 0, cells := 0, slots := 0, locals := 0 }) (dC, dI) [.ref xm, .int x0] [(xm, .inr (4, [.int th, .int (nI N), .int (nI wd), .ref m1, .ref m2, .ref m3, .ref m4, .ref m5, .int km, .int kc, .int kl, .int ac]))] [] 0 0 (S := Unit) (fun r _ => (r = 1 ∧ ∃ v, ks_lit N x0 v) ∨ (r = 0 ∧ ¬ ∃ v, ks_lit N x0 v)) (fun _ => [(xm, .inr (4, [.int th, .int (nI N), .int (nI wd), .ref m1, .ref m2, .ref m3, .ref m4, .ref m5, .int km, .int kc, .int kl, .int ac]))]) (fun _ => []) := by
  intro sz
  refine Met.ofW (cc := cX4_isLiteral) (maxL := 2) (ret := (some .boolean)) (by decide) rfl ?_
  intro p e s m args below meth c s₁ B9 hml hv
  obtain ⟨rfl, hsz, hP, hK, hD0, hNW⟩ := hv
  have hx := B9.exec
  have hb := B9.bytes
  have hr := B9.returns
  have hts := atoms_spec (ws := wsX4_isLiteral) B9.pre
  have hown : s.vm.findClass RX4 = some m.cls := findClass_of_methodNamed B9.named
  have hlocks := B9.notSynchronized
  subst hsz
  have hD := hD0.self (sz := s.heap.size)
  generalize hAe : va_A [(xm, .inr (4, [.int th, .int (nI N), .int (nI wd), .ref m1, .ref m2, .ref m3, .ref m4, .ref m5, .int km, .int kc, .int kl, .int ac]))] s.heap.size = A at hD ⊢
  have hA : ∀ q : Nat, s.heap.size ≤ q → A q := fun q h => by rw [← hAe]; exact Or.inr h
  have hS : va_S A s.heap s.heap [] := va_S.rf
  have hiX4 : ∀ w ∈ u_ws RX4 TM 12, w ∈ wsX4_isLiteral := by decide +kernel
  have f26 := hts (.fieldLink RX4 26 "LessonSolverModel" "n" "I") (by decide +kernel)
  have hl := lv_entry ([.ref xm, .int x0]) (n := 2) (Nat.le_of_ble_eq_true rfl)
  rw [lg_entry_eq]
  generalize (lg_sl ([.ref xm, .int x0]) ++ List.replicate (2 - (lg_sl ([.ref xm, .int x0])).length) Slot.unset).toArray = ls at hl ⊢
  have hl : lv_has ls 2 [(0, .ref xm), (1, .int x0)] := hl
  refine lv_iload_n hx hb dX4_isLiteral_0 rfl (lv_at hl 1 rfl) ?_
  refine lv_if_eq (tgt := 25) hx hb dX4_isLiteral_1 (by decide) (fun c1 => ?_) (fun c1 => ?_)
  · -- 1: jumps
    have hz : ¬ ∃ v, ks_lit N x0 v := fun ⟨v, hv⟩ => hv.ne0 hN c1
    refine lv_iconst (v := 0) hx hb dX4_isLiteral_25 (by decide) ?_
    have hP9 : va_P (dC, dI) ksCl [(xm, .inr (4, [.int th, .int (nI N), .int (nI wd), .ref m1, .ref m2, .ref m3, .ref m4, .ref m5, .int km, .int kc, .int kl, .int ac]))] _ := hP
    have hD9 : va_D A [(xm, .inr (4, [.int th, .int (nI N), .int (nI wd), .ref m1, .ref m2, .ref m3, .ref m4, .ref m5, .int km, .int kc, .int kl, .int ac]))] := hD
    have hK9 : va_K (dC, dI) ksCl [] s := hK
    exact W.zret (v := 0) (ty := .boolean) hx hb hr (by decide) (fun t ht hW9 => ⟨⟨0, (), rfl, Or.inr ⟨rfl, hz⟩, by rw [ht]; exact hP9, va_K.moved hW9.alike hK9, hD9⟩, hS.F ht⟩) hS.2.2 dX4_isLiteral_26
  · -- 1: goes on
    refine lv_iload_n hx hb dX4_isLiteral_4 rfl (lv_at hl 1 rfl) ?_
    refine lv_aload_n hx hb dX4_isLiteral_5 rfl (lv_at hl 0 rfl) ?_
    refine va_get (D := (dC, dI)) (ci := 4) (v := .int (nI N)) (C := RX4) (T := TM) (N := 12) hx hb hts hiX4 hown hK hP 0 rfl rfl 1 (by decide) f26 (fun _ h9 => h9) rfl dX4_isLiteral_6 ?_
    refine lv_ineg hx hb dX4_isLiteral_9 ?_
    refine lv_icmp_lt (tgt := 25) hx hb dX4_isLiteral_10 (by decide) (fun c10 => ?_) (fun c10 => ?_)
    · -- 10: jumps
      have hz : ¬ ∃ v, ks_lit N x0 v := fun ⟨v, hv⟩ => hv.lo hN c10
      refine lv_iconst (v := 0) hx hb dX4_isLiteral_25 (by decide) ?_
      have hP9 : va_P (dC, dI) ksCl [(xm, .inr (4, [.int th, .int (nI N), .int (nI wd), .ref m1, .ref m2, .ref m3, .ref m4, .ref m5, .int km, .int kc, .int kl, .int ac]))] _ := hP
      have hD9 : va_D A [(xm, .inr (4, [.int th, .int (nI N), .int (nI wd), .ref m1, .ref m2, .ref m3, .ref m4, .ref m5, .int km, .int kc, .int kl, .int ac]))] := hD
      have hK9 : va_K (dC, dI) ksCl [] s := hK
      exact W.zret (v := 0) (ty := .boolean) hx hb hr (by decide) (fun t ht hW9 => ⟨⟨0, (), rfl, Or.inr ⟨rfl, hz⟩, by rw [ht]; exact hP9, va_K.moved hW9.alike hK9, hD9⟩, hS.F ht⟩) hS.2.2 dX4_isLiteral_26
    · -- 10: goes on
      refine lv_iload_n hx hb dX4_isLiteral_13 rfl (lv_at hl 1 rfl) ?_
      refine lv_aload_n hx hb dX4_isLiteral_14 rfl (lv_at hl 0 rfl) ?_
      refine va_get (D := (dC, dI)) (ci := 4) (v := .int (nI N)) (C := RX4) (T := TM) (N := 12) hx hb hts hiX4 hown hK hP 0 rfl rfl 1 (by decide) f26 (fun _ h9 => h9) rfl dX4_isLiteral_15 ?_
      refine lv_icmp_gt (tgt := 25) hx hb dX4_isLiteral_18 (by decide) (fun c18 => ?_) (fun c18 => ?_)
      · -- 18: jumps
        have hz : ¬ ∃ v, ks_lit N x0 v := fun ⟨v, hv⟩ => hv.hi hN c18
        refine lv_iconst (v := 0) hx hb dX4_isLiteral_25 (by decide) ?_
        have hP9 : va_P (dC, dI) ksCl [(xm, .inr (4, [.int th, .int (nI N), .int (nI wd), .ref m1, .ref m2, .ref m3, .ref m4, .ref m5, .int km, .int kc, .int kl, .int ac]))] _ := hP
        have hD9 : va_D A [(xm, .inr (4, [.int th, .int (nI N), .int (nI wd), .ref m1, .ref m2, .ref m3, .ref m4, .ref m5, .int km, .int kc, .int kl, .int ac]))] := hD
        have hK9 : va_K (dC, dI) ksCl [] s := hK
        exact W.zret (v := 0) (ty := .boolean) hx hb hr (by decide) (fun t ht hW9 => ⟨⟨0, (), rfl, Or.inr ⟨rfl, hz⟩, by rw [ht]; exact hP9, va_K.moved hW9.alike hK9, hD9⟩, hS.F ht⟩) hS.2.2 dX4_isLiteral_26
      · -- 18: goes on
        have ho := ks_isLit hN c1 c10 c18
        refine lv_iconst (v := 1) hx hb dX4_isLiteral_21 (by decide) ?_
        refine lv_goto (tgt := 26) hx hb dX4_isLiteral_22 (by decide) ?_
        have hP9 : va_P (dC, dI) ksCl [(xm, .inr (4, [.int th, .int (nI N), .int (nI wd), .ref m1, .ref m2, .ref m3, .ref m4, .ref m5, .int km, .int kc, .int kl, .int ac]))] _ := hP
        have hD9 : va_D A [(xm, .inr (4, [.int th, .int (nI N), .int (nI wd), .ref m1, .ref m2, .ref m3, .ref m4, .ref m5, .int km, .int kc, .int kl, .int ac]))] := hD
        have hK9 : va_K (dC, dI) ksCl [] s := hK
        exact W.zret (v := 1) (ty := .boolean) hx hb hr (by decide) (fun t ht hW9 => ⟨⟨1, (), rfl, Or.inl ⟨rfl, ho⟩, by rw [ht]; exact hP9, va_K.moved hW9.alike hK9, hD9⟩, hS.F ht⟩) hS.2.2 dX4_isLiteral_26
end
section
set_option maxHeartbeats 4000000 in
set_option maxRecDepth 100000 in
/-- the reference: row -/
theorem km_row (l : Launch) (dC : Nat → ClassId) (dI : Nat → Nat → Nat) (xm m1 m2 m3 m4 m5 wd : Nat) (N : Nat) (th km kc kl ac : Int32) (x0 : Int32) (v0 w0 : Nat) (hN : N ≤ 16) (hv : ks_lit N x0 v0) (hw0 : w0 < 1024) : ks_Ml l yX4_row wsX4_row ({ frames := 0, cells := 0, slots := 0, locals := 0 }) (dC, dI) [.ref xm, .int x0, .int (nI w0)] [(xm, .inr (4, [.int th, .int (nI N), .int (nI wd), .ref m1, .ref m2, .ref m3, .ref m4, .ref m5, .int km, .int kc, .int kl, .int ac]))] [] 0 0 (S := Unit) (fun r _ => ks_rw N x0 w0 r) (fun _ => [(xm, .inr (4, [.int th, .int (nI N), .int (nI wd), .ref m1, .ref m2, .ref m3, .ref m4, .ref m5, .int km, .int kc, .int kl, .int ac]))]) (fun _ => []) := by
  intro sz
  refine Met.ofW (cc := cX4_row) (maxL := 6) (ret := (some .long)) (by decide) rfl ?_
  intro p e s m args below meth c s₁ B9 hml hv
  obtain ⟨rfl, hsz, hP, hK, hD0, hNW⟩ := hv
  have hx := B9.exec
  have hb := B9.bytes
  have hr := B9.returns
  have hts := atoms_spec (ws := wsX4_row) B9.pre
  have hown : s.vm.findClass RX4 = some m.cls := findClass_of_methodNamed B9.named
  have hlocks := B9.notSynchronized
  subst hsz
  have hD := hD0.self (sz := s.heap.size)
  generalize hAe : va_A [(xm, .inr (4, [.int th, .int (nI N), .int (nI wd), .ref m1, .ref m2, .ref m3, .ref m4, .ref m5, .int km, .int kc, .int kl, .int ac]))] s.heap.size = A at hD ⊢
  have hA : ∀ q : Nat, s.heap.size ≤ q → A q := fun q h => by rw [← hAe]; exact Or.inr h
  have hS : va_S A s.heap s.heap [] := va_S.rf
  have hiX4 : ∀ w ∈ u_ws RX4 TM 12, w ∈ wsX4_row := by decide +kernel
  have f26 := hts (.fieldLink RX4 26 "LessonSolverModel" "n" "I") (by decide +kernel)
  have k39 := hts (.constantLong RX4 39 (-1)) (by decide +kernel)
  have k53 := hts (.constantLong RX4 53 (-6148914691236517206)) (by decide +kernel)
  have k55 := hts (.constantLong RX4 55 (-3689348814741910324)) (by decide +kernel)
  have k57 := hts (.constantLong RX4 57 (-1085102592571150096)) (by decide +kernel)
  have k59 := hts (.constantLong RX4 59 (-71777214294589696)) (by decide +kernel)
  have k61 := hts (.constantLong RX4 61 (-281470681808896)) (by decide +kernel)
  have k63 := hts (.constantLong RX4 63 (-4294967296)) (by decide +kernel)
  have hl := lv_entry ([.ref xm, .int x0, .int (nI w0)]) (n := 6) (Nat.le_of_ble_eq_true rfl)
  rw [lg_entry_eq]
  generalize (lg_sl ([.ref xm, .int x0, .int (nI w0)]) ++ List.replicate (6 - (lg_sl ([.ref xm, .int x0, .int (nI w0)])).length) Slot.unset).toArray = ls at hl ⊢
  have hl : lv_has ls 6 [(0, .ref xm), (1, .int x0), (2, .int (nI w0))] := hl
  refine ks_join (σ := Nat) (fun x H locs ls => (x = N - v0) ∧ va_P (dC, dI) ksCl [(xm, .inr (4, [.int th, .int (nI N), .int (nI wd), .ref m1, .ref m2, .ref m3, .ref m4, .ref m5, .int km, .int kc, .int kl, .int ac]))] H ∧ va_D A [(xm, .inr (4, [.int th, .int (nI N), .int (nI wd), .ref m1, .ref m2, .ref m3, .ref m4, .ref m5, .int km, .int kc, .int kl, .int ac]))] ∧ va_S A s.heap H locs ∧ lv_has ls 6 [(1, .int x0), (2, .int (nI w0)), (3, .int (nI x))]) 16 ?_ (fun hj => ?_)
  · -- where the ways meet: 16
    intro x H locs ls h9
    obtain ⟨q9, rfl⟩ : ∃ z, z = x := ⟨_, rfl⟩
    obtain ⟨q1, hP, hD, hS, hl⟩ := h9
    have q1 : q9 = N - v0 := q1
    have hP : va_P (dC, dI) ksCl [(xm, .inr (4, [.int th, .int (nI N), .int (nI wd), .ref m1, .ref m2, .ref m3, .ref m4, .ref m5, .int km, .int kc, .int kl, .int ac]))] H := hP
    have hD : va_D A [(xm, .inr (4, [.int th, .int (nI N), .int (nI wd), .ref m1, .ref m2, .ref m3, .ref m4, .ref m5, .int km, .int kc, .int kl, .int ac]))] := hD
    have hl : lv_has ls 6 [(1, .int x0), (2, .int (nI w0)), (3, .int (nI q9))] := hl
    refine ks_join (σ := Int64) (fun x H locs ls => (∀ b, b < 64 → ks_bl x b = (64 * w0 + b).testBit (N - v0)) ∧ va_P (dC, dI) ksCl [(xm, .inr (4, [.int th, .int (nI N), .int (nI wd), .ref m1, .ref m2, .ref m3, .ref m4, .ref m5, .int km, .int kc, .int kl, .int ac]))] H ∧ va_D A [(xm, .inr (4, [.int th, .int (nI N), .int (nI wd), .ref m1, .ref m2, .ref m3, .ref m4, .ref m5, .int km, .int kc, .int kl, .int ac]))] ∧ va_S A s.heap H locs ∧ lv_has ls 6 [(1, .int x0), (4, .long x)]) 125 ?_ (fun hj => ?_)
    · -- where the ways meet: 125
      intro x H locs ls h9
      obtain ⟨on9, rfl⟩ : ∃ z, z = x := ⟨_, rfl⟩
      obtain ⟨q1, hP, hD, hS, hl⟩ := h9
      have q1 : ∀ b, b < 64 → ks_bl on9 b = (64 * w0 + b).testBit (N - v0) := q1
      have hP : va_P (dC, dI) ksCl [(xm, .inr (4, [.int th, .int (nI N), .int (nI wd), .ref m1, .ref m2, .ref m3, .ref m4, .ref m5, .int km, .int kc, .int kl, .int ac]))] H := hP
      have hD : va_D A [(xm, .inr (4, [.int th, .int (nI N), .int (nI wd), .ref m1, .ref m2, .ref m3, .ref m4, .ref m5, .int km, .int kc, .int kl, .int ac]))] := hD
      have hl : lv_has ls 6 [(1, .int x0), (4, .long on9)] := hl
      refine lv_iload_n hx hb dX4_row_125 rfl (lv_at hl 0 rfl) ?_
      refine lv_if_ge (tgt := 138) hx hb dX4_row_126 (by decide) (fun c126 => ?_) (fun c126 => ?_)
      · -- 126: jumps
        refine lv_lload hx hb dX4_row_138 (lv_at hl 1 rfl) ?_
        have hP9 : va_P (dC, dI) ksCl [(xm, .inr (4, [.int th, .int (nI N), .int (nI wd), .ref m1, .ref m2, .ref m3, .ref m4, .ref m5, .int km, .int kc, .int kl, .int ac]))] _ := hP
        have hD9 : va_D A [(xm, .inr (4, [.int th, .int (nI N), .int (nI wd), .ref m1, .ref m2, .ref m3, .ref m4, .ref m5, .int km, .int kc, .int kl, .int ac]))] := hD
        have hK9 : va_K (dC, dI) ksCl [] s := hK
        exact W.lret (v := on9) hx hb hr (fun t ht hW9 => ⟨⟨on9, (), rfl, ks_rw.pos hN hv (ks_lit_ge hN hv c126) q1, by rw [ht]; exact hP9, va_K.moved hW9.alike hK9, hD9⟩, hS.F ht⟩) hS.2.2 dX4_row_140
      · -- 126: goes on
        refine lv_lload hx hb dX4_row_129 (lv_at hl 1 rfl) ?_
        refine lv_ldc2 (v := (-1)) hx hb hown k39 dX4_row_131 ?_
        refine lv_lxor hx hb dX4_row_134 ?_
        refine lv_goto (tgt := 140) hx hb dX4_row_135 (by decide) ?_
        have hP9 : va_P (dC, dI) ksCl [(xm, .inr (4, [.int th, .int (nI N), .int (nI wd), .ref m1, .ref m2, .ref m3, .ref m4, .ref m5, .int km, .int kc, .int kl, .int ac]))] _ := hP
        have hD9 : va_D A [(xm, .inr (4, [.int th, .int (nI N), .int (nI wd), .ref m1, .ref m2, .ref m3, .ref m4, .ref m5, .int km, .int kc, .int kl, .int ac]))] := hD
        have hK9 : va_K (dC, dI) ksCl [] s := hK
        exact W.lret (v := on9 ^^^ (-1)) hx hb hr (fun t ht hW9 => ⟨⟨on9 ^^^ (-1), (), rfl, ks_rw.neg hN hv (fun q => c126 (by rw [Int32.le_iff_toInt_le, Int32.toInt_zero]; rw [Int32.lt_iff_toInt_lt, Int32.toInt_zero] at q; omega)) q1, by rw [ht]; exact hP9, va_K.moved hW9.alike hK9, hD9⟩, hS.F ht⟩) hS.2.2 dX4_row_140
    · -- the ways to 125
      refine lv_iload_n hx hb dX4_row_16 rfl (lv_at hl 2 rfl) ?_
      rcases (show q9 = 0 ∨ q9 = 1 ∨ q9 = 2 ∨ q9 = 3 ∨ q9 = 4 ∨ q9 = 5 ∨ 6 ≤ q9 by omega) with h6 | h6 | h6 | h6 | h6 | h6 | h6
      · subst h6
        refine lv_tableIn (x := nI 0) (tgt := 56) hx hb dX4_row_17 (by decide) (by decide) rfl (by decide) ?_
        have un0 := ks_rlo (w := w0) (q := 0) (by decide) ks_r0
        rw [q1] at un0
        refine lv_ldc2 (v := (-6148914691236517206)) hx hb hown k53 dX4_row_56 ?_
        refine lv_lstore (lv' := [(4, .long (-6148914691236517206)), (1, .int x0), (2, .int (nI w0)), (3, .int (nI 0))]) hx hb dX4_row_59 hl (by decide) rfl (fun ls hl => ?_)
        refine lv_goto (tgt := 125) hx hb dX4_row_61 (by decide) ?_
        exact hj (-6148914691236517206) _ _ _ ⟨un0, hP, hD, hS, lv_sub hl [1, 0] rfl⟩
      · subst h6
        refine lv_tableIn (x := nI 1) (tgt := 64) hx hb dX4_row_17 (by decide) (by decide) rfl (by decide) ?_
        have un0 := ks_rlo (w := w0) (q := 1) (by decide) ks_r1
        rw [q1] at un0
        refine lv_ldc2 (v := (-3689348814741910324)) hx hb hown k55 dX4_row_64 ?_
        refine lv_lstore (lv' := [(4, .long (-3689348814741910324)), (1, .int x0), (2, .int (nI w0)), (3, .int (nI 1))]) hx hb dX4_row_67 hl (by decide) rfl (fun ls hl => ?_)
        refine lv_goto (tgt := 125) hx hb dX4_row_69 (by decide) ?_
        exact hj (-3689348814741910324) _ _ _ ⟨un0, hP, hD, hS, lv_sub hl [1, 0] rfl⟩
      · subst h6
        refine lv_tableIn (x := nI 2) (tgt := 72) hx hb dX4_row_17 (by decide) (by decide) rfl (by decide) ?_
        have un0 := ks_rlo (w := w0) (q := 2) (by decide) ks_r2
        rw [q1] at un0
        refine lv_ldc2 (v := (-1085102592571150096)) hx hb hown k57 dX4_row_72 ?_
        refine lv_lstore (lv' := [(4, .long (-1085102592571150096)), (1, .int x0), (2, .int (nI w0)), (3, .int (nI 2))]) hx hb dX4_row_75 hl (by decide) rfl (fun ls hl => ?_)
        refine lv_goto (tgt := 125) hx hb dX4_row_77 (by decide) ?_
        exact hj (-1085102592571150096) _ _ _ ⟨un0, hP, hD, hS, lv_sub hl [1, 0] rfl⟩
      · subst h6
        refine lv_tableIn (x := nI 3) (tgt := 80) hx hb dX4_row_17 (by decide) (by decide) rfl (by decide) ?_
        have un0 := ks_rlo (w := w0) (q := 3) (by decide) ks_r3
        rw [q1] at un0
        refine lv_ldc2 (v := (-71777214294589696)) hx hb hown k59 dX4_row_80 ?_
        refine lv_lstore (lv' := [(4, .long (-71777214294589696)), (1, .int x0), (2, .int (nI w0)), (3, .int (nI 3))]) hx hb dX4_row_83 hl (by decide) rfl (fun ls hl => ?_)
        refine lv_goto (tgt := 125) hx hb dX4_row_85 (by decide) ?_
        exact hj (-71777214294589696) _ _ _ ⟨un0, hP, hD, hS, lv_sub hl [1, 0] rfl⟩
      · subst h6
        refine lv_tableIn (x := nI 4) (tgt := 88) hx hb dX4_row_17 (by decide) (by decide) rfl (by decide) ?_
        have un0 := ks_rlo (w := w0) (q := 4) (by decide) ks_r4
        rw [q1] at un0
        refine lv_ldc2 (v := (-281470681808896)) hx hb hown k61 dX4_row_88 ?_
        refine lv_lstore (lv' := [(4, .long (-281470681808896)), (1, .int x0), (2, .int (nI w0)), (3, .int (nI 4))]) hx hb dX4_row_91 hl (by decide) rfl (fun ls hl => ?_)
        refine lv_goto (tgt := 125) hx hb dX4_row_93 (by decide) ?_
        exact hj (-281470681808896) _ _ _ ⟨un0, hP, hD, hS, lv_sub hl [1, 0] rfl⟩
      · subst h6
        refine lv_tableIn (x := nI 5) (tgt := 96) hx hb dX4_row_17 (by decide) (by decide) rfl (by decide) ?_
        have un0 := ks_rlo (w := w0) (q := 5) (by decide) ks_r5
        rw [q1] at un0
        refine lv_ldc2 (v := (-4294967296)) hx hb hown k63 dX4_row_96 ?_
        refine lv_lstore (lv' := [(4, .long (-4294967296)), (1, .int x0), (2, .int (nI w0)), (3, .int (nI 5))]) hx hb dX4_row_99 hl (by decide) rfl (fun ls hl => ?_)
        refine lv_goto (tgt := 125) hx hb dX4_row_101 (by decide) ?_
        exact hj (-4294967296) _ _ _ ⟨un0, hP, hD, hS, lv_sub hl [1, 0] rfl⟩
      · refine lv_tableOut (tgt := 104) hx hb dX4_row_17 (Or.inr (by rw [nI_toInt (by omega)]; omega)) (by decide) ?_
        refine lv_iload_n hx hb dX4_row_104 rfl (lv_at hl 1 rfl) ?_
        refine lv_iload_n hx hb dX4_row_105 rfl (lv_at hl 2 rfl) ?_
        refine lv_bipush (v := nI 6) hx hb dX4_row_106 (by decide) ?_
        refine lv_isub hx hb dX4_row_108 ?_
        refine ks_top (y := nI (q9 - 6)) (pk_sub h6) ?_
        refine lv_ishr hx hb dX4_row_109 ?_
        refine lv_iconst (v := 1) hx hb dX4_row_110 (by decide) ?_
        refine lv_iand hx hb dX4_row_111 ?_
        refine lv_iconst (v := 1) hx hb dX4_row_112 (by decide) ?_
        refine lv_icmp_ne (tgt := 122) hx hb dX4_row_113 (by decide) (fun c113 => ?_) (fun c113 => ?_)
        · -- 113: jumps
          have un0 := ks_rhi0 (w := w0) h6 (fun q => c113 ((ks_ri hw0 (by omega)).mpr q))
          rw [q1] at un0
          refine lv_lconst (v := 0) hx hb dX4_row_122 (by decide) ?_
          refine lv_lstore (lv' := [(4, .long 0), (1, .int x0), (2, .int (nI w0)), (3, .int (nI q9))]) hx hb dX4_row_123 hl (by decide) rfl (fun ls hl => ?_)
          exact hj 0 _ _ _ ⟨un0, hP, hD, hS, lv_sub hl [1, 0] rfl⟩
        · -- 113: goes on
          have un0 := ks_rhi1 (w := w0) h6 ((ks_ri hw0 (by omega)).mp c113)
          rw [q1] at un0
          refine lv_ldc2 (v := (-1)) hx hb hown k39 dX4_row_116 ?_
          refine lv_goto (tgt := 123) hx hb dX4_row_119 (by decide) ?_
          refine lv_lstore (lv' := [(4, .long (-1)), (1, .int x0), (2, .int (nI w0)), (3, .int (nI q9))]) hx hb dX4_row_123 hl (by decide) rfl (fun ls hl => ?_)
          exact hj (-1) _ _ _ ⟨un0, hP, hD, hS, lv_sub hl [1, 0] rfl⟩
  · -- the ways to 16
    refine lv_aload_n hx hb dX4_row_0 rfl (lv_at hl 0 rfl) ?_
    refine va_get (D := (dC, dI)) (ci := 4) (v := .int (nI N)) (C := RX4) (T := TM) (N := 12) hx hb hts hiX4 hown hK hP 0 rfl rfl 1 (by decide) f26 (fun _ h9 => h9) rfl dX4_row_1 ?_
    refine lv_iload_n hx hb dX4_row_4 rfl (lv_at hl 1 rfl) ?_
    refine lv_if_ge (tgt := 13) hx hb dX4_row_5 (by decide) (fun c5 => ?_) (fun c5 => ?_)
    · -- 5: jumps
      have ep : x0 = nI v0 := by
        rcases hv.2.2 with q | q
        · exact q
        · exfalso; rw [q, Int32.le_iff_toInt_le, ks_negT (by have := hv.2.1; omega), Int32.toInt_zero] at c5; have := hv.1; omega
      refine lv_iload_n hx hb dX4_row_13 rfl (lv_at hl 1 rfl) ?_
      refine ks_top (y := nI v0) (ep) ?_
      refine lv_isub hx hb dX4_row_14 ?_
      refine ks_top (y := nI (N - v0)) (pk_sub hv.2.1) ?_
      refine lv_istore_n (lv' := [(3, .int (nI (N - v0))), (0, .ref xm), (1, .int x0), (2, .int (nI w0))]) hx hb dX4_row_15 rfl hl (by decide) rfl (fun ls hl => ?_)
      exact hj (N - v0) _ _ _ ⟨rfl, hP, hD, hS, lv_sub hl [2, 3, 0] rfl⟩
    · -- 5: goes on
      have ep : -x0 = nI v0 := (ks_lit_neg hv).pos hN (by
        rw [Int32.le_iff_toInt_le, Int32.toInt_zero] at c5
        rcases hv.2.2 with q | q
        · rw [q, nI_toInt (by have := hv.2.1; omega)] at c5; omega
        · rw [q, show -(-nI v0) = nI v0 from by apply Int32.toBitVec_inj.mp; show - -(nI v0).toBitVec = (nI v0).toBitVec; simp, Int32.lt_iff_toInt_lt, nI_toInt (by have := hv.2.1; omega), Int32.toInt_zero]; have := hv.1; omega)
      refine lv_iload_n hx hb dX4_row_8 rfl (lv_at hl 1 rfl) ?_
      refine lv_ineg hx hb dX4_row_9 ?_
      refine lv_goto (tgt := 14) hx hb dX4_row_10 (by decide) ?_
      refine ks_top (y := nI v0) (ep) ?_
      refine lv_isub hx hb dX4_row_14 ?_
      refine ks_top (y := nI (N - v0)) (pk_sub hv.2.1) ?_
      refine lv_istore_n (lv' := [(3, .int (nI (N - v0))), (0, .ref xm), (1, .int x0), (2, .int (nI w0))]) hx hb dX4_row_15 rfl hl (by decide) rfl (fun ls hl => ?_)
      exact hj (N - v0) _ _ _ ⟨rfl, hP, hD, hS, lv_sub hl [2, 3, 0] rfl⟩
end
section
set_option maxHeartbeats 4000000 in
set_option maxRecDepth 100000 in
/-- the reference: clear -/
theorem km_clear (l : Launch) (dC : Nat → ClassId) (dI : Nat → Nat → Nat) (xm m1 m2 m3 m4 m5 wd : Nat) (c1 : ClassId) (N : Nat) (th km kc kl ac : Int32) (A0 : Nat → Int64) (hN : N ≤ 16) (hwd : wd = ks_wd N) : ks_Mv l yX4_clear wsX4_clear ({ frames := 0, cells := 0, slots := 0, locals := 0 }) (dC, dI) [.ref xm] [(xm, .inr (4, [.int th, .int (nI N), .int (nI wd), .ref m1, .ref m2, .ref m3, .ref m4, .ref m5, .int km, .int kc, .int kl, .int ac])), (m1, .inl (c1, 1024, .inr (.inl A0)))] [(c1, .long)] 0 0 (S := (Nat → Int64)) (fun u => ks_TT N u (fun _ => True)) (fun u => [(xm, .inr (4, [.int th, .int (nI N), .int (nI wd), .ref m1, .ref m2, .ref m3, .ref m4, .ref m5, .int (nI 0), .int (nI 0), .int (nI 0), .int (nI 0)])), (m1, .inl (c1, 1024, .inr (.inl u)))]) (fun u => [(c1, .long)]) := by
  intro sz
  refine Met.ofW (cc := cX4_clear) (maxL := 2) (ret := none) (by decide) rfl ?_
  intro p e s m args below meth c s₁ B9 hml hv
  obtain ⟨rfl, hsz, hP, hK, hD0, hNW⟩ := hv
  have hx := B9.exec
  have hb := B9.bytes
  have hr := B9.returns
  have hts := atoms_spec (ws := wsX4_clear) B9.pre
  have hown : s.vm.findClass RX4 = some m.cls := findClass_of_methodNamed B9.named
  have hlocks := B9.notSynchronized
  subst hsz
  have hD := hD0.self (sz := s.heap.size)
  generalize hAe : va_A [(xm, .inr (4, [.int th, .int (nI N), .int (nI wd), .ref m1, .ref m2, .ref m3, .ref m4, .ref m5, .int km, .int kc, .int kl, .int ac])), (m1, .inl (c1, 1024, .inr (.inl A0)))] s.heap.size = A at hD ⊢
  have hA : ∀ q : Nat, s.heap.size ≤ q → A q := fun q h => by rw [← hAe]; exact Or.inr h
  have hS : va_S A s.heap s.heap [] := va_S.rf
  have hiX4 : ∀ w ∈ u_ws RX4 TM 12, w ∈ wsX4_clear := by decide +kernel
  have f7 := hts (.fieldLink RX4 7 "LessonSolverModel" "all" "[J") (by decide +kernel)
  have f26 := hts (.fieldLink RX4 26 "LessonSolverModel" "n" "I") (by decide +kernel)
  have f30 := hts (.fieldLink RX4 30 "LessonSolverModel" "words" "I") (by decide +kernel)
  have f41 := hts (.fieldLink RX4 41 "LessonSolverModel" "made" "I") (by decide +kernel)
  have f44 := hts (.fieldLink RX4 44 "LessonSolverModel" "clauses" "I") (by decide +kernel)
  have f47 := hts (.fieldLink RX4 47 "LessonSolverModel" "literals" "I") (by decide +kernel)
  have f50 := hts (.fieldLink RX4 50 "LessonSolverModel" "assumptions" "I") (by decide +kernel)
  have k39 := hts (.constantLong RX4 39 (-1)) (by decide +kernel)
  have hl := lv_entry ([.ref xm]) (n := 2) (Nat.le_of_ble_eq_true rfl)
  rw [lg_entry_eq]
  generalize (lg_sl ([.ref xm]) ++ List.replicate (2 - (lg_sl ([.ref xm])).length) Slot.unset).toArray = ls at hl ⊢
  have hl : lv_has ls 2 [(0, .ref xm)] := hl
  have hwl : 1 ≤ wd ∧ wd ≤ 1024 := by rw [hwd]; exact ks_wd_le N hN
  refine lv_iconst (v := nI 0) hx hb dX4_clear_0 (by decide) ?_
  refine lv_istore_n (lv' := [(1, .int (nI 0)), (0, .ref xm)]) hx hb dX4_clear_1 rfl hl (by decide) rfl (fun ls hl => ?_)
  refine ks_wl (σ := Nat × (Nat → Int64)) (fun n x H locs ls => (x.1 ≤ wd) ∧ (n + x.1 = wd + 1) ∧ (ks_TL N x.2 (fun _ => True) x.1) ∧ va_P (dC, dI) ksCl [(xm, .inr (4, [.int th, .int (nI N), .int (nI wd), .ref m1, .ref m2, .ref m3, .ref m4, .ref m5, .int km, .int kc, .int kl, .int ac])), (m1, .inl (c1, 1024, .inr (.inl x.2)))] H ∧ va_D A [(xm, .inr (4, [.int th, .int (nI N), .int (nI wd), .ref m1, .ref m2, .ref m3, .ref m4, .ref m5, .int km, .int kc, .int kl, .int ac])), (m1, .inl (c1, 1024, .inr (.inl x.2)))] ∧ va_S A s.heap H locs ∧ lv_has ls 2 [(0, .ref xm), (1, .int (nI x.1))]) 2 ?_ ?_ (wd + 1) (0, A0) _ _ ls ⟨Nat.zero_le _, rfl, fun i hi => absurd hi (Nat.not_lt_zero i), hP, hD, hS, lv_sub hl [1, 0] rfl⟩
  · -- loop at 2
    intro n x H locs ls h9 ih
    obtain ⟨w, A1⟩ := x
    obtain ⟨i1, i2, i3, hP, hD, hS, hl⟩ := h9
    have i1 : w ≤ wd := i1
    have i2 : (n + 1) + w = wd + 1 := i2
    have i3 : ks_TL N A1 (fun _ => True) w := i3
    have hP : va_P (dC, dI) ksCl [(xm, .inr (4, [.int th, .int (nI N), .int (nI wd), .ref m1, .ref m2, .ref m3, .ref m4, .ref m5, .int km, .int kc, .int kl, .int ac])), (m1, .inl (c1, 1024, .inr (.inl A1)))] H := hP
    have hD : va_D A [(xm, .inr (4, [.int th, .int (nI N), .int (nI wd), .ref m1, .ref m2, .ref m3, .ref m4, .ref m5, .int km, .int kc, .int kl, .int ac])), (m1, .inl (c1, 1024, .inr (.inl A1)))] := hD
    have hl : lv_has ls 2 [(0, .ref xm), (1, .int (nI w))] := hl
    refine lv_iload_n hx hb dX4_clear_2 rfl (lv_at hl 1 rfl) ?_
    refine lv_aload_n hx hb dX4_clear_3 rfl (lv_at hl 0 rfl) ?_
    refine va_get (D := (dC, dI)) (ci := 4) (v := .int (nI wd)) (C := RX4) (T := TM) (N := 12) hx hb hts hiX4 hown hK hP 0 rfl rfl 2 (by decide) f30 (fun _ h9 => h9) rfl dX4_clear_4 ?_
    refine lv_icmp_ge (tgt := 47) hx hb dX4_clear_7 (by decide) (fun c7 => ?_) (fun c7 => ?_)
    · -- 7: jumps
      have hw : wd ≤ w := by
        rcases Nat.lt_or_ge w wd with q | q
        · exact absurd c7 (nI_ge q (by omega))
        · exact q
      have ew : w = ks_wd N := by omega
      rw [ew] at i3
      refine lv_aload_n hx hb dX4_clear_47 rfl (lv_at hl 0 rfl) ?_
      refine lv_iconst (v := nI 0) hx hb dX4_clear_48 (by decide) ?_
      refine va_put (D := (dC, dI)) (ci := 4) (v := .int (nI 0)) (ty := .int) (C := RX4) (T := TM) (N := 12) hx hb hts hiX4 tyM tyM_ok nmM hown hK hP hD hS 0 rfl rfl 8 (by decide) f41 (fun _ h9 => h9) rfl (by decide +kernel) rfl rfl (Nat.le_of_ble_eq_true rfl) dX4_clear_49 (fun H locs hP hD hS => ?_)
      have hP : va_P (dC, dI) ksCl [(xm, .inr (4, [.int th, .int (nI N), .int (nI wd), .ref m1, .ref m2, .ref m3, .ref m4, .ref m5, .int (nI 0), .int kc, .int kl, .int ac])), (m1, .inl (c1, 1024, .inr (.inl A1)))] H := hP
      have hD : va_D A [(xm, .inr (4, [.int th, .int (nI N), .int (nI wd), .ref m1, .ref m2, .ref m3, .ref m4, .ref m5, .int (nI 0), .int kc, .int kl, .int ac])), (m1, .inl (c1, 1024, .inr (.inl A1)))] := hD
      refine lv_aload_n hx hb dX4_clear_52 rfl (lv_at hl 0 rfl) ?_
      refine lv_iconst (v := nI 0) hx hb dX4_clear_53 (by decide) ?_
      refine va_put (D := (dC, dI)) (ci := 4) (v := .int (nI 0)) (ty := .int) (C := RX4) (T := TM) (N := 12) hx hb hts hiX4 tyM tyM_ok nmM hown hK hP hD hS 0 rfl rfl 9 (by decide) f44 (fun _ h9 => h9) rfl (by decide +kernel) rfl rfl (Nat.le_of_ble_eq_true rfl) dX4_clear_54 (fun H locs hP hD hS => ?_)
      have hP : va_P (dC, dI) ksCl [(xm, .inr (4, [.int th, .int (nI N), .int (nI wd), .ref m1, .ref m2, .ref m3, .ref m4, .ref m5, .int (nI 0), .int (nI 0), .int kl, .int ac])), (m1, .inl (c1, 1024, .inr (.inl A1)))] H := hP
      have hD : va_D A [(xm, .inr (4, [.int th, .int (nI N), .int (nI wd), .ref m1, .ref m2, .ref m3, .ref m4, .ref m5, .int (nI 0), .int (nI 0), .int kl, .int ac])), (m1, .inl (c1, 1024, .inr (.inl A1)))] := hD
      refine lv_aload_n hx hb dX4_clear_57 rfl (lv_at hl 0 rfl) ?_
      refine lv_iconst (v := nI 0) hx hb dX4_clear_58 (by decide) ?_
      refine va_put (D := (dC, dI)) (ci := 4) (v := .int (nI 0)) (ty := .int) (C := RX4) (T := TM) (N := 12) hx hb hts hiX4 tyM tyM_ok nmM hown hK hP hD hS 0 rfl rfl 10 (by decide) f47 (fun _ h9 => h9) rfl (by decide +kernel) rfl rfl (Nat.le_of_ble_eq_true rfl) dX4_clear_59 (fun H locs hP hD hS => ?_)
      have hP : va_P (dC, dI) ksCl [(xm, .inr (4, [.int th, .int (nI N), .int (nI wd), .ref m1, .ref m2, .ref m3, .ref m4, .ref m5, .int (nI 0), .int (nI 0), .int (nI 0), .int ac])), (m1, .inl (c1, 1024, .inr (.inl A1)))] H := hP
      have hD : va_D A [(xm, .inr (4, [.int th, .int (nI N), .int (nI wd), .ref m1, .ref m2, .ref m3, .ref m4, .ref m5, .int (nI 0), .int (nI 0), .int (nI 0), .int ac])), (m1, .inl (c1, 1024, .inr (.inl A1)))] := hD
      refine lv_aload_n hx hb dX4_clear_62 rfl (lv_at hl 0 rfl) ?_
      refine lv_iconst (v := nI 0) hx hb dX4_clear_63 (by decide) ?_
      refine va_put (D := (dC, dI)) (ci := 4) (v := .int (nI 0)) (ty := .int) (C := RX4) (T := TM) (N := 12) hx hb hts hiX4 tyM tyM_ok nmM hown hK hP hD hS 0 rfl rfl 11 (by decide) f50 (fun _ h9 => h9) rfl (by decide +kernel) rfl rfl (Nat.le_of_ble_eq_true rfl) dX4_clear_64 (fun H locs hP hD hS => ?_)
      have hP : va_P (dC, dI) ksCl [(xm, .inr (4, [.int th, .int (nI N), .int (nI wd), .ref m1, .ref m2, .ref m3, .ref m4, .ref m5, .int (nI 0), .int (nI 0), .int (nI 0), .int (nI 0)])), (m1, .inl (c1, 1024, .inr (.inl A1)))] H := hP
      have hD : va_D A [(xm, .inr (4, [.int th, .int (nI N), .int (nI wd), .ref m1, .ref m2, .ref m3, .ref m4, .ref m5, .int (nI 0), .int (nI 0), .int (nI 0), .int (nI 0)])), (m1, .inl (c1, 1024, .inr (.inl A1)))] := hD
      have hP9 : va_P (dC, dI) ksCl [(xm, .inr (4, [.int th, .int (nI N), .int (nI wd), .ref m1, .ref m2, .ref m3, .ref m4, .ref m5, .int (nI 0), .int (nI 0), .int (nI 0), .int (nI 0)])), (m1, .inl (c1, 1024, .inr (.inl A1)))] _ := hP
      have hD9 : va_D A [(xm, .inr (4, [.int th, .int (nI N), .int (nI wd), .ref m1, .ref m2, .ref m3, .ref m4, .ref m5, .int (nI 0), .int (nI 0), .int (nI 0), .int (nI 0)])), (m1, .inl (c1, 1024, .inr (.inl A1)))] := hD
      have hK9 : va_K (dC, dI) ksCl [(c1, .long)] s := hK
      exact W.vret hx hb hr (fun t ht hW9 => ⟨⟨A1, rfl, i3, by rw [ht]; exact hP9, va_K.moved hW9.alike hK9, hD9⟩, hS.F ht⟩) hS.2.2 dX4_clear_67
    · -- 7: goes on
      have hw : w < wd := by
        rcases Nat.lt_or_ge w wd with q | q
        · exact q
        · exact absurd (nI_le q (by omega)) c7
      refine lv_aload_n hx hb dX4_clear_10 rfl (lv_at hl 0 rfl) ?_
      refine va_get (D := (dC, dI)) (ci := 4) (v := .ref m1) (C := RX4) (T := TM) (N := 12) hx hb hts hiX4 hown hK hP 0 rfl rfl 3 (by decide) f7 (fun _ h9 => h9) rfl dX4_clear_11 ?_
      refine lv_iload_n hx hb dX4_clear_14 rfl (lv_at hl 1 rfl) ?_
      refine lv_aload_n hx hb dX4_clear_15 rfl (lv_at hl 0 rfl) ?_
      refine va_get (D := (dC, dI)) (ci := 4) (v := .int (nI N)) (C := RX4) (T := TM) (N := 12) hx hb hts hiX4 hown hK hP 0 rfl rfl 1 (by decide) f26 (fun _ h9 => h9) rfl dX4_clear_16 ?_
      refine lv_bipush (v := nI 6) hx hb dX4_clear_19 (by decide) ?_
      refine lv_icmp_ge (tgt := 37) hx hb dX4_clear_21 (by decide) (fun c21 => ?_) (fun c21 => ?_)
      · -- 21: jumps
        have h6 : 6 ≤ N := by
          rcases Nat.lt_or_ge N 6 with q | q
          · exact absurd c21 (nI_ge q (by decide))
          · exact q
        have j3 := i3.hi hN h6 (by rw [← hwd]; exact hw)
        refine lv_ldc2 (v := (-1)) hx hb hown k39 dX4_clear_37 ?_
        refine ks_last hx hb hK hP hD hS 1 0 rfl rfl (j := w) (by omega) (by decide) dX4_clear_40 (fun H locs hP hD hS => ?_)
        have hP : va_P (dC, dI) ksCl [(xm, .inr (4, [.int th, .int (nI N), .int (nI wd), .ref m1, .ref m2, .ref m3, .ref m4, .ref m5, .int km, .int kc, .int kl, .int ac])), (m1, .inl (c1, 1024, .inr (.inl (vp_updL A1 w (-1)))))] H := hP
        have hD : va_D A [(xm, .inr (4, [.int th, .int (nI N), .int (nI wd), .ref m1, .ref m2, .ref m3, .ref m4, .ref m5, .int km, .int kc, .int kl, .int ac])), (m1, .inl (c1, 1024, .inr (.inl (vp_updL A1 w (-1)))))] := hD
        refine lv_iinc (v := nI (w + 1)) (lv' := [(1, .int (nI (w + 1))), (0, .ref xm)]) hx hb dX4_clear_41 hl (k := 1) rfl (nI_1 _) (by decide) rfl (fun ls hl => ?_)
        refine lv_goto (tgt := 2) hx hb dX4_clear_44 (by decide) ?_
        exact ih (w + 1, vp_updL A1 w (-1)) _ _ _ ⟨hw, by omega, j3, hP, hD, hS, lv_sub hl [1, 0] rfl⟩
      · -- 21: goes on
        have h6 : N < 6 := by
          rcases Nat.lt_or_ge N 6 with q | q
          · exact q
          · exact absurd (nI_le q (by omega)) c21
        have j3 := i3.lo h6 (by rw [← hwd]; exact hw)
        refine lv_lconst (v := 1) hx hb dX4_clear_24 (by decide) ?_
        refine lv_iconst (v := 1) hx hb dX4_clear_25 (by decide) ?_
        refine lv_aload_n hx hb dX4_clear_26 rfl (lv_at hl 0 rfl) ?_
        refine va_get (D := (dC, dI)) (ci := 4) (v := .int (nI N)) (C := RX4) (T := TM) (N := 12) hx hb hts hiX4 hown hK hP 0 rfl rfl 1 (by decide) f26 (fun _ h9 => h9) rfl dX4_clear_27 ?_
        refine lv_ishl hx hb dX4_clear_30 ?_
        refine lv_lshl hx hb dX4_clear_31 rfl ?_
        refine lv_lconst (v := 1) hx hb dX4_clear_32 (by decide) ?_
        refine lv_lsub hx hb dX4_clear_33 ?_
        refine ks_topl (y := ks_cN N) (rfl) ?_
        refine lv_goto (tgt := 40) hx hb dX4_clear_34 (by decide) ?_
        refine ks_last hx hb hK hP hD hS 1 0 rfl rfl (j := w) (by omega) (by decide) dX4_clear_40 (fun H locs hP hD hS => ?_)
        have hP : va_P (dC, dI) ksCl [(xm, .inr (4, [.int th, .int (nI N), .int (nI wd), .ref m1, .ref m2, .ref m3, .ref m4, .ref m5, .int km, .int kc, .int kl, .int ac])), (m1, .inl (c1, 1024, .inr (.inl (vp_updL A1 w (ks_cN N)))))] H := hP
        have hD : va_D A [(xm, .inr (4, [.int th, .int (nI N), .int (nI wd), .ref m1, .ref m2, .ref m3, .ref m4, .ref m5, .int km, .int kc, .int kl, .int ac])), (m1, .inl (c1, 1024, .inr (.inl (vp_updL A1 w (ks_cN N)))))] := hD
        refine lv_iinc (v := nI (w + 1)) (lv' := [(1, .int (nI (w + 1))), (0, .ref xm)]) hx hb dX4_clear_41 hl (k := 1) rfl (nI_1 _) (by decide) rfl (fun ls hl => ?_)
        refine lv_goto (tgt := 2) hx hb dX4_clear_44 (by decide) ?_
        exact ih (w + 1, vp_updL A1 w (ks_cN N)) _ _ _ ⟨hw, by omega, j3, hP, hD, hS, lv_sub hl [1, 0] rfl⟩
  · intro x H locs ls h9
    obtain ⟨i1, i2, i3, -, -, -, -⟩ := h9
    try dsimp only at i1 i2
    omega
end
section
set_option maxHeartbeats 4000000 in
set_option maxRecDepth 100000 in
/-- the reference: add -/
theorem km_add (l : Launch) (dC : Nat → ClassId) (dI : Nat → Nat → Nat) (xm m1 m2 m3 m4 m5 wd : Nat) (c4 : ClassId) (N : Nat) (th kc kl ac : Int32) (MK : Nat → Int32) (km : Nat) (x0 : Int32) (hN : N ≤ 16) (hkm : km ≤ 20) : ks_Mi l yX4_add wsX4_add ({ frames := 1, cells := 0, slots := 0, locals := 21 }) (dC, dI) [.ref xm, .int x0] [(xm, .inr (4, [.int th, .int (nI N), .int (nI wd), .ref m1, .ref m2, .ref m3, .ref m4, .ref m5, .int (nI km), .int kc, .int kl, .int ac])), (m4, .inl (c4, 20, .inl MK))] [(c4, .int)] 0 0 (S := (Nat → Int32) × Nat) (fun r u => (r = 0 ∧ ((¬ ∃ v, ks_lit N x0 v) ∨ 20 ≤ km) ∧ u = (MK, km)) ∨ (r = 1 ∧ km < 20 ∧ (∃ v, ks_lit N x0 v) ∧ u = (upd MK km x0, km + 1))) (fun u => [(xm, .inr (4, [.int 0, .int (nI N), .int (nI wd), .ref m1, .ref m2, .ref m3, .ref m4, .ref m5, .int (nI u.2), .int kc, .int kl, .int ac])), (m4, .inl (c4, 20, .inl u.1))]) (fun u => [(c4, .int)]) := by
  intro sz
  refine Met.ofW (cc := cX4_add) (maxL := 2) (ret := (some .boolean)) (by decide) rfl ?_
  intro p e s m args below meth c s₁ B9 hml hv
  obtain ⟨rfl, hsz, hP, hK, hD0, hNW⟩ := hv
  have hx := B9.exec
  have hb := B9.bytes
  have hr := B9.returns
  have hts := atoms_spec (ws := wsX4_add) B9.pre
  have hown : s.vm.findClass RX4 = some m.cls := findClass_of_methodNamed B9.named
  have hlocks := B9.notSynchronized
  subst hsz
  have hD := hD0.self (sz := s.heap.size)
  generalize hAe : va_A [(xm, .inr (4, [.int th, .int (nI N), .int (nI wd), .ref m1, .ref m2, .ref m3, .ref m4, .ref m5, .int (nI km), .int kc, .int kl, .int ac])), (m4, .inl (c4, 20, .inl MK))] s.heap.size = A at hD ⊢
  have hA : ∀ q : Nat, s.heap.size ≤ q → A q := fun q h => by rw [← hAe]; exact Or.inr h
  have hS : va_S A s.heap s.heap [] := va_S.rf
  have hiX4 : ∀ w ∈ u_ws RX4 TM 12, w ∈ wsX4_add := by decide +kernel
  have f19 := hts (.fieldLink RX4 19 "LessonSolverModel" "making" "[I") (by decide +kernel)
  have f36 := hts (.fieldLink RX4 36 "LessonSolverModel" "thrown" "I") (by decide +kernel)
  have f41 := hts (.fieldLink RX4 41 "LessonSolverModel" "made" "I") (by decide +kernel)
  have hl := lv_entry ([.ref xm, .int x0]) (n := 2) (Nat.le_of_ble_eq_true rfl)
  rw [lg_entry_eq]
  generalize (lg_sl ([.ref xm, .int x0]) ++ List.replicate (2 - (lg_sl ([.ref xm, .int x0])).length) Slot.unset).toArray = ls at hl ⊢
  have hl : lv_has ls 2 [(0, .ref xm), (1, .int x0)] := hl
  refine lv_aload_n hx hb dX4_add_0 rfl (lv_at hl 0 rfl) ?_
  refine lv_iconst (v := 0) hx hb dX4_add_1 (by decide) ?_
  refine va_put (D := (dC, dI)) (ci := 4) (v := .int 0) (ty := .int) (C := RX4) (T := TM) (N := 12) hx hb hts hiX4 tyM tyM_ok nmM hown hK hP hD hS 0 rfl rfl 0 (by decide) f36 (fun _ h9 => h9) rfl (by decide +kernel) rfl rfl (Nat.le_of_ble_eq_true rfl) dX4_add_2 (fun H locs hP hD hS => ?_)
  have hP : va_P (dC, dI) ksCl [(xm, .inr (4, [.int 0, .int (nI N), .int (nI wd), .ref m1, .ref m2, .ref m3, .ref m4, .ref m5, .int (nI km), .int kc, .int kl, .int ac])), (m4, .inl (c4, 20, .inl MK))] H := hP
  have hD : va_D A [(xm, .inr (4, [.int 0, .int (nI N), .int (nI wd), .ref m1, .ref m2, .ref m3, .ref m4, .ref m5, .int (nI km), .int kc, .int kl, .int ac])), (m4, .inl (c4, 20, .inl MK))] := hD
  refine lv_aload_n hx hb dX4_add_5 rfl (lv_at hl 0 rfl) ?_
  refine lv_iload_n hx hb dX4_add_6 rfl (lv_at hl 1 rfl) ?_
  refine ks_calliV (As := [.int x0]) (rest := []) (wr := [(m4, .inl (c4, 20, .inl MK))]) (wz := fun _ => [(xm, .inr (4, [.int 0, .int (nI N), .int (nI wd), .ref m1, .ref m2, .ref m3, .ref m4, .ref m5, .int (nI km), .int kc, .int kl, .int ac])), (m4, .inl (c4, 20, .inl MK))]) ⟨hx, hb, hml, hown, hts⟩ (km_isLiteral l dC dI xm m1 m2 m3 m4 m5 wd N 0 (nI km) kc kl ac x0 hN) (cwV 1 hts gX4_add_X4_isLiteral rfl rfl rfl (by decide +kernel) ⟨Nat.le_of_ble_eq_true rfl, Nat.le_of_ble_eq_true rfl⟩) hK hP hD hS hA hNW [0] [1] [] [1, 0] rfl rfl rfl rfl (by decide) (by decide) (by decide) (ci := 4) (q0 := 0) rfl rfl rfl (fun _ => rfl) (fun _ => rfl) (by decide) rfl hl.1 rfl (Nat.le_of_ble_eq_true rfl) dX4_add_7 ⟨Nat.le_of_ble_eq_true rfl, Nat.le_of_ble_eq_true rfl⟩ (fun r1 u9 H locs hw9 hK9 hP hD hS => ?_)
  have hw1 := hw9
  have hP : va_P (dC, dI) ksCl [(xm, .inr (4, [.int 0, .int (nI N), .int (nI wd), .ref m1, .ref m2, .ref m3, .ref m4, .ref m5, .int (nI km), .int kc, .int kl, .int ac])), (m4, .inl (c4, 20, .inl MK))] H := hP
  have hD : va_D A [(xm, .inr (4, [.int 0, .int (nI N), .int (nI wd), .ref m1, .ref m2, .ref m3, .ref m4, .ref m5, .int (nI km), .int kc, .int kl, .int ac])), (m4, .inl (c4, 20, .inl MK))] := hD
  refine lv_if_eq (tgt := 22) hx hb dX4_add_10 (by decide) (fun c10 => ?_) (fun c10 => ?_)
  · -- 10: jumps
    have hno : (¬ ∃ v, ks_lit N x0 v) ∨ 20 ≤ km := Or.inl (by
      rcases hw1 with q | q
      · exact absurd (q.1.symm.trans c10) (by decide)
      · exact q.2)
    refine lv_iconst (v := 0) hx hb dX4_add_22 (by decide) ?_
    have hP9 : va_P (dC, dI) ksCl [(xm, .inr (4, [.int 0, .int (nI N), .int (nI wd), .ref m1, .ref m2, .ref m3, .ref m4, .ref m5, .int (nI km), .int kc, .int kl, .int ac])), (m4, .inl (c4, 20, .inl MK))] _ := hP
    have hD9 : va_D A [(xm, .inr (4, [.int 0, .int (nI N), .int (nI wd), .ref m1, .ref m2, .ref m3, .ref m4, .ref m5, .int (nI km), .int kc, .int kl, .int ac])), (m4, .inl (c4, 20, .inl MK))] := hD
    have hK9 : va_K (dC, dI) ksCl [(c4, .int)] s := hK
    exact W.zret (v := 0) (ty := .boolean) hx hb hr (by decide) (fun t ht hW9 => ⟨⟨0, (MK, km), rfl, Or.inl ⟨rfl, hno, rfl⟩, by rw [ht]; exact hP9, va_K.moved hW9.alike hK9, hD9⟩, hS.F ht⟩) hS.2.2 dX4_add_23
  · -- 10: goes on
    have hv : ∃ v, ks_lit N x0 v := by
      rcases hw1 with q | q
      · exact q.2
      · exact absurd q.1 c10
    refine lv_aload_n hx hb dX4_add_13 rfl (lv_at hl 0 rfl) ?_
    refine va_get (D := (dC, dI)) (ci := 4) (v := .int (nI km)) (C := RX4) (T := TM) (N := 12) hx hb hts hiX4 hown hK hP 0 rfl rfl 8 (by decide) f41 (fun _ h9 => h9) rfl dX4_add_14 ?_
    refine lv_bipush (v := nI 20) hx hb dX4_add_17 (by decide) ?_
    refine lv_icmp_ne (tgt := 24) hx hb dX4_add_19 (by decide) (fun c19 => ?_) (fun c19 => ?_)
    · -- 19: jumps
      have h20 : km < 20 := by
        rcases Nat.lt_or_ge km 20 with q | q
        · exact q
        · exact absurd (by rw [show km = 20 by omega]) c19
      refine lv_aload_n hx hb dX4_add_24 rfl (lv_at hl 0 rfl) ?_
      refine va_get (D := (dC, dI)) (ci := 4) (v := .ref m4) (C := RX4) (T := TM) (N := 12) hx hb hts hiX4 hown hK hP 0 rfl rfl 6 (by decide) f19 (fun _ h9 => h9) rfl dX4_add_25 ?_
      refine lv_aload_n hx hb dX4_add_28 rfl (lv_at hl 0 rfl) ?_
      refine va_get (D := (dC, dI)) (ci := 4) (v := .int (nI km)) (C := RX4) (T := TM) (N := 12) hx hb hts hiX4 hown hK hP 0 rfl rfl 8 (by decide) f41 (fun _ h9 => h9) rfl dX4_add_29 ?_
      refine lv_iload_n hx hb dX4_add_32 rfl (lv_at hl 1 rfl) ?_
      refine ks_ast hx hb hK hP hD hS 1 0 rfl rfl (j := km) (by omega) (by decide) dX4_add_33 (fun H locs hP hD hS => ?_)
      have hP : va_P (dC, dI) ksCl [(xm, .inr (4, [.int 0, .int (nI N), .int (nI wd), .ref m1, .ref m2, .ref m3, .ref m4, .ref m5, .int (nI km), .int kc, .int kl, .int ac])), (m4, .inl (c4, 20, .inl (upd MK km x0)))] H := hP
      have hD : va_D A [(xm, .inr (4, [.int 0, .int (nI N), .int (nI wd), .ref m1, .ref m2, .ref m3, .ref m4, .ref m5, .int (nI km), .int kc, .int kl, .int ac])), (m4, .inl (c4, 20, .inl (upd MK km x0)))] := hD
      refine lv_aload_n hx hb dX4_add_34 rfl (lv_at hl 0 rfl) ?_
      refine lv_dup hx hb dX4_add_35 rfl ?_
      refine va_get (D := (dC, dI)) (ci := 4) (v := .int (nI km)) (C := RX4) (T := TM) (N := 12) hx hb hts hiX4 hown hK hP 0 rfl rfl 8 (by decide) f41 (fun _ h9 => h9) rfl dX4_add_36 ?_
      refine lv_iconst (v := 1) hx hb dX4_add_39 (by decide) ?_
      refine lv_iadd hx hb dX4_add_40 ?_
      refine ks_top (y := nI (km + 1)) (nI_1 km) ?_
      refine va_put (D := (dC, dI)) (ci := 4) (v := .int (nI (km + 1))) (ty := .int) (C := RX4) (T := TM) (N := 12) hx hb hts hiX4 tyM tyM_ok nmM hown hK hP hD hS 0 rfl rfl 8 (by decide) f41 (fun _ h9 => h9) rfl (by decide +kernel) rfl rfl (Nat.le_of_ble_eq_true rfl) dX4_add_41 (fun H locs hP hD hS => ?_)
      have hP : va_P (dC, dI) ksCl [(xm, .inr (4, [.int 0, .int (nI N), .int (nI wd), .ref m1, .ref m2, .ref m3, .ref m4, .ref m5, .int (nI (km + 1)), .int kc, .int kl, .int ac])), (m4, .inl (c4, 20, .inl (upd MK km x0)))] H := hP
      have hD : va_D A [(xm, .inr (4, [.int 0, .int (nI N), .int (nI wd), .ref m1, .ref m2, .ref m3, .ref m4, .ref m5, .int (nI (km + 1)), .int kc, .int kl, .int ac])), (m4, .inl (c4, 20, .inl (upd MK km x0)))] := hD
      refine lv_iconst (v := 1) hx hb dX4_add_44 (by decide) ?_
      have hP9 : va_P (dC, dI) ksCl [(xm, .inr (4, [.int 0, .int (nI N), .int (nI wd), .ref m1, .ref m2, .ref m3, .ref m4, .ref m5, .int (nI (km + 1)), .int kc, .int kl, .int ac])), (m4, .inl (c4, 20, .inl (upd MK km x0)))] _ := hP
      have hD9 : va_D A [(xm, .inr (4, [.int 0, .int (nI N), .int (nI wd), .ref m1, .ref m2, .ref m3, .ref m4, .ref m5, .int (nI (km + 1)), .int kc, .int kl, .int ac])), (m4, .inl (c4, 20, .inl (upd MK km x0)))] := hD
      have hK9 : va_K (dC, dI) ksCl [(c4, .int)] s := hK
      exact W.zret (v := 1) (ty := .boolean) hx hb hr (by decide) (fun t ht hW9 => ⟨⟨1, (upd MK km x0, km + 1), rfl, Or.inr ⟨rfl, h20, hv, rfl⟩, by rw [ht]; exact hP9, va_K.moved hW9.alike hK9, hD9⟩, hS.F ht⟩) hS.2.2 dX4_add_45
    · -- 19: goes on
      have hno : (¬ ∃ v, ks_lit N x0 v) ∨ 20 ≤ km := Or.inr (by
        have := (nI_eq (by omega) (by decide)).mp c19
        omega)
      refine lv_iconst (v := 0) hx hb dX4_add_22 (by decide) ?_
      have hP9 : va_P (dC, dI) ksCl [(xm, .inr (4, [.int 0, .int (nI N), .int (nI wd), .ref m1, .ref m2, .ref m3, .ref m4, .ref m5, .int (nI km), .int kc, .int kl, .int ac])), (m4, .inl (c4, 20, .inl MK))] _ := hP
      have hD9 : va_D A [(xm, .inr (4, [.int 0, .int (nI N), .int (nI wd), .ref m1, .ref m2, .ref m3, .ref m4, .ref m5, .int (nI km), .int kc, .int kl, .int ac])), (m4, .inl (c4, 20, .inl MK))] := hD
      have hK9 : va_K (dC, dI) ksCl [(c4, .int)] s := hK
      exact W.zret (v := 0) (ty := .boolean) hx hb hr (by decide) (fun t ht hW9 => ⟨⟨0, (MK, km), rfl, Or.inl ⟨rfl, hno, rfl⟩, by rw [ht]; exact hP9, va_K.moved hW9.alike hK9, hD9⟩, hS.F ht⟩) hS.2.2 dX4_add_23
end
section
set_option maxHeartbeats 4000000 in
set_option maxRecDepth 100000 in
/-- the reference: assume -/
theorem km_assume (l : Launch) (dC : Nat → ClassId) (dI : Nat → Nat → Nat) (xm m1 m2 m3 m4 m5 wd : Nat) (c5 : ClassId) (N : Nat) (th km kc kl : Int32) (AS : Nat → Int32) (ac : Nat) (x0 : Int32) (hN : N ≤ 16) (hac : ac ≤ 40) : ks_Mi l yX4_assume wsX4_assume ({ frames := 1, cells := 0, slots := 0, locals := 21 }) (dC, dI) [.ref xm, .int x0] [(xm, .inr (4, [.int th, .int (nI N), .int (nI wd), .ref m1, .ref m2, .ref m3, .ref m4, .ref m5, .int km, .int kc, .int kl, .int (nI ac)])), (m5, .inl (c5, 40, .inl AS))] [(c5, .int)] 0 0 (S := (Nat → Int32) × Nat) (fun r u => (r = -1 ∧ ((¬ ∃ v, ks_lit N x0 v) ∨ 40 ≤ ac) ∧ u = (AS, ac)) ∨ (r = nI (ac + 1) ∧ ac < 40 ∧ (∃ v, ks_lit N x0 v) ∧ u = (upd AS ac x0, ac + 1))) (fun u => [(xm, .inr (4, [.int 0, .int (nI N), .int (nI wd), .ref m1, .ref m2, .ref m3, .ref m4, .ref m5, .int km, .int kc, .int kl, .int (nI u.2)])), (m5, .inl (c5, 40, .inl u.1))]) (fun u => [(c5, .int)]) := by
  intro sz
  refine Met.ofW (cc := cX4_assume) (maxL := 2) (ret := (some .int)) (by decide) rfl ?_
  intro p e s m args below meth c s₁ B9 hml hv
  obtain ⟨rfl, hsz, hP, hK, hD0, hNW⟩ := hv
  have hx := B9.exec
  have hb := B9.bytes
  have hr := B9.returns
  have hts := atoms_spec (ws := wsX4_assume) B9.pre
  have hown : s.vm.findClass RX4 = some m.cls := findClass_of_methodNamed B9.named
  have hlocks := B9.notSynchronized
  subst hsz
  have hD := hD0.self (sz := s.heap.size)
  generalize hAe : va_A [(xm, .inr (4, [.int th, .int (nI N), .int (nI wd), .ref m1, .ref m2, .ref m3, .ref m4, .ref m5, .int km, .int kc, .int kl, .int (nI ac)])), (m5, .inl (c5, 40, .inl AS))] s.heap.size = A at hD ⊢
  have hA : ∀ q : Nat, s.heap.size ≤ q → A q := fun q h => by rw [← hAe]; exact Or.inr h
  have hS : va_S A s.heap s.heap [] := va_S.rf
  have hiX4 : ∀ w ∈ u_ws RX4 TM 12, w ∈ wsX4_assume := by decide +kernel
  have f23 := hts (.fieldLink RX4 23 "LessonSolverModel" "assumed" "[I") (by decide +kernel)
  have f36 := hts (.fieldLink RX4 36 "LessonSolverModel" "thrown" "I") (by decide +kernel)
  have f50 := hts (.fieldLink RX4 50 "LessonSolverModel" "assumptions" "I") (by decide +kernel)
  have hl := lv_entry ([.ref xm, .int x0]) (n := 2) (Nat.le_of_ble_eq_true rfl)
  rw [lg_entry_eq]
  generalize (lg_sl ([.ref xm, .int x0]) ++ List.replicate (2 - (lg_sl ([.ref xm, .int x0])).length) Slot.unset).toArray = ls at hl ⊢
  have hl : lv_has ls 2 [(0, .ref xm), (1, .int x0)] := hl
  refine lv_aload_n hx hb dX4_assume_0 rfl (lv_at hl 0 rfl) ?_
  refine lv_iconst (v := 0) hx hb dX4_assume_1 (by decide) ?_
  refine va_put (D := (dC, dI)) (ci := 4) (v := .int 0) (ty := .int) (C := RX4) (T := TM) (N := 12) hx hb hts hiX4 tyM tyM_ok nmM hown hK hP hD hS 0 rfl rfl 0 (by decide) f36 (fun _ h9 => h9) rfl (by decide +kernel) rfl rfl (Nat.le_of_ble_eq_true rfl) dX4_assume_2 (fun H locs hP hD hS => ?_)
  have hP : va_P (dC, dI) ksCl [(xm, .inr (4, [.int 0, .int (nI N), .int (nI wd), .ref m1, .ref m2, .ref m3, .ref m4, .ref m5, .int km, .int kc, .int kl, .int (nI ac)])), (m5, .inl (c5, 40, .inl AS))] H := hP
  have hD : va_D A [(xm, .inr (4, [.int 0, .int (nI N), .int (nI wd), .ref m1, .ref m2, .ref m3, .ref m4, .ref m5, .int km, .int kc, .int kl, .int (nI ac)])), (m5, .inl (c5, 40, .inl AS))] := hD
  refine lv_aload_n hx hb dX4_assume_5 rfl (lv_at hl 0 rfl) ?_
  refine lv_iload_n hx hb dX4_assume_6 rfl (lv_at hl 1 rfl) ?_
  refine ks_calliV (As := [.int x0]) (rest := []) (wr := [(m5, .inl (c5, 40, .inl AS))]) (wz := fun _ => [(xm, .inr (4, [.int 0, .int (nI N), .int (nI wd), .ref m1, .ref m2, .ref m3, .ref m4, .ref m5, .int km, .int kc, .int kl, .int (nI ac)])), (m5, .inl (c5, 40, .inl AS))]) ⟨hx, hb, hml, hown, hts⟩ (km_isLiteral l dC dI xm m1 m2 m3 m4 m5 wd N 0 km kc kl (nI ac) x0 hN) (cwV 1 hts gX4_assume_X4_isLiteral rfl rfl rfl (by decide +kernel) ⟨Nat.le_of_ble_eq_true rfl, Nat.le_of_ble_eq_true rfl⟩) hK hP hD hS hA hNW [0] [1] [] [1, 0] rfl rfl rfl rfl (by decide) (by decide) (by decide) (ci := 4) (q0 := 0) rfl rfl rfl (fun _ => rfl) (fun _ => rfl) (by decide) rfl hl.1 rfl (Nat.le_of_ble_eq_true rfl) dX4_assume_7 ⟨Nat.le_of_ble_eq_true rfl, Nat.le_of_ble_eq_true rfl⟩ (fun r1 u9 H locs hw9 hK9 hP hD hS => ?_)
  have hw1 := hw9
  have hP : va_P (dC, dI) ksCl [(xm, .inr (4, [.int 0, .int (nI N), .int (nI wd), .ref m1, .ref m2, .ref m3, .ref m4, .ref m5, .int km, .int kc, .int kl, .int (nI ac)])), (m5, .inl (c5, 40, .inl AS))] H := hP
  have hD : va_D A [(xm, .inr (4, [.int 0, .int (nI N), .int (nI wd), .ref m1, .ref m2, .ref m3, .ref m4, .ref m5, .int km, .int kc, .int kl, .int (nI ac)])), (m5, .inl (c5, 40, .inl AS))] := hD
  refine lv_if_eq (tgt := 22) hx hb dX4_assume_10 (by decide) (fun c10 => ?_) (fun c10 => ?_)
  · -- 10: jumps
    have hno : (¬ ∃ v, ks_lit N x0 v) ∨ 40 ≤ ac := Or.inl (by
      rcases hw1 with q | q
      · exact absurd (q.1.symm.trans c10) (by decide)
      · exact q.2)
    refine lv_iconst (v := -1) hx hb dX4_assume_22 (by decide) ?_
    have hP9 : va_P (dC, dI) ksCl [(xm, .inr (4, [.int 0, .int (nI N), .int (nI wd), .ref m1, .ref m2, .ref m3, .ref m4, .ref m5, .int km, .int kc, .int kl, .int (nI ac)])), (m5, .inl (c5, 40, .inl AS))] _ := hP
    have hD9 : va_D A [(xm, .inr (4, [.int 0, .int (nI N), .int (nI wd), .ref m1, .ref m2, .ref m3, .ref m4, .ref m5, .int km, .int kc, .int kl, .int (nI ac)])), (m5, .inl (c5, 40, .inl AS))] := hD
    have hK9 : va_K (dC, dI) ksCl [(c5, .int)] s := hK
    exact W.iret (v := -1) hx hb hr (fun t ht hW9 => ⟨⟨-1, (AS, ac), rfl, Or.inl ⟨rfl, hno, rfl⟩, by rw [ht]; exact hP9, va_K.moved hW9.alike hK9, hD9⟩, hS.F ht⟩) hS.2.2 dX4_assume_23
  · -- 10: goes on
    have hv : ∃ v, ks_lit N x0 v := by
      rcases hw1 with q | q
      · exact q.2
      · exact absurd q.1 c10
    refine lv_aload_n hx hb dX4_assume_13 rfl (lv_at hl 0 rfl) ?_
    refine va_get (D := (dC, dI)) (ci := 4) (v := .int (nI ac)) (C := RX4) (T := TM) (N := 12) hx hb hts hiX4 hown hK hP 0 rfl rfl 11 (by decide) f50 (fun _ h9 => h9) rfl dX4_assume_14 ?_
    refine lv_bipush (v := nI 40) hx hb dX4_assume_17 (by decide) ?_
    refine lv_icmp_ne (tgt := 24) hx hb dX4_assume_19 (by decide) (fun c19 => ?_) (fun c19 => ?_)
    · -- 19: jumps
      have h40 : ac < 40 := by
        rcases Nat.lt_or_ge ac 40 with q | q
        · exact q
        · exact absurd (by rw [show ac = 40 by omega]) c19
      refine lv_aload_n hx hb dX4_assume_24 rfl (lv_at hl 0 rfl) ?_
      refine va_get (D := (dC, dI)) (ci := 4) (v := .ref m5) (C := RX4) (T := TM) (N := 12) hx hb hts hiX4 hown hK hP 0 rfl rfl 7 (by decide) f23 (fun _ h9 => h9) rfl dX4_assume_25 ?_
      refine lv_aload_n hx hb dX4_assume_28 rfl (lv_at hl 0 rfl) ?_
      refine va_get (D := (dC, dI)) (ci := 4) (v := .int (nI ac)) (C := RX4) (T := TM) (N := 12) hx hb hts hiX4 hown hK hP 0 rfl rfl 11 (by decide) f50 (fun _ h9 => h9) rfl dX4_assume_29 ?_
      refine lv_iload_n hx hb dX4_assume_32 rfl (lv_at hl 1 rfl) ?_
      refine ks_ast hx hb hK hP hD hS 1 0 rfl rfl (j := ac) (by omega) (by decide) dX4_assume_33 (fun H locs hP hD hS => ?_)
      have hP : va_P (dC, dI) ksCl [(xm, .inr (4, [.int 0, .int (nI N), .int (nI wd), .ref m1, .ref m2, .ref m3, .ref m4, .ref m5, .int km, .int kc, .int kl, .int (nI ac)])), (m5, .inl (c5, 40, .inl (upd AS ac x0)))] H := hP
      have hD : va_D A [(xm, .inr (4, [.int 0, .int (nI N), .int (nI wd), .ref m1, .ref m2, .ref m3, .ref m4, .ref m5, .int km, .int kc, .int kl, .int (nI ac)])), (m5, .inl (c5, 40, .inl (upd AS ac x0)))] := hD
      refine lv_aload_n hx hb dX4_assume_34 rfl (lv_at hl 0 rfl) ?_
      refine lv_dup hx hb dX4_assume_35 rfl ?_
      refine va_get (D := (dC, dI)) (ci := 4) (v := .int (nI ac)) (C := RX4) (T := TM) (N := 12) hx hb hts hiX4 hown hK hP 0 rfl rfl 11 (by decide) f50 (fun _ h9 => h9) rfl dX4_assume_36 ?_
      refine lv_iconst (v := 1) hx hb dX4_assume_39 (by decide) ?_
      refine lv_iadd hx hb dX4_assume_40 ?_
      refine ks_top (y := nI (ac + 1)) (nI_1 ac) ?_
      refine va_put (D := (dC, dI)) (ci := 4) (v := .int (nI (ac + 1))) (ty := .int) (C := RX4) (T := TM) (N := 12) hx hb hts hiX4 tyM tyM_ok nmM hown hK hP hD hS 0 rfl rfl 11 (by decide) f50 (fun _ h9 => h9) rfl (by decide +kernel) rfl rfl (Nat.le_of_ble_eq_true rfl) dX4_assume_41 (fun H locs hP hD hS => ?_)
      have hP : va_P (dC, dI) ksCl [(xm, .inr (4, [.int 0, .int (nI N), .int (nI wd), .ref m1, .ref m2, .ref m3, .ref m4, .ref m5, .int km, .int kc, .int kl, .int (nI (ac + 1))])), (m5, .inl (c5, 40, .inl (upd AS ac x0)))] H := hP
      have hD : va_D A [(xm, .inr (4, [.int 0, .int (nI N), .int (nI wd), .ref m1, .ref m2, .ref m3, .ref m4, .ref m5, .int km, .int kc, .int kl, .int (nI (ac + 1))])), (m5, .inl (c5, 40, .inl (upd AS ac x0)))] := hD
      refine lv_aload_n hx hb dX4_assume_44 rfl (lv_at hl 0 rfl) ?_
      refine va_get (D := (dC, dI)) (ci := 4) (v := .int (nI (ac + 1))) (C := RX4) (T := TM) (N := 12) hx hb hts hiX4 hown hK hP 0 rfl rfl 11 (by decide) f50 (fun _ h9 => h9) rfl dX4_assume_45 ?_
      have hP9 : va_P (dC, dI) ksCl [(xm, .inr (4, [.int 0, .int (nI N), .int (nI wd), .ref m1, .ref m2, .ref m3, .ref m4, .ref m5, .int km, .int kc, .int kl, .int (nI (ac + 1))])), (m5, .inl (c5, 40, .inl (upd AS ac x0)))] _ := hP
      have hD9 : va_D A [(xm, .inr (4, [.int 0, .int (nI N), .int (nI wd), .ref m1, .ref m2, .ref m3, .ref m4, .ref m5, .int km, .int kc, .int kl, .int (nI (ac + 1))])), (m5, .inl (c5, 40, .inl (upd AS ac x0)))] := hD
      have hK9 : va_K (dC, dI) ksCl [(c5, .int)] s := hK
      exact W.iret (v := nI (ac + 1)) hx hb hr (fun t ht hW9 => ⟨⟨nI (ac + 1), (upd AS ac x0, ac + 1), rfl, Or.inr ⟨rfl, h40, hv, rfl⟩, by rw [ht]; exact hP9, va_K.moved hW9.alike hK9, hD9⟩, hS.F ht⟩) hS.2.2 dX4_assume_48
    · -- 19: goes on
      have hno : (¬ ∃ v, ks_lit N x0 v) ∨ 40 ≤ ac := Or.inr (by
        have := (nI_eq (by omega) (by decide)).mp c19
        omega)
      refine lv_iconst (v := -1) hx hb dX4_assume_22 (by decide) ?_
      have hP9 : va_P (dC, dI) ksCl [(xm, .inr (4, [.int 0, .int (nI N), .int (nI wd), .ref m1, .ref m2, .ref m3, .ref m4, .ref m5, .int km, .int kc, .int kl, .int (nI ac)])), (m5, .inl (c5, 40, .inl AS))] _ := hP
      have hD9 : va_D A [(xm, .inr (4, [.int 0, .int (nI N), .int (nI wd), .ref m1, .ref m2, .ref m3, .ref m4, .ref m5, .int km, .int kc, .int kl, .int (nI ac)])), (m5, .inl (c5, 40, .inl AS))] := hD
      have hK9 : va_K (dC, dI) ksCl [(c5, .int)] s := hK
      exact W.iret (v := -1) hx hb hr (fun t ht hW9 => ⟨⟨-1, (AS, ac), rfl, Or.inl ⟨rfl, hno, rfl⟩, by rw [ht]; exact hP9, va_K.moved hW9.alike hK9, hD9⟩, hS.F ht⟩) hS.2.2 dX4_assume_23
end
section
set_option maxHeartbeats 4000000 in
set_option maxRecDepth 100000 in
/-- the reference: retract -/
theorem km_retract (l : Launch) (dC : Nat → ClassId) (dI : Nat → Nat → Nat) (xm m1 m2 m3 m4 m5 wd : Nat) (N : Nat) (th km kc kl : Int32) (ac : Nat) (x0 : Int32) (hac : ac ≤ 40) : ks_Mi l yX4_retract wsX4_retract ({ frames := 0, cells := 0, slots := 0, locals := 0 }) (dC, dI) [.ref xm, .int x0] [(xm, .inr (4, [.int th, .int (nI N), .int (nI wd), .ref m1, .ref m2, .ref m3, .ref m4, .ref m5, .int km, .int kc, .int kl, .int (nI ac)]))] [] 0 0 (S := Nat) (fun r u => (r = -1 ∧ (x0 < 0 ∨ nI ac < x0) ∧ u = ac) ∨ (∃ j, x0 = nI j ∧ j ≤ ac ∧ u = ac - j ∧ r = nI (ac - j))) (fun u => [(xm, .inr (4, [.int 0, .int (nI N), .int (nI wd), .ref m1, .ref m2, .ref m3, .ref m4, .ref m5, .int km, .int kc, .int kl, .int (nI u)]))]) (fun u => []) := by
  intro sz
  refine Met.ofW (cc := cX4_retract) (maxL := 2) (ret := (some .int)) (by decide) rfl ?_
  intro p e s m args below meth c s₁ B9 hml hv
  obtain ⟨rfl, hsz, hP, hK, hD0, hNW⟩ := hv
  have hx := B9.exec
  have hb := B9.bytes
  have hr := B9.returns
  have hts := atoms_spec (ws := wsX4_retract) B9.pre
  have hown : s.vm.findClass RX4 = some m.cls := findClass_of_methodNamed B9.named
  have hlocks := B9.notSynchronized
  subst hsz
  have hD := hD0.self (sz := s.heap.size)
  generalize hAe : va_A [(xm, .inr (4, [.int th, .int (nI N), .int (nI wd), .ref m1, .ref m2, .ref m3, .ref m4, .ref m5, .int km, .int kc, .int kl, .int (nI ac)]))] s.heap.size = A at hD ⊢
  have hA : ∀ q : Nat, s.heap.size ≤ q → A q := fun q h => by rw [← hAe]; exact Or.inr h
  have hS : va_S A s.heap s.heap [] := va_S.rf
  have hiX4 : ∀ w ∈ u_ws RX4 TM 12, w ∈ wsX4_retract := by decide +kernel
  have f36 := hts (.fieldLink RX4 36 "LessonSolverModel" "thrown" "I") (by decide +kernel)
  have f50 := hts (.fieldLink RX4 50 "LessonSolverModel" "assumptions" "I") (by decide +kernel)
  have hl := lv_entry ([.ref xm, .int x0]) (n := 2) (Nat.le_of_ble_eq_true rfl)
  rw [lg_entry_eq]
  generalize (lg_sl ([.ref xm, .int x0]) ++ List.replicate (2 - (lg_sl ([.ref xm, .int x0])).length) Slot.unset).toArray = ls at hl ⊢
  have hl : lv_has ls 2 [(0, .ref xm), (1, .int x0)] := hl
  refine lv_aload_n hx hb dX4_retract_0 rfl (lv_at hl 0 rfl) ?_
  refine lv_iconst (v := 0) hx hb dX4_retract_1 (by decide) ?_
  refine va_put (D := (dC, dI)) (ci := 4) (v := .int 0) (ty := .int) (C := RX4) (T := TM) (N := 12) hx hb hts hiX4 tyM tyM_ok nmM hown hK hP hD hS 0 rfl rfl 0 (by decide) f36 (fun _ h9 => h9) rfl (by decide +kernel) rfl rfl (Nat.le_of_ble_eq_true rfl) dX4_retract_2 (fun H locs hP hD hS => ?_)
  have hP : va_P (dC, dI) ksCl [(xm, .inr (4, [.int 0, .int (nI N), .int (nI wd), .ref m1, .ref m2, .ref m3, .ref m4, .ref m5, .int km, .int kc, .int kl, .int (nI ac)]))] H := hP
  have hD : va_D A [(xm, .inr (4, [.int 0, .int (nI N), .int (nI wd), .ref m1, .ref m2, .ref m3, .ref m4, .ref m5, .int km, .int kc, .int kl, .int (nI ac)]))] := hD
  refine lv_iload_n hx hb dX4_retract_5 rfl (lv_at hl 1 rfl) ?_
  refine lv_if_lt (tgt := 17) hx hb dX4_retract_6 (by decide) (fun c6 => ?_) (fun c6 => ?_)
  · -- 6: jumps
    have hno : x0 < 0 ∨ nI ac < x0 := Or.inl c6
    refine lv_iconst (v := -1) hx hb dX4_retract_17 (by decide) ?_
    have hP9 : va_P (dC, dI) ksCl [(xm, .inr (4, [.int 0, .int (nI N), .int (nI wd), .ref m1, .ref m2, .ref m3, .ref m4, .ref m5, .int km, .int kc, .int kl, .int (nI ac)]))] _ := hP
    have hD9 : va_D A [(xm, .inr (4, [.int 0, .int (nI N), .int (nI wd), .ref m1, .ref m2, .ref m3, .ref m4, .ref m5, .int km, .int kc, .int kl, .int (nI ac)]))] := hD
    have hK9 : va_K (dC, dI) ksCl [] s := hK
    exact W.iret (v := -1) hx hb hr (fun t ht hW9 => ⟨⟨-1, ac, rfl, Or.inl ⟨rfl, hno, rfl⟩, by rw [ht]; exact hP9, va_K.moved hW9.alike hK9, hD9⟩, hS.F ht⟩) hS.2.2 dX4_retract_18
  · -- 6: goes on
    obtain ⟨j, hj, ej⟩ := nI_of c6
    subst ej
    refine lv_iload_n hx hb dX4_retract_9 rfl (lv_at hl 1 rfl) ?_
    refine lv_aload_n hx hb dX4_retract_10 rfl (lv_at hl 0 rfl) ?_
    refine va_get (D := (dC, dI)) (ci := 4) (v := .int (nI ac)) (C := RX4) (T := TM) (N := 12) hx hb hts hiX4 hown hK hP 0 rfl rfl 11 (by decide) f50 (fun _ h9 => h9) rfl dX4_retract_11 ?_
    refine lv_icmp_le (tgt := 19) hx hb dX4_retract_14 (by decide) (fun c14 => ?_) (fun c14 => ?_)
    · -- 14: jumps
      have hja : j ≤ ac := (nI_leI hj (by omega)).mp c14
      refine lv_aload_n hx hb dX4_retract_19 rfl (lv_at hl 0 rfl) ?_
      refine lv_dup hx hb dX4_retract_20 rfl ?_
      refine va_get (D := (dC, dI)) (ci := 4) (v := .int (nI ac)) (C := RX4) (T := TM) (N := 12) hx hb hts hiX4 hown hK hP 0 rfl rfl 11 (by decide) f50 (fun _ h9 => h9) rfl dX4_retract_21 ?_
      refine lv_iload_n hx hb dX4_retract_24 rfl (lv_at hl 1 rfl) ?_
      refine lv_isub hx hb dX4_retract_25 ?_
      refine ks_top (y := nI (ac - j)) (pk_sub hja) ?_
      refine va_put (D := (dC, dI)) (ci := 4) (v := .int (nI (ac - j))) (ty := .int) (C := RX4) (T := TM) (N := 12) hx hb hts hiX4 tyM tyM_ok nmM hown hK hP hD hS 0 rfl rfl 11 (by decide) f50 (fun _ h9 => h9) rfl (by decide +kernel) rfl rfl (Nat.le_of_ble_eq_true rfl) dX4_retract_26 (fun H locs hP hD hS => ?_)
      have hP : va_P (dC, dI) ksCl [(xm, .inr (4, [.int 0, .int (nI N), .int (nI wd), .ref m1, .ref m2, .ref m3, .ref m4, .ref m5, .int km, .int kc, .int kl, .int (nI (ac - j))]))] H := hP
      have hD : va_D A [(xm, .inr (4, [.int 0, .int (nI N), .int (nI wd), .ref m1, .ref m2, .ref m3, .ref m4, .ref m5, .int km, .int kc, .int kl, .int (nI (ac - j))]))] := hD
      refine lv_aload_n hx hb dX4_retract_29 rfl (lv_at hl 0 rfl) ?_
      refine va_get (D := (dC, dI)) (ci := 4) (v := .int (nI (ac - j))) (C := RX4) (T := TM) (N := 12) hx hb hts hiX4 hown hK hP 0 rfl rfl 11 (by decide) f50 (fun _ h9 => h9) rfl dX4_retract_30 ?_
      have hP9 : va_P (dC, dI) ksCl [(xm, .inr (4, [.int 0, .int (nI N), .int (nI wd), .ref m1, .ref m2, .ref m3, .ref m4, .ref m5, .int km, .int kc, .int kl, .int (nI (ac - j))]))] _ := hP
      have hD9 : va_D A [(xm, .inr (4, [.int 0, .int (nI N), .int (nI wd), .ref m1, .ref m2, .ref m3, .ref m4, .ref m5, .int km, .int kc, .int kl, .int (nI (ac - j))]))] := hD
      have hK9 : va_K (dC, dI) ksCl [] s := hK
      exact W.iret (v := nI (ac - j)) hx hb hr (fun t ht hW9 => ⟨⟨nI (ac - j), (ac - j), rfl, Or.inr ⟨j, rfl, hja, rfl, rfl⟩, by rw [ht]; exact hP9, va_K.moved hW9.alike hK9, hD9⟩, hS.F ht⟩) hS.2.2 dX4_retract_33
    · -- 14: goes on
      have hno : nI j < 0 ∨ nI ac < nI j := Or.inr (by rw [Int32.not_le] at c14; exact c14)
      refine lv_iconst (v := -1) hx hb dX4_retract_17 (by decide) ?_
      have hP9 : va_P (dC, dI) ksCl [(xm, .inr (4, [.int 0, .int (nI N), .int (nI wd), .ref m1, .ref m2, .ref m3, .ref m4, .ref m5, .int km, .int kc, .int kl, .int (nI ac)]))] _ := hP
      have hD9 : va_D A [(xm, .inr (4, [.int 0, .int (nI N), .int (nI wd), .ref m1, .ref m2, .ref m3, .ref m4, .ref m5, .int km, .int kc, .int kl, .int (nI ac)]))] := hD
      have hK9 : va_K (dC, dI) ksCl [] s := hK
      exact W.iret (v := -1) hx hb hr (fun t ht hW9 => ⟨⟨-1, ac, rfl, Or.inl ⟨rfl, hno, rfl⟩, by rw [ht]; exact hP9, va_K.moved hW9.alike hK9, hD9⟩, hS.F ht⟩) hS.2.2 dX4_retract_18
end
section
set_option maxHeartbeats 4000000 in
set_option maxRecDepth 100000 in
/-- the reference: count -/
theorem km_count (l : Launch) (dC : Nat → ClassId) (dI : Nat → Nat → Nat) (xm m1 m2 m3 m4 m5 wd : Nat) (N : Nat) (th km kc kl ac : Int32) (x0 : Int32) : ks_Mi l yX4_count wsX4_count ({ frames := 0, cells := 0, slots := 0, locals := 0 }) (dC, dI) [.ref xm, .int x0] [(xm, .inr (4, [.int th, .int (nI N), .int (nI wd), .ref m1, .ref m2, .ref m3, .ref m4, .ref m5, .int km, .int kc, .int kl, .int ac]))] [] 0 0 (S := Unit) (fun r _ => r = (if x0 = 0 then kc else if x0 = 1 then kl else if x0 = 2 then ac else if x0 = 3 then km else if x0 = 4 then 0 else -1)) (fun _ => [(xm, .inr (4, [.int 0, .int (nI N), .int (nI wd), .ref m1, .ref m2, .ref m3, .ref m4, .ref m5, .int km, .int kc, .int kl, .int ac]))]) (fun _ => []) := by
  intro sz
  refine Met.ofW (cc := cX4_count) (maxL := 2) (ret := (some .int)) (by decide) rfl ?_
  intro p e s m args below meth c s₁ B9 hml hv
  obtain ⟨rfl, hsz, hP, hK, hD0, hNW⟩ := hv
  have hx := B9.exec
  have hb := B9.bytes
  have hr := B9.returns
  have hts := atoms_spec (ws := wsX4_count) B9.pre
  have hown : s.vm.findClass RX4 = some m.cls := findClass_of_methodNamed B9.named
  have hlocks := B9.notSynchronized
  subst hsz
  have hD := hD0.self (sz := s.heap.size)
  generalize hAe : va_A [(xm, .inr (4, [.int th, .int (nI N), .int (nI wd), .ref m1, .ref m2, .ref m3, .ref m4, .ref m5, .int km, .int kc, .int kl, .int ac]))] s.heap.size = A at hD ⊢
  have hA : ∀ q : Nat, s.heap.size ≤ q → A q := fun q h => by rw [← hAe]; exact Or.inr h
  have hS : va_S A s.heap s.heap [] := va_S.rf
  have hiX4 : ∀ w ∈ u_ws RX4 TM 12, w ∈ wsX4_count := by decide +kernel
  have f36 := hts (.fieldLink RX4 36 "LessonSolverModel" "thrown" "I") (by decide +kernel)
  have f41 := hts (.fieldLink RX4 41 "LessonSolverModel" "made" "I") (by decide +kernel)
  have f44 := hts (.fieldLink RX4 44 "LessonSolverModel" "clauses" "I") (by decide +kernel)
  have f47 := hts (.fieldLink RX4 47 "LessonSolverModel" "literals" "I") (by decide +kernel)
  have f50 := hts (.fieldLink RX4 50 "LessonSolverModel" "assumptions" "I") (by decide +kernel)
  have hl := lv_entry ([.ref xm, .int x0]) (n := 2) (Nat.le_of_ble_eq_true rfl)
  rw [lg_entry_eq]
  generalize (lg_sl ([.ref xm, .int x0]) ++ List.replicate (2 - (lg_sl ([.ref xm, .int x0])).length) Slot.unset).toArray = ls at hl ⊢
  have hl : lv_has ls 2 [(0, .ref xm), (1, .int x0)] := hl
  refine lv_aload_n hx hb dX4_count_0 rfl (lv_at hl 0 rfl) ?_
  refine lv_iconst (v := 0) hx hb dX4_count_1 (by decide) ?_
  refine va_put (D := (dC, dI)) (ci := 4) (v := .int 0) (ty := .int) (C := RX4) (T := TM) (N := 12) hx hb hts hiX4 tyM tyM_ok nmM hown hK hP hD hS 0 rfl rfl 0 (by decide) f36 (fun _ h9 => h9) rfl (by decide +kernel) rfl rfl (Nat.le_of_ble_eq_true rfl) dX4_count_2 (fun H locs hP hD hS => ?_)
  have hP : va_P (dC, dI) ksCl [(xm, .inr (4, [.int 0, .int (nI N), .int (nI wd), .ref m1, .ref m2, .ref m3, .ref m4, .ref m5, .int km, .int kc, .int kl, .int ac]))] H := hP
  have hD : va_D A [(xm, .inr (4, [.int 0, .int (nI N), .int (nI wd), .ref m1, .ref m2, .ref m3, .ref m4, .ref m5, .int km, .int kc, .int kl, .int ac]))] := hD
  refine lv_iload_n hx hb dX4_count_5 rfl (lv_at hl 1 rfl) ?_
  by_cases hsw : x0.toInt < 0 ∨ 4 < x0.toInt
  · refine lv_tableOut (tgt := 62) hx hb dX4_count_6 hsw (by decide) ?_
    have n0 : ¬ x0 = 0 := fun q => by rw [q] at hsw; revert hsw; decide
    have n1 : ¬ x0 = 1 := fun q => by rw [q] at hsw; revert hsw; decide
    have n2 : ¬ x0 = 2 := fun q => by rw [q] at hsw; revert hsw; decide
    have n3 : ¬ x0 = 3 := fun q => by rw [q] at hsw; revert hsw; decide
    have n4 : ¬ x0 = 4 := fun q => by rw [q] at hsw; revert hsw; decide
    refine lv_iconst (v := -1) hx hb dX4_count_62 (by decide) ?_
    have hP9 : va_P (dC, dI) ksCl [(xm, .inr (4, [.int 0, .int (nI N), .int (nI wd), .ref m1, .ref m2, .ref m3, .ref m4, .ref m5, .int km, .int kc, .int kl, .int ac]))] _ := hP
    have hD9 : va_D A [(xm, .inr (4, [.int 0, .int (nI N), .int (nI wd), .ref m1, .ref m2, .ref m3, .ref m4, .ref m5, .int km, .int kc, .int kl, .int ac]))] := hD
    have hK9 : va_K (dC, dI) ksCl [] s := hK
    exact W.iret (v := -1) hx hb hr (fun t ht hW9 => ⟨⟨-1, (), rfl, by rw [if_neg n0, if_neg n1, if_neg n2, if_neg n3, if_neg n4], by rw [ht]; exact hP9, va_K.moved hW9.alike hK9, hD9⟩, hS.F ht⟩) hS.2.2 dX4_count_63
  · have hsw2 : x0 = 0 ∨ x0 = 1 ∨ x0 = 2 ∨ x0 = 3 ∨ x0 = 4 := by
      have e9 : x0.toInt = 0 ∨ x0.toInt = 1 ∨ x0.toInt = 2 ∨ x0.toInt = 3 ∨ x0.toInt = 4 := by omega
      rcases e9 with e9 | e9 | e9 | e9 | e9
      · exact Or.inl (Int32.toInt_inj.mp e9)
      · exact Or.inr (Or.inl (Int32.toInt_inj.mp e9))
      · exact Or.inr (Or.inr (Or.inl (Int32.toInt_inj.mp e9)))
      · exact Or.inr (Or.inr (Or.inr (Or.inl (Int32.toInt_inj.mp e9))))
      · exact Or.inr (Or.inr (Or.inr (Or.inr (Int32.toInt_inj.mp e9))))
    rcases hsw2 with hsw2 | hsw2 | hsw2 | hsw2 | hsw2
    · subst hsw2
      refine lv_tableIn (tgt := 40) hx hb dX4_count_6 (by decide) (by decide) rfl (by decide) ?_
      refine lv_aload_n hx hb dX4_count_40 rfl (lv_at hl 0 rfl) ?_
      refine va_get (D := (dC, dI)) (ci := 4) (v := .int kc) (C := RX4) (T := TM) (N := 12) hx hb hts hiX4 hown hK hP 0 rfl rfl 9 (by decide) f44 (fun _ h9 => h9) rfl dX4_count_41 ?_
      have hP9 : va_P (dC, dI) ksCl [(xm, .inr (4, [.int 0, .int (nI N), .int (nI wd), .ref m1, .ref m2, .ref m3, .ref m4, .ref m5, .int km, .int kc, .int kl, .int ac]))] _ := hP
      have hD9 : va_D A [(xm, .inr (4, [.int 0, .int (nI N), .int (nI wd), .ref m1, .ref m2, .ref m3, .ref m4, .ref m5, .int km, .int kc, .int kl, .int ac]))] := hD
      have hK9 : va_K (dC, dI) ksCl [] s := hK
      exact W.iret (v := kc) hx hb hr (fun t ht hW9 => ⟨⟨kc, (), rfl, rfl, by rw [ht]; exact hP9, va_K.moved hW9.alike hK9, hD9⟩, hS.F ht⟩) hS.2.2 dX4_count_44
    · subst hsw2
      refine lv_tableIn (tgt := 45) hx hb dX4_count_6 (by decide) (by decide) rfl (by decide) ?_
      refine lv_aload_n hx hb dX4_count_45 rfl (lv_at hl 0 rfl) ?_
      refine va_get (D := (dC, dI)) (ci := 4) (v := .int kl) (C := RX4) (T := TM) (N := 12) hx hb hts hiX4 hown hK hP 0 rfl rfl 10 (by decide) f47 (fun _ h9 => h9) rfl dX4_count_46 ?_
      have hP9 : va_P (dC, dI) ksCl [(xm, .inr (4, [.int 0, .int (nI N), .int (nI wd), .ref m1, .ref m2, .ref m3, .ref m4, .ref m5, .int km, .int kc, .int kl, .int ac]))] _ := hP
      have hD9 : va_D A [(xm, .inr (4, [.int 0, .int (nI N), .int (nI wd), .ref m1, .ref m2, .ref m3, .ref m4, .ref m5, .int km, .int kc, .int kl, .int ac]))] := hD
      have hK9 : va_K (dC, dI) ksCl [] s := hK
      exact W.iret (v := kl) hx hb hr (fun t ht hW9 => ⟨⟨kl, (), rfl, rfl, by rw [ht]; exact hP9, va_K.moved hW9.alike hK9, hD9⟩, hS.F ht⟩) hS.2.2 dX4_count_49
    · subst hsw2
      refine lv_tableIn (tgt := 50) hx hb dX4_count_6 (by decide) (by decide) rfl (by decide) ?_
      refine lv_aload_n hx hb dX4_count_50 rfl (lv_at hl 0 rfl) ?_
      refine va_get (D := (dC, dI)) (ci := 4) (v := .int ac) (C := RX4) (T := TM) (N := 12) hx hb hts hiX4 hown hK hP 0 rfl rfl 11 (by decide) f50 (fun _ h9 => h9) rfl dX4_count_51 ?_
      have hP9 : va_P (dC, dI) ksCl [(xm, .inr (4, [.int 0, .int (nI N), .int (nI wd), .ref m1, .ref m2, .ref m3, .ref m4, .ref m5, .int km, .int kc, .int kl, .int ac]))] _ := hP
      have hD9 : va_D A [(xm, .inr (4, [.int 0, .int (nI N), .int (nI wd), .ref m1, .ref m2, .ref m3, .ref m4, .ref m5, .int km, .int kc, .int kl, .int ac]))] := hD
      have hK9 : va_K (dC, dI) ksCl [] s := hK
      exact W.iret (v := ac) hx hb hr (fun t ht hW9 => ⟨⟨ac, (), rfl, rfl, by rw [ht]; exact hP9, va_K.moved hW9.alike hK9, hD9⟩, hS.F ht⟩) hS.2.2 dX4_count_54
    · subst hsw2
      refine lv_tableIn (tgt := 55) hx hb dX4_count_6 (by decide) (by decide) rfl (by decide) ?_
      refine lv_aload_n hx hb dX4_count_55 rfl (lv_at hl 0 rfl) ?_
      refine va_get (D := (dC, dI)) (ci := 4) (v := .int km) (C := RX4) (T := TM) (N := 12) hx hb hts hiX4 hown hK hP 0 rfl rfl 8 (by decide) f41 (fun _ h9 => h9) rfl dX4_count_56 ?_
      have hP9 : va_P (dC, dI) ksCl [(xm, .inr (4, [.int 0, .int (nI N), .int (nI wd), .ref m1, .ref m2, .ref m3, .ref m4, .ref m5, .int km, .int kc, .int kl, .int ac]))] _ := hP
      have hD9 : va_D A [(xm, .inr (4, [.int 0, .int (nI N), .int (nI wd), .ref m1, .ref m2, .ref m3, .ref m4, .ref m5, .int km, .int kc, .int kl, .int ac]))] := hD
      have hK9 : va_K (dC, dI) ksCl [] s := hK
      exact W.iret (v := km) hx hb hr (fun t ht hW9 => ⟨⟨km, (), rfl, rfl, by rw [ht]; exact hP9, va_K.moved hW9.alike hK9, hD9⟩, hS.F ht⟩) hS.2.2 dX4_count_59
    · subst hsw2
      refine lv_tableIn (tgt := 60) hx hb dX4_count_6 (by decide) (by decide) rfl (by decide) ?_
      refine lv_iconst (v := 0) hx hb dX4_count_60 (by decide) ?_
      have hP9 : va_P (dC, dI) ksCl [(xm, .inr (4, [.int 0, .int (nI N), .int (nI wd), .ref m1, .ref m2, .ref m3, .ref m4, .ref m5, .int km, .int kc, .int kl, .int ac]))] _ := hP
      have hD9 : va_D A [(xm, .inr (4, [.int 0, .int (nI N), .int (nI wd), .ref m1, .ref m2, .ref m3, .ref m4, .ref m5, .int km, .int kc, .int kl, .int ac]))] := hD
      have hK9 : va_K (dC, dI) ksCl [] s := hK
      exact W.iret (v := 0) hx hb hr (fun t ht hW9 => ⟨⟨0, (), rfl, rfl, by rw [ht]; exact hP9, va_K.moved hW9.alike hK9, hD9⟩, hS.F ht⟩) hS.2.2 dX4_count_61
end
section
set_option maxHeartbeats 4000000 in
set_option maxRecDepth 100000 in
/-- the reference: wipe -/
theorem km_wipe (l : Launch) (dC : Nat → ClassId) (dI : Nat → Nat → Nat) (xm m1 m2 m3 m4 m5 wd : Nat) (c1 : ClassId) (N : Nat) (th km kc kl ac : Int32) (A0 : Nat → Int64) (hN : N ≤ 16) (hwd : wd = ks_wd N) : ks_Mv l yX4_wipe wsX4_wipe ({ frames := 1, cells := 0, slots := 0, locals := 21 }) (dC, dI) [.ref xm] [(xm, .inr (4, [.int th, .int (nI N), .int (nI wd), .ref m1, .ref m2, .ref m3, .ref m4, .ref m5, .int km, .int kc, .int kl, .int ac])), (m1, .inl (c1, 1024, .inr (.inl A0)))] [(c1, .long)] 0 0 (S := (Nat → Int64)) (fun u => ks_TT N u (fun _ => True)) (fun u => [(xm, .inr (4, [.int 0, .int (nI N), .int (nI wd), .ref m1, .ref m2, .ref m3, .ref m4, .ref m5, .int (nI 0), .int (nI 0), .int (nI 0), .int (nI 0)])), (m1, .inl (c1, 1024, .inr (.inl u)))]) (fun u => [(c1, .long)]) := by
  intro sz
  refine Met.ofW (cc := cX4_wipe) (maxL := 1) (ret := none) (by decide) rfl ?_
  intro p e s m args below meth c s₁ B9 hml hv
  obtain ⟨rfl, hsz, hP, hK, hD0, hNW⟩ := hv
  have hx := B9.exec
  have hb := B9.bytes
  have hr := B9.returns
  have hts := atoms_spec (ws := wsX4_wipe) B9.pre
  have hown : s.vm.findClass RX4 = some m.cls := findClass_of_methodNamed B9.named
  have hlocks := B9.notSynchronized
  subst hsz
  have hD := hD0.self (sz := s.heap.size)
  generalize hAe : va_A [(xm, .inr (4, [.int th, .int (nI N), .int (nI wd), .ref m1, .ref m2, .ref m3, .ref m4, .ref m5, .int km, .int kc, .int kl, .int ac])), (m1, .inl (c1, 1024, .inr (.inl A0)))] s.heap.size = A at hD ⊢
  have hA : ∀ q : Nat, s.heap.size ≤ q → A q := fun q h => by rw [← hAe]; exact Or.inr h
  have hS : va_S A s.heap s.heap [] := va_S.rf
  have hiX4 : ∀ w ∈ u_ws RX4 TM 12, w ∈ wsX4_wipe := by decide +kernel
  have f36 := hts (.fieldLink RX4 36 "LessonSolverModel" "thrown" "I") (by decide +kernel)
  have hl := lv_entry ([.ref xm]) (n := 1) (Nat.le_of_ble_eq_true rfl)
  rw [lg_entry_eq]
  generalize (lg_sl ([.ref xm]) ++ List.replicate (1 - (lg_sl ([.ref xm])).length) Slot.unset).toArray = ls at hl ⊢
  have hl : lv_has ls 1 [(0, .ref xm)] := hl
  refine lv_aload_n hx hb dX4_wipe_0 rfl (lv_at hl 0 rfl) ?_
  refine lv_iconst (v := 0) hx hb dX4_wipe_1 (by decide) ?_
  refine va_put (D := (dC, dI)) (ci := 4) (v := .int 0) (ty := .int) (C := RX4) (T := TM) (N := 12) hx hb hts hiX4 tyM tyM_ok nmM hown hK hP hD hS 0 rfl rfl 0 (by decide) f36 (fun _ h9 => h9) rfl (by decide +kernel) rfl rfl (Nat.le_of_ble_eq_true rfl) dX4_wipe_2 (fun H locs hP hD hS => ?_)
  have hP : va_P (dC, dI) ksCl [(xm, .inr (4, [.int 0, .int (nI N), .int (nI wd), .ref m1, .ref m2, .ref m3, .ref m4, .ref m5, .int km, .int kc, .int kl, .int ac])), (m1, .inl (c1, 1024, .inr (.inl A0)))] H := hP
  have hD : va_D A [(xm, .inr (4, [.int 0, .int (nI N), .int (nI wd), .ref m1, .ref m2, .ref m3, .ref m4, .ref m5, .int km, .int kc, .int kl, .int ac])), (m1, .inl (c1, 1024, .inr (.inl A0)))] := hD
  refine lv_aload_n hx hb dX4_wipe_5 rfl (lv_at hl 0 rfl) ?_
  refine ks_callvV (As := []) (rest := []) (wr := []) (wz := fun u => [(xm, .inr (4, [.int 0, .int (nI N), .int (nI wd), .ref m1, .ref m2, .ref m3, .ref m4, .ref m5, .int (nI 0), .int (nI 0), .int (nI 0), .int (nI 0)])), (m1, .inl (c1, 1024, .inr (.inl u)))]) ⟨hx, hb, hml, hown, hts⟩ (km_clear l dC dI xm m1 m2 m3 m4 m5 wd c1 N 0 km kc kl ac A0 hN hwd) (cwV 0 hts gX4_wipe_X4_clear rfl rfl rfl (by decide +kernel) ⟨Nat.le_of_ble_eq_true rfl, Nat.le_of_ble_eq_true rfl⟩) hK hP hD hS hA hNW [0, 1] [] [0] [0, 1] rfl rfl rfl rfl (by decide) (by decide) (by decide) (ci := 4) (q0 := 0) rfl rfl rfl (fun _ => rfl) (fun _ => rfl) (by decide) rfl hl.1 rfl (Nat.le_of_ble_eq_true rfl) dX4_wipe_6 ⟨Nat.le_of_ble_eq_true rfl, Nat.le_of_ble_eq_true rfl⟩ (fun A1 H locs hw9 hK9 hP hD hS => ?_)
  have hP : va_P (dC, dI) ksCl [(xm, .inr (4, [.int 0, .int (nI N), .int (nI wd), .ref m1, .ref m2, .ref m3, .ref m4, .ref m5, .int (nI 0), .int (nI 0), .int (nI 0), .int (nI 0)])), (m1, .inl (c1, 1024, .inr (.inl A1)))] H := hP
  have hD : va_D A [(xm, .inr (4, [.int 0, .int (nI N), .int (nI wd), .ref m1, .ref m2, .ref m3, .ref m4, .ref m5, .int (nI 0), .int (nI 0), .int (nI 0), .int (nI 0)])), (m1, .inl (c1, 1024, .inr (.inl A1)))] := hD
  have hP9 : va_P (dC, dI) ksCl [(xm, .inr (4, [.int 0, .int (nI N), .int (nI wd), .ref m1, .ref m2, .ref m3, .ref m4, .ref m5, .int (nI 0), .int (nI 0), .int (nI 0), .int (nI 0)])), (m1, .inl (c1, 1024, .inr (.inl A1)))] _ := hP
  have hD9 : va_D A [(xm, .inr (4, [.int 0, .int (nI N), .int (nI wd), .ref m1, .ref m2, .ref m3, .ref m4, .ref m5, .int (nI 0), .int (nI 0), .int (nI 0), .int (nI 0)])), (m1, .inl (c1, 1024, .inr (.inl A1)))] := hD
  have hK9 : va_K (dC, dI) ksCl [(c1, .long)] s := hK
  exact W.vret hx hb hr (fun t ht hW9 => ⟨⟨A1, rfl, hw9, by rw [ht]; exact hP9, va_K.moved hW9.alike hK9, hD9⟩, hS.F ht⟩) hS.2.2 dX4_wipe_9
end
