/-! clauses (two sets of places), assignments, the trail -/
/-- a clause is true under a total assignment -/
def ks_T (P M : Int32) (a : Nat → Bool) : Prop := ∃ i, (bt P i = true ∧ a i = true) ∨ (bt M i = true ∧ a i = false)
/-- a total assignment has the values of a partial one -/
def ks_E (o z : Int32) (a : Nat → Bool) : Prop := ∀ i, (bt o i = true → a i = true) ∧ (bt z i = true → a i = false)
/-- the first n clauses are true -/
def ks_M (P M : Nat → Int32) (n : Nat) (a : Nat → Bool) : Prop := ∀ c, c < n → ks_T (P c) (M c) a
/-- a clause is true, false, under a partial assignment -/
def ks_S (P M o z : Int32) : Prop := ∃ i, (bt P i = true ∧ bt o i = true) ∨ (bt M i = true ∧ bt z i = true)
def ks_F (P M o z : Int32) : Prop := ∀ i, (bt P i = true → bt z i = true) ∧ (bt M i = true → bt o i = true)
def ks_mem (P M : Int32) (i : Nat) : Prop := bt P i = true ∨ bt M i = true
def ks_fr (o z : Int32) (i : Nat) : Prop := bt o i = false ∧ bt z i = false
/-- neither false nor a unit -/
def ks_U (P M o z : Int32) : Prop := ks_S P M o z ∨ ∃ i j, i ≠ j ∧ ks_mem P M i ∧ ks_mem P M j ∧ ks_fr o z i ∧ ks_fr o z j
theorem ks_S_z {P M o z : Int32} : (P &&& o) ||| (M &&& z) = 0 ↔ ¬ ks_S P M o z := by
  rw [ks_z]
  constructor
  · intro h ⟨i, hi⟩
    have a := h i
    rcases hi with ⟨x, y⟩ | ⟨x, y⟩
    · simp [b_or, b_and, x, y] at a
    · simp [b_or, b_and, x, y] at a
  · intro h i
    rw [b_or, b_and, b_and]
    cases hb : (bt P i && bt o i || bt M i && bt z i)
    · rfl
    · rw [Bool.or_eq_true, Bool.and_eq_true, Bool.and_eq_true] at hb
      exact absurd ⟨i, hb⟩ h
theorem ks_memb (P M : Int32) (i : Nat) : bt (P ||| M) i = true ↔ ks_mem P M i := by
  rw [b_or, Bool.or_eq_true]; exact Iff.rfl
theorem ks_frb (P M o z : Int32) (i : Nat) : bt ((P ||| M) &&& ((o ||| z) ^^^ (-1))) i = true ↔ ks_mem P M i ∧ ks_fr o z i := by
  rw [ks_andn, Bool.and_eq_true, ks_memb, b_or]
  unfold ks_fr
  cases bt o i <;> cases bt z i <;> simp
/-- no free place, and not true: false -/
theorem ks_false {P M o z : Int32} (h : ¬ ks_S P M o z) (hf : (P ||| M) &&& ((o ||| z) ^^^ (-1)) = 0) : ks_F P M o z := by
  intro i
  have a := fun q => ks_frb P M o z i |>.mpr q
  rw [ks_z.mp hf i] at a
  refine ⟨fun hp => ?_, fun hm => ?_⟩
  · cases hz : bt z i
    · cases ho : bt o i
      · exact absurd (a ⟨Or.inl hp, ho, hz⟩) (by decide)
      · exact absurd ⟨i, Or.inl ⟨hp, ho⟩⟩ h
    · rfl
  · cases ho : bt o i
    · cases hz : bt z i
      · exact absurd (a ⟨Or.inr hm, ho, hz⟩) (by decide)
      · exact absurd ⟨i, Or.inr ⟨hm, hz⟩⟩ h
    · rfl
theorem ks_fine {P M o z : Int32} (h0 : ¬ (P ||| M) &&& ((o ||| z) ^^^ (-1)) = 0) (h1 : ¬ ((P ||| M) &&& ((o ||| z) ^^^ (-1))) &&& (((P ||| M) &&& ((o ||| z) ^^^ (-1))) - 1) = 0) : ks_U P M o z := by
  obtain ⟨i, j, hij, hi, hj⟩ := ks_two h0 h1
  have a := (ks_frb P M o z i).mp hi
  have b := (ks_frb P M o z j).mp hj
  exact Or.inr ⟨i, j, hij, a.1, b.1, a.2, b.2⟩
theorem ks_F_no {P M o z : Int32} {a : Nat → Bool} (hF : ks_F P M o z) (hE : ks_E o z a) : ¬ ks_T P M a := by
  intro ⟨i, h⟩
  rcases h with ⟨hp, ha⟩ | ⟨hm, ha⟩
  · rw [(hE i).2 ((hF i).1 hp)] at ha; cases ha
  · rw [(hE i).1 ((hF i).2 hm)] at ha; cases ha
theorem ks_S_T {P M o z : Int32} {a : Nat → Bool} (hS : ks_S P M o z) (hE : ks_E o z a) : ks_T P M a := by
  obtain ⟨i, h⟩ := hS
  rcases h with ⟨hp, ho⟩ | ⟨hm, hz⟩
  · exact ⟨i, Or.inl ⟨hp, (hE i).1 ho⟩⟩
  · exact ⟨i, Or.inr ⟨hm, (hE i).2 hz⟩⟩
/-- why place pl j has its value -/
def ks_J (P M : Nat → Int32) (n : Nat) (pl : Nat → Nat) (r : Int32) (j : Nat) (o z : Int32) : Prop :=
  r = 0 ∨ ∃ c, c < n ∧ r = (P c ||| M c) ∧ ((bt (P c) (pl j) = true ∧ bt o (pl j) = true) ∨ (bt (M c) (pl j) = true ∧ bt z (pl j) = true)) ∧
    ∀ i, i ≠ pl j → (bt (P c) i = true → bt z i = true ∧ ∃ h, h < j ∧ pl h = i) ∧ (bt (M c) i = true → bt o i = true ∧ ∃ h, h < j ∧ pl h = i)
/-- the trail, by its places -/
def ks_Rp (N : Nat) (P M : Nat → Int32) (n : Nat) (B Rs : Nat → Int32) (k : Nat) (o z : Int32) (pl : Nat → Nat) : Prop :=
  (∀ j, j < k → pl j < N ∧ B j = ks_on (pl j)) ∧ (∀ i j, i < j → j < k → pl i ≠ pl j) ∧
  (∀ i, (bt o i = true ∨ bt z i = true) ↔ ∃ j, j < k ∧ pl j = i) ∧ (∀ i, bt o i = true → bt z i = false) ∧
  (∀ j, j < k → ks_J P M n pl (Rs j) j o z)
def ks_R (N : Nat) (P M : Nat → Int32) (n : Nat) (B Rs : Nat → Int32) (k : Nat) (o z : Int32) : Prop := ∃ pl : Nat → Nat, ks_Rp N P M n B Rs k o z pl
/-- a trail goes on from another -/
def ks_X (B Rs : Nat → Int32) (k : Nat) (o z : Int32) (B' Rs' : Nat → Int32) (k' : Nat) (o' z' : Int32) : Prop :=
  k ≤ k' ∧ (∀ j, j < k → B' j = B j ∧ Rs' j = Rs j) ∧ ∀ i, (bt o i = true → bt o' i = true) ∧ (bt z i = true → bt z' i = true)
theorem ks_X.rf {B Rs : Nat → Int32} {k : Nat} {o z : Int32} : ks_X B Rs k o z B Rs k o z := ⟨Nat.le_refl _, fun _ _ => ⟨rfl, rfl⟩, fun _ => ⟨id, id⟩⟩
theorem ks_X.tr {B Rs B1 Rs1 B2 Rs2 : Nat → Int32} {k k1 k2 : Nat} {o z o1 z1 o2 z2 : Int32} (h1 : ks_X B Rs k o z B1 Rs1 k1 o1 z1) (h2 : ks_X B1 Rs1 k1 o1 z1 B2 Rs2 k2 o2 z2) : ks_X B Rs k o z B2 Rs2 k2 o2 z2 :=
  ⟨Nat.le_trans h1.1 h2.1, fun j hj => ⟨((h2.2.1 j (Nat.lt_of_lt_of_le hj h1.1)).1).trans (h1.2.1 j hj).1, ((h2.2.1 j (Nat.lt_of_lt_of_le hj h1.1)).2).trans (h1.2.1 j hj).2⟩, fun i => ⟨fun h => (h2.2.2 i).1 ((h1.2.2 i).1 h), fun h => (h2.2.2 i).2 ((h1.2.2 i).2 h)⟩⟩
theorem ks_X.E {B Rs B1 Rs1 : Nat → Int32} {k k1 : Nat} {o z o1 z1 : Int32} (h : ks_X B Rs k o z B1 Rs1 k1 o1 z1) {a : Nat → Bool} (hE : ks_E o1 z1 a) : ks_E o z a :=
  fun i => ⟨fun q => (hE i).1 ((h.2.2 i).1 q), fun q => (hE i).2 ((h.2.2 i).2 q)⟩
theorem ks_R.le {N : Nat} {P M : Nat → Int32} {n : Nat} {B Rs : Nat → Int32} {k : Nat} {o z : Int32} (h : ks_R N P M n B Rs k o z) : k ≤ N := by
  obtain ⟨pl, h1, h2, -⟩ := h
  exact ks_php N k pl (fun j hj => (h1 j hj).1) h2
theorem ks_R.free {N : Nat} {P M : Nat → Int32} {n : Nat} {B Rs : Nat → Int32} {k : Nat} {o z : Int32} (h : ks_R N P M n B Rs k o z) {p : Nat} (hp : p < N) (hf : ks_fr o z p) : k + 1 ≤ N := by
  obtain ⟨pl, h1, h2, h3, -⟩ := h
  have hnp : ∀ j, j < k → pl j ≠ p := fun j hj e => by
    rcases (h3 p).mpr ⟨j, hj, e⟩ with q | q
    · rw [hf.1] at q; cases q
    · rw [hf.2] at q; cases q
  refine ks_php N (k + 1) (fun j => if j = k then p else pl j) (fun j hj => ?_) (fun i j hij hj => ?_)
  · show (if j = k then p else pl j) < N
    by_cases e : j = k
    · rw [if_pos e]; exact hp
    · rw [if_neg e]; exact (h1 j (by omega)).1
  · show (if i = k then p else pl i) ≠ (if j = k then p else pl j)
    rw [if_neg (show ¬ i = k by omega)]
    by_cases e : j = k
    · rw [if_pos e]; exact hnp i (by omega)
    · rw [if_neg e]; exact h2 i j hij (by omega)
theorem ks_R.mono {N : Nat} {P M P' M' : Nat → Int32} {n n' : Nat} {B Rs : Nat → Int32} {k : Nat} {o z : Int32} (h : ks_R N P M n B Rs k o z) (hn : n ≤ n') (hc : ∀ c, c < n → P' c = P c ∧ M' c = M c) : ks_R N P' M' n' B Rs k o z := by
  obtain ⟨pl, h1, h2, h3, h4, h5⟩ := h
  refine ⟨pl, h1, h2, h3, h4, fun j hj => ?_⟩
  rcases h5 j hj with q | ⟨c, q1, q2, q3, q4⟩
  · exact Or.inl q
  · refine Or.inr ⟨c, Nat.lt_of_lt_of_le q1 hn, ?_, ?_, ?_⟩
    · rw [(hc c q1).1, (hc c q1).2]; exact q2
    · rw [(hc c q1).1, (hc c q1).2]; exact q3
    · rw [(hc c q1).1, (hc c q1).2]; exact q4
theorem ks_R.dis {N : Nat} {P M : Nat → Int32} {n : Nat} {B Rs : Nat → Int32} {k : Nat} {o z : Int32} (h : ks_R N P M n B Rs k o z) : ∀ i, bt o i = true → bt z i = false := by
  obtain ⟨pl, h1, h2, h3, h4, h5⟩ := h; exact h4
theorem ks_R.lt {N : Nat} {P M : Nat → Int32} {n : Nat} {B Rs : Nat → Int32} {k : Nat} {o z : Int32} (h : ks_R N P M n B Rs k o z) : ∀ i, (bt o i = true ∨ bt z i = true) → i < N := by
  obtain ⟨pl, h1, h2, h3, h4, h5⟩ := h
  intro i hi
  obtain ⟨j, hj, e⟩ := (h3 i).mp hi
  rw [← e]; exact (h1 j hj).1
theorem ks_fr_of {o z : Int32} {p : Nat} (h : bt (o ||| z) p = false) : ks_fr o z p := by
  rw [b_or, Bool.or_eq_false_iff] at h; exact h
theorem ks_fr_ne {o z : Int32} {p i : Nat} (hf : ks_fr o z p) (h : bt o i = true ∨ bt z i = true) : p ≠ i := by
  intro e
  subst e
  rcases h with q | q
  · rw [hf.1] at q; cases q
  · rw [hf.2] at q; cases q
/-- a value more -/
theorem ks_R.assign {N : Nat} {P M : Nat → Int32} {n : Nat} {B Rs : Nat → Int32} {k : Nat} {o z : Int32} (h : ks_R N P M n B Rs k o z) (hN : N ≤ 16) {p : Nat} (hp : p < N) (hf : ks_fr o z p) (v : Bool) (r : Int32)
    (hr : r = 0 ∨ ∃ c, c < n ∧ r = (P c ||| M c) ∧ (if v = true then bt (P c) p = true else bt (M c) p = true) ∧ ∀ i, i ≠ p → (bt (P c) i = true → bt z i = true) ∧ (bt (M c) i = true → bt o i = true)) :
    ks_R N P M n (upd B k (ks_on p)) (upd Rs k r) (k + 1) (if v = true then o ||| ks_on p else o) (if v = true then z else z ||| ks_on p) := by
  obtain ⟨pl, h1, h2, h3, h4, h5⟩ := h
  have hp32 : p < 32 := by omega
  have hnp : ∀ j, j < k → pl j ≠ p := fun j hj e => by
    rcases (h3 p).mpr ⟨j, hj, e⟩ with q | q
    · rw [hf.1] at q; cases q
    · rw [hf.2] at q; cases q
  have ho : ∀ i, bt (if v = true then o ||| ks_on p else o) i = (bt o i || (v && decide (p = i))) := fun i => by
    cases v
    · simp
    · simp [b_or, ks_bon hp32]
  have hz : ∀ i, bt (if v = true then z else z ||| ks_on p) i = (bt z i || (!v && decide (p = i))) := fun i => by
    cases v
    · simp [b_or, ks_bon hp32]
    · simp
  refine ⟨fun j => if j = k then p else pl j, fun j hj => ?_, fun i j hij hj => ?_, fun i => ?_, fun i hi => ?_, fun j hj => ?_⟩
  · show (if j = k then p else pl j) < N ∧ (if j = k then ks_on p else B j) = ks_on (if j = k then p else pl j)
    by_cases e : j = k
    · rw [if_pos e, if_pos e]; exact ⟨hp, rfl⟩
    · rw [if_neg e, if_neg e]; exact h1 j (by omega)
  · show (if i = k then p else pl i) ≠ (if j = k then p else pl j)
    rw [if_neg (show ¬ i = k by omega)]
    by_cases e : j = k
    · rw [if_pos e]; exact hnp i (by omega)
    · rw [if_neg e]; exact h2 i j hij (by omega)
  · rw [ho, hz]
    constructor
    · intro q
      by_cases e : p = i
      · exact ⟨k, by omega, by show (if k = k then p else pl k) = i; rw [if_pos rfl]; exact e⟩
      · rw [decide_eq_false e, Bool.and_false, Bool.and_false, Bool.or_false, Bool.or_false] at q
        obtain ⟨j, hj, e2⟩ := (h3 i).mp q
        exact ⟨j, by omega, by show (if j = k then p else pl j) = i; rw [if_neg (by omega)]; exact e2⟩
    · intro ⟨j, hj, e⟩
      have e : (if j = k then p else pl j) = i := e
      by_cases e1 : j = k
      · rw [if_pos e1] at e
        rw [decide_eq_true e]
        cases v <;> simp
      · rw [if_neg e1] at e
        rcases (h3 i).mpr ⟨j, by omega, e⟩ with q | q
        · left; rw [q, Bool.true_or]
        · right; rw [q, Bool.true_or]
  · rw [ho] at hi
    rw [hz]
    by_cases e : p = i
    · subst e
      rw [hf.1, Bool.false_or, Bool.and_eq_true] at hi
      rw [hf.2, hi.1]; rfl
    · rw [decide_eq_false e, Bool.and_false, Bool.or_false] at hi
      rw [h4 i hi, decide_eq_false e, Bool.and_false]; rfl
  · show ks_J P M n (fun j => if j = k then p else pl j) (if j = k then r else Rs j) j _ _
    by_cases e : j = k
    · rw [if_pos e]
      rcases hr with q | ⟨c, q1, q2, q3, q4⟩
      · exact Or.inl q
      · refine Or.inr ⟨c, q1, q2, ?_, fun i hi => ?_⟩
        · show (bt (P c) (if j = k then p else pl j) = true ∧ bt _ (if j = k then p else pl j) = true) ∨ (bt (M c) (if j = k then p else pl j) = true ∧ bt _ (if j = k then p else pl j) = true)
          rw [if_pos e, ho, hz]
          cases v
          · right; exact ⟨by simpa using q3, by simp⟩
          · left; exact ⟨by simpa using q3, by simp⟩
        · have hi : i ≠ (if j = k then p else pl j) := hi
          rw [if_pos e] at hi
          have q5 := q4 i hi
          rw [ho, hz]
          refine ⟨fun a => ?_, fun a => ?_⟩
          · have b := q5.1 a
            obtain ⟨j2, hj2, e2⟩ := (h3 i).mp (Or.inr b)
            exact ⟨by rw [b, Bool.true_or], j2, by omega, by show (if j2 = k then p else pl j2) = i; rw [if_neg (by omega)]; exact e2⟩
          · have b := q5.2 a
            obtain ⟨j2, hj2, e2⟩ := (h3 i).mp (Or.inl b)
            exact ⟨by rw [b, Bool.true_or], j2, by omega, by show (if j2 = k then p else pl j2) = i; rw [if_neg (by omega)]; exact e2⟩
    · rw [if_neg e]
      rcases h5 j (by omega) with q | ⟨c, q1, q2, q3, q4⟩
      · exact Or.inl q
      · refine Or.inr ⟨c, q1, q2, ?_, fun i hi => ?_⟩
        · show (bt (P c) (if j = k then p else pl j) = true ∧ bt _ (if j = k then p else pl j) = true) ∨ (bt (M c) (if j = k then p else pl j) = true ∧ bt _ (if j = k then p else pl j) = true)
          rw [if_neg e, ho, hz]
          rcases q3 with ⟨a, b⟩ | ⟨a, b⟩
          · left; exact ⟨a, by rw [b, Bool.true_or]⟩
          · right; exact ⟨a, by rw [b, Bool.true_or]⟩
        · have hi : i ≠ (if j = k then p else pl j) := hi
          rw [if_neg e] at hi
          have q5 := q4 i hi
          rw [ho, hz]
          refine ⟨fun a => ?_, fun a => ?_⟩
          · obtain ⟨b, j2, hj2, e2⟩ := q5.1 a
            exact ⟨by rw [b, Bool.true_or], j2, hj2, by show (if j2 = k then p else pl j2) = i; rw [if_neg (by omega)]; exact e2⟩
          · obtain ⟨b, j2, hj2, e2⟩ := q5.2 a
            exact ⟨by rw [b, Bool.true_or], j2, hj2, by show (if j2 = k then p else pl j2) = i; rw [if_neg (by omega)]; exact e2⟩
theorem ks_X.assign {B Rs : Nat → Int32} {k : Nat} {o z : Int32} (f r : Int32) (v : Bool) : ks_X B Rs k o z (upd B k f) (upd Rs k r) (k + 1) (if v = true then o ||| f else o) (if v = true then z else z ||| f) := by
  refine ⟨by omega, fun j hj => ⟨if_neg (by omega), if_neg (by omega)⟩, fun i => ⟨fun h => ?_, fun h => ?_⟩⟩
  · cases v
    · exact h
    · show bt (o ||| f) i = true
      rw [b_or, h, Bool.true_or]
  · cases v
    · show bt (z ||| f) i = true
      rw [b_or, h, Bool.true_or]
    · exact h
/-- a unit: the trail goes on by its one free place; the value is forced -/
theorem ks_R.unit {N : Nat} {P M : Nat → Int32} {n : Nat} {B Rs : Nat → Int32} {k : Nat} {o z f : Int32} (h : ks_R N P M n B Rs k o z) (hN : N ≤ 16) {c : Nat} (hc : c < n) (hd : ∀ i, bt (P c) i = true → bt (M c) i = false) (hl : ∀ i, ks_mem (P c) (M c) i → i < N)
    (hs : ¬ ks_S (P c) (M c) o z) (hf : f = (P c ||| M c) &&& ((o ||| z) ^^^ (-1))) (h0 : ¬ f = 0) (h1 : f &&& (f - 1) = 0) (v : Bool) (hv : v = true ↔ ¬ P c &&& f = 0) :
    k + 1 ≤ N ∧ ks_R N P M n (upd B k f) (upd Rs k (P c ||| M c)) (k + 1) (if v = true then o ||| f else o) (if v = true then z else z ||| f) ∧
    ∀ a, ks_E o z a → ks_T (P c) (M c) a → ks_E (if v = true then o ||| f else o) (if v = true then z else z ||| f) a := by
  obtain ⟨p, hp, ep⟩ := ks_single h0 h1
  have hb : ∀ i, bt f i = true ↔ ks_mem (P c) (M c) i ∧ ks_fr o z i := fun i => by rw [hf]; exact ks_frb _ _ _ _ _
  have hpf : bt f p = true := by rw [ep]; exact ks_bon_self hp
  obtain ⟨hm, hfr⟩ := (hb p).mp hpf
  have hother : ∀ i, i ≠ p → (bt (P c) i = true → bt z i = true) ∧ (bt (M c) i = true → bt o i = true) := by
    intro i hi
    have hnf : ¬ bt f i = true := by rw [ep, ks_bon_iff hp]; exact fun e => hi e.symm
    refine ⟨fun a => ?_, fun a => ?_⟩
    · cases hz : bt z i
      · cases ho : bt o i
        · exact absurd ((hb i).mpr ⟨Or.inl a, ho, hz⟩) hnf
        · exact absurd ⟨i, Or.inl ⟨a, ho⟩⟩ hs
      · rfl
    · cases ho : bt o i
      · cases hz : bt z i
        · exact absurd ((hb i).mpr ⟨Or.inr a, ho, hz⟩) hnf
        · exact absurd ⟨i, Or.inr ⟨a, hz⟩⟩ hs
      · rfl
  have hvp : v = true ↔ bt (P c) p = true := by
    rw [hv, ks_nz]
    constructor
    · intro ⟨i, hi⟩
      rw [b_and, Bool.and_eq_true, ep, ks_bon_iff hp] at hi
      rw [hi.2]; exact hi.1
    · intro q
      exact ⟨p, by rw [b_and, q, hpf]; rfl⟩
  refine ⟨h.free (hl p hm) hfr, ?_, fun a hE hT => ?_⟩
  · rw [ep]
    refine h.assign hN (hl p hm) hfr v _ (Or.inr ⟨c, hc, rfl, ?_, hother⟩)
    cases v
    · rcases hm with q | q
      · exact absurd (hvp.mpr q) (by decide)
      · simpa using q
    · simpa using hvp.mp rfl
  · have hap : a p = v := by
      obtain ⟨i, hi⟩ := hT
      by_cases e : i = p
      · subst e
        rcases hi with ⟨a1, a2⟩ | ⟨a1, a2⟩
        · rw [a2, hvp.mpr a1]
        · cases v
          · exact a2
          · rw [hd i (hvp.mp rfl)] at a1; cases a1
      · rcases hi with ⟨a1, a2⟩ | ⟨a1, a2⟩
        · rw [(hE i).2 ((hother i e).1 a1)] at a2; cases a2
        · rw [(hE i).1 ((hother i e).2 a1)] at a2; cases a2
    intro i
    cases v
    · refine ⟨(hE i).1, fun q => ?_⟩
      have q : bt (z ||| f) i = true := q
      rw [b_or, Bool.or_eq_true] at q
      rcases q with q | q
      · exact (hE i).2 q
      · rw [ep, ks_bon_iff hp] at q; rw [← q]; exact hap
    · refine ⟨fun q => ?_, (hE i).2⟩
      have q : bt (o ||| f) i = true := q
      rw [b_or, Bool.or_eq_true] at q
      rcases q with q | q
      · exact (hE i).1 q
      · rw [ep, ks_bon_iff hp] at q; rw [← q]; exact hap
/-- the trail cut back to where it was -/
theorem ks_R.back {N : Nat} {P M : Nat → Int32} {n : Nat} {B Rs B1 Rs1 : Nat → Int32} {k k1 : Nat} {o z o1 z1 o2 z2 : Int32} (h : ks_R N P M n B Rs k o z) (hN : N ≤ 16) {P1 M1 : Nat → Int32} {n1 : Nat} (h1 : ks_R N P1 M1 n1 B1 Rs1 k1 o1 z1) (hX : ks_X B Rs k o z B1 Rs1 k1 o1 z1)
    (ho : ∀ i, bt o2 i = true ↔ (bt o1 i = true ∧ ∀ j, k ≤ j → j < k1 → bt (B1 j) i = false)) (hz : ∀ i, bt z2 i = true ↔ (bt z1 i = true ∧ ∀ j, k ≤ j → j < k1 → bt (B1 j) i = false)) : o2 = o ∧ z2 = z ∧ ks_R N P M n B1 Rs1 k o z := by
  obtain ⟨pl, a1, a2, a3, a4, a5⟩ := h
  obtain ⟨pl1, b1, b2, b3, b4, b5⟩ := h1
  have hpl : ∀ j, j < k → pl1 j = pl j := fun j hj => by
    have e := (hX.2.1 j hj).1
    have h1 := (b1 j (Nat.lt_of_lt_of_le hj hX.1))
    have h2 := a1 j hj
    rw [h1.2, h2.2] at e
    exact ks_on_inj (by omega) (by omega) e
  -- a place is past the cut, or the old trail's
  have hcut : ∀ i, (bt o i = true ∨ bt z i = true) → ∀ j, k ≤ j → j < k1 → bt (B1 j) i = false := fun i hi j hj hj1 => by
    obtain ⟨j0, hj0, e0⟩ := (a3 i).mp hi
    rw [(b1 j hj1).2]
    refine ks_bon_ne (by have := (b1 j hj1).1; omega) ?_
    intro e
    exact b2 j0 j (by omega) hj1 (by rw [hpl j0 hj0, e0, e])
  have hold : ∀ i, (bt o1 i = true ∨ bt z1 i = true) → (∀ j, k ≤ j → j < k1 → bt (B1 j) i = false) → (bt o i = true ∨ bt z i = true) := fun i hi hc => by
    obtain ⟨j0, hj0, e0⟩ := (b3 i).mp hi
    rcases Nat.lt_or_ge j0 k with q | q
    · exact (a3 i).mpr ⟨j0, q, by rw [← hpl j0 q]; exact e0⟩
    · have := hc j0 q hj0
      rw [(b1 j0 hj0).2, e0, ks_bon_self (by have := (b1 j0 hj0).1; omega)] at this
      cases this
  have eo : o2 = o := b_ext (fun i _ => by
    cases hb : bt o i
    · cases hb2 : bt o2 i
      · rfl
      · obtain ⟨q1, q2⟩ := (ho i).mp hb2
        rcases hold i (Or.inl q1) q2 with q | q
        · rw [hb] at q; cases q
        · have := (hX.2.2 i).2 q
          rw [b4 i q1] at this; cases this
    · exact (ho i).mpr ⟨(hX.2.2 i).1 hb, hcut i (Or.inl hb)⟩)
  have ez : z2 = z := b_ext (fun i _ => by
    cases hb : bt z i
    · cases hb2 : bt z2 i
      · rfl
      · obtain ⟨q1, q2⟩ := (hz i).mp hb2
        rcases hold i (Or.inr q1) q2 with q | q
        · have := b4 i ((hX.2.2 i).1 q)
          rw [q1] at this; cases this
        · rw [hb] at q; cases q
    · exact (hz i).mpr ⟨(hX.2.2 i).2 hb, hcut i (Or.inr hb)⟩)
  refine ⟨eo, ez, pl, fun j hj => ?_, a2, a3, a4, fun j hj => ?_⟩
  · rw [(hX.2.1 j hj).1]; exact a1 j hj
  · rw [(hX.2.1 j hj).2]; exact a5 j hj
