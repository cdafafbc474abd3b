/-! what single methods need -/
theorem ks_tst {x : Int32} {i : Nat} (hi : i < 32) : x &&& ks_on i = 0 ↔ bt x i = false := by
  constructor
  · intro h
    have a := ks_z.mp h i
    rw [b_and, ks_bon_self hi, Bool.and_true] at a
    exact a
  · intro h
    refine ks_z.mpr (fun j => ?_)
    rw [b_and, ks_bon hi]
    by_cases e : i = j
    · subst e; rw [h, Bool.false_and]
    · rw [decide_eq_false e, Bool.and_false]
theorem ks_tst1 {x : Int32} {i : Nat} (hi : i < 32) : ¬ x &&& ks_on i = 0 ↔ bt x i = true := by
  rw [ks_tst hi]; cases bt x i <;> simp
/-- of the wanted ones those under i are there -/
def ks_I (w : Int32) (i : Nat) (o : Int32) : Prop := ∀ q, bt o q = (bt w q && decide (q < i))
theorem ks_I.zero (w : Int32) : ks_I w 0 0 := fun q => by rw [b_0, decide_eq_false (by omega), Bool.and_false]
theorem ks_I.skip {w : Int32} {i : Nat} {o : Int32} (h : ks_I w i o) (hw : bt w i = false) : ks_I w (i + 1) o := fun q => by
  rw [h q]
  by_cases e : q = i
  · subst e; rw [hw, Bool.false_and, Bool.false_and]
  · congr 1
    exact decide_eq_decide.mpr (by omega)
theorem ks_I.add {w : Int32} {i : Nat} {o : Int32} (h : ks_I w i o) (hi : i < 32) (hw : bt w i = true) : ks_I w (i + 1) (o ||| ks_on i) := fun q => by
  rw [b_or, h q, ks_bon hi]
  by_cases e : i = q
  · subst e; rw [hw, decide_eq_true rfl, Bool.or_true, decide_eq_true (by omega)]; rfl
  · rw [decide_eq_false e, Bool.or_false]
    congr 1
    exact decide_eq_decide.mpr (by omega)
theorem ks_I.fr {w w2 : Int32} {i : Nat} {o z : Int32} (h : ks_I w i o) (h2 : ks_I w2 i z) : ks_fr o z i := by
  refine ⟨?_, ?_⟩
  · rw [h i, decide_eq_false (by omega), Bool.and_false]
  · rw [h2 i, decide_eq_false (by omega), Bool.and_false]
theorem ks_I.done {w : Int32} {o : Int32} (h : ks_I w 16 o) (hw : ∀ q, bt w q = true → q < 16) : o = w := b_ext (fun q _ => by
  rw [h q]
  cases hb : bt w q
  · rfl
  · rw [decide_eq_true (hw q hb)]; rfl)
theorem ks_R.none (N : Nat) (P M : Nat → Int32) (n : Nat) (B Rs : Nat → Int32) : ks_R N P M n B Rs 0 0 0 := by
  refine ⟨fun _ => 0, fun j hj => absurd hj (by omega), fun i j _ hj => absurd hj (by omega), fun i => ⟨fun h => ?_, fun ⟨j, hj, _⟩ => absurd hj (by omega)⟩, fun i h => ?_, fun j hj => absurd hj (by omega)⟩
  · simp [b_0] at h
  · simp [b_0] at h
/-- the first free place -/
def ks_ff (N : Nat) (o z r : Int32) : Prop := (r = 0 ∧ ∀ p, p < N → ¬ ks_fr o z p) ∨ ∃ p, p < N ∧ r = ks_on p ∧ ks_fr o z p ∧ ∀ q, p < q → q < N → ¬ ks_fr o z q
theorem ks_max0 {k : Nat} (h : k < 2 ^ 31) : (if (0 : Int32) < nI k then nI k else 0) = nI k := by
  rcases Nat.eq_zero_or_pos k with e | e
  · subst e; rfl
  · rw [if_pos]
    rw [← nI_0]; exact nI_lt e h
theorem ks_min {a k : Nat} (h : a ≤ k) (hk : k < 2 ^ 31) : (if nI k < nI a then nI k else nI a) = nI a := if_neg (nI_nlt h hk)
/-- a boolean as the machine has it -/
def ks_b (v : Bool) : Int32 := if v = true then 1 else 0
/-- what goBackTo leaves of a set of values -/
def ks_cut (B : Nat → Int32) (lo hi : Nat) (o o2 : Int32) : Prop := ∀ i, bt o2 i = true ↔ (bt o i = true ∧ ∀ j, lo ≤ j → j < hi → bt (B j) i = false)
theorem ks_cut.zero (B : Nat → Int32) (lo : Nat) (o : Int32) : ks_cut B lo lo o o := fun i => ⟨fun h => ⟨h, fun j h1 h2 => absurd h1 (by omega)⟩, fun h => h.1⟩
theorem ks_cut.step {B : Nat → Int32} {lo hi : Nat} {o o2 : Int32} (h : ks_cut B lo hi o o2) (hl : lo ≤ hi) : ks_cut B lo (hi + 1) o (o2 &&& (B hi ^^^ (-1))) := fun i => by
  rw [ks_andn, Bool.and_eq_true, h i]
  constructor
  · intro ⟨⟨a, b⟩, d⟩
    refine ⟨a, fun j h1 h2 => ?_⟩
    by_cases e : j = hi
    · subst e; simpa using d
    · exact b j h1 (by omega)
  · intro ⟨a, b⟩
    exact ⟨⟨a, fun j h1 h2 => b j h1 (by omega)⟩, by rw [b hi hl (by omega)]; rfl⟩
/-- what propagate leaves, and answers -/
def ks_pp (N : Nat) (P M : Nat → Int32) (n : Nat) (B Rs : Nat → Int32) (k : Nat) (o z : Int32) (r : Int32) (B' Rs' : Nat → Int32) (k' : Nat) (o' z' : Int32) : Prop :=
  ks_R N P M n B' Rs' k' o' z' ∧ ks_X B Rs k o z B' Rs' k' o' z' ∧ (∀ a, ks_E o z a → ks_M P M n a → ks_E o' z' a) ∧
  ((r = -1 ∧ ∀ c, c < n → ks_U (P c) (M c) o' z') ∨ (¬ r = -1 ∧ ∃ c, c < n ∧ r = (P c ||| M c) ∧ ks_F (P c) (M c) o' z'))
theorem ks_mem_ne {N : Nat} (hN : N ≤ 16) {P M : Int32} (h : ks_ok N P M) : ¬ (P ||| M) = -1 := by
  intro e
  have a : bt (P ||| M) 20 = true := by rw [e]; decide
  have := h.2 20 ((ks_memb _ _ _).mp a)
  omega
section KL
variable {p : Program} {l : Launch} {e : Env} {R : Room} {s : State} {m : MethodId} {args : Array Value} {below : List Frame} {meth : Method} {c : Code} {cells slots : Nat} {Q : State → Prop}
/-- a loop: the state x of its head, n rounds at most -/
theorem ks_wl {σ : Type} (I : Nat → σ → Heap → List Loc → Array Slot → Prop) (pcH : Nat)
    (step : ∀ n x H locs ls, I (n + 1) x H locs ls → (∀ x' H' locs' ls', I n x' H' locs' ls' → W p l e R s m args below meth c H' locs' cells slots Q (F0 m pcH ls' [])) → W p l e R s m args below meth c H locs cells slots Q (F0 m pcH ls []))
    (zero : ∀ x H locs ls, ¬ I 0 x H locs ls) : ∀ n x H locs ls, I n x H locs ls → W p l e R s m args below meth c H locs cells slots Q (F0 m pcH ls []) := by
  intro n
  induction n with
  | zero => intro x H locs ls h; exact absurd h (zero x H locs ls)
  | succ n ih => intro x H locs ls h; exact step n x H locs ls h (fun x' H' locs' ls' h' => ih x' H' locs' ls' h')
end KL
section KJ
variable {p : Program} {l : Launch} {e : Env} {R : Room} {s : State} {m : MethodId} {args : Array Value} {below : List Frame} {meth : Method} {c : Code} {cells slots : Nat} {Q : State → Prop} {H0 : Heap} {locs0 : List Loc} {g : JFrame}
/-- ways that meet at one place -/
theorem ks_join {σ : Type} (I : σ → Heap → List Loc → Array Slot → Prop) (pcJ : Nat)
    (after : ∀ x H locs ls, I x H locs ls → W p l e R s m args below meth c H locs cells slots Q (F0 m pcJ ls []))
    (before : (∀ x H locs ls, I x H locs ls → W p l e R s m args below meth c H locs cells slots Q (F0 m pcJ ls [])) → W p l e R s m args below meth c H0 locs0 cells slots Q g) : W p l e R s m args below meth c H0 locs0 cells slots Q g := before after
end KJ
