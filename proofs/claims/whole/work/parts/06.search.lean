/-! the search, round by round -/
theorem ks_M.ext {P M P' M' : Nat → Int32} {g : Nat} (h : ∀ c, c < g → P' c = P c ∧ M' c = M c) {a : Nat → Bool} : ks_M P' M' g a ↔ ks_M P M g a := by
  constructor
  · intro q c hc
    have := q c hc
    rw [(h c hc).1, (h c hc).2] at this
    exact this
  · intro q c hc
    rw [(h c hc).1, (h c hc).2]
    exact q c hc
theorem ks_L.ext {N : Nat} {P M P' M' : Nat → Int32} {g : Nat} {o z r : Int32} (h : ∀ c, c < g → P' c = P c ∧ M' c = M c) (hL : ks_L N (ks_Q P' M' g o z) r) : ks_L N (ks_Q P M g o z) r :=
  hL.congr (fun v hv => ⟨fun q => ⟨q.1, (ks_M.ext h).mp q.2⟩, fun q => ⟨q.1, (ks_M.ext h).mpr q.2⟩⟩)
/-- the same models -/
def ks_eqv (N : Nat) (P M : Nat → Int32) (g : Nat) (o z o' z' : Int32) : Prop := ∀ v, v < 2 ^ N → (ks_Q P M g o z v.testBit ↔ ks_Q P M g o' z' v.testBit)
theorem ks_eqv.rf {N : Nat} {P M : Nat → Int32} {g : Nat} {o z : Int32} : ks_eqv N P M g o z o z := fun _ _ => Iff.rfl
theorem ks_eqv.tr {N : Nat} {P M : Nat → Int32} {g : Nat} {o z o1 z1 o2 z2 : Int32} (h : ks_eqv N P M g o z o1 z1) (h' : ks_eqv N P M g o1 z1 o2 z2) : ks_eqv N P M g o z o2 z2 := fun v hv => (h v hv).trans (h' v hv)
theorem ks_eqv.L {N : Nat} {P M : Nat → Int32} {g : Nat} {o z o1 z1 r : Int32} (h : ks_eqv N P M g o z o1 z1) (hL : ks_L N (ks_Q P M g o1 z1) r) : ks_L N (ks_Q P M g o z) r := hL.congr (fun v hv => (h v hv).symm)
/-- the row has grown behind what it was -/
def ks_gr (P M : Nat → Int32) (n : Nat) (P' M' : Nat → Int32) (n' : Nat) : Prop := n ≤ n' ∧ ∀ c, c < n → P' c = P c ∧ M' c = M c
theorem ks_gr.rf {P M : Nat → Int32} {n : Nat} : ks_gr P M n P M n := ⟨Nat.le_refl n, fun _ _ => ⟨rfl, rfl⟩⟩
theorem ks_gr.tr {P M P1 M1 P2 M2 : Nat → Int32} {n n1 n2 : Nat} (h : ks_gr P M n P1 M1 n1) (h' : ks_gr P1 M1 n1 P2 M2 n2) : ks_gr P M n P2 M2 n2 :=
  ⟨Nat.le_trans h.1 h'.1, fun c hc => ⟨((h'.2 c (Nat.lt_of_lt_of_le hc h.1)).1).trans (h.2 c hc).1, ((h'.2 c (Nat.lt_of_lt_of_le hc h.1)).2).trans (h.2 c hc).2⟩⟩
theorem ks_gr.put (P M : Nat → Int32) (n : Nat) (p m : Int32) : ks_gr P M n (upd P n p) (upd M n m) (n + 1) :=
  ⟨by omega, fun c hc => ⟨pk_un (by omega), pk_un (by omega)⟩⟩
theorem ks_gr.R {N : Nat} {P M P' M' : Nat → Int32} {n n' : Nat} {B Rs : Nat → Int32} {k : Nat} {o z : Int32} (h : ks_gr P M n P' M' n') (hR : ks_R N P M n B Rs k o z) : ks_R N P' M' n' B Rs k o z := hR.mono h.1 h.2
theorem ks_gr.low {P M P' M' : Nat → Int32} {n n' g : Nat} (h : ks_gr P M n P' M' n') (hg : g ≤ n) : ∀ c, c < g → P' c = P c ∧ M' c = M c := fun c hc => h.2 c (Nat.lt_of_lt_of_le hc hg)
/-- propagate keeps the models -/
theorem ks_pp.eqv {N : Nat} {P M : Nat → Int32} {g n : Nat} {B Rs : Nat → Int32} {k : Nat} {o z r : Int32} {B' Rs' : Nat → Int32} {k' : Nat} {o' z' : Int32} (h : ks_pp N P M n B Rs k o z r B' Rs' k' o' z') (hW : ks_W N P M g n) : ks_eqv N P M g o z o' z' :=
  fun v _ => ⟨fun q => ⟨h.2.2.1 _ q.1 (hW.all.mp q.2), q.2⟩, fun q => ⟨h.2.1.E q.1, q.2⟩⟩
theorem ks_eqv.ext {N : Nat} {P M P' M' : Nat → Int32} {g : Nat} {o z o' z' : Int32} (h : ∀ c, c < g → P' c = P c ∧ M' c = M c) (hE : ks_eqv N P' M' g o z o' z') : ks_eqv N P M g o z o' z' := fun v hv => by
  have := hE v hv
  unfold ks_Q at this ⊢
  rw [ks_M.ext h] at this
  exact this
/-- a false clause: no model -/
theorem ks_L.conflict {N : Nat} {P M : Nat → Int32} {g n c : Nat} {o z : Int32} (hW : ks_W N P M g n) (hc : c < n) (hF : ks_F (P c) (M c) o z) : ks_L N (ks_Q P M g o z) (-1) :=
  Or.inl ⟨rfl, fun v _ q => ks_F_no hF q.1 (hW.2.2.2 c hc _ q.2)⟩
/-- the refuted place -/
def ks_rf (N : Nat) (P M : Nat → Int32) (g rd k : Nat) (rf o z : Int32) : Prop := (rd = 0 ∧ rf = 0) ∨ ∃ p, p < N ∧ rf = ks_on p ∧ ks_fr o z p ∧ rd ≤ k + 1 ∧ (∀ v, v < 2 ^ N → ks_Q P M g o z v.testBit → v.testBit p = true) ∧ ∀ q, p < q → q < N → ¬ ks_fr o z q
theorem ks_rf.round {N : Nat} {P M P1 M1 : Nat → Int32} {g rd n1 : Nat} {rf o z : Int32} {B Rs : Nat → Int32} {k : Nat} (h : ks_rf N P M g rd k rf o z) (hR : ks_R N P1 M1 n1 B Rs k o z) : rd ≤ N := by
  rcases h with ⟨h, -⟩ | ⟨p, h1, h2, h3, h4, h5, h6⟩
  · omega
  · have := hR.free h1 h3; omega
theorem ks_X.grow {N : Nat} (hN : N ≤ 16) {P M P1 M1 : Nat → Int32} {n n1 : Nat} {B Rs B1 Rs1 : Nat → Int32} {k k1 : Nat} {o z o1 z1 : Int32} (hR : ks_R N P M n B Rs k o z) (hR1 : ks_R N P1 M1 n1 B1 Rs1 k1 o1 z1) (hX : ks_X B Rs k o z B1 Rs1 k1 o1 z1) {p : Nat} (hf : ks_fr o z p) (hf1 : ¬ ks_fr o1 z1 p) : k + 1 ≤ k1 := by
  obtain ⟨pl, a1, a2, a3, a4, a5⟩ := hR
  obtain ⟨pl1, b1, b2, b3, b4, b5⟩ := hR1
  have hset : bt o1 p = true ∨ bt z1 p = true := by
    cases ho : bt o1 p
    · cases hz : bt z1 p
      · exact absurd ⟨ho, hz⟩ hf1
      · exact Or.inr rfl
    · exact Or.inl rfl
  obtain ⟨j, hj, e⟩ := (b3 p).mp hset
  rcases Nat.lt_or_ge j k with q | q
  · exfalso
    have e1 := (hX.2.1 j q).1
    have h1 := b1 j hj
    have h2 := a1 j q
    rw [h1.2, h2.2] at e1
    have e2 := ks_on_inj (by omega) (by omega) e1
    exact ks_fr_ne hf ((a3 p).mpr ⟨j, q, by rw [← e2]; exact e⟩) rfl
  · omega
theorem ks_fr.mono {B Rs B1 Rs1 : Nat → Int32} {k k1 : Nat} {o z o1 z1 : Int32} (hX : ks_X B Rs k o z B1 Rs1 k1 o1 z1) {p : Nat} (h : ks_fr o1 z1 p) : ks_fr o z p := by
  refine ⟨?_, ?_⟩
  · cases ho : bt o p
    · rfl
    · have := (hX.2.2 p).1 ho; rw [h.1] at this; cases this
  · cases hz : bt z p
    · rfl
    · have := (hX.2.2 p).2 hz; rw [h.2] at this; cases this
theorem ks_rf.next {N : Nat} (hN : N ≤ 16) {P M P1 M1 P2 M2 : Nat → Int32} {g rd n1 n2 : Nat} {rf o z o1 z1 : Int32} {B Rs B1 Rs1 : Nat → Int32} {k k1 : Nat} (h : ks_rf N P M g rd k rf o z) (hR : ks_R N P1 M1 n1 B Rs k o z) (hR1 : ks_R N P2 M2 n2 B1 Rs1 k1 o1 z1) (hX : ks_X B Rs k o z B1 Rs1 k1 o1 z1) {p : Nat} (hp : p < N) (hf : ks_fr o1 z1 p) (hup : ∀ q, p < q → q < N → ¬ ks_fr o1 z1 q) (hne : ¬ ks_on p = rf) (hl : ∀ v, v < 2 ^ N → ks_Q P M g o1 z1 v.testBit → v.testBit p = true) : ks_rf N P M g (rd + 1) k1 (ks_on p) o1 z1 := by
  refine Or.inr ⟨p, hp, rfl, hf, ?_, hl, hup⟩
  rcases h with ⟨h, -⟩ | ⟨p', h1, h2, h3, h4, h5, h6⟩
  · omega
  · have hnf : ¬ ks_fr o1 z1 p' := by
      intro hf'
      rcases Nat.lt_trichotomy p p' with q | q | q
      · exact hup p' q h1 hf'
      · exact hne (by rw [h2, q])
      · exact h6 p q hp (ks_fr.mono hX hf)
    have := ks_X.grow hN hR hR1 hX h3 hnf
    omega
theorem ks_rf.high {N : Nat} (hN : N ≤ 16) {P M : Nat → Int32} {g rd : Nat} {rf o z o1 z1 : Int32} {B Rs B1 Rs1 : Nat → Int32} {k k1 : Nat} (h : ks_rf N P M g rd k rf o z) (hX : ks_X B Rs k o z B1 Rs1 k1 o1 z1) {p : Nat} (hp : p < N) (he : ks_on p = rf) : ∀ v, v < 2 ^ N → ks_Q P M g o1 z1 v.testBit → v.testBit p = true := by
  intro v hv q
  rcases h with ⟨-, h⟩ | ⟨p', h1, h2, h3, h4, h5, h6⟩
  · rw [h] at he; exact absurd he (ks_on_ne0 (by omega))
  · have := ks_on_inj (by omega) (by omega) (he.trans h2)
    subst this
    exact h5 v hv ⟨hX.E q.1, q.2⟩
/-- two literals against each other -/
theorem ks_L.clash {N : Nat} {P M : Nat → Int32} {g : Nat} {o z : Int32} (h : ¬ o &&& z = 0) : ks_L N (ks_Q P M g o z) (-1) := by
  obtain ⟨i, hi⟩ := ks_nz.mp h
  rw [b_and, Bool.and_eq_true] at hi
  refine Or.inl ⟨rfl, fun v _ q => ?_⟩
  have a := (q.1 i).1 hi.1
  rw [(q.1 i).2 hi.2] at a
  cases a
theorem ks_disj {o z : Int32} (h : o &&& z = 0) : ∀ i, bt o i = true → bt z i = false := fun i hi => by
  have a := ks_z.mp h i
  rw [b_and, hi, Bool.true_and] at a
  exact a
