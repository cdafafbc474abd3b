/-! what a lesson rests on; the row of clauses; the least model -/
/-- positions from lo on are done: what is involved (V) has its reasons in V, or is a root (r) -/
def ks_C (B Rs : Nat → Int32) (k lo : Nat) (cf V r : Int32) : Prop :=
  (∀ i, bt cf i = true → bt V i = true) ∧
  (∀ j, lo ≤ j → j < k → ¬ V &&& B j = 0 → (Rs j = 0 → ∀ i, bt (B j) i = true → bt r i = true) ∧ (¬ Rs j = 0 → ∀ i, bt (Rs j) i = true → bt V i = true)) ∧
  ∀ i, bt r i = true → ∃ j, j < k ∧ bt (B j) i = true
theorem ks_C.init (B Rs : Nat → Int32) (k : Nat) (cf : Int32) : ks_C B Rs k k cf cf 0 :=
  ⟨fun _ h => h, fun j h1 h2 => absurd h1 (by omega), fun i h => by rw [b_0] at h; cases h⟩
theorem ks_C.skip {B Rs : Nat → Int32} {k lo : Nat} {cf V r : Int32} (h : ks_C B Rs k (lo + 1) cf V r) (e : V &&& B lo = 0) : ks_C B Rs k lo cf V r := by
  refine ⟨h.1, fun j h1 h2 h3 => ?_, h.2.2⟩
  by_cases q : j = lo
  · subst q; exact absurd e h3
  · exact h.2.1 j (by omega) h2 h3
theorem ks_C.root {B Rs : Nat → Int32} {k lo : Nat} {cf V r : Int32} (h : ks_C B Rs k (lo + 1) cf V r) (hlo : lo < k) (e : Rs lo = 0) : ks_C B Rs k lo cf V (r ||| B lo) := by
  refine ⟨h.1, fun j h1 h2 h3 => ?_, fun i hi => ?_⟩
  · by_cases q : j = lo
    · subst q
      exact ⟨fun _ i hi => by rw [b_or, hi, Bool.or_true], fun q => absurd e q⟩
    · have a := h.2.1 j (by omega) h2 h3
      exact ⟨fun x i hi => by rw [b_or, a.1 x i hi, Bool.true_or], a.2⟩
  · rw [b_or, Bool.or_eq_true] at hi
    rcases hi with q | q
    · exact h.2.2 i q
    · exact ⟨lo, hlo, q⟩
theorem ks_C.more {N : Nat} {P M : Nat → Int32} {n : Nat} {B Rs : Nat → Int32} {k lo : Nat} {o z cf V r : Int32} (hR : ks_R N P M n B Rs k o z) (hN : N ≤ 16) (h : ks_C B Rs k (lo + 1) cf V r) (hlo : lo < k) (e : ¬ Rs lo = 0) : ks_C B Rs k lo cf (V ||| Rs lo) r := by
  obtain ⟨pl, h1, h2, h3, h4, h5⟩ := hR
  refine ⟨fun i hi => by rw [b_or, h.1 i hi, Bool.true_or], fun j q1 q2 q3 => ?_, h.2.2⟩
  by_cases q : j = lo
  · subst q
    exact ⟨fun x => absurd x e, fun _ i hi => by rw [b_or, hi, Bool.or_true]⟩
  · have hj : ¬ V &&& B j = 0 := by
      obtain ⟨i, hi⟩ := ks_nz.mp q3
      rw [b_and, b_or, Bool.and_eq_true, Bool.or_eq_true] at hi
      obtain ⟨hi1, hi2⟩ := hi
      have hp := h1 j q2
      have ei : pl j = i := by rw [hp.2, ks_bon_iff (by omega)] at hi2; exact hi2
      rcases hi1 with x | x
      · exact ks_nz.mpr ⟨i, by rw [b_and, x, hi2]; rfl⟩
      · exfalso
        rcases h5 lo hlo with y | ⟨c, c1, c2, c3, c4⟩
        · exact e y
        · rw [c2, ks_memb] at x
          by_cases y : i = pl lo
          · exact h2 lo j (by omega) q2 (by rw [ei, y])
          · have w : ∃ h, h < lo ∧ pl h = i := by
              rcases x with x | x
              · exact ((c4 i y).1 x).2
              · exact ((c4 i y).2 x).2
            obtain ⟨j2, w1, w2⟩ := w
            exact h2 j2 j (by omega) q2 (by rw [w2, ei])
    have a := h.2.1 j (by omega) q2 hj
    exact ⟨a.1, fun x i hi => by rw [b_or, a.2 x i hi, Bool.true_or]⟩
/-- from the roots alone the units lead to the conflict again -/
theorem ks_lesson {N : Nat} {P M : Nat → Int32} {n : Nat} {B Rs : Nat → Int32} {k : Nat} {o z V r : Int32} (hR : ks_R N P M n B Rs k o z) (hN : N ≤ 16) {c : Nat} (hc : c < n) (hdis : ∀ c, c < n → ∀ i, bt (P c) i = true → bt (M c) i = false) (hC : ks_C B Rs k 0 (P c ||| M c) V r) (hF : ks_F (P c) (M c) o z) {o2 z2 : Int32} (hd2 : ∀ i, bt o2 i = true → bt z2 i = false) (hfix : ∀ c, c < n → ks_U (P c) (M c) o2 z2)
    (ho : ∀ i, bt (r &&& o) i = true → bt o2 i = true) (hz : ∀ i, bt (r &&& z) i = true → bt z2 i = true) : False := by
  obtain ⟨pl, h1, h2, h3, h4, h5⟩ := hR
  have key : ∀ m j, j < m → j < k → bt V (pl j) = true → (bt o (pl j) = true → bt o2 (pl j) = true) ∧ (bt z (pl j) = true → bt z2 (pl j) = true) := by
    intro m
    induction m with
    | zero => intro j hj; exact absurd hj (by omega)
    | succ m ih =>
      intro j hj hjk hV
      have hp := h1 j hjk
      have hbj : bt (B j) (pl j) = true := by rw [hp.2]; exact ks_bon_self (by omega)
      have hcl := hC.2.1 j (by omega) hjk (ks_nz.mpr ⟨pl j, by rw [b_and, hV, hbj]; rfl⟩)
      rcases h5 j hjk with q | ⟨d, d1, d2, d3, d4⟩
      · have hr := hcl.1 q (pl j) hbj
        exact ⟨fun x => ho _ (by rw [b_and, hr, x]; rfl), fun x => hz _ (by rw [b_and, hr, x]; rfl)⟩
      · by_cases q : Rs j = 0
        · have hr := hcl.1 q (pl j) hbj
          exact ⟨fun x => ho _ (by rw [b_and, hr, x]; rfl), fun x => hz _ (by rw [b_and, hr, x]; rfl)⟩
        · have hsub := hcl.2 q
          rw [d2] at hsub
          have hoth : ∀ i, i ≠ pl j → (bt (P d) i = true → bt z2 i = true) ∧ (bt (M d) i = true → bt o2 i = true) := by
            intro i hi
            refine ⟨fun x => ?_, fun x => ?_⟩
            · obtain ⟨y, j2, y1, y2⟩ := (d4 i hi).1 x
              have := ih j2 (by omega) (by omega) (by rw [y2]; exact hsub i ((ks_memb _ _ _).mpr (Or.inl x)))
              rw [y2] at this
              exact this.2 y
            · obtain ⟨y, j2, y1, y2⟩ := (d4 i hi).2 x
              have := ih j2 (by omega) (by omega) (by rw [y2]; exact hsub i ((ks_memb _ _ _).mpr (Or.inr x)))
              rw [y2] at this
              exact this.1 y
          have hnf : ∀ i, i ≠ pl j → ks_mem (P d) (M d) i → ¬ ks_fr o2 z2 i := by
            intro i hi hm hf
            rcases hm with x | x
            · have := (hoth i hi).1 x; rw [hf.2] at this; cases this
            · have := (hoth i hi).2 x; rw [hf.1] at this; cases this
          rcases hfix d d1 with ⟨i, hi⟩ | ⟨i1, i2, w1, w2, w3, w4, w5⟩
          · by_cases ei : i = pl j
            · subst ei
              rcases d3 with ⟨u1, u2⟩ | ⟨u1, u2⟩
              · rcases hi with ⟨_, y⟩ | ⟨y, _⟩
                · exact ⟨fun _ => y, fun x => by rw [h4 _ u2] at x; cases x⟩
                · rw [hdis d d1 _ u1] at y; cases y
              · rcases hi with ⟨y, _⟩ | ⟨_, y⟩
                · rw [hdis d d1 _ y] at u1; cases u1
                · exact ⟨fun x => (by rw [h4 _ x] at u2; cases u2), fun _ => y⟩
            · exfalso
              rcases hi with ⟨x, y⟩ | ⟨x, y⟩
              · have := (hoth i ei).1 x; rw [hd2 i y] at this; cases this
              · have := (hoth i ei).2 x; rw [hd2 i this] at y; cases y
          · exfalso
            by_cases e1 : i1 = pl j
            · exact hnf i2 (fun e => w1 (by rw [e1, e])) w3 w5
            · exact hnf i1 e1 w2 w4
  have hoth : ∀ i, (bt (P c) i = true → bt z2 i = true) ∧ (bt (M c) i = true → bt o2 i = true) := by
    intro i
    refine ⟨fun x => ?_, fun x => ?_⟩
    · have y := (hF i).1 x
      obtain ⟨j, y1, y2⟩ := (h3 i).mp (Or.inr y)
      have := key (j + 1) j (by omega) y1 (by rw [y2]; exact hC.1 i ((ks_memb _ _ _).mpr (Or.inl x)))
      rw [y2] at this
      exact this.2 y
    · have y := (hF i).2 x
      obtain ⟨j, y1, y2⟩ := (h3 i).mp (Or.inl y)
      have := key (j + 1) j (by omega) y1 (by rw [y2]; exact hC.1 i ((ks_memb _ _ _).mpr (Or.inr x)))
      rw [y2] at this
      exact this.1 y
  rcases hfix c hc with ⟨i, hi⟩ | ⟨i1, i2, w1, w2, w3, w4, w5⟩
  · rcases hi with ⟨x, y⟩ | ⟨x, y⟩
    · have := (hoth i).1 x; rw [hd2 i y] at this; cases this
    · have := (hoth i).2 x; rw [hd2 i this] at y; cases y
  · rcases w2 with x | x
    · have := (hoth i1).1 x; rw [w4.2] at this; cases this
    · have := (hoth i1).2 x; rw [w4.1] at this; cases this
/-- a clause that no assignment with the roots' values can leave false -/
theorem ks_lesson_T {o z : Int32} {a : Nat → Bool} (h : ¬ ks_E o z a) : ks_T z o a := by
  apply Classical.byContradiction
  intro q
  apply h
  intro i
  refine ⟨fun x => ?_, fun x => ?_⟩
  · cases ha : a i
    · exact absurd ⟨i, Or.inr ⟨x, ha⟩⟩ q
    · rfl
  · cases ha : a i
    · rfl
    · exact absurd ⟨i, Or.inl ⟨x, ha⟩⟩ q
/-! the row of clauses: g given ones, lessons behind them -/
def ks_ok (N : Nat) (P M : Int32) : Prop := (∀ i, bt P i = true → bt M i = false) ∧ ∀ i, ks_mem P M i → i < N
def ks_W (N : Nat) (P M : Nat → Int32) (g n : Nat) : Prop := g ≤ n ∧ n ≤ g + 64 ∧ (∀ c, c < n → ks_ok N (P c) (M c)) ∧ ∀ c, c < n → ∀ a, ks_M P M g a → ks_T (P c) (M c) a
theorem ks_W.all {N : Nat} {P M : Nat → Int32} {g n : Nat} (h : ks_W N P M g n) {a : Nat → Bool} : ks_M P M g a ↔ ks_M P M n a :=
  ⟨fun q c hc => h.2.2.2 c hc a q, fun q c hc => q c (Nat.lt_of_lt_of_le hc h.1)⟩
theorem ks_Mupd {P M : Nat → Int32} {g n : Nat} (hg : g ≤ n) (p m : Int32) {a : Nat → Bool} : ks_M (upd P n p) (upd M n m) g a ↔ ks_M P M g a := by
  unfold ks_M
  constructor
  · intro q c hc
    have := q c hc
    rw [pk_un (by omega), pk_un (by omega)] at this
    exact this
  · intro q c hc
    rw [pk_un (by omega), pk_un (by omega)]
    exact q c hc
theorem ks_W.lesson {N : Nat} {P M : Nat → Int32} {g n : Nat} {p m : Int32} (h : ks_W N P M g n) (hn : n < g + 64) (hk : ks_ok N p m) (hT : ∀ a, ks_M P M g a → ks_T p m a) : ks_W N (upd P n p) (upd M n m) g (n + 1) := by
  refine ⟨by have := h.1; omega, by omega, fun c hc => ?_, fun c hc a ha => ?_⟩
  · by_cases e : c = n
    · subst e; rw [pk_us, pk_us]; exact hk
    · rw [pk_un e, pk_un e]; exact h.2.2.1 c (by omega)
  · have hb := (ks_Mupd h.1 p m).mp ha
    by_cases e : c = n
    · rw [e, pk_us, pk_us]; exact hT a hb
    · rw [pk_un e, pk_un e]; exact h.2.2.2 c (by omega) a hb
theorem ks_W.forget {N : Nat} {P M : Nat → Int32} {g n : Nat} (h : ks_W N P M g n) : ks_W N P M g g :=
  ⟨Nat.le_refl g, by omega, fun c hc => h.2.2.1 c (Nat.lt_of_lt_of_le hc h.1), fun c hc a ha => ha c hc⟩
theorem ks_W.clear (N : Nat) (P M : Nat → Int32) : ks_W N P M 0 0 :=
  ⟨Nat.le_refl 0, by omega, fun c hc => absurd hc (by omega), fun c hc => absurd hc (by omega)⟩
theorem ks_M.give {P M : Nat → Int32} {g n : Nat} (hg : g ≤ n) (p m x y : Int32) {a : Nat → Bool} : ks_M (upd (upd P n x) g p) (upd (upd M n y) g m) (g + 1) a ↔ ks_M P M g a ∧ ks_T p m a := by
  constructor
  · intro q
    refine ⟨fun c hc => ?_, ?_⟩
    · have := q c (by omega)
      rw [pk_un (by omega), pk_un (by omega), pk_un (by omega), pk_un (by omega)] at this
      exact this
    · have := q g (by omega)
      rw [pk_us, pk_us] at this
      exact this
  · intro ⟨q1, q2⟩ c hc
    by_cases e : c = g
    · subst e; rw [pk_us, pk_us]; exact q2
    · rw [pk_un e, pk_un e, pk_un (by omega), pk_un (by omega)]; exact q1 c (by omega)
theorem ks_W.give {N : Nat} {P M : Nat → Int32} {g n : Nat} {p m : Int32} (h : ks_W N P M g n) (hk : ks_ok N p m) : ks_W N (upd (upd P n (P g)) g p) (upd (upd M n (M g)) g m) (g + 1) (n + 1) := by
  refine ⟨by have := h.1; omega, by have := h.2.1; omega, fun c hc => ?_, fun c hc a ha => ?_⟩
  · by_cases e : c = g
    · subst e; rw [pk_us, pk_us]; exact hk
    · rw [pk_un e, pk_un e]
      by_cases e2 : c = n
      · subst e2; rw [pk_us, pk_us]; exact h.2.2.1 g (by have := h.1; omega)
      · rw [pk_un e2, pk_un e2]; exact h.2.2.1 c (by omega)
  · obtain ⟨h1, h2⟩ := (ks_M.give h.1 p m (P g) (M g)).mp ha
    by_cases e : c = g
    · subst e; rw [pk_us, pk_us]; exact h2
    · rw [pk_un e, pk_un e]
      by_cases e2 : c = n
      · subst e2; rw [pk_us, pk_us]; exact h.2.2.2 g (by have := h.1; omega) a h1
      · rw [pk_un e2, pk_un e2]; exact h.2.2.2 c (by omega) a h1
/-! the least one -/
def ks_L (N : Nat) (F : (Nat → Bool) → Prop) (r : Int32) : Prop := (r = -1 ∧ ∀ v, v < 2 ^ N → ¬ F v.testBit) ∨ ∃ v, v < 2 ^ N ∧ r = nI v ∧ F v.testBit ∧ ∀ w, w < v → ¬ F w.testBit
theorem ks_L.congr {N : Nat} {F G : (Nat → Bool) → Prop} {r : Int32} (h : ks_L N F r) (hc : ∀ v, v < 2 ^ N → (F v.testBit ↔ G v.testBit)) : ks_L N G r := by
  rcases h with ⟨e, q⟩ | ⟨v, h1, h2, h3, h4⟩
  · exact Or.inl ⟨e, fun v hv x => q v hv ((hc v hv).mpr x)⟩
  · exact Or.inr ⟨v, h1, h2, (hc v h1).mp h3, fun w hw x => h4 w hw ((hc w (by omega)).mpr x)⟩
theorem ks_pow {N v : Nat} (hN : N ≤ 16) (h : v < 2 ^ N) : v < 65536 := Nat.lt_of_lt_of_le h (Nat.pow_le_pow_right (by decide) hN)
theorem ks_nIm {v : Nat} (h : v < 65536) : ¬ nI v = -1 := by
  intro e
  have a := nI_pos' (n := v) (by omega)
  rw [e] at a
  exact absurd a (by decide)
theorem ks_L.uniq {N : Nat} {F : (Nat → Bool) → Prop} {r s : Int32} (h : ks_L N F r) (h' : ks_L N F s) : r = s := by
  rcases h with ⟨e, q⟩ | ⟨v, h1, h2, h3, h4⟩ <;> rcases h' with ⟨e', q'⟩ | ⟨v', h1', h2', h3', h4'⟩
  · rw [e, e']
  · exact absurd h3' (q v' h1')
  · exact absurd h3 (q' v h1)
  · rcases Nat.lt_trichotomy v v' with x | x | x
    · exact absurd h3 (h4' v x)
    · rw [h2, h2', x]
    · exact absurd h3' (h4 v' x)
/-- a model under the given clauses and the values o, z -/
def ks_Q (P M : Nat → Int32) (g : Nat) (o z : Int32) (a : Nat → Bool) : Prop := ks_E o z a ∧ ks_M P M g a
theorem ks_L.full {N : Nat} {P M : Nat → Int32} {g n : Nat} {B Rs : Nat → Int32} {k : Nat} {o z : Int32} (hN : N ≤ 16) (hR : ks_R N P M n B Rs k o z) (hW : ks_W N P M g n) (hall : ∀ p, p < N → ¬ ks_fr o z p) (hfix : ∀ c, c < n → ks_U (P c) (M c) o z) : ks_L N (ks_Q P M g o z) o := by
  obtain ⟨v, h1, h2, h3⟩ := ks_num hN (fun i hi => hR.lt i (Or.inl hi))
  have hE : ks_E o z v.testBit := fun i => ⟨fun q => by rw [h3]; exact q, fun q => by
    rw [h3]
    cases ho : bt o i
    · rfl
    · rw [hR.dis i ho] at q; cases q⟩
  refine Or.inr ⟨v, h1, h2, ⟨hE, hW.all.mpr (fun c hc => ?_)⟩, fun w hw hq => ?_⟩
  · rcases hfix c hc with q | ⟨i, j, w1, w2, w3, w4, w5⟩
    · exact ks_S_T q hE
    · exact absurd w4 (hall i ((hW.2.2.1 c hc).2 i w2))
  · have : w = v := Nat.eq_of_testBit_eq (fun i => by
      rcases Nat.lt_or_ge i N with x | x
      · cases ho : bt o i
        · cases hz : bt z i
          · exact absurd ⟨ho, hz⟩ (hall i x)
          · rw [(hq.1 i).2 hz, h3, ho]
        · rw [(hq.1 i).1 ho, h3, ho]
      · have a : v < 2 ^ i := Nat.lt_of_lt_of_le h1 (Nat.pow_le_pow_right (by decide) x)
        rw [Nat.testBit_lt_two_pow a, Nat.testBit_lt_two_pow (Nat.lt_trans hw a)])
    omega
theorem ks_E.low {o z : Int32} {p : Nat} (hp : p < 32) {a : Nat → Bool} : ks_E o (z ||| ks_on p) a ↔ ks_E o z a ∧ a p = false := by
  constructor
  · intro h
    exact ⟨fun i => ⟨(h i).1, fun q => (h i).2 (by rw [b_or, q, Bool.true_or])⟩, (h p).2 (by rw [b_or, ks_bon_self hp, Bool.or_true])⟩
  · intro ⟨h, e⟩ i
    refine ⟨(h i).1, fun q => ?_⟩
    rw [b_or, Bool.or_eq_true] at q
    rcases q with q | q
    · exact (h i).2 q
    · rw [ks_bon_iff hp] at q; rw [← q]; exact e
theorem ks_E.high {o z : Int32} {p : Nat} (hp : p < 32) {a : Nat → Bool} : ks_E (o ||| ks_on p) z a ↔ ks_E o z a ∧ a p = true := by
  constructor
  · intro h
    exact ⟨fun i => ⟨fun q => (h i).1 (by rw [b_or, q, Bool.true_or]), (h i).2⟩, (h p).1 (by rw [b_or, ks_bon_self hp, Bool.or_true])⟩
  · intro ⟨h, e⟩ i
    refine ⟨fun q => ?_, (h i).2⟩
    rw [b_or, Bool.or_eq_true] at q
    rcases q with q | q
    · exact (h i).1 q
    · rw [ks_bon_iff hp] at q; rw [← q]; exact e
/-- a model with the first free place 0 is before all with 1 -/
theorem ks_L.low {N : Nat} {P M : Nat → Int32} {g : Nat} {o z r : Int32} {p : Nat} (hN : N ≤ 16) (hp : p < N) (hup : ∀ q, p < q → q < N → ¬ ks_fr o z q) (hr : ¬ r = -1) (h : ks_L N (ks_Q P M g o (z ||| ks_on p)) r) : ks_L N (ks_Q P M g o z) r := by
  rcases h with ⟨e, q⟩ | ⟨v, h1, h2, ⟨h3, h3'⟩, h4⟩
  · exact absurd e hr
  · rw [ks_E.low (by omega)] at h3
    refine Or.inr ⟨v, h1, h2, ⟨h3.1, h3'⟩, fun w hw hq => ?_⟩
    cases hb : w.testBit p
    · exact h4 w hw ⟨(ks_E.low (by omega)).mpr ⟨hq.1, hb⟩, hq.2⟩
    · have := ks_tlt h3.2 hb (fun i hi => by
        rcases Nat.lt_or_ge i N with x | x
        · cases ho : bt o i
          · cases hz : bt z i
            · exact absurd ⟨ho, hz⟩ (hup i hi x)
            · rw [(hq.1 i).2 hz, (h3.1 i).2 hz]
          · rw [(hq.1 i).1 ho, (h3.1 i).1 ho]
        · have a : v < 2 ^ i := Nat.lt_of_lt_of_le h1 (Nat.pow_le_pow_right (by decide) x)
          rw [Nat.testBit_lt_two_pow a, Nat.testBit_lt_two_pow (Nat.lt_trans hw a)])
      omega
theorem ks_L.nolow {N : Nat} {P M : Nat → Int32} {g : Nat} {o z r : Int32} {p : Nat} (hN : N ≤ 16) (hp : p < N) (hr : r = -1) (h : ks_L N (ks_Q P M g o (z ||| ks_on p)) r) : ∀ v, v < 2 ^ N → ks_Q P M g o z v.testBit → v.testBit p = true := by
  intro v hv hq
  rcases h with ⟨e, q⟩ | ⟨w, h1, h2, h3, h4⟩
  · cases hb : v.testBit p
    · exact absurd ⟨(ks_E.low (by omega)).mpr ⟨hq.1, hb⟩, hq.2⟩ (q v hv)
    · rfl
  · exact absurd (h2.symm.trans hr) (ks_nIm (ks_pow hN h1))
theorem ks_L.high {N : Nat} {P M : Nat → Int32} {g : Nat} {o z r : Int32} {p : Nat} (hN : N ≤ 16) (hp : p < N) (hl : ∀ v, v < 2 ^ N → ks_Q P M g o z v.testBit → v.testBit p = true) (h : ks_L N (ks_Q P M g (o ||| ks_on p) z) r) : ks_L N (ks_Q P M g o z) r :=
  h.congr (fun v hv => ⟨fun q => ⟨((ks_E.high (by omega)).mp q.1).1, q.2⟩, fun q => ⟨(ks_E.high (by omega)).mpr ⟨q.1, hl v hv q⟩, q.2⟩⟩)
