/-! assumptions, chosen by bits of an Int64 -/
-- pasted: ts_bit, wb_tb, wb_inj, wb_cu
theorem ts_bit {w : Int64} {s : UInt64} {j : Nat} (hj : j < 64) (hs : s.toNat = j) : ((w.toUInt64 >>> s).toInt64 &&& 1) = 0 ↔ w.toBitVec.getLsbD j = false := by
  have e : (w.toUInt64 >>> s).toInt64.toBitVec = w.toBitVec >>> j := by
    apply BitVec.eq_of_toNat_eq
    show (w.toUInt64 >>> s).toNat = _
    rw [UInt64.toNat_shiftRight, hs, Nat.mod_eq_of_lt hj, BitVec.toNat_ushiftRight]
    rfl
  rw [← Int64.toBitVec_inj, Int64.toBitVec_and, e]
  show w.toBitVec >>> j &&& 1#64 = 0#64 ↔ _
  constructor
  · intro h
    have t := congrArg (fun x => x.getLsbD 0) h
    simpa using t
  · intro h
    apply BitVec.eq_of_getLsbD_eq
    intro i hi
    cases i with
    | zero => simp [h]
    | succ i => simp
theorem wb_tb (n : Nat) : (lN n).toBitVec = BitVec.ofNat 64 n := rfl
theorem wb_inj {a b : Int64} (h : a.toBitVec = b.toBitVec) : a = b := Int64.toBitVec_inj.mp h
theorem wb_cu : ∀ k, k < 64 → ((nI k).toInt64.toUInt64 &&& Int64.toUInt64 63) = UInt64.ofNat k := by decide +kernel
def ks_bl (x : Int64) (j : Nat) : Bool := x.toBitVec.getLsbD j
theorem ks_bl_tst {x : Int64} {j : Nat} (hj : j < 64) : ((x.toUInt64 >>> ((nI j).toInt64.toUInt64 &&& Int64.toUInt64 63)).toInt64 &&& 1) = 0 ↔ ks_bl x j = false :=
  ts_bit hj (by rw [wb_cu j hj]; show (BitVec.ofNat 64 j).toNat = j; rw [BitVec.toNat_ofNat, Nat.mod_eq_of_lt (by omega)])
/-- the extra literal, if there is one, and the chosen ones of the first i assumptions, are true -/
def ks_As (N : Nat) (AS : Nat → Int32) (ch : Int64) (ex : Int32) (i : Nat) (a : Nat → Bool) : Prop := (ex = 0 ∨ ks_lt N ex a) ∧ ∀ j, j < i → ks_bl ch j = true → ks_lt N (AS j) a
def ks_in (N : Nat) (o z : Int32) : Prop := ∀ i, bt o i = true ∨ bt z i = true → i < N
theorem ks_in.hi {N : Nat} {o z : Int32} {p : Nat} (h : ks_in N o z) (hN : N ≤ 16) (hp : p < N) : ks_in N (o ||| ks_on p) z := fun i hi => by
  rw [b_or, Bool.or_eq_true, ks_bon_iff (by omega)] at hi
  rcases hi with (q | q) | q
  · exact h i (Or.inl q)
  · omega
  · exact h i (Or.inr q)
theorem ks_in.lo {N : Nat} {o z : Int32} {p : Nat} (h : ks_in N o z) (hN : N ≤ 16) (hp : p < N) : ks_in N o (z ||| ks_on p) := fun i hi => by
  rw [b_or, Bool.or_eq_true, ks_bon_iff (by omega)] at hi
  rcases hi with q | (q | q)
  · exact h i (Or.inl q)
  · exact h i (Or.inr q)
  · omega
theorem ks_E00 (a : Nat → Bool) : ks_E 0 0 a := fun i => ⟨fun h => (by rw [b_0] at h; cases h), fun h => (by rw [b_0] at h; cases h)⟩
theorem ks_or0 (x : Int32) : 0 ||| x = x := b_ext (fun i _ => by rw [b_or, b_0, Bool.false_or])
theorem ks_in00 (N : Nat) : ks_in N 0 0 := fun i h => by rw [b_0] at h; rcases h with h | h <;> cases h
/-- what the loop has: the values say just the chosen literals -/
def ks_un (N : Nat) (AS : Nat → Int32) (ch : Int64) (ex : Int32) (i : Nat) (o z : Int32) : Prop := ks_in N o z ∧ ∀ a, ks_E o z a ↔ ks_As N AS ch ex i a
theorem ks_un.zero0 (N : Nat) (AS : Nat → Int32) (ch : Int64) : ks_un N AS ch 0 0 0 0 :=
  ⟨ks_in00 N, fun a => ⟨fun _ => ⟨Or.inl rfl, fun j hj => absurd hj (by omega)⟩, fun _ => ks_E00 a⟩⟩
theorem ks_un.zerop {N : Nat} (hN : N ≤ 16) {AS : Nat → Int32} {ch : Int64} {ex : Int32} {v : Nat} (h : ks_lit N ex v) (hp : 0 < ex) : ks_un N AS ch ex 0 (ks_on (N - v)) 0 := by
  have hv : N - v < N := by have := h.1; have := h.2.1; omega
  refine ⟨?_, fun a => ?_⟩
  · have := (ks_in00 N).hi hN hv; rw [ks_or0] at this; exact this
  · have e := ks_E.high (o := 0) (z := 0) (p := N - v) (by omega) (a := a)
    rw [ks_or0] at e
    rw [e, ← ks_lt_pos hN h hp]
    exact ⟨fun q => ⟨Or.inr q.2, fun j hj => absurd hj (by omega)⟩, fun q => ⟨ks_E00 a, q.1.elim (fun r => absurd r (h.ne0 hN)) id⟩⟩
theorem ks_un.zeron {N : Nat} (hN : N ≤ 16) {AS : Nat → Int32} {ch : Int64} {ex : Int32} {v : Nat} (h : ks_lit N ex v) (hp : ¬ 0 < ex) : ks_un N AS ch ex 0 0 (ks_on (N - v)) := by
  have hv : N - v < N := by have := h.1; have := h.2.1; omega
  refine ⟨?_, fun a => ?_⟩
  · have := (ks_in00 N).lo hN hv; rw [ks_or0] at this; exact this
  · have e := ks_E.low (o := 0) (z := 0) (p := N - v) (by omega) (a := a)
    rw [ks_or0] at e
    rw [e, ← ks_lt_neg hN h hp]
    exact ⟨fun q => ⟨Or.inr q.2, fun j hj => absurd hj (by omega)⟩, fun q => ⟨ks_E00 a, q.1.elim (fun r => absurd r (h.ne0 hN)) id⟩⟩
theorem ks_As.skip {N : Nat} {AS : Nat → Int32} {ch : Int64} {ex : Int32} {i : Nat} {a : Nat → Bool} (hb : ks_bl ch i = false) : ks_As N AS ch ex i a ↔ ks_As N AS ch ex (i + 1) a :=
  ⟨fun h => ⟨h.1, fun j hj hc => by
    by_cases e : j = i
    · subst e; rw [hb] at hc; cases hc
    · exact h.2 j (by omega) hc⟩, fun h => ⟨h.1, fun j hj hc => h.2 j (by omega) hc⟩⟩
theorem ks_As.add {N : Nat} {AS : Nat → Int32} {ch : Int64} {ex : Int32} {i : Nat} {a : Nat → Bool} (hb : ks_bl ch i = true) : ks_As N AS ch ex (i + 1) a ↔ ks_As N AS ch ex i a ∧ ks_lt N (AS i) a :=
  ⟨fun h => ⟨⟨h.1, fun j hj hc => h.2 j (by omega) hc⟩, h.2 i (by omega) hb⟩, fun h => ⟨h.1.1, fun j hj hc => by
    by_cases e : j = i
    · subst e; exact h.2
    · exact h.1.2 j (by omega) hc⟩⟩
theorem ks_un.skip {N : Nat} {AS : Nat → Int32} {ch : Int64} {ex : Int32} {i : Nat} {o z : Int32} (h : ks_un N AS ch ex i o z) (hb : ks_bl ch i = false) : ks_un N AS ch ex (i + 1) o z :=
  ⟨h.1, fun a => (h.2 a).trans (ks_As.skip hb)⟩
theorem ks_un.pos {N : Nat} (hN : N ≤ 16) {AS : Nat → Int32} {ch : Int64} {ex : Int32} {i v : Nat} {o z : Int32} (h : ks_un N AS ch ex i o z) (hb : ks_bl ch i = true) (hv : ks_lit N (AS i) v) (hp : 0 < AS i) : ks_un N AS ch ex (i + 1) (o ||| ks_on (N - v)) z := by
  have hlt : N - v < N := by have := hv.1; have := hv.2.1; omega
  refine ⟨h.1.hi hN hlt, fun a => ?_⟩
  rw [ks_E.high (by omega), h.2 a, ← ks_lt_pos hN hv hp, ks_As.add hb]
theorem ks_un.neg {N : Nat} (hN : N ≤ 16) {AS : Nat → Int32} {ch : Int64} {ex : Int32} {i v : Nat} {o z : Int32} (h : ks_un N AS ch ex i o z) (hb : ks_bl ch i = true) (hv : ks_lit N (AS i) v) (hp : ¬ 0 < AS i) : ks_un N AS ch ex (i + 1) o (z ||| ks_on (N - v)) := by
  have hlt : N - v < N := by have := hv.1; have := hv.2.1; omega
  refine ⟨h.1.lo hN hlt, fun a => ?_⟩
  rw [ks_E.low (by omega), h.2 a, ← ks_lt_neg hN hv hp, ks_As.add hb]
/-- a model under assumptions -/
def ks_Y (N : Nat) (AS : Nat → Int32) (ac : Nat) (ch : Int64) (ex : Int32) (P M : Nat → Int32) (g : Nat) (a : Nat → Bool) : Prop := ks_As N AS ch ex ac a ∧ ks_M P M g a
theorem ks_un.L {N : Nat} {AS : Nat → Int32} {ch : Int64} {ex : Int32} {i : Nat} {o z r : Int32} {P M : Nat → Int32} {g : Nat} (h : ks_un N AS ch ex i o z) (hL : ks_L N (ks_Q P M g o z) r) : ks_L N (ks_Y N AS i ch ex P M g) r :=
  hL.congr (fun v _ => ⟨fun q => ⟨(h.2 _).mp q.1, q.2⟩, fun q => ⟨(h.2 _).mpr q.1, q.2⟩⟩)
/-- the clause that is being made -/
theorem ks_T.addp {N : Nat} (hN : N ≤ 16) {x mp mm : Int32} {v : Nat} (h : ks_lit N x v) (hp : 0 < x) {a : Nat → Bool} : ks_T (mp ||| ks_on (N - v)) mm a ↔ ks_T mp mm a ∨ ks_lt N x a := by
  rw [ks_lt_pos hN h hp]
  constructor
  · intro ⟨i, hi⟩
    rw [b_or, Bool.or_eq_true, ks_bon_iff (by omega)] at hi
    rcases hi with ⟨q | q, r⟩ | q
    · exact Or.inl ⟨i, Or.inl ⟨q, r⟩⟩
    · exact Or.inr (by rw [q]; exact r)
    · exact Or.inl ⟨i, Or.inr q⟩
  · intro q
    rcases q with ⟨i, q⟩ | q
    · refine ⟨i, ?_⟩
      rcases q with ⟨q, r⟩ | q
      · exact Or.inl ⟨by rw [b_or, q, Bool.true_or], r⟩
      · exact Or.inr q
    · exact ⟨N - v, Or.inl ⟨by rw [b_or, ks_bon_self (by omega), Bool.or_true], q⟩⟩
theorem ks_T.addn {N : Nat} (hN : N ≤ 16) {x mp mm : Int32} {v : Nat} (h : ks_lit N x v) (hp : ¬ 0 < x) {a : Nat → Bool} : ks_T mp (mm ||| ks_on (N - v)) a ↔ ks_T mp mm a ∨ ks_lt N x a := by
  rw [ks_lt_neg hN h hp]
  constructor
  · intro ⟨i, hi⟩
    rw [b_or, Bool.or_eq_true, ks_bon_iff (by omega)] at hi
    rcases hi with q | ⟨q | q, r⟩
    · exact Or.inl ⟨i, Or.inl q⟩
    · exact Or.inl ⟨i, Or.inr ⟨q, r⟩⟩
    · exact Or.inr (by rw [q]; exact r)
  · intro q
    rcases q with ⟨i, q⟩ | q
    · refine ⟨i, ?_⟩
      rcases q with q | ⟨q, r⟩
      · exact Or.inl q
      · exact Or.inr ⟨by rw [b_or, q, Bool.true_or], r⟩
    · exact ⟨N - v, Or.inr ⟨by rw [b_or, ks_bon_self (by omega), Bool.or_true], q⟩⟩
theorem ks_T.none {a : Nat → Bool} : ¬ ks_T 0 0 a := fun ⟨i, h⟩ => by
  rw [b_0] at h
  rcases h with h | h <;> cases h.1
theorem ks_T.taut {mp mm : Int32} (h : ¬ mp &&& mm = 0) (a : Nat → Bool) : ks_T mp mm a := by
  obtain ⟨i, hi⟩ := ks_nz.mp h
  rw [b_and, Bool.and_eq_true] at hi
  refine ⟨i, ?_⟩
  cases ha : a i
  · exact Or.inr ⟨hi.2, rfl⟩
  · exact Or.inl ⟨hi.1, rfl⟩
theorem ks_in.mem {N : Nat} {mp mm : Int32} (h : ks_in N mp mm) (hd : mp &&& mm = 0) : ks_ok N mp mm := ⟨ks_disj hd, fun i hi => h i hi⟩
theorem ks_Y.ext {N : Nat} {AS : Nat → Int32} {ac : Nat} {ch : Int64} {ex : Int32} {P M P' M' : Nat → Int32} {g : Nat} {r : Int32} (h : ∀ c, c < g → P' c = P c ∧ M' c = M c) (hL : ks_L N (ks_Y N AS ac ch ex P' M' g) r) : ks_L N (ks_Y N AS ac ch ex P M g) r :=
  hL.congr (fun v _ => ⟨fun q => ⟨q.1, (ks_M.ext h).mp q.2⟩, fun q => ⟨q.1, (ks_M.ext h).mpr q.2⟩⟩)
theorem ks_L.no {N : Nat} (hN : N ≤ 16) {F : (Nat → Bool) → Prop} {r : Int32} (h : ks_L N F r) (e : r = -1) : ∀ v, v < 2 ^ N → ¬ F v.testBit := by
  rcases h with ⟨_, q⟩ | ⟨v, h1, h2, -⟩
  · exact q
  · exact absurd (h2.symm.trans e) (ks_nIm (ks_pow hN h1))
theorem ks_L.yes {N : Nat} {F : (Nat → Bool) → Prop} {r : Int32} (h : ks_L N F r) (e : ¬ r = -1) : ¬ ∀ v, v < 2 ^ N → ¬ F v.testBit := by
  rcases h with ⟨q, _⟩ | ⟨v, h1, h2, h3, -⟩
  · exact absurd q e
  · exact fun q => q v h1 h3
/-- the core, step by step: F says that there is no model under the chosen assumptions -/
def ks_rm (K : Int64) (j : Nat) : Int64 := K &&& ((1 <<< ((nI j).toInt64 &&& 63)) ^^^ (-1))
def ks_kp (F : Int64 → Prop) (K0 : Int64) : Nat → Int64 → Prop
  | 0, K => K = K0
  | j + 1, K => ∃ K1, ks_kp F K0 j K1 ∧ ((F (ks_rm K1 j) ∧ K = ks_rm K1 j) ∨ (¬ F (ks_rm K1 j) ∧ K = K1))
theorem ks_kp.uniq {F G : Int64 → Prop} {K0 : Int64} (h : ∀ K, F K ↔ G K) : ∀ (j : Nat) (K K' : Int64), ks_kp F K0 j K → ks_kp G K0 j K' → K = K' := by
  intro j
  induction j with
  | zero => intro K K' h1 h2; exact h1.trans h2.symm
  | succ j ih =>
    intro K K' ⟨K1, a1, a2⟩ ⟨K2, b1, b2⟩
    have e := ih K1 K2 a1 b1
    subst e
    rcases a2 with ⟨a2, a3⟩ | ⟨a2, a3⟩ <;> rcases b2 with ⟨b2, b3⟩ | ⟨b2, b3⟩
    · rw [a3, b3]
    · exact absurd ((h _).mp a2) b2
    · exact absurd ((h _).mpr b2) a2
    · rw [a3, b3]
/-- no model under the chosen assumptions -/
def ks_nm (N : Nat) (AS : Nat → Int32) (ac : Nat) (P M : Nat → Int32) (g : Nat) (ch : Int64) : Prop := ∀ v, v < 2 ^ N → ¬ ks_Y N AS ac ch 0 P M g v.testBit
def ks_K0 (ac : Nat) : Int64 := (1 <<< ((nI ac).toInt64 &&& 63)) - 1
