/-! the reference: a table of all assignments, 64 to a word -/
theorem ks_bl_and (x y : Int64) (j : Nat) : ks_bl (x &&& y) j = (ks_bl x j && ks_bl y j) := by unfold ks_bl; rw [Int64.toBitVec_and, BitVec.getLsbD_and]
theorem ks_bl_or (x y : Int64) (j : Nat) : ks_bl (x ||| y) j = (ks_bl x j || ks_bl y j) := by unfold ks_bl; rw [Int64.toBitVec_or, BitVec.getLsbD_or]
theorem ks_bl_m1 : ∀ j, j < 64 → ks_bl (-1) j = true := by decide +kernel
theorem ks_bl_0 (j : Nat) : ks_bl 0 j = false := BitVec.getLsbD_zero
theorem ks_bl_not (x : Int64) {j : Nat} (hj : j < 64) : ks_bl (x ^^^ (-1)) j = !ks_bl x j := by
  have h : ks_bl (x ^^^ (-1)) j = (ks_bl x j ^^ ks_bl (-1) j) := by unfold ks_bl; rw [Int64.toBitVec_xor, BitVec.getLsbD_xor]
  rw [h, ks_bl_m1 j hj, Bool.xor_true]
theorem ks_bl_ext {x y : Int64} (h : ∀ j, j < 64 → ks_bl x j = ks_bl y j) : x = y := Int64.toBitVec_inj.mp (BitVec.eq_of_getLsbD_eq (fun i hi => h i hi))
theorem ks_bl_z {x : Int64} : x = 0 ↔ ∀ j, j < 64 → ks_bl x j = false :=
  ⟨fun h j _ => by rw [h]; exact ks_bl_0 j, fun h => ks_bl_ext (fun j hj => by rw [h j hj, ks_bl_0])⟩
theorem ks_bl_nz {x : Int64} : ¬ x = 0 ↔ ∃ j, j < 64 ∧ ks_bl x j = true := by
  constructor
  · intro h
    apply Classical.byContradiction
    intro h2
    exact h (ks_bl_z.mpr (fun j hj => by
      cases hb : ks_bl x j
      · rfl
      · exact absurd ⟨j, hj, hb⟩ h2))
  · intro ⟨j, hj, h⟩ e
    rw [e, ks_bl_0] at h
    cases h
theorem ks_bl_1 : ∀ j, j < 64 → ks_bl 1 j = decide (j = 0) := by decide +kernel
theorem ks_sm63 : ∀ k, k < 64 → (((nI k).toInt64 &&& 63).toBitVec.smod 64).toNat = k := by decide +kernel
theorem ks_bl_shr (x : Int64) {k : Nat} (hk : k < 64) : ks_bl (x >>> ((nI k).toInt64 &&& 63)) 0 = ks_bl x k := by
  unfold ks_bl
  rw [Int64.toBitVec_shiftRight]
  show (x.toBitVec.sshiftRight (((nI k).toInt64 &&& 63).toBitVec.smod 64).toNat).getLsbD 0 = _
  rw [ks_sm63 k hk, BitVec.getLsbD_sshiftRight]
  simp [hk]
theorem ks_bl_bit (x : Int64) {k : Nat} (hk : k < 64) : (x >>> ((nI k).toInt64 &&& 63)) &&& 1 = if ks_bl x k = true then 1 else 0 := by
  apply ks_bl_ext
  intro j hj
  rw [ks_bl_and, ks_bl_1 j hj]
  by_cases e : j = 0
  · subst e
    rw [ks_bl_shr x hk]
    cases ks_bl x k
    · rfl
    · rfl
  · rw [decide_eq_false e, Bool.and_false]
    by_cases h : ks_bl x k = true
    · rw [if_pos h, ks_bl_1 j hj, decide_eq_false e]
    · rw [if_neg h, ks_bl_0]
theorem ks_bit1 {x : Int64} {k : Nat} (hk : k < 64) : (x >>> ((nI k).toInt64 &&& 63)) &&& 1 = 1 ↔ ks_bl x k = true := by
  rw [ks_bl_bit x hk]
  by_cases h : ks_bl x k = true
  · rw [if_pos h]; exact ⟨fun _ => h, fun _ => rfl⟩
  · rw [if_neg h]; exact ⟨fun q => absurd q (by decide), fun q => absurd q h⟩
theorem ks_bit0 {x : Int64} {k : Nat} (hk : k < 64) : (x >>> ((nI k).toInt64 &&& 63)) &&& 1 = 0 ↔ ks_bl x k = false := by
  rw [ks_bl_bit x hk]
  cases h : ks_bl x k
  · simp
  · simp
/-- how many words -/
def ks_wd (N : Nat) : Nat := if N < 6 then 1 else 2 ^ (N - 6)
theorem ks_wd_le : ∀ N, N ≤ 16 → 1 ≤ ks_wd N ∧ ks_wd N ≤ 1024 := by decide +kernel
theorem ks_wd_cov : ∀ N, N ≤ 16 → 2 ^ N ≤ 64 * ks_wd N := by decide +kernel
theorem ks_wd_lo : ∀ N, N ≤ 16 → 6 ≤ N → 64 * ks_wd N = 2 ^ N := by decide +kernel
theorem ks_wd_sm {N : Nat} (h : N < 6) : ks_wd N = 1 := if_pos h
theorem ks_wd_sh : ∀ N, N ≤ 16 → 6 ≤ N → (1 : Int32) <<< ((nI (N - 6)) &&& 31) = nI (ks_wd N) := by decide +kernel
/-- the table A has just the assignments with F -/
def ks_TT (N : Nat) (A : Nat → Int64) (F : (Nat → Bool) → Prop) : Prop := ∀ w, w < ks_wd N → ∀ b, b < 64 → (ks_bl (A w) b = true ↔ 64 * w + b < 2 ^ N ∧ F (64 * w + b).testBit)
theorem ks_TT.congr {N : Nat} {A : Nat → Int64} {F G : (Nat → Bool) → Prop} (h : ks_TT N A F) (e : ∀ v, v < 2 ^ N → (F v.testBit ↔ G v.testBit)) : ks_TT N A G := fun w hw b hb =>
  (h w hw b hb).trans ⟨fun q => ⟨q.1, (e _ q.1).mp q.2⟩, fun q => ⟨q.1, (e _ q.1).mpr q.2⟩⟩
theorem ks_TT.at {N : Nat} (hN : N ≤ 16) {A : Nat → Int64} {F : (Nat → Bool) → Prop} (h : ks_TT N A F) {v : Nat} (hv : v < 2 ^ N) : v / 64 < ks_wd N ∧ v % 64 < 64 ∧ (ks_bl (A (v / 64)) (v % 64) = true ↔ F v.testBit) := by
  have h1 := ks_wd_cov N hN
  have h2 : v / 64 < ks_wd N := by omega
  have h3 : v % 64 < 64 := by omega
  have h4 := h (v / 64) h2 (v % 64) h3
  have e : 64 * (v / 64) + v % 64 = v := by omega
  rw [e] at h4
  exact ⟨h2, h3, h4.trans ⟨fun q => q.2, fun q => ⟨hv, q⟩⟩⟩
theorem ks_tbl {w b p : Nat} (hb : b < 64) : (64 * w + b).testBit p = if p < 6 then b.testBit p else w.testBit (p - 6) := Nat.testBit_two_pow_mul_add w (show b < 2 ^ 6 from hb) p
/-- the full table -/
theorem ks_clr : ∀ N, N < 6 → ∀ b, b < 64 → ks_bl ((1 <<< (((1 : Int32) <<< (nI N &&& 31)).toInt64 &&& 63)) - 1) b = decide (b < 2 ^ N) := by decide +kernel
/-- the words of the variables -/
theorem ks_r0 : ∀ b, b < 64 → ks_bl (-6148914691236517206) b = b.testBit 0 := by decide +kernel
theorem ks_r1 : ∀ b, b < 64 → ks_bl (-3689348814741910324) b = b.testBit 1 := by decide +kernel
theorem ks_r2 : ∀ b, b < 64 → ks_bl (-1085102592571150096) b = b.testBit 2 := by decide +kernel
theorem ks_r3 : ∀ b, b < 64 → ks_bl (-71777214294589696) b = b.testBit 3 := by decide +kernel
theorem ks_r4 : ∀ b, b < 64 → ks_bl (-281470681808896) b = b.testBit 4 := by decide +kernel
theorem ks_r5 : ∀ b, b < 64 → ks_bl (-4294967296) b = b.testBit 5 := by decide +kernel
theorem ks_ri {w k : Nat} (hw : w < 1024) (hk : k < 16) : (nI w >>> (nI k &&& 31)) &&& 1 = 1 ↔ w.testBit k = true := by
  have hs : ((nI k &&& 31).toBitVec.smod 32).toNat = k := (by decide +kernel : ∀ n, n < 32 → ((nI n &&& 31).toBitVec.smod 32).toNat = n) k (by omega)
  have hlt : w / 2 ^ k < 1024 := Nat.lt_of_le_of_lt (Nat.div_le_self _ _) hw
  have e1 : nI (w / 2 ^ k) &&& 1 = nI (w / 2 ^ k % 2) := pk_andN (by omega) 1 (by decide)
  rw [pk_shrN (by omega) _ k hs, e1, Nat.testBit_eq_decide_div_mod_eq, decide_eq_true_iff]
  have e : (1 : Int32) = nI 1 := rfl
  rw [e, nI_eq (by omega) (by decide)]
/-- a literal's word: what row answers -/
def ks_rw (N : Nat) (x : Int32) (w : Nat) (r : Int64) : Prop := ∀ b, b < 64 → (ks_bl r b = true ↔ ks_lt N x (64 * w + b).testBit)
theorem ks_rw.pos {N : Nat} (hN : N ≤ 16) {x : Int32} {v w : Nat} {o : Int64} (h : ks_lit N x v) (hp : 0 < x) (ho : ∀ b, b < 64 → ks_bl o b = (64 * w + b).testBit (N - v)) : ks_rw N x w o := fun b hb => by
  rw [ks_lt_pos hN h hp, ho b hb]
theorem ks_rw.neg {N : Nat} (hN : N ≤ 16) {x : Int32} {v w : Nat} {o : Int64} (h : ks_lit N x v) (hp : ¬ 0 < x) (ho : ∀ b, b < 64 → ks_bl o b = (64 * w + b).testBit (N - v)) : ks_rw N x w (o ^^^ (-1)) := fun b hb => by
  rw [ks_lt_neg hN h hp, ks_bl_not o hb, ho b hb]
  cases (64 * w + b).testBit (N - v) <;> simp
theorem ks_rlo {w q : Nat} {o : Int64} (hq : q < 6) (h : ∀ b, b < 64 → ks_bl o b = b.testBit q) : ∀ b, b < 64 → ks_bl o b = (64 * w + b).testBit q := fun b hb => by
  rw [ks_tbl hb, if_pos hq, h b hb]
theorem ks_rhi1 {w q : Nat} (hq : 6 ≤ q) (h : w.testBit (q - 6) = true) : ∀ b, b < 64 → ks_bl (-1) b = (64 * w + b).testBit q := fun b hb => by
  rw [ks_tbl hb, if_neg (by omega), h, ks_bl_m1 b hb]
theorem ks_rhi0 {w q : Nat} (hq : 6 ≤ q) (h : ¬ w.testBit (q - 6) = true) : ∀ b, b < 64 → ks_bl 0 b = (64 * w + b).testBit q := fun b hb => by
  rw [ks_tbl hb, if_neg (by omega), ks_bl_0]
  cases hh : w.testBit (q - 6)
  · rfl
  · exact absurd hh h
/-- a model under assumptions, F for the clauses -/
def ks_Z (N : Nat) (AS : Nat → Int32) (ac : Nat) (ch : Int64) (ex : Int32) (F : (Nat → Bool) → Prop) (a : Nat → Bool) : Prop := ks_As N AS ch ex ac a ∧ F a
/-- leaves, word by word: j assumptions are in the word w -/
def ks_lw (N : Nat) (AS : Nat → Int32) (ch : Int64) (F : (Nat → Bool) → Prop) (w j : Nat) (x : Int64) : Prop := ∀ b, b < 64 → (ks_bl x b = true ↔ 64 * w + b < 2 ^ N ∧ ks_Z N AS j ch 0 F (64 * w + b).testBit)
theorem ks_lw.zero {N : Nat} {AS : Nat → Int32} {ch : Int64} {F : (Nat → Bool) → Prop} {A : Nat → Int64} {w : Nat} (h : ks_TT N A F) (hw : w < ks_wd N) : ks_lw N AS ch F w 0 (A w) := fun b hb =>
  (h w hw b hb).trans ⟨fun q => ⟨q.1, ⟨Or.inl rfl, fun j hj => absurd hj (by omega)⟩, q.2⟩, fun q => ⟨q.1, q.2.2⟩⟩
theorem ks_lw.skip {N : Nat} {AS : Nat → Int32} {ch : Int64} {F : (Nat → Bool) → Prop} {w j : Nat} {x : Int64} (h : ks_lw N AS ch F w j x) (hb : ks_bl ch j = false) : ks_lw N AS ch F w (j + 1) x := fun b hb9 =>
  (h b hb9).trans ⟨fun q => ⟨q.1, (ks_As.skip hb).mp q.2.1, q.2.2⟩, fun q => ⟨q.1, (ks_As.skip hb).mpr q.2.1, q.2.2⟩⟩
theorem ks_lw.add {N : Nat} {AS : Nat → Int32} {ch : Int64} {F : (Nat → Bool) → Prop} {w j : Nat} {x y : Int64} (h : ks_lw N AS ch F w j x) (hb : ks_bl ch j = true) (hy : ks_rw N (AS j) w y) : ks_lw N AS ch F w (j + 1) (x &&& y) := fun b hb9 => by
  rw [ks_bl_and, Bool.and_eq_true, h b hb9, hy b hb9]
  exact ⟨fun q => ⟨q.1.1, (ks_As.add hb).mpr ⟨q.1.2.1, q.2⟩, q.1.2.2⟩, fun q => ⟨⟨q.1, ((ks_As.add hb).mp q.2.1).1, q.2.2⟩, ((ks_As.add hb).mp q.2.1).2⟩⟩
/-- what is in some of the first words -/
def ks_sm (L : Nat → Int64) (w : Nat) (x : Int64) : Prop := ∀ b, b < 64 → (ks_bl x b = true ↔ ∃ i, i < w ∧ ks_bl (L i) b = true)
theorem ks_sm.zero (L : Nat → Int64) : ks_sm L 0 0 := fun b hb => by
  rw [ks_bl_0]
  exact ⟨fun q => absurd q (by decide), fun ⟨i, hi, _⟩ => absurd hi (by omega)⟩
theorem ks_sm.add {L L1 : Nat → Int64} {w : Nat} {x : Int64} (h : ks_sm L w x) (hL : ∀ i, i < w → L1 i = L i) : ks_sm L1 (w + 1) (x ||| L1 w) := fun b hb => by
  rw [ks_bl_or, Bool.or_eq_true, h b hb]
  constructor
  · intro q
    rcases q with ⟨i, hi, q⟩ | q
    · exact ⟨i, by omega, by rw [hL i hi]; exact q⟩
    · exact ⟨w, by omega, q⟩
  · intro ⟨i, hi, q⟩
    by_cases e : i = w
    · rw [e] at q; exact Or.inr q
    · exact Or.inl ⟨i, by omega, by rw [← hL i (by omega)]; exact q⟩
theorem ks_sm.zero_iff {N : Nat} (hN : N ≤ 16) {L : Nat → Int64} {x : Int64} {F : (Nat → Bool) → Prop} (h : ks_sm L (ks_wd N) x) (hT : ks_TT N L F) : x = 0 ↔ ∀ v, v < 2 ^ N → ¬ F v.testBit := by
  rw [ks_bl_z]
  constructor
  · intro q v hv hF
    obtain ⟨h1, h2, h3⟩ := hT.at hN hv
    have := (h (v % 64) h2).mpr ⟨v / 64, h1, h3.mpr hF⟩
    rw [q _ h2] at this
    cases this
  · intro q j hj
    cases hb : ks_bl x j
    · rfl
    · obtain ⟨i, hi, hb2⟩ := (h j hj).mp hb
      have := (hT i hi j hj).mp hb2
      exact absurd this.2 (q _ this.1)
/-- least: the first word that isn't empty, the first bit in it -/
theorem ks_TT.least {N : Nat} (hN : N ≤ 16) {L : Nat → Int64} {F : (Nat → Bool) → Prop} (hT : ks_TT N L F) {w b : Nat} (hw : w < ks_wd N) (hb : b < 64) (h1 : ∀ i, i < w → L i = 0) (h2 : ∀ j, j < b → ks_bl (L w) j = false) (h3 : ks_bl (L w) b = true) : ks_L N F (nI (64 * w + b)) := by
  obtain ⟨h4, h5⟩ := (hT w hw b hb).mp h3
  refine Or.inr ⟨64 * w + b, h4, rfl, h5, fun v hv hF => ?_⟩
  obtain ⟨q1, q2, q3⟩ := hT.at hN (Nat.lt_trans hv h4)
  have q4 := q3.mpr hF
  by_cases e : v / 64 < w
  · rw [h1 _ e, ks_bl_0] at q4; cases q4
  · have e2 : v / 64 = w := by omega
    rw [e2, h2 (v % 64) (by omega)] at q4
    cases q4
/-- close: the clause that is being made -/
def ks_mkT (N : Nat) (MK : Nat → Int32) (k : Nat) (a : Nat → Bool) : Prop := ∃ j, j < k ∧ ks_lt N (MK j) a
def ks_cw (N : Nat) (MK : Nat → Int32) (w k : Nat) (x : Int64) : Prop := ∀ b, b < 64 → (ks_bl x b = true ↔ ks_mkT N MK k (64 * w + b).testBit)
theorem ks_cw.zero (N : Nat) (MK : Nat → Int32) (w : Nat) : ks_cw N MK w 0 0 := fun b hb => by
  rw [ks_bl_0]
  exact ⟨fun q => absurd q (by decide), fun ⟨i, hi, _⟩ => absurd hi (by omega)⟩
theorem ks_cw.add {N : Nat} {MK : Nat → Int32} {w k : Nat} {x y : Int64} (h : ks_cw N MK w k x) (hy : ks_rw N (MK k) w y) : ks_cw N MK w (k + 1) (x ||| y) := fun b hb => by
  rw [ks_bl_or, Bool.or_eq_true, h b hb, hy b hb]
  constructor
  · intro q
    rcases q with ⟨i, hi, q⟩ | q
    · exact ⟨i, by omega, q⟩
    · exact ⟨k, by omega, q⟩
  · intro ⟨i, hi, q⟩
    by_cases e : i = k
    · rw [e] at q; exact Or.inr q
    · exact Or.inl ⟨i, by omega, q⟩
/-- of the table the first w words have the clause more -/
def ks_TC (N : Nat) (A A1 : Nat → Int64) (G : (Nat → Bool) → Prop) (w : Nat) : Prop := (∀ i, w ≤ i → A1 i = A i) ∧ ∀ i, i < w → ∀ b, b < 64 → (ks_bl (A1 i) b = true ↔ ks_bl (A i) b = true ∧ G (64 * i + b).testBit)
theorem ks_TC.zero (N : Nat) (A : Nat → Int64) (G : (Nat → Bool) → Prop) : ks_TC N A A G 0 := ⟨fun _ _ => rfl, fun i hi => absurd hi (by omega)⟩
theorem ks_TC.step {N : Nat} {A A1 : Nat → Int64} {G : (Nat → Bool) → Prop} {w : Nat} {y : Int64} (h : ks_TC N A A1 G w) (hy : ∀ b, b < 64 → (ks_bl y b = true ↔ G (64 * w + b).testBit)) : ks_TC N A (vp_updL A1 w (A1 w &&& y)) G (w + 1) := by
  refine ⟨fun i hi => ?_, fun i hi b hb => ?_⟩
  · rw [pk_uLn (by omega)]; exact h.1 i (by omega)
  · by_cases e : i = w
    · subst e
      rw [pk_uLs, ks_bl_and, Bool.and_eq_true, hy b hb, h.1 i (Nat.le_refl i)]
    · rw [pk_uLn e]; exact h.2 i (by omega) b hb
theorem ks_TC.done {N : Nat} {A A1 : Nat → Int64} {F G : (Nat → Bool) → Prop} (h : ks_TC N A A1 G (ks_wd N)) (hT : ks_TT N A F) : ks_TT N A1 (fun a => F a ∧ G a) := fun w hw b hb => by
  rw [h.2 w hw b hb, hT w hw b hb]
  exact ⟨fun q => ⟨q.1.1, q.1.2, q.2⟩, fun q => ⟨⟨q.1, q.2.1⟩, q.2.2⟩⟩
/-- leaves: the first w words are done -/
def ks_TL (N : Nat) (L : Nat → Int64) (F : (Nat → Bool) → Prop) (w : Nat) : Prop := ∀ i, i < w → ∀ b, b < 64 → (ks_bl (L i) b = true ↔ 64 * i + b < 2 ^ N ∧ F (64 * i + b).testBit)
/-- implied: so far all are true -/
def ks_im (N : Nat) (L : Nat → Int64) (x : Int32) (w : Nat) (r : Int32) : Prop := (r = 1 ∧ ∀ i, i < w → ∀ b, b < 64 → ks_bl (L i) b = true → ks_lt N x (64 * i + b).testBit) ∨ (r = 0 ∧ ∃ i, i < w ∧ ∃ b, b < 64 ∧ ks_bl (L i) b = true ∧ ¬ ks_lt N x (64 * i + b).testBit)
theorem ks_im.step0 {N : Nat} {L : Nat → Int64} {x : Int32} {w : Nat} {r : Int32} (h : ks_im N L x w r) (e : r = 0) : ks_im N L x (w + 1) 0 := by
  rcases h with ⟨q, _⟩ | ⟨_, i, hi, b, hb⟩
  · rw [e] at q; exact absurd q (by decide)
  · exact Or.inr ⟨rfl, i, by omega, b, hb⟩
theorem ks_im.step {N : Nat} {L : Nat → Int64} {x : Int32} {w : Nat} {r : Int32} {y : Int64} (h : ks_im N L x w r) (e : ¬ r = 0) (hy : ks_rw N x w y) : (L w &&& (y ^^^ (-1)) = 0 → ks_im N L x (w + 1) 1) ∧ (¬ L w &&& (y ^^^ (-1)) = 0 → ks_im N L x (w + 1) 0) := by
  have h1 : ∀ i, i < w → ∀ b, b < 64 → ks_bl (L i) b = true → ks_lt N x (64 * i + b).testBit := by
    rcases h with ⟨_, q⟩ | ⟨q, _⟩
    · exact q
    · exact absurd q e
  refine ⟨fun z => Or.inl ⟨rfl, fun i hi b hb hL => ?_⟩, fun z => ?_⟩
  · by_cases ei : i = w
    · subst ei
      have := ks_bl_z.mp z b hb
      rw [ks_bl_and, hL, Bool.true_and, ks_bl_not y hb] at this
      apply (hy b hb).mp
      cases hh : ks_bl y b
      · rw [hh] at this; cases this
      · rfl
    · exact h1 i (by omega) b hb hL
  · obtain ⟨b, hb, q⟩ := ks_bl_nz.mp z
    rw [ks_bl_and, Bool.and_eq_true, ks_bl_not y hb] at q
    refine Or.inr ⟨rfl, w, by omega, b, hb, q.1, fun hl => ?_⟩
    rw [(hy b hb).mpr hl] at q
    exact absurd q.2 (by decide)
theorem ks_im.done {N : Nat} (hN : N ≤ 16) {L : Nat → Int64} {F : (Nat → Bool) → Prop} {x r : Int32} (h : ks_im N L x (ks_wd N) r) (hT : ks_TT N L F) : (r = 1 ∧ ∀ v, v < 2 ^ N → F v.testBit → ks_lt N x v.testBit) ∨ (r = 0 ∧ ¬ ∀ v, v < 2 ^ N → F v.testBit → ks_lt N x v.testBit) := by
  rcases h with ⟨e, q⟩ | ⟨e, i, hi, b, hb, q1, q2⟩
  · refine Or.inl ⟨e, fun v hv hF => ?_⟩
    obtain ⟨h1, h2, h3⟩ := hT.at hN hv
    have := q (v / 64) h1 (v % 64) h2 (h3.mpr hF)
    rw [show 64 * (v / 64) + v % 64 = v by omega] at this
    exact this
  · refine Or.inr ⟨e, fun q => ?_⟩
    have := (hT i hi b hb).mp q1
    exact q2 (q _ this.1 this.2)
