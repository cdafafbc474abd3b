/-! elements of long arrays at a known place -/
section KSL
variable {p : Program} {l : Launch} {e : Env} {R : Room} {s : State} {m : MethodId} {args : Array Value} {below : List Frame} {meth : Method} {c : Code} {H : Heap} {locs : List Loc} {cells slots : Nat} {Q : State → Prop} {cc : ByteArray} {pc : Nat} {ls : Array Slot} {rest : List Value} {D : va_G} {tys : List (ClassId × FieldType)} {ws : va_W} {A : Nat → Prop} {H0 : Heap}
theorem ks_lald (hexec : p.tables.exec = Jvm.exec) (hb : c.code = cc) (hK : va_K D ksCl tys s) (hP : va_P D ksCl ws H) (q0 t0 : Nat) {a : Nat} {cA : ClassId} {n : Nat} {f : Nat → Int64} (ha : ws[q0]? = some (a, .inl (cA, n, .inr (.inl f)))) (ht : tys[t0]? = some (cA, .long)) {j : Nat} (hj : j < n) (hn : n < 2 ^ 31) (hdg : decode cc pc = .ok (.laload, 1)) (kk : W p l e R s m args below meth c H locs cells slots Q (F0 m (pc + 1) ls (.long (f j) :: rest))) : W p l e R s m args below meth c H locs cells slots Q (F0 m pc ls (.int (nI j) :: .ref a :: rest)) :=
  va_lald hexec hb hK hP q0 t0 ha ht (vp_in_nI hj hn) hdg (by rw [nI_clamp (Nat.lt_trans hj hn)]; exact kk)
theorem ks_last (hexec : p.tables.exec = Jvm.exec) (hb : c.code = cc) (hK : va_K D ksCl tys s) (hP : va_P D ksCl ws H) (hD : va_D A ws) (hS : va_S A H0 H locs) (q0 t0 : Nat) {a : Nat} {cA : ClassId} {n : Nat} {f : Nat → Int64} (ha : ws[q0]? = some (a, .inl (cA, n, .inr (.inl f)))) (ht : tys[t0]? = some (cA, .long)) {j : Nat} {x : Int64} (hj : j < n) (hn : n < 2 ^ 31) (hdg : decode cc pc = .ok (.lastore, 1)) (kk : ∀ (H1 : Heap) (locs1 : List Loc), va_P D ksCl (ws.set q0 (a, .inl (cA, n, .inr (.inl (vp_updL f j x))))) H1 → va_D A (ws.set q0 (a, .inl (cA, n, .inr (.inl (vp_updL f j x))))) → va_S A H0 H1 locs1 → W p l e R s m args below meth c H1 locs1 cells slots Q (F0 m (pc + 1) ls rest)) : W p l e R s m args below meth c H locs cells slots Q (F0 m pc ls (.long x :: .int (nI j) :: .ref a :: rest)) :=
  va_last hexec hb hK hP hD hS q0 t0 ha ht (vp_in_nI hj hn) hdg (fun H1 l1 a1 a2 a3 => by rw [nI_clamp (Nat.lt_trans hj hn)] at a1 a2; exact kk H1 l1 a1 a2 a3)
end KSL
/-! clear, and the start -/
theorem ks_TL.hi {N : Nat} (hN : N ≤ 16) {A : Nat → Int64} {w : Nat} (h : ks_TL N A (fun _ => True) w) (h6 : 6 ≤ N) (hw : w < ks_wd N) : ks_TL N (vp_updL A w (-1)) (fun _ => True) (w + 1) := fun i hi b hb => by
  by_cases e : i = w
  · subst e
    have := ks_wd_lo N hN h6
    rw [pk_uLs, ks_bl_m1 b hb]
    exact ⟨fun _ => ⟨by omega, trivial⟩, fun _ => rfl⟩
  · rw [pk_uLn e]; exact h i (by omega) b hb
def ks_cN (N : Nat) : Int64 := (1 <<< (((1 : Int32) <<< (nI N &&& 31)).toInt64 &&& 63)) - 1
theorem ks_TL.lo {N : Nat} {A : Nat → Int64} {w : Nat} (h : ks_TL N A (fun _ => True) w) (h6 : N < 6) (hw : w < ks_wd N) : ks_TL N (vp_updL A w (ks_cN N)) (fun _ => True) (w + 1) := fun i hi b hb => by
  rw [ks_wd_sm h6] at hw
  have ei : i = 0 := by omega
  have ew : w = 0 := by omega
  subst ei; subst ew
  have e9 : ks_bl (ks_cN N) b = decide (b < 2 ^ N) := ks_clr N h6 b hb
  rw [pk_uLs, e9, decide_eq_true_iff]
  exact ⟨fun q => ⟨by omega, trivial⟩, fun q => by omega⟩
theorem ks_N_lo {x : Int32} (h : ¬ 1 ≤ x) : (1 : Int32) = nI (ks_N x) := by
  apply Int32.toInt_inj.mp
  rw [ks_N_toInt]
  rw [Int32.le_iff_toInt_le, show (1 : Int32).toInt = 1 by decide] at h
  rw [if_pos (by omega)]
  decide
theorem ks_N_hi {x : Int32} (h : ¬ x ≤ nI 16) : nI 16 = nI (ks_N x) := by
  apply Int32.toInt_inj.mp
  rw [ks_N_toInt]
  rw [Int32.le_iff_toInt_le, nI_toInt (by decide)] at h
  rw [if_neg (by omega), if_pos (by omega), nI_toInt (by decide)]
  rfl
theorem ks_N_mid {x : Int32} (h1 : 1 ≤ x) (h : x ≤ nI 16) : x = nI (ks_N x) := by
  apply Int32.toInt_inj.mp
  rw [ks_N_toInt]
  rw [Int32.le_iff_toInt_le, nI_toInt (by decide)] at h
  rw [Int32.le_iff_toInt_le, show (1 : Int32).toInt = 1 by decide] at h1
  rw [if_neg (by omega), if_neg (by omega)]
theorem ks_lit_ge {N : Nat} (hN : N ≤ 16) {x : Int32} {v : Nat} (h : ks_lit N x v) (h0 : 0 ≤ x) : 0 < x := by
  have h1 := h.ne0 hN
  rw [Int32.le_iff_toInt_le, Int32.toInt_zero] at h0
  rw [Int32.lt_iff_toInt_lt, Int32.toInt_zero]
  rcases Int.lt_or_eq_of_le h0 with q | q
  · exact q
  · exact absurd (Int32.toInt_inj.mp (by rw [Int32.toInt_zero]; exact q.symm)) h1
