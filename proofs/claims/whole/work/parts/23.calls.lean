/-! the nest mates' fields: words that a state keeps -/
def ksN : List Cond := [.fieldLinkNest RX2 46 "LessonSolver$ClauseRow" "plus" "[I" "LessonSolver", .fieldLinkNest RX2 49 "LessonSolver$ClauseRow" "minus" "[I" "LessonSolver", .fieldLinkNest RX2 41 "LessonSolver$ClauseRow" "size" "I" "LessonSolver", .fieldLinkNest RX1 56 "LessonSolver$Trail" "length" "I" "LessonSolver", .fieldLinkNest RX1 53 "LessonSolver$Trail" "ones" "I" "LessonSolver", .fieldLinkNest RX1 69 "LessonSolver$Trail" "zeros" "I" "LessonSolver", .fieldLinkNest RX3 80 "LessonSolver$Search" "lapses" "I" "LessonSolver"]
def ks_NW (U : State) : Prop := ∀ w ∈ ksN, va_Nw w U
theorem ksN_f : ∀ w ∈ ksN, ∃ a i b n d h, w = Cond.fieldLinkNest a i b n d h := by
  intro w hw
  simp only [ksN, List.mem_cons, List.not_mem_nil, or_false] at hw
  rcases hw with rfl | rfl | rfl | rfl | rfl | rfl | rfl <;> exact ⟨_, _, _, _, _, _, rfl⟩
theorem ks_NW.warm {s U : State} (hW : s.WarmedH U.vm) (h : ks_NW s) : ks_NW U := fun w hw => by
  obtain ⟨a, i, b, n, d, h9, rfl⟩ := ksN_f w hw
  exact va_Nw.warmF hW (h _ hw)
theorem ks_NW.same {s U : State} (e : s.vm = U.vm) (h : ks_NW s) : ks_NW U := fun w hw => by
  obtain ⟨a, i, b, n, d, h9, rfl⟩ := ksN_f w hw
  exact va_Nw.same rfl e (h _ hw)
/-! rows over the worlds: elements at a known place, contracts in one form, calls with the frame rule done once -/
section KS
variable {p : Program} {l : Launch} {e : Env} {R : Room} {s : State} {m : MethodId} {args : Array Value} {below : List Frame} {meth : Method} {c : Code} {H : Heap} {locs : List Loc} {cells slots : Nat} {Q : State → Prop} {cc : ByteArray} {pc : Nat} {ls : Array Slot} {rest : List Value} {D : va_G} {tys : List (ClassId × FieldType)} {ws : va_W} {A : Nat → Prop} {H0 : Heap}
theorem ks_top {x y : Int32} (h : x = y) (k : W p l e R s m args below meth c H locs cells slots Q (F0 m pc ls (.int y :: rest))) : W p l e R s m args below meth c H locs cells slots Q (F0 m pc ls (.int x :: rest)) := by
  rw [h]; exact k
theorem ks_topl {x y : Int64} (h : x = y) (k : W p l e R s m args below meth c H locs cells slots Q (F0 m pc ls (.long y :: rest))) : W p l e R s m args below meth c H locs cells slots Q (F0 m pc ls (.long x :: rest)) := by
  rw [h]; exact k
theorem ks_ald (hexec : p.tables.exec = Jvm.exec) (hb : c.code = cc) (hK : va_K D ksCl tys s) (hP : va_P D ksCl ws H) (q0 t0 : Nat) {a : Nat} {cA : ClassId} {n : Nat} {f : Nat → Int32} (ha : ws[q0]? = some (a, .inl (cA, n, .inl f))) (ht : tys[t0]? = some (cA, .int)) {j : Nat} (hj : j < n) (hn : n < 2 ^ 31) (hdg : decode cc pc = .ok (.iaload, 1)) (kk : W p l e R s m args below meth c H locs cells slots Q (F0 m (pc + 1) ls (.int (f j) :: rest))) : W p l e R s m args below meth c H locs cells slots Q (F0 m pc ls (.int (nI j) :: .ref a :: rest)) :=
  va_iald hexec hb hK hP q0 t0 ha ht (vp_in_nI hj hn) hdg (by rw [nI_clamp (Nat.lt_trans hj hn)]; exact kk)
theorem ks_ast (hexec : p.tables.exec = Jvm.exec) (hb : c.code = cc) (hK : va_K D ksCl tys s) (hP : va_P D ksCl ws H) (hD : va_D A ws) (hS : va_S A H0 H locs) (q0 t0 : Nat) {a : Nat} {cA : ClassId} {n : Nat} {f : Nat → Int32} (ha : ws[q0]? = some (a, .inl (cA, n, .inl f))) (ht : tys[t0]? = some (cA, .int)) {j : Nat} {x : Int32} (hj : j < n) (hn : n < 2 ^ 31) (hdg : decode cc pc = .ok (.iastore, 1)) (kk : ∀ (H1 : Heap) (locs1 : List Loc), va_P D ksCl (ws.set q0 (a, .inl (cA, n, .inl (upd f j x)))) H1 → va_D A (ws.set q0 (a, .inl (cA, n, .inl (upd f j x)))) → va_S A H0 H1 locs1 → W p l e R s m args below meth c H1 locs1 cells slots Q (F0 m (pc + 1) ls rest)) : W p l e R s m args below meth c H locs cells slots Q (F0 m pc ls (.int x :: .int (nI j) :: .ref a :: rest)) :=
  va_iast hexec hb hK hP hD hS q0 t0 ha ht (vp_in_nI hj hn) hdg (fun H1 l1 a1 a2 a3 => by rw [nI_clamp (Nat.lt_trans hj hn)] at a1 a2; exact kk H1 l1 a1 a2 a3)
/-- a contract's start and end in one form -/
abbrev ks_pre (D : va_G) (sz : Nat) (ws : va_W) (tys : List (ClassId × FieldType)) (U : State) : Prop := U.heap.size = sz ∧ va_P D ksCl ws U.heap ∧ va_K D ksCl tys U ∧ va_D (fun _ => True) ws ∧ ks_NW U
abbrev ks_B (D : va_G) (A : Nat → Prop) (ws : va_W) (tys : List (ClassId × FieldType)) (t : State) : Prop := va_P D ksCl ws t.heap ∧ va_K D ksCl tys t ∧ va_D A ws
abbrev ks_Mi (l : Launch) (y : MethodName) (wy : List Cond) (rm : Room) (D : va_G) (av : List Value) (ws : va_W) (tys : List (ClassId × FieldType)) (mc ms : Nat) {S : Type} (post : Int32 → S → Prop) (w' : S → va_W) (t' : S → List (ClassId × FieldType)) : Prop :=
  ∀ sz : Nat, Met l y wy rm (va_Pc av (ks_pre D sz ws tys)) (va_Qi post (fun u t => ks_B D (va_A ws sz) (w' u) (t' u) t) (va_A ws sz)) mc ms (va_A ws sz)
abbrev ks_Ml (l : Launch) (y : MethodName) (wy : List Cond) (rm : Room) (D : va_G) (av : List Value) (ws : va_W) (tys : List (ClassId × FieldType)) (mc ms : Nat) {S : Type} (post : Int64 → S → Prop) (w' : S → va_W) (t' : S → List (ClassId × FieldType)) : Prop :=
  ∀ sz : Nat, Met l y wy rm (va_Pc av (ks_pre D sz ws tys)) (va_Ql post (fun u t => ks_B D (va_A ws sz) (w' u) (t' u) t) (va_A ws sz)) mc ms (va_A ws sz)
abbrev ks_Mv (l : Launch) (y : MethodName) (wy : List Cond) (rm : Room) (D : va_G) (av : List Value) (ws : va_W) (tys : List (ClassId × FieldType)) (mc ms : Nat) {S : Type} (post : S → Prop) (w' : S → va_W) (t' : S → List (ClassId × FieldType)) : Prop :=
  ∀ sz : Nat, Met l y wy rm (va_Pc av (ks_pre D sz ws tys)) (va_Qv post (fun u t => ks_B D (va_A ws sz) (w' u) (t' u) t) (va_A ws sz)) mc ms (va_A ws sz)
variable {S : Type} {w' wz : S → va_W} {t' : S → List (ClassId × FieldType)} {y : MethodName} {wy Ts : List Cond} {rm : Room} {mc ms n index maxL nL ci q0 b : Nat} {bytes : ByteArray} {ret : Option FieldType} {own C : String} {As st0 : List Value} {wc wr : va_W} {tc : List (ClassId × FieldType)} {q : vw_C} {fs : List Value}
theorem ks_calliV {post : Int32 → S → Prop} (F : CallFix p m c cc nL s args Ts own) (hM : ks_Mi l y wy rm D (.ref b :: As) wc tc mc ms post w' t') (cw : CallW R s args own C index y bytes maxL ret wy rm mc ms n)
    (hK : va_K D ksCl tys s) (hP : va_P D ksCl ws H) (hD : va_D A ws) (hS : va_S A H0 H locs) (hA : ∀ q, H0.size ≤ q → A q) (hNW : ks_NW s)
    (isC isR tC pm : List Nat) (hC : isC.map (fun i => ws[i]?) = wc.map some) (hC' : isC.filterMap (fun i => ws[i]?) = wc) (hR : isR.map (fun i => ws[i]?) = wr.map some) (hT : tC.filterMap (fun i => tys[i]?) = tc) (hn1 : va_nd isC = true) (hn2 : va_nd isR = true) (hdis : ∀ i ∈ isR, i ∉ isC)
    (hci : ksCl[ci]? = some q) (hq : q.1 = C) (he : wc[q0]? = some (b, .inr (ci, fs))) (hz : ∀ u, pm.map (fun i => (wr ++ w' u)[i]?) = (wz u).map some) (hz' : ∀ u, pm.filterMap (fun i => (wr ++ w' u)[i]?) = wz u) (hn3 : va_nd pm = true)
    (hn : As.length = n) (hsize : ls.size = nL) (hst : st0 = As.reverse ++ .ref b :: rest) (hroom : (rest.map fun v => v.category).sum ≤ 8) (hdg : decode cc pc = .ok (.invokevirtual index, 3)) (hf : cells + mc ≤ R.cells ∧ slots + ms ≤ R.slots)
    (kk : ∀ (r : Int32) (u : S) (H1 : Heap) (locs1 : List Loc), post r u → va_K D ksCl (tys ++ t' u) s → va_P D ksCl (wz u) H1 → va_D A (wz u) → va_S A H0 H1 locs1 → W p l e R s m args below meth c H1 locs1 (cells + mc) (slots + ms) Q (F0 m (pc + 3) ls (.int r :: rest))) :
    W p l e R s m args below meth c H locs cells slots Q (F0 m pc ls st0) := by
  have hPc : va_P D ksCl wc H := hP.sub isC hC'
  have hDc := hD.sub isC hn1 hC
  have hKc := hK.sub tC hT
  have hFc := va_free hD hS hA isC hC
  refine va_calli (va_runV (As := As) (rest := rest) F (hM H.size) cw ⟨fun a U g mk q => by obtain ⟨q0, q1, qP, qK, qD, qN⟩ := q; exact ⟨q0, q1, qP, va_K.moved (u := U) (U := U.calling g mk a) (Vm.Alike.refl U.vm) qK, qD, ks_NW.same (s := U) (U := U.calling g mk a) rfl qN⟩, by have h9 := va_recv hKc hPc hci he; rw [hq] at h9; exact h9, fun U hU hW => ⟨rfl, by rw [hU], by rw [hU]; exact hPc, va_K.moved hW.alike hKc, hDc.weaken (fun _ _ _ _ => trivial), ks_NW.warm hW hNW⟩⟩ rfl hn hsize hst (lv_room hroom) hdg hf) hS (fun q _ h => hFc q h) hFc (fun r u t H1 locs1 ht hvm hw hB hz1 hk1 hS1 => ?_)
  obtain ⟨hP1, hK1, hD1⟩ := hB
  rw [ht] at hP1
  have hK1 := va_K.moved hvm.symm hK1
  obtain ⟨hP2, hD2⟩ := va_join hP hD isC isR hC hR hn2 hdis hk1 hFc hP1 hD1
  exact kk r u H1 locs1 hw (hK.app hK1) (hP2.sub pm (hz' u)) (hD2.sub pm hn3 (hz u)) hS1
theorem ks_calllV {post : Int64 → S → Prop} (F : CallFix p m c cc nL s args Ts own) (hM : ks_Ml l y wy rm D (.ref b :: As) wc tc mc ms post w' t') (cw : CallW R s args own C index y bytes maxL ret wy rm mc ms n)
    (hK : va_K D ksCl tys s) (hP : va_P D ksCl ws H) (hD : va_D A ws) (hS : va_S A H0 H locs) (hA : ∀ q, H0.size ≤ q → A q) (hNW : ks_NW s)
    (isC isR tC pm : List Nat) (hC : isC.map (fun i => ws[i]?) = wc.map some) (hC' : isC.filterMap (fun i => ws[i]?) = wc) (hR : isR.map (fun i => ws[i]?) = wr.map some) (hT : tC.filterMap (fun i => tys[i]?) = tc) (hn1 : va_nd isC = true) (hn2 : va_nd isR = true) (hdis : ∀ i ∈ isR, i ∉ isC)
    (hci : ksCl[ci]? = some q) (hq : q.1 = C) (he : wc[q0]? = some (b, .inr (ci, fs))) (hz : ∀ u, pm.map (fun i => (wr ++ w' u)[i]?) = (wz u).map some) (hz' : ∀ u, pm.filterMap (fun i => (wr ++ w' u)[i]?) = wz u) (hn3 : va_nd pm = true)
    (hn : As.length = n) (hsize : ls.size = nL) (hst : st0 = As.reverse ++ .ref b :: rest) (hroom : (rest.map fun v => v.category).sum ≤ 8) (hdg : decode cc pc = .ok (.invokevirtual index, 3)) (hf : cells + mc ≤ R.cells ∧ slots + ms ≤ R.slots)
    (kk : ∀ (r : Int64) (u : S) (H1 : Heap) (locs1 : List Loc), post r u → va_K D ksCl (tys ++ t' u) s → va_P D ksCl (wz u) H1 → va_D A (wz u) → va_S A H0 H1 locs1 → W p l e R s m args below meth c H1 locs1 (cells + mc) (slots + ms) Q (F0 m (pc + 3) ls (.long r :: rest))) :
    W p l e R s m args below meth c H locs cells slots Q (F0 m pc ls st0) := by
  have hPc : va_P D ksCl wc H := hP.sub isC hC'
  have hDc := hD.sub isC hn1 hC
  have hKc := hK.sub tC hT
  have hFc := va_free hD hS hA isC hC
  refine va_calll (va_runV (As := As) (rest := rest) F (hM H.size) cw ⟨fun a U g mk q => by obtain ⟨q0, q1, qP, qK, qD, qN⟩ := q; exact ⟨q0, q1, qP, va_K.moved (u := U) (U := U.calling g mk a) (Vm.Alike.refl U.vm) qK, qD, ks_NW.same (s := U) (U := U.calling g mk a) rfl qN⟩, by have h9 := va_recv hKc hPc hci he; rw [hq] at h9; exact h9, fun U hU hW => ⟨rfl, by rw [hU], by rw [hU]; exact hPc, va_K.moved hW.alike hKc, hDc.weaken (fun _ _ _ _ => trivial), ks_NW.warm hW hNW⟩⟩ rfl hn hsize hst (lv_room hroom) hdg hf) hS (fun q _ h => hFc q h) hFc (fun r u t H1 locs1 ht hvm hw hB hz1 hk1 hS1 => ?_)
  obtain ⟨hP1, hK1, hD1⟩ := hB
  rw [ht] at hP1
  have hK1 := va_K.moved hvm.symm hK1
  obtain ⟨hP2, hD2⟩ := va_join hP hD isC isR hC hR hn2 hdis hk1 hFc hP1 hD1
  exact kk r u H1 locs1 hw (hK.app hK1) (hP2.sub pm (hz' u)) (hD2.sub pm hn3 (hz u)) hS1
theorem ks_callvV {post : S → Prop} (F : CallFix p m c cc nL s args Ts own) (hM : ks_Mv l y wy rm D (.ref b :: As) wc tc mc ms post w' t') (cw : CallW R s args own C index y bytes maxL ret wy rm mc ms n)
    (hK : va_K D ksCl tys s) (hP : va_P D ksCl ws H) (hD : va_D A ws) (hS : va_S A H0 H locs) (hA : ∀ q, H0.size ≤ q → A q) (hNW : ks_NW s)
    (isC isR tC pm : List Nat) (hC : isC.map (fun i => ws[i]?) = wc.map some) (hC' : isC.filterMap (fun i => ws[i]?) = wc) (hR : isR.map (fun i => ws[i]?) = wr.map some) (hT : tC.filterMap (fun i => tys[i]?) = tc) (hn1 : va_nd isC = true) (hn2 : va_nd isR = true) (hdis : ∀ i ∈ isR, i ∉ isC)
    (hci : ksCl[ci]? = some q) (hq : q.1 = C) (he : wc[q0]? = some (b, .inr (ci, fs))) (hz : ∀ u, pm.map (fun i => (wr ++ w' u)[i]?) = (wz u).map some) (hz' : ∀ u, pm.filterMap (fun i => (wr ++ w' u)[i]?) = wz u) (hn3 : va_nd pm = true)
    (hn : As.length = n) (hsize : ls.size = nL) (hst : st0 = As.reverse ++ .ref b :: rest) (hroom : (rest.map fun v => v.category).sum ≤ 8) (hdg : decode cc pc = .ok (.invokevirtual index, 3)) (hf : cells + mc ≤ R.cells ∧ slots + ms ≤ R.slots)
    (kk : ∀ (u : S) (H1 : Heap) (locs1 : List Loc), post u → va_K D ksCl (tys ++ t' u) s → va_P D ksCl (wz u) H1 → va_D A (wz u) → va_S A H0 H1 locs1 → W p l e R s m args below meth c H1 locs1 (cells + mc) (slots + ms) Q (F0 m (pc + 3) ls (rest))) :
    W p l e R s m args below meth c H locs cells slots Q (F0 m pc ls st0) := by
  have hPc : va_P D ksCl wc H := hP.sub isC hC'
  have hDc := hD.sub isC hn1 hC
  have hKc := hK.sub tC hT
  have hFc := va_free hD hS hA isC hC
  refine va_callv (va_runV (As := As) (rest := rest) F (hM H.size) cw ⟨fun a U g mk q => by obtain ⟨q0, q1, qP, qK, qD, qN⟩ := q; exact ⟨q0, q1, qP, va_K.moved (u := U) (U := U.calling g mk a) (Vm.Alike.refl U.vm) qK, qD, ks_NW.same (s := U) (U := U.calling g mk a) rfl qN⟩, by have h9 := va_recv hKc hPc hci he; rw [hq] at h9; exact h9, fun U hU hW => ⟨rfl, by rw [hU], by rw [hU]; exact hPc, va_K.moved hW.alike hKc, hDc.weaken (fun _ _ _ _ => trivial), ks_NW.warm hW hNW⟩⟩ rfl hn hsize hst (lv_room hroom) hdg hf) hS (fun q _ h => hFc q h) hFc (fun u t H1 locs1 ht hvm hw hB hz1 hk1 hS1 => ?_)
  obtain ⟨hP1, hK1, hD1⟩ := hB
  rw [ht] at hP1
  have hK1 := va_K.moved hvm.symm hK1
  obtain ⟨hP2, hD2⟩ := va_join hP hD isC isR hC hR hn2 hdis hk1 hFc hP1 hD1
  exact kk u H1 locs1 hw (hK.app hK1) (hP2.sub pm (hz' u)) (hD2.sub pm hn3 (hz u)) hS1
theorem ks_calliN {post : Int32 → S → Prop} (F : CallFix p m c cc nL s args Ts own) (hM : ks_Mi l y wy rm D (.ref b :: As) wc tc mc ms post w' t') {host : String} (cw : va_CN R s args own index y host bytes maxL ret wy rm mc ms n ∧ (Cond.instanceMethod y).before args s = true ∧ (Cond.selects C y y).before args s = true)
    (hK : va_K D ksCl tys s) (hP : va_P D ksCl ws H) (hD : va_D A ws) (hS : va_S A H0 H locs) (hA : ∀ q, H0.size ≤ q → A q) (hNW : ks_NW s)
    (isC isR tC pm : List Nat) (hC : isC.map (fun i => ws[i]?) = wc.map some) (hC' : isC.filterMap (fun i => ws[i]?) = wc) (hR : isR.map (fun i => ws[i]?) = wr.map some) (hT : tC.filterMap (fun i => tys[i]?) = tc) (hn1 : va_nd isC = true) (hn2 : va_nd isR = true) (hdis : ∀ i ∈ isR, i ∉ isC)
    (hci : ksCl[ci]? = some q) (hq : q.1 = C) (he : wc[q0]? = some (b, .inr (ci, fs))) (hz : ∀ u, pm.map (fun i => (wr ++ w' u)[i]?) = (wz u).map some) (hz' : ∀ u, pm.filterMap (fun i => (wr ++ w' u)[i]?) = wz u) (hn3 : va_nd pm = true)
    (hn : As.length = n) (hsize : ls.size = nL) (hst : st0 = As.reverse ++ .ref b :: rest) (hroom : (rest.map fun v => v.category).sum ≤ 8) (hdg : decode cc pc = .ok (.invokevirtual index, 3)) (hf : cells + mc ≤ R.cells ∧ slots + ms ≤ R.slots)
    (kk : ∀ (r : Int32) (u : S) (H1 : Heap) (locs1 : List Loc), post r u → va_K D ksCl (tys ++ t' u) s → va_P D ksCl (wz u) H1 → va_D A (wz u) → va_S A H0 H1 locs1 → W p l e R s m args below meth c H1 locs1 (cells + mc) (slots + ms) Q (F0 m (pc + 3) ls (.int r :: rest))) :
    W p l e R s m args below meth c H locs cells slots Q (F0 m pc ls st0) := by
  have hPc : va_P D ksCl wc H := hP.sub isC hC'
  have hDc := hD.sub isC hn1 hC
  have hKc := hK.sub tC hT
  have hFc := va_free hD hS hA isC hC
  refine va_calli (va_runVN (As := As) (rest := rest) F (hM H.size) cw ⟨fun a U g mk q => by obtain ⟨q0, q1, qP, qK, qD, qN⟩ := q; exact ⟨q0, q1, qP, va_K.moved (u := U) (U := U.calling g mk a) (Vm.Alike.refl U.vm) qK, qD, ks_NW.same (s := U) (U := U.calling g mk a) rfl qN⟩, by have h9 := va_recv hKc hPc hci he; rw [hq] at h9; exact h9, fun U hU hW => ⟨rfl, by rw [hU], by rw [hU]; exact hPc, va_K.moved hW.alike hKc, hDc.weaken (fun _ _ _ _ => trivial), ks_NW.warm hW hNW⟩⟩ rfl hn hsize hst (lv_room hroom) hdg hf) hS (fun q _ h => hFc q h) hFc (fun r u t H1 locs1 ht hvm hw hB hz1 hk1 hS1 => ?_)
  obtain ⟨hP1, hK1, hD1⟩ := hB
  rw [ht] at hP1
  have hK1 := va_K.moved hvm.symm hK1
  obtain ⟨hP2, hD2⟩ := va_join hP hD isC isR hC hR hn2 hdis hk1 hFc hP1 hD1
  exact kk r u H1 locs1 hw (hK.app hK1) (hP2.sub pm (hz' u)) (hD2.sub pm hn3 (hz u)) hS1
theorem ks_callvN {post : S → Prop} (F : CallFix p m c cc nL s args Ts own) (hM : ks_Mv l y wy rm D (.ref b :: As) wc tc mc ms post w' t') {host : String} (cw : va_CN R s args own index y host bytes maxL ret wy rm mc ms n ∧ (Cond.instanceMethod y).before args s = true ∧ (Cond.selects C y y).before args s = true)
    (hK : va_K D ksCl tys s) (hP : va_P D ksCl ws H) (hD : va_D A ws) (hS : va_S A H0 H locs) (hA : ∀ q, H0.size ≤ q → A q) (hNW : ks_NW s)
    (isC isR tC pm : List Nat) (hC : isC.map (fun i => ws[i]?) = wc.map some) (hC' : isC.filterMap (fun i => ws[i]?) = wc) (hR : isR.map (fun i => ws[i]?) = wr.map some) (hT : tC.filterMap (fun i => tys[i]?) = tc) (hn1 : va_nd isC = true) (hn2 : va_nd isR = true) (hdis : ∀ i ∈ isR, i ∉ isC)
    (hci : ksCl[ci]? = some q) (hq : q.1 = C) (he : wc[q0]? = some (b, .inr (ci, fs))) (hz : ∀ u, pm.map (fun i => (wr ++ w' u)[i]?) = (wz u).map some) (hz' : ∀ u, pm.filterMap (fun i => (wr ++ w' u)[i]?) = wz u) (hn3 : va_nd pm = true)
    (hn : As.length = n) (hsize : ls.size = nL) (hst : st0 = As.reverse ++ .ref b :: rest) (hroom : (rest.map fun v => v.category).sum ≤ 8) (hdg : decode cc pc = .ok (.invokevirtual index, 3)) (hf : cells + mc ≤ R.cells ∧ slots + ms ≤ R.slots)
    (kk : ∀ (u : S) (H1 : Heap) (locs1 : List Loc), post u → va_K D ksCl (tys ++ t' u) s → va_P D ksCl (wz u) H1 → va_D A (wz u) → va_S A H0 H1 locs1 → W p l e R s m args below meth c H1 locs1 (cells + mc) (slots + ms) Q (F0 m (pc + 3) ls (rest))) :
    W p l e R s m args below meth c H locs cells slots Q (F0 m pc ls st0) := by
  have hPc : va_P D ksCl wc H := hP.sub isC hC'
  have hDc := hD.sub isC hn1 hC
  have hKc := hK.sub tC hT
  have hFc := va_free hD hS hA isC hC
  refine va_callv (va_runVN (As := As) (rest := rest) F (hM H.size) cw ⟨fun a U g mk q => by obtain ⟨q0, q1, qP, qK, qD, qN⟩ := q; exact ⟨q0, q1, qP, va_K.moved (u := U) (U := U.calling g mk a) (Vm.Alike.refl U.vm) qK, qD, ks_NW.same (s := U) (U := U.calling g mk a) rfl qN⟩, by have h9 := va_recv hKc hPc hci he; rw [hq] at h9; exact h9, fun U hU hW => ⟨rfl, by rw [hU], by rw [hU]; exact hPc, va_K.moved hW.alike hKc, hDc.weaken (fun _ _ _ _ => trivial), ks_NW.warm hW hNW⟩⟩ rfl hn hsize hst (lv_room hroom) hdg hf) hS (fun q _ h => hFc q h) hFc (fun u t H1 locs1 ht hvm hw hB hz1 hk1 hS1 => ?_)
  obtain ⟨hP1, hK1, hD1⟩ := hB
  rw [ht] at hP1
  have hK1 := va_K.moved hvm.symm hK1
  obtain ⟨hP2, hD2⟩ := va_join hP hD isC isR hC hR hn2 hdis hk1 hFc hP1 hD1
  exact kk u H1 locs1 hw (hK.app hK1) (hP2.sub pm (hz' u)) (hD2.sub pm hn3 (hz u)) hS1
theorem ks_callvI {post : S → Prop} (F : CallFix p m c cc nL s args Ts own) (hM : ks_Mv l y wy rm D (.ref b :: As) wc tc mc ms post w' t') (cw : CallB R s args own index y bytes maxL none wy rm mc ms n ∧ y.name = "<init>" ∧ (Cond.instanceMethod y).before args s = true)
    (hK : va_K D ksCl tys s) (hP : va_P D ksCl ws H) (hD : va_D A ws) (hS : va_S A H0 H locs) (hA : ∀ q, H0.size ≤ q → A q) (hNW : ks_NW s)
    (isC isR tC pm : List Nat) (hC : isC.map (fun i => ws[i]?) = wc.map some) (hC' : isC.filterMap (fun i => ws[i]?) = wc) (hR : isR.map (fun i => ws[i]?) = wr.map some) (hT : tC.filterMap (fun i => tys[i]?) = tc) (hn1 : va_nd isC = true) (hn2 : va_nd isR = true) (hdis : ∀ i ∈ isR, i ∉ isC)
    (hz : ∀ u, pm.map (fun i => (wr ++ w' u)[i]?) = (wz u).map some) (hz' : ∀ u, pm.filterMap (fun i => (wr ++ w' u)[i]?) = wz u) (hn3 : va_nd pm = true)
    (hn : As.length = n) (hsize : ls.size = nL) (hst : st0 = As.reverse ++ .ref b :: rest) (hroom : (rest.map fun v => v.category).sum ≤ 8) (hdg : decode cc pc = .ok (.invokespecial index, 3)) (hf : cells + mc ≤ R.cells ∧ slots + ms ≤ R.slots)
    (kk : ∀ (u : S) (H1 : Heap) (locs1 : List Loc), post u → va_K D ksCl (tys ++ t' u) s → va_P D ksCl (wz u) H1 → va_D A (wz u) → va_S A H0 H1 locs1 → W p l e R s m args below meth c H1 locs1 (cells + mc) (slots + ms) Q (F0 m (pc + 3) ls (rest))) :
    W p l e R s m args below meth c H locs cells slots Q (F0 m pc ls st0) := by
  have hPc : va_P D ksCl wc H := hP.sub isC hC'
  have hDc := hD.sub isC hn1 hC
  have hKc := hK.sub tC hT
  have hFc := va_free hD hS hA isC hC
  refine va_callv (va_runI (As := As) (rest := rest) F (hM H.size) cw ⟨fun a U g mk q => by obtain ⟨q0, q1, qP, qK, qD, qN⟩ := q; exact ⟨q0, q1, qP, va_K.moved (u := U) (U := U.calling g mk a) (Vm.Alike.refl U.vm) qK, qD, ks_NW.same (s := U) (U := U.calling g mk a) rfl qN⟩, fun U hU hW => ⟨rfl, by rw [hU], by rw [hU]; exact hPc, va_K.moved hW.alike hKc, hDc.weaken (fun _ _ _ _ => trivial), ks_NW.warm hW hNW⟩⟩ rfl hn hsize hst (lv_room hroom) hdg hf) hS (fun q _ h => hFc q h) hFc (fun u t H1 locs1 ht hvm hw hB hz1 hk1 hS1 => ?_)
  obtain ⟨hP1, hK1, hD1⟩ := hB
  rw [ht] at hP1
  have hK1 := va_K.moved hvm.symm hK1
  obtain ⟨hP2, hD2⟩ := va_join hP hD isC isR hC hR hn2 hdis hk1 hFc hP1 hD1
  exact kk u H1 locs1 hw (hK.app hK1) (hP2.sub pm (hz' u)) (hD2.sub pm hn3 (hz u)) hS1
end KS
