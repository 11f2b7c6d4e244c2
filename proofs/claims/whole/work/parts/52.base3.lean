/-! The reference's world: one list of ten cells; rows 4 and 5 as the other's: how many parents, which. -/
def vN (E : En) (M : Mt) (z t f : Nat) : va_W := [
  (ad E 0, .inr (2, [.ref (ad E 1), .ref (ad E 2), .ref (ad E 4), .ref (ad E 5), .ref (ad E 3), .ref (ad E 6), .ref (ad E 7), .ref (ad E 8), .ref (ad E 9), .int (nI z), .int (nI t), .int (nI f)])),
  (ad E 1, .inl (E.2.1, 2000, .inl (M 1))), (ad E 2, .inl (E.2.1, 2000, .inl (M 2))), (ad E 3, .inl (E.2.1, 2000, .inl (M 3))), (ad E 4, .inl (E.2.1, 2000, .inl (M 4))),
  (ad E 5, .inl (E.2.1, 8000, .inl (M 5))), (ad E 6, .inl (E.2.2.1, 4000, .inl (M 6))), (ad E 7, .inl (E.2.2.1, 2000, .inl (M 7))), (ad E 8, .inl (E.2.2.1, 2000, .inl (M 8))), (ad E 9, .inl (E.2.2.1, 2000, .inl (M 9)))]
def dM (E : En) : Prop := ∀ i j, i < 10 → j < 10 → ad E i = ad E j → i = j
def aM (E : En) (sz : Nat) : Nat → Prop := fun q => (∃ i, i < 10 ∧ q = ad E i) ∨ sz ≤ q
theorem vN_addr {E : En} {M : Mt} {z t f i : Nat} {q : Nat × va_E} (h : (vN E M z t f)[i]? = some q) : i < 10 ∧ q.1 = ad E i := by
  have h2 : ((vN E M z t f).map Prod.fst)[i]? = some q.1 := by rw [List.getElem?_map, h]; rfl
  have h3 : (vN E M z t f).map Prod.fst = (List.range 10).map (ad E) := rfl
  rw [h3, List.getElem?_map] at h2
  by_cases hi : i < 10
  · rw [List.getElem?_range hi] at h2
    exact ⟨hi, (Option.some.inj h2).symm⟩
  · rw [List.getElem?_eq_none (by rw [List.length_range]; omega)] at h2
    cases h2
theorem dM.D {E : En} (h : dM E) {M : Mt} {z t f sz : Nat} : va_D (aM E sz) (vN E M z t f) := by
  refine ⟨fun i j p q hi hj e => ?_, fun i q hi => ?_⟩
  · obtain ⟨a1, a2⟩ := vN_addr hi
    obtain ⟨b1, b2⟩ := vN_addr hj
    exact h i j a1 b1 (by rw [← a2, ← b2]; exact e)
  · obtain ⟨a1, a2⟩ := vN_addr hi
    exact Or.inl ⟨i, a1, a2⟩
theorem aM_le {E : En} {a b : Nat} (h : a ≤ b) : ∀ q, aM E b q → aM E a q := fun _ hq => hq.elim Or.inl (fun h2 => Or.inr (Nat.le_trans h h2))
def vst (E : En) (H0 : Heap) (M : Mt) (z t f : Nat) (H : Heap) (locs : List Loc) : Prop := va_P E.1 vcl (vN E M z t f) H ∧ va_S (aM E H0.size) H0 H locs
def cY (E : En) (p : Program) (m : MethodId) (c : Code) (cc : ByteArray) (nL : Nat) (s : State) (args : Array Value) (w0 : Cond) (own : String) : Prop := CallFix p m c cc nL s args (w0 :: wR) own ∧ va_K E.1 vcl (tyN E) s ∧ dM E
def rwI (q L : Nat) : Prop := L < 2 ^ 31 ∧ ∀ (E : En) (M : Mt) (z t f : Nat), (vN E M z t f)[q]? = some (ad E q, .inl (E.2.1, L, .inl (M q))) ∧ ∀ g : Nat → Int32, (vN E M z t f).set q (ad E q, .inl (E.2.1, L, .inl g)) = vN E (va_up M q g) z t f
def rwB (q L : Nat) : Prop := L < 2 ^ 31 ∧ ∀ (E : En) (M : Mt) (z t f : Nat), (vN E M z t f)[q]? = some (ad E q, .inl (E.2.2.1, L, .inl (M q))) ∧ ∀ g : Nat → Int32, (vN E M z t f).set q (ad E q, .inl (E.2.2.1, L, .inl g)) = vN E (va_up M q g) z t f
theorem rwI1 : rwI 1 2000 := ⟨by decide, fun _ _ _ _ _ => ⟨rfl, fun _ => rfl⟩⟩
theorem rwI2 : rwI 2 2000 := ⟨by decide, fun _ _ _ _ _ => ⟨rfl, fun _ => rfl⟩⟩
theorem rwI3 : rwI 3 2000 := ⟨by decide, fun _ _ _ _ _ => ⟨rfl, fun _ => rfl⟩⟩
theorem rwI4 : rwI 4 2000 := ⟨by decide, fun _ _ _ _ _ => ⟨rfl, fun _ => rfl⟩⟩
theorem rwI5 : rwI 5 8000 := ⟨by decide, fun _ _ _ _ _ => ⟨rfl, fun _ => rfl⟩⟩
theorem rwB6 : rwB 6 4000 := ⟨by decide, fun _ _ _ _ _ => ⟨rfl, fun _ => rfl⟩⟩
theorem rwB7 : rwB 7 2000 := ⟨by decide, fun _ _ _ _ _ => ⟨rfl, fun _ => rfl⟩⟩
theorem rwB8 : rwB 8 2000 := ⟨by decide, fun _ _ _ _ _ => ⟨rfl, fun _ => rfl⟩⟩
theorem rwB9 : rwB 9 2000 := ⟨by decide, fun _ _ _ _ _ => ⟨rfl, fun _ => rfl⟩⟩
theorem nar01 {x : Int32} (h : x = nI 0 ∨ x = nI 1) : vp_nar .boolean x = x := by
  rcases h with h | h <;> rw [h] <;> rfl
section CR2
variable {p : Program} {l : Launch} {e : Env} {R : Room} {s : State} {m : MethodId} {args : Array Value} {below : List Frame} {meth : Method} {c : Code} {H H0 : Heap} {locs : List Loc} {cells slots : Nat} {Q : State → Prop} {pc nL : Nat} {ls : Array Slot} {rest : List Value} {cc : ByteArray} {w0 : Cond} {own : String} {E : En} {M : Mt} {z t f : Nat}
theorem ldI2 (K : cY E p m c cc nL s args w0 own) (w : vst E H0 M z t f H locs) {q L : Nat} (hq : rwI q L) {j : Nat} (hj : j < L) (hd : decode cc pc = .ok (.iaload, 1))
    (kk : W p l e R s m args below meth c H locs cells slots Q (F0 m (pc + 1) ls (.int (M q j) :: rest))) : W p l e R s m args below meth c H locs cells slots Q (F0 m pc ls (.int (nI j) :: .ref (ad E q) :: rest)) := by
  refine va_iald K.1.1 K.1.2.1 K.2.1 w.1 q 0 (hq.2 E M z t f).1 rfl (vp_in_nI hj hq.1) hd ?_
  rw [nI_clamp (Nat.lt_trans hj hq.1)]
  exact kk
theorem stI2 (K : cY E p m c cc nL s args w0 own) (w : vst E H0 M z t f H locs) {q L : Nat} (hq : rwI q L) {j : Nat} {x : Int32} (hj : j < L) (hd : decode cc pc = .ok (.iastore, 1))
    (kk : ∀ (H : Heap) (locs : List Loc), vst E H0 (va_up M q (upd (M q) j x)) z t f H locs → W p l e R s m args below meth c H locs cells slots Q (F0 m (pc + 1) ls rest)) : W p l e R s m args below meth c H locs cells slots Q (F0 m pc ls (.int x :: .int (nI j) :: .ref (ad E q) :: rest)) := by
  refine va_iast K.1.1 K.1.2.1 K.2.1 w.1 K.2.2.D w.2 q 0 (hq.2 E M z t f).1 rfl (vp_in_nI hj hq.1) hd (fun H1 locs1 hP _ hS => kk H1 locs1 ⟨?_, hS⟩)
  rw [nI_clamp (Nat.lt_trans hj hq.1), (hq.2 E M z t f).2] at hP
  exact hP
theorem ldB2 (K : cY E p m c cc nL s args w0 own) (w : vst E H0 M z t f H locs) {q L : Nat} (hq : rwB q L) {j : Nat} (hj : j < L) (hd : decode cc pc = .ok (.baload, 1))
    (kk : W p l e R s m args below meth c H locs cells slots Q (F0 m (pc + 1) ls (.int (M q j) :: rest))) : W p l e R s m args below meth c H locs cells slots Q (F0 m pc ls (.int (nI j) :: .ref (ad E q) :: rest)) := by
  refine va_zald K.1.1 K.1.2.1 K.2.1 w.1 q 1 (hq.2 E M z t f).1 rfl (vp_in_nI hj hq.1) hd ?_
  rw [nI_clamp (Nat.lt_trans hj hq.1)]
  exact kk
theorem stB2 (K : cY E p m c cc nL s args w0 own) (w : vst E H0 M z t f H locs) {q L : Nat} (hq : rwB q L) {j : Nat} {x : Int32} (hj : j < L) (hx : vp_nar .boolean x = x) (hd : decode cc pc = .ok (.bastore, 1))
    (kk : ∀ (H : Heap) (locs : List Loc), vst E H0 (va_up M q (upd (M q) j x)) z t f H locs → W p l e R s m args below meth c H locs cells slots Q (F0 m (pc + 1) ls rest)) : W p l e R s m args below meth c H locs cells slots Q (F0 m pc ls (.int x :: .int (nI j) :: .ref (ad E q) :: rest)) := by
  refine va_zast K.1.1 K.1.2.1 K.2.1 w.1 K.2.2.D w.2 q 1 (hq.2 E M z t f).1 rfl (vp_in_nI hj hq.1) hd (fun H1 locs1 hP _ hS => kk H1 locs1 ⟨?_, hS⟩)
  rw [nI_clamp (Nat.lt_trans hj hq.1), hx, (hq.2 E M z t f).2] at hP
  exact hP
theorem recvM (K : cY E p m c cc nL s args w0 own) (w : vst E H0 M z t f H locs) : ∃ cell : Cell, H[ad E 0]? = some cell ∧ cell.vm.isStatics = false ∧ s.vm.findClass RX2 = some cell.cls := va_recv (ci := 2) (q0 := 0) K.2.1 w.1 rfl rfl
end CR2
/-- a contract without an answer: rows, commits, queue before and behind -/
def MV2 (l : Launch) (y : MethodName) (w1 : Cond) (fr lo : Nat) (E : En) (av : List Value) (M : Mt) (z t f : Nat) (M' : Mt) (z' t' f' : Nat) : Prop := ∀ sz : Nat, Met l y (w1 :: wR) (rmA fr lo)
  (va_Pc av (fun U => U.heap.size = sz ∧ va_P E.1 vcl (vN E M z t f) U.heap ∧ va_K E.1 vcl (tyN E) U)) (va_Qv (fun _ : Unit => True) (fun _ u9 => va_P E.1 vcl (vN E M' z' t' f') u9.heap) (aM E sz)) 0 0 (aM E sz)
def MI2 (l : Launch) (y : MethodName) (w1 : Cond) (fr lo : Nat) (E : En) (av : List Value) (M : Mt) (z t f : Nat) (r : Int32) (M' : Mt) (z' t' f' : Nat) : Prop := ∀ sz : Nat, Met l y (w1 :: wR) (rmA fr lo)
  (va_Pc av (fun U => U.heap.size = sz ∧ va_P E.1 vcl (vN E M z t f) U.heap ∧ va_K E.1 vcl (tyN E) U)) (va_Qi (fun r' (_ : Unit) => r' = r) (fun _ u9 => va_P E.1 vcl (vN E M' z' t' f') u9.heap) (aM E sz)) 0 0 (aM E sz)
theorem pM_blind {E : En} {av : List Value} {sz : Nat} {M : Mt} {z t f : Nat} : FrameBlind (va_Pc av (fun U => U.heap.size = sz ∧ va_P E.1 vcl (vN E M z t f) U.heap ∧ va_K E.1 vcl (tyN E) U)) := by
  intro a U g mk q
  obtain ⟨q0, q1, qP, qK⟩ := q
  exact ⟨q0, q1, qP, va_K.moved (u := U) (U := U.calling g mk a) (Vm.Alike.refl U.vm) qK⟩
section CM
variable {l : Launch} {y : MethodName} {fr lo : Nat} {E : En} {av : List Value} {M M' : Mt} {z t f z' t' f' : Nat} {r : Int32} {cc : ByteArray} {maxL : Nat} {own : String}
theorem MV2.of (dn : dM E) (hy : plainName own = true) (ho : y.cls = own) (hav : (lg_sl av).length ≤ maxL)
    (body : ∀ (p : Program) (e : Env) (s : State) (m : MethodId) (args : Array Value) (below : List Frame) (meth : Method) (c : Code) (ls : Array Slot) (Q : State → Prop), cY E p m c cc maxL s args (.code y cc maxL none) own → vst E s.heap M z t f s.heap [] → lv_has ls maxL (lv_args 0 av) →
      (∀ {H : Heap} {locs : List Loc} {pc : Nat} {ls : Array Slot}, vst E s.heap M' z' t' f' H locs → decode cc pc = .ok (.return_, 1) → W p l e (rmA fr lo) s m args below meth c H locs 0 0 Q (F0 m pc ls [])) →
      W p l e (rmA fr lo) s m args below meth c s.heap [] 0 0 Q (F0 m 0 ls [])) : MV2 l y (.code y cc maxL none) fr lo E av M z t f M' z' t' f' := by
  intro sz
  refine Met.ofW (cc := cc) (maxL := maxL) (ret := none) (by rw [ho]; exact hy) rfl ?_
  intro p e s m args below meth c s₁ B hml hv
  obtain ⟨rfl, hsz, hP, hK⟩ := hv
  subst hsz
  have hts := atoms_spec (ws := .code y cc maxL none :: wR) B.pre
  have hown : s.vm.findClass own = some m.cls := ho ▸ findClass_of_methodNamed B.named
  have hlocks := B.notSynchronized
  have hl := lv_entry av (n := maxL) hav
  rw [lg_entry_eq]
  generalize (lg_sl av ++ List.replicate (maxL - (lg_sl av).length) Slot.unset).toArray = ls at hl ⊢
  exact body p e s m _ below meth c ls _ ⟨⟨B.exec, B.bytes, hml, hown, hts⟩, hK, dn⟩ ⟨hP, va_S.rf⟩ hl (fun w hd => W.vret B.exec B.bytes B.returns (fun u9 ht hW => ⟨⟨(), rfl, trivial, by show va_P E.1 vcl (vN E M' z' t' f') u9.heap; rw [ht]; exact w.1⟩, w.2.F ht⟩) w.2.2.2 hd)
theorem MI2.of (dn : dM E) (hy : plainName own = true) (ho : y.cls = own) (hav : (lg_sl av).length ≤ maxL)
    (body : ∀ (p : Program) (e : Env) (s : State) (m : MethodId) (args : Array Value) (below : List Frame) (meth : Method) (c : Code) (ls : Array Slot) (Q : State → Prop), cY E p m c cc maxL s args (.code y cc maxL (some .int)) own → vst E s.heap M z t f s.heap [] → lv_has ls maxL (lv_args 0 av) →
      (∀ {H : Heap} {locs : List Loc} {pc : Nat} {ls : Array Slot} {v : Int32}, vst E s.heap M' z' t' f' H locs → v = r → decode cc pc = .ok (.ireturn, 1) → W p l e (rmA fr lo) s m args below meth c H locs 0 0 Q (F0 m pc ls [.int v])) →
      W p l e (rmA fr lo) s m args below meth c s.heap [] 0 0 Q (F0 m 0 ls [])) : MI2 l y (.code y cc maxL (some .int)) fr lo E av M z t f r M' z' t' f' := by
  intro sz
  refine Met.ofW (cc := cc) (maxL := maxL) (ret := some .int) (by rw [ho]; exact hy) rfl ?_
  intro p e s m args below meth c s₁ B hml hv
  obtain ⟨rfl, hsz, hP, hK⟩ := hv
  subst hsz
  have hts := atoms_spec (ws := .code y cc maxL (some .int) :: wR) B.pre
  have hown : s.vm.findClass own = some m.cls := ho ▸ findClass_of_methodNamed B.named
  have hlocks := B.notSynchronized
  have hl := lv_entry av (n := maxL) hav
  rw [lg_entry_eq]
  generalize (lg_sl av ++ List.replicate (maxL - (lg_sl av).length) Slot.unset).toArray = ls at hl ⊢
  exact body p e s m _ below meth c ls _ ⟨⟨B.exec, B.bytes, hml, hown, hts⟩, hK, dn⟩ ⟨hP, va_S.rf⟩ hl (fun w hv hd => W.iret B.exec B.bytes B.returns (fun u9 ht hW => ⟨⟨_, (), rfl, hv, by show va_P E.1 vcl (vN E M' z' t' f') u9.heap; rw [ht]; exact w.1⟩, w.2.F ht⟩) w.2.2.2 hd)
theorem MI2.ofZ (dn : dM E) (hy : plainName own = true) (ho : y.cls = own) (hav : (lg_sl av).length ≤ maxL) (hz : r = 0 ∨ r = 1)
    (body : ∀ (p : Program) (e : Env) (s : State) (m : MethodId) (args : Array Value) (below : List Frame) (meth : Method) (c : Code) (ls : Array Slot) (Q : State → Prop), cY E p m c cc maxL s args (.code y cc maxL (some .boolean)) own → vst E s.heap M z t f s.heap [] → lv_has ls maxL (lv_args 0 av) →
      (∀ {H : Heap} {locs : List Loc} {pc : Nat} {ls : Array Slot} {v : Int32}, vst E s.heap M' z' t' f' H locs → v = r → decode cc pc = .ok (.ireturn, 1) → W p l e (rmA fr lo) s m args below meth c H locs 0 0 Q (F0 m pc ls [.int v])) →
      W p l e (rmA fr lo) s m args below meth c s.heap [] 0 0 Q (F0 m 0 ls [])) : MI2 l y (.code y cc maxL (some .boolean)) fr lo E av M z t f r M' z' t' f' := by
  intro sz
  refine Met.ofW (cc := cc) (maxL := maxL) (ret := some .boolean) (by rw [ho]; exact hy) rfl ?_
  intro p e s m args below meth c s₁ B hml hv
  obtain ⟨rfl, hsz, hP, hK⟩ := hv
  subst hsz
  have hts := atoms_spec (ws := .code y cc maxL (some .boolean) :: wR) B.pre
  have hown : s.vm.findClass own = some m.cls := ho ▸ findClass_of_methodNamed B.named
  have hlocks := B.notSynchronized
  have hl := lv_entry av (n := maxL) hav
  rw [lg_entry_eq]
  generalize (lg_sl av ++ List.replicate (maxL - (lg_sl av).length) Slot.unset).toArray = ls at hl ⊢
  exact body p e s m _ below meth c ls _ ⟨⟨B.exec, B.bytes, hml, hown, hts⟩, hK, dn⟩ ⟨hP, va_S.rf⟩ hl (fun w hv hd => W.zret B.exec B.bytes B.returns (by subst hv; rcases hz with h | h <;> rw [h] <;> rfl) (fun u9 ht hW => ⟨⟨_, (), rfl, hv, by show va_P E.1 vcl (vN E M' z' t' f') u9.heap; rw [ht]; exact w.1⟩, w.2.F ht⟩) w.2.2.2 hd)
end CM
section CC
variable {p : Program} {l : Launch} {e : Env} {R : Room} {s : State} {m : MethodId} {args : Array Value} {below : List Frame} {meth : Method} {c : Code} {H : Heap} {locs : List Loc} {cells slots : Nat} {Q : State → Prop} {pc nL : Nat} {ls : Array Slot} {rest st : List Value} {cc : ByteArray} {w0 w1 : Cond} {own C : String} {E : En} {M M' : Mt} {z t f z' t' f' : Nat}
variable {y : MethodName} {bytes : ByteArray} {maxL fr lo idx nA b : Nat} {As : List Value} {ret : Option FieldType} {r : Int32}
theorem callv2 (K : cY E p m c cc nL s args w0 own) (w : vst E s.heap M z t f H locs) (hM : MV2 l y w1 fr lo E (.ref b :: As) M z t f M' z' t' f') (cw : CallW R s args own C idx y bytes maxL ret (w1 :: wR) (rmA fr lo) 0 0 nA)
    (hr : ∃ cell : Cell, H[b]? = some cell ∧ cell.vm.isStatics = false ∧ s.vm.findClass C = some cell.cls) (hn : As.length = nA) (hsz : ls.size = nL) (hst : st = As.reverse ++ .ref b :: rest) (hW : (rest.map fun v => v.category).sum ≤ 8) (hd : decode cc pc = .ok (.invokevirtual idx, 3)) (hf : cells ≤ R.cells ∧ slots ≤ R.slots)
    (kk : ∀ (H : Heap) (locs : List Loc), vst E s.heap M' z' t' f' H locs → W p l e R s m args below meth c H locs cells slots Q (F0 m (pc + 3) ls rest)) : W p l e R s m args below meth c H locs cells slots Q (F0 m pc ls st) := by
  have hsub := aM_le (E := E) w.2.1
  refine va_callv (A0 := aM E s.heap.size) (A1 := aM E H.size) (va_runV (As := As) (rest := rest) K.1 (hM H.size) cw ⟨pM_blind, hr, fun U hU hW => ⟨rfl, by rw [hU], by rw [hU]; exact w.1, va_K.moved hW.alike K.2.1⟩⟩ rfl hn hsz hst (lv_room hW) hd ⟨hf.1, hf.2⟩) w.2 (fun q _ h => hsub q h) hsub (fun u u9 H1 locs1 ht hvm hp hB hz hk hS => ?_)
  exact kk H1 locs1 ⟨by rw [← ht]; exact hB, hS⟩
theorem calli2 (K : cY E p m c cc nL s args w0 own) (w : vst E s.heap M z t f H locs) (hM : MI2 l y w1 fr lo E (.ref b :: As) M z t f r M' z' t' f') (cw : CallW R s args own C idx y bytes maxL ret (w1 :: wR) (rmA fr lo) 0 0 nA)
    (hr : ∃ cell : Cell, H[b]? = some cell ∧ cell.vm.isStatics = false ∧ s.vm.findClass C = some cell.cls) (hn : As.length = nA) (hsz : ls.size = nL) (hst : st = As.reverse ++ .ref b :: rest) (hW : (rest.map fun v => v.category).sum ≤ 8) (hd : decode cc pc = .ok (.invokevirtual idx, 3)) (hf : cells ≤ R.cells ∧ slots ≤ R.slots)
    (kk : ∀ (H : Heap) (locs : List Loc), vst E s.heap M' z' t' f' H locs → W p l e R s m args below meth c H locs cells slots Q (F0 m (pc + 3) ls (.int r :: rest))) : W p l e R s m args below meth c H locs cells slots Q (F0 m pc ls st) := by
  have hsub := aM_le (E := E) w.2.1
  refine va_calli (A0 := aM E s.heap.size) (A1 := aM E H.size) (va_runV (As := As) (rest := rest) K.1 (hM H.size) cw ⟨pM_blind, hr, fun U hU hW => ⟨rfl, by rw [hU], by rw [hU]; exact w.1, va_K.moved hW.alike K.2.1⟩⟩ rfl hn hsz hst (lv_room hW) hd ⟨hf.1, hf.2⟩) w.2 (fun q _ h => hsub q h) hsub (fun r' u u9 H1 locs1 ht hvm hp hB hz hk hS => ?_)
  subst hp
  exact kk H1 locs1 ⟨by rw [← ht]; exact hB, hS⟩
end CC
