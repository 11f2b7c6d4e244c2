/-! The world: one list of fourteen cells, rows M, n commits, k in the queue. -/
abbrev Mt : Type := Nat → Nat → Int32
abbrev En : Type := va_G × ClassId × ClassId × (Nat → Nat)
def ad (E : En) (i : Nat) : Nat := E.2.2.2 i
abbrev rmA (fr lo : Nat) : Room := { frames := fr, cells := 0, slots := 0, locals := lo }
abbrev rmx (fr lo : Nat) : Room := { frames := fr, cells := 1, slots := 6, locals := lo }
abbrev tyN (E : En) : List (ClassId × FieldType) := [(E.2.1, .int), (E.2.2.1, .boolean)]
def wN (E : En) (M : Mt) (n k : Nat) : va_W := [
  (ad E 0, .inr (1, [.int (nI n), .ref (ad E 1), .ref (ad E 2), .ref (ad E 3), .ref (ad E 4), .ref (ad E 5), .ref (ad E 6), .ref (ad E 7), .ref (ad E 8), .ref (ad E 9), .ref (ad E 10)])),
  (ad E 1, .inl (E.2.1, 2000, .inl (M 1))), (ad E 2, .inl (E.2.1, 2000, .inl (M 2))), (ad E 3, .inl (E.2.1, 2000, .inl (M 3))), (ad E 4, .inl (E.2.1, 2000, .inl (M 4))),
  (ad E 5, .inl (E.2.1, 8000, .inl (M 5))), (ad E 6, .inl (E.2.2.1, 2000, .inl (M 6))), (ad E 7, .inl (E.2.1, 2000, .inl (M 7))), (ad E 8, .inl (E.2.1, 2000, .inl (M 8))), (ad E 9, .inl (E.2.1, 2000, .inl (M 9))),
  (ad E 10, .inr (0, [.ref (ad E 11), .ref (ad E 12), .ref (ad E 13), .int (nI k)])),
  (ad E 11, .inl (E.2.1, 2000, .inl (M 11))), (ad E 12, .inl (E.2.1, 2000, .inl (M 12))), (ad E 13, .inl (E.2.1, 2000, .inl (M 13)))]
def dN (E : En) : Prop := ∀ i j, i < 14 → j < 14 → ad E i = ad E j → i = j
def aN (E : En) (sz : Nat) : Nat → Prop := fun q => (∃ i, i < 14 ∧ q = ad E i) ∨ sz ≤ q
theorem wN_addr {E : En} {M : Mt} {n k i : Nat} {q : Nat × va_E} (h : (wN E M n k)[i]? = some q) : i < 14 ∧ q.1 = ad E i := by
  have h2 : ((wN E M n k).map Prod.fst)[i]? = some q.1 := by rw [List.getElem?_map, h]; rfl
  have h3 : (wN E M n k).map Prod.fst = (List.range 14).map (ad E) := rfl
  rw [h3, List.getElem?_map] at h2
  by_cases hi : i < 14
  · rw [List.getElem?_range hi] at h2
    exact ⟨hi, (Option.some.inj h2).symm⟩
  · rw [List.getElem?_eq_none (by rw [List.length_range]; omega)] at h2
    cases h2
theorem dN.D {E : En} (h : dN E) {M : Mt} {n k sz : Nat} : va_D (aN E sz) (wN E M n k) := by
  refine ⟨fun i j p q hi hj e => ?_, fun i q hi => ?_⟩
  · obtain ⟨a1, a2⟩ := wN_addr hi
    obtain ⟨b1, b2⟩ := wN_addr hj
    exact h i j a1 b1 (by rw [← a2, ← b2]; exact e)
  · obtain ⟨a1, a2⟩ := wN_addr hi
    exact Or.inl ⟨i, a1, a2⟩
theorem aN_le {E : En} {a b : Nat} (h : a ≤ b) : ∀ q, aN E b q → aN E a q := fun _ hq => hq.elim Or.inl (fun h2 => Or.inr (Nat.le_trans h h2))
def wst (E : En) (H0 : Heap) (M : Mt) (n k : Nat) (H : Heap) (locs : List Loc) : Prop := va_P E.1 vcl (wN E M n k) H ∧ va_S (aN E H0.size) H0 H locs
def cX (E : En) (p : Program) (m : MethodId) (c : Code) (cc : ByteArray) (nL : Nat) (s : State) (args : Array Value) (w0 : Cond) (own : String) : Prop := CallFix p m c cc nL s args (w0 :: wC) own ∧ va_K E.1 vcl (tyN E) s ∧ dN E
/-- row q, of L places -/
def row (q L : Nat) : Prop := L < 2 ^ 31 ∧ ∀ (E : En) (M : Mt) (n k : Nat), (wN E M n k)[q]? = some (ad E q, .inl (E.2.1, L, .inl (M q))) ∧ ∀ f : Nat → Int32, (wN E M n k).set q (ad E q, .inl (E.2.1, L, .inl f)) = wN E (va_up M q f) n k
theorem row1 : row 1 2000 := ⟨by decide, fun _ _ _ _ => ⟨rfl, fun _ => rfl⟩⟩
theorem row2 : row 2 2000 := ⟨by decide, fun _ _ _ _ => ⟨rfl, fun _ => rfl⟩⟩
theorem row3 : row 3 2000 := ⟨by decide, fun _ _ _ _ => ⟨rfl, fun _ => rfl⟩⟩
theorem row4 : row 4 2000 := ⟨by decide, fun _ _ _ _ => ⟨rfl, fun _ => rfl⟩⟩
theorem row5 : row 5 8000 := ⟨by decide, fun _ _ _ _ => ⟨rfl, fun _ => rfl⟩⟩
theorem row7 : row 7 2000 := ⟨by decide, fun _ _ _ _ => ⟨rfl, fun _ => rfl⟩⟩
theorem row8 : row 8 2000 := ⟨by decide, fun _ _ _ _ => ⟨rfl, fun _ => rfl⟩⟩
theorem row9 : row 9 2000 := ⟨by decide, fun _ _ _ _ => ⟨rfl, fun _ => rfl⟩⟩
theorem row11 : row 11 2000 := ⟨by decide, fun _ _ _ _ => ⟨rfl, fun _ => rfl⟩⟩
theorem row12 : row 12 2000 := ⟨by decide, fun _ _ _ _ => ⟨rfl, fun _ => rfl⟩⟩
theorem row13 : row 13 2000 := ⟨by decide, fun _ _ _ _ => ⟨rfl, fun _ => rfl⟩⟩
theorem row6g {E : En} {M : Mt} {n k : Nat} : (wN E M n k)[6]? = some (ad E 6, .inl (E.2.2.1, 2000, .inl (M 6))) := rfl
theorem row6s {E : En} {M : Mt} {n k : Nat} (f : Nat → Int32) : (wN E M n k).set 6 (ad E 6, .inl (E.2.2.1, 2000, .inl f)) = wN E (va_up M 6 f) n k := rfl
theorem inc1 (i : Nat) : nI i + Int32.ofInt 1 = nI (i + 1) := (nI_succ i).symm
theorem dec1 (i : Nat) : nI (i + 1) + Int32.ofInt (-1) = nI i := pk_m1 i
section CR
variable {p : Program} {l : Launch} {e : Env} {R : Room} {s : State} {m : MethodId} {args : Array Value} {below : List Frame} {meth : Method} {c : Code} {H H0 : Heap} {locs : List Loc} {cells slots : Nat} {Q : State → Prop} {pc nL : Nat} {ls : Array Slot} {rest : List Value} {cc : ByteArray} {w0 : Cond} {own : String} {E : En} {M : Mt} {n k : Nat}
theorem topE {x y : Int32} (h : x = y) (kk : W p l e R s m args below meth c H locs cells slots Q (F0 m pc ls (.int y :: rest))) : W p l e R s m args below meth c H locs cells slots Q (F0 m pc ls (.int x :: rest)) := h ▸ kk
theorem ldN (K : cX E p m c cc nL s args w0 own) (w : wst E H0 M n k H locs) {q L : Nat} (hq : row q L) {j : Nat} (hj : j < L) (hd : decode cc pc = .ok (.iaload, 1))
    (kk : W p l e R s m args below meth c H locs cells slots Q (F0 m (pc + 1) ls (.int (M q j) :: rest))) : W p l e R s m args below meth c H locs cells slots Q (F0 m pc ls (.int (nI j) :: .ref (ad E q) :: rest)) := by
  refine va_iald K.1.1 K.1.2.1 K.2.1 w.1 q 0 (hq.2 E M n k).1 rfl (vp_in_nI hj hq.1) hd ?_
  rw [nI_clamp (Nat.lt_trans hj hq.1)]
  exact kk
theorem stN (K : cX E p m c cc nL s args w0 own) (w : wst E H0 M n k H locs) {q L : Nat} (hq : row q L) {j : Nat} {x : Int32} (hj : j < L) (hd : decode cc pc = .ok (.iastore, 1))
    (kk : ∀ (H : Heap) (locs : List Loc), wst E H0 (va_up M q (upd (M q) j x)) n k H locs → W p l e R s m args below meth c H locs cells slots Q (F0 m (pc + 1) ls rest)) : W p l e R s m args below meth c H locs cells slots Q (F0 m pc ls (.int x :: .int (nI j) :: .ref (ad E q) :: rest)) := by
  refine va_iast K.1.1 K.1.2.1 K.2.1 w.1 K.2.2.D w.2 q 0 (hq.2 E M n k).1 rfl (vp_in_nI hj hq.1) hd (fun H1 locs1 hP _ hS => kk H1 locs1 ⟨?_, hS⟩)
  rw [nI_clamp (Nat.lt_trans hj hq.1), (hq.2 E M n k).2] at hP
  exact hP
theorem ldZ (K : cX E p m c cc nL s args w0 own) (w : wst E H0 M n k H locs) {j : Nat} (hj : j < 2000) (hd : decode cc pc = .ok (.baload, 1))
    (kk : W p l e R s m args below meth c H locs cells slots Q (F0 m (pc + 1) ls (.int (M 6 j) :: rest))) : W p l e R s m args below meth c H locs cells slots Q (F0 m pc ls (.int (nI j) :: .ref (ad E 6) :: rest)) := by
  refine va_zald K.1.1 K.1.2.1 K.2.1 w.1 6 1 row6g rfl (vp_in_nI hj (by decide)) hd ?_
  rw [nI_clamp (Nat.lt_trans hj (by decide))]
  exact kk
theorem stZ (K : cX E p m c cc nL s args w0 own) (w : wst E H0 M n k H locs) {j : Nat} {x : Int32} (hj : j < 2000) (hx : vp_nar .boolean x = x) (hd : decode cc pc = .ok (.bastore, 1))
    (kk : ∀ (H : Heap) (locs : List Loc), wst E H0 (va_up M 6 (upd (M 6) j x)) n k H locs → W p l e R s m args below meth c H locs cells slots Q (F0 m (pc + 1) ls rest)) : W p l e R s m args below meth c H locs cells slots Q (F0 m pc ls (.int x :: .int (nI j) :: .ref (ad E 6) :: rest)) := by
  refine va_zast K.1.1 K.1.2.1 K.2.1 w.1 K.2.2.D w.2 6 1 row6g rfl (vp_in_nI hj (by decide)) hd (fun H1 locs1 hP _ hS => kk H1 locs1 ⟨?_, hS⟩)
  rw [nI_clamp (Nat.lt_trans hj (by decide)), hx, row6s] at hP
  exact hP
theorem recv0 (K : cX E p m c cc nL s args w0 own) (w : wst E H0 M n k H locs) : ∃ cell : Cell, H[ad E 0]? = some cell ∧ cell.vm.isStatics = false ∧ s.vm.findClass RX1 = some cell.cls := va_recv (ci := 1) (q0 := 0) K.2.1 w.1 rfl rfl
theorem recv10 (K : cX E p m c cc nL s args w0 own) (w : wst E H0 M n k H locs) : ∃ cell : Cell, H[ad E 10]? = some cell ∧ cell.vm.isStatics = false ∧ s.vm.findClass RX0 = some cell.cls := va_recv (ci := 0) (q0 := 10) K.2.1 w.1 rfl rfl
end CR
/-- a contract without an answer: rows, commits, queue before and behind -/
def MV (l : Launch) (y : MethodName) (w1 : Cond) (fr lo : Nat) (E : En) (av : List Value) (M : Mt) (n k : Nat) (M' : Mt) (n' k' : Nat) : Prop := ∀ sz : Nat, Met l y (w1 :: wC) (rmA fr lo)
  (va_Pc av (fun U => U.heap.size = sz ∧ va_P E.1 vcl (wN E M n k) U.heap ∧ va_K E.1 vcl (tyN E) U)) (va_Qv (fun _ : Unit => True) (fun _ t => va_P E.1 vcl (wN E M' n' k') t.heap) (aN E sz)) 0 0 (aN E sz)
def MI (l : Launch) (y : MethodName) (w1 : Cond) (fr lo : Nat) (E : En) (av : List Value) (M : Mt) (n k : Nat) (r : Int32) (M' : Mt) (n' k' : Nat) : Prop := ∀ sz : Nat, Met l y (w1 :: wC) (rmA fr lo)
  (va_Pc av (fun U => U.heap.size = sz ∧ va_P E.1 vcl (wN E M n k) U.heap ∧ va_K E.1 vcl (tyN E) U)) (va_Qi (fun r' (_ : Unit) => r' = r) (fun _ t => va_P E.1 vcl (wN E M' n' k') t.heap) (aN E sz)) 0 0 (aN E sz)
theorem pN_blind {E : En} {av : List Value} {sz : Nat} {M : Mt} {n k : Nat} : FrameBlind (va_Pc av (fun U => U.heap.size = sz ∧ va_P E.1 vcl (wN E M n k) U.heap ∧ va_K E.1 vcl (tyN E) U)) := by
  intro a U g mk q
  obtain ⟨q0, q1, qP, qK⟩ := q
  exact ⟨q0, q1, qP, va_K.moved (u := U) (U := U.calling g mk a) (Vm.Alike.refl U.vm) qK⟩
section CM
variable {l : Launch} {y : MethodName} {fr lo : Nat} {E : En} {av : List Value} {M M' : Mt} {n k n' k' : Nat} {r : Int32} {cc : ByteArray} {maxL : Nat} {own : String}
theorem MV.of (dn : dN E) (hy : plainName own = true) (ho : y.cls = own) (hav : (lg_sl av).length ≤ maxL)
    (body : ∀ (p : Program) (e : Env) (s : State) (m : MethodId) (args : Array Value) (below : List Frame) (meth : Method) (c : Code) (ls : Array Slot) (Q : State → Prop), cX E p m c cc maxL s args (.code y cc maxL none) own → wst E s.heap M n k s.heap [] → lv_has ls maxL (lv_args 0 av) →
      (∀ {H : Heap} {locs : List Loc} {pc : Nat} {ls : Array Slot}, wst E s.heap M' n' k' H locs → decode cc pc = .ok (.return_, 1) → W p l e (rmA fr lo) s m args below meth c H locs 0 0 Q (F0 m pc ls [])) →
      W p l e (rmA fr lo) s m args below meth c s.heap [] 0 0 Q (F0 m 0 ls [])) : MV l y (.code y cc maxL none) fr lo E av M n k M' n' k' := by
  intro sz
  refine Met.ofW (cc := cc) (maxL := maxL) (ret := none) (by rw [ho]; exact hy) rfl ?_
  intro p e s m args below meth c s₁ B hml hv
  obtain ⟨rfl, hsz, hP, hK⟩ := hv
  subst hsz
  have hts := atoms_spec (ws := .code y cc maxL none :: wC) B.pre
  have hown : s.vm.findClass own = some m.cls := ho ▸ findClass_of_methodNamed B.named
  have hlocks := B.notSynchronized
  have hl := lv_entry av (n := maxL) hav
  rw [lg_entry_eq]
  generalize (lg_sl av ++ List.replicate (maxL - (lg_sl av).length) Slot.unset).toArray = ls at hl ⊢
  exact body p e s m _ below meth c ls _ ⟨⟨B.exec, B.bytes, hml, hown, hts⟩, hK, dn⟩ ⟨hP, va_S.rf⟩ hl (fun w hd => W.vret B.exec B.bytes B.returns (fun t ht hW => ⟨⟨(), rfl, trivial, by show va_P E.1 vcl (wN E M' n' k') t.heap; rw [ht]; exact w.1⟩, w.2.F ht⟩) w.2.2.2 hd)
theorem MI.of (dn : dN E) (hy : plainName own = true) (ho : y.cls = own) (hav : (lg_sl av).length ≤ maxL)
    (body : ∀ (p : Program) (e : Env) (s : State) (m : MethodId) (args : Array Value) (below : List Frame) (meth : Method) (c : Code) (ls : Array Slot) (Q : State → Prop), cX E p m c cc maxL s args (.code y cc maxL (some .int)) own → wst E s.heap M n k s.heap [] → lv_has ls maxL (lv_args 0 av) →
      (∀ {H : Heap} {locs : List Loc} {pc : Nat} {ls : Array Slot} {v : Int32}, wst E s.heap M' n' k' H locs → v = r → decode cc pc = .ok (.ireturn, 1) → W p l e (rmA fr lo) s m args below meth c H locs 0 0 Q (F0 m pc ls [.int v])) →
      W p l e (rmA fr lo) s m args below meth c s.heap [] 0 0 Q (F0 m 0 ls [])) : MI l y (.code y cc maxL (some .int)) fr lo E av M n k r M' n' k' := by
  intro sz
  refine Met.ofW (cc := cc) (maxL := maxL) (ret := some .int) (by rw [ho]; exact hy) rfl ?_
  intro p e s m args below meth c s₁ B hml hv
  obtain ⟨rfl, hsz, hP, hK⟩ := hv
  subst hsz
  have hts := atoms_spec (ws := .code y cc maxL (some .int) :: wC) B.pre
  have hown : s.vm.findClass own = some m.cls := ho ▸ findClass_of_methodNamed B.named
  have hlocks := B.notSynchronized
  have hl := lv_entry av (n := maxL) hav
  rw [lg_entry_eq]
  generalize (lg_sl av ++ List.replicate (maxL - (lg_sl av).length) Slot.unset).toArray = ls at hl ⊢
  exact body p e s m _ below meth c ls _ ⟨⟨B.exec, B.bytes, hml, hown, hts⟩, hK, dn⟩ ⟨hP, va_S.rf⟩ hl (fun w hv hd => W.iret B.exec B.bytes B.returns (fun t ht hW => ⟨⟨_, (), rfl, hv, by show va_P E.1 vcl (wN E M' n' k') t.heap; rw [ht]; exact w.1⟩, w.2.F ht⟩) w.2.2.2 hd)
theorem MI.ofZ (dn : dN E) (hy : plainName own = true) (ho : y.cls = own) (hav : (lg_sl av).length ≤ maxL) (hz : r = 0 ∨ r = 1)
    (body : ∀ (p : Program) (e : Env) (s : State) (m : MethodId) (args : Array Value) (below : List Frame) (meth : Method) (c : Code) (ls : Array Slot) (Q : State → Prop), cX E p m c cc maxL s args (.code y cc maxL (some .boolean)) own → wst E s.heap M n k s.heap [] → lv_has ls maxL (lv_args 0 av) →
      (∀ {H : Heap} {locs : List Loc} {pc : Nat} {ls : Array Slot} {v : Int32}, wst E s.heap M' n' k' H locs → v = r → decode cc pc = .ok (.ireturn, 1) → W p l e (rmA fr lo) s m args below meth c H locs 0 0 Q (F0 m pc ls [.int v])) →
      W p l e (rmA fr lo) s m args below meth c s.heap [] 0 0 Q (F0 m 0 ls [])) : MI l y (.code y cc maxL (some .boolean)) fr lo E av M n k r M' n' k' := by
  intro sz
  refine Met.ofW (cc := cc) (maxL := maxL) (ret := some .boolean) (by rw [ho]; exact hy) rfl ?_
  intro p e s m args below meth c s₁ B hml hv
  obtain ⟨rfl, hsz, hP, hK⟩ := hv
  subst hsz
  have hts := atoms_spec (ws := .code y cc maxL (some .boolean) :: wC) B.pre
  have hown : s.vm.findClass own = some m.cls := ho ▸ findClass_of_methodNamed B.named
  have hlocks := B.notSynchronized
  have hl := lv_entry av (n := maxL) hav
  rw [lg_entry_eq]
  generalize (lg_sl av ++ List.replicate (maxL - (lg_sl av).length) Slot.unset).toArray = ls at hl ⊢
  exact body p e s m _ below meth c ls _ ⟨⟨B.exec, B.bytes, hml, hown, hts⟩, hK, dn⟩ ⟨hP, va_S.rf⟩ hl (fun w hv hd => W.zret B.exec B.bytes B.returns (by subst hv; rcases hz with h | h <;> rw [h] <;> rfl) (fun t ht hW => ⟨⟨_, (), rfl, hv, by show va_P E.1 vcl (wN E M' n' k') t.heap; rw [ht]; exact w.1⟩, w.2.F ht⟩) w.2.2.2 hd)
end CM
section CC
variable {p : Program} {l : Launch} {e : Env} {R : Room} {s : State} {m : MethodId} {args : Array Value} {below : List Frame} {meth : Method} {c : Code} {H : Heap} {locs : List Loc} {cells slots : Nat} {Q : State → Prop} {pc nL : Nat} {ls : Array Slot} {rest st : List Value} {cc : ByteArray} {w0 w1 : Cond} {own C : String} {E : En} {M M' : Mt} {n k n' k' : Nat}
variable {y : MethodName} {bytes : ByteArray} {maxL fr lo idx nA b : Nat} {As : List Value} {ret : Option FieldType} {r : Int32}
theorem callv (K : cX E p m c cc nL s args w0 own) (w : wst E s.heap M n k H locs) (hM : MV l y w1 fr lo E (.ref b :: As) M n k M' n' k') (cw : CallW R s args own C idx y bytes maxL ret (w1 :: wC) (rmA fr lo) 0 0 nA)
    (hr : ∃ cell : Cell, H[b]? = some cell ∧ cell.vm.isStatics = false ∧ s.vm.findClass C = some cell.cls) (hn : As.length = nA) (hsz : ls.size = nL) (hst : st = As.reverse ++ .ref b :: rest) (hW : (rest.map fun v => v.category).sum ≤ 8) (hd : decode cc pc = .ok (.invokevirtual idx, 3)) (hf : cells ≤ R.cells ∧ slots ≤ R.slots)
    (kk : ∀ (H : Heap) (locs : List Loc), wst E s.heap M' n' k' H locs → W p l e R s m args below meth c H locs cells slots Q (F0 m (pc + 3) ls rest)) : W p l e R s m args below meth c H locs cells slots Q (F0 m pc ls st) := by
  have hsub := aN_le (E := E) w.2.1
  refine va_callv (A0 := aN E s.heap.size) (A1 := aN E H.size) (va_runV (As := As) (rest := rest) K.1 (hM H.size) cw ⟨pN_blind, hr, fun U hU hW => ⟨rfl, by rw [hU], by rw [hU]; exact w.1, va_K.moved hW.alike K.2.1⟩⟩ rfl hn hsz hst (lv_room hW) hd ⟨hf.1, hf.2⟩) w.2 (fun q _ h => hsub q h) hsub (fun u t H1 locs1 ht hvm hp hB hz hk hS => ?_)
  exact kk H1 locs1 ⟨by rw [← ht]; exact hB, hS⟩
theorem calli (K : cX E p m c cc nL s args w0 own) (w : wst E s.heap M n k H locs) (hM : MI l y w1 fr lo E (.ref b :: As) M n k r M' n' k') (cw : CallW R s args own C idx y bytes maxL ret (w1 :: wC) (rmA fr lo) 0 0 nA)
    (hr : ∃ cell : Cell, H[b]? = some cell ∧ cell.vm.isStatics = false ∧ s.vm.findClass C = some cell.cls) (hn : As.length = nA) (hsz : ls.size = nL) (hst : st = As.reverse ++ .ref b :: rest) (hW : (rest.map fun v => v.category).sum ≤ 8) (hd : decode cc pc = .ok (.invokevirtual idx, 3)) (hf : cells ≤ R.cells ∧ slots ≤ R.slots)
    (kk : ∀ (H : Heap) (locs : List Loc), wst E s.heap M' n' k' H locs → W p l e R s m args below meth c H locs cells slots Q (F0 m (pc + 3) ls (.int r :: rest))) : W p l e R s m args below meth c H locs cells slots Q (F0 m pc ls st) := by
  have hsub := aN_le (E := E) w.2.1
  refine va_calli (A0 := aN E s.heap.size) (A1 := aN E H.size) (va_runV (As := As) (rest := rest) K.1 (hM H.size) cw ⟨pN_blind, hr, fun U hU hW => ⟨rfl, by rw [hU], by rw [hU]; exact w.1, va_K.moved hW.alike K.2.1⟩⟩ rfl hn hsz hst (lv_room hW) hd ⟨hf.1, hf.2⟩) w.2 (fun q _ h => hsub q h) hsub (fun r' u t H1 locs1 ht hvm hp hB hz hk hS => ?_)
  subst hp
  exact kk H1 locs1 ⟨by rw [← ht]; exact hB, hS⟩
theorem callsv (K : cX E p m c cc nL s args w0 own) (w : wst E s.heap M n k H locs) (hM : MV l y w1 fr lo E As M n k M' n' k') (cw : CallB R s args own idx y bytes maxL ret (w1 :: wC) (rmA fr lo) 0 0 nA ∧ (Cond.static y).before args s = true)
    (hn : As.length = nA) (hsz : ls.size = nL) (hst : st = As.reverse ++ rest) (hW : (rest.map fun v => v.category).sum ≤ 8) (hd : decode cc pc = .ok (.invokestatic idx, 3)) (hf : cells ≤ R.cells ∧ slots ≤ R.slots)
    (kk : ∀ (H : Heap) (locs : List Loc), wst E s.heap M' n' k' H locs → W p l e R s m args below meth c H locs cells slots Q (F0 m (pc + 3) ls rest)) : W p l e R s m args below meth c H locs cells slots Q (F0 m pc ls st) := by
  have hsub := aN_le (E := E) w.2.1
  refine va_callv (A0 := aN E s.heap.size) (A1 := aN E H.size) (va_runS (As := As) (rest := rest) K.1 (hM H.size) cw ⟨pN_blind, fun U hU hW => ⟨rfl, by rw [hU], by rw [hU]; exact w.1, va_K.moved hW.alike K.2.1⟩⟩ rfl hn hsz hst (lv_room hW) hd ⟨hf.1, hf.2⟩) w.2 (fun q _ h => hsub q h) hsub (fun u t H1 locs1 ht hvm hp hB hz hk hS => ?_)
  exact kk H1 locs1 ⟨by rw [← ht]; exact hB, hS⟩
theorem callsi (K : cX E p m c cc nL s args w0 own) (w : wst E s.heap M n k H locs) (hM : MI l y w1 fr lo E As M n k r M' n' k') (cw : CallB R s args own idx y bytes maxL ret (w1 :: wC) (rmA fr lo) 0 0 nA ∧ (Cond.static y).before args s = true)
    (hn : As.length = nA) (hsz : ls.size = nL) (hst : st = As.reverse ++ rest) (hW : (rest.map fun v => v.category).sum ≤ 8) (hd : decode cc pc = .ok (.invokestatic idx, 3)) (hf : cells ≤ R.cells ∧ slots ≤ R.slots)
    (kk : ∀ (H : Heap) (locs : List Loc), wst E s.heap M' n' k' H locs → W p l e R s m args below meth c H locs cells slots Q (F0 m (pc + 3) ls (.int r :: rest))) : W p l e R s m args below meth c H locs cells slots Q (F0 m pc ls st) := by
  have hsub := aN_le (E := E) w.2.1
  refine va_calli (A0 := aN E s.heap.size) (A1 := aN E H.size) (va_runS (As := As) (rest := rest) K.1 (hM H.size) cw ⟨pN_blind, fun U hU hW => ⟨rfl, by rw [hU], by rw [hU]; exact w.1, va_K.moved hW.alike K.2.1⟩⟩ rfl hn hsz hst (lv_room hW) hd ⟨hf.1, hf.2⟩) w.2 (fun q _ h => hsub q h) hsub (fun r' u t H1 locs1 ht hvm hp hB hz hk hS => ?_)
  subst hp
  exact kk H1 locs1 ⟨by rw [← ht]; exact hB, hS⟩
end CC
