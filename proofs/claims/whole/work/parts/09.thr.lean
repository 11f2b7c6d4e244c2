/-! Methods that throw: the contract MT, its making, its calls. -/
def zN (E : En) (sz : Nat) (U : State) : Prop := vx_Zq Bundle.tN "UNASSIGNED_STACK" Bundle.steD (aN E sz) U U.heap ∧ vx_Zq Bundle.tN "SUPPRESSED_SENTINEL" Bundle.listD (aN E sz) U U.heap ∧ (∀ x ∈ strL, ∃ sa : Nat, vk_R RX1 x.1 x.2 sa U) ∧ (∀ X ∈ xL, va_Nw (.castable X X) U) ∧ ∀ x ∈ dL, va_Nw (.declares x) U
/-- what a throw of class X from RX1 asks of the words: by new ik, invokespecial ic, through the classes names -/
def xC (X : String) (ik ic : Nat) (names : List String) : Prop := X ∈ xL ∧ Bundle.fit X = true ∧ (∀ nm ∈ names, Bundle.fit nm = true) ∧ ∀ w ∈ Cond.classLink RX1 ik X :: Cond.initialized X :: vx_atS RX1 ic X names, (w ∈ wC ∨ w = .castable X X ∨ ∃ x ∈ dL, w = .declares x) ∧ vx_ot w = true
/-- a throw of class X from RX1, by new ik, invokespecial ic -/
def xT (X : String) (ik ic : Nat) : Prop := ∀ {p : Program} {l : Launch} {e : Env} {R : Room} {s : State} {m : MethodId} {args : Array Value} {below : List Frame} {meth : Method} {c : Code} {H : Heap} {locs : List Loc} {cells slots : Nat} {Qc : Array Value → State → Outcome → State → Prop} {XC : String → State → State → Prop} {mc ms : Nat} {free : Addr → Prop} {E : En} {cc : ByteArray} {pc : Nat} {ls : Array Slot} {rest : List Value} {x : Nat × String},
  p.tables.exec = Jvm.exec → c.code = cc → l.stackTraces = false → s.vm.findClass RX1 = some m.cls → (∀ w ∈ wC, w.before args s = true) → zN E s.heap.size s → va_S (aN E s.heap.size) s.heap H locs → ls.size = c.maxLocals → x ∈ strL →
  decode cc pc = .ok (.new ik, 3) → decode cc (pc + 3) = .ok (.dup, 1) → decode cc (pc + 4) = .ok (.ldc x.1, 2) → decode cc (pc + 6) = .ok (.invokespecial ic, 3) → decode cc (pc + 9) = .ok (.athrow, 1) →
  (∀ x ∈ c.exceptionTable.toList, False) → 5 < R.frames → (rest.map fun v => v.category).sum + 82 ≤ R.locals → cells + 1 ≤ R.cells → slots + 6 ≤ R.slots → meth.locks = false →
  (∀ t : State, s.vm.Alike t.vm → H.size ≤ t.heap.size → (∀ q : Nat, q < H.size → t.heap[q]? = H[q]?) → XC X s t) → (∀ z ∈ locs, free z.base) → cells + 1 ≤ mc → slots + 6 ≤ ms →
  W p l e R s m args below meth c H locs cells slots (vx_MQ below Qc XC args s mc ms free) (F0 m pc ls rest)
theorem xC.T {X : String} {ik ic : Nat} {names : List String} (hx : xC X ik ic names) (hn : names.length = 2) : xT X ik ic := by
  intro p l e R s m args below meth c H locs cells slots Qc XC mc ms free E cc pc ls rest x hexec hb hst hown hts hz hS hsize hs d0 d3 d4 d6 d9 hEx hfr hlo hc1 hs1 hlocks hxc hf hmc hms
  obtain ⟨sa, hsa⟩ := hz.2.2.1 x hs
  have hin : ∀ w ∈ Cond.classLink RX1 ik X :: Cond.initialized X :: vx_atS RX1 ic X names, w.before args s = true := fun w h => (hx.2.2.2 w h).1.elim (fun h1 => hts w h1) (fun h1 => h1.elim (fun h1 => by rw [h1]; exact va_Nw.use rfl (hz.2.2.2.1 X hx.1)) (fun h1 => by obtain ⟨x, hx1, hx2⟩ := h1; rw [hx2]; exact va_Nw.use rfl (hz.2.2.2.2 x hx1)))
  exact vx_throwS (A := aN E s.heap.size) hexec hb hst hown hx.2.1 hx.2.2.1 (hin _ List.mem_cons_self) (hin _ (List.mem_cons_of_mem _ List.mem_cons_self)) hsa (fun w h => hin w (List.mem_cons_of_mem _ (List.mem_cons_of_mem _ h))) (fun w h => (hx.2.2.2 w h).2) hz.1 hz.2.1 hS hsize d0 d3 d4 d6 d9 (fun x h => (hEx x h).elim) (by rw [hn]; exact hfr) (by rw [hn]; exact hlo) hc1 hs1 hlocks hxc hf hmc hms
/-- the same through a constructor whose first link has another place -/
def xY (X : String) (ik ic ix : Nat) (rx : ByteArray) (Yc : String) (names : List String) : Prop := X ∈ xL ∧ Bundle.fit X = true ∧ Bundle.fit Yc = true ∧ (∀ nm ∈ names, Bundle.fit nm = true) ∧ (decode rx 0 = .ok (.aload_n 0, 1) ∧ decode rx 1 = .ok (.aload_n 1, 1) ∧ decode rx 2 = .ok (.invokespecial ix, 3) ∧ decode rx 5 = .ok (.return_, 1)) ∧ ∀ w ∈ Cond.classLink RX1 ik X :: Cond.initialized X :: (oY RX1 ic X ix rx Yc names).filter vx_no, (w ∈ wC ∨ w = .castable X X ∨ ∃ x ∈ dL, w = .declares x) ∧ vx_ot w = true
theorem xY.T {X Yc : String} {ik ic ix : Nat} {rx : ByteArray} {names : List String} (hx : xY X ik ic ix rx Yc names) (hn : names.length = 1) : xT X ik ic := by
  intro p l e R s m args below meth c H locs cells slots Qc XC mc ms free E cc pc ls rest x hexec hb hst hown hts hz hS hsize hs d0 d3 d4 d6 d9 hEx hfr hlo hc1 hs1 hlocks hxc hf hmc hms
  obtain ⟨sa, hsa⟩ := hz.2.2.1 x hs
  obtain ⟨y1, y2, y3, y4, ⟨z0, z1, z2, z5⟩, y6⟩ := hx
  have hin : ∀ w ∈ Cond.classLink RX1 ik X :: Cond.initialized X :: (oY RX1 ic X ix rx Yc names).filter vx_no, w.before args s = true := fun w h => (y6 w h).1.elim (fun h1 => hts w h1) (fun h1 => h1.elim (fun h1 => by rw [h1]; exact va_Nw.use rfl (hz.2.2.2.1 X y1)) (fun h1 => by obtain ⟨x, hx1, hx2⟩ := h1; rw [hx2]; exact va_Nw.use rfl (hz.2.2.2.2 x hx1)))
  exact vx_throwY (A := aN E s.heap.size) hexec hb hst z0 z1 z2 z5 hown y2 y3 y4 (hin _ List.mem_cons_self) (hin _ (List.mem_cons_of_mem _ List.mem_cons_self)) hsa (fun w h => hin w (List.mem_cons_of_mem _ (List.mem_cons_of_mem _ h))) (fun w h => (y6 w h).2) hz.1 hz.2.1 hS hsize d0 d3 d4 d6 d9 (fun x h => (hEx x h).elim) (by rw [hn]; exact hfr) (by rw [hn]; exact hlo) hc1 hs1 hlocks hxc hf hmc hms
def MT (l : Launch) (y : MethodName) (w1 : Cond) (fr lo : Nat) (E : En) (av : List Value) (M : Mt) (n k : Nat) (X : String) (M' : Mt) (n' k' : Nat) : Prop := ∀ sz : Nat, vx_Met l y (w1 :: wC) (rmx fr lo)
  (va_Pc av (fun U => U.heap.size = sz ∧ va_P E.1 vcl (wN E M n k) U.heap ∧ va_K E.1 vcl (tyN E) U ∧ zN E sz U)) (va_Qv (fun _ : Unit => False) (fun _ _ => True) (aN E sz)) (vx_X (fun _ : Unit => True) (fun Ex _ t => Ex = X ∧ va_P E.1 vcl (wN E M' n' k') t.heap) (aN E sz)) 1 6 (aN E sz)
theorem zN.kept {E : En} {s U : State} {H : Heap} {locs : List Loc} (z : zN E s.heap.size s) (hS : va_S (aN E s.heap.size) s.heap H locs) (hU : U.heap = H) (hW : s.WarmedH U.vm) : zN E H.size U := by
  have hsub := aN_le (E := E) hS.1
  refine ⟨?_, ?_, fun x hx => ?_, fun X hX => (z.2.2.2.1 X hX).warmC hW, fun x hx => (z.2.2.2.2 x hx).warmD hW⟩
  · rw [hU]
    exact ((z.1.kept hS.2.1).moved hW.alike).narrow hsub
  · rw [hU]
    exact ((z.2.1.kept hS.2.1).moved hW.alike).narrow hsub
  · obtain ⟨sa, h⟩ := z.2.2.1 x hx
    exact ⟨sa, h.warm hW⟩
theorem pX_blind {E : En} {av : List Value} {sz : Nat} {M : Mt} {n k : Nat} : FrameBlind (va_Pc av (fun U => U.heap.size = sz ∧ va_P E.1 vcl (wN E M n k) U.heap ∧ va_K E.1 vcl (tyN E) U ∧ zN E sz U)) := by
  intro a U g mk q
  obtain ⟨q0, q1, qP, qK, z1, z2, z3, z4, z5⟩ := q
  exact ⟨q0, q1, qP, va_K.moved (u := U) (U := U.calling g mk a) (Vm.Alike.refl U.vm) qK, vx_Zq.moved (u := U) (U := U.calling g mk a) (Vm.Alike.refl U.vm) z1, vx_Zq.moved (u := U) (U := U.calling g mk a) (Vm.Alike.refl U.vm) z2, fun x hx => by obtain ⟨sa, h⟩ := z3 x hx; exact ⟨sa, vk_R.same (u := U) (U := U.calling g mk a) rfl h⟩, fun X hX => va_Nw.same (u := U) (U := U.calling g mk a) rfl rfl (z4 X hX), fun x hx => va_Nw.same (u := U) (U := U.calling g mk a) rfl rfl (z5 x hx)⟩
section CT
variable {l : Launch} {y : MethodName} {fr lo : Nat} {E : En} {av : List Value} {M M' : Mt} {n k n' k' : Nat} {X : String} {cc : ByteArray} {maxL : Nat} {own : String} {ret : Option FieldType}
theorem MT.of (hst : l.stackTraces = false) (dn : dN E) (hy : plainName RX1 = true) (ho : y.cls = RX1) (hav : (lg_sl av).length ≤ maxL)
    (body : ∀ (p : Program) (e : Env) (s : State) (m : MethodId) (args : Array Value) (below : List Frame) (meth : Method) (c : Code) (ls : Array Slot) (Q : State → Prop), cX E p m c cc maxL s args (.code y cc maxL ret) RX1 → zN E s.heap.size s → wst E s.heap M n k s.heap [] → lv_has ls maxL (lv_args 0 av) →
      (∀ {H : Heap} {locs : List Loc} {pc : Nat} {ls : Array Slot} {rest : List Value} {q : Addr} {ce : Cell}, wst E s.heap M' n' k' H locs → H[q]? = some ce → ce.vm = .none → s.vm.findClass X = some ce.cls → vx_W p l e (rmx fr lo) s m args below meth c H locs 1 6 Q (F0 m pc ls rest) q) →
      (∀ {H : Heap} {locs : List Loc} {pc : Nat} {ls : Array Slot} {rest : List Value} {ik ic : Nat} {x : Nat × String}, wst E s.heap M' n' k' H locs → xT X ik ic → x ∈ strL → ls.size = maxL → (rest.map fun v => v.category).sum ≤ 8 → 5 < fr → 90 ≤ lo →
        decode cc pc = .ok (.new ik, 3) → decode cc (pc + 3) = .ok (.dup, 1) → decode cc (pc + 4) = .ok (.ldc x.1, 2) → decode cc (pc + 6) = .ok (.invokespecial ic, 3) → decode cc (pc + 9) = .ok (.athrow, 1) →
        W p l e (rmx fr lo) s m args below meth c H locs 0 0 Q (F0 m pc ls rest)) →
      W p l e (rmx fr lo) s m args below meth c s.heap [] 0 0 Q (F0 m 0 ls [])) : MT l y (.code y cc maxL ret) fr lo E av M n k X M' n' k' := by
  intro sz
  refine vx_ofW (cc := cc) (maxL := maxL) (ret := ret) (by rw [ho]; exact hy) rfl ?_
  intro p e s m args below meth c s₁ B hml hEx hv
  obtain ⟨rfl, hsz, hP, hK, hz⟩ := hv
  subst hsz
  have hts := atoms_spec (ws := .code y cc maxL ret :: wC) B.pre
  have hown : s.vm.findClass RX1 = some m.cls := ho ▸ findClass_of_methodNamed B.named
  have hlocks := B.notSynchronized
  have hl := lv_entry av (n := maxL) hav
  rw [lg_entry_eq]
  generalize (lg_sl av ++ List.replicate (maxL - (lg_sl av).length) Slot.unset).toArray = ls at hl ⊢
  refine body p e s m _ below meth c ls _ ⟨⟨B.exec, B.bytes, hml, hown, hts⟩, hK, dn⟩ hz ⟨hP, va_S.rf⟩ hl (fun w hq hv hc => ?_) (fun {H locs pc ls rest ik ic x} w hx hs hsize hrest hfr hlo d0 d3 d4 d6 d9 => ?_)
  · exact vx_out (fun x h => (hEx x h).elim) hlocks hq hv hc (fun t ht hA => ⟨(), trivial, ⟨rfl, by rw [ht]; exact w.1⟩, w.2.F ht⟩) w.2.2.2 (Nat.le_refl _) (Nat.le_refl _)
  · refine hx B.exec B.bytes hst hown (fun w h => hts w (List.mem_cons_of_mem _ h)) hz w.2 (hsize.trans hml.symm) hs d0 d3 d4 d6 d9 hEx hfr ?_ (Nat.le_refl _) (Nat.le_refl _) hlocks ?_ w.2.2.2 (Nat.le_refl _) (Nat.le_refl _)
    · show (rest.map fun v => v.category).sum + 82 ≤ lo
      omega
    · intro t hA hsz hk
      refine ⟨(), trivial, ⟨rfl, fun i q hq => ?_⟩, Nat.le_trans w.2.1 hsz, fun q h1 h2 => ?_⟩
      · have h1 := w.1 i q hq
        exact h1.kept (hk q.1 h1.lt)
      · rw [hk q (Nat.lt_of_lt_of_le h1 w.2.1)]
        exact w.2.2.1 q h1 h2
end CT
section CCT
variable {p : Program} {l : Launch} {e : Env} {R : Room} {s : State} {m : MethodId} {args : Array Value} {below : List Frame} {meth : Method} {c : Code} {H : Heap} {locs : List Loc} {Q : State → Prop} {pc nL : Nat} {ls : Array Slot} {rest st : List Value} {cc : ByteArray} {w0 w1 : Cond} {own C : String} {E : En} {M M' : Mt} {n k n' k' : Nat}
variable {y : MethodName} {bytes : ByteArray} {maxL fr lo idx nA b : Nat} {As : List Value} {ret : Option FieldType} {X : String}
theorem callt (K : cX E p m c cc nL s args w0 own) (z : zN E s.heap.size s) (w : wst E s.heap M n k H locs) (hM : MT l y w1 fr lo E (.ref b :: As) M n k X M' n' k') (cw : CallW R s args own C idx y bytes maxL ret (w1 :: wC) (rmx fr lo) 1 6 nA)
    (hr : ∃ cell : Cell, H[b]? = some cell ∧ cell.vm.isStatics = false ∧ s.vm.findClass C = some cell.cls) (hn : As.length = nA) (hsz : ls.size = nL) (hst : st = As.reverse ++ .ref b :: rest) (hW : (rest.map fun v => v.category).sum ≤ 8) (hd : decode cc pc = .ok (.invokevirtual idx, 3)) (hf : 1 ≤ R.cells ∧ 6 ≤ R.slots)
    (out : ∀ {H : Heap} {locs : List Loc} {pc : Nat} {ls : Array Slot} {rest : List Value} {q : Addr} {ce : Cell}, wst E s.heap M' n' k' H locs → H[q]? = some ce → ce.vm = .none → s.vm.findClass X = some ce.cls → vx_W p l e R s m args below meth c H locs 1 6 Q (F0 m pc ls rest) q) : W p l e R s m args below meth c H locs 0 0 Q (F0 m pc ls st) := by
  have hsub := aN_le (E := E) w.2.1
  refine vx_callv (A0 := aN E s.heap.size) (A1 := aN E H.size) (AX := aN E H.size) (vx_runV (As := As) (rest := rest) K.1 (hM H.size) cw ⟨pX_blind, hr, fun U hU hW => ⟨rfl, by rw [hU], by rw [hU]; exact w.1, va_K.moved hW.alike K.2.1, z.kept w.2 hU hW⟩⟩ rfl hn hsz hst (lv_room hW) hd ⟨hf.1, hf.2⟩) w.2 (fun q _ h => hsub q h) hsub (fun q _ h => hsub q h) (fun Ex ce q9 u t H1 locs1 ht hvm hp hB hz hk hS h1 h2 h3 => ?_) (fun u t H1 locs1 ht hvm hp hB hz hk hS => hp.elim)
  obtain ⟨rfl, hP⟩ := hB
  exact out ⟨by rw [← ht]; exact hP, hS⟩ h1 h2 h3
theorem callst (K : cX E p m c cc nL s args w0 own) (z : zN E s.heap.size s) (w : wst E s.heap M n k H locs) (hM : MT l y w1 fr lo E As M n k X M' n' k') (cw : CallB R s args own idx y bytes maxL ret (w1 :: wC) (rmx fr lo) 1 6 nA ∧ (Cond.static y).before args s = true)
    (hn : As.length = nA) (hsz : ls.size = nL) (hst : st = As.reverse ++ rest) (hW : (rest.map fun v => v.category).sum ≤ 8) (hd : decode cc pc = .ok (.invokestatic idx, 3)) (hf : 1 ≤ R.cells ∧ 6 ≤ R.slots)
    (out : ∀ {H : Heap} {locs : List Loc} {pc : Nat} {ls : Array Slot} {rest : List Value} {q : Addr} {ce : Cell}, wst E s.heap M' n' k' H locs → H[q]? = some ce → ce.vm = .none → s.vm.findClass X = some ce.cls → vx_W p l e R s m args below meth c H locs 1 6 Q (F0 m pc ls rest) q) : W p l e R s m args below meth c H locs 0 0 Q (F0 m pc ls st) := by
  have hsub := aN_le (E := E) w.2.1
  refine vx_callv (A0 := aN E s.heap.size) (A1 := aN E H.size) (AX := aN E H.size) (vx_runS (As := As) (rest := rest) K.1 (hM H.size) cw ⟨pX_blind, fun U hU hW => ⟨rfl, by rw [hU], by rw [hU]; exact w.1, va_K.moved hW.alike K.2.1, z.kept w.2 hU hW⟩⟩ rfl hn hsz hst (lv_room hW) hd ⟨hf.1, hf.2⟩) w.2 (fun q _ h => hsub q h) hsub (fun q _ h => hsub q h) (fun Ex ce q9 u t H1 locs1 ht hvm hp hB hz hk hS h1 h2 h3 => ?_) (fun u t H1 locs1 ht hvm hp hB hz hk hS => hp.elim)
  obtain ⟨rfl, hP⟩ := hB
  exact out ⟨by rw [← ht]; exact hP, hS⟩ h1 h2 h3
end CCT
theorem xIAE : xT "java/lang/IllegalArgumentException" 67 71 := by
  refine xC.T (names := ["java/lang/RuntimeException", "java/lang/Exception"]) ⟨by decide, by decide +kernel, by decide +kernel, fun w h => ?_⟩ rfl
  have h1 := List.all_eq_true.mp (by decide +kernel : (Cond.classLink RX1 67 "java/lang/IllegalArgumentException" :: Cond.initialized "java/lang/IllegalArgumentException" :: vx_atS RX1 71 "java/lang/IllegalArgumentException" ["java/lang/RuntimeException", "java/lang/Exception"]).all (fun w => (decide (w ∈ wC) || (decide (w = .castable "java/lang/IllegalArgumentException" "java/lang/IllegalArgumentException") || dL.any (fun x => decide (w = .declares x)))) && vx_ot w) = true) w h
  simp only [Bool.and_eq_true, Bool.or_eq_true, decide_eq_true_eq, List.any_eq_true] at h1
  exact h1
theorem xISE : xT "java/lang/IllegalStateException" 53 57 := by
  refine xC.T (names := ["java/lang/RuntimeException", "java/lang/Exception"]) ⟨by decide, by decide +kernel, by decide +kernel, fun w h => ?_⟩ rfl
  have h1 := List.all_eq_true.mp (by decide +kernel : (Cond.classLink RX1 53 "java/lang/IllegalStateException" :: Cond.initialized "java/lang/IllegalStateException" :: vx_atS RX1 57 "java/lang/IllegalStateException" ["java/lang/RuntimeException", "java/lang/Exception"]).all (fun w => (decide (w ∈ wC) || (decide (w = .castable "java/lang/IllegalStateException" "java/lang/IllegalStateException") || dL.any (fun x => decide (w = .declares x)))) && vx_ot w) = true) w h
  simp only [Bool.and_eq_true, Bool.or_eq_true, decide_eq_true_eq, List.any_eq_true] at h1
  exact h1
theorem xNSE : xT "java/util/NoSuchElementException" 115 119 := by
  refine xY.T (ix := 13) (rx := prog_13_method_4_code) (Yc := "java/lang/RuntimeException") (names := ["java/lang/Exception"]) ⟨by decide, by decide +kernel, by decide +kernel, by decide +kernel, ⟨by decide +kernel, by decide +kernel, by decide +kernel, by decide +kernel⟩, fun w h => ?_⟩ rfl
  have h1 := List.all_eq_true.mp (by decide +kernel : (Cond.classLink RX1 115 "java/util/NoSuchElementException" :: Cond.initialized "java/util/NoSuchElementException" :: (oY RX1 119 "java/util/NoSuchElementException" 13 prog_13_method_4_code "java/lang/RuntimeException" ["java/lang/Exception"]).filter vx_no).all (fun w => (decide (w ∈ wC) || (decide (w = .castable "java/util/NoSuchElementException" "java/util/NoSuchElementException") || dL.any (fun x => decide (w = .declares x)))) && vx_ot w) = true) w h
  simp only [Bool.and_eq_true, Bool.or_eq_true, decide_eq_true_eq, List.any_eq_true] at h1
  exact h1
