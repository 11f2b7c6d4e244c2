def wX : List Cond := [(Jvm.Cond.initialized "AncestryNetLaw"),
  (Jvm.Cond.classLink "AncestryNetLaw" (8 : Nat) "AncestryNet"),
  (Jvm.Cond.methodLink "AncestryNetLaw" (47 : Nat) ({ cls := "AncestryNet", name := "<init>", desc := "()V" } : Jvm.MethodName)),
  (Jvm.Cond.methodLink "AncestryNetLaw" (88 : Nat) ({ cls := "AncestryNet", name := "count", desc := "(I)I" } : Jvm.MethodName)),
  (Jvm.Cond.methodLink "AncestryNetLaw" (51 : Nat) ({ cls := "AncestryNetLaw", name := "add", desc := "(LAncestryNet;IIIII[J)I" } : Jvm.MethodName)),
  (Jvm.Cond.static ({ cls := "AncestryNetLaw", name := "add", desc := "(LAncestryNet;IIIII[J)I" } : Jvm.MethodName)),
  (Jvm.Cond.codeWith ({ cls := "AncestryNetLaw", name := "add", desc := "(LAncestryNet;IIIII[J)I" } : Jvm.MethodName) method_3_code (8 : Nat) (Option.some Jvm.ClassFile.FieldType.int) [((0 : Nat), (16 : Nat), (19 : Nat), (13 : Nat)), ((0 : Nat), (16 : Nat), (23 : Nat), (15 : Nat))]),
  (Jvm.Cond.classLink "AncestryNetLaw" (13 : Nat) "java/lang/IllegalArgumentException"),
  (Jvm.Cond.classLink "AncestryNetLaw" (15 : Nat) "java/lang/IllegalStateException"),
  (Jvm.Cond.methodLink "AncestryNetLaw" (7 : Nat) ({ cls := "AncestryNet", name := "add", desc := "(IIIII)I" } : Jvm.MethodName)),
  (Jvm.Cond.methodLink "AncestryNetLaw" (61 : Nat) ({ cls := "AncestryNetLaw", name := "under", desc := "(LAncestryNet;II[J)I" } : Jvm.MethodName)),
  (Jvm.Cond.static ({ cls := "AncestryNetLaw", name := "under", desc := "(LAncestryNet;II[J)I" } : Jvm.MethodName)),
  (Jvm.Cond.codeWith ({ cls := "AncestryNetLaw", name := "under", desc := "(LAncestryNet;II[J)I" } : Jvm.MethodName) method_4_code (5 : Nat) (Option.some Jvm.ClassFile.FieldType.int) [((0 : Nat), (10 : Nat), (13 : Nat), (13 : Nat)), ((0 : Nat), (10 : Nat), (17 : Nat), (15 : Nat))]),
  (Jvm.Cond.methodLink "AncestryNetLaw" (17 : Nat) ({ cls := "AncestryNet", name := "under", desc := "(II)I" } : Jvm.MethodName)),
  (Jvm.Cond.methodLink "AncestryNetLaw" (65 : Nat) ({ cls := "AncestryNetLaw", name := "tip", desc := "(LAncestryNet;IIZ)I" } : Jvm.MethodName)),
  (Jvm.Cond.static ({ cls := "AncestryNetLaw", name := "tip", desc := "(LAncestryNet;IIZ)I" } : Jvm.MethodName)),
  (Jvm.Cond.codeWith ({ cls := "AncestryNetLaw", name := "tip", desc := "(LAncestryNet;IIZ)I" } : Jvm.MethodName) method_5_code (5 : Nat) (Option.some Jvm.ClassFile.FieldType.int) [((0 : Nat), (7 : Nat), (10 : Nat), (13 : Nat))]),
  (Jvm.Cond.methodLink "AncestryNetLaw" (21 : Nat) ({ cls := "AncestryNet", name := "tip", desc := "(IIZ)V" } : Jvm.MethodName)),
  (Jvm.Cond.methodLink "AncestryNetLaw" (69 : Nat) ({ cls := "AncestryNetLaw", name := "reaches", desc := "(LAncestryNet;II[J)I" } : Jvm.MethodName)),
  (Jvm.Cond.static ({ cls := "AncestryNetLaw", name := "reaches", desc := "(LAncestryNet;II[J)I" } : Jvm.MethodName)),
  (Jvm.Cond.codeWith ({ cls := "AncestryNetLaw", name := "reaches", desc := "(LAncestryNet;II[J)I" } : Jvm.MethodName) method_6_code (5 : Nat) (Option.some Jvm.ClassFile.FieldType.int) [((0 : Nat), (17 : Nat), (20 : Nat), (13 : Nat))]),
  (Jvm.Cond.methodLink "AncestryNetLaw" (25 : Nat) ({ cls := "AncestryNet", name := "reaches", desc := "(II)Z" } : Jvm.MethodName)),
  (Jvm.Cond.methodLink "AncestryNetLaw" (72 : Nat) ({ cls := "AncestryNetLaw", name := "base", desc := "(LAncestryNet;III[J)I" } : Jvm.MethodName)),
  (Jvm.Cond.static ({ cls := "AncestryNetLaw", name := "base", desc := "(LAncestryNet;III[J)I" } : Jvm.MethodName)),
  (Jvm.Cond.codeWith ({ cls := "AncestryNetLaw", name := "base", desc := "(LAncestryNet;III[J)I" } : Jvm.MethodName) method_7_code (6 : Nat) (Option.some Jvm.ClassFile.FieldType.int) [((0 : Nat), (12 : Nat), (15 : Nat), (13 : Nat)), ((0 : Nat), (12 : Nat), (19 : Nat), (33 : Nat))]),
  (Jvm.Cond.classLink "AncestryNetLaw" (33 : Nat) "java/util/NoSuchElementException"),
  (Jvm.Cond.methodLink "AncestryNetLaw" (29 : Nat) ({ cls := "AncestryNet", name := "base", desc := "(III)I" } : Jvm.MethodName)),
  (Jvm.Cond.methodLink "AncestryNetLaw" (76 : Nat) ({ cls := "AncestryNetLaw", name := "log", desc := "(LAncestryNet;II[J)I" } : Jvm.MethodName)),
  (Jvm.Cond.static ({ cls := "AncestryNetLaw", name := "log", desc := "(LAncestryNet;II[J)I" } : Jvm.MethodName)),
  (Jvm.Cond.codeWith ({ cls := "AncestryNetLaw", name := "log", desc := "(LAncestryNet;II[J)I" } : Jvm.MethodName) method_8_code (5 : Nat) (Option.some Jvm.ClassFile.FieldType.int) [((0 : Nat), (10 : Nat), (13 : Nat), (13 : Nat)), ((0 : Nat), (10 : Nat), (17 : Nat), (33 : Nat))]),
  (Jvm.Cond.methodLink "AncestryNetLaw" (35 : Nat) ({ cls := "AncestryNet", name := "log", desc := "(II)I" } : Jvm.MethodName)),
  (Jvm.Cond.methodLink "AncestryNetLaw" (79 : Nat) ({ cls := "AncestryNetLaw", name := "back", desc := "(LAncestryNet;II[J)I" } : Jvm.MethodName)),
  (Jvm.Cond.static ({ cls := "AncestryNetLaw", name := "back", desc := "(LAncestryNet;II[J)I" } : Jvm.MethodName)),
  (Jvm.Cond.codeWith ({ cls := "AncestryNetLaw", name := "back", desc := "(LAncestryNet;II[J)I" } : Jvm.MethodName) method_9_code (5 : Nat) (Option.some Jvm.ClassFile.FieldType.int) [((0 : Nat), (10 : Nat), (13 : Nat), (13 : Nat)), ((0 : Nat), (10 : Nat), (17 : Nat), (33 : Nat))]),
  (Jvm.Cond.methodLink "AncestryNetLaw" (38 : Nat) ({ cls := "AncestryNet", name := "back", desc := "(II)I" } : Jvm.MethodName)),
  (Jvm.Cond.methodLink "AncestryNetLaw" (82 : Nat) ({ cls := "AncestryNetLaw", name := "sent", desc := "(LAncestryNet;II[J)I" } : Jvm.MethodName)),
  (Jvm.Cond.static ({ cls := "AncestryNetLaw", name := "sent", desc := "(LAncestryNet;II[J)I" } : Jvm.MethodName)),
  (Jvm.Cond.codeWith ({ cls := "AncestryNetLaw", name := "sent", desc := "(LAncestryNet;II[J)I" } : Jvm.MethodName) method_10_code (5 : Nat) (Option.some Jvm.ClassFile.FieldType.int) [((0 : Nat), (10 : Nat), (13 : Nat), (13 : Nat)), ((0 : Nat), (10 : Nat), (17 : Nat), (33 : Nat))]),
  (Jvm.Cond.methodLink "AncestryNetLaw" (41 : Nat) ({ cls := "AncestryNet", name := "sent", desc := "(II)I" } : Jvm.MethodName)),
  (Jvm.Cond.methodLink "AncestryNetLaw" (85 : Nat) ({ cls := "AncestryNetLaw", name := "told", desc := "(LAncestryNet;II[J)I" } : Jvm.MethodName)),
  (Jvm.Cond.static ({ cls := "AncestryNetLaw", name := "told", desc := "(LAncestryNet;II[J)I" } : Jvm.MethodName)),
  (Jvm.Cond.codeWith ({ cls := "AncestryNetLaw", name := "told", desc := "(LAncestryNet;II[J)I" } : Jvm.MethodName) method_11_code (5 : Nat) (Option.some Jvm.ClassFile.FieldType.int) [((0 : Nat), (10 : Nat), (13 : Nat), (13 : Nat))]),
  (Jvm.Cond.methodLink "AncestryNetLaw" (44 : Nat) ({ cls := "AncestryNet", name := "told", desc := "(II)I" } : Jvm.MethodName)),
  (Jvm.Cond.classLink "AncestryNetLaw" (48 : Nat) "AncestryNetModel"),
  (Jvm.Cond.methodLink "AncestryNetLaw" (50 : Nat) ({ cls := "AncestryNetModel", name := "<init>", desc := "()V" } : Jvm.MethodName)),
  (Jvm.Cond.methodLink "AncestryNetLaw" (57 : Nat) ({ cls := "AncestryNetModel", name := "thrown", desc := "()I" } : Jvm.MethodName)),
  (Jvm.Cond.methodLink "AncestryNetLaw" (56 : Nat) ({ cls := "AncestryNetModel", name := "add", desc := "(IIIII)I" } : Jvm.MethodName)),
  (Jvm.Cond.methodLink "AncestryNetLaw" (64 : Nat) ({ cls := "AncestryNetModel", name := "under", desc := "(II)I" } : Jvm.MethodName)),
  (Jvm.Cond.methodLink "AncestryNetLaw" (68 : Nat) ({ cls := "AncestryNetModel", name := "tip", desc := "(IIZ)V" } : Jvm.MethodName)),
  (Jvm.Cond.methodLink "AncestryNetLaw" (71 : Nat) ({ cls := "AncestryNetModel", name := "reaches", desc := "(II)Z" } : Jvm.MethodName)),
  (Jvm.Cond.methodLink "AncestryNetLaw" (75 : Nat) ({ cls := "AncestryNetModel", name := "base", desc := "(III)I" } : Jvm.MethodName)),
  (Jvm.Cond.methodLink "AncestryNetLaw" (78 : Nat) ({ cls := "AncestryNetModel", name := "log", desc := "(II)I" } : Jvm.MethodName)),
  (Jvm.Cond.methodLink "AncestryNetLaw" (81 : Nat) ({ cls := "AncestryNetModel", name := "back", desc := "(II)I" } : Jvm.MethodName)),
  (Jvm.Cond.methodLink "AncestryNetLaw" (84 : Nat) ({ cls := "AncestryNetModel", name := "sent", desc := "(II)I" } : Jvm.MethodName)),
  (Jvm.Cond.methodLink "AncestryNetLaw" (87 : Nat) ({ cls := "AncestryNetModel", name := "told", desc := "(II)I" } : Jvm.MethodName)),
  (Jvm.Cond.methodLink "AncestryNetLaw" (92 : Nat) ({ cls := "AncestryNetModel", name := "count", desc := "(I)I" } : Jvm.MethodName))]
def wW : List Cond := wX ++ wC
theorem wX_all : wX.all goodWord = true := by decide +kernel
theorem wW_good {w : Cond} (h : w ∈ wW) : (w.onTables && w.keeps) = true ∨ ∃ ty, w = .arrayClass ty := (List.mem_append.mp h).elim (fun h1 => good_of_word (List.all_eq_true.mp wX_all w h1)) wC_good
theorem at_inW {L : List Cond} (ps : List Nat) (h : ps.map (fun i => wW[i]?) = L.map some) : ∀ w ∈ L, w ∈ wW := by
  intro w hw
  have h1 : some w ∈ ps.map (fun i => wW[i]?) := by rw [h]; exact List.mem_map.mpr ⟨w, hw, rfl⟩
  obtain ⟨i, -, hi⟩ := List.mem_map.mp h1
  exact List.mem_of_getElem? hi
theorem gLW {w0 w1 : Cond} {L : List Cond} (h1 : w1 ∈ wC) (hl : ∀ w ∈ L, w ∈ wW) : GoodIn (w0 :: wW) (L ++ (w1 :: wC)) := by
  have hc : ∀ {w : Cond}, w ∈ wC → w ∈ wW := fun h => List.mem_append_right _ h
  intro w h
  rcases List.mem_append.mp h with h | h
  · exact ⟨List.mem_cons_of_mem _ (hl w h), wW_good (hl w h)⟩
  · rcases List.mem_cons.mp h with rfl | h
    · exact ⟨List.mem_cons_of_mem _ (hc h1), wC_good h1⟩
    · exact ⟨List.mem_cons_of_mem _ (hc h), wC_good h⟩
abbrev tyL (E : En) (cJ : ClassId) : List (ClassId × FieldType) := [(E.2.1, .int), (E.2.2.1, .boolean), (cJ, .long)]
def oL (qo : Nat) (cJ : ClassId) (g : Nat → Int64) : va_W := [(qo, .inl (cJ, 1, .inr (.inl g)))]
def aL (E : En) (qo sz : Nat) : Nat → Prop := fun q => aN E sz q ∨ q = qo
def apo (E : En) (qo : Nat) : Prop := ∀ i, i < 14 → qo ≠ ad E i
theorem aL_le {E : En} {qo a b : Nat} (h : a ≤ b) : ∀ q, aN E b q → aL E qo a q := fun q hq => Or.inl (aN_le h q hq)
/-- the statics, strings and words that a throw asks for, and which handler rows are passed over -/
def zW (E : En) (qo sz : Nat) (U : State) : Prop := (vx_Zq Bundle.tN "UNASSIGNED_STACK" Bundle.steD (aL E qo sz) U U.heap ∧ vx_Zq Bundle.tN "SUPPRESSED_SENTINEL" Bundle.listD (aL E qo sz) U U.heap ∧ (∀ x ∈ strL, ∃ sa : Nat, vk_R RX1 x.1 x.2 sa U) ∧ (∀ X ∈ xL, va_Nw (.castable X X) U) ∧ ∀ x ∈ dL, va_Nw (.declares x) U) ∧ va_Nc "java/lang/IllegalStateException" "java/lang/IllegalArgumentException" U ∧ va_Nc "java/util/NoSuchElementException" "java/lang/IllegalArgumentException" U
theorem zW.kept {E : En} {qo : Nat} {s U : State} {H : Heap} {locs : List Loc} (z : zW E qo s.heap.size s) (hS : va_S (aL E qo s.heap.size) s.heap H locs) (hU : U.heap = H) (hW : s.WarmedH U.vm) : zN E H.size U := by
  have hsub : ∀ q, aN E H.size q → aL E qo s.heap.size q := aL_le hS.1
  refine ⟨?_, ?_, fun x hx => ?_, fun X hX => (z.1.2.2.2.1 X hX).warmC hW, fun x hx => (z.1.2.2.2.2 x hx).warmD hW⟩
  · rw [hU]
    exact ((z.1.1.kept hS.2.1).moved hW.alike).narrow hsub
  · rw [hU]
    exact ((z.1.2.1.kept hS.2.1).moved hW.alike).narrow hsub
  · obtain ⟨sa, h⟩ := z.1.2.2.1 x hx
    exact ⟨sa, h.warm hW⟩
def wL (E : En) (qo : Nat) (cJ : ClassId) (H0 : Heap) (M : Mt) (n k : Nat) (g : Nat → Int64) (H : Heap) (locs : List Loc) : Prop := va_P E.1 vcl (wN E M n k) H ∧ va_P E.1 vcl (oL qo cJ g) H ∧ va_S (aL E qo H0.size) H0 H locs
def cW (E : En) (qo : Nat) (cJ : ClassId) (p : Program) (m : MethodId) (c : Code) (cc : ByteArray) (nL : Nat) (s : State) (args : Array Value) (w0 : Cond) : Prop := CallFix p m c cc nL s args (w0 :: wW) RL ∧ va_K E.1 vcl (tyL E cJ) s ∧ dN E ∧ apo E qo
theorem apo.D {E : En} {qo : Nat} {cJ : ClassId} {g : Nat → Int64} {sz : Nat} : va_D (aL E qo sz) (oL qo cJ g) := by
  refine ⟨fun i j p q hi hj e => ?_, fun i q hi => ?_⟩
  · have h1 : i < 1 := (List.getElem?_eq_some_iff.mp hi).1
    have h2 : j < 1 := (List.getElem?_eq_some_iff.mp hj).1
    omega
  · have h1 : i < 1 := (List.getElem?_eq_some_iff.mp hi).1
    obtain rfl : i = 0 := by omega
    cases hi
    exact Or.inr rfl
/-- what lies apart from the cells that a call may change stays -/
theorem oL_kept {D : va_G} {cl : List vw_C} {qo : Nat} {cJ : ClassId} {g : Nat → Int64} {H H1 : Heap} (h : va_P D cl (oL qo cJ g) H) (hq : H1[qo]? = H[qo]?) : va_P D cl (oL qo cJ g) H1 := h.kept (fun k q hk => by
  have h1 : k < 1 := (List.getElem?_eq_some_iff.mp hk).1
  obtain rfl : k = 0 := by omega
  cases hk
  exact hq)
theorem apo.out {E : En} {qo : Nat} (h : apo E qo) {H : Heap} (hq : qo < H.size) : ¬ aN E H.size qo := by
  rintro (⟨i, hi, e⟩ | h2)
  · exact h i hi e
  · omega
theorem oL_lt {D : va_G} {cl : List vw_C} {qo : Nat} {cJ : ClassId} {g : Nat → Int64} {H : Heap} (h : va_P D cl (oL qo cJ g) H) : qo < H.size := (h 0 _ rfl).lt
section WC
variable {p : Program} {l : Launch} {e : Env} {R : Room} {s : State} {m : MethodId} {args : Array Value} {below : List Frame} {meth : Method} {c : Code} {H : Heap} {locs : List Loc} {cells slots : Nat} {Q : State → Prop} {pc nL : Nat} {ls : Array Slot} {rest st : List Value} {cc : ByteArray} {w0 w1 : Cond} {E : En} {qo : Nat} {cJ : ClassId} {M M' : Mt} {n k n' k' : Nat} {g : Nat → Int64}
variable {y : MethodName} {bytes : ByteArray} {maxL fr lo idx nA : Nat} {As : List Value} {ret : Option FieldType} {r : Int32} {X : String}
theorem recvW (K : cW E qo cJ p m c cc nL s args w0) (w : wL E qo cJ s.heap M n k g H locs) : ∃ cell : Cell, H[ad E 0]? = some cell ∧ cell.vm.isStatics = false ∧ s.vm.findClass RX1 = some cell.cls := va_recv (ci := 1) (q0 := 0) K.2.1 w.1 rfl rfl
theorem wcalli (K : cW E qo cJ p m c cc nL s args w0) (w : wL E qo cJ s.heap M n k g H locs) (hM : MI l y w1 fr lo E (.ref (ad E 0) :: As) M n k r M' n' k') (cw : CallW R s args RL RX1 idx y bytes maxL ret (w1 :: wC) (rmA fr lo) 0 0 nA) (hn : As.length = nA) (hsz : ls.size = nL) (hst : st = As.reverse ++ .ref (ad E 0) :: rest) (hW : (rest.map fun v => v.category).sum ≤ 8) (hd : decode cc pc = .ok (.invokevirtual idx, 3)) (hf : cells ≤ R.cells ∧ slots ≤ R.slots)
    (kk : ∀ (H : Heap) (locs : List Loc), wL E qo cJ s.heap M' n' k' g H locs → W p l e R s m args below meth c H locs cells slots Q (F0 m (pc + 3) ls (.int r :: rest))) : W p l e R s m args below meth c H locs cells slots Q (F0 m pc ls st) := by
  have hsub := aL_le (E := E) (qo := qo) w.2.2.1
  have hK : va_K E.1 vcl (tyN E) s := K.2.1.sub [0, 1] rfl
  refine va_calli (A0 := aL E qo s.heap.size) (A1 := aN E H.size) (va_runV (As := As) (rest := rest) K.1 (hM H.size) cw ⟨pN_blind, recvW K w, fun U hU hW => ⟨rfl, by rw [hU], by rw [hU]; exact w.1, va_K.moved hW.alike hK⟩⟩ rfl hn hsz hst (lv_room hW) hd ⟨hf.1, hf.2⟩) w.2.2 (fun q _ h => hsub q h) hsub (fun r' u t H1 locs1 ht hvm hp hB hz hk hS => ?_)
  subst hp
  exact kk H1 locs1 ⟨by rw [← ht]; exact hB, oL_kept w.2.1 (hk qo (oL_lt w.2.1) (K.2.2.2.out (oL_lt w.2.1))), hS⟩
theorem wcallv (K : cW E qo cJ p m c cc nL s args w0) (w : wL E qo cJ s.heap M n k g H locs) (hM : MV l y w1 fr lo E (.ref (ad E 0) :: As) M n k M' n' k') (cw : CallW R s args RL RX1 idx y bytes maxL ret (w1 :: wC) (rmA fr lo) 0 0 nA) (hn : As.length = nA) (hsz : ls.size = nL) (hst : st = As.reverse ++ .ref (ad E 0) :: rest) (hW : (rest.map fun v => v.category).sum ≤ 8) (hd : decode cc pc = .ok (.invokevirtual idx, 3)) (hf : cells ≤ R.cells ∧ slots ≤ R.slots)
    (kk : ∀ (H : Heap) (locs : List Loc), wL E qo cJ s.heap M' n' k' g H locs → W p l e R s m args below meth c H locs cells slots Q (F0 m (pc + 3) ls rest)) : W p l e R s m args below meth c H locs cells slots Q (F0 m pc ls st) := by
  have hsub := aL_le (E := E) (qo := qo) w.2.2.1
  have hK : va_K E.1 vcl (tyN E) s := K.2.1.sub [0, 1] rfl
  refine va_callv (A0 := aL E qo s.heap.size) (A1 := aN E H.size) (va_runV (As := As) (rest := rest) K.1 (hM H.size) cw ⟨pN_blind, recvW K w, fun U hU hW => ⟨rfl, by rw [hU], by rw [hU]; exact w.1, va_K.moved hW.alike hK⟩⟩ rfl hn hsz hst (lv_room hW) hd ⟨hf.1, hf.2⟩) w.2.2 (fun q _ h => hsub q h) hsub (fun u t H1 locs1 ht hvm hp hB hz hk hS => ?_)
  exact kk H1 locs1 ⟨by rw [← ht]; exact hB, oL_kept w.2.1 (hk qo (oL_lt w.2.1) (K.2.2.2.out (oL_lt w.2.1))), hS⟩
theorem wcallt (K : cW E qo cJ p m c cc nL s args w0) (z : zW E qo s.heap.size s) (w : wL E qo cJ s.heap M n k g H locs) (hM : MT l y w1 fr lo E (.ref (ad E 0) :: As) M n k X M' n' k') (cw : CallW R s args RL RX1 idx y bytes maxL ret (w1 :: wC) (rmx fr lo) 1 6 nA) (hn : As.length = nA) (hsz : ls.size = nL) (hst : st = As.reverse ++ .ref (ad E 0) :: rest) (hW : (rest.map fun v => v.category).sum ≤ 8) (hd : decode cc pc = .ok (.invokevirtual idx, 3)) (hf : 1 ≤ R.cells ∧ 6 ≤ R.slots)
    (kx : ∀ (q : Addr) (ce : Cell) (H : Heap) (locs : List Loc), wL E qo cJ s.heap M' n' k' g H locs → H[q]? = some ce → ce.vm = .none → s.vm.findClass X = some ce.cls → vx_W p l e R s m args below meth c H locs 1 6 Q (F0 m pc ls rest) q) : W p l e R s m args below meth c H locs 0 0 Q (F0 m pc ls st) := by
  have hsub := aL_le (E := E) (qo := qo) w.2.2.1
  have hK : va_K E.1 vcl (tyN E) s := K.2.1.sub [0, 1] rfl
  refine vx_callv (A0 := aL E qo s.heap.size) (A1 := aN E H.size) (AX := aN E H.size) (vx_runV (As := As) (rest := rest) K.1 (hM H.size) cw ⟨pX_blind, recvW K w, fun U hU hW => ⟨rfl, by rw [hU], by rw [hU]; exact w.1, va_K.moved hW.alike hK, z.kept w.2.2 hU hW⟩⟩ rfl hn hsz hst (lv_room hW) hd ⟨hf.1, hf.2⟩) w.2.2 (fun q _ h => hsub q h) hsub (fun q _ h => hsub q h) (fun Ex ce q9 u t H1 locs1 ht hvm hp hB hz hk hS h1 h2 h3 => ?_) (fun u t H1 locs1 ht hvm hp hB hz hk hS => hp.elim)
  obtain ⟨rfl, hP⟩ := hB
  exact kx q9 ce H1 locs1 ⟨by rw [← ht]; exact hP, oL_kept w.2.1 (hk qo (oL_lt w.2.1) (K.2.2.2.out (oL_lt w.2.1))), hS⟩ h1 h2 h3
theorem stO (K : cW E qo cJ p m c cc nL s args w0) (w : wL E qo cJ s.heap M n k g H locs) {x : Int64} (hd : decode cc pc = .ok (.lastore, 1))
    (kk : ∀ (H : Heap) (locs : List Loc), wL E qo cJ s.heap M n k (vp_updL g 0 x) H locs → W p l e R s m args below meth c H locs cells slots Q (F0 m (pc + 1) ls rest)) : W p l e R s m args below meth c H locs cells slots Q (F0 m pc ls (.long x :: .int (nI 0) :: .ref qo :: rest)) := by
  have hd0 : va_D (aL E qo s.heap.size) (wN E M n k ++ oL qo cJ g) := by
    refine ⟨fun i j a b hi hj e => ?_, fun i a hi => ?_⟩
    · have hlen : (wN E M n k).length = 14 := rfl
      by_cases h1 : i < 14
      · rw [List.getElem?_append_left (by rw [hlen]; exact h1)] at hi
        by_cases h2 : j < 14
        · rw [List.getElem?_append_left (by rw [hlen]; exact h2)] at hj
          exact (K.2.2.1.D (sz := 0)).1 i j a b hi hj e
        · rw [List.getElem?_append_right (by rw [hlen]; omega), hlen] at hj
          have h3 : j - 14 < 1 := (List.getElem?_eq_some_iff.mp hj).1
          obtain rfl : j = 14 := by omega
          cases hj
          exact absurd (e.symm.trans (wN_addr hi).2) (K.2.2.2 i h1)
      · rw [List.getElem?_append_right (by rw [hlen]; omega), hlen] at hi
        have h3 : i - 14 < 1 := (List.getElem?_eq_some_iff.mp hi).1
        obtain rfl : i = 14 := by omega
        cases hi
        by_cases h2 : j < 14
        · rw [List.getElem?_append_left (by rw [hlen]; exact h2)] at hj
          exact absurd (e.trans (wN_addr hj).2) (K.2.2.2 j h2)
        · rw [List.getElem?_append_right (by rw [hlen]; omega), hlen] at hj
          have h4 : j - 14 < 1 := (List.getElem?_eq_some_iff.mp hj).1
          omega
    · rcases List.mem_append.mp (List.mem_of_getElem? hi) with h | h
      · obtain ⟨j, hj⟩ := List.getElem?_of_mem h
        obtain ⟨h1, h2⟩ := wN_addr hj
        exact Or.inl (Or.inl ⟨j, h1, h2⟩)
      · rw [oL, List.mem_singleton] at h
        rw [h]
        exact Or.inr rfl
  refine va_last K.1.1 K.1.2.1 K.2.1 (w.1.app w.2.1) hd0 w.2.2 14 2 rfl rfl (vp_in_nI (by decide) (by decide)) hd (fun H1 locs1 hP _ hS => kk H1 locs1 ⟨hP.sub [0, 1, 2, 3, 4, 5, 6, 7, 8, 9, 10, 11, 12, 13] rfl, hP.sub [14] rfl, hS⟩)
end WC
def MW (l : Launch) (y : MethodName) (w1 : Cond) (E : En) (qo : Nat) (cJ : ClassId) (av : List Value) (M : Mt) (n k : Nat) (g : Nat → Int64) (r : Int32) (M' : Mt) (n' k' : Nat) (g' : Nat → Int64) : Prop := ∀ sz : Nat, Met l y (w1 :: wW) ({ frames := 10, cells := 1, slots := 6, locals := 400 })
  (va_Pc av (fun U => U.heap.size = sz ∧ va_P E.1 vcl (wN E M n k) U.heap ∧ va_P E.1 vcl (oL qo cJ g) U.heap ∧ va_K E.1 vcl (tyL E cJ) U ∧ zW E qo sz U)) (va_Qi (fun r' (_ : Unit) => r' = r) (fun _ t => va_P E.1 vcl (wN E M' n' k') t.heap ∧ va_P E.1 vcl (oL qo cJ g') t.heap) (aL E qo sz)) 1 6 (aL E qo sz)
theorem MW.of {l : Launch} {y : MethodName} {E : En} {qo : Nat} {cJ : ClassId} {av : List Value} {M M' : Mt} {n k n' k' : Nat} {g g' : Nat → Int64} {r : Int32} {cc : ByteArray} {maxL : Nat} {hh : List (Nat × Nat × Nat × Nat)} (dn : dN E) (ap : apo E qo) (hy : plainName RL = true) (ho : y.cls = RL) (hav : (lg_sl av).length ≤ maxL)
    (body : ∀ (p : Program) (e : Env) (s : State) (m : MethodId) (args : Array Value) (below : List Frame) (meth : Method) (c : Code) (ls : Array Slot) (Q : State → Prop), cW E qo cJ p m c cc maxL s args (.codeWith y cc maxL (some .int) hh) → c.exceptionTable.toList = tableOf hh → zW E qo s.heap.size s → wL E qo cJ s.heap M n k g s.heap [] → lv_has ls maxL (lv_args 0 av) →
      (∀ {H : Heap} {locs : List Loc} {pc : Nat} {ls : Array Slot} {v : Int32} {cells slots : Nat}, wL E qo cJ s.heap M' n' k' g' H locs → v = r → cells ≤ 1 → slots ≤ 6 → decode cc pc = .ok (.ireturn, 1) → W p l e ({ frames := 10, cells := 1, slots := 6, locals := 400 }) s m args below meth c H locs cells slots Q (F0 m pc ls [.int v])) →
      W p l e ({ frames := 10, cells := 1, slots := 6, locals := 400 }) s m args below meth c s.heap [] 0 0 Q (F0 m 0 ls [])) : MW l y (.codeWith y cc maxL (some .int) hh) E qo cJ av M n k g r M' n' k' g' := by
  intro sz
  refine va_MetW (cc := cc) (maxL := maxL) (ret := some .int) (hh := hh) (by rw [ho]; exact hy) rfl ?_
  intro p e s m args below meth c s₁ B hml hv
  obtain ⟨rfl, hsz, hP, hO, hK, hz⟩ := hv
  subst hsz
  have hts := atoms_spec (ws := .codeWith y cc maxL (some .int) hh :: wW) B.pre
  have hown : s.vm.findClass RL = some m.cls := ho ▸ findClass_of_methodNamed B.named
  have hlocks := B.notSynchronized
  have hTab := vx_table (x := y) B (hts _ List.mem_cons_self)
  have hl := lv_entry av (n := maxL) hav
  rw [lg_entry_eq]
  generalize (lg_sl av ++ List.replicate (maxL - (lg_sl av).length) Slot.unset).toArray = ls at hl ⊢
  exact body p e s m _ below meth c ls _ ⟨⟨B.exec, B.bytes, hml, hown, hts⟩, hK, dn, ap⟩ hTab hz ⟨hP, hO, va_S.rf⟩ hl (fun w hv h1 h2 hd => W.widen h1 h2 (W.iret B.exec B.bytes B.returns (fun t ht hW => ⟨⟨_, (), rfl, hv, by show va_P E.1 vcl (wN E M' n' k') t.heap ∧ va_P E.1 vcl (oL qo cJ g') t.heap; rw [ht]; exact ⟨w.1, w.2.1⟩⟩, w.2.2.F ht⟩) w.2.2.2.2 hd))
