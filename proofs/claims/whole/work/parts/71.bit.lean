abbrev cJb : ByteArray := prog_8_method_49_code
def yJb : MethodName := ⟨"java/lang/Integer", "bitCount", "(I)I"⟩
theorem dJb_0 : decode cJb 0 = .ok (.iload_n 0, 1) := by decide +kernel
theorem dJb_1 : decode cJb 1 = .ok (.iload_n 0, 1) := by decide +kernel
theorem dJb_2 : decode cJb 2 = .ok (.iconst 1, 1) := by decide +kernel
theorem dJb_3 : decode cJb 3 = .ok (.iushr, 1) := by decide +kernel
theorem dJb_4 : decode cJb 4 = .ok (.ldc_w 265, 3) := by decide +kernel
theorem dJb_7 : decode cJb 7 = .ok (.iand, 1) := by decide +kernel
theorem dJb_8 : decode cJb 8 = .ok (.isub, 1) := by decide +kernel
theorem dJb_9 : decode cJb 9 = .ok (.istore_n 0, 1) := by decide +kernel
theorem dJb_10 : decode cJb 10 = .ok (.iload_n 0, 1) := by decide +kernel
theorem dJb_11 : decode cJb 11 = .ok (.ldc_w 266, 3) := by decide +kernel
theorem dJb_14 : decode cJb 14 = .ok (.iand, 1) := by decide +kernel
theorem dJb_15 : decode cJb 15 = .ok (.iload_n 0, 1) := by decide +kernel
theorem dJb_16 : decode cJb 16 = .ok (.iconst 2, 1) := by decide +kernel
theorem dJb_17 : decode cJb 17 = .ok (.iushr, 1) := by decide +kernel
theorem dJb_18 : decode cJb 18 = .ok (.ldc_w 266, 3) := by decide +kernel
theorem dJb_21 : decode cJb 21 = .ok (.iand, 1) := by decide +kernel
theorem dJb_22 : decode cJb 22 = .ok (.iadd, 1) := by decide +kernel
theorem dJb_23 : decode cJb 23 = .ok (.istore_n 0, 1) := by decide +kernel
theorem dJb_24 : decode cJb 24 = .ok (.iload_n 0, 1) := by decide +kernel
theorem dJb_25 : decode cJb 25 = .ok (.iload_n 0, 1) := by decide +kernel
theorem dJb_26 : decode cJb 26 = .ok (.iconst 4, 1) := by decide +kernel
theorem dJb_27 : decode cJb 27 = .ok (.iushr, 1) := by decide +kernel
theorem dJb_28 : decode cJb 28 = .ok (.iadd, 1) := by decide +kernel
theorem dJb_29 : decode cJb 29 = .ok (.ldc_w 267, 3) := by decide +kernel
theorem dJb_32 : decode cJb 32 = .ok (.iand, 1) := by decide +kernel
theorem dJb_33 : decode cJb 33 = .ok (.istore_n 0, 1) := by decide +kernel
theorem dJb_34 : decode cJb 34 = .ok (.iload_n 0, 1) := by decide +kernel
theorem dJb_35 : decode cJb 35 = .ok (.iload_n 0, 1) := by decide +kernel
theorem dJb_36 : decode cJb 36 = .ok (.bipush 8, 2) := by decide +kernel
theorem dJb_38 : decode cJb 38 = .ok (.iushr, 1) := by decide +kernel
theorem dJb_39 : decode cJb 39 = .ok (.iadd, 1) := by decide +kernel
theorem dJb_40 : decode cJb 40 = .ok (.istore_n 0, 1) := by decide +kernel
theorem dJb_41 : decode cJb 41 = .ok (.iload_n 0, 1) := by decide +kernel
theorem dJb_42 : decode cJb 42 = .ok (.iload_n 0, 1) := by decide +kernel
theorem dJb_43 : decode cJb 43 = .ok (.bipush 16, 2) := by decide +kernel
theorem dJb_45 : decode cJb 45 = .ok (.iushr, 1) := by decide +kernel
theorem dJb_46 : decode cJb 46 = .ok (.iadd, 1) := by decide +kernel
theorem dJb_47 : decode cJb 47 = .ok (.istore_n 0, 1) := by decide +kernel
theorem dJb_48 : decode cJb 48 = .ok (.iload_n 0, 1) := by decide +kernel
theorem dJb_49 : decode cJb 49 = .ok (.bipush 63, 2) := by decide +kernel
theorem dJb_51 : decode cJb 51 = .ok (.iand, 1) := by decide +kernel
theorem dJb_52 : decode cJb 52 = .ok (.ireturn, 1) := by decide +kernel
section BC
variable {p : Program} {l : Launch} {e : Env} {R : Room} {s : State} {m : MethodId} {args : Array Value} {below : List Frame} {meth : Method} {c : Code} {H H0 : Heap} {locs : List Loc} {cells slots : Nat} {Q : State → Prop} {pc nL : Nat} {ls : Array Slot} {rest : List Value} {cc : ByteArray} {w0 : Cond} {E : En} {M : Mt} {n k : Nat} {rm : Room}
theorem lk_X1_130 (K : cX E p m c cc nL s args w0 RX1) (hR : rm.frames + 1 ≤ R.frames ∧ 8 + (1 + 11) + rm.locals ≤ R.locals) : CallB R s args RX1 130 yJb cJb 1 (some .int) ((.code yJb cJb 1 (some .int)) :: wC) rm rm.cells rm.slots 1 ∧ (Cond.static yJb).before args s = true :=
  va_cwS 1 K.1.2.2.2.2 (gL (List.mem_of_getElem? (i := 318) rfl) (at_in [316, 317, 36] rfl)) rfl rfl rfl ⟨by decide, by decide, by decide +kernel⟩ hR
end BC
set_option maxHeartbeats 4000000 in
set_option maxRecDepth 100000 in
theorem c_J_bit_0 {l : Launch} {E : En} {M : Mt} {n k : Nat} (dn : dN E) : MI l yJb (.code yJb cJb 1 (some .int)) 0 0 E [.int (nI 0)] M n k (nI 0) M n k := by
  refine MI.of dn (own := "java/lang/Integer") (by decide) rfl (Nat.le_of_ble_eq_true rfl) (fun p e s m args below meth c ls Q K w hl ret => ?_)
  have hx := K.1.1
  have hb := K.1.2.1
  have hl : lv_has ls 1 [(0, .int (nI 0))] := hl
  refine lv_iload_n hx hb dJb_0 rfl (lv_at hl 0 rfl) ?_
  refine lv_iload_n hx hb dJb_1 rfl (lv_at hl 0 rfl) ?_
  refine lv_iconst (v := nI 1) hx hb dJb_2 (by decide) ?_
  refine lv_iushr (v := nI 0) hx hb dJb_3 (by decide) ?_
  refine lv_ldcw (v := 1431655765) hx hb K.1.2.2.2.1 (K.1.2.2.2.2 _ (List.mem_cons_of_mem _ (List.mem_of_getElem? (i := 319) rfl))) dJb_4 ?_
  refine lv_iand hx hb dJb_7 ?_
  refine topE (y := nI 0) (by decide) ?_
  refine lv_isub hx hb dJb_8 ?_
  refine topE (y := nI 0) (by decide) ?_
  refine lv_istore_n (lv' := [(0, .int (nI 0))]) hx hb dJb_9 rfl hl (by decide) rfl (fun ls hl => ?_)
  refine lv_iload_n hx hb dJb_10 rfl (lv_at hl 0 rfl) ?_
  refine lv_ldcw (v := 858993459) hx hb K.1.2.2.2.1 (K.1.2.2.2.2 _ (List.mem_cons_of_mem _ (List.mem_of_getElem? (i := 320) rfl))) dJb_11 ?_
  refine lv_iand hx hb dJb_14 ?_
  refine topE (y := nI 0) (by decide) ?_
  refine lv_iload_n hx hb dJb_15 rfl (lv_at hl 0 rfl) ?_
  refine lv_iconst (v := nI 2) hx hb dJb_16 (by decide) ?_
  refine lv_iushr (v := nI 0) hx hb dJb_17 (by decide) ?_
  refine lv_ldcw (v := 858993459) hx hb K.1.2.2.2.1 (K.1.2.2.2.2 _ (List.mem_cons_of_mem _ (List.mem_of_getElem? (i := 320) rfl))) dJb_18 ?_
  refine lv_iand hx hb dJb_21 ?_
  refine topE (y := nI 0) (by decide) ?_
  refine lv_iadd hx hb dJb_22 ?_
  refine topE (y := nI 0) (by decide) ?_
  refine lv_istore_n (lv' := [(0, .int (nI 0))]) hx hb dJb_23 rfl hl (by decide) rfl (fun ls hl => ?_)
  refine lv_iload_n hx hb dJb_24 rfl (lv_at hl 0 rfl) ?_
  refine lv_iload_n hx hb dJb_25 rfl (lv_at hl 0 rfl) ?_
  refine lv_iconst (v := nI 4) hx hb dJb_26 (by decide) ?_
  refine lv_iushr (v := nI 0) hx hb dJb_27 (by decide) ?_
  refine lv_iadd hx hb dJb_28 ?_
  refine topE (y := nI 0) (by decide) ?_
  refine lv_ldcw (v := 252645135) hx hb K.1.2.2.2.1 (K.1.2.2.2.2 _ (List.mem_cons_of_mem _ (List.mem_of_getElem? (i := 321) rfl))) dJb_29 ?_
  refine lv_iand hx hb dJb_32 ?_
  refine topE (y := nI 0) (by decide) ?_
  refine lv_istore_n (lv' := [(0, .int (nI 0))]) hx hb dJb_33 rfl hl (by decide) rfl (fun ls hl => ?_)
  refine lv_iload_n hx hb dJb_34 rfl (lv_at hl 0 rfl) ?_
  refine lv_iload_n hx hb dJb_35 rfl (lv_at hl 0 rfl) ?_
  refine lv_bipush (v := nI 8) hx hb dJb_36 (by decide) ?_
  refine lv_iushr (v := nI 0) hx hb dJb_38 (by decide) ?_
  refine lv_iadd hx hb dJb_39 ?_
  refine topE (y := nI 0) (by decide) ?_
  refine lv_istore_n (lv' := [(0, .int (nI 0))]) hx hb dJb_40 rfl hl (by decide) rfl (fun ls hl => ?_)
  refine lv_iload_n hx hb dJb_41 rfl (lv_at hl 0 rfl) ?_
  refine lv_iload_n hx hb dJb_42 rfl (lv_at hl 0 rfl) ?_
  refine lv_bipush (v := nI 16) hx hb dJb_43 (by decide) ?_
  refine lv_iushr (v := nI 0) hx hb dJb_45 (by decide) ?_
  refine lv_iadd hx hb dJb_46 ?_
  refine topE (y := nI 0) (by decide) ?_
  refine lv_istore_n (lv' := [(0, .int (nI 0))]) hx hb dJb_47 rfl hl (by decide) rfl (fun ls hl => ?_)
  refine lv_iload_n hx hb dJb_48 rfl (lv_at hl 0 rfl) ?_
  refine lv_bipush (v := nI 63) hx hb dJb_49 (by decide) ?_
  refine lv_iand hx hb dJb_51 ?_
  refine topE (y := nI 0) (by decide) ?_
  exact ret w rfl dJb_52
set_option maxHeartbeats 4000000 in
set_option maxRecDepth 100000 in
theorem c_J_bit_1 {l : Launch} {E : En} {M : Mt} {n k : Nat} (dn : dN E) : MI l yJb (.code yJb cJb 1 (some .int)) 0 0 E [.int (nI 1)] M n k (nI 1) M n k := by
  refine MI.of dn (own := "java/lang/Integer") (by decide) rfl (Nat.le_of_ble_eq_true rfl) (fun p e s m args below meth c ls Q K w hl ret => ?_)
  have hx := K.1.1
  have hb := K.1.2.1
  have hl : lv_has ls 1 [(0, .int (nI 1))] := hl
  refine lv_iload_n hx hb dJb_0 rfl (lv_at hl 0 rfl) ?_
  refine lv_iload_n hx hb dJb_1 rfl (lv_at hl 0 rfl) ?_
  refine lv_iconst (v := nI 1) hx hb dJb_2 (by decide) ?_
  refine lv_iushr (v := nI 0) hx hb dJb_3 (by decide) ?_
  refine lv_ldcw (v := 1431655765) hx hb K.1.2.2.2.1 (K.1.2.2.2.2 _ (List.mem_cons_of_mem _ (List.mem_of_getElem? (i := 319) rfl))) dJb_4 ?_
  refine lv_iand hx hb dJb_7 ?_
  refine topE (y := nI 0) (by decide) ?_
  refine lv_isub hx hb dJb_8 ?_
  refine topE (y := nI 1) (by decide) ?_
  refine lv_istore_n (lv' := [(0, .int (nI 1))]) hx hb dJb_9 rfl hl (by decide) rfl (fun ls hl => ?_)
  refine lv_iload_n hx hb dJb_10 rfl (lv_at hl 0 rfl) ?_
  refine lv_ldcw (v := 858993459) hx hb K.1.2.2.2.1 (K.1.2.2.2.2 _ (List.mem_cons_of_mem _ (List.mem_of_getElem? (i := 320) rfl))) dJb_11 ?_
  refine lv_iand hx hb dJb_14 ?_
  refine topE (y := nI 1) (by decide) ?_
  refine lv_iload_n hx hb dJb_15 rfl (lv_at hl 0 rfl) ?_
  refine lv_iconst (v := nI 2) hx hb dJb_16 (by decide) ?_
  refine lv_iushr (v := nI 0) hx hb dJb_17 (by decide) ?_
  refine lv_ldcw (v := 858993459) hx hb K.1.2.2.2.1 (K.1.2.2.2.2 _ (List.mem_cons_of_mem _ (List.mem_of_getElem? (i := 320) rfl))) dJb_18 ?_
  refine lv_iand hx hb dJb_21 ?_
  refine topE (y := nI 0) (by decide) ?_
  refine lv_iadd hx hb dJb_22 ?_
  refine topE (y := nI 1) (by decide) ?_
  refine lv_istore_n (lv' := [(0, .int (nI 1))]) hx hb dJb_23 rfl hl (by decide) rfl (fun ls hl => ?_)
  refine lv_iload_n hx hb dJb_24 rfl (lv_at hl 0 rfl) ?_
  refine lv_iload_n hx hb dJb_25 rfl (lv_at hl 0 rfl) ?_
  refine lv_iconst (v := nI 4) hx hb dJb_26 (by decide) ?_
  refine lv_iushr (v := nI 0) hx hb dJb_27 (by decide) ?_
  refine lv_iadd hx hb dJb_28 ?_
  refine topE (y := nI 1) (by decide) ?_
  refine lv_ldcw (v := 252645135) hx hb K.1.2.2.2.1 (K.1.2.2.2.2 _ (List.mem_cons_of_mem _ (List.mem_of_getElem? (i := 321) rfl))) dJb_29 ?_
  refine lv_iand hx hb dJb_32 ?_
  refine topE (y := nI 1) (by decide) ?_
  refine lv_istore_n (lv' := [(0, .int (nI 1))]) hx hb dJb_33 rfl hl (by decide) rfl (fun ls hl => ?_)
  refine lv_iload_n hx hb dJb_34 rfl (lv_at hl 0 rfl) ?_
  refine lv_iload_n hx hb dJb_35 rfl (lv_at hl 0 rfl) ?_
  refine lv_bipush (v := nI 8) hx hb dJb_36 (by decide) ?_
  refine lv_iushr (v := nI 0) hx hb dJb_38 (by decide) ?_
  refine lv_iadd hx hb dJb_39 ?_
  refine topE (y := nI 1) (by decide) ?_
  refine lv_istore_n (lv' := [(0, .int (nI 1))]) hx hb dJb_40 rfl hl (by decide) rfl (fun ls hl => ?_)
  refine lv_iload_n hx hb dJb_41 rfl (lv_at hl 0 rfl) ?_
  refine lv_iload_n hx hb dJb_42 rfl (lv_at hl 0 rfl) ?_
  refine lv_bipush (v := nI 16) hx hb dJb_43 (by decide) ?_
  refine lv_iushr (v := nI 0) hx hb dJb_45 (by decide) ?_
  refine lv_iadd hx hb dJb_46 ?_
  refine topE (y := nI 1) (by decide) ?_
  refine lv_istore_n (lv' := [(0, .int (nI 1))]) hx hb dJb_47 rfl hl (by decide) rfl (fun ls hl => ?_)
  refine lv_iload_n hx hb dJb_48 rfl (lv_at hl 0 rfl) ?_
  refine lv_bipush (v := nI 63) hx hb dJb_49 (by decide) ?_
  refine lv_iand hx hb dJb_51 ?_
  refine topE (y := nI 1) (by decide) ?_
  exact ret w rfl dJb_52
set_option maxHeartbeats 4000000 in
set_option maxRecDepth 100000 in
theorem c_J_bit_2 {l : Launch} {E : En} {M : Mt} {n k : Nat} (dn : dN E) : MI l yJb (.code yJb cJb 1 (some .int)) 0 0 E [.int (nI 2)] M n k (nI 1) M n k := by
  refine MI.of dn (own := "java/lang/Integer") (by decide) rfl (Nat.le_of_ble_eq_true rfl) (fun p e s m args below meth c ls Q K w hl ret => ?_)
  have hx := K.1.1
  have hb := K.1.2.1
  have hl : lv_has ls 1 [(0, .int (nI 2))] := hl
  refine lv_iload_n hx hb dJb_0 rfl (lv_at hl 0 rfl) ?_
  refine lv_iload_n hx hb dJb_1 rfl (lv_at hl 0 rfl) ?_
  refine lv_iconst (v := nI 1) hx hb dJb_2 (by decide) ?_
  refine lv_iushr (v := nI 1) hx hb dJb_3 (by decide) ?_
  refine lv_ldcw (v := 1431655765) hx hb K.1.2.2.2.1 (K.1.2.2.2.2 _ (List.mem_cons_of_mem _ (List.mem_of_getElem? (i := 319) rfl))) dJb_4 ?_
  refine lv_iand hx hb dJb_7 ?_
  refine topE (y := nI 1) (by decide) ?_
  refine lv_isub hx hb dJb_8 ?_
  refine topE (y := nI 1) (by decide) ?_
  refine lv_istore_n (lv' := [(0, .int (nI 1))]) hx hb dJb_9 rfl hl (by decide) rfl (fun ls hl => ?_)
  refine lv_iload_n hx hb dJb_10 rfl (lv_at hl 0 rfl) ?_
  refine lv_ldcw (v := 858993459) hx hb K.1.2.2.2.1 (K.1.2.2.2.2 _ (List.mem_cons_of_mem _ (List.mem_of_getElem? (i := 320) rfl))) dJb_11 ?_
  refine lv_iand hx hb dJb_14 ?_
  refine topE (y := nI 1) (by decide) ?_
  refine lv_iload_n hx hb dJb_15 rfl (lv_at hl 0 rfl) ?_
  refine lv_iconst (v := nI 2) hx hb dJb_16 (by decide) ?_
  refine lv_iushr (v := nI 0) hx hb dJb_17 (by decide) ?_
  refine lv_ldcw (v := 858993459) hx hb K.1.2.2.2.1 (K.1.2.2.2.2 _ (List.mem_cons_of_mem _ (List.mem_of_getElem? (i := 320) rfl))) dJb_18 ?_
  refine lv_iand hx hb dJb_21 ?_
  refine topE (y := nI 0) (by decide) ?_
  refine lv_iadd hx hb dJb_22 ?_
  refine topE (y := nI 1) (by decide) ?_
  refine lv_istore_n (lv' := [(0, .int (nI 1))]) hx hb dJb_23 rfl hl (by decide) rfl (fun ls hl => ?_)
  refine lv_iload_n hx hb dJb_24 rfl (lv_at hl 0 rfl) ?_
  refine lv_iload_n hx hb dJb_25 rfl (lv_at hl 0 rfl) ?_
  refine lv_iconst (v := nI 4) hx hb dJb_26 (by decide) ?_
  refine lv_iushr (v := nI 0) hx hb dJb_27 (by decide) ?_
  refine lv_iadd hx hb dJb_28 ?_
  refine topE (y := nI 1) (by decide) ?_
  refine lv_ldcw (v := 252645135) hx hb K.1.2.2.2.1 (K.1.2.2.2.2 _ (List.mem_cons_of_mem _ (List.mem_of_getElem? (i := 321) rfl))) dJb_29 ?_
  refine lv_iand hx hb dJb_32 ?_
  refine topE (y := nI 1) (by decide) ?_
  refine lv_istore_n (lv' := [(0, .int (nI 1))]) hx hb dJb_33 rfl hl (by decide) rfl (fun ls hl => ?_)
  refine lv_iload_n hx hb dJb_34 rfl (lv_at hl 0 rfl) ?_
  refine lv_iload_n hx hb dJb_35 rfl (lv_at hl 0 rfl) ?_
  refine lv_bipush (v := nI 8) hx hb dJb_36 (by decide) ?_
  refine lv_iushr (v := nI 0) hx hb dJb_38 (by decide) ?_
  refine lv_iadd hx hb dJb_39 ?_
  refine topE (y := nI 1) (by decide) ?_
  refine lv_istore_n (lv' := [(0, .int (nI 1))]) hx hb dJb_40 rfl hl (by decide) rfl (fun ls hl => ?_)
  refine lv_iload_n hx hb dJb_41 rfl (lv_at hl 0 rfl) ?_
  refine lv_iload_n hx hb dJb_42 rfl (lv_at hl 0 rfl) ?_
  refine lv_bipush (v := nI 16) hx hb dJb_43 (by decide) ?_
  refine lv_iushr (v := nI 0) hx hb dJb_45 (by decide) ?_
  refine lv_iadd hx hb dJb_46 ?_
  refine topE (y := nI 1) (by decide) ?_
  refine lv_istore_n (lv' := [(0, .int (nI 1))]) hx hb dJb_47 rfl hl (by decide) rfl (fun ls hl => ?_)
  refine lv_iload_n hx hb dJb_48 rfl (lv_at hl 0 rfl) ?_
  refine lv_bipush (v := nI 63) hx hb dJb_49 (by decide) ?_
  refine lv_iand hx hb dJb_51 ?_
  refine topE (y := nI 1) (by decide) ?_
  exact ret w rfl dJb_52
set_option maxHeartbeats 4000000 in
set_option maxRecDepth 100000 in
theorem c_J_bit_3 {l : Launch} {E : En} {M : Mt} {n k : Nat} (dn : dN E) : MI l yJb (.code yJb cJb 1 (some .int)) 0 0 E [.int (nI 3)] M n k (nI 2) M n k := by
  refine MI.of dn (own := "java/lang/Integer") (by decide) rfl (Nat.le_of_ble_eq_true rfl) (fun p e s m args below meth c ls Q K w hl ret => ?_)
  have hx := K.1.1
  have hb := K.1.2.1
  have hl : lv_has ls 1 [(0, .int (nI 3))] := hl
  refine lv_iload_n hx hb dJb_0 rfl (lv_at hl 0 rfl) ?_
  refine lv_iload_n hx hb dJb_1 rfl (lv_at hl 0 rfl) ?_
  refine lv_iconst (v := nI 1) hx hb dJb_2 (by decide) ?_
  refine lv_iushr (v := nI 1) hx hb dJb_3 (by decide) ?_
  refine lv_ldcw (v := 1431655765) hx hb K.1.2.2.2.1 (K.1.2.2.2.2 _ (List.mem_cons_of_mem _ (List.mem_of_getElem? (i := 319) rfl))) dJb_4 ?_
  refine lv_iand hx hb dJb_7 ?_
  refine topE (y := nI 1) (by decide) ?_
  refine lv_isub hx hb dJb_8 ?_
  refine topE (y := nI 2) (by decide) ?_
  refine lv_istore_n (lv' := [(0, .int (nI 2))]) hx hb dJb_9 rfl hl (by decide) rfl (fun ls hl => ?_)
  refine lv_iload_n hx hb dJb_10 rfl (lv_at hl 0 rfl) ?_
  refine lv_ldcw (v := 858993459) hx hb K.1.2.2.2.1 (K.1.2.2.2.2 _ (List.mem_cons_of_mem _ (List.mem_of_getElem? (i := 320) rfl))) dJb_11 ?_
  refine lv_iand hx hb dJb_14 ?_
  refine topE (y := nI 2) (by decide) ?_
  refine lv_iload_n hx hb dJb_15 rfl (lv_at hl 0 rfl) ?_
  refine lv_iconst (v := nI 2) hx hb dJb_16 (by decide) ?_
  refine lv_iushr (v := nI 0) hx hb dJb_17 (by decide) ?_
  refine lv_ldcw (v := 858993459) hx hb K.1.2.2.2.1 (K.1.2.2.2.2 _ (List.mem_cons_of_mem _ (List.mem_of_getElem? (i := 320) rfl))) dJb_18 ?_
  refine lv_iand hx hb dJb_21 ?_
  refine topE (y := nI 0) (by decide) ?_
  refine lv_iadd hx hb dJb_22 ?_
  refine topE (y := nI 2) (by decide) ?_
  refine lv_istore_n (lv' := [(0, .int (nI 2))]) hx hb dJb_23 rfl hl (by decide) rfl (fun ls hl => ?_)
  refine lv_iload_n hx hb dJb_24 rfl (lv_at hl 0 rfl) ?_
  refine lv_iload_n hx hb dJb_25 rfl (lv_at hl 0 rfl) ?_
  refine lv_iconst (v := nI 4) hx hb dJb_26 (by decide) ?_
  refine lv_iushr (v := nI 0) hx hb dJb_27 (by decide) ?_
  refine lv_iadd hx hb dJb_28 ?_
  refine topE (y := nI 2) (by decide) ?_
  refine lv_ldcw (v := 252645135) hx hb K.1.2.2.2.1 (K.1.2.2.2.2 _ (List.mem_cons_of_mem _ (List.mem_of_getElem? (i := 321) rfl))) dJb_29 ?_
  refine lv_iand hx hb dJb_32 ?_
  refine topE (y := nI 2) (by decide) ?_
  refine lv_istore_n (lv' := [(0, .int (nI 2))]) hx hb dJb_33 rfl hl (by decide) rfl (fun ls hl => ?_)
  refine lv_iload_n hx hb dJb_34 rfl (lv_at hl 0 rfl) ?_
  refine lv_iload_n hx hb dJb_35 rfl (lv_at hl 0 rfl) ?_
  refine lv_bipush (v := nI 8) hx hb dJb_36 (by decide) ?_
  refine lv_iushr (v := nI 0) hx hb dJb_38 (by decide) ?_
  refine lv_iadd hx hb dJb_39 ?_
  refine topE (y := nI 2) (by decide) ?_
  refine lv_istore_n (lv' := [(0, .int (nI 2))]) hx hb dJb_40 rfl hl (by decide) rfl (fun ls hl => ?_)
  refine lv_iload_n hx hb dJb_41 rfl (lv_at hl 0 rfl) ?_
  refine lv_iload_n hx hb dJb_42 rfl (lv_at hl 0 rfl) ?_
  refine lv_bipush (v := nI 16) hx hb dJb_43 (by decide) ?_
  refine lv_iushr (v := nI 0) hx hb dJb_45 (by decide) ?_
  refine lv_iadd hx hb dJb_46 ?_
  refine topE (y := nI 2) (by decide) ?_
  refine lv_istore_n (lv' := [(0, .int (nI 2))]) hx hb dJb_47 rfl hl (by decide) rfl (fun ls hl => ?_)
  refine lv_iload_n hx hb dJb_48 rfl (lv_at hl 0 rfl) ?_
  refine lv_bipush (v := nI 63) hx hb dJb_49 (by decide) ?_
  refine lv_iand hx hb dJb_51 ?_
  refine topE (y := nI 2) (by decide) ?_
  exact ret w rfl dJb_52
set_option maxHeartbeats 4000000 in
set_option maxRecDepth 100000 in
theorem c_X1_told_4_0 {l : Launch} {E : En} {M : Mt} {n k : Nat} (dn : dN E) {q : Nat} (hq : q < n) (hn : n ≤ 2000) (h7 : M 7 q = nI 0) : MI l yX1_told (.code yX1_told cX1_told 3 (some .int)) 1 21 E [.ref (ad E 0), .int (nI q), .int (nI 4)] M n k (nI 0)  (M) (n) (k) := by
  refine MI.of dn (own := RX1) (by decide) rfl (Nat.le_of_ble_eq_true rfl) (fun p e s m args below meth c ls Q K w hl ret => ?_)
  have hx := K.1.1
  have hb := K.1.2.1
  have hR : 1 ≤ (rmA 1 21).frames ∧ 21 ≤ (rmA 1 21).locals := ⟨Nat.le_refl _, Nat.le_refl _⟩
  have hf : 0 ≤ (rmA 1 21).cells ∧ 0 ≤ (rmA 1 21).slots := ⟨Nat.le_refl _, Nat.le_refl _⟩
  have hl : lv_has ls 3 [(0, .ref (ad E 0)), (1, .int (nI q)), (2, .int (nI 4))] := hl
  refine lv_aload_n hx hb dX1_told_0 rfl (lv_at hl 0 rfl) ?_
  refine lv_iload_n hx hb dX1_told_1 rfl (lv_at hl 1 rfl) ?_
  refine callv K w (c_X1_checkCommit dn hq hn) (lk_X1_64 K ⟨Nat.le_trans (Nat.le_of_ble_eq_true rfl) hR.1, Nat.le_trans (Nat.le_of_ble_eq_true rfl) hR.2⟩) (recv0 K w) rfl hl.1 rfl (Nat.le_of_ble_eq_true rfl) dX1_told_2 hf (fun H locs w => ?_)
  refine lv_iload_n hx hb dX1_told_5 rfl (lv_at hl 2 rfl) ?_
  refine lv_tableIn (off := 62) (tgt := 68) hx hb dX1_told_6 (by decide) (by decide) (by decide) rfl ?_
  refine lv_aload_n hx hb dX1_told_68 rfl (lv_at hl 0 rfl) ?_
  refine gf_X1_tips K w dX1_told_69 ?_
  refine lv_iload_n hx hb dX1_told_72 rfl (lv_at hl 1 rfl) ?_
  refine ldN K w row7 (by omega) dX1_told_73 ?_
  refine topE (y := nI 0) h7 ?_
  refine callsi K w (c_J_bit_0 dn) (lk_X1_130 K ⟨Nat.le_trans (Nat.le_of_ble_eq_true rfl) hR.1, Nat.le_trans (Nat.le_of_ble_eq_true rfl) hR.2⟩) rfl hl.1 rfl (Nat.le_of_ble_eq_true rfl) dX1_told_74 hf (fun H locs w => ?_)
  exact ret w rfl dX1_told_77

set_option maxHeartbeats 4000000 in
set_option maxRecDepth 100000 in
theorem c_X1_told_4_1 {l : Launch} {E : En} {M : Mt} {n k : Nat} (dn : dN E) {q : Nat} (hq : q < n) (hn : n ≤ 2000) (h7 : M 7 q = nI 1) : MI l yX1_told (.code yX1_told cX1_told 3 (some .int)) 1 21 E [.ref (ad E 0), .int (nI q), .int (nI 4)] M n k (nI 1)  (M) (n) (k) := by
  refine MI.of dn (own := RX1) (by decide) rfl (Nat.le_of_ble_eq_true rfl) (fun p e s m args below meth c ls Q K w hl ret => ?_)
  have hx := K.1.1
  have hb := K.1.2.1
  have hR : 1 ≤ (rmA 1 21).frames ∧ 21 ≤ (rmA 1 21).locals := ⟨Nat.le_refl _, Nat.le_refl _⟩
  have hf : 0 ≤ (rmA 1 21).cells ∧ 0 ≤ (rmA 1 21).slots := ⟨Nat.le_refl _, Nat.le_refl _⟩
  have hl : lv_has ls 3 [(0, .ref (ad E 0)), (1, .int (nI q)), (2, .int (nI 4))] := hl
  refine lv_aload_n hx hb dX1_told_0 rfl (lv_at hl 0 rfl) ?_
  refine lv_iload_n hx hb dX1_told_1 rfl (lv_at hl 1 rfl) ?_
  refine callv K w (c_X1_checkCommit dn hq hn) (lk_X1_64 K ⟨Nat.le_trans (Nat.le_of_ble_eq_true rfl) hR.1, Nat.le_trans (Nat.le_of_ble_eq_true rfl) hR.2⟩) (recv0 K w) rfl hl.1 rfl (Nat.le_of_ble_eq_true rfl) dX1_told_2 hf (fun H locs w => ?_)
  refine lv_iload_n hx hb dX1_told_5 rfl (lv_at hl 2 rfl) ?_
  refine lv_tableIn (off := 62) (tgt := 68) hx hb dX1_told_6 (by decide) (by decide) (by decide) rfl ?_
  refine lv_aload_n hx hb dX1_told_68 rfl (lv_at hl 0 rfl) ?_
  refine gf_X1_tips K w dX1_told_69 ?_
  refine lv_iload_n hx hb dX1_told_72 rfl (lv_at hl 1 rfl) ?_
  refine ldN K w row7 (by omega) dX1_told_73 ?_
  refine topE (y := nI 1) h7 ?_
  refine callsi K w (c_J_bit_1 dn) (lk_X1_130 K ⟨Nat.le_trans (Nat.le_of_ble_eq_true rfl) hR.1, Nat.le_trans (Nat.le_of_ble_eq_true rfl) hR.2⟩) rfl hl.1 rfl (Nat.le_of_ble_eq_true rfl) dX1_told_74 hf (fun H locs w => ?_)
  exact ret w rfl dX1_told_77

set_option maxHeartbeats 4000000 in
set_option maxRecDepth 100000 in
theorem c_X1_told_4_2 {l : Launch} {E : En} {M : Mt} {n k : Nat} (dn : dN E) {q : Nat} (hq : q < n) (hn : n ≤ 2000) (h7 : M 7 q = nI 2) : MI l yX1_told (.code yX1_told cX1_told 3 (some .int)) 1 21 E [.ref (ad E 0), .int (nI q), .int (nI 4)] M n k (nI 1)  (M) (n) (k) := by
  refine MI.of dn (own := RX1) (by decide) rfl (Nat.le_of_ble_eq_true rfl) (fun p e s m args below meth c ls Q K w hl ret => ?_)
  have hx := K.1.1
  have hb := K.1.2.1
  have hR : 1 ≤ (rmA 1 21).frames ∧ 21 ≤ (rmA 1 21).locals := ⟨Nat.le_refl _, Nat.le_refl _⟩
  have hf : 0 ≤ (rmA 1 21).cells ∧ 0 ≤ (rmA 1 21).slots := ⟨Nat.le_refl _, Nat.le_refl _⟩
  have hl : lv_has ls 3 [(0, .ref (ad E 0)), (1, .int (nI q)), (2, .int (nI 4))] := hl
  refine lv_aload_n hx hb dX1_told_0 rfl (lv_at hl 0 rfl) ?_
  refine lv_iload_n hx hb dX1_told_1 rfl (lv_at hl 1 rfl) ?_
  refine callv K w (c_X1_checkCommit dn hq hn) (lk_X1_64 K ⟨Nat.le_trans (Nat.le_of_ble_eq_true rfl) hR.1, Nat.le_trans (Nat.le_of_ble_eq_true rfl) hR.2⟩) (recv0 K w) rfl hl.1 rfl (Nat.le_of_ble_eq_true rfl) dX1_told_2 hf (fun H locs w => ?_)
  refine lv_iload_n hx hb dX1_told_5 rfl (lv_at hl 2 rfl) ?_
  refine lv_tableIn (off := 62) (tgt := 68) hx hb dX1_told_6 (by decide) (by decide) (by decide) rfl ?_
  refine lv_aload_n hx hb dX1_told_68 rfl (lv_at hl 0 rfl) ?_
  refine gf_X1_tips K w dX1_told_69 ?_
  refine lv_iload_n hx hb dX1_told_72 rfl (lv_at hl 1 rfl) ?_
  refine ldN K w row7 (by omega) dX1_told_73 ?_
  refine topE (y := nI 2) h7 ?_
  refine callsi K w (c_J_bit_2 dn) (lk_X1_130 K ⟨Nat.le_trans (Nat.le_of_ble_eq_true rfl) hR.1, Nat.le_trans (Nat.le_of_ble_eq_true rfl) hR.2⟩) rfl hl.1 rfl (Nat.le_of_ble_eq_true rfl) dX1_told_74 hf (fun H locs w => ?_)
  exact ret w rfl dX1_told_77

set_option maxHeartbeats 4000000 in
set_option maxRecDepth 100000 in
theorem c_X1_told_4_3 {l : Launch} {E : En} {M : Mt} {n k : Nat} (dn : dN E) {q : Nat} (hq : q < n) (hn : n ≤ 2000) (h7 : M 7 q = nI 3) : MI l yX1_told (.code yX1_told cX1_told 3 (some .int)) 1 21 E [.ref (ad E 0), .int (nI q), .int (nI 4)] M n k (nI 2)  (M) (n) (k) := by
  refine MI.of dn (own := RX1) (by decide) rfl (Nat.le_of_ble_eq_true rfl) (fun p e s m args below meth c ls Q K w hl ret => ?_)
  have hx := K.1.1
  have hb := K.1.2.1
  have hR : 1 ≤ (rmA 1 21).frames ∧ 21 ≤ (rmA 1 21).locals := ⟨Nat.le_refl _, Nat.le_refl _⟩
  have hf : 0 ≤ (rmA 1 21).cells ∧ 0 ≤ (rmA 1 21).slots := ⟨Nat.le_refl _, Nat.le_refl _⟩
  have hl : lv_has ls 3 [(0, .ref (ad E 0)), (1, .int (nI q)), (2, .int (nI 4))] := hl
  refine lv_aload_n hx hb dX1_told_0 rfl (lv_at hl 0 rfl) ?_
  refine lv_iload_n hx hb dX1_told_1 rfl (lv_at hl 1 rfl) ?_
  refine callv K w (c_X1_checkCommit dn hq hn) (lk_X1_64 K ⟨Nat.le_trans (Nat.le_of_ble_eq_true rfl) hR.1, Nat.le_trans (Nat.le_of_ble_eq_true rfl) hR.2⟩) (recv0 K w) rfl hl.1 rfl (Nat.le_of_ble_eq_true rfl) dX1_told_2 hf (fun H locs w => ?_)
  refine lv_iload_n hx hb dX1_told_5 rfl (lv_at hl 2 rfl) ?_
  refine lv_tableIn (off := 62) (tgt := 68) hx hb dX1_told_6 (by decide) (by decide) (by decide) rfl ?_
  refine lv_aload_n hx hb dX1_told_68 rfl (lv_at hl 0 rfl) ?_
  refine gf_X1_tips K w dX1_told_69 ?_
  refine lv_iload_n hx hb dX1_told_72 rfl (lv_at hl 1 rfl) ?_
  refine ldN K w row7 (by omega) dX1_told_73 ?_
  refine topE (y := nI 3) h7 ?_
  refine callsi K w (c_J_bit_3 dn) (lk_X1_130 K ⟨Nat.le_trans (Nat.le_of_ble_eq_true rfl) hR.1, Nat.le_trans (Nat.le_of_ble_eq_true rfl) hR.2⟩) rfl hl.1 rfl (Nat.le_of_ble_eq_true rfl) dX1_told_74 hf (fun H locs w => ?_)
  exact ret w rfl dX1_told_77
