/-- one step of the scan for the first: x comes before what was found so far -/
def scF (M : Mt) (i : Nat) (o : Option Nat) : Option Nat := if M 9 i = 0 then o else match o with
  | none => some i
  | some y => if bfF M i y = true then some i else some y
def mnF (M : Mt) : Nat → Nat → Option Nat → Option Nat
  | 0, _, o => o
  | d + 1, i, o => mnF M d (i + 1) (scF M i o)
theorem scF_lt {M : Mt} {i z : Nat} {o : Option Nat} (hi : i < z) (ho : oB o z) : oB (scF M i o) z := by
  intro u hu
  unfold scF at hu
  split at hu
  · exact ho u hu
  · cases o with
    | none => cases hu; exact hi
    | some y =>
      dsimp only at hu
      split at hu
      · cases hu; exact hi
      · cases hu; exact ho _ rfl
theorem mnF_lt {M : Mt} {z : Nat} : ∀ {d i : Nat} {o : Option Nat}, i + d ≤ z → oB o z → oB (mnF M d i o) z := by
  intro d
  induction d with
  | zero => intro i o _ ho; exact ho
  | succ d ih => intro i o hi ho; exact ih (by omega) (scF_lt (by omega) ho)
/-- what order() does with the one found -/
def tkO (u : Mt × Nat) (y : Nat) : Mt × Nat := (va_up (va_up u.1 9 (upd (u.1 9) y (nI 0))) 3 (upd (u.1 3) u.2 (nI y)), u.2 + 1)
def orF (z : Nat) : Nat → Mt × Nat → Mt × Nat
  | 0, u => u
  | d + 1, u => match mnF u.1 z 0 none with
    | none => u
    | some y => orF z d (tkO u y)
theorem oB_none {n : Nat} : oB none n := fun u h => by cases h
/-- no left child but x itself -/
def fxF (M : Mt) (x : Nat) : Nat → Nat → Bool
  | 0, _ => true
  | d + 1, c => if ¬ M 9 c = 0 ∧ c ≠ x ∧ ipF M x c (pcn M c) 0 = true then false else fxF M x d (c + 1)
def lsF (M : Mt) (z i : Nat) (o : Option Nat) : Option Nat := if M 9 i = 0 then o else match o with
  | none => if fxF M i z 0 = true then some i else none
  | some y => if bfF M i y = true then (if fxF M i z 0 = true then some i else some y) else some y
def lmF (M : Mt) (z : Nat) : Nat → Nat → Option Nat → Option Nat
  | 0, _, o => o
  | d + 1, i, o => lmF M z d (i + 1) (lsF M z i o)
theorem lsF_lt {M : Mt} {i z : Nat} {o : Option Nat} (hi : i < z) (ho : oB o z) : oB (lsF M z i o) z := by
  intro u hu
  unfold lsF at hu
  split at hu
  · exact ho u hu
  · cases o with
    | none =>
      dsimp only at hu
      split at hu
      · cases hu; exact hi
      · cases hu
    | some y =>
      dsimp only at hu
      split at hu
      · split at hu
        · cases hu; exact hi
        · cases hu; exact ho _ rfl
      · cases hu; exact ho _ rfl
theorem lmF_lt {M : Mt} {z : Nat} : ∀ {d i : Nat} {o : Option Nat}, i + d ≤ z → oB o z → oB (lmF M z d i o) z := by
  intro d
  induction d with
  | zero => intro i o _ ho; exact ho
  | succ d ih => intro i o hi ho; exact ih (by omega) (lsF_lt (by omega) ho)
def lgF (z : Nat) : Nat → Mt × Nat → Mt × Nat
  | 0, u => u
  | d + 1, u => match lmF u.1 z z 0 none with
    | none => u
    | some y => lgF z d (tkO u y)

section YE
variable {p : Program} {l : Launch} {e : Env} {R : Room} {s : State} {m : MethodId} {args : Array Value} {below : List Frame} {meth : Method} {c : Code} {H : Heap} {locs : List Loc} {cells slots : Nat} {Q : State → Prop} {ls : Array Slot} {w0 : Cond} {E : En} {M MF : Mt} {UF : Mt × Nat} {z t f : Nat}
set_option maxHeartbeats 4000000 in
set_option maxRecDepth 100000 in
theorem lp_scan (K : cY E p m c cX2_order 4 s args w0 RX2) (hR : 1 ≤ R.frames ∧ 22 ≤ R.locals) (hf : cells ≤ R.cells ∧ slots ≤ R.slots) {x1 : Int32} {of : Option Nat} (hz : z ≤ 2000) (kk : ∀ (H : Heap) (locs : List Loc) (ls : Array Slot), vst E s.heap M z t f H locs → lv_has ls 4 [(2, .int (oI of)), (1, .int x1), (0, .ref (ad E 0))] → W p l e R s m args below meth c H locs cells slots Q (F0 m 57 ls [])) : ∀ (d i : Nat) (o : Option Nat) (H : Heap) (locs : List Loc) (ls : Array Slot), i + d = z → oB o z → mnF M d i o = of → vst E s.heap M z t f H locs → lv_has ls 4 [(3, .int (nI i)), (2, .int (oI o)), (1, .int x1), (0, .ref (ad E 0))] → W p l e R s m args below meth c H locs cells slots Q (F0 m 19 ls []) := by
  have hx := K.1.1
  have hb := K.1.2.1
  intro d
  induction d with
  | zero =>
    intro i o H locs ls hi ho hm w hl
    refine lv_iload_n hx hb dX2_order_19 rfl (lv_at hl 0 rfl) ?_
    refine lv_aload_n hx hb dX2_order_20 rfl (lv_at hl 3 rfl) ?_
    refine gf_X2_size K w dX2_order_21 ?_
    refine lv_icmp_ge (tgt := 57) hx hb dX2_order_24 rfl (fun _ => ?_) (fun h9 => absurd (nI_le (by omega) (by omega)) h9)
    exact kk _ _ _ w (by rw [← hm]; exact lv_sub hl [1, 2, 3] rfl)
  | succ d ih =>
    intro i o H locs ls hi ho hm w hl
    refine lv_iload_n hx hb dX2_order_19 rfl (lv_at hl 0 rfl) ?_
    refine lv_aload_n hx hb dX2_order_20 rfl (lv_at hl 3 rfl) ?_
    refine gf_X2_size K w dX2_order_21 ?_
    refine lv_icmp_ge (tgt := 57) hx hb dX2_order_24 rfl (fun h9 => absurd h9 (nI_ge (by omega) (by omega))) (fun _ => ?_)
    by_cases h9z : M 9 i = 0
    · have hsc : scF M i o = o := by unfold scF; rw [if_pos h9z]
      rw [mnF, hsc] at hm
      refine lv_aload_n hx hb dX2_order_27 rfl (lv_at hl 3 rfl) ?_
      refine gf_X2_left K w dX2_order_28 ?_
      refine lv_iload_n hx hb dX2_order_31 rfl (lv_at hl 0 rfl) ?_
      refine ldB2 K w rwB9 (by omega) dX2_order_32 ?_
      refine lv_if_eq (tgt := 51) hx hb dX2_order_33 rfl (fun _ => ?_) (fun h9 => absurd h9z h9)
      refine lv_iinc (k := 0) (v := nI (_ + 1)) (lv' := [(3, .int _), (2, .int _), (1, .int _), (0, .ref _)]) hx hb dX2_order_51 hl rfl (inc1 _) (by decide) rfl (fun ls hl => ?_)
      refine lv_goto (tgt := 19) hx hb dX2_order_54 rfl ?_
      exact ih (i + 1) (o) _ _ _ (by omega) (by rw [← hsc]; exact scF_lt (by omega) ho) hm w (lv_sub hl [0, 1, 2, 3] rfl)
    · refine lv_aload_n hx hb dX2_order_27 rfl (lv_at hl 3 rfl) ?_
      refine gf_X2_left K w dX2_order_28 ?_
      refine lv_iload_n hx hb dX2_order_31 rfl (lv_at hl 0 rfl) ?_
      refine ldB2 K w rwB9 (by omega) dX2_order_32 ?_
      refine lv_if_eq (tgt := 51) hx hb dX2_order_33 rfl (fun h9 => absurd h9 h9z) (fun _ => ?_)
      rcases o with _ | y
      · have hsc : scF M i none = some i := by rw [scF, if_neg h9z]
        rw [mnF, hsc] at hm
        refine lv_iload_n hx hb dX2_order_36 rfl (lv_at hl 1 rfl) ?_
        refine lv_if_lt (tgt := 49) hx hb dX2_order_37 rfl (fun _ => ?_) (fun h9 => absurd (by decide : oI none < 0) h9)
        refine lv_iload_n hx hb dX2_order_49 rfl (lv_at hl 0 rfl) ?_
        refine lv_istore_n (lv' := [(2, .int _), (3, .int _), (1, .int _), (0, .ref _)]) hx hb dX2_order_50 rfl hl (by decide) rfl (fun ls hl => ?_)
        refine lv_iinc (k := 1) (v := nI (_ + 1)) (lv' := [(3, .int _), (2, .int _), (1, .int _), (0, .ref _)]) hx hb dX2_order_51 hl rfl (inc1 _) (by decide) rfl (fun ls hl => ?_)
        refine lv_goto (tgt := 19) hx hb dX2_order_54 rfl ?_
        exact ih (i + 1) (some i) _ _ _ (by omega) (by rw [← hsc]; exact scF_lt (by omega) ho) hm w (lv_sub hl [0, 1, 2, 3] rfl)
      · refine lv_iload_n hx hb dX2_order_36 rfl (lv_at hl 1 rfl) ?_
        refine lv_if_lt (tgt := 49) hx hb dX2_order_37 rfl (fun h9 => absurd h9 (show ¬ nI y < 0 from nI_pos (by have := ho y rfl; omega))) (fun _ => ?_)
        by_cases hbf : bfF M i y = true
        · have hy := ho y rfl
          have hsc : scF M i (some y) = some i := by rw [scF, if_neg h9z]; exact if_pos hbf
          rw [mnF, hsc] at hm
          refine lv_aload_n hx hb dX2_order_40 rfl (lv_at hl 3 rfl) ?_
          refine lv_iload_n hx hb dX2_order_41 rfl (lv_at hl 0 rfl) ?_
          refine lv_iload_n hx hb dX2_order_42 rfl (lv_at hl 1 rfl) ?_
          refine topE (y := nI y) rfl ?_
          refine calli2 K w (c_X2_before K.2.2 (by omega) (by have := ho y rfl; omega)) (lk_X2_75 K ⟨Nat.le_trans (Nat.le_of_ble_eq_true rfl) hR.1, Nat.le_trans (Nat.le_of_ble_eq_true rfl) hR.2⟩) (recvM K w) rfl hl.1 rfl (Nat.le_of_ble_eq_true rfl) dX2_order_43 hf (fun H locs w => ?_)
          refine lv_if_eq (tgt := 51) hx hb dX2_order_46 rfl (fun h9 => absurd h9 (by rw [hbf]; decide)) (fun _ => ?_)
          refine lv_iload_n hx hb dX2_order_49 rfl (lv_at hl 0 rfl) ?_
          refine lv_istore_n (lv' := [(2, .int _), (3, .int _), (1, .int _), (0, .ref _)]) hx hb dX2_order_50 rfl hl (by decide) rfl (fun ls hl => ?_)
          refine lv_iinc (k := 1) (v := nI (_ + 1)) (lv' := [(3, .int _), (2, .int _), (1, .int _), (0, .ref _)]) hx hb dX2_order_51 hl rfl (inc1 _) (by decide) rfl (fun ls hl => ?_)
          refine lv_goto (tgt := 19) hx hb dX2_order_54 rfl ?_
          exact ih (i + 1) (some i) _ _ _ (by omega) (by rw [← hsc]; exact scF_lt (by omega) ho) hm w (lv_sub hl [0, 1, 2, 3] rfl)
        · have hy := ho y rfl
          have hsc : scF M i (some y) = some y := by rw [scF, if_neg h9z]; exact if_neg hbf
          rw [mnF, hsc] at hm
          refine lv_aload_n hx hb dX2_order_40 rfl (lv_at hl 3 rfl) ?_
          refine lv_iload_n hx hb dX2_order_41 rfl (lv_at hl 0 rfl) ?_
          refine lv_iload_n hx hb dX2_order_42 rfl (lv_at hl 1 rfl) ?_
          refine topE (y := nI y) rfl ?_
          refine calli2 K w (c_X2_before K.2.2 (by omega) (by have := ho y rfl; omega)) (lk_X2_75 K ⟨Nat.le_trans (Nat.le_of_ble_eq_true rfl) hR.1, Nat.le_trans (Nat.le_of_ble_eq_true rfl) hR.2⟩) (recvM K w) rfl hl.1 rfl (Nat.le_of_ble_eq_true rfl) dX2_order_43 hf (fun H locs w => ?_)
          refine lv_if_eq (tgt := 51) hx hb dX2_order_46 rfl (fun _ => ?_) (fun h9 => absurd (by rw [Bool.not_eq_true _ |>.mp hbf]; rfl) h9)
          refine lv_iinc (k := 0) (v := nI (_ + 1)) (lv' := [(3, .int _), (2, .int _), (1, .int _), (0, .ref _)]) hx hb dX2_order_51 hl rfl (inc1 _) (by decide) rfl (fun ls hl => ?_)
          refine lv_goto (tgt := 19) hx hb dX2_order_54 rfl ?_
          exact ih (i + 1) (some y) _ _ _ (by omega) (by rw [← hsc]; exact scF_lt (by omega) ho) hm w (lv_sub hl [0, 1, 2, 3] rfl)

set_option maxHeartbeats 4000000 in
set_option maxRecDepth 100000 in
theorem lp_ord (K : cY E p m c cX2_order 4 s args w0 RX2) (hR : 1 ≤ R.frames ∧ 22 ≤ R.locals) (hf : cells ≤ R.cells ∧ slots ≤ R.slots) (hz : z ≤ 2000) (ret : ∀ {H : Heap} {locs : List Loc} {pc : Nat} {ls : Array Slot}, vst E s.heap UF.1 z t UF.2 H locs → decode cX2_order pc = .ok (.return_, 1) → W p l e R s m args below meth c H locs cells slots Q (F0 m pc ls [])) : ∀ (d i : Nat) (M : Mt) (H : Heap) (locs : List Loc) (ls : Array Slot), i + d = z → orF z d (M, i) = UF → vst E s.heap M z t i H locs → lv_has ls 4 [(1, .int (nI i)), (0, .ref (ad E 0))] → W p l e R s m args below meth c H locs cells slots Q (F0 m 7 ls []) := by
  have hx := K.1.1
  have hb := K.1.2.1
  intro d
  induction d with
  | zero =>
    intro i M H locs ls hi hm w hl
    refine lv_iload_n hx hb dX2_order_7 rfl (lv_at hl 0 rfl) ?_
    refine lv_aload_n hx hb dX2_order_8 rfl (lv_at hl 1 rfl) ?_
    refine gf_X2_size K w dX2_order_9 ?_
    refine lv_icmp_ge (tgt := 95) hx hb dX2_order_12 rfl (fun _ => ?_) (fun h9 => absurd (nI_le (by omega) (by omega)) h9)
    exact ret (by rw [← hm]; exact w) dX2_order_95
  | succ d ih =>
    intro i M H locs ls hi hm w hl
    refine lv_iload_n hx hb dX2_order_7 rfl (lv_at hl 0 rfl) ?_
    refine lv_aload_n hx hb dX2_order_8 rfl (lv_at hl 1 rfl) ?_
    refine gf_X2_size K w dX2_order_9 ?_
    refine lv_icmp_ge (tgt := 95) hx hb dX2_order_12 rfl (fun h9 => absurd h9 (nI_ge (by omega) (by omega))) (fun _ => ?_)
    refine lv_iconst (v := oI none) hx hb dX2_order_15 (by decide) ?_
    refine lv_istore_n (lv' := [(2, .int _), (1, .int _), (0, .ref _)]) hx hb dX2_order_16 rfl hl (by decide) rfl (fun ls hl => ?_)
    refine lv_iconst (v := nI 0) hx hb dX2_order_17 (by decide) ?_
    refine lv_istore_n (lv' := [(3, .int _), (2, .int _), (1, .int _), (0, .ref _)]) hx hb dX2_order_18 rfl hl (by decide) rfl (fun ls hl => ?_)
    refine lp_scan (of := mnF M z 0 none) K ⟨Nat.le_trans (Nat.le_of_ble_eq_true rfl) hR.1, Nat.le_trans (Nat.le_of_ble_eq_true rfl) hR.2⟩ hf hz (fun H locs ls w hl => ?_) z 0 none _ _ _ (by omega) oB_none rfl w (lv_sub hl [0, 1, 2, 3] rfl)
    have hlt : oB (mnF M z 0 none) z := mnF_lt (by omega) oB_none
    rw [orF] at hm
    rcases hmn : mnF M z 0 none with _ | y
    · rw [hmn] at hm hl
      refine lv_iload_n hx hb dX2_order_57 rfl (lv_at hl 0 rfl) ?_
      refine lv_if_ge (tgt := 62) hx hb dX2_order_58 rfl (fun h9 => absurd h9 (by decide : ¬ (0 : Int32) ≤ oI none)) (fun _ => ?_)
      exact ret (by rw [← hm]; exact w) dX2_order_61
    · rw [hmn] at hm hl
      have hy := hlt y hmn
      refine lv_iload_n hx hb dX2_order_57 rfl (lv_at hl 0 rfl) ?_
      refine lv_if_ge (tgt := 62) hx hb dX2_order_58 rfl (fun _ => ?_) (fun h9 => absurd (show (0 : Int32) ≤ nI y from nI_pos' (by omega)) h9)
      refine lv_aload_n hx hb dX2_order_62 rfl (lv_at hl 2 rfl) ?_
      refine gf_X2_left K w dX2_order_63 ?_
      refine lv_iload_n hx hb dX2_order_66 rfl (lv_at hl 0 rfl) ?_
      refine topE (y := nI y) rfl ?_
      refine lv_iconst (v := nI 0) hx hb dX2_order_67 (by decide) ?_
      refine stB2 K w rwB9 (by omega) (by decide) dX2_order_68 (fun H locs w => ?_)
      refine lv_aload_n hx hb dX2_order_69 rfl (lv_at hl 2 rfl) ?_
      refine gf_X2_row K w dX2_order_70 ?_
      refine lv_aload_n hx hb dX2_order_73 rfl (lv_at hl 2 rfl) ?_
      refine gf_X2_found K w dX2_order_74 ?_
      refine lv_iload_n hx hb dX2_order_77 rfl (lv_at hl 0 rfl) ?_
      refine topE (y := nI y) rfl ?_
      refine stI2 K w rwI3 (by omega) dX2_order_78 (fun H locs w => ?_)
      refine lv_aload_n hx hb dX2_order_79 rfl (lv_at hl 2 rfl) ?_
      refine lv_dup hx hb dX2_order_80 rfl ?_
      refine gf_X2_found K w dX2_order_81 ?_
      refine lv_iconst (v := nI 1) hx hb dX2_order_84 (by decide) ?_
      refine lv_iadd hx hb dX2_order_85 ?_
      refine pf_X2_found K w (nI_add i 1) dX2_order_86 (fun H locs w => ?_)
      refine lv_iinc (k := 1) (v := nI (_ + 1)) (lv' := [(1, .int _), (2, .int _), (0, .ref _)]) hx hb dX2_order_89 hl rfl (inc1 _) (by decide) rfl (fun ls hl => ?_)
      refine lv_goto (tgt := 7) hx hb dX2_order_92 rfl ?_
      exact ih (i + 1) _ _ _ _ (by omega) hm w (lv_sub hl [0, 2] rfl)

end YE
set_option maxHeartbeats 4000000 in
set_option maxRecDepth 100000 in
theorem c_X2_order {l : Launch} {E : En} {M : Mt} {z t f : Nat} (dn : dM E) (hz : z ≤ 2000) : MV2 l yX2_order (.code yX2_order cX2_order 4 none) 1 22 E [.ref (ad E 0)] M z t f (orF z z (M, 0)).1 z t (orF z z (M, 0)).2 := by
  refine MV2.of dn (own := RX2) (by decide) rfl (Nat.le_of_ble_eq_true rfl) (fun p e s m args below meth c ls Q K w hl ret => ?_)
  have hx := K.1.1
  have hb := K.1.2.1
  have hR : 1 ≤ (rmA 1 22).frames ∧ 22 ≤ (rmA 1 22).locals := ⟨Nat.le_refl _, Nat.le_refl _⟩
  have hf : 0 ≤ (rmA 1 22).cells ∧ 0 ≤ (rmA 1 22).slots := ⟨Nat.le_refl _, Nat.le_refl _⟩
  have hl : lv_has ls 4 [(0, .ref (ad E 0))] := hl
  refine lv_aload_n hx hb dX2_order_0 rfl (lv_at hl 0 rfl) ?_
  refine lv_iconst (v := nI 0) hx hb dX2_order_1 (by decide) ?_
  refine pf_X2_found K w rfl dX2_order_2 (fun H locs w => ?_)
  refine lv_iconst (v := nI 0) hx hb dX2_order_5 (by decide) ?_
  refine lv_istore_n (lv' := [(1, .int _), (0, .ref _)]) hx hb dX2_order_6 rfl hl (by decide) rfl (fun ls hl => ?_)
  exact lp_ord K hR hf hz ret z 0 M _ _ _ (by omega) rfl w hl

section YF
variable {p : Program} {l : Launch} {e : Env} {R : Room} {s : State} {m : MethodId} {args : Array Value} {below : List Frame} {meth : Method} {c : Code} {H : Heap} {locs : List Loc} {cells slots : Nat} {Q : State → Prop} {ls : Array Slot} {w0 : Cond} {E : En} {M MF : Mt} {z t f : Nat}
set_option maxHeartbeats 4000000 in
set_option maxRecDepth 100000 in
theorem lp_free (K : cY E p m c cX2_free 3 s args w0 RX2) (hR : 1 ≤ R.frames ∧ 23 ≤ R.locals) (hf : cells ≤ R.cells ∧ slots ≤ R.slots) {q : Nat} {r : Bool} (hq : q < 2147483648) (ok : okN M z) (ret : ∀ {H : Heap} {locs : List Loc} {pc : Nat} {ls : Array Slot} {v : Int32}, vst E s.heap M z t f H locs → v = bI r → decode cX2_free pc = .ok (.ireturn, 1) → W p l e R s m args below meth c H locs cells slots Q (F0 m pc ls [.int v])) : ∀ (d i : Nat) (H : Heap) (locs : List Loc) (ls : Array Slot), i + d = z → fxF M q d i = r → vst E s.heap M z t f H locs → lv_has ls 3 [(2, .int (nI i)), (0, .ref (ad E 0)), (1, .int (nI q))] → W p l e R s m args below meth c H locs cells slots Q (F0 m 2 ls []) := by
  have hx := K.1.1
  have hb := K.1.2.1
  intro d
  induction d with
  | zero =>
    intro i H locs ls hi hm w hl
    have hn := ok.1
    refine lv_iload_n hx hb dX2_free_2 rfl (lv_at hl 0 rfl) ?_
    refine lv_aload_n hx hb dX2_free_3 rfl (lv_at hl 1 rfl) ?_
    refine gf_X2_size K w dX2_free_4 ?_
    refine lv_icmp_ge (tgt := 41) hx hb dX2_free_7 rfl (fun _ => ?_) (fun h9 => absurd (nI_le (by omega) (by omega)) h9)
    refine lv_iconst (v := nI 1) hx hb dX2_free_41 (by decide) ?_
    exact ret w (by rw [← hm]; rfl) dX2_free_42
  | succ d ih =>
    intro i H locs ls hi hm w hl
    have hn := ok.1
    refine lv_iload_n hx hb dX2_free_2 rfl (lv_at hl 0 rfl) ?_
    refine lv_aload_n hx hb dX2_free_3 rfl (lv_at hl 1 rfl) ?_
    refine gf_X2_size K w dX2_free_4 ?_
    refine lv_icmp_ge (tgt := 41) hx hb dX2_free_7 rfl (fun h9 => absurd h9 (nI_ge (by omega) (by omega))) (fun _ => ?_)
    by_cases h9z : M 9 i = 0
    · rw [fxF, if_neg (fun h => h.1 h9z)] at hm
      refine lv_aload_n hx hb dX2_free_10 rfl (lv_at hl 1 rfl) ?_
      refine gf_X2_left K w dX2_free_11 ?_
      refine lv_iload_n hx hb dX2_free_14 rfl (lv_at hl 0 rfl) ?_
      refine ldB2 K w rwB9 (by omega) dX2_free_15 ?_
      refine lv_if_eq (tgt := 35) hx hb dX2_free_16 rfl (fun _ => ?_) (fun h9 => absurd h9z h9)
      refine lv_iinc (k := 0) (v := nI (_ + 1)) (lv' := [(2, .int _), (0, .ref _), (1, .int _)]) hx hb dX2_free_35 hl rfl (inc1 _) (by decide) rfl (fun ls hl => ?_)
      refine lv_goto (tgt := 2) hx hb dX2_free_38 rfl ?_
      exact ih (i + 1) _ _ _ (by omega) hm w (lv_sub hl [0, 1, 2] rfl)
    · refine lv_aload_n hx hb dX2_free_10 rfl (lv_at hl 1 rfl) ?_
      refine gf_X2_left K w dX2_free_11 ?_
      refine lv_iload_n hx hb dX2_free_14 rfl (lv_at hl 0 rfl) ?_
      refine ldB2 K w rwB9 (by omega) dX2_free_15 ?_
      refine lv_if_eq (tgt := 35) hx hb dX2_free_16 rfl (fun h9 => absurd h9 h9z) (fun _ => ?_)
      by_cases hiq : i = q
      · rw [fxF, if_neg (fun h => h.2.1 hiq)] at hm
        refine lv_iload_n hx hb dX2_free_19 rfl (lv_at hl 0 rfl) ?_
        refine lv_iload_n hx hb dX2_free_20 rfl (lv_at hl 2 rfl) ?_
        refine lv_icmp_eq (tgt := 35) hx hb dX2_free_21 rfl (fun _ => ?_) (fun h9 => absurd (by rw [hiq]) h9)
        refine lv_iinc (k := 0) (v := nI (_ + 1)) (lv' := [(2, .int _), (0, .ref _), (1, .int _)]) hx hb dX2_free_35 hl rfl (inc1 _) (by decide) rfl (fun ls hl => ?_)
        refine lv_goto (tgt := 2) hx hb dX2_free_38 rfl ?_
        exact ih (i + 1) _ _ _ (by omega) hm w (lv_sub hl [0, 1, 2] rfl)
      · refine lv_iload_n hx hb dX2_free_19 rfl (lv_at hl 0 rfl) ?_
        refine lv_iload_n hx hb dX2_free_20 rfl (lv_at hl 2 rfl) ?_
        refine lv_icmp_eq (tgt := 35) hx hb dX2_free_21 rfl (fun h9 => absurd h9 (fun h => hiq ((nI_eq (by omega) (by omega)).mp h))) (fun _ => ?_)
        by_cases hip : ipF M q i (pcn M i) 0 = true
        · rw [fxF, if_pos ⟨h9z, hiq, hip⟩] at hm
          refine lv_aload_n hx hb dX2_free_24 rfl (lv_at hl 1 rfl) ?_
          refine lv_iload_n hx hb dX2_free_25 rfl (lv_at hl 2 rfl) ?_
          refine lv_iload_n hx hb dX2_free_26 rfl (lv_at hl 0 rfl) ?_
          refine calli2 K w (c_X2_isParent K.2.2 hq (by omega) ok) (lk_X2_53 K ⟨Nat.le_trans (Nat.le_of_ble_eq_true rfl) hR.1, Nat.le_trans (Nat.le_of_ble_eq_true rfl) hR.2⟩) (recvM K w) rfl hl.1 rfl (Nat.le_of_ble_eq_true rfl) dX2_free_27 hf (fun H locs w => ?_)
          refine lv_if_eq (tgt := 35) hx hb dX2_free_30 rfl (fun h9 => absurd h9 (by rw [hip]; decide)) (fun _ => ?_)
          refine lv_iconst (v := nI 0) hx hb dX2_free_33 (by decide) ?_
          exact ret w (by rw [← hm]; rfl) dX2_free_34
        · rw [fxF, if_neg (fun h => hip h.2.2)] at hm
          refine lv_aload_n hx hb dX2_free_24 rfl (lv_at hl 1 rfl) ?_
          refine lv_iload_n hx hb dX2_free_25 rfl (lv_at hl 2 rfl) ?_
          refine lv_iload_n hx hb dX2_free_26 rfl (lv_at hl 0 rfl) ?_
          refine calli2 K w (c_X2_isParent K.2.2 hq (by omega) ok) (lk_X2_53 K ⟨Nat.le_trans (Nat.le_of_ble_eq_true rfl) hR.1, Nat.le_trans (Nat.le_of_ble_eq_true rfl) hR.2⟩) (recvM K w) rfl hl.1 rfl (Nat.le_of_ble_eq_true rfl) dX2_free_27 hf (fun H locs w => ?_)
          refine lv_if_eq (tgt := 35) hx hb dX2_free_30 rfl (fun _ => ?_) (fun h9 => absurd (by rw [Bool.not_eq_true _ |>.mp hip]; rfl) h9)
          refine lv_iinc (k := 0) (v := nI (_ + 1)) (lv' := [(2, .int _), (0, .ref _), (1, .int _)]) hx hb dX2_free_35 hl rfl (inc1 _) (by decide) rfl (fun ls hl => ?_)
          refine lv_goto (tgt := 2) hx hb dX2_free_38 rfl ?_
          exact ih (i + 1) _ _ _ (by omega) hm w (lv_sub hl [0, 1, 2] rfl)

end YF
set_option maxHeartbeats 4000000 in
set_option maxRecDepth 100000 in
theorem c_X2_free {l : Launch} {E : En} {M : Mt} {z t f : Nat} (dn : dM E) {q : Nat} (hq : q < 2147483648) (ok : okN M z) : MI2 l yX2_free (.code yX2_free cX2_free 3 (some .boolean)) 1 23 E [.ref (ad E 0), .int (nI q)] M z t f (bI (fxF M q z 0)) M z t f := by
  refine MI2.ofZ dn (own := RX2) (by decide) rfl (Nat.le_of_ble_eq_true rfl) (bI_z _) (fun p e s m args below meth c ls Q K w hl ret => ?_)
  have hx := K.1.1
  have hb := K.1.2.1
  have hR : 1 ≤ (rmA 1 23).frames ∧ 23 ≤ (rmA 1 23).locals := ⟨Nat.le_refl _, Nat.le_refl _⟩
  have hf : 0 ≤ (rmA 1 23).cells ∧ 0 ≤ (rmA 1 23).slots := ⟨Nat.le_refl _, Nat.le_refl _⟩
  have hl : lv_has ls 3 [(0, .ref (ad E 0)), (1, .int (nI q))] := hl
  refine lv_iconst (v := nI 0) hx hb dX2_free_0 (by decide) ?_
  refine lv_istore_n (lv' := [(2, .int _), (0, .ref _), (1, .int _)]) hx hb dX2_free_1 rfl hl (by decide) rfl (fun ls hl => ?_)
  exact lp_free K hR hf hq ok ret z 0 _ _ _ (by omega) rfl w hl
