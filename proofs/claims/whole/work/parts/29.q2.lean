theorem qaF_le {M : Mt} {k j : Nat} (hk : k ≤ 2000) : (qaF j (M, k)).2 ≤ 2000 := by
  induction j generalizing M k with
  | zero => exact hk
  | succ j ih => exact ih (by omega)
section QA
variable {p : Program} {l : Launch} {e : Env} {R : Room} {s : State} {m : MethodId} {args : Array Value} {below : List Frame} {meth : Method} {c : Code} {H : Heap} {locs : List Loc} {cells slots : Nat} {Q : State → Prop} {ls : Array Slot} {w0 : Cond} {E : En} {M MF : Mt} {UF : Mt × Nat} {n k : Nat}
set_option maxHeartbeats 4000000 in
set_option maxRecDepth 100000 in
theorem lp_u1 (K : cX E p m c cX1_countUntoldLinks 4 s args w0 RX1) (hR : 0 ≤ R.frames ∧ 0 ≤ R.locals) (hf : cells ≤ R.cells ∧ slots ≤ R.slots) (kk : ∀ (H : Heap) (locs : List Loc) (ls : Array Slot), wst E s.heap MF n k H locs → lv_has ls 4 [(0, .ref (ad E 0))] → W p l e R s m args below meth c H locs cells slots Q (F0 m 23 ls [])) (hn : n ≤ 2000) : ∀ (d i : Nat) (M : Mt) (H : Heap) (locs : List Loc) (ls : Array Slot), i + d = n → u1F d i M = MF → wst E s.heap M n k H locs → lv_has ls 4 [(1, .int (nI i)), (0, .ref (ad E 0))] → W p l e R s m args below meth c H locs cells slots Q (F0 m 2 ls []) := by
  have hx := K.1.1
  have hb := K.1.2.1
  intro d
  induction d with
  | zero =>
    intro i M H locs ls hi hm w hl
    refine lv_iload_n hx hb dX1_countUntoldLinks_2 rfl (lv_at hl 0 rfl) ?_
    refine lv_aload_n hx hb dX1_countUntoldLinks_3 rfl (lv_at hl 1 rfl) ?_
    refine gf_X1_commits K w dX1_countUntoldLinks_4 ?_
    refine lv_icmp_ge (tgt := 23) hx hb dX1_countUntoldLinks_7 rfl (fun _ => ?_) (fun h9 => absurd (nI_le (by omega) (by omega)) h9)
    exact kk _ _ _ (by rw [← hm]; exact w) (lv_sub hl [1] rfl)
  | succ d ih =>
    intro i M H locs ls hi hm w hl
    refine lv_iload_n hx hb dX1_countUntoldLinks_2 rfl (lv_at hl 0 rfl) ?_
    refine lv_aload_n hx hb dX1_countUntoldLinks_3 rfl (lv_at hl 1 rfl) ?_
    refine gf_X1_commits K w dX1_countUntoldLinks_4 ?_
    refine lv_icmp_ge (tgt := 23) hx hb dX1_countUntoldLinks_7 rfl (fun h9 => absurd h9 (nI_ge (by omega) (by omega))) (fun _ => ?_)
    refine lv_aload_n hx hb dX1_countUntoldLinks_10 rfl (lv_at hl 1 rfl) ?_
    refine gf_X1_untoldLinks K w dX1_countUntoldLinks_11 ?_
    refine lv_iload_n hx hb dX1_countUntoldLinks_14 rfl (lv_at hl 0 rfl) ?_
    refine lv_iconst (v := nI 0) hx hb dX1_countUntoldLinks_15 (by decide) ?_
    refine stN K w row9 (by omega) dX1_countUntoldLinks_16 (fun H locs w => ?_)
    refine lv_iinc (k := 0) (v := nI (_ + 1)) (lv' := [(1, .int _), (0, .ref _)]) hx hb dX1_countUntoldLinks_17 hl rfl (inc1 _) (by decide) rfl (fun ls hl => ?_)
    refine lv_goto (tgt := 2) hx hb dX1_countUntoldLinks_20 rfl ?_
    exact ih (i + 1) _ _ _ _ (by omega) hm w (lv_sub hl [0, 1] rfl)

set_option maxHeartbeats 4000000 in
set_option maxRecDepth 100000 in
theorem lp_u2 (K : cX E p m c cX1_countUntoldLinks 4 s args w0 RX1) (hR : 1 ≤ R.frames ∧ 22 ≤ R.locals) (hf : cells ≤ R.cells ∧ slots ≤ R.slots) {q j : Nat} (hq : q < n) (hn : n ≤ 2000) (kk : ∀ (H : Heap) (locs : List Loc) (ls : Array Slot), wst E s.heap MF n k H locs → lv_has ls 4 [(1, .int (nI q)), (0, .ref (ad E 0))] → W p l e R s m args below meth c H locs cells slots Q (F0 m 81 ls [])) : ∀ (d i : Nat) (M : Mt) (H : Heap) (locs : List Loc) (ls : Array Slot), i + d = j → okN M n → j ≤ pcn M q → u2F q d i M = MF → wst E s.heap M n k H locs → lv_has ls 4 [(3, .int (nI i)), (2, .int (nI j)), (1, .int (nI q)), (0, .ref (ad E 0))] → W p l e R s m args below meth c H locs cells slots Q (F0 m 55 ls []) := by
  have hx := K.1.1
  have hb := K.1.2.1
  intro d
  induction d with
  | zero =>
    intro i M H locs ls hi ok hj hm w hl
    have h4 := ok.le hq
    refine lv_iload_n hx hb dX1_countUntoldLinks_55 rfl (lv_at hl 0 rfl) ?_
    refine lv_iload_n hx hb dX1_countUntoldLinks_56 rfl (lv_at hl 1 rfl) ?_
    refine lv_icmp_ge (tgt := 81) hx hb dX1_countUntoldLinks_57 rfl (fun _ => ?_) (fun h9 => absurd (nI_le (by omega) (by omega)) h9)
    exact kk _ _ _ (by rw [← hm]; exact w) (lv_sub hl [2, 3] rfl)
  | succ d ih =>
    intro i M H locs ls hi ok hj hm w hl
    have h4 := ok.le hq
    have h5 := ok.lt hq (t := i) (by omega)
    refine lv_iload_n hx hb dX1_countUntoldLinks_55 rfl (lv_at hl 0 rfl) ?_
    refine lv_iload_n hx hb dX1_countUntoldLinks_56 rfl (lv_at hl 1 rfl) ?_
    refine lv_icmp_ge (tgt := 81) hx hb dX1_countUntoldLinks_57 rfl (fun h9 => absurd h9 (nI_ge (by omega) (by omega))) (fun _ => ?_)
    refine lv_aload_n hx hb dX1_countUntoldLinks_60 rfl (lv_at hl 3 rfl) ?_
    refine gf_X1_untoldLinks K w dX1_countUntoldLinks_61 ?_
    refine lv_aload_n hx hb dX1_countUntoldLinks_64 rfl (lv_at hl 3 rfl) ?_
    refine lv_iload_n hx hb dX1_countUntoldLinks_65 rfl (lv_at hl 2 rfl) ?_
    refine lv_iload_n hx hb dX1_countUntoldLinks_66 rfl (lv_at hl 0 rfl) ?_
    refine calli K w (c_X1_parentOf K.2.2 (by omega) (ok.pr hq (by omega))) (lk_X1_120 K ⟨Nat.le_trans (Nat.le_of_ble_eq_true rfl) hR.1, Nat.le_trans (Nat.le_of_ble_eq_true rfl) hR.2⟩) (recv0 K w) rfl hl.1 rfl (Nat.le_of_ble_eq_true rfl) dX1_countUntoldLinks_67 hf (fun H locs w => ?_)
    refine lv_dup2_11 hx hb dX1_countUntoldLinks_70 rfl rfl ?_
    refine ldN K w row9 (by omega) dX1_countUntoldLinks_71 ?_
    refine lv_iconst (v := nI 1) hx hb dX1_countUntoldLinks_72 (by decide) ?_
    refine lv_iadd hx hb dX1_countUntoldLinks_73 ?_
    refine stN K w row9 (by omega) dX1_countUntoldLinks_74 (fun H locs w => ?_)
    refine lv_iinc (k := 0) (v := nI (_ + 1)) (lv' := [(3, .int _), (2, .int _), (1, .int _), (0, .ref _)]) hx hb dX1_countUntoldLinks_75 hl rfl (inc1 _) (by decide) rfl (fun ls hl => ?_)
    refine lv_goto (tgt := 55) hx hb dX1_countUntoldLinks_78 rfl ?_
    exact ih (i + 1) (va_up M 9 (upd (M 9) (par M q i) (M 9 (par M q i) + nI 1))) _ _ _ (by omega) ok hj hm w (lv_sub hl [0, 1, 2, 3] rfl)

set_option maxHeartbeats 4000000 in
set_option maxRecDepth 100000 in
theorem lp_u3 (K : cX E p m c cX1_countUntoldLinks 4 s args w0 RX1) (hR : 1 ≤ R.frames ∧ 22 ≤ R.locals) (hf : cells ≤ R.cells ∧ slots ≤ R.slots) (ret : ∀ {H : Heap} {locs : List Loc} {pc : Nat} {ls : Array Slot}, wst E s.heap MF n k H locs → decode cX1_countUntoldLinks pc = .ok (.return_, 1) → W p l e R s m args below meth c H locs cells slots Q (F0 m pc ls [])) : ∀ (d i : Nat) (M : Mt) (H : Heap) (locs : List Loc) (ls : Array Slot), i + d = n → okN M n → u3F d i M = MF → wst E s.heap M n k H locs → lv_has ls 4 [(1, .int (nI i)), (0, .ref (ad E 0))] → W p l e R s m args below meth c H locs cells slots Q (F0 m 25 ls []) := by
  have hx := K.1.1
  have hb := K.1.2.1
  intro d
  induction d with
  | zero =>
    intro i M H locs ls hi ok hm w hl
    have hn := ok.1
    refine lv_iload_n hx hb dX1_countUntoldLinks_25 rfl (lv_at hl 0 rfl) ?_
    refine lv_aload_n hx hb dX1_countUntoldLinks_26 rfl (lv_at hl 1 rfl) ?_
    refine gf_X1_commits K w dX1_countUntoldLinks_27 ?_
    refine lv_icmp_ge (tgt := 87) hx hb dX1_countUntoldLinks_30 rfl (fun _ => ?_) (fun h9 => absurd (nI_le (by omega) (by omega)) h9)
    exact ret (by rw [← hm]; exact w) dX1_countUntoldLinks_87
  | succ d ih =>
    intro i M H locs ls hi ok hm w hl
    have hn := ok.1
    refine lv_iload_n hx hb dX1_countUntoldLinks_25 rfl (lv_at hl 0 rfl) ?_
    refine lv_aload_n hx hb dX1_countUntoldLinks_26 rfl (lv_at hl 1 rfl) ?_
    refine gf_X1_commits K w dX1_countUntoldLinks_27 ?_
    refine lv_icmp_ge (tgt := 87) hx hb dX1_countUntoldLinks_30 rfl (fun h9 => absurd h9 (nI_ge (by omega) (by omega))) (fun _ => ?_)
    have h4 := ok.le (c := i) (by omega)
    by_cases h8 : M 8 i = 0
    · rw [u3F, if_pos h8] at hm
      refine lv_aload_n hx hb dX1_countUntoldLinks_33 rfl (lv_at hl 1 rfl) ?_
      refine gf_X1_marks K w dX1_countUntoldLinks_34 ?_
      refine lv_iload_n hx hb dX1_countUntoldLinks_37 rfl (lv_at hl 0 rfl) ?_
      refine ldN K w row8 (by omega) dX1_countUntoldLinks_38 ?_
      refine lv_if_ne (tgt := 46) hx hb dX1_countUntoldLinks_39 rfl (fun h9 => absurd h8 h9) (fun _ => ?_)
      refine lv_iconst (v := nI 0) hx hb dX1_countUntoldLinks_42 (by decide) ?_
      refine lv_goto (tgt := 52) hx hb dX1_countUntoldLinks_43 rfl ?_
      refine lv_istore_n (lv' := [(2, .int _), (1, .int _), (0, .ref _)]) hx hb dX1_countUntoldLinks_52 rfl hl (by decide) rfl (fun ls hl => ?_)
      refine lv_iconst (v := nI 0) hx hb dX1_countUntoldLinks_53 (by decide) ?_
      refine lv_istore_n (lv' := [(3, .int _), (2, .int _), (1, .int _), (0, .ref _)]) hx hb dX1_countUntoldLinks_54 rfl hl (by decide) rfl (fun ls hl => ?_)
      refine lp_u2 (j := 0) K ⟨Nat.le_trans (Nat.le_of_ble_eq_true rfl) hR.1, Nat.le_trans (Nat.le_of_ble_eq_true rfl) hR.2⟩ hf (by omega) ok.1 (fun H locs ls w hl => ?_) (0) 0 M _ _ _ (by omega) ok (Nat.zero_le _) rfl w (lv_sub hl [0, 1, 2, 3] rfl)
      refine lv_iinc (k := 0) (v := nI (_ + 1)) (lv' := [(1, .int _), (0, .ref _)]) hx hb dX1_countUntoldLinks_81 hl rfl (inc1 _) (by decide) rfl (fun ls hl => ?_)
      refine lv_goto (tgt := 25) hx hb dX1_countUntoldLinks_84 rfl ?_
      exact ih (i + 1) _ _ _ _ (by omega) (ok.rows (u2F_row (by decide)) (u2F_row (by decide))) hm w (lv_sub hl [0, 1] rfl)
    · rw [u3F, if_neg h8] at hm
      refine lv_aload_n hx hb dX1_countUntoldLinks_33 rfl (lv_at hl 1 rfl) ?_
      refine gf_X1_marks K w dX1_countUntoldLinks_34 ?_
      refine lv_iload_n hx hb dX1_countUntoldLinks_37 rfl (lv_at hl 0 rfl) ?_
      refine ldN K w row8 (by omega) dX1_countUntoldLinks_38 ?_
      refine lv_if_ne (tgt := 46) hx hb dX1_countUntoldLinks_39 rfl (fun _ => ?_) (fun h9 => absurd h9 h8)
      refine lv_aload_n hx hb dX1_countUntoldLinks_46 rfl (lv_at hl 1 rfl) ?_
      refine gf_X1_parentCounts K w dX1_countUntoldLinks_47 ?_
      refine lv_iload_n hx hb dX1_countUntoldLinks_50 rfl (lv_at hl 0 rfl) ?_
      refine ldN K w row4 (by omega) dX1_countUntoldLinks_51 ?_
      refine topE (y := nI (pcn M i)) (ok.pc (by omega)) ?_
      refine lv_istore_n (lv' := [(2, .int _), (1, .int _), (0, .ref _)]) hx hb dX1_countUntoldLinks_52 rfl hl (by decide) rfl (fun ls hl => ?_)
      refine lv_iconst (v := nI 0) hx hb dX1_countUntoldLinks_53 (by decide) ?_
      refine lv_istore_n (lv' := [(3, .int _), (2, .int _), (1, .int _), (0, .ref _)]) hx hb dX1_countUntoldLinks_54 rfl hl (by decide) rfl (fun ls hl => ?_)
      refine lp_u2 (j := pcn M i) K ⟨Nat.le_trans (Nat.le_of_ble_eq_true rfl) hR.1, Nat.le_trans (Nat.le_of_ble_eq_true rfl) hR.2⟩ hf (by omega) ok.1 (fun H locs ls w hl => ?_) (pcn M i) 0 M _ _ _ (by omega) ok (Nat.le_refl _) rfl w (lv_sub hl [0, 1, 2, 3] rfl)
      refine lv_iinc (k := 0) (v := nI (_ + 1)) (lv' := [(1, .int _), (0, .ref _)]) hx hb dX1_countUntoldLinks_81 hl rfl (inc1 _) (by decide) rfl (fun ls hl => ?_)
      refine lv_goto (tgt := 25) hx hb dX1_countUntoldLinks_84 rfl ?_
      exact ih (i + 1) _ _ _ _ (by omega) (ok.rows (u2F_row (by decide)) (u2F_row (by decide))) hm w (lv_sub hl [0, 1] rfl)

set_option maxHeartbeats 4000000 in
set_option maxRecDepth 100000 in
theorem lp_qa (K : cX E p m c cX1_queuedAt 3 s args w0 RX1) (hR : 3 ≤ R.frames ∧ 68 ≤ R.locals) (hf : cells ≤ R.cells ∧ slots ≤ R.slots) {j : Nat} (hj : j < 2147483648) (kk : ∀ (H : Heap) (locs : List Loc) (ls : Array Slot), wst E s.heap UF.1 n UF.2 H locs → lv_has ls 3 [(0, .ref (ad E 0))] → W p l e R s m args below meth c H locs cells slots Q (F0 m 45 ls [])) : ∀ (d i : Nat) (M : Mt) (k : Nat) (H : Heap) (locs : List Loc) (ls : Array Slot), i + d = j → k ≤ 2000 → qaF d (M, k) = UF → wst E s.heap M n k H locs → lv_has ls 3 [(2, .int (nI i)), (1, .int (nI j)), (0, .ref (ad E 0))] → W p l e R s m args below meth c H locs cells slots Q (F0 m 26 ls []) := by
  have hx := K.1.1
  have hb := K.1.2.1
  intro d
  induction d with
  | zero =>
    intro i M k H locs ls hi hk hm w hl
    refine lv_iload_n hx hb dX1_queuedAt_26 rfl (lv_at hl 0 rfl) ?_
    refine lv_iload_n hx hb dX1_queuedAt_27 rfl (lv_at hl 1 rfl) ?_
    refine lv_icmp_ge (tgt := 45) hx hb dX1_queuedAt_28 rfl (fun _ => ?_) (fun h9 => absurd (nI_le (by omega) (by omega)) h9)
    exact kk _ _ _ (by rw [← hm]; exact w) (lv_sub hl [2] rfl)
  | succ d ih =>
    intro i M k H locs ls hi hk hm w hl
    refine lv_iload_n hx hb dX1_queuedAt_26 rfl (lv_at hl 0 rfl) ?_
    refine lv_iload_n hx hb dX1_queuedAt_27 rfl (lv_at hl 1 rfl) ?_
    refine lv_icmp_ge (tgt := 45) hx hb dX1_queuedAt_28 rfl (fun h9 => absurd h9 (nI_ge (by omega) (by omega))) (fun _ => ?_)
    refine lv_aload_n hx hb dX1_queuedAt_31 rfl (lv_at hl 2 rfl) ?_
    refine gf_X1_queue K w dX1_queuedAt_32 ?_
    refine calli K w (c_X0_take K.2.2 hk) (lk_X1_170 K ⟨Nat.le_trans (Nat.le_of_ble_eq_true rfl) hR.1, Nat.le_trans (Nat.le_of_ble_eq_true rfl) hR.2⟩) (recv10 K w) rfl hl.1 rfl (Nat.le_of_ble_eq_true rfl) dX1_queuedAt_35 hf (fun H locs w => ?_)
    refine lv_pop hx hb dX1_queuedAt_38 rfl ?_
    refine lv_iinc (k := 0) (v := nI (_ + 1)) (lv' := [(2, .int _), (1, .int _), (0, .ref _)]) hx hb dX1_queuedAt_39 hl rfl (inc1 _) (by decide) rfl (fun ls hl => ?_)
    refine lv_goto (tgt := 26) hx hb dX1_queuedAt_42 rfl ?_
    exact ih (i + 1) _ _ _ _ _ (by omega) (by omega) hm w (lv_sub hl [0, 1, 2] rfl)

end QA
set_option maxHeartbeats 4000000 in
set_option maxRecDepth 100000 in
theorem c_X1_countUntoldLinks {l : Launch} {E : En} {M : Mt} {n k : Nat} (dn : dN E) (ok : okN M n) : MV l yX1_countUntoldLinks (.code yX1_countUntoldLinks cX1_countUntoldLinks 4 none) 1 22 E [.ref (ad E 0)] M n k  (cuF M n) (n) (k) := by
  refine MV.of dn (own := RX1) (by decide) rfl (Nat.le_of_ble_eq_true rfl) (fun p e s m args below meth c ls Q K w hl ret => ?_)
  have hx := K.1.1
  have hb := K.1.2.1
  have hR : 1 ≤ (rmA 1 22).frames ∧ 22 ≤ (rmA 1 22).locals := ⟨Nat.le_refl _, Nat.le_refl _⟩
  have hf : 0 ≤ (rmA 1 22).cells ∧ 0 ≤ (rmA 1 22).slots := ⟨Nat.le_refl _, Nat.le_refl _⟩
  have hl : lv_has ls 4 [(0, .ref (ad E 0))] := hl
  refine lv_iconst (v := nI 0) hx hb dX1_countUntoldLinks_0 (by decide) ?_
  refine lv_istore_n (lv' := [(1, .int _), (0, .ref _)]) hx hb dX1_countUntoldLinks_1 rfl hl (by decide) rfl (fun ls hl => ?_)
  refine lp_u1 K ⟨Nat.le_trans (Nat.le_of_ble_eq_true rfl) hR.1, Nat.le_trans (Nat.le_of_ble_eq_true rfl) hR.2⟩ hf (fun H locs ls w hl => ?_) ok.1 n 0 M _ _ _ (by omega) rfl w hl
  refine lv_iconst (v := nI 0) hx hb dX1_countUntoldLinks_23 (by decide) ?_
  refine lv_istore_n (lv' := [(1, .int _), (0, .ref _)]) hx hb dX1_countUntoldLinks_24 rfl hl (by decide) rfl (fun ls hl => ?_)
  exact lp_u3 K hR hf ret n 0 _ _ _ _ (by omega) (ok.rows (u1F_row (by decide)) (u1F_row (by decide))) rfl w hl

set_option maxHeartbeats 4000000 in
set_option maxRecDepth 100000 in
theorem c_X1_queueInTheOrder {l : Launch} {E : En} {M : Mt} {n k : Nat} (dn : dN E) {q : Nat} (hq : q < 2000) (hk : k ≤ 2000) : MV l yX1_queueInTheOrder (.code yX1_queueInTheOrder cX1_queueInTheOrder 2 none) 3 70 E [.ref (ad E 0), .int (nI q)] M n k  (qoF M k q) (n) (puK k) := by
  refine MV.of dn (own := RX1) (by decide) rfl (Nat.le_of_ble_eq_true rfl) (fun p e s m args below meth c ls Q K w hl ret => ?_)
  have hx := K.1.1
  have hb := K.1.2.1
  have hR : 3 ≤ (rmA 3 70).frames ∧ 70 ≤ (rmA 3 70).locals := ⟨Nat.le_refl _, Nat.le_refl _⟩
  have hf : 0 ≤ (rmA 3 70).cells ∧ 0 ≤ (rmA 3 70).slots := ⟨Nat.le_refl _, Nat.le_refl _⟩
  have hl : lv_has ls 2 [(0, .ref (ad E 0)), (1, .int (nI q))] := hl
  refine lv_aload_n hx hb dX1_queueInTheOrder_0 rfl (lv_at hl 0 rfl) ?_
  refine gf_X1_queue K w dX1_queueInTheOrder_1 ?_
  refine lv_aload_n hx hb dX1_queueInTheOrder_4 rfl (lv_at hl 0 rfl) ?_
  refine gf_X1_times K w dX1_queueInTheOrder_5 ?_
  refine lv_iload_n hx hb dX1_queueInTheOrder_8 rfl (lv_at hl 1 rfl) ?_
  refine ldN K w row1 (by omega) dX1_queueInTheOrder_9 ?_
  refine lv_iconst (v := -1) hx hb dX1_queueInTheOrder_10 (by decide) ?_
  refine lv_ixor hx hb dX1_queueInTheOrder_11 ?_
  refine lv_aload_n hx hb dX1_queueInTheOrder_12 rfl (lv_at hl 0 rfl) ?_
  refine gf_X1_keys K w dX1_queueInTheOrder_13 ?_
  refine lv_iload_n hx hb dX1_queueInTheOrder_16 rfl (lv_at hl 1 rfl) ?_
  refine ldN K w row2 (by omega) dX1_queueInTheOrder_17 ?_
  refine lv_iload_n hx hb dX1_queueInTheOrder_18 rfl (lv_at hl 1 rfl) ?_
  refine callv K w (c_X0_put dn (by omega)) (lk_X1_126 K ⟨Nat.le_trans (Nat.le_of_ble_eq_true rfl) hR.1, Nat.le_trans (Nat.le_of_ble_eq_true rfl) hR.2⟩) (recv10 K w) rfl hl.1 rfl (Nat.le_of_ble_eq_true rfl) dX1_queueInTheOrder_19 hf (fun H locs w => ?_)
  exact ret w dX1_queueInTheOrder_22

set_option maxHeartbeats 4000000 in
set_option maxRecDepth 100000 in
theorem c_X1_queuedAt_a {l : Launch} {E : En} {M : Mt} {n k : Nat} (dn : dN E) : MI l yX1_queuedAt (.code yX1_queuedAt cX1_queuedAt 3 (some .int)) 3 68 E [.ref (ad E 0), .int (-1)] M n k (nI k)  (M) (n) (k) := by
  refine MI.of dn (own := RX1) (by decide) rfl (Nat.le_of_ble_eq_true rfl) (fun p e s m args below meth c ls Q K w hl ret => ?_)
  have hx := K.1.1
  have hb := K.1.2.1
  have hR : 3 ≤ (rmA 3 68).frames ∧ 68 ≤ (rmA 3 68).locals := ⟨Nat.le_refl _, Nat.le_refl _⟩
  have hf : 0 ≤ (rmA 3 68).cells ∧ 0 ≤ (rmA 3 68).slots := ⟨Nat.le_refl _, Nat.le_refl _⟩
  have hl : lv_has ls 3 [(0, .ref (ad E 0)), (1, .int (-1))] := hl
  refine lv_iload_n hx hb dX1_queuedAt_0 rfl (lv_at hl 1 rfl) ?_
  refine lv_iconst (v := -1) hx hb dX1_queuedAt_1 (by decide) ?_
  refine lv_icmp_ne (tgt := 13) hx hb dX1_queuedAt_2 rfl (fun h9 => absurd (rfl : (-1 : Int32) = -1) h9) (fun _ => ?_)
  refine lv_aload_n hx hb dX1_queuedAt_5 rfl (lv_at hl 0 rfl) ?_
  refine gf_X1_queue K w dX1_queuedAt_6 ?_
  refine calli K w (c_X0_size dn) (lk_X1_167 K ⟨Nat.le_trans (Nat.le_of_ble_eq_true rfl) hR.1, Nat.le_trans (Nat.le_of_ble_eq_true rfl) hR.2⟩) (recv10 K w) rfl hl.1 rfl (Nat.le_of_ble_eq_true rfl) dX1_queuedAt_9 hf (fun H locs w => ?_)
  exact ret w rfl dX1_queuedAt_12

set_option maxHeartbeats 4000000 in
set_option maxRecDepth 100000 in
theorem c_X1_queuedAt_b {l : Launch} {E : En} {M : Mt} {n k : Nat} (dn : dN E) {j : Nat} (hj : j < k) (hk : k ≤ 2000) : MI l yX1_queuedAt (.code yX1_queuedAt cX1_queuedAt 3 (some .int)) 3 68 E [.ref (ad E 0), .int (nI j)] M n k (tkR (qaF j (M, k)).1 (qaF j (M, k)).2)  (tkF (qaF j (M, k)).1 (qaF j (M, k)).2) (n) ((qaF j (M, k)).2 - 1) := by
  refine MI.of dn (own := RX1) (by decide) rfl (Nat.le_of_ble_eq_true rfl) (fun p e s m args below meth c ls Q K w hl ret => ?_)
  have hx := K.1.1
  have hb := K.1.2.1
  have hR : 3 ≤ (rmA 3 68).frames ∧ 68 ≤ (rmA 3 68).locals := ⟨Nat.le_refl _, Nat.le_refl _⟩
  have hf : 0 ≤ (rmA 3 68).cells ∧ 0 ≤ (rmA 3 68).slots := ⟨Nat.le_refl _, Nat.le_refl _⟩
  have hl : lv_has ls 3 [(0, .ref (ad E 0)), (1, .int (nI j))] := hl
  refine lv_iload_n hx hb dX1_queuedAt_0 rfl (lv_at hl 1 rfl) ?_
  refine lv_iconst (v := -1) hx hb dX1_queuedAt_1 (by decide) ?_
  refine lv_icmp_ne (tgt := 13) hx hb dX1_queuedAt_2 rfl (fun _ => ?_) (fun h9 => absurd h9 (nI_nm1 (by omega)))
  refine lv_iload_n hx hb dX1_queuedAt_13 rfl (lv_at hl 1 rfl) ?_
  refine lv_aload_n hx hb dX1_queuedAt_14 rfl (lv_at hl 0 rfl) ?_
  refine gf_X1_queue K w dX1_queuedAt_15 ?_
  refine calli K w (c_X0_size dn) (lk_X1_167 K ⟨Nat.le_trans (Nat.le_of_ble_eq_true rfl) hR.1, Nat.le_trans (Nat.le_of_ble_eq_true rfl) hR.2⟩) (recv10 K w) rfl hl.1 rfl (Nat.le_of_ble_eq_true rfl) dX1_queuedAt_18 hf (fun H locs w => ?_)
  refine callsv K w (c_X1_checkPlace dn hj (by omega)) (lk_X1_106 K ⟨Nat.le_trans (Nat.le_of_ble_eq_true rfl) hR.1, Nat.le_trans (Nat.le_of_ble_eq_true rfl) hR.2⟩) rfl hl.1 rfl (Nat.le_of_ble_eq_true rfl) dX1_queuedAt_21 hf (fun H locs w => ?_)
  refine lv_iconst (v := nI 0) hx hb dX1_queuedAt_24 (by decide) ?_
  refine lv_istore_n (lv' := [(2, .int _), (0, .ref _), (1, .int _)]) hx hb dX1_queuedAt_25 rfl hl (by decide) rfl (fun ls hl => ?_)
  refine lp_qa (j := j) K ⟨Nat.le_trans (Nat.le_of_ble_eq_true rfl) hR.1, Nat.le_trans (Nat.le_of_ble_eq_true rfl) hR.2⟩ hf (by omega) (fun H locs ls w hl => ?_) j 0 M k _ _ _ (by omega) hk rfl w (lv_sub hl [0, 2, 1] rfl)
  refine lv_aload_n hx hb dX1_queuedAt_45 rfl (lv_at hl 0 rfl) ?_
  refine gf_X1_queue K w dX1_queuedAt_46 ?_
  refine calli K w (c_X0_take dn (qaF_le hk)) (lk_X1_170 K ⟨Nat.le_trans (Nat.le_of_ble_eq_true rfl) hR.1, Nat.le_trans (Nat.le_of_ble_eq_true rfl) hR.2⟩) (recv10 K w) rfl hl.1 rfl (Nat.le_of_ble_eq_true rfl) dX1_queuedAt_49 hf (fun H locs w => ?_)
  exact ret w rfl dX1_queuedAt_52
