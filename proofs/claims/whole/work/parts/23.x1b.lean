theorem inF_row {c : Nat} {h : Int32} {r : Nat} (hr : r ≠ 8) : ∀ {d t : Nat} {M : Mt}, inF c h d t M r = M r := by
  intro d
  induction d with
  | zero => intro t M; rfl
  | succ d ih => intro t M; rw [inF, ih, va_up_ne _ _ hr]
theorem spF_row {r : Nat} (hr : r ≠ 8) : ∀ {q : Nat} {M : Mt}, spF q M r = M r := by
  intro q
  induction q with
  | zero => intro M; rfl
  | succ q ih => intro M; rw [spF, ih, inF_row hr]
theorem clF_row {r : Nat} (hr : r ≠ 8) : ∀ {d i : Nat} {M : Mt}, clF d i M r = M r := by
  intro d
  induction d with
  | zero => intro i M; rfl
  | succ d ih => intro i M; rw [clF, ih, va_up_ne _ _ hr]
theorem mhF_row {r : Nat} (hr : r ≠ 8) : ∀ {d i : Nat} {M : Mt}, mhF d i M r = M r := by
  intro d
  induction d with
  | zero => intro i M; rfl
  | succ d ih => intro i M; rw [mhF, ih, va_up_ne _ _ hr]

section XB
variable {p : Program} {l : Launch} {e : Env} {R : Room} {s : State} {m : MethodId} {args : Array Value} {below : List Frame} {meth : Method} {c : Code} {H : Heap} {locs : List Loc} {cells slots : Nat} {Q : State → Prop} {ls : Array Slot} {w0 : Cond} {E : En} {M MF : Mt} {n k : Nat}
set_option maxHeartbeats 4000000 in
set_option maxRecDepth 100000 in
theorem lp_spread (K : cX E p m c cX1_spreadMarks 4 s args w0 RX1) (hR : 1 ≤ R.frames ∧ 22 ≤ R.locals) (hf : cells ≤ R.cells ∧ slots ≤ R.slots) (ret : ∀ {H : Heap} {locs : List Loc} {pc : Nat} {ls : Array Slot}, wst E s.heap MF n k H locs → decode cX1_spreadMarks pc = .ok (.return_, 1) → W p l e R s m args below meth c H locs cells slots Q (F0 m pc ls [])) : ∀ (q : Nat) (M : Mt) (H : Heap) (locs : List Loc) (ls : Array Slot), q ≤ n → okN M n → spF q M = MF → wst E s.heap M n k H locs → lv_has ls 4 [(1, .int (nI q - nI 1)), (0, .ref (ad E 0))] → W p l e R s m args below meth c H locs cells slots Q (F0 m 7 ls []) := by
  have hx := K.1.1
  have hb := K.1.2.1
  intro q
  induction q with
  | zero =>
    intro M H locs ls hq ok hm w hl
    refine lv_iload_n hx hb dX1_spreadMarks_7 rfl (lv_at hl 0 rfl) ?_
    refine lv_if_lt (tgt := 76) hx hb dX1_spreadMarks_8 rfl (fun _ => ?_) (fun h9 => absurd (by decide : nI 0 - nI 1 < 0) h9)
    exact ret (by rw [← hm]; exact w) dX1_spreadMarks_76
  | succ q ih =>
    intro M H locs ls hq ok hm w hl
    have hl : lv_has ls 4 [(1, .int (nI q)), (0, .ref (ad E 0))] := by
      rw [show nI (q + 1) - nI 1 = nI q from pk_sub (by omega)] at hl
      exact hl
    have hn := ok.1
    refine lv_iload_n hx hb dX1_spreadMarks_7 rfl (lv_at hl 0 rfl) ?_
    refine lv_if_lt (tgt := 76) hx hb dX1_spreadMarks_8 rfl (fun h9 => absurd h9 (nI_pos (by omega))) (fun _ => ?_)
    by_cases hc : cmF M q = true
    · refine lv_aload_n hx hb dX1_spreadMarks_11 rfl (lv_at hl 1 rfl) ?_
      refine lv_iload_n hx hb dX1_spreadMarks_12 rfl (lv_at hl 0 rfl) ?_
      refine calli K w (c_X1_isCommon K.2.2 (by omega)) (lk_X1_163 K ⟨Nat.le_trans (Nat.le_of_ble_eq_true rfl) hR.1, Nat.le_trans (Nat.le_of_ble_eq_true rfl) hR.2⟩) (recv0 K w) rfl hl.1 rfl (Nat.le_of_ble_eq_true rfl) dX1_spreadMarks_13 hf (fun H locs w => ?_)
      refine lv_if_eq (tgt := 30) hx hb dX1_spreadMarks_16 rfl (fun h9 => absurd h9 (by rw [hc]; decide)) (fun _ => ?_)
      refine lv_aload_n hx hb dX1_spreadMarks_19 rfl (lv_at hl 1 rfl) ?_
      refine gf_X1_marks K w dX1_spreadMarks_20 ?_
      refine lv_iload_n hx hb dX1_spreadMarks_23 rfl (lv_at hl 0 rfl) ?_
      refine ldN K w row8 (by omega) dX1_spreadMarks_24 ?_
      refine lv_iconst (v := nI 4) hx hb dX1_spreadMarks_25 (by decide) ?_
      refine lv_ior hx hb dX1_spreadMarks_26 ?_
      refine lv_goto (tgt := 36) hx hb dX1_spreadMarks_27 rfl ?_
      refine topE (y := hdF M q) (by rw [hdF, if_pos hc]) ?_
      refine lv_istore_n (lv' := [(2, .int _), (1, .int _), (0, .ref _)]) hx hb dX1_spreadMarks_36 rfl hl (by decide) rfl (fun ls hl => ?_)
      refine lv_iconst (v := nI 0) hx hb dX1_spreadMarks_37 (by decide) ?_
      refine lv_istore_n (lv' := [(3, .int _), (2, .int _), (1, .int _), (0, .ref _)]) hx hb dX1_spreadMarks_38 rfl hl (by decide) rfl (fun ls hl => ?_)
      refine lp_spin (j := pcn M q) K ⟨Nat.le_trans (Nat.le_of_ble_eq_true rfl) hR.1, Nat.le_trans (Nat.le_of_ble_eq_true rfl) hR.2⟩ hf (by omega) ok.1 (fun H locs ls w hl => ?_) (pcn M q) 0 M _ _ _ (by omega) ok rfl rfl w (lv_sub hl [0, 1, 2, 3] rfl)
      refine lv_iinc (k := 0) (v := nI q - nI 1) (lv' := [(1, .int _), (0, .ref _)]) hx hb dX1_spreadMarks_70 hl rfl (decm q) (by decide) rfl (fun ls hl => ?_)
      refine lv_goto (tgt := 7) hx hb dX1_spreadMarks_73 rfl ?_
      exact ih _ _ _ _ (by omega) (ok.rows (inF_row (by decide)) (inF_row (by decide))) hm w (lv_sub hl [0, 1] rfl)
    · refine lv_aload_n hx hb dX1_spreadMarks_11 rfl (lv_at hl 1 rfl) ?_
      refine lv_iload_n hx hb dX1_spreadMarks_12 rfl (lv_at hl 0 rfl) ?_
      refine calli K w (c_X1_isCommon K.2.2 (by omega)) (lk_X1_163 K ⟨Nat.le_trans (Nat.le_of_ble_eq_true rfl) hR.1, Nat.le_trans (Nat.le_of_ble_eq_true rfl) hR.2⟩) (recv0 K w) rfl hl.1 rfl (Nat.le_of_ble_eq_true rfl) dX1_spreadMarks_13 hf (fun H locs w => ?_)
      refine lv_if_eq (tgt := 30) hx hb dX1_spreadMarks_16 rfl (fun _ => ?_) (fun h9 => absurd (by rw [Bool.not_eq_true _ |>.mp hc]; rfl) h9)
      refine lv_aload_n hx hb dX1_spreadMarks_30 rfl (lv_at hl 1 rfl) ?_
      refine gf_X1_marks K w dX1_spreadMarks_31 ?_
      refine lv_iload_n hx hb dX1_spreadMarks_34 rfl (lv_at hl 0 rfl) ?_
      refine ldN K w row8 (by omega) dX1_spreadMarks_35 ?_
      refine topE (y := hdF M q) (by rw [hdF, if_neg hc]) ?_
      refine lv_istore_n (lv' := [(2, .int _), (1, .int _), (0, .ref _)]) hx hb dX1_spreadMarks_36 rfl hl (by decide) rfl (fun ls hl => ?_)
      refine lv_iconst (v := nI 0) hx hb dX1_spreadMarks_37 (by decide) ?_
      refine lv_istore_n (lv' := [(3, .int _), (2, .int _), (1, .int _), (0, .ref _)]) hx hb dX1_spreadMarks_38 rfl hl (by decide) rfl (fun ls hl => ?_)
      refine lp_spin (j := pcn M q) K ⟨Nat.le_trans (Nat.le_of_ble_eq_true rfl) hR.1, Nat.le_trans (Nat.le_of_ble_eq_true rfl) hR.2⟩ hf (by omega) ok.1 (fun H locs ls w hl => ?_) (pcn M q) 0 M _ _ _ (by omega) ok rfl rfl w (lv_sub hl [0, 1, 2, 3] rfl)
      refine lv_iinc (k := 0) (v := nI q - nI 1) (lv' := [(1, .int _), (0, .ref _)]) hx hb dX1_spreadMarks_70 hl rfl (decm q) (by decide) rfl (fun ls hl => ?_)
      refine lv_goto (tgt := 7) hx hb dX1_spreadMarks_73 rfl ?_
      exact ih _ _ _ _ (by omega) (ok.rows (inF_row (by decide)) (inF_row (by decide))) hm w (lv_sub hl [0, 1] rfl)

end XB
set_option maxHeartbeats 4000000 in
set_option maxRecDepth 100000 in
theorem c_X1_clearMarks {l : Launch} {E : En} {M : Mt} {n k : Nat} (dn : dN E) (hn : n ≤ 2000) : MV l yX1_clearMarks (.code yX1_clearMarks cX1_clearMarks 2 none) 0 0 E [.ref (ad E 0)] M n k  (clF n 0 M) (n) (k) := by
  refine MV.of dn (own := RX1) (by decide) rfl (Nat.le_of_ble_eq_true rfl) (fun p e s m args below meth c ls Q K w hl ret => ?_)
  have hx := K.1.1
  have hb := K.1.2.1
  have hR : 0 ≤ (rmA 0 0).frames ∧ 0 ≤ (rmA 0 0).locals := ⟨Nat.le_refl _, Nat.le_refl _⟩
  have hf : 0 ≤ (rmA 0 0).cells ∧ 0 ≤ (rmA 0 0).slots := ⟨Nat.le_refl _, Nat.le_refl _⟩
  have hl : lv_has ls 2 [(0, .ref (ad E 0))] := hl
  refine lv_iconst (v := nI 0) hx hb dX1_clearMarks_0 (by decide) ?_
  refine lv_istore_n (lv' := [(1, .int _), (0, .ref _)]) hx hb dX1_clearMarks_1 rfl hl (by decide) rfl (fun ls hl => ?_)
  exact lp_clear K hR hf ret hn n 0 M _ _ _ (by omega) rfl w hl

set_option maxHeartbeats 4000000 in
set_option maxRecDepth 100000 in
theorem c_X1_spreadMarks {l : Launch} {E : En} {M : Mt} {n k : Nat} (dn : dN E) (ok : okN M n) : MV l yX1_spreadMarks (.code yX1_spreadMarks cX1_spreadMarks 4 none) 1 22 E [.ref (ad E 0)] M n k  (spF n M) (n) (k) := by
  refine MV.of dn (own := RX1) (by decide) rfl (Nat.le_of_ble_eq_true rfl) (fun p e s m args below meth c ls Q K w hl ret => ?_)
  have hx := K.1.1
  have hb := K.1.2.1
  have hR : 1 ≤ (rmA 1 22).frames ∧ 22 ≤ (rmA 1 22).locals := ⟨Nat.le_refl _, Nat.le_refl _⟩
  have hf : 0 ≤ (rmA 1 22).cells ∧ 0 ≤ (rmA 1 22).slots := ⟨Nat.le_refl _, Nat.le_refl _⟩
  have hl : lv_has ls 4 [(0, .ref (ad E 0))] := hl
  refine lv_aload_n hx hb dX1_spreadMarks_0 rfl (lv_at hl 0 rfl) ?_
  refine gf_X1_commits K w dX1_spreadMarks_1 ?_
  refine lv_iconst (v := nI 1) hx hb dX1_spreadMarks_4 (by decide) ?_
  refine lv_isub hx hb dX1_spreadMarks_5 ?_
  refine lv_istore_n (lv' := [(1, .int _), (0, .ref _)]) hx hb dX1_spreadMarks_6 rfl hl (by decide) rfl (fun ls hl => ?_)
  exact lp_spread K hR hf ret n M _ _ _ (Nat.le_refl _) ok rfl w hl

set_option maxHeartbeats 4000000 in
set_option maxRecDepth 100000 in
theorem c_X1_markReachable {l : Launch} {E : En} {M : Mt} {n k : Nat} (dn : dN E) {q : Nat} (hq : q < n) (ok : okN M n) : MV l yX1_markReachable (.code yX1_markReachable cX1_markReachable 2 none) 2 45 E [.ref (ad E 0), .int (nI q)] M n k  (mrF M n q) (n) (k) := by
  refine MV.of dn (own := RX1) (by decide) rfl (Nat.le_of_ble_eq_true rfl) (fun p e s m args below meth c ls Q K w hl ret => ?_)
  have hx := K.1.1
  have hb := K.1.2.1
  have hR : 2 ≤ (rmA 2 45).frames ∧ 45 ≤ (rmA 2 45).locals := ⟨Nat.le_refl _, Nat.le_refl _⟩
  have hf : 0 ≤ (rmA 2 45).cells ∧ 0 ≤ (rmA 2 45).slots := ⟨Nat.le_refl _, Nat.le_refl _⟩
  have hl : lv_has ls 2 [(0, .ref (ad E 0)), (1, .int (nI q))] := hl
  have hn := ok.1
  refine lv_aload_n hx hb dX1_markReachable_0 rfl (lv_at hl 0 rfl) ?_
  refine callv K w (c_X1_clearMarks dn ok.1) (lk_X1_87 K ⟨Nat.le_trans (Nat.le_of_ble_eq_true rfl) hR.1, Nat.le_trans (Nat.le_of_ble_eq_true rfl) hR.2⟩) (recv0 K w) rfl hl.1 rfl (Nat.le_of_ble_eq_true rfl) dX1_markReachable_1 hf (fun H locs w => ?_)
  refine lv_aload_n hx hb dX1_markReachable_4 rfl (lv_at hl 0 rfl) ?_
  refine gf_X1_marks K w dX1_markReachable_5 ?_
  refine lv_iload_n hx hb dX1_markReachable_8 rfl (lv_at hl 1 rfl) ?_
  refine lv_iconst (v := nI 1) hx hb dX1_markReachable_9 (by decide) ?_
  refine stN K w row8 (by omega) dX1_markReachable_10 (fun H locs w => ?_)
  refine lv_aload_n hx hb dX1_markReachable_11 rfl (lv_at hl 0 rfl) ?_
  refine callv K w (c_X1_spreadMarks dn (ok.rows (clF_row (by decide)) (clF_row (by decide)))) (lk_X1_90 K ⟨Nat.le_trans (Nat.le_of_ble_eq_true rfl) hR.1, Nat.le_trans (Nat.le_of_ble_eq_true rfl) hR.2⟩) (recv0 K w) rfl hl.1 rfl (Nat.le_of_ble_eq_true rfl) dX1_markReachable_12 hf (fun H locs w => ?_)
  exact ret w dX1_markReachable_15

set_option maxHeartbeats 4000000 in
set_option maxRecDepth 100000 in
theorem c_X1_markHeld {l : Launch} {E : En} {M : Mt} {n k : Nat} (dn : dN E) (ok : okN M n) : MV l yX1_markHeld (.code yX1_markHeld cX1_markHeld 2 none) 2 45 E [.ref (ad E 0)] M n k  (hlF M n) (n) (k) := by
  refine MV.of dn (own := RX1) (by decide) rfl (Nat.le_of_ble_eq_true rfl) (fun p e s m args below meth c ls Q K w hl ret => ?_)
  have hx := K.1.1
  have hb := K.1.2.1
  have hR : 2 ≤ (rmA 2 45).frames ∧ 45 ≤ (rmA 2 45).locals := ⟨Nat.le_refl _, Nat.le_refl _⟩
  have hf : 0 ≤ (rmA 2 45).cells ∧ 0 ≤ (rmA 2 45).slots := ⟨Nat.le_refl _, Nat.le_refl _⟩
  have hl : lv_has ls 2 [(0, .ref (ad E 0))] := hl
  refine lv_iconst (v := nI 0) hx hb dX1_markHeld_0 (by decide) ?_
  refine lv_istore_n (lv' := [(1, .int _), (0, .ref _)]) hx hb dX1_markHeld_1 rfl hl (by decide) rfl (fun ls hl => ?_)
  refine lp_held K ⟨Nat.le_trans (Nat.le_of_ble_eq_true rfl) hR.1, Nat.le_trans (Nat.le_of_ble_eq_true rfl) hR.2⟩ hf (fun H locs ls w hl => ?_) ok.1 n 0 M _ _ _ (by omega) rfl w hl
  refine lv_aload_n hx hb dX1_markHeld_28 rfl (lv_at hl 0 rfl) ?_
  refine callv K w (c_X1_spreadMarks dn (ok.rows (mhF_row (by decide)) (mhF_row (by decide)))) (lk_X1_90 K ⟨Nat.le_trans (Nat.le_of_ble_eq_true rfl) hR.1, Nat.le_trans (Nat.le_of_ble_eq_true rfl) hR.2⟩) (recv0 K w) rfl hl.1 rfl (Nat.le_of_ble_eq_true rfl) dX1_markHeld_29 hf (fun H locs w => ?_)
  exact ret w dX1_markHeld_32
