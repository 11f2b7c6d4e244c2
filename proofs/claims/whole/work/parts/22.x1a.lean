theorem ne_t {x y : Int32} (h : decide (¬ x = y) = true) : ¬ x = y := of_decide_eq_true h
theorem ne_f {x y : Int32} (h : ¬ decide (¬ x = y) = true) : x = y := Decidable.not_not.mp (fun h2 => h (decide_eq_true h2))
theorem eq_t {x y : Int32} (h : decide (x = y) = true) : x = y := of_decide_eq_true h
theorem eq_f {x y : Int32} (h : ¬ decide (x = y) = true) : ¬ x = y := fun h2 => h (decide_eq_true h2)
theorem decm (q : Nat) : nI q + Int32.ofInt (-1) = nI q - nI 1 := by
  rw [Int32.sub_eq_add_neg]; rfl
theorem okN.pc {M : Mt} {n c : Nat} (h : okN M n) (hc : c < n) : M 4 c = nI (pcn M c) := (h.2 c hc).2.1
theorem okN.le {M : Mt} {n c : Nat} (h : okN M n) (hc : c < n) : pcn M c ≤ 4 := (h.2 c hc).1
theorem okN.pr {M : Mt} {n c t : Nat} (h : okN M n) (hc : c < n) (ht : t < pcn M c) : M 5 (c * 4 + t) = nI (par M c t) := ((h.2 c hc).2.2 t ht).2
theorem okN.lt {M : Mt} {n c t : Nat} (h : okN M n) (hc : c < n) (ht : t < pcn M c) : par M c t < c := ((h.2 c hc).2.2 t ht).1
theorem okN.rows {M M' : Mt} {n : Nat} (h : okN M n) (h4 : M' 4 = M 4) (h5 : M' 5 = M 5) : okN M' n := by
  have e : ∀ c, pcn M' c = pcn M c := fun c => by rw [pcn, pcn, h4]
  have e2 : ∀ c t, par M' c t = par M c t := fun c t => by rw [par, par, h5]
  refine ⟨h.1, fun c hc => ?_⟩
  rw [e, h4, h5]
  refine ⟨(h.2 c hc).1, (h.2 c hc).2.1, fun t ht => ?_⟩
  rw [e2]
  exact (h.2 c hc).2.2 t ht

set_option maxHeartbeats 4000000 in
set_option maxRecDepth 100000 in
theorem c_X1_sideOf {l : Launch} {E : En} {M : Mt} {n k : Nat} (dn : dN E) {h : Nat} (hh : h < 2147483648) : MI l yX1_sideOf (.code yX1_sideOf cX1_sideOf 1 (some .int)) 0 0 E [.int (nI h)] M n k (sdF h)  (M) (n) (k) := by
  refine MI.of dn (own := RX1) (by decide) rfl (Nat.le_of_ble_eq_true rfl) (fun p e s m args below meth c ls Q K w hl ret => ?_)
  have hx := K.1.1
  have hb := K.1.2.1
  have hR : 0 ≤ (rmA 0 0).frames ∧ 0 ≤ (rmA 0 0).locals := ⟨Nat.le_refl _, Nat.le_refl _⟩
  have hf : 0 ≤ (rmA 0 0).cells ∧ 0 ≤ (rmA 0 0).slots := ⟨Nat.le_refl _, Nat.le_refl _⟩
  have hl : lv_has ls 1 [(0, .int (nI h))] := hl
  by_cases h0 : h = 0
  · subst h0
    refine lv_iload_n hx hb dX1_sideOf_0 rfl (lv_at hl 0 rfl) ?_
    refine lv_if_ne (tgt := 8) hx hb dX1_sideOf_1 rfl (fun h9 => absurd (by decide : nI 0 = 0) h9) (fun _ => ?_)
    refine lv_iconst (v := nI 1) hx hb dX1_sideOf_4 (by decide) ?_
    refine lv_goto (tgt := 9) hx hb dX1_sideOf_5 rfl ?_
    exact ret w rfl dX1_sideOf_9
  · refine lv_iload_n hx hb dX1_sideOf_0 rfl (lv_at hl 0 rfl) ?_
    refine lv_if_ne (tgt := 8) hx hb dX1_sideOf_1 rfl (fun _ => ?_) (fun h9 => absurd h9 (nI_ne0 (by omega) hh))
    refine lv_iconst (v := nI 2) hx hb dX1_sideOf_8 (by decide) ?_
    exact ret w (by rw [sdF, if_neg h0]) dX1_sideOf_9

set_option maxHeartbeats 4000000 in
set_option maxRecDepth 100000 in
theorem c_X1_parentOf {l : Launch} {E : En} {M : Mt} {n k : Nat} (dn : dN E) {q t : Nat} (hc : q * 4 + t < 8000) (hp : M 5 (q * 4 + t) = nI (par M q t)) : MI l yX1_parentOf (.code yX1_parentOf cX1_parentOf 3 (some .int)) 0 0 E [.ref (ad E 0), .int (nI q), .int (nI t)] M n k (nI (par M q t))  (M) (n) (k) := by
  refine MI.of dn (own := RX1) (by decide) rfl (Nat.le_of_ble_eq_true rfl) (fun p e s m args below meth c ls Q K w hl ret => ?_)
  have hx := K.1.1
  have hb := K.1.2.1
  have hR : 0 ≤ (rmA 0 0).frames ∧ 0 ≤ (rmA 0 0).locals := ⟨Nat.le_refl _, Nat.le_refl _⟩
  have hf : 0 ≤ (rmA 0 0).cells ∧ 0 ≤ (rmA 0 0).slots := ⟨Nat.le_refl _, Nat.le_refl _⟩
  have hl : lv_has ls 3 [(0, .ref (ad E 0)), (1, .int (nI q)), (2, .int (nI t))] := hl
  refine lv_aload_n hx hb dX1_parentOf_0 rfl (lv_at hl 0 rfl) ?_
  refine gf_X1_parents K w dX1_parentOf_1 ?_
  refine lv_iload_n hx hb dX1_parentOf_4 rfl (lv_at hl 1 rfl) ?_
  refine lv_iconst (v := nI 4) hx hb dX1_parentOf_5 (by decide) ?_
  refine lv_imul hx hb dX1_parentOf_6 ?_
  refine topE (y := nI (q * 4)) (pk_mul _ _) ?_
  refine lv_iload_n hx hb dX1_parentOf_7 rfl (lv_at hl 2 rfl) ?_
  refine lv_iadd hx hb dX1_parentOf_8 ?_
  refine topE (y := nI (q * 4 + t)) (nI_add _ _) ?_
  refine ldN K w row5 (by omega) dX1_parentOf_9 ?_
  exact ret w hp dX1_parentOf_10

set_option maxHeartbeats 4000000 in
set_option maxRecDepth 100000 in
theorem c_X1_isCommon {l : Launch} {E : En} {M : Mt} {n k : Nat} (dn : dN E) {q : Nat} (hc : q < 2000) : MI l yX1_isCommon (.code yX1_isCommon cX1_isCommon 2 (some .boolean)) 0 0 E [.ref (ad E 0), .int (nI q)] M n k (bI (cmF M q))  (M) (n) (k) := by
  refine MI.ofZ dn (own := RX1) (by decide) rfl (Nat.le_of_ble_eq_true rfl) (bI_z _) (fun p e s m args below meth c ls Q K w hl ret => ?_)
  have hx := K.1.1
  have hb := K.1.2.1
  have hR : 0 ≤ (rmA 0 0).frames ∧ 0 ≤ (rmA 0 0).locals := ⟨Nat.le_refl _, Nat.le_refl _⟩
  have hf : 0 ≤ (rmA 0 0).cells ∧ 0 ≤ (rmA 0 0).slots := ⟨Nat.le_refl _, Nat.le_refl _⟩
  have hl : lv_has ls 2 [(0, .ref (ad E 0)), (1, .int (nI q))] := hl
  refine lv_aload_n hx hb dX1_isCommon_0 rfl (lv_at hl 0 rfl) ?_
  refine gf_X1_marks K w dX1_isCommon_1 ?_
  refine lv_iload_n hx hb dX1_isCommon_4 rfl (lv_at hl 1 rfl) ?_
  refine ldN K w row8 (by omega) dX1_isCommon_5 ?_
  refine lv_iconst (v := nI 3) hx hb dX1_isCommon_6 (by decide) ?_
  refine lv_iand hx hb dX1_isCommon_7 ?_
  refine lv_iconst (v := nI 3) hx hb dX1_isCommon_8 (by decide) ?_
  refine lv_icmp_ne (tgt := 16) hx hb dX1_isCommon_9 rfl (fun h9 => ?_) (fun h9 => ?_)
  · refine lv_iconst (v := nI 0) hx hb dX1_isCommon_16 (by decide) ?_
    exact ret w (by first | (rw [cmF, decide_eq_true h9]; rfl) | (rw [cmF, decide_eq_false h9]; rfl)) dX1_isCommon_17
  · refine lv_iconst (v := nI 1) hx hb dX1_isCommon_12 (by decide) ?_
    refine lv_goto (tgt := 17) hx hb dX1_isCommon_13 rfl ?_
    exact ret w (by first | (rw [cmF, decide_eq_true h9]; rfl) | (rw [cmF, decide_eq_false h9]; rfl)) dX1_isCommon_17

section XA
variable {p : Program} {l : Launch} {e : Env} {R : Room} {s : State} {m : MethodId} {args : Array Value} {below : List Frame} {meth : Method} {c : Code} {H : Heap} {locs : List Loc} {cells slots : Nat} {Q : State → Prop} {ls : Array Slot} {w0 : Cond} {E : En} {M MF : Mt} {n k : Nat}
set_option maxHeartbeats 4000000 in
set_option maxRecDepth 100000 in
theorem lp_clear (K : cX E p m c cX1_clearMarks 2 s args w0 RX1) (hR : 0 ≤ R.frames ∧ 0 ≤ R.locals) (hf : cells ≤ R.cells ∧ slots ≤ R.slots) (ret : ∀ {H : Heap} {locs : List Loc} {pc : Nat} {ls : Array Slot}, wst E s.heap MF n k H locs → decode cX1_clearMarks pc = .ok (.return_, 1) → W p l e R s m args below meth c H locs cells slots Q (F0 m pc ls [])) (hn : n ≤ 2000) : ∀ (d i : Nat) (M : Mt) (H : Heap) (locs : List Loc) (ls : Array Slot), i + d = n → clF d i M = MF → wst E s.heap M n k H locs → lv_has ls 2 [(1, .int (nI i)), (0, .ref (ad E 0))] → W p l e R s m args below meth c H locs cells slots Q (F0 m 2 ls []) := by
  have hx := K.1.1
  have hb := K.1.2.1
  intro d
  induction d with
  | zero =>
    intro i M H locs ls hi hm w hl
    refine lv_iload_n hx hb dX1_clearMarks_2 rfl (lv_at hl 0 rfl) ?_
    refine lv_aload_n hx hb dX1_clearMarks_3 rfl (lv_at hl 1 rfl) ?_
    refine gf_X1_commits K w dX1_clearMarks_4 ?_
    refine lv_icmp_ge (tgt := 23) hx hb dX1_clearMarks_7 rfl (fun _ => ?_) (fun h9 => absurd (nI_le (by omega) (by omega)) h9)
    exact ret (by rw [← hm]; exact w) dX1_clearMarks_23
  | succ d ih =>
    intro i M H locs ls hi hm w hl
    refine lv_iload_n hx hb dX1_clearMarks_2 rfl (lv_at hl 0 rfl) ?_
    refine lv_aload_n hx hb dX1_clearMarks_3 rfl (lv_at hl 1 rfl) ?_
    refine gf_X1_commits K w dX1_clearMarks_4 ?_
    refine lv_icmp_ge (tgt := 23) hx hb dX1_clearMarks_7 rfl (fun h9 => absurd h9 (nI_ge (by omega) (by omega))) (fun _ => ?_)
    refine lv_aload_n hx hb dX1_clearMarks_10 rfl (lv_at hl 1 rfl) ?_
    refine gf_X1_marks K w dX1_clearMarks_11 ?_
    refine lv_iload_n hx hb dX1_clearMarks_14 rfl (lv_at hl 0 rfl) ?_
    refine lv_iconst (v := nI 0) hx hb dX1_clearMarks_15 (by decide) ?_
    refine stN K w row8 (by omega) dX1_clearMarks_16 (fun H locs w => ?_)
    refine lv_iinc (k := 0) (v := nI (_ + 1)) (lv' := [(1, .int _), (0, .ref _)]) hx hb dX1_clearMarks_17 hl rfl (inc1 _) (by decide) rfl (fun ls hl => ?_)
    refine lv_goto (tgt := 2) hx hb dX1_clearMarks_20 rfl ?_
    exact ih (i + 1) _ _ _ _ (by omega) hm w hl

set_option maxHeartbeats 4000000 in
set_option maxRecDepth 100000 in
theorem lp_held (K : cX E p m c cX1_markHeld 2 s args w0 RX1) (hR : 0 ≤ R.frames ∧ 0 ≤ R.locals) (hf : cells ≤ R.cells ∧ slots ≤ R.slots) (kk : ∀ (H : Heap) (locs : List Loc) (ls : Array Slot), wst E s.heap MF n k H locs → lv_has ls 2 [(0, .ref (ad E 0))] → W p l e R s m args below meth c H locs cells slots Q (F0 m 28 ls [])) (hn : n ≤ 2000) : ∀ (d i : Nat) (M : Mt) (H : Heap) (locs : List Loc) (ls : Array Slot), i + d = n → mhF d i M = MF → wst E s.heap M n k H locs → lv_has ls 2 [(1, .int (nI i)), (0, .ref (ad E 0))] → W p l e R s m args below meth c H locs cells slots Q (F0 m 2 ls []) := by
  have hx := K.1.1
  have hb := K.1.2.1
  intro d
  induction d with
  | zero =>
    intro i M H locs ls hi hm w hl
    refine lv_iload_n hx hb dX1_markHeld_2 rfl (lv_at hl 0 rfl) ?_
    refine lv_aload_n hx hb dX1_markHeld_3 rfl (lv_at hl 1 rfl) ?_
    refine gf_X1_commits K w dX1_markHeld_4 ?_
    refine lv_icmp_ge (tgt := 28) hx hb dX1_markHeld_7 rfl (fun _ => ?_) (fun h9 => absurd (nI_le (by omega) (by omega)) h9)
    exact kk _ _ _ (by rw [← hm]; exact w) (lv_sub hl [1] rfl)
  | succ d ih =>
    intro i M H locs ls hi hm w hl
    refine lv_iload_n hx hb dX1_markHeld_2 rfl (lv_at hl 0 rfl) ?_
    refine lv_aload_n hx hb dX1_markHeld_3 rfl (lv_at hl 1 rfl) ?_
    refine gf_X1_commits K w dX1_markHeld_4 ?_
    refine lv_icmp_ge (tgt := 28) hx hb dX1_markHeld_7 rfl (fun h9 => absurd h9 (nI_ge (by omega) (by omega))) (fun _ => ?_)
    refine lv_aload_n hx hb dX1_markHeld_10 rfl (lv_at hl 1 rfl) ?_
    refine gf_X1_marks K w dX1_markHeld_11 ?_
    refine lv_iload_n hx hb dX1_markHeld_14 rfl (lv_at hl 0 rfl) ?_
    refine lv_aload_n hx hb dX1_markHeld_15 rfl (lv_at hl 1 rfl) ?_
    refine gf_X1_tips K w dX1_markHeld_16 ?_
    refine lv_iload_n hx hb dX1_markHeld_19 rfl (lv_at hl 0 rfl) ?_
    refine ldN K w row7 (by omega) dX1_markHeld_20 ?_
    refine stN K w row8 (by omega) dX1_markHeld_21 (fun H locs w => ?_)
    refine lv_iinc (k := 0) (v := nI (_ + 1)) (lv' := [(1, .int _), (0, .ref _)]) hx hb dX1_markHeld_22 hl rfl (inc1 _) (by decide) rfl (fun ls hl => ?_)
    refine lv_goto (tgt := 2) hx hb dX1_markHeld_25 rfl ?_
    exact ih (i + 1) _ _ _ _ (by omega) hm w hl

set_option maxHeartbeats 4000000 in
set_option maxRecDepth 100000 in
theorem lp_spin (K : cX E p m c cX1_spreadMarks 4 s args w0 RX1) (hR : 1 ≤ R.frames ∧ 22 ≤ R.locals) (hf : cells ≤ R.cells ∧ slots ≤ R.slots) {h : Int32} {q j : Nat} (hq : q < n) (hn : n ≤ 2000) (kk : ∀ (H : Heap) (locs : List Loc) (ls : Array Slot), wst E s.heap MF n k H locs → lv_has ls 4 [(1, .int (nI q)), (0, .ref (ad E 0))] → W p l e R s m args below meth c H locs cells slots Q (F0 m 70 ls [])) : ∀ (d i : Nat) (M : Mt) (H : Heap) (locs : List Loc) (ls : Array Slot), i + d = j → okN M n → pcn M q = j → inF q h d i M = MF → wst E s.heap M n k H locs → lv_has ls 4 [(3, .int (nI i)), (2, .int h), (1, .int (nI q)), (0, .ref (ad E 0))] → W p l e R s m args below meth c H locs cells slots Q (F0 m 39 ls []) := by
  have hx := K.1.1
  have hb := K.1.2.1
  intro d
  induction d with
  | zero =>
    intro i M H locs ls hi ok hj hm w hl
    have h4 := ok.le hq
    refine lv_iload_n hx hb dX1_spreadMarks_39 rfl (lv_at hl 0 rfl) ?_
    refine lv_aload_n hx hb dX1_spreadMarks_40 rfl (lv_at hl 3 rfl) ?_
    refine gf_X1_parentCounts K w dX1_spreadMarks_41 ?_
    refine lv_iload_n hx hb dX1_spreadMarks_44 rfl (lv_at hl 2 rfl) ?_
    refine ldN K w row4 (by omega) dX1_spreadMarks_45 ?_
    refine topE (y := nI (pcn M q)) (ok.pc hq) ?_
    rw [hj]
    refine lv_icmp_ge (tgt := 70) hx hb dX1_spreadMarks_46 rfl (fun _ => ?_) (fun h9 => absurd (nI_le (by omega) (by omega)) h9)
    exact kk _ _ _ (by rw [← hm]; exact w) (lv_sub hl [2, 3] rfl)
  | succ d ih =>
    intro i M H locs ls hi ok hj hm w hl
    have h4 := ok.le hq
    have h5 := ok.lt hq (t := i) (by omega)
    refine lv_iload_n hx hb dX1_spreadMarks_39 rfl (lv_at hl 0 rfl) ?_
    refine lv_aload_n hx hb dX1_spreadMarks_40 rfl (lv_at hl 3 rfl) ?_
    refine gf_X1_parentCounts K w dX1_spreadMarks_41 ?_
    refine lv_iload_n hx hb dX1_spreadMarks_44 rfl (lv_at hl 2 rfl) ?_
    refine ldN K w row4 (by omega) dX1_spreadMarks_45 ?_
    refine topE (y := nI (pcn M q)) (ok.pc hq) ?_
    rw [hj]
    refine lv_icmp_ge (tgt := 70) hx hb dX1_spreadMarks_46 rfl (fun h9 => absurd h9 (nI_ge (by omega) (by omega))) (fun _ => ?_)
    refine lv_aload_n hx hb dX1_spreadMarks_49 rfl (lv_at hl 3 rfl) ?_
    refine gf_X1_marks K w dX1_spreadMarks_50 ?_
    refine lv_aload_n hx hb dX1_spreadMarks_53 rfl (lv_at hl 3 rfl) ?_
    refine lv_iload_n hx hb dX1_spreadMarks_54 rfl (lv_at hl 2 rfl) ?_
    refine lv_iload_n hx hb dX1_spreadMarks_55 rfl (lv_at hl 0 rfl) ?_
    refine calli K w (c_X1_parentOf K.2.2 (by omega) (ok.pr hq (by omega))) (lk_X1_120 K ⟨Nat.le_trans (Nat.le_of_ble_eq_true rfl) hR.1, Nat.le_trans (Nat.le_of_ble_eq_true rfl) hR.2⟩) (recv0 K w) rfl hl.1 rfl (Nat.le_of_ble_eq_true rfl) dX1_spreadMarks_56 hf (fun H locs w => ?_)
    refine lv_dup2_11 hx hb dX1_spreadMarks_59 rfl rfl ?_
    refine ldN K w row8 (by omega) dX1_spreadMarks_60 ?_
    refine lv_iload_n hx hb dX1_spreadMarks_61 rfl (lv_at hl 1 rfl) ?_
    refine lv_ior hx hb dX1_spreadMarks_62 ?_
    refine stN K w row8 (by omega) dX1_spreadMarks_63 (fun H locs w => ?_)
    refine lv_iinc (k := 0) (v := nI (_ + 1)) (lv' := [(3, .int _), (2, .int _), (1, .int _), (0, .ref _)]) hx hb dX1_spreadMarks_64 hl rfl (inc1 _) (by decide) rfl (fun ls hl => ?_)
    refine lv_goto (tgt := 39) hx hb dX1_spreadMarks_67 rfl ?_
    exact ih (i + 1) (va_up M 8 (upd (M 8) (par M q i) (M 8 (par M q i) ||| h))) _ _ _ (by omega) ok hj hm w (lv_sub hl [0, 1, 2, 3] rfl)

end XA
