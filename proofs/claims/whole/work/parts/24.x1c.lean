section XC
variable {p : Program} {l : Launch} {e : Env} {R : Room} {s : State} {m : MethodId} {args : Array Value} {below : List Frame} {meth : Method} {c : Code} {H : Heap} {locs : List Loc} {cells slots : Nat} {Q : State → Prop} {ls : Array Slot} {w0 : Cond} {E : En} {M MF : Mt} {n k : Nat}
set_option maxHeartbeats 4000000 in
set_option maxRecDepth 100000 in
theorem lp_marked (K : cX E p m c cX1_markedCommits 3 s args w0 RX1) (hR : 0 ≤ R.frames ∧ 0 ≤ R.locals) (hf : cells ≤ R.cells ∧ slots ≤ R.slots) {r : Nat} (hn : n ≤ 2000) (ret : ∀ {H : Heap} {locs : List Loc} {pc : Nat} {ls : Array Slot} {v : Int32}, wst E s.heap M n k H locs → v = nI r → decode cX1_markedCommits pc = .ok (.ireturn, 1) → W p l e R s m args below meth c H locs cells slots Q (F0 m pc ls [.int v])) : ∀ (d i : Nat) (a : Nat) (H : Heap) (locs : List Loc) (ls : Array Slot), i + d = n → cnF (fun j => decide (¬ M 8 j = 0)) d i a = r → wst E s.heap M n k H locs → lv_has ls 3 [(2, .int (nI i)), (1, .int (nI a)), (0, .ref (ad E 0))] → W p l e R s m args below meth c H locs cells slots Q (F0 m 4 ls []) := by
  have hx := K.1.1
  have hb := K.1.2.1
  intro d
  induction d with
  | zero =>
    intro i a H locs ls hi hm w hl
    refine lv_iload_n hx hb dX1_markedCommits_4 rfl (lv_at hl 0 rfl) ?_
    refine lv_aload_n hx hb dX1_markedCommits_5 rfl (lv_at hl 2 rfl) ?_
    refine gf_X1_commits K w dX1_markedCommits_6 ?_
    refine lv_icmp_ge (tgt := 30) hx hb dX1_markedCommits_9 rfl (fun _ => ?_) (fun h9 => absurd (nI_le (by omega) (by omega)) h9)
    refine lv_iload_n hx hb dX1_markedCommits_30 rfl (lv_at hl 1 rfl) ?_
    exact ret w (by rw [← hm]; rfl) dX1_markedCommits_31
  | succ d ih =>
    intro i a H locs ls hi hm w hl
    refine lv_iload_n hx hb dX1_markedCommits_4 rfl (lv_at hl 0 rfl) ?_
    refine lv_aload_n hx hb dX1_markedCommits_5 rfl (lv_at hl 2 rfl) ?_
    refine gf_X1_commits K w dX1_markedCommits_6 ?_
    refine lv_icmp_ge (tgt := 30) hx hb dX1_markedCommits_9 rfl (fun h9 => absurd h9 (nI_ge (by omega) (by omega))) (fun _ => ?_)
    by_cases hc : decide (¬ M 8 i = 0) = true
    · rw [cnF, if_pos hc] at hm
      refine lv_aload_n hx hb dX1_markedCommits_12 rfl (lv_at hl 2 rfl) ?_
      refine gf_X1_marks K w dX1_markedCommits_13 ?_
      refine lv_iload_n hx hb dX1_markedCommits_16 rfl (lv_at hl 0 rfl) ?_
      refine ldN K w row8 (by omega) dX1_markedCommits_17 ?_
      refine lv_if_eq (tgt := 24) hx hb dX1_markedCommits_18 rfl (fun h9 => absurd h9 (ne_t hc)) (fun _ => ?_)
      refine lv_iinc (k := 1) (v := nI (_ + 1)) (lv' := [(1, .int _), (2, .int _), (0, .ref _)]) hx hb dX1_markedCommits_21 hl rfl (inc1 _) (by decide) rfl (fun ls hl => ?_)
      refine lv_iinc (k := 1) (v := nI (_ + 1)) (lv' := [(2, .int _), (1, .int _), (0, .ref _)]) hx hb dX1_markedCommits_24 hl rfl (inc1 _) (by decide) rfl (fun ls hl => ?_)
      refine lv_goto (tgt := 4) hx hb dX1_markedCommits_27 rfl ?_
      exact ih (i + 1) _ _ _ _ (by omega) hm w (lv_sub hl [0, 1, 2] rfl)
    · rw [cnF, if_neg hc] at hm
      refine lv_aload_n hx hb dX1_markedCommits_12 rfl (lv_at hl 2 rfl) ?_
      refine gf_X1_marks K w dX1_markedCommits_13 ?_
      refine lv_iload_n hx hb dX1_markedCommits_16 rfl (lv_at hl 0 rfl) ?_
      refine ldN K w row8 (by omega) dX1_markedCommits_17 ?_
      refine lv_if_eq (tgt := 24) hx hb dX1_markedCommits_18 rfl (fun _ => ?_) (fun h9 => absurd (ne_f hc) h9)
      refine lv_iinc (k := 0) (v := nI (_ + 1)) (lv' := [(2, .int _), (1, .int _), (0, .ref _)]) hx hb dX1_markedCommits_24 hl rfl (inc1 _) (by decide) rfl (fun ls hl => ?_)
      refine lv_goto (tgt := 4) hx hb dX1_markedCommits_27 rfl ?_
      exact ih (i + 1) _ _ _ _ (by omega) hm w (lv_sub hl [0, 1, 2] rfl)

set_option maxHeartbeats 4000000 in
set_option maxRecDepth 100000 in
theorem lp_childless (K : cX E p m c cX1_childlessCommits 3 s args w0 RX1) (hR : 0 ≤ R.frames ∧ 0 ≤ R.locals) (hf : cells ≤ R.cells ∧ slots ≤ R.slots) {r : Nat} (hn : n ≤ 2000) (ret : ∀ {H : Heap} {locs : List Loc} {pc : Nat} {ls : Array Slot} {v : Int32}, wst E s.heap M n k H locs → v = nI r → decode cX1_childlessCommits pc = .ok (.ireturn, 1) → W p l e R s m args below meth c H locs cells slots Q (F0 m pc ls [.int v])) : ∀ (d i : Nat) (a : Nat) (H : Heap) (locs : List Loc) (ls : Array Slot), i + d = n → cnF (fun j => decide (M 6 j = 0)) d i a = r → wst E s.heap M n k H locs → lv_has ls 3 [(2, .int (nI i)), (1, .int (nI a)), (0, .ref (ad E 0))] → W p l e R s m args below meth c H locs cells slots Q (F0 m 4 ls []) := by
  have hx := K.1.1
  have hb := K.1.2.1
  intro d
  induction d with
  | zero =>
    intro i a H locs ls hi hm w hl
    refine lv_iload_n hx hb dX1_childlessCommits_4 rfl (lv_at hl 0 rfl) ?_
    refine lv_aload_n hx hb dX1_childlessCommits_5 rfl (lv_at hl 2 rfl) ?_
    refine gf_X1_commits K w dX1_childlessCommits_6 ?_
    refine lv_icmp_ge (tgt := 30) hx hb dX1_childlessCommits_9 rfl (fun _ => ?_) (fun h9 => absurd (nI_le (by omega) (by omega)) h9)
    refine lv_iload_n hx hb dX1_childlessCommits_30 rfl (lv_at hl 1 rfl) ?_
    exact ret w (by rw [← hm]; rfl) dX1_childlessCommits_31
  | succ d ih =>
    intro i a H locs ls hi hm w hl
    refine lv_iload_n hx hb dX1_childlessCommits_4 rfl (lv_at hl 0 rfl) ?_
    refine lv_aload_n hx hb dX1_childlessCommits_5 rfl (lv_at hl 2 rfl) ?_
    refine gf_X1_commits K w dX1_childlessCommits_6 ?_
    refine lv_icmp_ge (tgt := 30) hx hb dX1_childlessCommits_9 rfl (fun h9 => absurd h9 (nI_ge (by omega) (by omega))) (fun _ => ?_)
    by_cases hc : decide (M 6 i = 0) = true
    · rw [cnF, if_pos hc] at hm
      refine lv_aload_n hx hb dX1_childlessCommits_12 rfl (lv_at hl 2 rfl) ?_
      refine gf_X1_isParent K w dX1_childlessCommits_13 ?_
      refine lv_iload_n hx hb dX1_childlessCommits_16 rfl (lv_at hl 0 rfl) ?_
      refine ldZ K w (by omega) dX1_childlessCommits_17 ?_
      refine lv_if_ne (tgt := 24) hx hb dX1_childlessCommits_18 rfl (fun h9 => absurd (eq_t hc) h9) (fun _ => ?_)
      refine lv_iinc (k := 1) (v := nI (_ + 1)) (lv' := [(1, .int _), (2, .int _), (0, .ref _)]) hx hb dX1_childlessCommits_21 hl rfl (inc1 _) (by decide) rfl (fun ls hl => ?_)
      refine lv_iinc (k := 1) (v := nI (_ + 1)) (lv' := [(2, .int _), (1, .int _), (0, .ref _)]) hx hb dX1_childlessCommits_24 hl rfl (inc1 _) (by decide) rfl (fun ls hl => ?_)
      refine lv_goto (tgt := 4) hx hb dX1_childlessCommits_27 rfl ?_
      exact ih (i + 1) _ _ _ _ (by omega) hm w (lv_sub hl [0, 1, 2] rfl)
    · rw [cnF, if_neg hc] at hm
      refine lv_aload_n hx hb dX1_childlessCommits_12 rfl (lv_at hl 2 rfl) ?_
      refine gf_X1_isParent K w dX1_childlessCommits_13 ?_
      refine lv_iload_n hx hb dX1_childlessCommits_16 rfl (lv_at hl 0 rfl) ?_
      refine ldZ K w (by omega) dX1_childlessCommits_17 ?_
      refine lv_if_ne (tgt := 24) hx hb dX1_childlessCommits_18 rfl (fun _ => ?_) (fun h9 => absurd h9 (eq_f hc))
      refine lv_iinc (k := 0) (v := nI (_ + 1)) (lv' := [(2, .int _), (1, .int _), (0, .ref _)]) hx hb dX1_childlessCommits_24 hl rfl (inc1 _) (by decide) rfl (fun ls hl => ?_)
      refine lv_goto (tgt := 4) hx hb dX1_childlessCommits_27 rfl ?_
      exact ih (i + 1) _ _ _ _ (by omega) hm w (lv_sub hl [0, 1, 2] rfl)

set_option maxHeartbeats 4000000 in
set_option maxRecDepth 100000 in
theorem lp_common (K : cX E p m c cX1_commonCommits 3 s args w0 RX1) (hR : 1 ≤ R.frames ∧ 21 ≤ R.locals) (hf : cells ≤ R.cells ∧ slots ≤ R.slots) {r : Nat} (hn : n ≤ 2000) (ret : ∀ {H : Heap} {locs : List Loc} {pc : Nat} {ls : Array Slot} {v : Int32}, wst E s.heap M n k H locs → v = nI r → decode cX1_commonCommits pc = .ok (.ireturn, 1) → W p l e R s m args below meth c H locs cells slots Q (F0 m pc ls [.int v])) : ∀ (d i : Nat) (a : Nat) (H : Heap) (locs : List Loc) (ls : Array Slot), i + d = n → cnF (fun j => cmF M j) d i a = r → wst E s.heap M n k H locs → lv_has ls 3 [(2, .int (nI i)), (1, .int (nI a)), (0, .ref (ad E 0))] → W p l e R s m args below meth c H locs cells slots Q (F0 m 8 ls []) := by
  have hx := K.1.1
  have hb := K.1.2.1
  intro d
  induction d with
  | zero =>
    intro i a H locs ls hi hm w hl
    refine lv_iload_n hx hb dX1_commonCommits_8 rfl (lv_at hl 0 rfl) ?_
    refine lv_aload_n hx hb dX1_commonCommits_9 rfl (lv_at hl 2 rfl) ?_
    refine gf_X1_commits K w dX1_commonCommits_10 ?_
    refine lv_icmp_ge (tgt := 33) hx hb dX1_commonCommits_13 rfl (fun _ => ?_) (fun h9 => absurd (nI_le (by omega) (by omega)) h9)
    refine lv_iload_n hx hb dX1_commonCommits_33 rfl (lv_at hl 1 rfl) ?_
    exact ret w (by rw [← hm]; rfl) dX1_commonCommits_34
  | succ d ih =>
    intro i a H locs ls hi hm w hl
    refine lv_iload_n hx hb dX1_commonCommits_8 rfl (lv_at hl 0 rfl) ?_
    refine lv_aload_n hx hb dX1_commonCommits_9 rfl (lv_at hl 2 rfl) ?_
    refine gf_X1_commits K w dX1_commonCommits_10 ?_
    refine lv_icmp_ge (tgt := 33) hx hb dX1_commonCommits_13 rfl (fun h9 => absurd h9 (nI_ge (by omega) (by omega))) (fun _ => ?_)
    by_cases hc : cmF M i = true
    · rw [cnF, if_pos hc] at hm
      refine lv_aload_n hx hb dX1_commonCommits_16 rfl (lv_at hl 2 rfl) ?_
      refine lv_iload_n hx hb dX1_commonCommits_17 rfl (lv_at hl 0 rfl) ?_
      refine calli K w (c_X1_isCommon K.2.2 (by omega)) (lk_X1_163 K ⟨Nat.le_trans (Nat.le_of_ble_eq_true rfl) hR.1, Nat.le_trans (Nat.le_of_ble_eq_true rfl) hR.2⟩) (recv0 K w) rfl hl.1 rfl (Nat.le_of_ble_eq_true rfl) dX1_commonCommits_18 hf (fun H locs w => ?_)
      refine lv_if_eq (tgt := 27) hx hb dX1_commonCommits_21 rfl (fun h9 => absurd h9 (by rw [hc]; decide)) (fun _ => ?_)
      refine lv_iinc (k := 1) (v := nI (_ + 1)) (lv' := [(1, .int _), (2, .int _), (0, .ref _)]) hx hb dX1_commonCommits_24 hl rfl (inc1 _) (by decide) rfl (fun ls hl => ?_)
      refine lv_iinc (k := 1) (v := nI (_ + 1)) (lv' := [(2, .int _), (1, .int _), (0, .ref _)]) hx hb dX1_commonCommits_27 hl rfl (inc1 _) (by decide) rfl (fun ls hl => ?_)
      refine lv_goto (tgt := 8) hx hb dX1_commonCommits_30 rfl ?_
      exact ih (i + 1) _ _ _ _ (by omega) hm w (lv_sub hl [0, 1, 2] rfl)
    · rw [cnF, if_neg hc] at hm
      refine lv_aload_n hx hb dX1_commonCommits_16 rfl (lv_at hl 2 rfl) ?_
      refine lv_iload_n hx hb dX1_commonCommits_17 rfl (lv_at hl 0 rfl) ?_
      refine calli K w (c_X1_isCommon K.2.2 (by omega)) (lk_X1_163 K ⟨Nat.le_trans (Nat.le_of_ble_eq_true rfl) hR.1, Nat.le_trans (Nat.le_of_ble_eq_true rfl) hR.2⟩) (recv0 K w) rfl hl.1 rfl (Nat.le_of_ble_eq_true rfl) dX1_commonCommits_18 hf (fun H locs w => ?_)
      refine lv_if_eq (tgt := 27) hx hb dX1_commonCommits_21 rfl (fun _ => ?_) (fun h9 => absurd (by rw [Bool.not_eq_true _ |>.mp hc]; rfl) h9)
      refine lv_iinc (k := 0) (v := nI (_ + 1)) (lv' := [(2, .int _), (1, .int _), (0, .ref _)]) hx hb dX1_commonCommits_27 hl rfl (inc1 _) (by decide) rfl (fun ls hl => ?_)
      refine lv_goto (tgt := 8) hx hb dX1_commonCommits_30 rfl ?_
      exact ih (i + 1) _ _ _ _ (by omega) hm w (lv_sub hl [0, 1, 2] rfl)

set_option maxHeartbeats 4000000 in
set_option maxRecDepth 100000 in
theorem lp_tips (K : cX E p m c cX1_tipsOf 4 s args w0 RX1) (hR : 1 ≤ R.frames ∧ 20 ≤ R.locals) (hf : cells ≤ R.cells ∧ slots ≤ R.slots) {r h : Nat} (hh : h < 2147483648) (hn : n ≤ 2000) (ret : ∀ {H : Heap} {locs : List Loc} {pc : Nat} {ls : Array Slot} {v : Int32}, wst E s.heap M n k H locs → v = nI r → decode cX1_tipsOf pc = .ok (.ireturn, 1) → W p l e R s m args below meth c H locs cells slots Q (F0 m pc ls [.int v])) : ∀ (d i : Nat) (a : Nat) (H : Heap) (locs : List Loc) (ls : Array Slot), i + d = n → cnF (fun j => decide (¬ M 7 j &&& sdF h = 0)) d i a = r → wst E s.heap M n k H locs → lv_has ls 4 [(3, .int (nI i)), (2, .int (nI a)), (1, .int (nI h)), (0, .ref (ad E 0))] → W p l e R s m args below meth c H locs cells slots Q (F0 m 4 ls []) := by
  have hx := K.1.1
  have hb := K.1.2.1
  intro d
  induction d with
  | zero =>
    intro i a H locs ls hi hm w hl
    refine lv_iload_n hx hb dX1_tipsOf_4 rfl (lv_at hl 0 rfl) ?_
    refine lv_aload_n hx hb dX1_tipsOf_5 rfl (lv_at hl 3 rfl) ?_
    refine gf_X1_commits K w dX1_tipsOf_6 ?_
    refine lv_icmp_ge (tgt := 35) hx hb dX1_tipsOf_9 rfl (fun _ => ?_) (fun h9 => absurd (nI_le (by omega) (by omega)) h9)
    refine lv_iload_n hx hb dX1_tipsOf_35 rfl (lv_at hl 1 rfl) ?_
    exact ret w (by rw [← hm]; rfl) dX1_tipsOf_36
  | succ d ih =>
    intro i a H locs ls hi hm w hl
    refine lv_iload_n hx hb dX1_tipsOf_4 rfl (lv_at hl 0 rfl) ?_
    refine lv_aload_n hx hb dX1_tipsOf_5 rfl (lv_at hl 3 rfl) ?_
    refine gf_X1_commits K w dX1_tipsOf_6 ?_
    refine lv_icmp_ge (tgt := 35) hx hb dX1_tipsOf_9 rfl (fun h9 => absurd h9 (nI_ge (by omega) (by omega))) (fun _ => ?_)
    by_cases hc : decide (¬ M 7 i &&& sdF h = 0) = true
    · rw [cnF, if_pos hc] at hm
      refine lv_aload_n hx hb dX1_tipsOf_12 rfl (lv_at hl 3 rfl) ?_
      refine gf_X1_tips K w dX1_tipsOf_13 ?_
      refine lv_iload_n hx hb dX1_tipsOf_16 rfl (lv_at hl 0 rfl) ?_
      refine ldN K w row7 (by omega) dX1_tipsOf_17 ?_
      refine lv_iload_n hx hb dX1_tipsOf_18 rfl (lv_at hl 2 rfl) ?_
      refine callsi K w (c_X1_sideOf K.2.2 hh) (lk_X1_80 K ⟨Nat.le_trans (Nat.le_of_ble_eq_true rfl) hR.1, Nat.le_trans (Nat.le_of_ble_eq_true rfl) hR.2⟩) rfl hl.1 rfl (Nat.le_of_ble_eq_true rfl) dX1_tipsOf_19 hf (fun H locs w => ?_)
      refine lv_iand hx hb dX1_tipsOf_22 ?_
      refine lv_if_eq (tgt := 29) hx hb dX1_tipsOf_23 rfl (fun h9 => absurd h9 (ne_t hc)) (fun _ => ?_)
      refine lv_iinc (k := 1) (v := nI (_ + 1)) (lv' := [(2, .int _), (3, .int _), (1, .int _), (0, .ref _)]) hx hb dX1_tipsOf_26 hl rfl (inc1 _) (by decide) rfl (fun ls hl => ?_)
      refine lv_iinc (k := 1) (v := nI (_ + 1)) (lv' := [(3, .int _), (2, .int _), (1, .int _), (0, .ref _)]) hx hb dX1_tipsOf_29 hl rfl (inc1 _) (by decide) rfl (fun ls hl => ?_)
      refine lv_goto (tgt := 4) hx hb dX1_tipsOf_32 rfl ?_
      exact ih (i + 1) _ _ _ _ (by omega) hm w (lv_sub hl [0, 1, 2, 3] rfl)
    · rw [cnF, if_neg hc] at hm
      refine lv_aload_n hx hb dX1_tipsOf_12 rfl (lv_at hl 3 rfl) ?_
      refine gf_X1_tips K w dX1_tipsOf_13 ?_
      refine lv_iload_n hx hb dX1_tipsOf_16 rfl (lv_at hl 0 rfl) ?_
      refine ldN K w row7 (by omega) dX1_tipsOf_17 ?_
      refine lv_iload_n hx hb dX1_tipsOf_18 rfl (lv_at hl 2 rfl) ?_
      refine callsi K w (c_X1_sideOf K.2.2 hh) (lk_X1_80 K ⟨Nat.le_trans (Nat.le_of_ble_eq_true rfl) hR.1, Nat.le_trans (Nat.le_of_ble_eq_true rfl) hR.2⟩) rfl hl.1 rfl (Nat.le_of_ble_eq_true rfl) dX1_tipsOf_19 hf (fun H locs w => ?_)
      refine lv_iand hx hb dX1_tipsOf_22 ?_
      refine lv_if_eq (tgt := 29) hx hb dX1_tipsOf_23 rfl (fun _ => ?_) (fun h9 => absurd (ne_f hc) h9)
      refine lv_iinc (k := 0) (v := nI (_ + 1)) (lv' := [(3, .int _), (2, .int _), (1, .int _), (0, .ref _)]) hx hb dX1_tipsOf_29 hl rfl (inc1 _) (by decide) rfl (fun ls hl => ?_)
      refine lv_goto (tgt := 4) hx hb dX1_tipsOf_32 rfl ?_
      exact ih (i + 1) _ _ _ _ (by omega) hm w (lv_sub hl [0, 1, 2, 3] rfl)

set_option maxHeartbeats 4000000 in
set_option maxRecDepth 100000 in
theorem lp_great (K : cX E p m c cX1_greatestGeneration 3 s args w0 RX1) (hR : 1 ≤ R.frames ∧ 24 ≤ R.locals) (hf : cells ≤ R.cells ∧ slots ≤ R.slots) {r : Int32} (hn : n ≤ 2000) (ret : ∀ {H : Heap} {locs : List Loc} {pc : Nat} {ls : Array Slot} {v : Int32}, wst E s.heap M n k H locs → v = r → decode cX1_greatestGeneration pc = .ok (.ireturn, 1) → W p l e R s m args below meth c H locs cells slots Q (F0 m pc ls [.int v])) : ∀ (d i : Nat) (a : Int32) (H : Heap) (locs : List Loc) (ls : Array Slot), i + d = n → ggF (M 3) d i a = r → wst E s.heap M n k H locs → lv_has ls 3 [(2, .int (nI i)), (1, .int a), (0, .ref (ad E 0))] → W p l e R s m args below meth c H locs cells slots Q (F0 m 4 ls []) := by
  have hx := K.1.1
  have hb := K.1.2.1
  intro d
  induction d with
  | zero =>
    intro i a H locs ls hi hm w hl
    refine lv_iload_n hx hb dX1_greatestGeneration_4 rfl (lv_at hl 0 rfl) ?_
    refine lv_aload_n hx hb dX1_greatestGeneration_5 rfl (lv_at hl 2 rfl) ?_
    refine gf_X1_commits K w dX1_greatestGeneration_6 ?_
    refine lv_icmp_ge (tgt := 29) hx hb dX1_greatestGeneration_9 rfl (fun _ => ?_) (fun h9 => absurd (nI_le (by omega) (by omega)) h9)
    refine lv_iload_n hx hb dX1_greatestGeneration_29 rfl (lv_at hl 1 rfl) ?_
    exact ret w (by rw [← hm]; rfl) dX1_greatestGeneration_30
  | succ d ih =>
    intro i a H locs ls hi hm w hl
    refine lv_iload_n hx hb dX1_greatestGeneration_4 rfl (lv_at hl 0 rfl) ?_
    refine lv_aload_n hx hb dX1_greatestGeneration_5 rfl (lv_at hl 2 rfl) ?_
    refine gf_X1_commits K w dX1_greatestGeneration_6 ?_
    refine lv_icmp_ge (tgt := 29) hx hb dX1_greatestGeneration_9 rfl (fun h9 => absurd h9 (nI_ge (by omega) (by omega))) (fun _ => ?_)
    refine lv_iload_n hx hb dX1_greatestGeneration_12 rfl (lv_at hl 1 rfl) ?_
    refine lv_aload_n hx hb dX1_greatestGeneration_13 rfl (lv_at hl 2 rfl) ?_
    refine gf_X1_generations K w dX1_greatestGeneration_14 ?_
    refine lv_iload_n hx hb dX1_greatestGeneration_17 rfl (lv_at hl 0 rfl) ?_
    refine ldN K w row3 (by omega) dX1_greatestGeneration_18 ?_
    refine mmaxN K ⟨Nat.le_trans (Nat.le_of_ble_eq_true rfl) hR.1, Nat.le_trans (Nat.le_of_ble_eq_true rfl) hR.2⟩ hf (Nat.le_of_ble_eq_true rfl) hl.1 dX1_greatestGeneration_19 ?_
    refine lv_istore_n (lv' := [(1, .int _), (2, .int _), (0, .ref _)]) hx hb dX1_greatestGeneration_22 rfl hl (by decide) rfl (fun ls hl => ?_)
    refine lv_iinc (k := 1) (v := nI (_ + 1)) (lv' := [(2, .int _), (1, .int _), (0, .ref _)]) hx hb dX1_greatestGeneration_23 hl rfl (inc1 _) (by decide) rfl (fun ls hl => ?_)
    refine lv_goto (tgt := 4) hx hb dX1_greatestGeneration_26 rfl ?_
    exact ih (i + 1) _ _ _ _ (by omega) hm w (lv_sub hl [0, 1, 2] rfl)

set_option maxHeartbeats 4000000 in
set_option maxRecDepth 100000 in
theorem lp_hpn (K : cX E p m c cX1_hasParentNotBelow 3 s args w0 RX1) (hR : 1 ≤ R.frames ∧ 22 ≤ R.locals) (hf : cells ≤ R.cells ∧ slots ≤ R.slots) {q j : Nat} (hq : q < n) (ok : okN M n) (hj : pcn M q = j) (ret : ∀ {H : Heap} {locs : List Loc} {pc : Nat} {ls : Array Slot} {v : Int32}, wst E s.heap M n k H locs → v = nI 0 → decode cX1_hasParentNotBelow pc = .ok (.ireturn, 1) → W p l e R s m args below meth c H locs cells slots Q (F0 m pc ls [.int v])) : ∀ (d i : Nat) (H : Heap) (locs : List Loc) (ls : Array Slot), i + d = j → wst E s.heap M n k H locs → lv_has ls 3 [(2, .int (nI i)), (1, .int (nI q)), (0, .ref (ad E 0))] → W p l e R s m args below meth c H locs cells slots Q (F0 m 2 ls []) := by
  have hx := K.1.1
  have hb := K.1.2.1
  intro d
  induction d with
  | zero =>
    intro i H locs ls hi w hl
    have h4 := ok.le hq
    have hn := ok.1
    refine lv_iload_n hx hb dX1_hasParentNotBelow_2 rfl (lv_at hl 0 rfl) ?_
    refine lv_aload_n hx hb dX1_hasParentNotBelow_3 rfl (lv_at hl 2 rfl) ?_
    refine gf_X1_parentCounts K w dX1_hasParentNotBelow_4 ?_
    refine lv_iload_n hx hb dX1_hasParentNotBelow_7 rfl (lv_at hl 1 rfl) ?_
    refine ldN K w row4 (by omega) dX1_hasParentNotBelow_8 ?_
    refine topE (y := nI (pcn M q)) (ok.pc hq) ?_
    rw [hj]
    refine lv_icmp_ge (tgt := 30) hx hb dX1_hasParentNotBelow_9 rfl (fun _ => ?_) (fun h9 => absurd (nI_le (by omega) (by omega)) h9)
    refine lv_iconst (v := nI 0) hx hb dX1_hasParentNotBelow_30 (by decide) ?_
    exact ret w rfl dX1_hasParentNotBelow_31
  | succ d ih =>
    intro i H locs ls hi w hl
    have h4 := ok.le hq
    have hn := ok.1
    have h5 := ok.lt hq (t := i) (by omega)
    refine lv_iload_n hx hb dX1_hasParentNotBelow_2 rfl (lv_at hl 0 rfl) ?_
    refine lv_aload_n hx hb dX1_hasParentNotBelow_3 rfl (lv_at hl 2 rfl) ?_
    refine gf_X1_parentCounts K w dX1_hasParentNotBelow_4 ?_
    refine lv_iload_n hx hb dX1_hasParentNotBelow_7 rfl (lv_at hl 1 rfl) ?_
    refine ldN K w row4 (by omega) dX1_hasParentNotBelow_8 ?_
    refine topE (y := nI (pcn M q)) (ok.pc hq) ?_
    rw [hj]
    refine lv_icmp_ge (tgt := 30) hx hb dX1_hasParentNotBelow_9 rfl (fun h9 => absurd h9 (nI_ge (by omega) (by omega))) (fun _ => ?_)
    refine lv_aload_n hx hb dX1_hasParentNotBelow_12 rfl (lv_at hl 2 rfl) ?_
    refine lv_iload_n hx hb dX1_hasParentNotBelow_13 rfl (lv_at hl 1 rfl) ?_
    refine lv_iload_n hx hb dX1_hasParentNotBelow_14 rfl (lv_at hl 0 rfl) ?_
    refine calli K w (c_X1_parentOf K.2.2 (by omega) (ok.pr hq (by omega))) (lk_X1_120 K ⟨Nat.le_trans (Nat.le_of_ble_eq_true rfl) hR.1, Nat.le_trans (Nat.le_of_ble_eq_true rfl) hR.2⟩) (recv0 K w) rfl hl.1 rfl (Nat.le_of_ble_eq_true rfl) dX1_hasParentNotBelow_15 hf (fun H locs w => ?_)
    refine lv_iload_n hx hb dX1_hasParentNotBelow_18 rfl (lv_at hl 1 rfl) ?_
    refine lv_icmp_lt (tgt := 24) hx hb dX1_hasParentNotBelow_19 rfl (fun _ => ?_) (fun h9 => absurd (nI_lt h5 (by omega)) h9)
    refine lv_iinc (k := 0) (v := nI (_ + 1)) (lv' := [(2, .int _), (1, .int _), (0, .ref _)]) hx hb dX1_hasParentNotBelow_24 hl rfl (inc1 _) (by decide) rfl (fun ls hl => ?_)
    refine lv_goto (tgt := 2) hx hb dX1_hasParentNotBelow_27 rfl ?_
    exact ih (i + 1) _ _ _ (by omega) w (lv_sub hl [0, 1, 2] rfl)

end XC
set_option maxHeartbeats 4000000 in
set_option maxRecDepth 100000 in
theorem c_X1_markedCommits {l : Launch} {E : En} {M : Mt} {n k : Nat} (dn : dN E) (hn : n ≤ 2000) : MI l yX1_markedCommits (.code yX1_markedCommits cX1_markedCommits 3 (some .int)) 0 0 E [.ref (ad E 0)] M n k (nI (cnF (fun j => decide (¬ M 8 j = 0)) n 0 0))  (M) (n) (k) := by
  refine MI.of dn (own := RX1) (by decide) rfl (Nat.le_of_ble_eq_true rfl) (fun p e s m args below meth c ls Q K w hl ret => ?_)
  have hx := K.1.1
  have hb := K.1.2.1
  have hR : 0 ≤ (rmA 0 0).frames ∧ 0 ≤ (rmA 0 0).locals := ⟨Nat.le_refl _, Nat.le_refl _⟩
  have hf : 0 ≤ (rmA 0 0).cells ∧ 0 ≤ (rmA 0 0).slots := ⟨Nat.le_refl _, Nat.le_refl _⟩
  have hl : lv_has ls 3 [(0, .ref (ad E 0))] := hl
  refine lv_iconst (v := nI 0) hx hb dX1_markedCommits_0 (by decide) ?_
  refine lv_istore_n (lv' := [(1, .int _), (0, .ref _)]) hx hb dX1_markedCommits_1 rfl hl (by decide) rfl (fun ls hl => ?_)
  refine lv_iconst (v := nI 0) hx hb dX1_markedCommits_2 (by decide) ?_
  refine lv_istore_n (lv' := [(2, .int _), (1, .int _), (0, .ref _)]) hx hb dX1_markedCommits_3 rfl hl (by decide) rfl (fun ls hl => ?_)
  exact lp_marked K hR hf hn ret n 0 0 _ _ _ (by omega) rfl w hl

set_option maxHeartbeats 4000000 in
set_option maxRecDepth 100000 in
theorem c_X1_childlessCommits {l : Launch} {E : En} {M : Mt} {n k : Nat} (dn : dN E) (hn : n ≤ 2000) : MI l yX1_childlessCommits (.code yX1_childlessCommits cX1_childlessCommits 3 (some .int)) 0 0 E [.ref (ad E 0)] M n k (nI (cnF (fun j => decide (M 6 j = 0)) n 0 0))  (M) (n) (k) := by
  refine MI.of dn (own := RX1) (by decide) rfl (Nat.le_of_ble_eq_true rfl) (fun p e s m args below meth c ls Q K w hl ret => ?_)
  have hx := K.1.1
  have hb := K.1.2.1
  have hR : 0 ≤ (rmA 0 0).frames ∧ 0 ≤ (rmA 0 0).locals := ⟨Nat.le_refl _, Nat.le_refl _⟩
  have hf : 0 ≤ (rmA 0 0).cells ∧ 0 ≤ (rmA 0 0).slots := ⟨Nat.le_refl _, Nat.le_refl _⟩
  have hl : lv_has ls 3 [(0, .ref (ad E 0))] := hl
  refine lv_iconst (v := nI 0) hx hb dX1_childlessCommits_0 (by decide) ?_
  refine lv_istore_n (lv' := [(1, .int _), (0, .ref _)]) hx hb dX1_childlessCommits_1 rfl hl (by decide) rfl (fun ls hl => ?_)
  refine lv_iconst (v := nI 0) hx hb dX1_childlessCommits_2 (by decide) ?_
  refine lv_istore_n (lv' := [(2, .int _), (1, .int _), (0, .ref _)]) hx hb dX1_childlessCommits_3 rfl hl (by decide) rfl (fun ls hl => ?_)
  exact lp_childless K hR hf hn ret n 0 0 _ _ _ (by omega) rfl w hl

set_option maxHeartbeats 4000000 in
set_option maxRecDepth 100000 in
theorem c_X1_commonCommits {l : Launch} {E : En} {M : Mt} {n k : Nat} (dn : dN E) (ok : okN M n) : MI l yX1_commonCommits (.code yX1_commonCommits cX1_commonCommits 3 (some .int)) 3 66 E [.ref (ad E 0)] M n k (nI (cnF (fun j => cmF (hlF M n) j) n 0 0))  (hlF M n) (n) (k) := by
  refine MI.of dn (own := RX1) (by decide) rfl (Nat.le_of_ble_eq_true rfl) (fun p e s m args below meth c ls Q K w hl ret => ?_)
  have hx := K.1.1
  have hb := K.1.2.1
  have hR : 3 ≤ (rmA 3 66).frames ∧ 66 ≤ (rmA 3 66).locals := ⟨Nat.le_refl _, Nat.le_refl _⟩
  have hf : 0 ≤ (rmA 3 66).cells ∧ 0 ≤ (rmA 3 66).slots := ⟨Nat.le_refl _, Nat.le_refl _⟩
  have hl : lv_has ls 3 [(0, .ref (ad E 0))] := hl
  refine lv_aload_n hx hb dX1_commonCommits_0 rfl (lv_at hl 0 rfl) ?_
  refine callv K w (c_X1_markHeld dn ok) (lk_X1_123 K ⟨Nat.le_trans (Nat.le_of_ble_eq_true rfl) hR.1, Nat.le_trans (Nat.le_of_ble_eq_true rfl) hR.2⟩) (recv0 K w) rfl hl.1 rfl (Nat.le_of_ble_eq_true rfl) dX1_commonCommits_1 hf (fun H locs w => ?_)
  refine lv_iconst (v := nI 0) hx hb dX1_commonCommits_4 (by decide) ?_
  refine lv_istore_n (lv' := [(1, .int _), (0, .ref _)]) hx hb dX1_commonCommits_5 rfl hl (by decide) rfl (fun ls hl => ?_)
  refine lv_iconst (v := nI 0) hx hb dX1_commonCommits_6 (by decide) ?_
  refine lv_istore_n (lv' := [(2, .int _), (1, .int _), (0, .ref _)]) hx hb dX1_commonCommits_7 rfl hl (by decide) rfl (fun ls hl => ?_)
  exact lp_common K ⟨Nat.le_trans (Nat.le_of_ble_eq_true rfl) hR.1, Nat.le_trans (Nat.le_of_ble_eq_true rfl) hR.2⟩ hf ok.1 ret n 0 0 _ _ _ (by omega) rfl w hl

set_option maxHeartbeats 4000000 in
set_option maxRecDepth 100000 in
theorem c_X1_tipsOf {l : Launch} {E : En} {M : Mt} {n k : Nat} (dn : dN E) {h : Nat} (hh : h < 2147483648) (hn : n ≤ 2000) : MI l yX1_tipsOf (.code yX1_tipsOf cX1_tipsOf 4 (some .int)) 1 20 E [.ref (ad E 0), .int (nI h)] M n k (nI (cnF (fun j => decide (¬ M 7 j &&& sdF h = 0)) n 0 0))  (M) (n) (k) := by
  refine MI.of dn (own := RX1) (by decide) rfl (Nat.le_of_ble_eq_true rfl) (fun p e s m args below meth c ls Q K w hl ret => ?_)
  have hx := K.1.1
  have hb := K.1.2.1
  have hR : 1 ≤ (rmA 1 20).frames ∧ 20 ≤ (rmA 1 20).locals := ⟨Nat.le_refl _, Nat.le_refl _⟩
  have hf : 0 ≤ (rmA 1 20).cells ∧ 0 ≤ (rmA 1 20).slots := ⟨Nat.le_refl _, Nat.le_refl _⟩
  have hl : lv_has ls 4 [(0, .ref (ad E 0)), (1, .int (nI h))] := hl
  refine lv_iconst (v := nI 0) hx hb dX1_tipsOf_0 (by decide) ?_
  refine lv_istore_n (lv' := [(2, .int _), (0, .ref _), (1, .int _)]) hx hb dX1_tipsOf_1 rfl hl (by decide) rfl (fun ls hl => ?_)
  refine lv_iconst (v := nI 0) hx hb dX1_tipsOf_2 (by decide) ?_
  refine lv_istore_n (lv' := [(3, .int _), (2, .int _), (0, .ref _), (1, .int _)]) hx hb dX1_tipsOf_3 rfl hl (by decide) rfl (fun ls hl => ?_)
  exact lp_tips K hR hf hh hn ret n 0 0 _ _ _ (by omega) rfl w (lv_sub hl [0, 1, 3, 2] rfl)

set_option maxHeartbeats 4000000 in
set_option maxRecDepth 100000 in
theorem c_X1_greatestGeneration {l : Launch} {E : En} {M : Mt} {n k : Nat} (dn : dN E) (hn : n ≤ 2000) : MI l yX1_greatestGeneration (.code yX1_greatestGeneration cX1_greatestGeneration 3 (some .int)) 1 24 E [.ref (ad E 0)] M n k (ggF (M 3) n 0 (nI 0))  (M) (n) (k) := by
  refine MI.of dn (own := RX1) (by decide) rfl (Nat.le_of_ble_eq_true rfl) (fun p e s m args below meth c ls Q K w hl ret => ?_)
  have hx := K.1.1
  have hb := K.1.2.1
  have hR : 1 ≤ (rmA 1 24).frames ∧ 24 ≤ (rmA 1 24).locals := ⟨Nat.le_refl _, Nat.le_refl _⟩
  have hf : 0 ≤ (rmA 1 24).cells ∧ 0 ≤ (rmA 1 24).slots := ⟨Nat.le_refl _, Nat.le_refl _⟩
  have hl : lv_has ls 3 [(0, .ref (ad E 0))] := hl
  refine lv_iconst (v := nI 0) hx hb dX1_greatestGeneration_0 (by decide) ?_
  refine lv_istore_n (lv' := [(1, .int _), (0, .ref _)]) hx hb dX1_greatestGeneration_1 rfl hl (by decide) rfl (fun ls hl => ?_)
  refine lv_iconst (v := nI 0) hx hb dX1_greatestGeneration_2 (by decide) ?_
  refine lv_istore_n (lv' := [(2, .int _), (1, .int _), (0, .ref _)]) hx hb dX1_greatestGeneration_3 rfl hl (by decide) rfl (fun ls hl => ?_)
  exact lp_great K hR hf hn ret n 0 _ _ _ _ (by omega) rfl w hl

set_option maxHeartbeats 4000000 in
set_option maxRecDepth 100000 in
theorem c_X1_hasParentNotBelow {l : Launch} {E : En} {M : Mt} {n k : Nat} (dn : dN E) {q : Nat} (hq : q < n) (ok : okN M n) : MI l yX1_hasParentNotBelow (.code yX1_hasParentNotBelow cX1_hasParentNotBelow 3 (some .boolean)) 1 22 E [.ref (ad E 0), .int (nI q)] M n k (nI 0)  (M) (n) (k) := by
  refine MI.ofZ dn (own := RX1) (by decide) rfl (Nat.le_of_ble_eq_true rfl) (Or.inl rfl) (fun p e s m args below meth c ls Q K w hl ret => ?_)
  have hx := K.1.1
  have hb := K.1.2.1
  have hR : 1 ≤ (rmA 1 22).frames ∧ 22 ≤ (rmA 1 22).locals := ⟨Nat.le_refl _, Nat.le_refl _⟩
  have hf : 0 ≤ (rmA 1 22).cells ∧ 0 ≤ (rmA 1 22).slots := ⟨Nat.le_refl _, Nat.le_refl _⟩
  have hl : lv_has ls 3 [(0, .ref (ad E 0)), (1, .int (nI q))] := hl
  refine lv_iconst (v := nI 0) hx hb dX1_hasParentNotBelow_0 (by decide) ?_
  refine lv_istore_n (lv' := [(2, .int _), (0, .ref _), (1, .int _)]) hx hb dX1_hasParentNotBelow_1 rfl hl (by decide) rfl (fun ls hl => ?_)
  exact lp_hpn K hR hf hq ok rfl ret (pcn M q) 0 _ _ _ (by omega) w (lv_sub hl [0, 2, 1] rfl)

section XD
variable {p : Program} {l : Launch} {e : Env} {R : Room} {s : State} {m : MethodId} {args : Array Value} {below : List Frame} {meth : Method} {c : Code} {H : Heap} {locs : List Loc} {cells slots : Nat} {Q : State → Prop} {ls : Array Slot} {w0 : Cond} {E : En} {M MF : Mt} {n k : Nat}
set_option maxHeartbeats 4000000 in
set_option maxRecDepth 100000 in
theorem lp_mis (K : cX E p m c cX1_misplacedCommits 3 s args w0 RX1) (hR : 2 ≤ R.frames ∧ 44 ≤ R.locals) (hf : cells ≤ R.cells ∧ slots ≤ R.slots) (ok : okN M n) (ret : ∀ {H : Heap} {locs : List Loc} {pc : Nat} {ls : Array Slot} {v : Int32}, wst E s.heap M n k H locs → v = nI 0 → decode cX1_misplacedCommits pc = .ok (.ireturn, 1) → W p l e R s m args below meth c H locs cells slots Q (F0 m pc ls [.int v])) : ∀ (d i : Nat) (H : Heap) (locs : List Loc) (ls : Array Slot), i + d = n → wst E s.heap M n k H locs → lv_has ls 3 [(2, .int (nI i)), (1, .int (nI 0)), (0, .ref (ad E 0))] → W p l e R s m args below meth c H locs cells slots Q (F0 m 4 ls []) := by
  have hx := K.1.1
  have hb := K.1.2.1
  intro d
  induction d with
  | zero =>
    intro i H locs ls hi w hl
    have hn := ok.1
    refine lv_iload_n hx hb dX1_misplacedCommits_4 rfl (lv_at hl 0 rfl) ?_
    refine lv_aload_n hx hb dX1_misplacedCommits_5 rfl (lv_at hl 2 rfl) ?_
    refine gf_X1_commits K w dX1_misplacedCommits_6 ?_
    refine lv_icmp_ge (tgt := 29) hx hb dX1_misplacedCommits_9 rfl (fun _ => ?_) (fun h9 => absurd (nI_le (by omega) (by omega)) h9)
    refine lv_iload_n hx hb dX1_misplacedCommits_29 rfl (lv_at hl 1 rfl) ?_
    exact ret w rfl dX1_misplacedCommits_30
  | succ d ih =>
    intro i H locs ls hi w hl
    have hn := ok.1
    refine lv_iload_n hx hb dX1_misplacedCommits_4 rfl (lv_at hl 0 rfl) ?_
    refine lv_aload_n hx hb dX1_misplacedCommits_5 rfl (lv_at hl 2 rfl) ?_
    refine gf_X1_commits K w dX1_misplacedCommits_6 ?_
    refine lv_icmp_ge (tgt := 29) hx hb dX1_misplacedCommits_9 rfl (fun h9 => absurd h9 (nI_ge (by omega) (by omega))) (fun _ => ?_)
    refine lv_aload_n hx hb dX1_misplacedCommits_12 rfl (lv_at hl 2 rfl) ?_
    refine lv_iload_n hx hb dX1_misplacedCommits_13 rfl (lv_at hl 0 rfl) ?_
    refine calli K w (c_X1_hasParentNotBelow K.2.2 (by omega) ok) (lk_X1_179 K ⟨Nat.le_trans (Nat.le_of_ble_eq_true rfl) hR.1, Nat.le_trans (Nat.le_of_ble_eq_true rfl) hR.2⟩) (recv0 K w) rfl hl.1 rfl (Nat.le_of_ble_eq_true rfl) dX1_misplacedCommits_14 hf (fun H locs w => ?_)
    refine lv_if_eq (tgt := 23) hx hb dX1_misplacedCommits_17 rfl (fun _ => ?_) (fun h9 => absurd (rfl : nI 0 = 0) h9)
    refine lv_iinc (k := 0) (v := nI (_ + 1)) (lv' := [(2, .int _), (1, .int _), (0, .ref _)]) hx hb dX1_misplacedCommits_23 hl rfl (inc1 _) (by decide) rfl (fun ls hl => ?_)
    refine lv_goto (tgt := 4) hx hb dX1_misplacedCommits_26 rfl ?_
    exact ih (i + 1) _ _ _ (by omega) w (lv_sub hl [0, 1, 2] rfl)

end XD
set_option maxHeartbeats 4000000 in
set_option maxRecDepth 100000 in
theorem c_X1_misplacedCommits {l : Launch} {E : En} {M : Mt} {n k : Nat} (dn : dN E) (ok : okN M n) : MI l yX1_misplacedCommits (.code yX1_misplacedCommits cX1_misplacedCommits 3 (some .int)) 2 44 E [.ref (ad E 0)] M n k (nI 0)  (M) (n) (k) := by
  refine MI.of dn (own := RX1) (by decide) rfl (Nat.le_of_ble_eq_true rfl) (fun p e s m args below meth c ls Q K w hl ret => ?_)
  have hx := K.1.1
  have hb := K.1.2.1
  have hR : 2 ≤ (rmA 2 44).frames ∧ 44 ≤ (rmA 2 44).locals := ⟨Nat.le_refl _, Nat.le_refl _⟩
  have hf : 0 ≤ (rmA 2 44).cells ∧ 0 ≤ (rmA 2 44).slots := ⟨Nat.le_refl _, Nat.le_refl _⟩
  have hl : lv_has ls 3 [(0, .ref (ad E 0))] := hl
  refine lv_iconst (v := nI 0) hx hb dX1_misplacedCommits_0 (by decide) ?_
  refine lv_istore_n (lv' := [(1, .int _), (0, .ref _)]) hx hb dX1_misplacedCommits_1 rfl hl (by decide) rfl (fun ls hl => ?_)
  refine lv_iconst (v := nI 0) hx hb dX1_misplacedCommits_2 (by decide) ?_
  refine lv_istore_n (lv' := [(2, .int _), (1, .int _), (0, .ref _)]) hx hb dX1_misplacedCommits_3 rfl hl (by decide) rfl (fun ls hl => ?_)
  exact lp_mis K hR hf ok ret n 0 _ _ _ (by omega) w hl
