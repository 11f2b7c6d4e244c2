theorem bsF_le : ∀ {d i : Nat} {u : Mt × Nat}, u.2 ≤ 2000 → (bsF d i u).2 ≤ 2000 := by
  intro d
  induction d with
  | zero => intro i u h; exact h
  | succ d ih =>
    intro i u h
    rw [bsF]
    split
    · exact ih (puK_le h)
    · exact ih h
theorem seF_le {h : Nat} : ∀ {d i : Nat} {u : Mt × Nat}, u.2 ≤ 2000 → (seF h d i u).2 ≤ 2000 := by
  intro d
  induction d with
  | zero => intro i u hu; exact hu
  | succ d ih =>
    intro i u hu
    rw [seF]
    split
    · exact ih (puK_le hu)
    · exact ih hu
/-- the marks of base(a, b, ..) -/
def bmF (M : Mt) (n a b : Nat) : Mt := spF n (va_up (va_up (clF n 0 M) 8 (upd (clF n 0 M 8) a (clF n 0 M 8 a ||| nI 1))) 8 (upd (va_up (clF n 0 M) 8 (upd (clF n 0 M 8) a (clF n 0 M 8 a ||| nI 1)) 8) b (va_up (clF n 0 M) 8 (upd (clF n 0 M 8) a (clF n 0 M 8 a ||| nI 1)) 8 b ||| nI 2)))
def baU (M : Mt) (n a b : Nat) : Mt × Nat := bsF n 0 (bmF M n a b, 0)
def snU (M : Mt) (n h : Nat) : Mt × Nat := seF h n 0 (hlF M n, 0)
section RC
variable {p : Program} {l : Launch} {e : Env} {R : Room} {s : State} {m : MethodId} {args : Array Value} {below : List Frame} {meth : Method} {c : Code} {H : Heap} {locs : List Loc} {cells slots : Nat} {Q : State → Prop} {ls : Array Slot} {w0 : Cond} {E : En} {M MF : Mt} {UF : Mt × Nat} {n k : Nat}
set_option maxHeartbeats 4000000 in
set_option maxRecDepth 100000 in
theorem lp_base (K : cX E p m c cX1_base 5 s args w0 RX1) (hR : 4 ≤ R.frames ∧ 91 ≤ R.locals) (hf : cells ≤ R.cells ∧ slots ≤ R.slots) {x : Int32} (hn : n ≤ 2000) (kk : ∀ (H : Heap) (locs : List Loc) (ls : Array Slot), wst E s.heap UF.1 n UF.2 H locs → lv_has ls 5 [(3, .int x), (0, .ref (ad E 0))] → W p l e R s m args below meth c H locs cells slots Q (F0 m 80 ls [])) : ∀ (d i : Nat) (M : Mt) (k : Nat) (H : Heap) (locs : List Loc) (ls : Array Slot), i + d = n → k ≤ 2000 → bsF d i (M, k) = UF → wst E s.heap M n k H locs → lv_has ls 5 [(4, .int (nI i)), (3, .int x), (0, .ref (ad E 0))] → W p l e R s m args below meth c H locs cells slots Q (F0 m 48 ls []) := by
  have hx := K.1.1
  have hb := K.1.2.1
  intro d
  induction d with
  | zero =>
    intro i M k H locs ls hi hk hm w hl
    refine lv_iload hx hb dX1_base_48 (lv_at hl 0 rfl) ?_
    refine lv_aload_n hx hb dX1_base_50 rfl (lv_at hl 2 rfl) ?_
    refine gf_X1_commits K w dX1_base_51 ?_
    refine lv_icmp_ge (tgt := 80) hx hb dX1_base_54 rfl (fun _ => ?_) (fun h9 => absurd (nI_le (by omega) (by omega)) h9)
    exact kk _ _ _ (by rw [← hm]; exact w) (lv_sub hl [1, 2] rfl)
  | succ d ih =>
    intro i M k H locs ls hi hk hm w hl
    refine lv_iload hx hb dX1_base_48 (lv_at hl 0 rfl) ?_
    refine lv_aload_n hx hb dX1_base_50 rfl (lv_at hl 2 rfl) ?_
    refine gf_X1_commits K w dX1_base_51 ?_
    refine lv_icmp_ge (tgt := 80) hx hb dX1_base_54 rfl (fun h9 => absurd h9 (nI_ge (by omega) (by omega))) (fun _ => ?_)
    by_cases h8 : M 8 i = nI 3
    · rw [bsF, if_pos h8] at hm
      refine lv_aload_n hx hb dX1_base_57 rfl (lv_at hl 2 rfl) ?_
      refine gf_X1_marks K w dX1_base_58 ?_
      refine lv_iload hx hb dX1_base_61 (lv_at hl 0 rfl) ?_
      refine ldN K w row8 (by omega) dX1_base_63 ?_
      refine lv_iconst (v := nI 3) hx hb dX1_base_64 (by decide) ?_
      refine lv_icmp_ne (tgt := 74) hx hb dX1_base_65 rfl (fun h9 => absurd h8 h9) (fun _ => ?_)
      refine lv_aload_n hx hb dX1_base_68 rfl (lv_at hl 2 rfl) ?_
      refine lv_iload hx hb dX1_base_69 (lv_at hl 0 rfl) ?_
      refine callv K w (c_X1_queueInTheOrder K.2.2 (by omega) hk) (lk_X1_96 K ⟨Nat.le_trans (Nat.le_of_ble_eq_true rfl) hR.1, Nat.le_trans (Nat.le_of_ble_eq_true rfl) hR.2⟩) (recv0 K w) rfl hl.1 rfl (Nat.le_of_ble_eq_true rfl) dX1_base_71 hf (fun H locs w => ?_)
      refine lv_iinc (k := 0) (v := nI (_ + 1)) (lv' := [(4, .int _), (3, .int _), (0, .ref _)]) hx hb dX1_base_74 hl rfl (inc1 _) (by decide) rfl (fun ls hl => ?_)
      refine lv_goto (tgt := 48) hx hb dX1_base_77 rfl ?_
      exact ih (i + 1) _ _ _ _ _ (by omega) (puK_le hk) hm w (lv_sub hl [0, 1, 2] rfl)
    · rw [bsF, if_neg h8] at hm
      refine lv_aload_n hx hb dX1_base_57 rfl (lv_at hl 2 rfl) ?_
      refine gf_X1_marks K w dX1_base_58 ?_
      refine lv_iload hx hb dX1_base_61 (lv_at hl 0 rfl) ?_
      refine ldN K w row8 (by omega) dX1_base_63 ?_
      refine lv_iconst (v := nI 3) hx hb dX1_base_64 (by decide) ?_
      refine lv_icmp_ne (tgt := 74) hx hb dX1_base_65 rfl (fun _ => ?_) (fun h9 => absurd h9 h8)
      refine lv_iinc (k := 0) (v := nI (_ + 1)) (lv' := [(4, .int _), (3, .int _), (0, .ref _)]) hx hb dX1_base_74 hl rfl (inc1 _) (by decide) rfl (fun ls hl => ?_)
      refine lv_goto (tgt := 48) hx hb dX1_base_77 rfl ?_
      exact ih (i + 1) _ _ _ _ _ (by omega) hk hm w (lv_sub hl [0, 1, 2] rfl)

set_option maxHeartbeats 4000000 in
set_option maxRecDepth 100000 in
theorem lp_sent (K : cX E p m c cX1_sent 4 s args w0 RX1) (hR : 3 ≤ R.frames ∧ 70 ≤ R.locals) (hf : cells ≤ R.cells ∧ slots ≤ R.slots) {x : Int32} {h : Nat} (hh : h < 2147483648) (hn : n ≤ 2000) (kk : ∀ (H : Heap) (locs : List Loc) (ls : Array Slot), wst E s.heap UF.1 n UF.2 H locs → lv_has ls 4 [(2, .int x), (0, .ref (ad E 0))] → W p l e R s m args below meth c H locs cells slots Q (F0 m 64 ls [])) : ∀ (d i : Nat) (M : Mt) (k : Nat) (H : Heap) (locs : List Loc) (ls : Array Slot), i + d = n → k ≤ 2000 → seF h d i (M, k) = UF → wst E s.heap M n k H locs → lv_has ls 4 [(3, .int (nI i)), (2, .int x), (1, .int (nI h)), (0, .ref (ad E 0))] → W p l e R s m args below meth c H locs cells slots Q (F0 m 17 ls []) := by
  have hx := K.1.1
  have hb := K.1.2.1
  intro d
  induction d with
  | zero =>
    intro i M k H locs ls hi hk hm w hl
    refine lv_iload_n hx hb dX1_sent_17 rfl (lv_at hl 0 rfl) ?_
    refine lv_aload_n hx hb dX1_sent_18 rfl (lv_at hl 3 rfl) ?_
    refine gf_X1_commits K w dX1_sent_19 ?_
    refine lv_icmp_ge (tgt := 64) hx hb dX1_sent_22 rfl (fun _ => ?_) (fun h9 => absurd (nI_le (by omega) (by omega)) h9)
    exact kk _ _ _ (by rw [← hm]; exact w) (lv_sub hl [1, 3] rfl)
  | succ d ih =>
    intro i M k H locs ls hi hk hm w hl
    refine lv_iload_n hx hb dX1_sent_17 rfl (lv_at hl 0 rfl) ?_
    refine lv_aload_n hx hb dX1_sent_18 rfl (lv_at hl 3 rfl) ?_
    refine gf_X1_commits K w dX1_sent_19 ?_
    refine lv_icmp_ge (tgt := 64) hx hb dX1_sent_22 rfl (fun h9 => absurd h9 (nI_ge (by omega) (by omega))) (fun _ => ?_)
    by_cases h8 : M 8 i = sdF h
    · rw [seF, if_pos h8] at hm
      refine lv_aload_n hx hb dX1_sent_25 rfl (lv_at hl 3 rfl) ?_
      refine gf_X1_marks K w dX1_sent_26 ?_
      refine lv_iload_n hx hb dX1_sent_29 rfl (lv_at hl 0 rfl) ?_
      refine ldN K w row8 (by omega) dX1_sent_30 ?_
      refine lv_iload_n hx hb dX1_sent_31 rfl (lv_at hl 2 rfl) ?_
      refine callsi K w (c_X1_sideOf K.2.2 hh) (lk_X1_80 K ⟨Nat.le_trans (Nat.le_of_ble_eq_true rfl) hR.1, Nat.le_trans (Nat.le_of_ble_eq_true rfl) hR.2⟩) rfl hl.1 rfl (Nat.le_of_ble_eq_true rfl) dX1_sent_32 hf (fun H locs w => ?_)
      refine lv_icmp_ne (tgt := 58) hx hb dX1_sent_35 rfl (fun h9 => absurd h8 h9) (fun _ => ?_)
      refine lv_aload_n hx hb dX1_sent_38 rfl (lv_at hl 3 rfl) ?_
      refine gf_X1_queue K w dX1_sent_39 ?_
      refine lv_aload_n hx hb dX1_sent_42 rfl (lv_at hl 3 rfl) ?_
      refine gf_X1_generations K w dX1_sent_43 ?_
      refine lv_iload_n hx hb dX1_sent_46 rfl (lv_at hl 0 rfl) ?_
      refine ldN K w row3 (by omega) dX1_sent_47 ?_
      refine lv_aload_n hx hb dX1_sent_48 rfl (lv_at hl 3 rfl) ?_
      refine gf_X1_keys K w dX1_sent_49 ?_
      refine lv_iload_n hx hb dX1_sent_52 rfl (lv_at hl 0 rfl) ?_
      refine ldN K w row2 (by omega) dX1_sent_53 ?_
      refine lv_iload_n hx hb dX1_sent_54 rfl (lv_at hl 0 rfl) ?_
      refine callv K w (c_X0_put K.2.2 (by omega)) (lk_X1_126 K ⟨Nat.le_trans (Nat.le_of_ble_eq_true rfl) hR.1, Nat.le_trans (Nat.le_of_ble_eq_true rfl) hR.2⟩) (recv10 K w) rfl hl.1 rfl (Nat.le_of_ble_eq_true rfl) dX1_sent_55 hf (fun H locs w => ?_)
      refine lv_iinc (k := 0) (v := nI (_ + 1)) (lv' := [(3, .int _), (2, .int _), (1, .int _), (0, .ref _)]) hx hb dX1_sent_58 hl rfl (inc1 _) (by decide) rfl (fun ls hl => ?_)
      refine lv_goto (tgt := 17) hx hb dX1_sent_61 rfl ?_
      exact ih (i + 1) _ _ _ _ _ (by omega) (puK_le hk) hm w (lv_sub hl [0, 1, 2, 3] rfl)
    · rw [seF, if_neg h8] at hm
      refine lv_aload_n hx hb dX1_sent_25 rfl (lv_at hl 3 rfl) ?_
      refine gf_X1_marks K w dX1_sent_26 ?_
      refine lv_iload_n hx hb dX1_sent_29 rfl (lv_at hl 0 rfl) ?_
      refine ldN K w row8 (by omega) dX1_sent_30 ?_
      refine lv_iload_n hx hb dX1_sent_31 rfl (lv_at hl 2 rfl) ?_
      refine callsi K w (c_X1_sideOf K.2.2 hh) (lk_X1_80 K ⟨Nat.le_trans (Nat.le_of_ble_eq_true rfl) hR.1, Nat.le_trans (Nat.le_of_ble_eq_true rfl) hR.2⟩) rfl hl.1 rfl (Nat.le_of_ble_eq_true rfl) dX1_sent_32 hf (fun H locs w => ?_)
      refine lv_icmp_ne (tgt := 58) hx hb dX1_sent_35 rfl (fun _ => ?_) (fun h9 => absurd h9 h8)
      refine lv_iinc (k := 0) (v := nI (_ + 1)) (lv' := [(3, .int _), (2, .int _), (1, .int _), (0, .ref _)]) hx hb dX1_sent_58 hl rfl (inc1 _) (by decide) rfl (fun ls hl => ?_)
      refine lv_goto (tgt := 17) hx hb dX1_sent_61 rfl ?_
      exact ih (i + 1) _ _ _ _ _ (by omega) hk hm w (lv_sub hl [0, 1, 2, 3] rfl)

end RC
set_option maxHeartbeats 4000000 in
set_option maxRecDepth 100000 in
theorem c_X1_base_a {l : Launch} {E : En} {M : Mt} {n k : Nat} (dn : dN E) {a b : Nat} (ha : a < n) (hb0 : b < n) (ok : okN M n) : MI l yX1_base (.code yX1_base cX1_base 5 (some .int)) 4 91 E [.ref (ad E 0), .int (nI a), .int (nI b), .int (-1)] M n k (nI (baU M n a b).2)  ((baU M n a b).1) (n) ((baU M n a b).2) := by
  refine MI.of dn (own := RX1) (by decide) rfl (Nat.le_of_ble_eq_true rfl) (fun p e s m args below meth c ls Q K w hl ret => ?_)
  have hx := K.1.1
  have hb := K.1.2.1
  have hR : 4 ≤ (rmA 4 91).frames ∧ 91 ≤ (rmA 4 91).locals := ⟨Nat.le_refl _, Nat.le_refl _⟩
  have hf : 0 ≤ (rmA 4 91).cells ∧ 0 ≤ (rmA 4 91).slots := ⟨Nat.le_refl _, Nat.le_refl _⟩
  have hl : lv_has ls 5 [(0, .ref (ad E 0)), (1, .int (nI a)), (2, .int (nI b)), (3, .int (-1))] := hl
  have hn := ok.1
  refine lv_aload_n hx hb dX1_base_0 rfl (lv_at hl 0 rfl) ?_
  refine lv_iload_n hx hb dX1_base_1 rfl (lv_at hl 1 rfl) ?_
  refine callv K w (c_X1_checkCommit dn ha ok.1) (lk_X1_64 K ⟨Nat.le_trans (Nat.le_of_ble_eq_true rfl) hR.1, Nat.le_trans (Nat.le_of_ble_eq_true rfl) hR.2⟩) (recv0 K w) rfl hl.1 rfl (Nat.le_of_ble_eq_true rfl) dX1_base_2 hf (fun H locs w => ?_)
  refine lv_aload_n hx hb dX1_base_5 rfl (lv_at hl 0 rfl) ?_
  refine lv_iload_n hx hb dX1_base_6 rfl (lv_at hl 2 rfl) ?_
  refine callv K w (c_X1_checkCommit dn hb0 ok.1) (lk_X1_64 K ⟨Nat.le_trans (Nat.le_of_ble_eq_true rfl) hR.1, Nat.le_trans (Nat.le_of_ble_eq_true rfl) hR.2⟩) (recv0 K w) rfl hl.1 rfl (Nat.le_of_ble_eq_true rfl) dX1_base_7 hf (fun H locs w => ?_)
  refine lv_aload_n hx hb dX1_base_10 rfl (lv_at hl 0 rfl) ?_
  refine callv K w (c_X1_clearMarks dn ok.1) (lk_X1_87 K ⟨Nat.le_trans (Nat.le_of_ble_eq_true rfl) hR.1, Nat.le_trans (Nat.le_of_ble_eq_true rfl) hR.2⟩) (recv0 K w) rfl hl.1 rfl (Nat.le_of_ble_eq_true rfl) dX1_base_11 hf (fun H locs w => ?_)
  refine lv_aload_n hx hb dX1_base_14 rfl (lv_at hl 0 rfl) ?_
  refine gf_X1_marks K w dX1_base_15 ?_
  refine lv_iload_n hx hb dX1_base_18 rfl (lv_at hl 1 rfl) ?_
  refine lv_dup2_11 hx hb dX1_base_19 rfl rfl ?_
  refine ldN K w row8 (by omega) dX1_base_20 ?_
  refine lv_iconst (v := nI 1) hx hb dX1_base_21 (by decide) ?_
  refine lv_ior hx hb dX1_base_22 ?_
  refine stN K w row8 (by omega) dX1_base_23 (fun H locs w => ?_)
  refine lv_aload_n hx hb dX1_base_24 rfl (lv_at hl 0 rfl) ?_
  refine gf_X1_marks K w dX1_base_25 ?_
  refine lv_iload_n hx hb dX1_base_28 rfl (lv_at hl 2 rfl) ?_
  refine lv_dup2_11 hx hb dX1_base_29 rfl rfl ?_
  refine ldN K w row8 (by omega) dX1_base_30 ?_
  refine lv_iconst (v := nI 2) hx hb dX1_base_31 (by decide) ?_
  refine lv_ior hx hb dX1_base_32 ?_
  refine stN K w row8 (by omega) dX1_base_33 (fun H locs w => ?_)
  refine lv_aload_n hx hb dX1_base_34 rfl (lv_at hl 0 rfl) ?_
  refine callv K w (c_X1_spreadMarks dn (ok.rows (clF_row (by decide)) (clF_row (by decide)))) (lk_X1_90 K ⟨Nat.le_trans (Nat.le_of_ble_eq_true rfl) hR.1, Nat.le_trans (Nat.le_of_ble_eq_true rfl) hR.2⟩) (recv0 K w) rfl hl.1 rfl (Nat.le_of_ble_eq_true rfl) dX1_base_35 hf (fun H locs w => ?_)
  refine lv_aload_n hx hb dX1_base_38 rfl (lv_at hl 0 rfl) ?_
  refine gf_X1_queue K w dX1_base_39 ?_
  refine callv K w (c_X0_clear dn) (lk_X1_93 K ⟨Nat.le_trans (Nat.le_of_ble_eq_true rfl) hR.1, Nat.le_trans (Nat.le_of_ble_eq_true rfl) hR.2⟩) (recv10 K w) rfl hl.1 rfl (Nat.le_of_ble_eq_true rfl) dX1_base_42 hf (fun H locs w => ?_)
  refine lv_iconst (v := nI 0) hx hb dX1_base_45 (by decide) ?_
  refine lv_istore (lv' := [(4, .int _), (0, .ref _), (1, .int _), (2, .int _), (3, .int _)]) hx hb dX1_base_46 hl (by decide) rfl (fun ls hl => ?_)
  refine lp_base K ⟨Nat.le_trans (Nat.le_of_ble_eq_true rfl) hR.1, Nat.le_trans (Nat.le_of_ble_eq_true rfl) hR.2⟩ hf ok.1 (fun H locs ls w hl => ?_) n 0 (bmF M n a b) 0 _ _ _ (by omega) (by decide) rfl w (lv_sub hl [0, 4, 1] rfl)
  refine lv_aload_n hx hb dX1_base_80 rfl (lv_at hl 1 rfl) ?_
  refine lv_iload_n hx hb dX1_base_81 rfl (lv_at hl 0 rfl) ?_
  refine calli K w (c_X1_queuedAt_a dn) (lk_X1_99 K ⟨Nat.le_trans (Nat.le_of_ble_eq_true rfl) hR.1, Nat.le_trans (Nat.le_of_ble_eq_true rfl) hR.2⟩) (recv0 K w) rfl hl.1 rfl (Nat.le_of_ble_eq_true rfl) dX1_base_82 hf (fun H locs w => ?_)
  exact ret w rfl dX1_base_85

set_option maxHeartbeats 4000000 in
set_option maxRecDepth 100000 in
theorem c_X1_base_b {l : Launch} {E : En} {M : Mt} {n k : Nat} (dn : dN E) {a b j : Nat} (ha : a < n) (hb0 : b < n) (ok : okN M n) (hj : j < (baU M n a b).2) : MI l yX1_base (.code yX1_base cX1_base 5 (some .int)) 4 91 E [.ref (ad E 0), .int (nI a), .int (nI b), .int (nI j)] M n k (tkR (qaF j (baU M n a b)).1 (qaF j (baU M n a b)).2)  (tkF (qaF j (baU M n a b)).1 (qaF j (baU M n a b)).2) (n) ((qaF j (baU M n a b)).2 - 1) := by
  refine MI.of dn (own := RX1) (by decide) rfl (Nat.le_of_ble_eq_true rfl) (fun p e s m args below meth c ls Q K w hl ret => ?_)
  have hx := K.1.1
  have hb := K.1.2.1
  have hR : 4 ≤ (rmA 4 91).frames ∧ 91 ≤ (rmA 4 91).locals := ⟨Nat.le_refl _, Nat.le_refl _⟩
  have hf : 0 ≤ (rmA 4 91).cells ∧ 0 ≤ (rmA 4 91).slots := ⟨Nat.le_refl _, Nat.le_refl _⟩
  have hl : lv_has ls 5 [(0, .ref (ad E 0)), (1, .int (nI a)), (2, .int (nI b)), (3, .int (nI j))] := hl
  have hn := ok.1
  refine lv_aload_n hx hb dX1_base_0 rfl (lv_at hl 0 rfl) ?_
  refine lv_iload_n hx hb dX1_base_1 rfl (lv_at hl 1 rfl) ?_
  refine callv K w (c_X1_checkCommit dn ha ok.1) (lk_X1_64 K ⟨Nat.le_trans (Nat.le_of_ble_eq_true rfl) hR.1, Nat.le_trans (Nat.le_of_ble_eq_true rfl) hR.2⟩) (recv0 K w) rfl hl.1 rfl (Nat.le_of_ble_eq_true rfl) dX1_base_2 hf (fun H locs w => ?_)
  refine lv_aload_n hx hb dX1_base_5 rfl (lv_at hl 0 rfl) ?_
  refine lv_iload_n hx hb dX1_base_6 rfl (lv_at hl 2 rfl) ?_
  refine callv K w (c_X1_checkCommit dn hb0 ok.1) (lk_X1_64 K ⟨Nat.le_trans (Nat.le_of_ble_eq_true rfl) hR.1, Nat.le_trans (Nat.le_of_ble_eq_true rfl) hR.2⟩) (recv0 K w) rfl hl.1 rfl (Nat.le_of_ble_eq_true rfl) dX1_base_7 hf (fun H locs w => ?_)
  refine lv_aload_n hx hb dX1_base_10 rfl (lv_at hl 0 rfl) ?_
  refine callv K w (c_X1_clearMarks dn ok.1) (lk_X1_87 K ⟨Nat.le_trans (Nat.le_of_ble_eq_true rfl) hR.1, Nat.le_trans (Nat.le_of_ble_eq_true rfl) hR.2⟩) (recv0 K w) rfl hl.1 rfl (Nat.le_of_ble_eq_true rfl) dX1_base_11 hf (fun H locs w => ?_)
  refine lv_aload_n hx hb dX1_base_14 rfl (lv_at hl 0 rfl) ?_
  refine gf_X1_marks K w dX1_base_15 ?_
  refine lv_iload_n hx hb dX1_base_18 rfl (lv_at hl 1 rfl) ?_
  refine lv_dup2_11 hx hb dX1_base_19 rfl rfl ?_
  refine ldN K w row8 (by omega) dX1_base_20 ?_
  refine lv_iconst (v := nI 1) hx hb dX1_base_21 (by decide) ?_
  refine lv_ior hx hb dX1_base_22 ?_
  refine stN K w row8 (by omega) dX1_base_23 (fun H locs w => ?_)
  refine lv_aload_n hx hb dX1_base_24 rfl (lv_at hl 0 rfl) ?_
  refine gf_X1_marks K w dX1_base_25 ?_
  refine lv_iload_n hx hb dX1_base_28 rfl (lv_at hl 2 rfl) ?_
  refine lv_dup2_11 hx hb dX1_base_29 rfl rfl ?_
  refine ldN K w row8 (by omega) dX1_base_30 ?_
  refine lv_iconst (v := nI 2) hx hb dX1_base_31 (by decide) ?_
  refine lv_ior hx hb dX1_base_32 ?_
  refine stN K w row8 (by omega) dX1_base_33 (fun H locs w => ?_)
  refine lv_aload_n hx hb dX1_base_34 rfl (lv_at hl 0 rfl) ?_
  refine callv K w (c_X1_spreadMarks dn (ok.rows (clF_row (by decide)) (clF_row (by decide)))) (lk_X1_90 K ⟨Nat.le_trans (Nat.le_of_ble_eq_true rfl) hR.1, Nat.le_trans (Nat.le_of_ble_eq_true rfl) hR.2⟩) (recv0 K w) rfl hl.1 rfl (Nat.le_of_ble_eq_true rfl) dX1_base_35 hf (fun H locs w => ?_)
  refine lv_aload_n hx hb dX1_base_38 rfl (lv_at hl 0 rfl) ?_
  refine gf_X1_queue K w dX1_base_39 ?_
  refine callv K w (c_X0_clear dn) (lk_X1_93 K ⟨Nat.le_trans (Nat.le_of_ble_eq_true rfl) hR.1, Nat.le_trans (Nat.le_of_ble_eq_true rfl) hR.2⟩) (recv10 K w) rfl hl.1 rfl (Nat.le_of_ble_eq_true rfl) dX1_base_42 hf (fun H locs w => ?_)
  refine lv_iconst (v := nI 0) hx hb dX1_base_45 (by decide) ?_
  refine lv_istore (lv' := [(4, .int _), (0, .ref _), (1, .int _), (2, .int _), (3, .int _)]) hx hb dX1_base_46 hl (by decide) rfl (fun ls hl => ?_)
  refine lp_base K ⟨Nat.le_trans (Nat.le_of_ble_eq_true rfl) hR.1, Nat.le_trans (Nat.le_of_ble_eq_true rfl) hR.2⟩ hf ok.1 (fun H locs ls w hl => ?_) n 0 (bmF M n a b) 0 _ _ _ (by omega) (by decide) rfl w (lv_sub hl [0, 4, 1] rfl)
  refine lv_aload_n hx hb dX1_base_80 rfl (lv_at hl 1 rfl) ?_
  refine lv_iload_n hx hb dX1_base_81 rfl (lv_at hl 0 rfl) ?_
  refine calli K w (c_X1_queuedAt_b dn hj (bsF_le (Nat.zero_le _))) (lk_X1_99 K ⟨Nat.le_trans (Nat.le_of_ble_eq_true rfl) hR.1, Nat.le_trans (Nat.le_of_ble_eq_true rfl) hR.2⟩) (recv0 K w) rfl hl.1 rfl (Nat.le_of_ble_eq_true rfl) dX1_base_82 hf (fun H locs w => ?_)
  exact ret w rfl dX1_base_85

set_option maxHeartbeats 4000000 in
set_option maxRecDepth 100000 in
theorem c_X1_sent_a {l : Launch} {E : En} {M : Mt} {n k : Nat} (dn : dN E) {h : Nat} (hh : h < 2) (ok : okN M n) : MI l yX1_sent (.code yX1_sent cX1_sent 4 (some .int)) 4 90 E [.ref (ad E 0), .int (nI h), .int (-1)] M n k (nI (snU M n h).2)  ((snU M n h).1) (n) ((snU M n h).2) := by
  refine MI.of dn (own := RX1) (by decide) rfl (Nat.le_of_ble_eq_true rfl) (fun p e s m args below meth c ls Q K w hl ret => ?_)
  have hx := K.1.1
  have hb := K.1.2.1
  have hR : 4 ≤ (rmA 4 90).frames ∧ 90 ≤ (rmA 4 90).locals := ⟨Nat.le_refl _, Nat.le_refl _⟩
  have hf : 0 ≤ (rmA 4 90).cells ∧ 0 ≤ (rmA 4 90).slots := ⟨Nat.le_refl _, Nat.le_refl _⟩
  have hl : lv_has ls 4 [(0, .ref (ad E 0)), (1, .int (nI h)), (2, .int (-1))] := hl
  have hn := ok.1
  refine lv_iload_n hx hb dX1_sent_0 rfl (lv_at hl 1 rfl) ?_
  refine callsv K w (c_X1_checkHolder dn hh) (lk_X1_77 K ⟨Nat.le_trans (Nat.le_of_ble_eq_true rfl) hR.1, Nat.le_trans (Nat.le_of_ble_eq_true rfl) hR.2⟩) rfl hl.1 rfl (Nat.le_of_ble_eq_true rfl) dX1_sent_1 hf (fun H locs w => ?_)
  refine lv_aload_n hx hb dX1_sent_4 rfl (lv_at hl 0 rfl) ?_
  refine callv K w (c_X1_markHeld dn ok) (lk_X1_123 K ⟨Nat.le_trans (Nat.le_of_ble_eq_true rfl) hR.1, Nat.le_trans (Nat.le_of_ble_eq_true rfl) hR.2⟩) (recv0 K w) rfl hl.1 rfl (Nat.le_of_ble_eq_true rfl) dX1_sent_5 hf (fun H locs w => ?_)
  refine lv_aload_n hx hb dX1_sent_8 rfl (lv_at hl 0 rfl) ?_
  refine gf_X1_queue K w dX1_sent_9 ?_
  refine callv K w (c_X0_clear dn) (lk_X1_93 K ⟨Nat.le_trans (Nat.le_of_ble_eq_true rfl) hR.1, Nat.le_trans (Nat.le_of_ble_eq_true rfl) hR.2⟩) (recv10 K w) rfl hl.1 rfl (Nat.le_of_ble_eq_true rfl) dX1_sent_12 hf (fun H locs w => ?_)
  refine lv_iconst (v := nI 0) hx hb dX1_sent_15 (by decide) ?_
  refine lv_istore_n (lv' := [(3, .int _), (0, .ref _), (1, .int _), (2, .int _)]) hx hb dX1_sent_16 rfl hl (by decide) rfl (fun ls hl => ?_)
  refine lp_sent K ⟨Nat.le_trans (Nat.le_of_ble_eq_true rfl) hR.1, Nat.le_trans (Nat.le_of_ble_eq_true rfl) hR.2⟩ hf (by omega) ok.1 (fun H locs ls w hl => ?_) n 0 (hlF M n) 0 _ _ _ (by omega) (by decide) rfl w (lv_sub hl [0, 3, 2, 1] rfl)
  refine lv_aload_n hx hb dX1_sent_64 rfl (lv_at hl 1 rfl) ?_
  refine lv_iload_n hx hb dX1_sent_65 rfl (lv_at hl 0 rfl) ?_
  refine calli K w (c_X1_queuedAt_a dn) (lk_X1_99 K ⟨Nat.le_trans (Nat.le_of_ble_eq_true rfl) hR.1, Nat.le_trans (Nat.le_of_ble_eq_true rfl) hR.2⟩) (recv0 K w) rfl hl.1 rfl (Nat.le_of_ble_eq_true rfl) dX1_sent_66 hf (fun H locs w => ?_)
  exact ret w rfl dX1_sent_69

set_option maxHeartbeats 4000000 in
set_option maxRecDepth 100000 in
theorem c_X1_sent_b {l : Launch} {E : En} {M : Mt} {n k : Nat} (dn : dN E) {h j : Nat} (hh : h < 2) (ok : okN M n) (hj : j < (snU M n h).2) : MI l yX1_sent (.code yX1_sent cX1_sent 4 (some .int)) 4 90 E [.ref (ad E 0), .int (nI h), .int (nI j)] M n k (tkR (qaF j (snU M n h)).1 (qaF j (snU M n h)).2)  (tkF (qaF j (snU M n h)).1 (qaF j (snU M n h)).2) (n) ((qaF j (snU M n h)).2 - 1) := by
  refine MI.of dn (own := RX1) (by decide) rfl (Nat.le_of_ble_eq_true rfl) (fun p e s m args below meth c ls Q K w hl ret => ?_)
  have hx := K.1.1
  have hb := K.1.2.1
  have hR : 4 ≤ (rmA 4 90).frames ∧ 90 ≤ (rmA 4 90).locals := ⟨Nat.le_refl _, Nat.le_refl _⟩
  have hf : 0 ≤ (rmA 4 90).cells ∧ 0 ≤ (rmA 4 90).slots := ⟨Nat.le_refl _, Nat.le_refl _⟩
  have hl : lv_has ls 4 [(0, .ref (ad E 0)), (1, .int (nI h)), (2, .int (nI j))] := hl
  have hn := ok.1
  refine lv_iload_n hx hb dX1_sent_0 rfl (lv_at hl 1 rfl) ?_
  refine callsv K w (c_X1_checkHolder dn hh) (lk_X1_77 K ⟨Nat.le_trans (Nat.le_of_ble_eq_true rfl) hR.1, Nat.le_trans (Nat.le_of_ble_eq_true rfl) hR.2⟩) rfl hl.1 rfl (Nat.le_of_ble_eq_true rfl) dX1_sent_1 hf (fun H locs w => ?_)
  refine lv_aload_n hx hb dX1_sent_4 rfl (lv_at hl 0 rfl) ?_
  refine callv K w (c_X1_markHeld dn ok) (lk_X1_123 K ⟨Nat.le_trans (Nat.le_of_ble_eq_true rfl) hR.1, Nat.le_trans (Nat.le_of_ble_eq_true rfl) hR.2⟩) (recv0 K w) rfl hl.1 rfl (Nat.le_of_ble_eq_true rfl) dX1_sent_5 hf (fun H locs w => ?_)
  refine lv_aload_n hx hb dX1_sent_8 rfl (lv_at hl 0 rfl) ?_
  refine gf_X1_queue K w dX1_sent_9 ?_
  refine callv K w (c_X0_clear dn) (lk_X1_93 K ⟨Nat.le_trans (Nat.le_of_ble_eq_true rfl) hR.1, Nat.le_trans (Nat.le_of_ble_eq_true rfl) hR.2⟩) (recv10 K w) rfl hl.1 rfl (Nat.le_of_ble_eq_true rfl) dX1_sent_12 hf (fun H locs w => ?_)
  refine lv_iconst (v := nI 0) hx hb dX1_sent_15 (by decide) ?_
  refine lv_istore_n (lv' := [(3, .int _), (0, .ref _), (1, .int _), (2, .int _)]) hx hb dX1_sent_16 rfl hl (by decide) rfl (fun ls hl => ?_)
  refine lp_sent K ⟨Nat.le_trans (Nat.le_of_ble_eq_true rfl) hR.1, Nat.le_trans (Nat.le_of_ble_eq_true rfl) hR.2⟩ hf (by omega) ok.1 (fun H locs ls w hl => ?_) n 0 (hlF M n) 0 _ _ _ (by omega) (by decide) rfl w (lv_sub hl [0, 3, 2, 1] rfl)
  refine lv_aload_n hx hb dX1_sent_64 rfl (lv_at hl 1 rfl) ?_
  refine lv_iload_n hx hb dX1_sent_65 rfl (lv_at hl 0 rfl) ?_
  refine calli K w (c_X1_queuedAt_b dn hj (seF_le (Nat.zero_le _))) (lk_X1_99 K ⟨Nat.le_trans (Nat.le_of_ble_eq_true rfl) hR.1, Nat.le_trans (Nat.le_of_ble_eq_true rfl) hR.2⟩) (recv0 K w) rfl hl.1 rfl (Nat.le_of_ble_eq_true rfl) dX1_sent_66 hf (fun H locs w => ?_)
  exact ret w rfl dX1_sent_69

set_option maxHeartbeats 4000000 in
set_option maxRecDepth 100000 in
theorem c_X1_log_a {l : Launch} {E : En} {M : Mt} {n k : Nat} (dn : dN E) {q : Nat} (hq : q < n) (ok : okN M n) : MI l yX1_log (.code yX1_log cX1_log 4 (some .int)) 6 137 E [.ref (ad E 0), .int (nI q), .int (-1)] M n k (nI (cnF (fun j => decide (¬ mrF M n q 8 j = 0)) n 0 0))  (mrF M n q) (n) (k) := by
  refine MI.of dn (own := RX1) (by decide) rfl (Nat.le_of_ble_eq_true rfl) (fun p e s m args below meth c ls Q K w hl ret => ?_)
  have hx := K.1.1
  have hb := K.1.2.1
  have hR : 6 ≤ (rmA 6 137).frames ∧ 137 ≤ (rmA 6 137).locals := ⟨Nat.le_refl _, Nat.le_refl _⟩
  have hf : 0 ≤ (rmA 6 137).cells ∧ 0 ≤ (rmA 6 137).slots := ⟨Nat.le_refl _, Nat.le_refl _⟩
  have hl : lv_has ls 4 [(0, .ref (ad E 0)), (1, .int (nI q)), (2, .int (-1))] := hl
  refine lv_aload_n hx hb dX1_log_0 rfl (lv_at hl 0 rfl) ?_
  refine lv_iload_n hx hb dX1_log_1 rfl (lv_at hl 1 rfl) ?_
  refine callv K w (c_X1_checkCommit dn hq ok.1) (lk_X1_64 K ⟨Nat.le_trans (Nat.le_of_ble_eq_true rfl) hR.1, Nat.le_trans (Nat.le_of_ble_eq_true rfl) hR.2⟩) (recv0 K w) rfl hl.1 rfl (Nat.le_of_ble_eq_true rfl) dX1_log_2 hf (fun H locs w => ?_)
  refine lv_aload_n hx hb dX1_log_5 rfl (lv_at hl 0 rfl) ?_
  refine lv_iload_n hx hb dX1_log_6 rfl (lv_at hl 1 rfl) ?_
  refine callv K w (c_X1_markReachable dn hq ok) (lk_X1_84 K ⟨Nat.le_trans (Nat.le_of_ble_eq_true rfl) hR.1, Nat.le_trans (Nat.le_of_ble_eq_true rfl) hR.2⟩) (recv0 K w) rfl hl.1 rfl (Nat.le_of_ble_eq_true rfl) dX1_log_7 hf (fun H locs w => ?_)
  refine lv_aload_n hx hb dX1_log_10 rfl (lv_at hl 0 rfl) ?_
  refine calli K w (c_X1_markedCommits dn ok.1) (lk_X1_102 K ⟨Nat.le_trans (Nat.le_of_ble_eq_true rfl) hR.1, Nat.le_trans (Nat.le_of_ble_eq_true rfl) hR.2⟩) (recv0 K w) rfl hl.1 rfl (Nat.le_of_ble_eq_true rfl) dX1_log_11 hf (fun H locs w => ?_)
  refine lv_istore_n (lv' := [(3, .int _), (0, .ref _), (1, .int _), (2, .int _)]) hx hb dX1_log_14 rfl hl (by decide) rfl (fun ls hl => ?_)
  refine lv_iload_n hx hb dX1_log_15 rfl (lv_at hl 3 rfl) ?_
  refine lv_iconst (v := -1) hx hb dX1_log_16 (by decide) ?_
  refine lv_icmp_ne (tgt := 22) hx hb dX1_log_17 rfl (fun h9 => absurd (rfl : (-1 : Int32) = -1) h9) (fun _ => ?_)
  refine lv_iload_n hx hb dX1_log_20 rfl (lv_at hl 0 rfl) ?_
  exact ret w rfl dX1_log_21

set_option maxHeartbeats 4000000 in
set_option maxRecDepth 100000 in
theorem c_X1_log_b {l : Launch} {E : En} {M : Mt} {n k : Nat} (dn : dN E) {q j : Nat} (hq : q < n) (ok : okN M n) (hj : j < cnF (fun i => decide (¬ mrF M n q 8 i = 0)) n 0 0) (hj2 : cnF (fun i => decide (¬ mrF M n q 8 i = 0)) n 0 0 < 2147483648) : MI l yX1_log (.code yX1_log cX1_log 4 (some .int)) 6 137 E [.ref (ad E 0), .int (nI q), .int (nI j)] M n k (tkR (taF j (tl0 (mrF M n q) n q)).1 (taF j (tl0 (mrF M n q) n q)).2)  (tkF (taF j (tl0 (mrF M n q) n q)).1 (taF j (tl0 (mrF M n q) n q)).2) (n) ((taF j (tl0 (mrF M n q) n q)).2 - 1) := by
  refine MI.of dn (own := RX1) (by decide) rfl (Nat.le_of_ble_eq_true rfl) (fun p e s m args below meth c ls Q K w hl ret => ?_)
  have hx := K.1.1
  have hb := K.1.2.1
  have hR : 6 ≤ (rmA 6 137).frames ∧ 137 ≤ (rmA 6 137).locals := ⟨Nat.le_refl _, Nat.le_refl _⟩
  have hf : 0 ≤ (rmA 6 137).cells ∧ 0 ≤ (rmA 6 137).slots := ⟨Nat.le_refl _, Nat.le_refl _⟩
  have hl : lv_has ls 4 [(0, .ref (ad E 0)), (1, .int (nI q)), (2, .int (nI j))] := hl
  refine lv_aload_n hx hb dX1_log_0 rfl (lv_at hl 0 rfl) ?_
  refine lv_iload_n hx hb dX1_log_1 rfl (lv_at hl 1 rfl) ?_
  refine callv K w (c_X1_checkCommit dn hq ok.1) (lk_X1_64 K ⟨Nat.le_trans (Nat.le_of_ble_eq_true rfl) hR.1, Nat.le_trans (Nat.le_of_ble_eq_true rfl) hR.2⟩) (recv0 K w) rfl hl.1 rfl (Nat.le_of_ble_eq_true rfl) dX1_log_2 hf (fun H locs w => ?_)
  refine lv_aload_n hx hb dX1_log_5 rfl (lv_at hl 0 rfl) ?_
  refine lv_iload_n hx hb dX1_log_6 rfl (lv_at hl 1 rfl) ?_
  refine callv K w (c_X1_markReachable dn hq ok) (lk_X1_84 K ⟨Nat.le_trans (Nat.le_of_ble_eq_true rfl) hR.1, Nat.le_trans (Nat.le_of_ble_eq_true rfl) hR.2⟩) (recv0 K w) rfl hl.1 rfl (Nat.le_of_ble_eq_true rfl) dX1_log_7 hf (fun H locs w => ?_)
  refine lv_aload_n hx hb dX1_log_10 rfl (lv_at hl 0 rfl) ?_
  refine calli K w (c_X1_markedCommits dn ok.1) (lk_X1_102 K ⟨Nat.le_trans (Nat.le_of_ble_eq_true rfl) hR.1, Nat.le_trans (Nat.le_of_ble_eq_true rfl) hR.2⟩) (recv0 K w) rfl hl.1 rfl (Nat.le_of_ble_eq_true rfl) dX1_log_11 hf (fun H locs w => ?_)
  refine lv_istore_n (lv' := [(3, .int _), (0, .ref _), (1, .int _), (2, .int _)]) hx hb dX1_log_14 rfl hl (by decide) rfl (fun ls hl => ?_)
  refine lv_iload_n hx hb dX1_log_15 rfl (lv_at hl 3 rfl) ?_
  refine lv_iconst (v := -1) hx hb dX1_log_16 (by decide) ?_
  refine lv_icmp_ne (tgt := 22) hx hb dX1_log_17 rfl (fun _ => ?_) (fun h9 => absurd h9 (nI_nm1 (by omega)))
  refine lv_iload_n hx hb dX1_log_22 rfl (lv_at hl 3 rfl) ?_
  refine lv_iload_n hx hb dX1_log_23 rfl (lv_at hl 0 rfl) ?_
  refine callsv K w (c_X1_checkPlace dn hj hj2) (lk_X1_106 K ⟨Nat.le_trans (Nat.le_of_ble_eq_true rfl) hR.1, Nat.le_trans (Nat.le_of_ble_eq_true rfl) hR.2⟩) rfl hl.1 rfl (Nat.le_of_ble_eq_true rfl) dX1_log_24 hf (fun H locs w => ?_)
  refine lv_aload_n hx hb dX1_log_27 rfl (lv_at hl 1 rfl) ?_
  refine lv_iload_n hx hb dX1_log_28 rfl (lv_at hl 2 rfl) ?_
  refine lv_iload_n hx hb dX1_log_29 rfl (lv_at hl 3 rfl) ?_
  refine calli K w (c_X1_toldAt dn hq (by omega) (ok.rows (M' := mrF M n q) (spF_row (by decide) |>.trans (clF_row (by decide))) (spF_row (by decide) |>.trans (clF_row (by decide))))) (lk_X1_109 K ⟨Nat.le_trans (Nat.le_of_ble_eq_true rfl) hR.1, Nat.le_trans (Nat.le_of_ble_eq_true rfl) hR.2⟩) (recv0 K w) rfl hl.1 rfl (Nat.le_of_ble_eq_true rfl) dX1_log_30 hf (fun H locs w => ?_)
  exact ret w rfl dX1_log_33
