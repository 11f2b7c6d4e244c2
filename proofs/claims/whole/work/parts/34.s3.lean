set_option maxHeartbeats 4000000 in
set_option maxRecDepth 100000 in
theorem t_X1_queuedAt {l : Launch} {E : En} {M : Mt} {n k : Nat} (hst : l.stackTraces = false) (dn : dN E) {x : Int32} (h1 : ¬ x = -1) (h2 : x < 0 ∨ nI k ≤ x) : MT l yX1_queuedAt (.code yX1_queuedAt cX1_queuedAt 3 (some .int)) 7 111 E [.ref (ad E 0), .int x] M n k "java/util/NoSuchElementException" (M) (n) (k) := by
  refine MT.of hst dn (by decide) rfl (Nat.le_of_ble_eq_true rfl) (fun p e s m args below meth c ls Q K z w hl out thr => ?_)
  have hx := K.1.1
  have hb := K.1.2.1
  have hR : 7 ≤ (rmx 7 111).frames ∧ 111 ≤ (rmx 7 111).locals := ⟨Nat.le_refl _, Nat.le_refl _⟩
  have hf : 0 ≤ (rmx 7 111).cells ∧ 0 ≤ (rmx 7 111).slots := ⟨Nat.zero_le _, Nat.zero_le _⟩
  have hl : lv_has ls 3 [(0, .ref (ad E 0)), (1, .int x)] := hl
  refine lv_iload_n hx hb dX1_queuedAt_0 rfl (lv_at hl 1 rfl) ?_
  refine lv_iconst (v := -1) hx hb dX1_queuedAt_1 (by decide) ?_
  refine lv_icmp_ne (tgt := 13) hx hb dX1_queuedAt_2 rfl (fun _ => ?_) (fun h9 => absurd h9 h1)
  refine lv_iload_n hx hb dX1_queuedAt_13 rfl (lv_at hl 1 rfl) ?_
  refine lv_aload_n hx hb dX1_queuedAt_14 rfl (lv_at hl 0 rfl) ?_
  refine gf_X1_queue K w dX1_queuedAt_15 ?_
  refine calli K w (c_X0_size dn) (lk_X1_167 K ⟨Nat.le_trans (Nat.le_of_ble_eq_true rfl) hR.1, Nat.le_trans (Nat.le_of_ble_eq_true rfl) hR.2⟩) (recv10 K w) rfl hl.1 rfl (Nat.le_of_ble_eq_true rfl) dX1_queuedAt_18 hf (fun H locs w => ?_)
  exact callst K z w (t_X1_checkPlace hst dn h2) (lk_X1_106 K ⟨Nat.le_trans (Nat.le_of_ble_eq_true rfl) hR.1, Nat.le_trans (Nat.le_of_ble_eq_true rfl) hR.2⟩) rfl hl.1 rfl (Nat.le_of_ble_eq_true rfl) dX1_queuedAt_21 ⟨Nat.le_of_ble_eq_true rfl, Nat.le_of_ble_eq_true rfl⟩ out

set_option maxHeartbeats 4000000 in
set_option maxRecDepth 100000 in
theorem t_X1_base_a {l : Launch} {E : En} {M : Mt} {n k : Nat} (hst : l.stackTraces = false) (dn : dN E) {x y v : Int32} (h2 : x < 0 ∨ nI n ≤ x) : MT l yX1_base (.code yX1_base cX1_base 5 (some .int)) 8 133 E [.ref (ad E 0), .int x, .int y, .int v] M n k "java/lang/IllegalArgumentException" (M) (n) (k) := by
  refine MT.of hst dn (by decide) rfl (Nat.le_of_ble_eq_true rfl) (fun p e s m args below meth c ls Q K z w hl out thr => ?_)
  have hx := K.1.1
  have hb := K.1.2.1
  have hR : 8 ≤ (rmx 8 133).frames ∧ 133 ≤ (rmx 8 133).locals := ⟨Nat.le_refl _, Nat.le_refl _⟩
  have hf : 0 ≤ (rmx 8 133).cells ∧ 0 ≤ (rmx 8 133).slots := ⟨Nat.zero_le _, Nat.zero_le _⟩
  have hl : lv_has ls 5 [(0, .ref (ad E 0)), (1, .int x), (2, .int y), (3, .int v)] := hl
  refine lv_aload_n hx hb dX1_base_0 rfl (lv_at hl 0 rfl) ?_
  refine lv_iload_n hx hb dX1_base_1 rfl (lv_at hl 1 rfl) ?_
  exact callt K z w (t_X1_checkCommit hst dn h2) (lk_X1_64 K ⟨Nat.le_trans (Nat.le_of_ble_eq_true rfl) hR.1, Nat.le_trans (Nat.le_of_ble_eq_true rfl) hR.2⟩) (recv0 K w) rfl hl.1 rfl (Nat.le_of_ble_eq_true rfl) dX1_base_2 ⟨Nat.le_of_ble_eq_true rfl, Nat.le_of_ble_eq_true rfl⟩ out

set_option maxHeartbeats 4000000 in
set_option maxRecDepth 100000 in
theorem t_X1_base_b {l : Launch} {E : En} {M : Mt} {n k : Nat} (hst : l.stackTraces = false) (dn : dN E) {a : Nat} {y v : Int32} (ha : a < n) (ok : okN M n) (h2 : y < 0 ∨ nI n ≤ y) : MT l yX1_base (.code yX1_base cX1_base 5 (some .int)) 8 133 E [.ref (ad E 0), .int (nI a), .int y, .int v] M n k "java/lang/IllegalArgumentException" (M) (n) (k) := by
  refine MT.of hst dn (by decide) rfl (Nat.le_of_ble_eq_true rfl) (fun p e s m args below meth c ls Q K z w hl out thr => ?_)
  have hx := K.1.1
  have hb := K.1.2.1
  have hR : 8 ≤ (rmx 8 133).frames ∧ 133 ≤ (rmx 8 133).locals := ⟨Nat.le_refl _, Nat.le_refl _⟩
  have hf : 0 ≤ (rmx 8 133).cells ∧ 0 ≤ (rmx 8 133).slots := ⟨Nat.zero_le _, Nat.zero_le _⟩
  have hl : lv_has ls 5 [(0, .ref (ad E 0)), (1, .int (nI a)), (2, .int y), (3, .int v)] := hl
  refine lv_aload_n hx hb dX1_base_0 rfl (lv_at hl 0 rfl) ?_
  refine lv_iload_n hx hb dX1_base_1 rfl (lv_at hl 1 rfl) ?_
  refine callv K w (c_X1_checkCommit dn ha ok.1) (lk_X1_64 K ⟨Nat.le_trans (Nat.le_of_ble_eq_true rfl) hR.1, Nat.le_trans (Nat.le_of_ble_eq_true rfl) hR.2⟩) (recv0 K w) rfl hl.1 rfl (Nat.le_of_ble_eq_true rfl) dX1_base_2 hf (fun H locs w => ?_)
  refine lv_aload_n hx hb dX1_base_5 rfl (lv_at hl 0 rfl) ?_
  refine lv_iload_n hx hb dX1_base_6 rfl (lv_at hl 2 rfl) ?_
  exact callt K z w (t_X1_checkCommit hst dn h2) (lk_X1_64 K ⟨Nat.le_trans (Nat.le_of_ble_eq_true rfl) hR.1, Nat.le_trans (Nat.le_of_ble_eq_true rfl) hR.2⟩) (recv0 K w) rfl hl.1 rfl (Nat.le_of_ble_eq_true rfl) dX1_base_7 ⟨Nat.le_of_ble_eq_true rfl, Nat.le_of_ble_eq_true rfl⟩ out

set_option maxHeartbeats 4000000 in
set_option maxRecDepth 100000 in
theorem t_X1_base_c {l : Launch} {E : En} {M : Mt} {n k : Nat} (hst : l.stackTraces = false) (dn : dN E) {a b : Nat} {v : Int32} (ha : a < n) (hb0 : b < n) (ok : okN M n) (h1 : ¬ v = -1) (h2 : v < 0 ∨ nI (baU M n a b).2 ≤ v) : MT l yX1_base (.code yX1_base cX1_base 5 (some .int)) 8 133 E [.ref (ad E 0), .int (nI a), .int (nI b), .int v] M n k "java/util/NoSuchElementException" ((baU M n a b).1) (n) ((baU M n a b).2) := by
  refine MT.of hst dn (by decide) rfl (Nat.le_of_ble_eq_true rfl) (fun p e s m args below meth c ls Q K z w hl out thr => ?_)
  have hx := K.1.1
  have hb := K.1.2.1
  have hR : 8 ≤ (rmx 8 133).frames ∧ 133 ≤ (rmx 8 133).locals := ⟨Nat.le_refl _, Nat.le_refl _⟩
  have hf : 0 ≤ (rmx 8 133).cells ∧ 0 ≤ (rmx 8 133).slots := ⟨Nat.zero_le _, Nat.zero_le _⟩
  have hl : lv_has ls 5 [(0, .ref (ad E 0)), (1, .int (nI a)), (2, .int (nI b)), (3, .int v)] := hl
  have hn := ok.1
  refine lv_aload_n hx hb dX1_base_0 rfl (lv_at hl 0 rfl) ?_
  refine lv_iload_n hx hb dX1_base_1 rfl (lv_at hl 1 rfl) ?_
  refine callv K w (c_X1_checkCommit dn ha ok.1) (lk_X1_64 K ⟨Nat.le_trans (Nat.le_of_ble_eq_true rfl) hR.1, Nat.le_trans (Nat.le_of_ble_eq_true rfl) hR.2⟩) (recv0 K w) rfl hl.1 rfl (Nat.le_of_ble_eq_true rfl) dX1_base_2 hf (fun H locs w => ?_)
  refine lv_aload_n hx hb dX1_base_5 rfl (lv_at hl 0 rfl) ?_
  refine lv_iload_n hx hb dX1_base_6 rfl (lv_at hl 2 rfl) ?_
  refine callv K w (c_X1_checkCommit dn hb0 ok.1) (lk_X1_64 K ⟨Nat.le_trans (Nat.le_of_ble_eq_true rfl) hR.1, Nat.le_trans (Nat.le_of_ble_eq_true rfl) hR.2⟩) (recv0 K w) rfl hl.1 rfl (Nat.le_of_ble_eq_true rfl) dX1_base_7 hf (fun H locs w => ?_)
  refine lv_aload_n hx hb dX1_base_10 rfl (lv_at hl 0 rfl) ?_
  refine callv K w (c_X1_clearMarks dn ok.1) (lk_X1_87 K ⟨Nat.le_trans (Nat.le_of_ble_eq_true rfl) hR.1, Nat.le_trans (Nat.le_of_ble_eq_true rfl) hR.2⟩) (recv0 K w) rfl hl.1 rfl (Nat.le_of_ble_eq_true rfl) dX1_base_11 hf (fun H locs w => ?_)
  refine lv_aload_n hx hb dX1_base_14 rfl (lv_at hl 0 rfl) ?_
  refine gf_X1_marks K w dX1_base_15 ?_
  refine lv_iload_n hx hb dX1_base_18 rfl (lv_at hl 1 rfl) ?_
  refine lv_dup2_11 hx hb dX1_base_19 rfl rfl ?_
  refine ldN K w row8 (by omega) dX1_base_20 ?_
  refine lv_iconst (v := nI 1) hx hb dX1_base_21 (by decide) ?_
  refine lv_ior hx hb dX1_base_22 ?_
  refine stN K w row8 (by omega) dX1_base_23 (fun H locs w => ?_)
  refine lv_aload_n hx hb dX1_base_24 rfl (lv_at hl 0 rfl) ?_
  refine gf_X1_marks K w dX1_base_25 ?_
  refine lv_iload_n hx hb dX1_base_28 rfl (lv_at hl 2 rfl) ?_
  refine lv_dup2_11 hx hb dX1_base_29 rfl rfl ?_
  refine ldN K w row8 (by omega) dX1_base_30 ?_
  refine lv_iconst (v := nI 2) hx hb dX1_base_31 (by decide) ?_
  refine lv_ior hx hb dX1_base_32 ?_
  refine stN K w row8 (by omega) dX1_base_33 (fun H locs w => ?_)
  refine lv_aload_n hx hb dX1_base_34 rfl (lv_at hl 0 rfl) ?_
  refine callv K w (c_X1_spreadMarks dn (ok.rows (clF_row (by decide)) (clF_row (by decide)))) (lk_X1_90 K ⟨Nat.le_trans (Nat.le_of_ble_eq_true rfl) hR.1, Nat.le_trans (Nat.le_of_ble_eq_true rfl) hR.2⟩) (recv0 K w) rfl hl.1 rfl (Nat.le_of_ble_eq_true rfl) dX1_base_35 hf (fun H locs w => ?_)
  refine lv_aload_n hx hb dX1_base_38 rfl (lv_at hl 0 rfl) ?_
  refine gf_X1_queue K w dX1_base_39 ?_
  refine callv K w (c_X0_clear dn) (lk_X1_93 K ⟨Nat.le_trans (Nat.le_of_ble_eq_true rfl) hR.1, Nat.le_trans (Nat.le_of_ble_eq_true rfl) hR.2⟩) (recv10 K w) rfl hl.1 rfl (Nat.le_of_ble_eq_true rfl) dX1_base_42 hf (fun H locs w => ?_)
  refine lv_iconst (v := nI 0) hx hb dX1_base_45 (by decide) ?_
  refine lv_istore (lv' := [(4, .int _), (0, .ref _), (1, .int _), (2, .int _), (3, .int _)]) hx hb dX1_base_46 hl (by decide) rfl (fun ls hl => ?_)
  refine lp_base K ⟨Nat.le_trans (Nat.le_of_ble_eq_true rfl) hR.1, Nat.le_trans (Nat.le_of_ble_eq_true rfl) hR.2⟩ hf ok.1 (fun H locs ls w hl => ?_) n 0 (bmF M n a b) 0 _ _ _ (by omega) (by decide) rfl w (lv_sub hl [0, 4, 1] rfl)
  refine lv_aload_n hx hb dX1_base_80 rfl (lv_at hl 1 rfl) ?_
  refine lv_iload_n hx hb dX1_base_81 rfl (lv_at hl 0 rfl) ?_
  exact callt K z w (t_X1_queuedAt hst dn h1 h2) (lk_X1_99 K ⟨Nat.le_trans (Nat.le_of_ble_eq_true rfl) hR.1, Nat.le_trans (Nat.le_of_ble_eq_true rfl) hR.2⟩) (recv0 K w) rfl hl.1 rfl (Nat.le_of_ble_eq_true rfl) dX1_base_82 ⟨Nat.le_of_ble_eq_true rfl, Nat.le_of_ble_eq_true rfl⟩ out

set_option maxHeartbeats 4000000 in
set_option maxRecDepth 100000 in
theorem t_X1_sent_a {l : Launch} {E : En} {M : Mt} {n k : Nat} (hst : l.stackTraces = false) (dn : dN E) {x v : Int32} (h2 : x < 0 ∨ nI 2 ≤ x) : MT l yX1_sent (.code yX1_sent cX1_sent 4 (some .int)) 8 133 E [.ref (ad E 0), .int x, .int v] M n k "java/lang/IllegalArgumentException" (M) (n) (k) := by
  refine MT.of hst dn (by decide) rfl (Nat.le_of_ble_eq_true rfl) (fun p e s m args below meth c ls Q K z w hl out thr => ?_)
  have hx := K.1.1
  have hb := K.1.2.1
  have hR : 8 ≤ (rmx 8 133).frames ∧ 133 ≤ (rmx 8 133).locals := ⟨Nat.le_refl _, Nat.le_refl _⟩
  have hf : 0 ≤ (rmx 8 133).cells ∧ 0 ≤ (rmx 8 133).slots := ⟨Nat.zero_le _, Nat.zero_le _⟩
  have hl : lv_has ls 4 [(0, .ref (ad E 0)), (1, .int x), (2, .int v)] := hl
  refine lv_iload_n hx hb dX1_sent_0 rfl (lv_at hl 1 rfl) ?_
  exact callst K z w (t_X1_checkHolder hst dn h2) (lk_X1_77 K ⟨Nat.le_trans (Nat.le_of_ble_eq_true rfl) hR.1, Nat.le_trans (Nat.le_of_ble_eq_true rfl) hR.2⟩) rfl hl.1 rfl (Nat.le_of_ble_eq_true rfl) dX1_sent_1 ⟨Nat.le_of_ble_eq_true rfl, Nat.le_of_ble_eq_true rfl⟩ out

set_option maxHeartbeats 4000000 in
set_option maxRecDepth 100000 in
theorem t_X1_sent_b {l : Launch} {E : En} {M : Mt} {n k : Nat} (hst : l.stackTraces = false) (dn : dN E) {h : Nat} {v : Int32} (hh : h < 2) (ok : okN M n) (h1 : ¬ v = -1) (h2 : v < 0 ∨ nI (snU M n h).2 ≤ v) : MT l yX1_sent (.code yX1_sent cX1_sent 4 (some .int)) 8 133 E [.ref (ad E 0), .int (nI h), .int v] M n k "java/util/NoSuchElementException" ((snU M n h).1) (n) ((snU M n h).2) := by
  refine MT.of hst dn (by decide) rfl (Nat.le_of_ble_eq_true rfl) (fun p e s m args below meth c ls Q K z w hl out thr => ?_)
  have hx := K.1.1
  have hb := K.1.2.1
  have hR : 8 ≤ (rmx 8 133).frames ∧ 133 ≤ (rmx 8 133).locals := ⟨Nat.le_refl _, Nat.le_refl _⟩
  have hf : 0 ≤ (rmx 8 133).cells ∧ 0 ≤ (rmx 8 133).slots := ⟨Nat.zero_le _, Nat.zero_le _⟩
  have hl : lv_has ls 4 [(0, .ref (ad E 0)), (1, .int (nI h)), (2, .int v)] := hl
  have hn := ok.1
  refine lv_iload_n hx hb dX1_sent_0 rfl (lv_at hl 1 rfl) ?_
  refine callsv K w (c_X1_checkHolder dn hh) (lk_X1_77 K ⟨Nat.le_trans (Nat.le_of_ble_eq_true rfl) hR.1, Nat.le_trans (Nat.le_of_ble_eq_true rfl) hR.2⟩) rfl hl.1 rfl (Nat.le_of_ble_eq_true rfl) dX1_sent_1 hf (fun H locs w => ?_)
  refine lv_aload_n hx hb dX1_sent_4 rfl (lv_at hl 0 rfl) ?_
  refine callv K w (c_X1_markHeld dn ok) (lk_X1_123 K ⟨Nat.le_trans (Nat.le_of_ble_eq_true rfl) hR.1, Nat.le_trans (Nat.le_of_ble_eq_true rfl) hR.2⟩) (recv0 K w) rfl hl.1 rfl (Nat.le_of_ble_eq_true rfl) dX1_sent_5 hf (fun H locs w => ?_)
  refine lv_aload_n hx hb dX1_sent_8 rfl (lv_at hl 0 rfl) ?_
  refine gf_X1_queue K w dX1_sent_9 ?_
  refine callv K w (c_X0_clear dn) (lk_X1_93 K ⟨Nat.le_trans (Nat.le_of_ble_eq_true rfl) hR.1, Nat.le_trans (Nat.le_of_ble_eq_true rfl) hR.2⟩) (recv10 K w) rfl hl.1 rfl (Nat.le_of_ble_eq_true rfl) dX1_sent_12 hf (fun H locs w => ?_)
  refine lv_iconst (v := nI 0) hx hb dX1_sent_15 (by decide) ?_
  refine lv_istore_n (lv' := [(3, .int _), (0, .ref _), (1, .int _), (2, .int _)]) hx hb dX1_sent_16 rfl hl (by decide) rfl (fun ls hl => ?_)
  refine lp_sent K ⟨Nat.le_trans (Nat.le_of_ble_eq_true rfl) hR.1, Nat.le_trans (Nat.le_of_ble_eq_true rfl) hR.2⟩ hf (by omega) ok.1 (fun H locs ls w hl => ?_) n 0 (hlF M n) 0 _ _ _ (by omega) (by decide) rfl w (lv_sub hl [0, 3, 2, 1] rfl)
  refine lv_aload_n hx hb dX1_sent_64 rfl (lv_at hl 1 rfl) ?_
  refine lv_iload_n hx hb dX1_sent_65 rfl (lv_at hl 0 rfl) ?_
  exact callt K z w (t_X1_queuedAt hst dn h1 h2) (lk_X1_99 K ⟨Nat.le_trans (Nat.le_of_ble_eq_true rfl) hR.1, Nat.le_trans (Nat.le_of_ble_eq_true rfl) hR.2⟩) (recv0 K w) rfl hl.1 rfl (Nat.le_of_ble_eq_true rfl) dX1_sent_66 ⟨Nat.le_of_ble_eq_true rfl, Nat.le_of_ble_eq_true rfl⟩ out

set_option maxHeartbeats 4000000 in
set_option maxRecDepth 100000 in
theorem t_X1_log_a {l : Launch} {E : En} {M : Mt} {n k : Nat} (hst : l.stackTraces = false) (dn : dN E) {x v : Int32} (h2 : x < 0 ∨ nI n ≤ x) : MT l yX1_log (.code yX1_log cX1_log 4 (some .int)) 7 111 E [.ref (ad E 0), .int x, .int v] M n k "java/lang/IllegalArgumentException" (M) (n) (k) := by
  refine MT.of hst dn (by decide) rfl (Nat.le_of_ble_eq_true rfl) (fun p e s m args below meth c ls Q K z w hl out thr => ?_)
  have hx := K.1.1
  have hb := K.1.2.1
  have hR : 7 ≤ (rmx 7 111).frames ∧ 111 ≤ (rmx 7 111).locals := ⟨Nat.le_refl _, Nat.le_refl _⟩
  have hf : 0 ≤ (rmx 7 111).cells ∧ 0 ≤ (rmx 7 111).slots := ⟨Nat.zero_le _, Nat.zero_le _⟩
  have hl : lv_has ls 4 [(0, .ref (ad E 0)), (1, .int x), (2, .int v)] := hl
  refine lv_aload_n hx hb dX1_log_0 rfl (lv_at hl 0 rfl) ?_
  refine lv_iload_n hx hb dX1_log_1 rfl (lv_at hl 1 rfl) ?_
  exact callt K z w (t_X1_checkCommit hst dn h2) (lk_X1_64 K ⟨Nat.le_trans (Nat.le_of_ble_eq_true rfl) hR.1, Nat.le_trans (Nat.le_of_ble_eq_true rfl) hR.2⟩) (recv0 K w) rfl hl.1 rfl (Nat.le_of_ble_eq_true rfl) dX1_log_2 ⟨Nat.le_of_ble_eq_true rfl, Nat.le_of_ble_eq_true rfl⟩ out

set_option maxHeartbeats 4000000 in
set_option maxRecDepth 100000 in
theorem t_X1_log_b {l : Launch} {E : En} {M : Mt} {n k : Nat} (hst : l.stackTraces = false) (dn : dN E) {q : Nat} {v : Int32} (hq : q < n) (ok : okN M n) (h1 : ¬ v = -1) (h2 : v < 0 ∨ nI (cnF (fun i => decide (¬ mrF M n q 8 i = 0)) n 0 0) ≤ v) : MT l yX1_log (.code yX1_log cX1_log 4 (some .int)) 7 111 E [.ref (ad E 0), .int (nI q), .int v] M n k "java/util/NoSuchElementException" (mrF M n q) (n) (k) := by
  refine MT.of hst dn (by decide) rfl (Nat.le_of_ble_eq_true rfl) (fun p e s m args below meth c ls Q K z w hl out thr => ?_)
  have hx := K.1.1
  have hb := K.1.2.1
  have hR : 7 ≤ (rmx 7 111).frames ∧ 111 ≤ (rmx 7 111).locals := ⟨Nat.le_refl _, Nat.le_refl _⟩
  have hf : 0 ≤ (rmx 7 111).cells ∧ 0 ≤ (rmx 7 111).slots := ⟨Nat.zero_le _, Nat.zero_le _⟩
  have hl : lv_has ls 4 [(0, .ref (ad E 0)), (1, .int (nI q)), (2, .int v)] := hl
  refine lv_aload_n hx hb dX1_log_0 rfl (lv_at hl 0 rfl) ?_
  refine lv_iload_n hx hb dX1_log_1 rfl (lv_at hl 1 rfl) ?_
  refine callv K w (c_X1_checkCommit dn hq ok.1) (lk_X1_64 K ⟨Nat.le_trans (Nat.le_of_ble_eq_true rfl) hR.1, Nat.le_trans (Nat.le_of_ble_eq_true rfl) hR.2⟩) (recv0 K w) rfl hl.1 rfl (Nat.le_of_ble_eq_true rfl) dX1_log_2 hf (fun H locs w => ?_)
  refine lv_aload_n hx hb dX1_log_5 rfl (lv_at hl 0 rfl) ?_
  refine lv_iload_n hx hb dX1_log_6 rfl (lv_at hl 1 rfl) ?_
  refine callv K w (c_X1_markReachable dn hq ok) (lk_X1_84 K ⟨Nat.le_trans (Nat.le_of_ble_eq_true rfl) hR.1, Nat.le_trans (Nat.le_of_ble_eq_true rfl) hR.2⟩) (recv0 K w) rfl hl.1 rfl (Nat.le_of_ble_eq_true rfl) dX1_log_7 hf (fun H locs w => ?_)
  refine lv_aload_n hx hb dX1_log_10 rfl (lv_at hl 0 rfl) ?_
  refine calli K w (c_X1_markedCommits dn ok.1) (lk_X1_102 K ⟨Nat.le_trans (Nat.le_of_ble_eq_true rfl) hR.1, Nat.le_trans (Nat.le_of_ble_eq_true rfl) hR.2⟩) (recv0 K w) rfl hl.1 rfl (Nat.le_of_ble_eq_true rfl) dX1_log_11 hf (fun H locs w => ?_)
  refine lv_istore_n (lv' := [(3, .int _), (0, .ref _), (1, .int _), (2, .int _)]) hx hb dX1_log_14 rfl hl (by decide) rfl (fun ls hl => ?_)
  refine lv_iload_n hx hb dX1_log_15 rfl (lv_at hl 3 rfl) ?_
  refine lv_iconst (v := -1) hx hb dX1_log_16 (by decide) ?_
  refine lv_icmp_ne (tgt := 22) hx hb dX1_log_17 rfl (fun _ => ?_) (fun h9 => absurd h9 h1)
  refine lv_iload_n hx hb dX1_log_22 rfl (lv_at hl 3 rfl) ?_
  refine lv_iload_n hx hb dX1_log_23 rfl (lv_at hl 0 rfl) ?_
  exact callst K z w (t_X1_checkPlace hst dn h2) (lk_X1_106 K ⟨Nat.le_trans (Nat.le_of_ble_eq_true rfl) hR.1, Nat.le_trans (Nat.le_of_ble_eq_true rfl) hR.2⟩) rfl hl.1 rfl (Nat.le_of_ble_eq_true rfl) dX1_log_24 ⟨Nat.le_of_ble_eq_true rfl, Nat.le_of_ble_eq_true rfl⟩ out
