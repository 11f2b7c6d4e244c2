set_option maxHeartbeats 4000000 in
set_option maxRecDepth 100000 in
theorem t_X1_add_a {l : Launch} {E : En} {M : Mt} {n k : Nat} (hst : l.stackTraces = false) (dn : dN E) {ti ky x y v : Int32} (h1 : ¬ x = -1) (h2 : x < 0 ∨ nI n ≤ x) : MT l yX1_add (.code yX1_add cX1_add 7 (some .int)) 8 132 E [.ref (ad E 0), .int ti, .int ky, .int x, .int y, .int v] M n k "java/lang/IllegalArgumentException" (M) (n) (k) := by
  refine MT.of hst dn (by decide) rfl (Nat.le_of_ble_eq_true rfl) (fun p e s m args below meth c ls Q K z w hl out thr => ?_)
  have hx := K.1.1
  have hb := K.1.2.1
  have hR : 8 ≤ (rmx 8 132).frames ∧ 132 ≤ (rmx 8 132).locals := ⟨Nat.le_refl _, Nat.le_refl _⟩
  have hf : 0 ≤ (rmx 8 132).cells ∧ 0 ≤ (rmx 8 132).slots := ⟨Nat.zero_le _, Nat.zero_le _⟩
  have hl : lv_has ls 7 [(0, .ref (ad E 0)), (1, .int ti), (2, .int ky), (3, .int x), (4, .int y), (5, .int v)] := hl
  refine lv_aload_n hx hb dX1_add_0 rfl (lv_at hl 0 rfl) ?_
  refine lv_iload_n hx hb dX1_add_1 rfl (lv_at hl 3 rfl) ?_
  exact callt K z w (t_X1_checkParentOrNone hst dn h1 h2) (lk_X1_45 K ⟨Nat.le_trans (Nat.le_of_ble_eq_true rfl) hR.1, Nat.le_trans (Nat.le_of_ble_eq_true rfl) hR.2⟩) (recv0 K w) rfl hl.1 rfl (Nat.le_of_ble_eq_true rfl) dX1_add_2 ⟨Nat.le_of_ble_eq_true rfl, Nat.le_of_ble_eq_true rfl⟩ out

set_option maxHeartbeats 4000000 in
set_option maxRecDepth 100000 in
theorem t_X1_add_b {l : Launch} {E : En} {M : Mt} {n k : Nat} (hst : l.stackTraces = false) (dn : dN E) {ti ky y v : Int32} {a : Option Nat} (ha : oB a n) (hn : n ≤ 2000) (h1 : ¬ y = -1) (h2 : y < 0 ∨ nI n ≤ y) : MT l yX1_add (.code yX1_add cX1_add 7 (some .int)) 8 132 E [.ref (ad E 0), .int ti, .int ky, .int (oI a), .int y, .int v] M n k "java/lang/IllegalArgumentException" (M) (n) (k) := by
  refine MT.of hst dn (by decide) rfl (Nat.le_of_ble_eq_true rfl) (fun p e s m args below meth c ls Q K z w hl out thr => ?_)
  have hx := K.1.1
  have hb := K.1.2.1
  have hR : 8 ≤ (rmx 8 132).frames ∧ 132 ≤ (rmx 8 132).locals := ⟨Nat.le_refl _, Nat.le_refl _⟩
  have hf : 0 ≤ (rmx 8 132).cells ∧ 0 ≤ (rmx 8 132).slots := ⟨Nat.zero_le _, Nat.zero_le _⟩
  have hl : lv_has ls 7 [(0, .ref (ad E 0)), (1, .int ti), (2, .int ky), (3, .int (oI a)), (4, .int y), (5, .int v)] := hl
  refine lv_aload_n hx hb dX1_add_0 rfl (lv_at hl 0 rfl) ?_
  refine lv_iload_n hx hb dX1_add_1 rfl (lv_at hl 3 rfl) ?_
  refine callv K w (c_X1_checkParentOrNone dn ha (by omega)) (lk_X1_45 K ⟨Nat.le_trans (Nat.le_of_ble_eq_true rfl) hR.1, Nat.le_trans (Nat.le_of_ble_eq_true rfl) hR.2⟩) (recv0 K w) rfl hl.1 rfl (Nat.le_of_ble_eq_true rfl) dX1_add_2 hf (fun H locs w => ?_)
  refine lv_aload_n hx hb dX1_add_5 rfl (lv_at hl 0 rfl) ?_
  refine lv_iload hx hb dX1_add_6 (lv_at hl 4 rfl) ?_
  exact callt K z w (t_X1_checkParentOrNone hst dn h1 h2) (lk_X1_45 K ⟨Nat.le_trans (Nat.le_of_ble_eq_true rfl) hR.1, Nat.le_trans (Nat.le_of_ble_eq_true rfl) hR.2⟩) (recv0 K w) rfl hl.1 rfl (Nat.le_of_ble_eq_true rfl) dX1_add_8 ⟨Nat.le_of_ble_eq_true rfl, Nat.le_of_ble_eq_true rfl⟩ out

set_option maxHeartbeats 4000000 in
set_option maxRecDepth 100000 in
theorem t_X1_add_c {l : Launch} {E : En} {M : Mt} {n k : Nat} (hst : l.stackTraces = false) (dn : dN E) {ti ky v : Int32} {a b : Option Nat} (ha : oB a n) (hb0 : oB b n) (hn : n ≤ 2000) (h1 : ¬ v = -1) (h2 : v < 0 ∨ nI n ≤ v) : MT l yX1_add (.code yX1_add cX1_add 7 (some .int)) 8 132 E [.ref (ad E 0), .int ti, .int ky, .int (oI a), .int (oI b), .int v] M n k "java/lang/IllegalArgumentException" (M) (n) (k) := by
  refine MT.of hst dn (by decide) rfl (Nat.le_of_ble_eq_true rfl) (fun p e s m args below meth c ls Q K z w hl out thr => ?_)
  have hx := K.1.1
  have hb := K.1.2.1
  have hR : 8 ≤ (rmx 8 132).frames ∧ 132 ≤ (rmx 8 132).locals := ⟨Nat.le_refl _, Nat.le_refl _⟩
  have hf : 0 ≤ (rmx 8 132).cells ∧ 0 ≤ (rmx 8 132).slots := ⟨Nat.zero_le _, Nat.zero_le _⟩
  have hl : lv_has ls 7 [(0, .ref (ad E 0)), (1, .int ti), (2, .int ky), (3, .int (oI a)), (4, .int (oI b)), (5, .int v)] := hl
  refine lv_aload_n hx hb dX1_add_0 rfl (lv_at hl 0 rfl) ?_
  refine lv_iload_n hx hb dX1_add_1 rfl (lv_at hl 3 rfl) ?_
  refine callv K w (c_X1_checkParentOrNone dn ha (by omega)) (lk_X1_45 K ⟨Nat.le_trans (Nat.le_of_ble_eq_true rfl) hR.1, Nat.le_trans (Nat.le_of_ble_eq_true rfl) hR.2⟩) (recv0 K w) rfl hl.1 rfl (Nat.le_of_ble_eq_true rfl) dX1_add_2 hf (fun H locs w => ?_)
  refine lv_aload_n hx hb dX1_add_5 rfl (lv_at hl 0 rfl) ?_
  refine lv_iload hx hb dX1_add_6 (lv_at hl 4 rfl) ?_
  refine callv K w (c_X1_checkParentOrNone dn hb0 (by omega)) (lk_X1_45 K ⟨Nat.le_trans (Nat.le_of_ble_eq_true rfl) hR.1, Nat.le_trans (Nat.le_of_ble_eq_true rfl) hR.2⟩) (recv0 K w) rfl hl.1 rfl (Nat.le_of_ble_eq_true rfl) dX1_add_8 hf (fun H locs w => ?_)
  refine lv_aload_n hx hb dX1_add_11 rfl (lv_at hl 0 rfl) ?_
  refine lv_iload hx hb dX1_add_12 (lv_at hl 5 rfl) ?_
  exact callt K z w (t_X1_checkParentOrNone hst dn h1 h2) (lk_X1_45 K ⟨Nat.le_trans (Nat.le_of_ble_eq_true rfl) hR.1, Nat.le_trans (Nat.le_of_ble_eq_true rfl) hR.2⟩) (recv0 K w) rfl hl.1 rfl (Nat.le_of_ble_eq_true rfl) dX1_add_14 ⟨Nat.le_of_ble_eq_true rfl, Nat.le_of_ble_eq_true rfl⟩ out

set_option maxHeartbeats 4000000 in
set_option maxRecDepth 100000 in
theorem t_X1_under_a {l : Launch} {E : En} {M : Mt} {n k : Nat} (hst : l.stackTraces = false) (dn : dN E) {x y : Int32} (h2 : x < 0 ∨ nI n ≤ x) : MT l yX1_under (.code yX1_under cX1_under 3 (some .int)) 7 111 E [.ref (ad E 0), .int x, .int y] M n k "java/lang/IllegalArgumentException" (M) (n) (k) := by
  refine MT.of hst dn (by decide) rfl (Nat.le_of_ble_eq_true rfl) (fun p e s m args below meth c ls Q K z w hl out thr => ?_)
  have hx := K.1.1
  have hb := K.1.2.1
  have hR : 7 ≤ (rmx 7 111).frames ∧ 111 ≤ (rmx 7 111).locals := ⟨Nat.le_refl _, Nat.le_refl _⟩
  have hf : 0 ≤ (rmx 7 111).cells ∧ 0 ≤ (rmx 7 111).slots := ⟨Nat.zero_le _, Nat.zero_le _⟩
  have hl : lv_has ls 3 [(0, .ref (ad E 0)), (1, .int x), (2, .int y)] := hl
  refine lv_aload_n hx hb dX1_under_0 rfl (lv_at hl 0 rfl) ?_
  refine lv_iload_n hx hb dX1_under_1 rfl (lv_at hl 1 rfl) ?_
  exact callt K z w (t_X1_checkCommit hst dn h2) (lk_X1_64 K ⟨Nat.le_trans (Nat.le_of_ble_eq_true rfl) hR.1, Nat.le_trans (Nat.le_of_ble_eq_true rfl) hR.2⟩) (recv0 K w) rfl hl.1 rfl (Nat.le_of_ble_eq_true rfl) dX1_under_2 ⟨Nat.le_of_ble_eq_true rfl, Nat.le_of_ble_eq_true rfl⟩ out

set_option maxHeartbeats 4000000 in
set_option maxRecDepth 100000 in
theorem t_X1_under_b {l : Launch} {E : En} {M : Mt} {n k : Nat} (hst : l.stackTraces = false) (dn : dN E) {q : Nat} {y : Int32} (hq : q < n) (hn : n ≤ 2000) (hx0 : y < 0 ∨ nI q ≤ y) : MT l yX1_under (.code yX1_under cX1_under 3 (some .int)) 7 111 E [.ref (ad E 0), .int (nI q), .int y] M n k "java/lang/IllegalArgumentException" (M) (n) (k) := by
  refine MT.of hst dn (by decide) rfl (Nat.le_of_ble_eq_true rfl) (fun p e s m args below meth c ls Q K z w hl out thr => ?_)
  have hx := K.1.1
  have hb := K.1.2.1
  have hR : 7 ≤ (rmx 7 111).frames ∧ 111 ≤ (rmx 7 111).locals := ⟨Nat.le_refl _, Nat.le_refl _⟩
  have hf : 0 ≤ (rmx 7 111).cells ∧ 0 ≤ (rmx 7 111).slots := ⟨Nat.zero_le _, Nat.zero_le _⟩
  have hl : lv_has ls 3 [(0, .ref (ad E 0)), (1, .int (nI q)), (2, .int y)] := hl
  by_cases h0 : y < 0
  · refine lv_aload_n hx hb dX1_under_0 rfl (lv_at hl 0 rfl) ?_
    refine lv_iload_n hx hb dX1_under_1 rfl (lv_at hl 1 rfl) ?_
    refine callv K w (c_X1_checkCommit dn hq hn) (lk_X1_64 K ⟨Nat.le_trans (Nat.le_of_ble_eq_true rfl) hR.1, Nat.le_trans (Nat.le_of_ble_eq_true rfl) hR.2⟩) (recv0 K w) rfl hl.1 rfl (Nat.le_of_ble_eq_true rfl) dX1_under_2 hf (fun H locs w => ?_)
    refine lv_iload_n hx hb dX1_under_5 rfl (lv_at hl 2 rfl) ?_
    refine lv_if_lt (tgt := 14) hx hb dX1_under_6 rfl (fun _ => ?_) (fun h9 => absurd h0 h9)
    exact thr w xIAE (List.mem_of_getElem? (i := 1) rfl) hl.1 (Nat.le_of_ble_eq_true rfl) (by decide) (by decide) dX1_under_14 dX1_under_17 dX1_under_18 dX1_under_20 dX1_under_23
  · refine lv_aload_n hx hb dX1_under_0 rfl (lv_at hl 0 rfl) ?_
    refine lv_iload_n hx hb dX1_under_1 rfl (lv_at hl 1 rfl) ?_
    refine callv K w (c_X1_checkCommit dn hq hn) (lk_X1_64 K ⟨Nat.le_trans (Nat.le_of_ble_eq_true rfl) hR.1, Nat.le_trans (Nat.le_of_ble_eq_true rfl) hR.2⟩) (recv0 K w) rfl hl.1 rfl (Nat.le_of_ble_eq_true rfl) dX1_under_2 hf (fun H locs w => ?_)
    refine lv_iload_n hx hb dX1_under_5 rfl (lv_at hl 2 rfl) ?_
    refine lv_if_lt (tgt := 14) hx hb dX1_under_6 rfl (fun h9 => absurd h9 h0) (fun _ => ?_)
    refine lv_iload_n hx hb dX1_under_9 rfl (lv_at hl 2 rfl) ?_
    refine lv_iload_n hx hb dX1_under_10 rfl (lv_at hl 1 rfl) ?_
    refine lv_icmp_lt (tgt := 24) hx hb dX1_under_11 rfl (fun h9 => absurd h9 (nlt_or h0 hx0)) (fun _ => ?_)
    exact thr w xIAE (List.mem_of_getElem? (i := 1) rfl) hl.1 (Nat.le_of_ble_eq_true rfl) (by decide) (by decide) dX1_under_14 dX1_under_17 dX1_under_18 dX1_under_20 dX1_under_23

set_option maxHeartbeats 4000000 in
set_option maxRecDepth 100000 in
theorem t_X1_under_c {l : Launch} {E : En} {M : Mt} {n k : Nat} (hst : l.stackTraces = false) (dn : dN E) {q u : Nat} (hq : q < n) (hn : n ≤ 2000) (hu : u < q) (h6 : ¬ M 6 q = 0 ∨ nI 4 ≤ M 4 q) : MT l yX1_under (.code yX1_under cX1_under 3 (some .int)) 7 111 E [.ref (ad E 0), .int (nI q), .int (nI u)] M n k "java/lang/IllegalStateException" (M) (n) (k) := by
  refine MT.of hst dn (by decide) rfl (Nat.le_of_ble_eq_true rfl) (fun p e s m args below meth c ls Q K z w hl out thr => ?_)
  have hx := K.1.1
  have hb := K.1.2.1
  have hR : 7 ≤ (rmx 7 111).frames ∧ 111 ≤ (rmx 7 111).locals := ⟨Nat.le_refl _, Nat.le_refl _⟩
  have hf : 0 ≤ (rmx 7 111).cells ∧ 0 ≤ (rmx 7 111).slots := ⟨Nat.zero_le _, Nat.zero_le _⟩
  have hl : lv_has ls 3 [(0, .ref (ad E 0)), (1, .int (nI q)), (2, .int (nI u))] := hl
  by_cases h0 : M 6 q = 0
  · refine lv_aload_n hx hb dX1_under_0 rfl (lv_at hl 0 rfl) ?_
    refine lv_iload_n hx hb dX1_under_1 rfl (lv_at hl 1 rfl) ?_
    refine callv K w (c_X1_checkCommit dn hq hn) (lk_X1_64 K ⟨Nat.le_trans (Nat.le_of_ble_eq_true rfl) hR.1, Nat.le_trans (Nat.le_of_ble_eq_true rfl) hR.2⟩) (recv0 K w) rfl hl.1 rfl (Nat.le_of_ble_eq_true rfl) dX1_under_2 hf (fun H locs w => ?_)
    refine lv_iload_n hx hb dX1_under_5 rfl (lv_at hl 2 rfl) ?_
    refine lv_if_lt (tgt := 14) hx hb dX1_under_6 rfl (fun h9 => absurd h9 (nI_pos (by omega))) (fun _ => ?_)
    refine lv_iload_n hx hb dX1_under_9 rfl (lv_at hl 2 rfl) ?_
    refine lv_iload_n hx hb dX1_under_10 rfl (lv_at hl 1 rfl) ?_
    refine lv_icmp_lt (tgt := 24) hx hb dX1_under_11 rfl (fun _ => ?_) (fun h9 => absurd (nI_lt hu (by omega)) h9)
    refine lv_aload_n hx hb dX1_under_24 rfl (lv_at hl 0 rfl) ?_
    refine gf_X1_isParent K w dX1_under_25 ?_
    refine lv_iload_n hx hb dX1_under_28 rfl (lv_at hl 1 rfl) ?_
    refine ldZ K w (by omega) dX1_under_29 ?_
    refine lv_if_ne (tgt := 43) hx hb dX1_under_30 rfl (fun h9 => absurd h0 h9) (fun _ => ?_)
    refine lv_aload_n hx hb dX1_under_33 rfl (lv_at hl 0 rfl) ?_
    refine gf_X1_parentCounts K w dX1_under_34 ?_
    refine lv_iload_n hx hb dX1_under_37 rfl (lv_at hl 1 rfl) ?_
    refine ldN K w row4 (by omega) dX1_under_38 ?_
    refine lv_iconst (v := nI 4) hx hb dX1_under_39 (by decide) ?_
    refine lv_icmp_lt (tgt := 53) hx hb dX1_under_40 rfl (fun h9 => absurd h9 (nlt_le (h6.elim (fun h => absurd h0 h) id))) (fun _ => ?_)
    exact thr w xISE (List.mem_of_getElem? (i := 2) rfl) hl.1 (Nat.le_of_ble_eq_true rfl) (by decide) (by decide) dX1_under_43 dX1_under_46 dX1_under_47 dX1_under_49 dX1_under_52
  · refine lv_aload_n hx hb dX1_under_0 rfl (lv_at hl 0 rfl) ?_
    refine lv_iload_n hx hb dX1_under_1 rfl (lv_at hl 1 rfl) ?_
    refine callv K w (c_X1_checkCommit dn hq hn) (lk_X1_64 K ⟨Nat.le_trans (Nat.le_of_ble_eq_true rfl) hR.1, Nat.le_trans (Nat.le_of_ble_eq_true rfl) hR.2⟩) (recv0 K w) rfl hl.1 rfl (Nat.le_of_ble_eq_true rfl) dX1_under_2 hf (fun H locs w => ?_)
    refine lv_iload_n hx hb dX1_under_5 rfl (lv_at hl 2 rfl) ?_
    refine lv_if_lt (tgt := 14) hx hb dX1_under_6 rfl (fun h9 => absurd h9 (nI_pos (by omega))) (fun _ => ?_)
    refine lv_iload_n hx hb dX1_under_9 rfl (lv_at hl 2 rfl) ?_
    refine lv_iload_n hx hb dX1_under_10 rfl (lv_at hl 1 rfl) ?_
    refine lv_icmp_lt (tgt := 24) hx hb dX1_under_11 rfl (fun _ => ?_) (fun h9 => absurd (nI_lt hu (by omega)) h9)
    refine lv_aload_n hx hb dX1_under_24 rfl (lv_at hl 0 rfl) ?_
    refine gf_X1_isParent K w dX1_under_25 ?_
    refine lv_iload_n hx hb dX1_under_28 rfl (lv_at hl 1 rfl) ?_
    refine ldZ K w (by omega) dX1_under_29 ?_
    refine lv_if_ne (tgt := 43) hx hb dX1_under_30 rfl (fun _ => ?_) (fun h9 => absurd h9 h0)
    exact thr w xISE (List.mem_of_getElem? (i := 2) rfl) hl.1 (Nat.le_of_ble_eq_true rfl) (by decide) (by decide) dX1_under_43 dX1_under_46 dX1_under_47 dX1_under_49 dX1_under_52

set_option maxHeartbeats 4000000 in
set_option maxRecDepth 100000 in
theorem t_X1_tip_a {l : Launch} {E : En} {M : Mt} {n k : Nat} (hst : l.stackTraces = false) (dn : dN E) {x y v : Int32} (h2 : x < 0 ∨ nI 2 ≤ x) : MT l yX1_tip (.code yX1_tip cX1_tip 4 none) 7 111 E [.ref (ad E 0), .int x, .int y, .int v] M n k "java/lang/IllegalArgumentException" (M) (n) (k) := by
  refine MT.of hst dn (by decide) rfl (Nat.le_of_ble_eq_true rfl) (fun p e s m args below meth c ls Q K z w hl out thr => ?_)
  have hx := K.1.1
  have hb := K.1.2.1
  have hR : 7 ≤ (rmx 7 111).frames ∧ 111 ≤ (rmx 7 111).locals := ⟨Nat.le_refl _, Nat.le_refl _⟩
  have hf : 0 ≤ (rmx 7 111).cells ∧ 0 ≤ (rmx 7 111).slots := ⟨Nat.zero_le _, Nat.zero_le _⟩
  have hl : lv_has ls 4 [(0, .ref (ad E 0)), (1, .int x), (2, .int y), (3, .int v)] := hl
  refine lv_iload_n hx hb dX1_tip_0 rfl (lv_at hl 1 rfl) ?_
  exact callst K z w (t_X1_checkHolder hst dn h2) (lk_X1_77 K ⟨Nat.le_trans (Nat.le_of_ble_eq_true rfl) hR.1, Nat.le_trans (Nat.le_of_ble_eq_true rfl) hR.2⟩) rfl hl.1 rfl (Nat.le_of_ble_eq_true rfl) dX1_tip_1 ⟨Nat.le_of_ble_eq_true rfl, Nat.le_of_ble_eq_true rfl⟩ out

set_option maxHeartbeats 4000000 in
set_option maxRecDepth 100000 in
theorem t_X1_tip_b {l : Launch} {E : En} {M : Mt} {n k : Nat} (hst : l.stackTraces = false) (dn : dN E) {h : Nat} {y v : Int32} (hh : h < 2) (h2 : y < 0 ∨ nI n ≤ y) : MT l yX1_tip (.code yX1_tip cX1_tip 4 none) 7 111 E [.ref (ad E 0), .int (nI h), .int y, .int v] M n k "java/lang/IllegalArgumentException" (M) (n) (k) := by
  refine MT.of hst dn (by decide) rfl (Nat.le_of_ble_eq_true rfl) (fun p e s m args below meth c ls Q K z w hl out thr => ?_)
  have hx := K.1.1
  have hb := K.1.2.1
  have hR : 7 ≤ (rmx 7 111).frames ∧ 111 ≤ (rmx 7 111).locals := ⟨Nat.le_refl _, Nat.le_refl _⟩
  have hf : 0 ≤ (rmx 7 111).cells ∧ 0 ≤ (rmx 7 111).slots := ⟨Nat.zero_le _, Nat.zero_le _⟩
  have hl : lv_has ls 4 [(0, .ref (ad E 0)), (1, .int (nI h)), (2, .int y), (3, .int v)] := hl
  refine lv_iload_n hx hb dX1_tip_0 rfl (lv_at hl 1 rfl) ?_
  refine callsv K w (c_X1_checkHolder dn hh) (lk_X1_77 K ⟨Nat.le_trans (Nat.le_of_ble_eq_true rfl) hR.1, Nat.le_trans (Nat.le_of_ble_eq_true rfl) hR.2⟩) rfl hl.1 rfl (Nat.le_of_ble_eq_true rfl) dX1_tip_1 hf (fun H locs w => ?_)
  refine lv_aload_n hx hb dX1_tip_4 rfl (lv_at hl 0 rfl) ?_
  refine lv_iload_n hx hb dX1_tip_5 rfl (lv_at hl 2 rfl) ?_
  exact callt K z w (t_X1_checkCommit hst dn h2) (lk_X1_64 K ⟨Nat.le_trans (Nat.le_of_ble_eq_true rfl) hR.1, Nat.le_trans (Nat.le_of_ble_eq_true rfl) hR.2⟩) (recv0 K w) rfl hl.1 rfl (Nat.le_of_ble_eq_true rfl) dX1_tip_6 ⟨Nat.le_of_ble_eq_true rfl, Nat.le_of_ble_eq_true rfl⟩ out

set_option maxHeartbeats 4000000 in
set_option maxRecDepth 100000 in
theorem t_X1_reaches_a {l : Launch} {E : En} {M : Mt} {n k : Nat} (hst : l.stackTraces = false) (dn : dN E) {x y : Int32} (h2 : x < 0 ∨ nI n ≤ x) : MT l yX1_reaches (.code yX1_reaches cX1_reaches 3 (some .boolean)) 7 111 E [.ref (ad E 0), .int x, .int y] M n k "java/lang/IllegalArgumentException" (M) (n) (k) := by
  refine MT.of hst dn (by decide) rfl (Nat.le_of_ble_eq_true rfl) (fun p e s m args below meth c ls Q K z w hl out thr => ?_)
  have hx := K.1.1
  have hb := K.1.2.1
  have hR : 7 ≤ (rmx 7 111).frames ∧ 111 ≤ (rmx 7 111).locals := ⟨Nat.le_refl _, Nat.le_refl _⟩
  have hf : 0 ≤ (rmx 7 111).cells ∧ 0 ≤ (rmx 7 111).slots := ⟨Nat.zero_le _, Nat.zero_le _⟩
  have hl : lv_has ls 3 [(0, .ref (ad E 0)), (1, .int x), (2, .int y)] := hl
  refine lv_aload_n hx hb dX1_reaches_0 rfl (lv_at hl 0 rfl) ?_
  refine lv_iload_n hx hb dX1_reaches_1 rfl (lv_at hl 1 rfl) ?_
  exact callt K z w (t_X1_checkCommit hst dn h2) (lk_X1_64 K ⟨Nat.le_trans (Nat.le_of_ble_eq_true rfl) hR.1, Nat.le_trans (Nat.le_of_ble_eq_true rfl) hR.2⟩) (recv0 K w) rfl hl.1 rfl (Nat.le_of_ble_eq_true rfl) dX1_reaches_2 ⟨Nat.le_of_ble_eq_true rfl, Nat.le_of_ble_eq_true rfl⟩ out

set_option maxHeartbeats 4000000 in
set_option maxRecDepth 100000 in
theorem t_X1_reaches_b {l : Launch} {E : En} {M : Mt} {n k : Nat} (hst : l.stackTraces = false) (dn : dN E) {q : Nat} {y : Int32} (hq : q < n) (hn : n ≤ 2000) (h2 : y < 0 ∨ nI n ≤ y) : MT l yX1_reaches (.code yX1_reaches cX1_reaches 3 (some .boolean)) 7 111 E [.ref (ad E 0), .int (nI q), .int y] M n k "java/lang/IllegalArgumentException" (M) (n) (k) := by
  refine MT.of hst dn (by decide) rfl (Nat.le_of_ble_eq_true rfl) (fun p e s m args below meth c ls Q K z w hl out thr => ?_)
  have hx := K.1.1
  have hb := K.1.2.1
  have hR : 7 ≤ (rmx 7 111).frames ∧ 111 ≤ (rmx 7 111).locals := ⟨Nat.le_refl _, Nat.le_refl _⟩
  have hf : 0 ≤ (rmx 7 111).cells ∧ 0 ≤ (rmx 7 111).slots := ⟨Nat.zero_le _, Nat.zero_le _⟩
  have hl : lv_has ls 3 [(0, .ref (ad E 0)), (1, .int (nI q)), (2, .int y)] := hl
  refine lv_aload_n hx hb dX1_reaches_0 rfl (lv_at hl 0 rfl) ?_
  refine lv_iload_n hx hb dX1_reaches_1 rfl (lv_at hl 1 rfl) ?_
  refine callv K w (c_X1_checkCommit dn hq hn) (lk_X1_64 K ⟨Nat.le_trans (Nat.le_of_ble_eq_true rfl) hR.1, Nat.le_trans (Nat.le_of_ble_eq_true rfl) hR.2⟩) (recv0 K w) rfl hl.1 rfl (Nat.le_of_ble_eq_true rfl) dX1_reaches_2 hf (fun H locs w => ?_)
  refine lv_aload_n hx hb dX1_reaches_5 rfl (lv_at hl 0 rfl) ?_
  refine lv_iload_n hx hb dX1_reaches_6 rfl (lv_at hl 2 rfl) ?_
  exact callt K z w (t_X1_checkCommit hst dn h2) (lk_X1_64 K ⟨Nat.le_trans (Nat.le_of_ble_eq_true rfl) hR.1, Nat.le_trans (Nat.le_of_ble_eq_true rfl) hR.2⟩) (recv0 K w) rfl hl.1 rfl (Nat.le_of_ble_eq_true rfl) dX1_reaches_7 ⟨Nat.le_of_ble_eq_true rfl, Nat.le_of_ble_eq_true rfl⟩ out

set_option maxHeartbeats 4000000 in
set_option maxRecDepth 100000 in
theorem t_X1_told_a {l : Launch} {E : En} {M : Mt} {n k : Nat} (hst : l.stackTraces = false) (dn : dN E) {x y : Int32} (h2 : x < 0 ∨ nI n ≤ x) : MT l yX1_told (.code yX1_told cX1_told 3 (some .int)) 7 111 E [.ref (ad E 0), .int x, .int y] M n k "java/lang/IllegalArgumentException" (M) (n) (k) := by
  refine MT.of hst dn (by decide) rfl (Nat.le_of_ble_eq_true rfl) (fun p e s m args below meth c ls Q K z w hl out thr => ?_)
  have hx := K.1.1
  have hb := K.1.2.1
  have hR : 7 ≤ (rmx 7 111).frames ∧ 111 ≤ (rmx 7 111).locals := ⟨Nat.le_refl _, Nat.le_refl _⟩
  have hf : 0 ≤ (rmx 7 111).cells ∧ 0 ≤ (rmx 7 111).slots := ⟨Nat.zero_le _, Nat.zero_le _⟩
  have hl : lv_has ls 3 [(0, .ref (ad E 0)), (1, .int x), (2, .int y)] := hl
  refine lv_aload_n hx hb dX1_told_0 rfl (lv_at hl 0 rfl) ?_
  refine lv_iload_n hx hb dX1_told_1 rfl (lv_at hl 1 rfl) ?_
  exact callt K z w (t_X1_checkCommit hst dn h2) (lk_X1_64 K ⟨Nat.le_trans (Nat.le_of_ble_eq_true rfl) hR.1, Nat.le_trans (Nat.le_of_ble_eq_true rfl) hR.2⟩) (recv0 K w) rfl hl.1 rfl (Nat.le_of_ble_eq_true rfl) dX1_told_2 ⟨Nat.le_of_ble_eq_true rfl, Nat.le_of_ble_eq_true rfl⟩ out

set_option maxHeartbeats 4000000 in
set_option maxRecDepth 100000 in
theorem t_X1_told_b {l : Launch} {E : En} {M : Mt} {n k : Nat} (hst : l.stackTraces = false) (dn : dN E) {q : Nat} {y : Int32} (hq : q < n) (hn : n ≤ 2000) (hy : y.toInt < 0 ∨ 4 < y.toInt) : MT l yX1_told (.code yX1_told cX1_told 3 (some .int)) 7 111 E [.ref (ad E 0), .int (nI q), .int y] M n k "java/lang/IllegalArgumentException" (M) (n) (k) := by
  refine MT.of hst dn (by decide) rfl (Nat.le_of_ble_eq_true rfl) (fun p e s m args below meth c ls Q K z w hl out thr => ?_)
  have hx := K.1.1
  have hb := K.1.2.1
  have hR : 7 ≤ (rmx 7 111).frames ∧ 111 ≤ (rmx 7 111).locals := ⟨Nat.le_refl _, Nat.le_refl _⟩
  have hf : 0 ≤ (rmx 7 111).cells ∧ 0 ≤ (rmx 7 111).slots := ⟨Nat.zero_le _, Nat.zero_le _⟩
  have hl : lv_has ls 3 [(0, .ref (ad E 0)), (1, .int (nI q)), (2, .int y)] := hl
  refine lv_aload_n hx hb dX1_told_0 rfl (lv_at hl 0 rfl) ?_
  refine lv_iload_n hx hb dX1_told_1 rfl (lv_at hl 1 rfl) ?_
  refine callv K w (c_X1_checkCommit dn hq hn) (lk_X1_64 K ⟨Nat.le_trans (Nat.le_of_ble_eq_true rfl) hR.1, Nat.le_trans (Nat.le_of_ble_eq_true rfl) hR.2⟩) (recv0 K w) rfl hl.1 rfl (Nat.le_of_ble_eq_true rfl) dX1_told_2 hf (fun H locs w => ?_)
  refine lv_iload_n hx hb dX1_told_5 rfl (lv_at hl 2 rfl) ?_
  refine lv_tableOut (tgt := 78) hx hb dX1_told_6 hy rfl ?_
  exact thr w xIAE (List.mem_of_getElem? (i := 5) rfl) hl.1 (Nat.le_of_ble_eq_true rfl) (by decide) (by decide) dX1_told_78 dX1_told_81 dX1_told_82 dX1_told_84 dX1_told_87
