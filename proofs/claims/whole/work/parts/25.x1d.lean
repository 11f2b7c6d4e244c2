set_option maxHeartbeats 4000000 in
set_option maxRecDepth 100000 in
theorem c_X1_link {l : Launch} {E : En} {M : Mt} {n k : Nat} (dn : dN E) {q u : Nat} (hq : q < 2000) (hu : u < 2000) (hj : M 4 q = nI (pcn M q)) (h4 : pcn M q < 4) : MV l yX1_link (.code yX1_link cX1_link 3 none) 1 24 E [.ref (ad E 0), .int (nI q), .int (nI u)] M n k  (lkF M q u) (n) (k) := by
  refine MV.of dn (own := RX1) (by decide) rfl (Nat.le_of_ble_eq_true rfl) (fun p e s m args below meth c ls Q K w hl ret => ?_)
  have hx := K.1.1
  have hb := K.1.2.1
  have hR : 1 ≤ (rmA 1 24).frames ∧ 24 ≤ (rmA 1 24).locals := ⟨Nat.le_refl _, Nat.le_refl _⟩
  have hf : 0 ≤ (rmA 1 24).cells ∧ 0 ≤ (rmA 1 24).slots := ⟨Nat.le_refl _, Nat.le_refl _⟩
  have hl : lv_has ls 3 [(0, .ref (ad E 0)), (1, .int (nI q)), (2, .int (nI u))] := hl
  refine lv_aload_n hx hb dX1_link_0 rfl (lv_at hl 0 rfl) ?_
  refine gf_X1_parents K w dX1_link_1 ?_
  refine lv_iload_n hx hb dX1_link_4 rfl (lv_at hl 1 rfl) ?_
  refine lv_iconst (v := nI 4) hx hb dX1_link_5 (by decide) ?_
  refine lv_imul hx hb dX1_link_6 ?_
  refine topE (y := nI (q * 4)) (pk_mul _ _) ?_
  refine lv_aload_n hx hb dX1_link_7 rfl (lv_at hl 0 rfl) ?_
  refine gf_X1_parentCounts K w dX1_link_8 ?_
  refine lv_iload_n hx hb dX1_link_11 rfl (lv_at hl 1 rfl) ?_
  refine ldN K w row4 (by omega) dX1_link_12 ?_
  refine topE (y := nI (pcn M q)) hj ?_
  refine lv_iadd hx hb dX1_link_13 ?_
  refine topE (y := nI (q * 4 + pcn M q)) (nI_add _ _) ?_
  refine lv_iload_n hx hb dX1_link_14 rfl (lv_at hl 2 rfl) ?_
  refine stN K w row5 (by omega) dX1_link_15 (fun H locs w => ?_)
  refine lv_aload_n hx hb dX1_link_16 rfl (lv_at hl 0 rfl) ?_
  refine gf_X1_parentCounts K w dX1_link_17 ?_
  refine lv_iload_n hx hb dX1_link_20 rfl (lv_at hl 1 rfl) ?_
  refine lv_dup2_11 hx hb dX1_link_21 rfl rfl ?_
  refine ldN K w row4 (by omega) dX1_link_22 ?_
  refine lv_iconst (v := nI 1) hx hb dX1_link_23 (by decide) ?_
  refine lv_iadd hx hb dX1_link_24 ?_
  refine stN K w row4 (by omega) dX1_link_25 (fun H locs w => ?_)
  refine lv_aload_n hx hb dX1_link_26 rfl (lv_at hl 0 rfl) ?_
  refine gf_X1_isParent K w dX1_link_27 ?_
  refine lv_iload_n hx hb dX1_link_30 rfl (lv_at hl 2 rfl) ?_
  refine lv_iconst (v := nI 1) hx hb dX1_link_31 (by decide) ?_
  refine stZ K w (by omega) (by decide) dX1_link_32 (fun H locs w => ?_)
  refine lv_aload_n hx hb dX1_link_33 rfl (lv_at hl 0 rfl) ?_
  refine gf_X1_generations K w dX1_link_34 ?_
  refine lv_iload_n hx hb dX1_link_37 rfl (lv_at hl 1 rfl) ?_
  refine lv_aload_n hx hb dX1_link_38 rfl (lv_at hl 0 rfl) ?_
  refine gf_X1_generations K w dX1_link_39 ?_
  refine lv_iload_n hx hb dX1_link_42 rfl (lv_at hl 1 rfl) ?_
  refine ldN K w row3 (by omega) dX1_link_43 ?_
  refine lv_aload_n hx hb dX1_link_44 rfl (lv_at hl 0 rfl) ?_
  refine gf_X1_generations K w dX1_link_45 ?_
  refine lv_iload_n hx hb dX1_link_48 rfl (lv_at hl 2 rfl) ?_
  refine ldN K w row3 (by omega) dX1_link_49 ?_
  refine lv_iconst (v := nI 1) hx hb dX1_link_50 (by decide) ?_
  refine lv_iadd hx hb dX1_link_51 ?_
  refine mmaxN K ⟨Nat.le_trans (Nat.le_of_ble_eq_true rfl) hR.1, Nat.le_trans (Nat.le_of_ble_eq_true rfl) hR.2⟩ hf (Nat.le_of_ble_eq_true rfl) hl.1 dX1_link_52 ?_
  refine stN K w row3 (by omega) dX1_link_55 (fun H locs w => ?_)
  exact ret w dX1_link_56

theorem nI_nm1 {u : Nat} (h : u < 2147483648) : ¬ nI u = -1 := fun e => nI_pos h (e ▸ (by decide : (-1 : Int32) < 0))
set_option maxHeartbeats 4000000 in
set_option maxRecDepth 100000 in
theorem c_X1_linkUnlessNone_a {l : Launch} {E : En} {M : Mt} {n k : Nat} (dn : dN E) {q : Nat} : MV l yX1_linkUnlessNone (.code yX1_linkUnlessNone cX1_linkUnlessNone 3 none) 2 46 E [.ref (ad E 0), .int (nI q), .int (-1)] M n k  (M) (n) (k) := by
  refine MV.of dn (own := RX1) (by decide) rfl (Nat.le_of_ble_eq_true rfl) (fun p e s m args below meth c ls Q K w hl ret => ?_)
  have hx := K.1.1
  have hb := K.1.2.1
  have hR : 2 ≤ (rmA 2 46).frames ∧ 46 ≤ (rmA 2 46).locals := ⟨Nat.le_refl _, Nat.le_refl _⟩
  have hf : 0 ≤ (rmA 2 46).cells ∧ 0 ≤ (rmA 2 46).slots := ⟨Nat.le_refl _, Nat.le_refl _⟩
  have hl : lv_has ls 3 [(0, .ref (ad E 0)), (1, .int (nI q)), (2, .int (-1))] := hl
  refine lv_iload_n hx hb dX1_linkUnlessNone_0 rfl (lv_at hl 2 rfl) ?_
  refine lv_iconst (v := -1) hx hb dX1_linkUnlessNone_1 (by decide) ?_
  refine lv_icmp_eq (tgt := 11) hx hb dX1_linkUnlessNone_2 rfl (fun _ => ?_) (fun h9 => absurd (rfl : (-1 : Int32) = -1) h9)
  exact ret w dX1_linkUnlessNone_11

set_option maxHeartbeats 4000000 in
set_option maxRecDepth 100000 in
theorem c_X1_linkUnlessNone_b {l : Launch} {E : En} {M : Mt} {n k : Nat} (dn : dN E) {q u : Nat} (hq : q < 2000) (hu : u < 2000) (hj : M 4 q = nI (pcn M q)) (h4 : pcn M q < 4) : MV l yX1_linkUnlessNone (.code yX1_linkUnlessNone cX1_linkUnlessNone 3 none) 2 46 E [.ref (ad E 0), .int (nI q), .int (nI u)] M n k  (lkF M q u) (n) (k) := by
  refine MV.of dn (own := RX1) (by decide) rfl (Nat.le_of_ble_eq_true rfl) (fun p e s m args below meth c ls Q K w hl ret => ?_)
  have hx := K.1.1
  have hb := K.1.2.1
  have hR : 2 ≤ (rmA 2 46).frames ∧ 46 ≤ (rmA 2 46).locals := ⟨Nat.le_refl _, Nat.le_refl _⟩
  have hf : 0 ≤ (rmA 2 46).cells ∧ 0 ≤ (rmA 2 46).slots := ⟨Nat.le_refl _, Nat.le_refl _⟩
  have hl : lv_has ls 3 [(0, .ref (ad E 0)), (1, .int (nI q)), (2, .int (nI u))] := hl
  refine lv_iload_n hx hb dX1_linkUnlessNone_0 rfl (lv_at hl 2 rfl) ?_
  refine lv_iconst (v := -1) hx hb dX1_linkUnlessNone_1 (by decide) ?_
  refine lv_icmp_eq (tgt := 11) hx hb dX1_linkUnlessNone_2 rfl (fun h9 => absurd h9 (nI_nm1 (by omega))) (fun _ => ?_)
  refine lv_aload_n hx hb dX1_linkUnlessNone_5 rfl (lv_at hl 0 rfl) ?_
  refine lv_iload_n hx hb dX1_linkUnlessNone_6 rfl (lv_at hl 1 rfl) ?_
  refine lv_iload_n hx hb dX1_linkUnlessNone_7 rfl (lv_at hl 2 rfl) ?_
  refine callv K w (c_X1_link dn hq hu hj h4) (lk_X1_74 K ⟨Nat.le_trans (Nat.le_of_ble_eq_true rfl) hR.1, Nat.le_trans (Nat.le_of_ble_eq_true rfl) hR.2⟩) (recv0 K w) rfl hl.1 rfl (Nat.le_of_ble_eq_true rfl) dX1_linkUnlessNone_8 hf (fun H locs w => ?_)
  exact ret w dX1_linkUnlessNone_11

set_option maxHeartbeats 4000000 in
set_option maxRecDepth 100000 in
theorem c_X1_checkCommit {l : Launch} {E : En} {M : Mt} {n k : Nat} (dn : dN E) {q : Nat} (hq : q < n) (hn : n ≤ 2000) : MV l yX1_checkCommit (.code yX1_checkCommit cX1_checkCommit 2 none) 0 0 E [.ref (ad E 0), .int (nI q)] M n k  (M) (n) (k) := by
  refine MV.of dn (own := RX1) (by decide) rfl (Nat.le_of_ble_eq_true rfl) (fun p e s m args below meth c ls Q K w hl ret => ?_)
  have hx := K.1.1
  have hb := K.1.2.1
  have hR : 0 ≤ (rmA 0 0).frames ∧ 0 ≤ (rmA 0 0).locals := ⟨Nat.le_refl _, Nat.le_refl _⟩
  have hf : 0 ≤ (rmA 0 0).cells ∧ 0 ≤ (rmA 0 0).slots := ⟨Nat.le_refl _, Nat.le_refl _⟩
  have hl : lv_has ls 2 [(0, .ref (ad E 0)), (1, .int (nI q))] := hl
  refine lv_iload_n hx hb dX1_checkCommit_0 rfl (lv_at hl 1 rfl) ?_
  refine lv_if_lt (tgt := 12) hx hb dX1_checkCommit_1 rfl (fun h9 => absurd h9 (nI_pos (by omega))) (fun _ => ?_)
  refine lv_iload_n hx hb dX1_checkCommit_4 rfl (lv_at hl 1 rfl) ?_
  refine lv_aload_n hx hb dX1_checkCommit_5 rfl (lv_at hl 0 rfl) ?_
  refine gf_X1_commits K w dX1_checkCommit_6 ?_
  refine lv_icmp_lt (tgt := 22) hx hb dX1_checkCommit_9 rfl (fun _ => ?_) (fun h9 => absurd (nI_lt hq (by omega)) h9)
  exact ret w dX1_checkCommit_22

set_option maxHeartbeats 4000000 in
set_option maxRecDepth 100000 in
theorem c_X1_checkParentOrNone_a {l : Launch} {E : En} {M : Mt} {n k : Nat} (dn : dN E) : MV l yX1_checkParentOrNone (.code yX1_checkParentOrNone cX1_checkParentOrNone 2 none) 1 21 E [.ref (ad E 0), .int (-1)] M n k  (M) (n) (k) := by
  refine MV.of dn (own := RX1) (by decide) rfl (Nat.le_of_ble_eq_true rfl) (fun p e s m args below meth c ls Q K w hl ret => ?_)
  have hx := K.1.1
  have hb := K.1.2.1
  have hR : 1 ≤ (rmA 1 21).frames ∧ 21 ≤ (rmA 1 21).locals := ⟨Nat.le_refl _, Nat.le_refl _⟩
  have hf : 0 ≤ (rmA 1 21).cells ∧ 0 ≤ (rmA 1 21).slots := ⟨Nat.le_refl _, Nat.le_refl _⟩
  have hl : lv_has ls 2 [(0, .ref (ad E 0)), (1, .int (-1))] := hl
  refine lv_iload_n hx hb dX1_checkParentOrNone_0 rfl (lv_at hl 1 rfl) ?_
  refine lv_iconst (v := -1) hx hb dX1_checkParentOrNone_1 (by decide) ?_
  refine lv_icmp_eq (tgt := 10) hx hb dX1_checkParentOrNone_2 rfl (fun _ => ?_) (fun h9 => absurd (rfl : (-1 : Int32) = -1) h9)
  exact ret w dX1_checkParentOrNone_10

set_option maxHeartbeats 4000000 in
set_option maxRecDepth 100000 in
theorem c_X1_checkParentOrNone_b {l : Launch} {E : En} {M : Mt} {n k : Nat} (dn : dN E) {q : Nat} (hq : q < n) (hn : n ≤ 2000) : MV l yX1_checkParentOrNone (.code yX1_checkParentOrNone cX1_checkParentOrNone 2 none) 1 21 E [.ref (ad E 0), .int (nI q)] M n k  (M) (n) (k) := by
  refine MV.of dn (own := RX1) (by decide) rfl (Nat.le_of_ble_eq_true rfl) (fun p e s m args below meth c ls Q K w hl ret => ?_)
  have hx := K.1.1
  have hb := K.1.2.1
  have hR : 1 ≤ (rmA 1 21).frames ∧ 21 ≤ (rmA 1 21).locals := ⟨Nat.le_refl _, Nat.le_refl _⟩
  have hf : 0 ≤ (rmA 1 21).cells ∧ 0 ≤ (rmA 1 21).slots := ⟨Nat.le_refl _, Nat.le_refl _⟩
  have hl : lv_has ls 2 [(0, .ref (ad E 0)), (1, .int (nI q))] := hl
  refine lv_iload_n hx hb dX1_checkParentOrNone_0 rfl (lv_at hl 1 rfl) ?_
  refine lv_iconst (v := -1) hx hb dX1_checkParentOrNone_1 (by decide) ?_
  refine lv_icmp_eq (tgt := 10) hx hb dX1_checkParentOrNone_2 rfl (fun h9 => absurd h9 (nI_nm1 (by omega))) (fun _ => ?_)
  refine lv_aload_n hx hb dX1_checkParentOrNone_5 rfl (lv_at hl 0 rfl) ?_
  refine lv_iload_n hx hb dX1_checkParentOrNone_6 rfl (lv_at hl 1 rfl) ?_
  refine callv K w (c_X1_checkCommit dn hq hn) (lk_X1_64 K ⟨Nat.le_trans (Nat.le_of_ble_eq_true rfl) hR.1, Nat.le_trans (Nat.le_of_ble_eq_true rfl) hR.2⟩) (recv0 K w) rfl hl.1 rfl (Nat.le_of_ble_eq_true rfl) dX1_checkParentOrNone_7 hf (fun H locs w => ?_)
  exact ret w dX1_checkParentOrNone_10

set_option maxHeartbeats 4000000 in
set_option maxRecDepth 100000 in
theorem c_X1_checkHolder {l : Launch} {E : En} {M : Mt} {n k : Nat} (dn : dN E) {h : Nat} (hh : h < 2) : MV l yX1_checkHolder (.code yX1_checkHolder cX1_checkHolder 1 none) 0 0 E [.int (nI h)] M n k  (M) (n) (k) := by
  refine MV.of dn (own := RX1) (by decide) rfl (Nat.le_of_ble_eq_true rfl) (fun p e s m args below meth c ls Q K w hl ret => ?_)
  have hx := K.1.1
  have hb := K.1.2.1
  have hR : 0 ≤ (rmA 0 0).frames ∧ 0 ≤ (rmA 0 0).locals := ⟨Nat.le_refl _, Nat.le_refl _⟩
  have hf : 0 ≤ (rmA 0 0).cells ∧ 0 ≤ (rmA 0 0).slots := ⟨Nat.le_refl _, Nat.le_refl _⟩
  have hl : lv_has ls 1 [(0, .int (nI h))] := hl
  refine lv_iload_n hx hb dX1_checkHolder_0 rfl (lv_at hl 0 rfl) ?_
  refine lv_if_lt (tgt := 9) hx hb dX1_checkHolder_1 rfl (fun h9 => absurd h9 (nI_pos (by omega))) (fun _ => ?_)
  refine lv_iload_n hx hb dX1_checkHolder_4 rfl (lv_at hl 0 rfl) ?_
  refine lv_iconst (v := nI 2) hx hb dX1_checkHolder_5 (by decide) ?_
  refine lv_icmp_lt (tgt := 19) hx hb dX1_checkHolder_6 rfl (fun _ => ?_) (fun h9 => absurd (nI_lt hh (by decide)) h9)
  exact ret w dX1_checkHolder_19

set_option maxHeartbeats 4000000 in
set_option maxRecDepth 100000 in
theorem c_X1_checkPlace {l : Launch} {E : En} {M : Mt} {n k : Nat} (dn : dN E) {i j : Nat} (hi : i < j) (hj : j < 2147483648) : MV l yX1_checkPlace (.code yX1_checkPlace cX1_checkPlace 2 none) 0 0 E [.int (nI i), .int (nI j)] M n k  (M) (n) (k) := by
  refine MV.of dn (own := RX1) (by decide) rfl (Nat.le_of_ble_eq_true rfl) (fun p e s m args below meth c ls Q K w hl ret => ?_)
  have hx := K.1.1
  have hb := K.1.2.1
  have hR : 0 ≤ (rmA 0 0).frames ∧ 0 ≤ (rmA 0 0).locals := ⟨Nat.le_refl _, Nat.le_refl _⟩
  have hf : 0 ≤ (rmA 0 0).cells ∧ 0 ≤ (rmA 0 0).slots := ⟨Nat.le_refl _, Nat.le_refl _⟩
  have hl : lv_has ls 2 [(0, .int (nI i)), (1, .int (nI j))] := hl
  refine lv_iload_n hx hb dX1_checkPlace_0 rfl (lv_at hl 0 rfl) ?_
  refine lv_if_lt (tgt := 9) hx hb dX1_checkPlace_1 rfl (fun h9 => absurd h9 (nI_pos (by omega))) (fun _ => ?_)
  refine lv_iload_n hx hb dX1_checkPlace_4 rfl (lv_at hl 0 rfl) ?_
  refine lv_iload_n hx hb dX1_checkPlace_5 rfl (lv_at hl 1 rfl) ?_
  refine lv_icmp_lt (tgt := 19) hx hb dX1_checkPlace_6 rfl (fun _ => ?_) (fun h9 => absurd (nI_lt hi hj) h9)
  exact ret w dX1_checkPlace_19
