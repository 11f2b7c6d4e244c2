set_option maxHeartbeats 4000000 in
set_option maxRecDepth 100000 in
theorem c_X1_told_0 {l : Launch} {E : En} {M : Mt} {n k : Nat} (dn : dN E) {q : Nat} (hq : q < n) (hn : n ≤ 2000) : MI l yX1_told (.code yX1_told cX1_told 3 (some .int)) 1 21 E [.ref (ad E 0), .int (nI q), .int (nI 0)] M n k (M 1 q)  (M) (n) (k) := by
  refine MI.of dn (own := RX1) (by decide) rfl (Nat.le_of_ble_eq_true rfl) (fun p e s m args below meth c ls Q K w hl ret => ?_)
  have hx := K.1.1
  have hb := K.1.2.1
  have hR : 1 ≤ (rmA 1 21).frames ∧ 21 ≤ (rmA 1 21).locals := ⟨Nat.le_refl _, Nat.le_refl _⟩
  have hf : 0 ≤ (rmA 1 21).cells ∧ 0 ≤ (rmA 1 21).slots := ⟨Nat.le_refl _, Nat.le_refl _⟩
  have hl : lv_has ls 3 [(0, .ref (ad E 0)), (1, .int (nI q)), (2, .int (nI 0))] := hl
  refine lv_aload_n hx hb dX1_told_0 rfl (lv_at hl 0 rfl) ?_
  refine lv_iload_n hx hb dX1_told_1 rfl (lv_at hl 1 rfl) ?_
  refine callv K w (c_X1_checkCommit dn hq hn) (lk_X1_64 K ⟨Nat.le_trans (Nat.le_of_ble_eq_true rfl) hR.1, Nat.le_trans (Nat.le_of_ble_eq_true rfl) hR.2⟩) (recv0 K w) rfl hl.1 rfl (Nat.le_of_ble_eq_true rfl) dX1_told_2 hf (fun H locs w => ?_)
  refine lv_iload_n hx hb dX1_told_5 rfl (lv_at hl 2 rfl) ?_
  refine lv_tableIn (off := 34) (tgt := 40) hx hb dX1_told_6 (by decide) (by decide) (by decide) rfl ?_
  refine lv_aload_n hx hb dX1_told_40 rfl (lv_at hl 0 rfl) ?_
  refine gf_X1_times K w dX1_told_41 ?_
  refine lv_iload_n hx hb dX1_told_44 rfl (lv_at hl 1 rfl) ?_
  refine ldN K w row1 (by omega) dX1_told_45 ?_
  exact ret w rfl dX1_told_46

set_option maxHeartbeats 4000000 in
set_option maxRecDepth 100000 in
theorem c_X1_told_1 {l : Launch} {E : En} {M : Mt} {n k : Nat} (dn : dN E) {q : Nat} (hq : q < n) (hn : n ≤ 2000) : MI l yX1_told (.code yX1_told cX1_told 3 (some .int)) 1 21 E [.ref (ad E 0), .int (nI q), .int (nI 1)] M n k (M 2 q)  (M) (n) (k) := by
  refine MI.of dn (own := RX1) (by decide) rfl (Nat.le_of_ble_eq_true rfl) (fun p e s m args below meth c ls Q K w hl ret => ?_)
  have hx := K.1.1
  have hb := K.1.2.1
  have hR : 1 ≤ (rmA 1 21).frames ∧ 21 ≤ (rmA 1 21).locals := ⟨Nat.le_refl _, Nat.le_refl _⟩
  have hf : 0 ≤ (rmA 1 21).cells ∧ 0 ≤ (rmA 1 21).slots := ⟨Nat.le_refl _, Nat.le_refl _⟩
  have hl : lv_has ls 3 [(0, .ref (ad E 0)), (1, .int (nI q)), (2, .int (nI 1))] := hl
  refine lv_aload_n hx hb dX1_told_0 rfl (lv_at hl 0 rfl) ?_
  refine lv_iload_n hx hb dX1_told_1 rfl (lv_at hl 1 rfl) ?_
  refine callv K w (c_X1_checkCommit dn hq hn) (lk_X1_64 K ⟨Nat.le_trans (Nat.le_of_ble_eq_true rfl) hR.1, Nat.le_trans (Nat.le_of_ble_eq_true rfl) hR.2⟩) (recv0 K w) rfl hl.1 rfl (Nat.le_of_ble_eq_true rfl) dX1_told_2 hf (fun H locs w => ?_)
  refine lv_iload_n hx hb dX1_told_5 rfl (lv_at hl 2 rfl) ?_
  refine lv_tableIn (off := 41) (tgt := 47) hx hb dX1_told_6 (by decide) (by decide) (by decide) rfl ?_
  refine lv_aload_n hx hb dX1_told_47 rfl (lv_at hl 0 rfl) ?_
  refine gf_X1_keys K w dX1_told_48 ?_
  refine lv_iload_n hx hb dX1_told_51 rfl (lv_at hl 1 rfl) ?_
  refine ldN K w row2 (by omega) dX1_told_52 ?_
  exact ret w rfl dX1_told_53

set_option maxHeartbeats 4000000 in
set_option maxRecDepth 100000 in
theorem c_X1_told_2 {l : Launch} {E : En} {M : Mt} {n k : Nat} (dn : dN E) {q : Nat} (hq : q < n) (hn : n ≤ 2000) : MI l yX1_told (.code yX1_told cX1_told 3 (some .int)) 1 21 E [.ref (ad E 0), .int (nI q), .int (nI 2)] M n k (M 4 q)  (M) (n) (k) := by
  refine MI.of dn (own := RX1) (by decide) rfl (Nat.le_of_ble_eq_true rfl) (fun p e s m args below meth c ls Q K w hl ret => ?_)
  have hx := K.1.1
  have hb := K.1.2.1
  have hR : 1 ≤ (rmA 1 21).frames ∧ 21 ≤ (rmA 1 21).locals := ⟨Nat.le_refl _, Nat.le_refl _⟩
  have hf : 0 ≤ (rmA 1 21).cells ∧ 0 ≤ (rmA 1 21).slots := ⟨Nat.le_refl _, Nat.le_refl _⟩
  have hl : lv_has ls 3 [(0, .ref (ad E 0)), (1, .int (nI q)), (2, .int (nI 2))] := hl
  refine lv_aload_n hx hb dX1_told_0 rfl (lv_at hl 0 rfl) ?_
  refine lv_iload_n hx hb dX1_told_1 rfl (lv_at hl 1 rfl) ?_
  refine callv K w (c_X1_checkCommit dn hq hn) (lk_X1_64 K ⟨Nat.le_trans (Nat.le_of_ble_eq_true rfl) hR.1, Nat.le_trans (Nat.le_of_ble_eq_true rfl) hR.2⟩) (recv0 K w) rfl hl.1 rfl (Nat.le_of_ble_eq_true rfl) dX1_told_2 hf (fun H locs w => ?_)
  refine lv_iload_n hx hb dX1_told_5 rfl (lv_at hl 2 rfl) ?_
  refine lv_tableIn (off := 48) (tgt := 54) hx hb dX1_told_6 (by decide) (by decide) (by decide) rfl ?_
  refine lv_aload_n hx hb dX1_told_54 rfl (lv_at hl 0 rfl) ?_
  refine gf_X1_parentCounts K w dX1_told_55 ?_
  refine lv_iload_n hx hb dX1_told_58 rfl (lv_at hl 1 rfl) ?_
  refine ldN K w row4 (by omega) dX1_told_59 ?_
  exact ret w rfl dX1_told_60

set_option maxHeartbeats 4000000 in
set_option maxRecDepth 100000 in
theorem c_X1_told_3 {l : Launch} {E : En} {M : Mt} {n k : Nat} (dn : dN E) {q : Nat} (hq : q < n) (hn : n ≤ 2000) : MI l yX1_told (.code yX1_told cX1_told 3 (some .int)) 1 21 E [.ref (ad E 0), .int (nI q), .int (nI 3)] M n k (M 3 q)  (M) (n) (k) := by
  refine MI.of dn (own := RX1) (by decide) rfl (Nat.le_of_ble_eq_true rfl) (fun p e s m args below meth c ls Q K w hl ret => ?_)
  have hx := K.1.1
  have hb := K.1.2.1
  have hR : 1 ≤ (rmA 1 21).frames ∧ 21 ≤ (rmA 1 21).locals := ⟨Nat.le_refl _, Nat.le_refl _⟩
  have hf : 0 ≤ (rmA 1 21).cells ∧ 0 ≤ (rmA 1 21).slots := ⟨Nat.le_refl _, Nat.le_refl _⟩
  have hl : lv_has ls 3 [(0, .ref (ad E 0)), (1, .int (nI q)), (2, .int (nI 3))] := hl
  refine lv_aload_n hx hb dX1_told_0 rfl (lv_at hl 0 rfl) ?_
  refine lv_iload_n hx hb dX1_told_1 rfl (lv_at hl 1 rfl) ?_
  refine callv K w (c_X1_checkCommit dn hq hn) (lk_X1_64 K ⟨Nat.le_trans (Nat.le_of_ble_eq_true rfl) hR.1, Nat.le_trans (Nat.le_of_ble_eq_true rfl) hR.2⟩) (recv0 K w) rfl hl.1 rfl (Nat.le_of_ble_eq_true rfl) dX1_told_2 hf (fun H locs w => ?_)
  refine lv_iload_n hx hb dX1_told_5 rfl (lv_at hl 2 rfl) ?_
  refine lv_tableIn (off := 55) (tgt := 61) hx hb dX1_told_6 (by decide) (by decide) (by decide) rfl ?_
  refine lv_aload_n hx hb dX1_told_61 rfl (lv_at hl 0 rfl) ?_
  refine gf_X1_generations K w dX1_told_62 ?_
  refine lv_iload_n hx hb dX1_told_65 rfl (lv_at hl 1 rfl) ?_
  refine ldN K w row3 (by omega) dX1_told_66 ?_
  exact ret w rfl dX1_told_67

set_option maxHeartbeats 4000000 in
set_option maxRecDepth 100000 in
theorem c_X1_count_0 {l : Launch} {E : En} {M : Mt} {n k : Nat} (dn : dN E) (ok : okN M n) : MI l yX1_count (.code yX1_count cX1_count 2 (some .int)) 4 88 E [.ref (ad E 0), .int (nI 0)] M n k (nI n)  (M) (n) (k) := by
  refine MI.of dn (own := RX1) (by decide) rfl (Nat.le_of_ble_eq_true rfl) (fun p e s m args below meth c ls Q K w hl ret => ?_)
  have hx := K.1.1
  have hb := K.1.2.1
  have hR : 4 ≤ (rmA 4 88).frames ∧ 88 ≤ (rmA 4 88).locals := ⟨Nat.le_refl _, Nat.le_refl _⟩
  have hf : 0 ≤ (rmA 4 88).cells ∧ 0 ≤ (rmA 4 88).slots := ⟨Nat.le_refl _, Nat.le_refl _⟩
  have hl : lv_has ls 2 [(0, .ref (ad E 0)), (1, .int (nI 0))] := hl
  refine lv_iload_n hx hb dX1_count_0 rfl (lv_at hl 1 rfl) ?_
  refine lv_tableIn (off := 43) (tgt := 44) hx hb dX1_count_1 (by decide) (by decide) (by decide) rfl ?_
  refine lv_aload_n hx hb dX1_count_44 rfl (lv_at hl 0 rfl) ?_
  refine gf_X1_commits K w dX1_count_45 ?_
  exact ret w rfl dX1_count_48

set_option maxHeartbeats 4000000 in
set_option maxRecDepth 100000 in
theorem c_X1_count_1 {l : Launch} {E : En} {M : Mt} {n k : Nat} (dn : dN E) (ok : okN M n) : MI l yX1_count (.code yX1_count cX1_count 2 (some .int)) 4 88 E [.ref (ad E 0), .int (nI 1)] M n k (nI (cnF (fun j => decide (¬ M 7 j &&& sdF 0 = 0)) n 0 0))  (M) (n) (k) := by
  refine MI.of dn (own := RX1) (by decide) rfl (Nat.le_of_ble_eq_true rfl) (fun p e s m args below meth c ls Q K w hl ret => ?_)
  have hx := K.1.1
  have hb := K.1.2.1
  have hR : 4 ≤ (rmA 4 88).frames ∧ 88 ≤ (rmA 4 88).locals := ⟨Nat.le_refl _, Nat.le_refl _⟩
  have hf : 0 ≤ (rmA 4 88).cells ∧ 0 ≤ (rmA 4 88).slots := ⟨Nat.le_refl _, Nat.le_refl _⟩
  have hl : lv_has ls 2 [(0, .ref (ad E 0)), (1, .int (nI 1))] := hl
  refine lv_iload_n hx hb dX1_count_0 rfl (lv_at hl 1 rfl) ?_
  refine lv_tableIn (off := 48) (tgt := 49) hx hb dX1_count_1 (by decide) (by decide) (by decide) rfl ?_
  refine lv_aload_n hx hb dX1_count_49 rfl (lv_at hl 0 rfl) ?_
  refine lv_iconst (v := nI 0) hx hb dX1_count_50 (by decide) ?_
  refine calli K w (c_X1_tipsOf dn (by decide) ok.1) (lk_X1_137 K ⟨Nat.le_trans (Nat.le_of_ble_eq_true rfl) hR.1, Nat.le_trans (Nat.le_of_ble_eq_true rfl) hR.2⟩) (recv0 K w) rfl hl.1 rfl (Nat.le_of_ble_eq_true rfl) dX1_count_51 hf (fun H locs w => ?_)
  exact ret w rfl dX1_count_54

set_option maxHeartbeats 4000000 in
set_option maxRecDepth 100000 in
theorem c_X1_count_2 {l : Launch} {E : En} {M : Mt} {n k : Nat} (dn : dN E) (ok : okN M n) : MI l yX1_count (.code yX1_count cX1_count 2 (some .int)) 4 88 E [.ref (ad E 0), .int (nI 2)] M n k (nI (cnF (fun j => decide (¬ M 7 j &&& sdF 1 = 0)) n 0 0))  (M) (n) (k) := by
  refine MI.of dn (own := RX1) (by decide) rfl (Nat.le_of_ble_eq_true rfl) (fun p e s m args below meth c ls Q K w hl ret => ?_)
  have hx := K.1.1
  have hb := K.1.2.1
  have hR : 4 ≤ (rmA 4 88).frames ∧ 88 ≤ (rmA 4 88).locals := ⟨Nat.le_refl _, Nat.le_refl _⟩
  have hf : 0 ≤ (rmA 4 88).cells ∧ 0 ≤ (rmA 4 88).slots := ⟨Nat.le_refl _, Nat.le_refl _⟩
  have hl : lv_has ls 2 [(0, .ref (ad E 0)), (1, .int (nI 2))] := hl
  refine lv_iload_n hx hb dX1_count_0 rfl (lv_at hl 1 rfl) ?_
  refine lv_tableIn (off := 54) (tgt := 55) hx hb dX1_count_1 (by decide) (by decide) (by decide) rfl ?_
  refine lv_aload_n hx hb dX1_count_55 rfl (lv_at hl 0 rfl) ?_
  refine lv_iconst (v := nI 1) hx hb dX1_count_56 (by decide) ?_
  refine calli K w (c_X1_tipsOf dn (by decide) ok.1) (lk_X1_137 K ⟨Nat.le_trans (Nat.le_of_ble_eq_true rfl) hR.1, Nat.le_trans (Nat.le_of_ble_eq_true rfl) hR.2⟩) (recv0 K w) rfl hl.1 rfl (Nat.le_of_ble_eq_true rfl) dX1_count_57 hf (fun H locs w => ?_)
  exact ret w rfl dX1_count_60

set_option maxHeartbeats 4000000 in
set_option maxRecDepth 100000 in
theorem c_X1_count_3 {l : Launch} {E : En} {M : Mt} {n k : Nat} (dn : dN E) (ok : okN M n) : MI l yX1_count (.code yX1_count cX1_count 2 (some .int)) 4 88 E [.ref (ad E 0), .int (nI 3)] M n k (ggF (M 3) n 0 (nI 0))  (M) (n) (k) := by
  refine MI.of dn (own := RX1) (by decide) rfl (Nat.le_of_ble_eq_true rfl) (fun p e s m args below meth c ls Q K w hl ret => ?_)
  have hx := K.1.1
  have hb := K.1.2.1
  have hR : 4 ≤ (rmA 4 88).frames ∧ 88 ≤ (rmA 4 88).locals := ⟨Nat.le_refl _, Nat.le_refl _⟩
  have hf : 0 ≤ (rmA 4 88).cells ∧ 0 ≤ (rmA 4 88).slots := ⟨Nat.le_refl _, Nat.le_refl _⟩
  have hl : lv_has ls 2 [(0, .ref (ad E 0)), (1, .int (nI 3))] := hl
  refine lv_iload_n hx hb dX1_count_0 rfl (lv_at hl 1 rfl) ?_
  refine lv_tableIn (off := 60) (tgt := 61) hx hb dX1_count_1 (by decide) (by decide) (by decide) rfl ?_
  refine lv_aload_n hx hb dX1_count_61 rfl (lv_at hl 0 rfl) ?_
  refine calli K w (c_X1_greatestGeneration dn ok.1) (lk_X1_140 K ⟨Nat.le_trans (Nat.le_of_ble_eq_true rfl) hR.1, Nat.le_trans (Nat.le_of_ble_eq_true rfl) hR.2⟩) (recv0 K w) rfl hl.1 rfl (Nat.le_of_ble_eq_true rfl) dX1_count_62 hf (fun H locs w => ?_)
  exact ret w rfl dX1_count_65

set_option maxHeartbeats 4000000 in
set_option maxRecDepth 100000 in
theorem c_X1_count_4 {l : Launch} {E : En} {M : Mt} {n k : Nat} (dn : dN E) (ok : okN M n) : MI l yX1_count (.code yX1_count cX1_count 2 (some .int)) 4 88 E [.ref (ad E 0), .int (nI 4)] M n k (nI (cnF (fun j => decide (M 6 j = 0)) n 0 0))  (M) (n) (k) := by
  refine MI.of dn (own := RX1) (by decide) rfl (Nat.le_of_ble_eq_true rfl) (fun p e s m args below meth c ls Q K w hl ret => ?_)
  have hx := K.1.1
  have hb := K.1.2.1
  have hR : 4 ≤ (rmA 4 88).frames ∧ 88 ≤ (rmA 4 88).locals := ⟨Nat.le_refl _, Nat.le_refl _⟩
  have hf : 0 ≤ (rmA 4 88).cells ∧ 0 ≤ (rmA 4 88).slots := ⟨Nat.le_refl _, Nat.le_refl _⟩
  have hl : lv_has ls 2 [(0, .ref (ad E 0)), (1, .int (nI 4))] := hl
  refine lv_iload_n hx hb dX1_count_0 rfl (lv_at hl 1 rfl) ?_
  refine lv_tableIn (off := 65) (tgt := 66) hx hb dX1_count_1 (by decide) (by decide) (by decide) rfl ?_
  refine lv_aload_n hx hb dX1_count_66 rfl (lv_at hl 0 rfl) ?_
  refine calli K w (c_X1_childlessCommits dn ok.1) (lk_X1_143 K ⟨Nat.le_trans (Nat.le_of_ble_eq_true rfl) hR.1, Nat.le_trans (Nat.le_of_ble_eq_true rfl) hR.2⟩) (recv0 K w) rfl hl.1 rfl (Nat.le_of_ble_eq_true rfl) dX1_count_67 hf (fun H locs w => ?_)
  exact ret w rfl dX1_count_70

set_option maxHeartbeats 4000000 in
set_option maxRecDepth 100000 in
theorem c_X1_count_5 {l : Launch} {E : En} {M : Mt} {n k : Nat} (dn : dN E) (ok : okN M n) : MI l yX1_count (.code yX1_count cX1_count 2 (some .int)) 4 88 E [.ref (ad E 0), .int (nI 5)] M n k (nI (cnF (fun j => cmF (hlF M n) j) n 0 0))  (hlF M n) (n) (k) := by
  refine MI.of dn (own := RX1) (by decide) rfl (Nat.le_of_ble_eq_true rfl) (fun p e s m args below meth c ls Q K w hl ret => ?_)
  have hx := K.1.1
  have hb := K.1.2.1
  have hR : 4 ≤ (rmA 4 88).frames ∧ 88 ≤ (rmA 4 88).locals := ⟨Nat.le_refl _, Nat.le_refl _⟩
  have hf : 0 ≤ (rmA 4 88).cells ∧ 0 ≤ (rmA 4 88).slots := ⟨Nat.le_refl _, Nat.le_refl _⟩
  have hl : lv_has ls 2 [(0, .ref (ad E 0)), (1, .int (nI 5))] := hl
  refine lv_iload_n hx hb dX1_count_0 rfl (lv_at hl 1 rfl) ?_
  refine lv_tableIn (off := 70) (tgt := 71) hx hb dX1_count_1 (by decide) (by decide) (by decide) rfl ?_
  refine lv_aload_n hx hb dX1_count_71 rfl (lv_at hl 0 rfl) ?_
  refine calli K w (c_X1_commonCommits dn ok) (lk_X1_146 K ⟨Nat.le_trans (Nat.le_of_ble_eq_true rfl) hR.1, Nat.le_trans (Nat.le_of_ble_eq_true rfl) hR.2⟩) (recv0 K w) rfl hl.1 rfl (Nat.le_of_ble_eq_true rfl) dX1_count_72 hf (fun H locs w => ?_)
  exact ret w rfl dX1_count_75

set_option maxHeartbeats 4000000 in
set_option maxRecDepth 100000 in
theorem c_X1_count_6 {l : Launch} {E : En} {M : Mt} {n k : Nat} (dn : dN E) (ok : okN M n) : MI l yX1_count (.code yX1_count cX1_count 2 (some .int)) 4 88 E [.ref (ad E 0), .int (nI 6)] M n k (nI 0)  (M) (n) (k) := by
  refine MI.of dn (own := RX1) (by decide) rfl (Nat.le_of_ble_eq_true rfl) (fun p e s m args below meth c ls Q K w hl ret => ?_)
  have hx := K.1.1
  have hb := K.1.2.1
  have hR : 4 ≤ (rmA 4 88).frames ∧ 88 ≤ (rmA 4 88).locals := ⟨Nat.le_refl _, Nat.le_refl _⟩
  have hf : 0 ≤ (rmA 4 88).cells ∧ 0 ≤ (rmA 4 88).slots := ⟨Nat.le_refl _, Nat.le_refl _⟩
  have hl : lv_has ls 2 [(0, .ref (ad E 0)), (1, .int (nI 6))] := hl
  refine lv_iload_n hx hb dX1_count_0 rfl (lv_at hl 1 rfl) ?_
  refine lv_tableIn (off := 75) (tgt := 76) hx hb dX1_count_1 (by decide) (by decide) (by decide) rfl ?_
  refine lv_aload_n hx hb dX1_count_76 rfl (lv_at hl 0 rfl) ?_
  refine calli K w (c_X1_misplacedCommits dn ok) (lk_X1_149 K ⟨Nat.le_trans (Nat.le_of_ble_eq_true rfl) hR.1, Nat.le_trans (Nat.le_of_ble_eq_true rfl) hR.2⟩) (recv0 K w) rfl hl.1 rfl (Nat.le_of_ble_eq_true rfl) dX1_count_77 hf (fun H locs w => ?_)
  exact ret w rfl dX1_count_80

set_option maxHeartbeats 4000000 in
set_option maxRecDepth 100000 in
theorem c_X1_count_o {l : Launch} {E : En} {M : Mt} {n k : Nat} (dn : dN E) {x : Int32} (hx0 : x.toInt < 0 ∨ 6 < x.toInt) : MI l yX1_count (.code yX1_count cX1_count 2 (some .int)) 4 88 E [.ref (ad E 0), .int x] M n k (-1)  (M) (n) (k) := by
  refine MI.of dn (own := RX1) (by decide) rfl (Nat.le_of_ble_eq_true rfl) (fun p e s m args below meth c ls Q K w hl ret => ?_)
  have hx := K.1.1
  have hb := K.1.2.1
  have hR : 4 ≤ (rmA 4 88).frames ∧ 88 ≤ (rmA 4 88).locals := ⟨Nat.le_refl _, Nat.le_refl _⟩
  have hf : 0 ≤ (rmA 4 88).cells ∧ 0 ≤ (rmA 4 88).slots := ⟨Nat.le_refl _, Nat.le_refl _⟩
  have hl : lv_has ls 2 [(0, .ref (ad E 0)), (1, .int x)] := hl
  refine lv_iload_n hx hb dX1_count_0 rfl (lv_at hl 1 rfl) ?_
  refine lv_tableOut (tgt := 81) hx hb dX1_count_1 hx0 rfl ?_
  refine lv_iconst (v := -1) hx hb dX1_count_81 (by decide) ?_
  exact ret w rfl dX1_count_82
