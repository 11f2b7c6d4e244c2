theorem bI_0 {b : Bool} (h : bI b = 0) : b = false := by
  cases b with
  | false => rfl
  | true => exact absurd h (by decide)
theorem bI_n {b : Bool} (h : ¬ bI b = 0) : b = true := by
  cases b with
  | false => exact absurd rfl h
  | true => rfl
theorem bI_z (b : Bool) : bI b = 0 ∨ bI b = 1 := by
  cases b with
  | false => exact Or.inl rfl
  | true => exact Or.inr rfl
theorem lt_nle {a b : Int32} (h : ¬ b ≤ a) : a < b := by
  simp only [Int32.lt_iff_toInt_lt, Int32.le_iff_toInt_le] at h ⊢
  omega
theorem nlt_le {a b : Int32} (h : b ≤ a) : ¬ a < b := by
  simp only [Int32.lt_iff_toInt_lt, Int32.le_iff_toInt_le] at h ⊢
  omega
theorem nI_pp {q : Nat} (h0 : 0 < q) (h : q < 2147483648) : (0 : Int32) < nI q := lt_nle (nI_nle h0 h)
theorem cb_a {M : Mt} {x y : Nat} (h : ¬ M 11 x = M 11 y) (h2 : ¬ M 11 y ≤ M 11 x) : nI 1 = bI (cbF M x y) := by
  rw [cbF, if_neg h, decide_eq_true (lt_nle h2)]; rfl
theorem cb_b {M : Mt} {x y : Nat} (h : ¬ M 11 x = M 11 y) (h2 : M 11 y ≤ M 11 x) : nI 0 = bI (cbF M x y) := by
  rw [cbF, if_neg h, decide_eq_false (nlt_le h2)]; rfl
theorem cb_c {M : Mt} {x y : Nat} (h : M 11 x = M 11 y) (h1 : ¬ M 12 x = M 12 y) (h2 : ¬ M 12 y ≤ M 12 x) : nI 1 = bI (cbF M x y) := by
  rw [cbF, if_pos h, if_neg h1, decide_eq_true (lt_nle h2)]; rfl
theorem cb_d {M : Mt} {x y : Nat} (h : M 11 x = M 11 y) (h1 : ¬ M 12 x = M 12 y) (h2 : M 12 y ≤ M 12 x) : nI 0 = bI (cbF M x y) := by
  rw [cbF, if_pos h, if_neg h1, decide_eq_false (nlt_le h2)]; rfl
theorem cb_e {M : Mt} {x y : Nat} (h : M 11 x = M 11 y) (h1 : M 12 x = M 12 y) (h2 : ¬ M 13 y ≤ M 13 x) : nI 1 = bI (cbF M x y) := by
  rw [cbF, if_pos h, if_pos h1, decide_eq_true (lt_nle h2)]; rfl
theorem cb_f {M : Mt} {x y : Nat} (h : M 11 x = M 11 y) (h1 : M 12 x = M 12 y) (h2 : M 13 y ≤ M 13 x) : nI 0 = bI (cbF M x y) := by
  rw [cbF, if_pos h, if_pos h1, decide_eq_false (nlt_le h2)]; rfl

set_option maxHeartbeats 4000000 in
set_option maxRecDepth 100000 in
theorem c_X0_clear {l : Launch} {E : En} {M : Mt} {n k : Nat} (dn : dN E) : MV l yX0_clear (.code yX0_clear cX0_clear 1 none) 0 0 E [.ref (ad E 10)] M n k  (M) (n) (0) := by
  refine MV.of dn (own := RX0) (by decide) rfl (Nat.le_of_ble_eq_true rfl) (fun p e s m args below meth c ls Q K w hl ret => ?_)
  have hx := K.1.1
  have hb := K.1.2.1
  have hR : 0 ≤ (rmA 0 0).frames ∧ 0 ≤ (rmA 0 0).locals := ⟨Nat.le_refl _, Nat.le_refl _⟩
  have hf : 0 ≤ (rmA 0 0).cells ∧ 0 ≤ (rmA 0 0).slots := ⟨Nat.le_refl _, Nat.le_refl _⟩
  have hl : lv_has ls 1 [(0, .ref (ad E 10))] := hl
  refine lv_aload_n hx hb dX0_clear_0 rfl (lv_at hl 0 rfl) ?_
  refine lv_iconst (v := nI 0) hx hb dX0_clear_1 (by decide) ?_
  refine pf_X0_size K w rfl dX0_clear_2 (fun H locs w => ?_)
  exact ret w dX0_clear_5

set_option maxHeartbeats 4000000 in
set_option maxRecDepth 100000 in
theorem c_X0_size {l : Launch} {E : En} {M : Mt} {n k : Nat} (dn : dN E) : MI l yX0_size (.code yX0_size cX0_size 1 (some .int)) 0 0 E [.ref (ad E 10)] M n k (nI k)  (M) (n) (k) := by
  refine MI.of dn (own := RX0) (by decide) rfl (Nat.le_of_ble_eq_true rfl) (fun p e s m args below meth c ls Q K w hl ret => ?_)
  have hx := K.1.1
  have hb := K.1.2.1
  have hR : 0 ≤ (rmA 0 0).frames ∧ 0 ≤ (rmA 0 0).locals := ⟨Nat.le_refl _, Nat.le_refl _⟩
  have hf : 0 ≤ (rmA 0 0).cells ∧ 0 ≤ (rmA 0 0).slots := ⟨Nat.le_refl _, Nat.le_refl _⟩
  have hl : lv_has ls 1 [(0, .ref (ad E 10))] := hl
  refine lv_aload_n hx hb dX0_size_0 rfl (lv_at hl 0 rfl) ?_
  refine gf_X0_size K w dX0_size_1 ?_
  exact ret w rfl dX0_size_4

set_option maxHeartbeats 4000000 in
set_option maxRecDepth 100000 in
theorem c_X0_comesBefore {l : Launch} {E : En} {M : Mt} {n k : Nat} (dn : dN E) {x y : Nat} (h1 : x < 2000) (h2 : y < 2000) : MI l yX0_comesBefore (.code yX0_comesBefore cX0_comesBefore 3 (some .boolean)) 0 0 E [.ref (ad E 10), .int (nI x), .int (nI y)] M n k (bI (cbF M x y))  (M) (n) (k) := by
  refine MI.ofZ dn (own := RX0) (by decide) rfl (Nat.le_of_ble_eq_true rfl) (bI_z _) (fun p e s m args below meth c ls Q K w hl ret => ?_)
  have hx := K.1.1
  have hb := K.1.2.1
  have hR : 0 ≤ (rmA 0 0).frames ∧ 0 ≤ (rmA 0 0).locals := ⟨Nat.le_refl _, Nat.le_refl _⟩
  have hf : 0 ≤ (rmA 0 0).cells ∧ 0 ≤ (rmA 0 0).slots := ⟨Nat.le_refl _, Nat.le_refl _⟩
  have hl : lv_has ls 3 [(0, .ref (ad E 10)), (1, .int (nI x)), (2, .int (nI y))] := hl
  refine lv_aload_n hx hb dX0_comesBefore_0 rfl (lv_at hl 0 rfl) ?_
  refine gf_X0_ranks K w dX0_comesBefore_1 ?_
  refine lv_iload_n hx hb dX0_comesBefore_4 rfl (lv_at hl 1 rfl) ?_
  refine ldN K w row11 (by omega) dX0_comesBefore_5 ?_
  refine lv_aload_n hx hb dX0_comesBefore_6 rfl (lv_at hl 0 rfl) ?_
  refine gf_X0_ranks K w dX0_comesBefore_7 ?_
  refine lv_iload_n hx hb dX0_comesBefore_10 rfl (lv_at hl 2 rfl) ?_
  refine ldN K w row11 (by omega) dX0_comesBefore_11 ?_
  refine lv_icmp_eq (tgt := 36) hx hb dX0_comesBefore_12 rfl (fun h12 => ?_) (fun h12 => ?_)
  · refine lv_aload_n hx hb dX0_comesBefore_36 rfl (lv_at hl 0 rfl) ?_
    refine gf_X0_keys K w dX0_comesBefore_37 ?_
    refine lv_iload_n hx hb dX0_comesBefore_40 rfl (lv_at hl 1 rfl) ?_
    refine ldN K w row12 (by omega) dX0_comesBefore_41 ?_
    refine lv_aload_n hx hb dX0_comesBefore_42 rfl (lv_at hl 0 rfl) ?_
    refine gf_X0_keys K w dX0_comesBefore_43 ?_
    refine lv_iload_n hx hb dX0_comesBefore_46 rfl (lv_at hl 2 rfl) ?_
    refine ldN K w row12 (by omega) dX0_comesBefore_47 ?_
    refine lv_icmp_eq (tgt := 72) hx hb dX0_comesBefore_48 rfl (fun h48 => ?_) (fun h48 => ?_)
    · refine lv_aload_n hx hb dX0_comesBefore_72 rfl (lv_at hl 0 rfl) ?_
      refine gf_X0_numbers K w dX0_comesBefore_73 ?_
      refine lv_iload_n hx hb dX0_comesBefore_76 rfl (lv_at hl 1 rfl) ?_
      refine ldN K w row13 (by omega) dX0_comesBefore_77 ?_
      refine lv_aload_n hx hb dX0_comesBefore_78 rfl (lv_at hl 0 rfl) ?_
      refine gf_X0_numbers K w dX0_comesBefore_79 ?_
      refine lv_iload_n hx hb dX0_comesBefore_82 rfl (lv_at hl 2 rfl) ?_
      refine ldN K w row13 (by omega) dX0_comesBefore_83 ?_
      refine lv_icmp_ge (tgt := 91) hx hb dX0_comesBefore_84 rfl (fun h84 => ?_) (fun h84 => ?_)
      · refine lv_iconst (v := nI 0) hx hb dX0_comesBefore_91 (by decide) ?_
        exact ret w (by first | exact cb_e h12 h48 h84 | exact cb_f h12 h48 h84) dX0_comesBefore_92
      · refine lv_iconst (v := nI 1) hx hb dX0_comesBefore_87 (by decide) ?_
        refine lv_goto (tgt := 92) hx hb dX0_comesBefore_88 rfl ?_
        exact ret w (by first | exact cb_e h12 h48 h84 | exact cb_f h12 h48 h84) dX0_comesBefore_92
    · refine lv_aload_n hx hb dX0_comesBefore_51 rfl (lv_at hl 0 rfl) ?_
      refine gf_X0_keys K w dX0_comesBefore_52 ?_
      refine lv_iload_n hx hb dX0_comesBefore_55 rfl (lv_at hl 1 rfl) ?_
      refine ldN K w row12 (by omega) dX0_comesBefore_56 ?_
      refine lv_aload_n hx hb dX0_comesBefore_57 rfl (lv_at hl 0 rfl) ?_
      refine gf_X0_keys K w dX0_comesBefore_58 ?_
      refine lv_iload_n hx hb dX0_comesBefore_61 rfl (lv_at hl 2 rfl) ?_
      refine ldN K w row12 (by omega) dX0_comesBefore_62 ?_
      refine lv_icmp_ge (tgt := 70) hx hb dX0_comesBefore_63 rfl (fun h63 => ?_) (fun h63 => ?_)
      · refine lv_iconst (v := nI 0) hx hb dX0_comesBefore_70 (by decide) ?_
        exact ret w (by first | exact cb_c h12 h48 h63 | exact cb_d h12 h48 h63) dX0_comesBefore_71
      · refine lv_iconst (v := nI 1) hx hb dX0_comesBefore_66 (by decide) ?_
        refine lv_goto (tgt := 71) hx hb dX0_comesBefore_67 rfl ?_
        exact ret w (by first | exact cb_c h12 h48 h63 | exact cb_d h12 h48 h63) dX0_comesBefore_71
  · refine lv_aload_n hx hb dX0_comesBefore_15 rfl (lv_at hl 0 rfl) ?_
    refine gf_X0_ranks K w dX0_comesBefore_16 ?_
    refine lv_iload_n hx hb dX0_comesBefore_19 rfl (lv_at hl 1 rfl) ?_
    refine ldN K w row11 (by omega) dX0_comesBefore_20 ?_
    refine lv_aload_n hx hb dX0_comesBefore_21 rfl (lv_at hl 0 rfl) ?_
    refine gf_X0_ranks K w dX0_comesBefore_22 ?_
    refine lv_iload_n hx hb dX0_comesBefore_25 rfl (lv_at hl 2 rfl) ?_
    refine ldN K w row11 (by omega) dX0_comesBefore_26 ?_
    refine lv_icmp_ge (tgt := 34) hx hb dX0_comesBefore_27 rfl (fun h27 => ?_) (fun h27 => ?_)
    · refine lv_iconst (v := nI 0) hx hb dX0_comesBefore_34 (by decide) ?_
      exact ret w (by first | exact cb_a h12 h27 | exact cb_b h12 h27) dX0_comesBefore_35
    · refine lv_iconst (v := nI 1) hx hb dX0_comesBefore_30 (by decide) ?_
      refine lv_goto (tgt := 35) hx hb dX0_comesBefore_31 rfl ?_
      exact ret w (by first | exact cb_a h12 h27 | exact cb_b h12 h27) dX0_comesBefore_35

set_option maxHeartbeats 4000000 in
set_option maxRecDepth 100000 in
theorem c_X0_swap {l : Launch} {E : En} {M : Mt} {n k : Nat} (dn : dN E) {x y : Nat} (h1 : x < 2000) (h2 : y < 2000) : MV l yX0_swap (.code yX0_swap cX0_swap 6 none) 0 0 E [.ref (ad E 10), .int (nI x), .int (nI y)] M n k  (swF M x y) (n) (k) := by
  refine MV.of dn (own := RX0) (by decide) rfl (Nat.le_of_ble_eq_true rfl) (fun p e s m args below meth c ls Q K w hl ret => ?_)
  have hx := K.1.1
  have hb := K.1.2.1
  have hR : 0 ≤ (rmA 0 0).frames ∧ 0 ≤ (rmA 0 0).locals := ⟨Nat.le_refl _, Nat.le_refl _⟩
  have hf : 0 ≤ (rmA 0 0).cells ∧ 0 ≤ (rmA 0 0).slots := ⟨Nat.le_refl _, Nat.le_refl _⟩
  have hl : lv_has ls 6 [(0, .ref (ad E 10)), (1, .int (nI x)), (2, .int (nI y))] := hl
  refine lv_aload_n hx hb dX0_swap_0 rfl (lv_at hl 0 rfl) ?_
  refine gf_X0_ranks K w dX0_swap_1 ?_
  refine lv_iload_n hx hb dX0_swap_4 rfl (lv_at hl 1 rfl) ?_
  refine ldN K w row11 (by omega) dX0_swap_5 ?_
  refine lv_istore_n (lv' := [(3, .int _), (0, .ref _), (1, .int _), (2, .int _)]) hx hb dX0_swap_6 rfl hl (by decide) rfl (fun ls hl => ?_)
  refine lv_aload_n hx hb dX0_swap_7 rfl (lv_at hl 1 rfl) ?_
  refine gf_X0_ranks K w dX0_swap_8 ?_
  refine lv_iload_n hx hb dX0_swap_11 rfl (lv_at hl 2 rfl) ?_
  refine lv_aload_n hx hb dX0_swap_12 rfl (lv_at hl 1 rfl) ?_
  refine gf_X0_ranks K w dX0_swap_13 ?_
  refine lv_iload_n hx hb dX0_swap_16 rfl (lv_at hl 3 rfl) ?_
  refine ldN K w row11 (by omega) dX0_swap_17 ?_
  refine stN K w row11 (by omega) dX0_swap_18 (fun H locs w => ?_)
  refine lv_aload_n hx hb dX0_swap_19 rfl (lv_at hl 1 rfl) ?_
  refine gf_X0_ranks K w dX0_swap_20 ?_
  refine lv_iload_n hx hb dX0_swap_23 rfl (lv_at hl 3 rfl) ?_
  refine lv_iload_n hx hb dX0_swap_24 rfl (lv_at hl 0 rfl) ?_
  refine stN K w row11 (by omega) dX0_swap_25 (fun H locs w => ?_)
  have w : wst E s.heap (va_up M 11 (sw1 (M 11) x y)) n k H locs := by rw [bx_uu] at w; exact w
  refine lv_aload_n hx hb dX0_swap_26 rfl (lv_at hl 1 rfl) ?_
  refine gf_X0_keys K w dX0_swap_27 ?_
  refine lv_iload_n hx hb dX0_swap_30 rfl (lv_at hl 2 rfl) ?_
  refine ldN K w row12 (by omega) dX0_swap_31 ?_
  refine lv_istore (lv' := [(4, .int _), (3, .int _), (0, .ref _), (1, .int _), (2, .int _)]) hx hb dX0_swap_32 hl (by decide) rfl (fun ls hl => ?_)
  refine lv_aload_n hx hb dX0_swap_34 rfl (lv_at hl 2 rfl) ?_
  refine gf_X0_keys K w dX0_swap_35 ?_
  refine lv_iload_n hx hb dX0_swap_38 rfl (lv_at hl 3 rfl) ?_
  refine lv_aload_n hx hb dX0_swap_39 rfl (lv_at hl 2 rfl) ?_
  refine gf_X0_keys K w dX0_swap_40 ?_
  refine lv_iload_n hx hb dX0_swap_43 rfl (lv_at hl 4 rfl) ?_
  refine ldN K w row12 (by omega) dX0_swap_44 ?_
  refine stN K w row12 (by omega) dX0_swap_45 (fun H locs w => ?_)
  refine lv_aload_n hx hb dX0_swap_46 rfl (lv_at hl 2 rfl) ?_
  refine gf_X0_keys K w dX0_swap_47 ?_
  refine lv_iload_n hx hb dX0_swap_50 rfl (lv_at hl 4 rfl) ?_
  refine lv_iload hx hb dX0_swap_51 (lv_at hl 0 rfl) ?_
  refine stN K w row12 (by omega) dX0_swap_53 (fun H locs w => ?_)
  have w : wst E s.heap (va_up (va_up M 11 (sw1 (M 11) x y)) 12 (sw1 (M 12) x y)) n k H locs := by rw [bx_uu] at w; exact w
  refine lv_aload_n hx hb dX0_swap_54 rfl (lv_at hl 2 rfl) ?_
  refine gf_X0_numbers K w dX0_swap_55 ?_
  refine lv_iload_n hx hb dX0_swap_58 rfl (lv_at hl 3 rfl) ?_
  refine ldN K w row13 (by omega) dX0_swap_59 ?_
  refine lv_istore (lv' := [(5, .int _), (4, .int _), (3, .int _), (0, .ref _), (1, .int _), (2, .int _)]) hx hb dX0_swap_60 hl (by decide) rfl (fun ls hl => ?_)
  refine lv_aload_n hx hb dX0_swap_62 rfl (lv_at hl 3 rfl) ?_
  refine gf_X0_numbers K w dX0_swap_63 ?_
  refine lv_iload_n hx hb dX0_swap_66 rfl (lv_at hl 4 rfl) ?_
  refine lv_aload_n hx hb dX0_swap_67 rfl (lv_at hl 3 rfl) ?_
  refine gf_X0_numbers K w dX0_swap_68 ?_
  refine lv_iload_n hx hb dX0_swap_71 rfl (lv_at hl 5 rfl) ?_
  refine ldN K w row13 (by omega) dX0_swap_72 ?_
  refine stN K w row13 (by omega) dX0_swap_73 (fun H locs w => ?_)
  refine lv_aload_n hx hb dX0_swap_74 rfl (lv_at hl 3 rfl) ?_
  refine gf_X0_numbers K w dX0_swap_75 ?_
  refine lv_iload_n hx hb dX0_swap_78 rfl (lv_at hl 5 rfl) ?_
  refine lv_iload hx hb dX0_swap_79 (lv_at hl 0 rfl) ?_
  refine stN K w row13 (by omega) dX0_swap_81 (fun H locs w => ?_)
  exact ret (by rw [bx_uu] at w; exact w) dX0_swap_82
