section QL
variable {p : Program} {l : Launch} {e : Env} {R : Room} {s : State} {m : MethodId} {args : Array Value} {below : List Frame} {meth : Method} {c : Code} {H : Heap} {locs : List Loc} {cells slots : Nat} {Q : State → Prop} {ls : Array Slot} {w0 : Cond} {E : En} {M MF : Mt} {n k : Nat}
set_option maxHeartbeats 4000000 in
set_option maxRecDepth 100000 in
theorem lp_rise (K : cX E p m c cX0_rise 3 s args w0 RX0) (hR : 1 ≤ R.frames ∧ 25 ≤ R.locals) (hf : cells ≤ R.cells ∧ slots ≤ R.slots) (ret : ∀ {H : Heap} {locs : List Loc} {pc : Nat} {ls : Array Slot}, wst E s.heap MF n k H locs → decode cX0_rise pc = .ok (.return_, 1) → W p l e R s m args below meth c H locs cells slots Q (F0 m pc ls [])) : ∀ (f q : Nat) (M : Mt) (H : Heap) (locs : List Loc) (ls : Array Slot), q ≤ f → q < 2000 → riF f M q = MF → wst E s.heap M n k H locs → lv_has ls 3 [(1, .int (nI q)), (0, .ref (ad E 10))] → W p l e R s m args below meth c H locs cells slots Q (F0 m 7 ls []) := by
  have hx := K.1.1
  have hb := K.1.2.1
  intro f
  induction f with
  | zero =>
    intro q M H locs ls hq h2 hm w hl
    obtain rfl : q = 0 := by omega
    rw [riF_0] at hm
    refine lv_iload_n hx hb dX0_rise_7 rfl (lv_at hl 0 rfl) ?_
    refine lv_if_le (tgt := 42) hx hb dX0_rise_8 rfl (fun _ => ?_) (fun h9 => absurd (by decide : nI 0 ≤ 0) h9)
    exact ret (by rw [← hm]; exact w) dX0_rise_42
  | succ f ih =>
    intro q M H locs ls hq h2 hm w hl
    rcases Nat.eq_zero_or_pos q with h0 | h0
    · subst h0
      rw [riF_0] at hm
      refine lv_iload_n hx hb dX0_rise_7 rfl (lv_at hl 0 rfl) ?_
      refine lv_if_le (tgt := 42) hx hb dX0_rise_8 rfl (fun _ => ?_) (fun h9 => absurd (by decide : nI 0 ≤ 0) h9)
      exact ret (by rw [← hm]; exact w) dX0_rise_42
    · rw [riF_s h0] at hm
      refine lv_iload_n hx hb dX0_rise_7 rfl (lv_at hl 0 rfl) ?_
      refine lv_if_le (tgt := 42) hx hb dX0_rise_8 rfl (fun h9 => absurd h9 (nI_nle h0 (by omega))) (fun _ => ?_)
      refine lv_iload_n hx hb dX0_rise_11 rfl (lv_at hl 0 rfl) ?_
      refine lv_iconst (v := nI 1) hx hb dX0_rise_12 (by decide) ?_
      refine lv_isub hx hb dX0_rise_13 ?_
      refine topE (y := nI (q - 1)) (pk_sub (by omega)) ?_
      refine lv_iconst (v := nI 2) hx hb dX0_rise_14 (by decide) ?_
      refine lv_idiv hx hb dX0_rise_15 (by decide) ?_
      refine topE (y := nI ((q - 1) / 2)) (pk_div (by omega) (by decide) (by decide)) ?_
      refine lv_istore_n (lv' := [(2, .int _), (1, .int _), (0, .ref _)]) hx hb dX0_rise_16 rfl hl (by decide) rfl (fun ls hl => ?_)
      refine lv_aload_n hx hb dX0_rise_17 rfl (lv_at hl 2 rfl) ?_
      refine lv_iload_n hx hb dX0_rise_18 rfl (lv_at hl 0 rfl) ?_
      refine lv_iload_n hx hb dX0_rise_19 rfl (lv_at hl 1 rfl) ?_
      refine calli K w (c_X0_comesBefore K.2.2 (by omega) (by omega)) (lk_X0_35 K ⟨Nat.le_trans (Nat.le_of_ble_eq_true rfl) hR.1, Nat.le_trans (Nat.le_of_ble_eq_true rfl) hR.2⟩) (recv10 K w) rfl hl.1 rfl (Nat.le_of_ble_eq_true rfl) dX0_rise_20 hf (fun H locs w => ?_)
      refine lv_if_eq (tgt := 27) hx hb dX0_rise_23 rfl (fun h23 => ?_) (fun h23 => ?_)
      · rw [if_neg (by rw [bI_0 h23]; decide)] at hm
        refine lv_aload_n hx hb dX0_rise_27 rfl (lv_at hl 2 rfl) ?_
        refine lv_iload_n hx hb dX0_rise_28 rfl (lv_at hl 0 rfl) ?_
        refine lv_iload_n hx hb dX0_rise_29 rfl (lv_at hl 1 rfl) ?_
        refine callv K w (c_X0_swap K.2.2 (by omega) (by omega)) (lk_X0_28 K ⟨Nat.le_trans (Nat.le_of_ble_eq_true rfl) hR.1, Nat.le_trans (Nat.le_of_ble_eq_true rfl) hR.2⟩) (recv10 K w) rfl hl.1 rfl (Nat.le_of_ble_eq_true rfl) dX0_rise_30 hf (fun H locs w => ?_)
        refine lv_iload_n hx hb dX0_rise_33 rfl (lv_at hl 1 rfl) ?_
        refine lv_iconst (v := nI 1) hx hb dX0_rise_34 (by decide) ?_
        refine lv_isub hx hb dX0_rise_35 ?_
        refine topE (y := nI (q - 1)) (pk_sub (by omega)) ?_
        refine lv_iconst (v := nI 2) hx hb dX0_rise_36 (by decide) ?_
        refine lv_idiv hx hb dX0_rise_37 (by decide) ?_
        refine topE (y := nI ((q - 1) / 2)) (pk_div (by omega) (by decide) (by decide)) ?_
        refine lv_istore_n (lv' := [(1, .int _), (2, .int _), (0, .ref _)]) hx hb dX0_rise_38 rfl hl (by decide) rfl (fun ls hl => ?_)
        refine lv_goto (tgt := 7) hx hb dX0_rise_39 rfl ?_
        exact ih _ _ _ _ _ (by omega) (by omega) hm w (lv_sub hl [0, 2] rfl)
      · rw [if_pos (bI_n h23)] at hm
        exact ret (by rw [← hm]; exact w) dX0_rise_26

set_option maxHeartbeats 4000000 in
set_option maxRecDepth 100000 in
theorem lp_sink (K : cX E p m c cX0_sink 3 s args w0 RX0) (hR : 1 ≤ R.frames ∧ 25 ≤ R.locals) (hf : cells ≤ R.cells ∧ slots ≤ R.slots) (ret : ∀ {H : Heap} {locs : List Loc} {pc : Nat} {ls : Array Slot}, wst E s.heap MF n k H locs → decode cX0_sink pc = .ok (.return_, 1) → W p l e R s m args below meth c H locs cells slots Q (F0 m pc ls [])) (hk : k ≤ 2000) : ∀ (f q : Nat) (M : Mt) (H : Heap) (locs : List Loc) (ls : Array Slot), k ≤ q + f → q ≤ 2000 → siF f M k q = MF → wst E s.heap M n k H locs → lv_has ls 3 [(2, .int (nI (2 * q + 1))), (1, .int (nI q)), (0, .ref (ad E 10))] → W p l e R s m args below meth c H locs cells slots Q (F0 m 4 ls []) := by
  have hx := K.1.1
  have hb := K.1.2.1
  intro f
  induction f with
  | zero =>
    intro q M H locs ls hq h2 hm w hl
    rw [siF_e (by omega)] at hm
    refine lv_iload_n hx hb dX0_sink_4 rfl (lv_at hl 0 rfl) ?_
    refine lv_aload_n hx hb dX0_sink_5 rfl (lv_at hl 2 rfl) ?_
    refine gf_X0_size K w dX0_sink_6 ?_
    refine lv_icmp_ge (tgt := 63) hx hb dX0_sink_9 rfl (fun _ => ?_) (fun h9 => absurd (nI_le (by omega) (by omega)) h9)
    exact ret (by rw [← hm]; exact w) dX0_sink_63
  | succ f ih =>
    intro q M H locs ls hq h2 hm w hl
    by_cases h0 : 2 * q + 1 < k
    · rw [siF_s h0] at hm
      refine lv_iload_n hx hb dX0_sink_4 rfl (lv_at hl 0 rfl) ?_
      refine lv_aload_n hx hb dX0_sink_5 rfl (lv_at hl 2 rfl) ?_
      refine gf_X0_size K w dX0_sink_6 ?_
      refine lv_icmp_ge (tgt := 63) hx hb dX0_sink_9 rfl (fun h9 => absurd h9 (nI_ge (by omega) (by omega))) (fun _ => ?_)
      rcases (by by_cases h3 : 2 * q + 1 + 1 < k
                 · by_cases h4 : cbF M (2 * q + 1 + 1) (2 * q + 1) = true
                   · exact Or.inr (Or.inl ⟨h3, h4⟩)
                   · exact Or.inr (Or.inr ⟨h3, h4⟩)
                 · exact Or.inl h3 : ¬ 2 * q + 1 + 1 < k ∨ (2 * q + 1 + 1 < k ∧ cbF M (2 * q + 1 + 1) (2 * q + 1) = true) ∨ (2 * q + 1 + 1 < k ∧ ¬ cbF M (2 * q + 1 + 1) (2 * q + 1) = true)) with h3 | ⟨h3, h4⟩ | ⟨h3, h4⟩
      · refine lv_iload_n hx hb dX0_sink_12 rfl (lv_at hl 0 rfl) ?_
        refine lv_iconst (v := nI 1) hx hb dX0_sink_13 (by decide) ?_
        refine lv_iadd hx hb dX0_sink_14 ?_
        refine topE (y := nI (2 * q + 1 + 1)) (nI_add _ _) ?_
        refine lv_aload_n hx hb dX0_sink_15 rfl (lv_at hl 2 rfl) ?_
        refine gf_X0_size K w dX0_sink_16 ?_
        refine lv_icmp_ge (tgt := 36) hx hb dX0_sink_19 rfl (fun _ => ?_) (fun h9 => absurd (nI_le (by omega) (by omega)) h9)
        have hch : chF M k q = 2 * q + 1 := if_neg (fun h => h3 h.1)
        rw [hch] at hm
        refine lv_aload_n hx hb dX0_sink_36 rfl (lv_at hl 2 rfl) ?_
        refine lv_iload_n hx hb dX0_sink_37 rfl (lv_at hl 1 rfl) ?_
        refine lv_iload_n hx hb dX0_sink_38 rfl (lv_at hl 0 rfl) ?_
        refine calli K w (c_X0_comesBefore K.2.2 (by omega) (by omega)) (lk_X0_35 K ⟨Nat.le_trans (Nat.le_of_ble_eq_true rfl) hR.1, Nat.le_trans (Nat.le_of_ble_eq_true rfl) hR.2⟩) (recv10 K w) rfl hl.1 rfl (Nat.le_of_ble_eq_true rfl) dX0_sink_39 hf (fun H locs w => ?_)
        refine lv_if_eq (tgt := 46) hx hb dX0_sink_42 rfl (fun h42 => ?_) (fun h42 => ?_)
        · rw [if_neg (by rw [bI_0 h42]; decide)] at hm
          refine lv_aload_n hx hb dX0_sink_46 rfl (lv_at hl 2 rfl) ?_
          refine lv_iload_n hx hb dX0_sink_47 rfl (lv_at hl 1 rfl) ?_
          refine lv_iload_n hx hb dX0_sink_48 rfl (lv_at hl 0 rfl) ?_
          refine callv K w (c_X0_swap K.2.2 (by omega) (by omega)) (lk_X0_28 K ⟨Nat.le_trans (Nat.le_of_ble_eq_true rfl) hR.1, Nat.le_trans (Nat.le_of_ble_eq_true rfl) hR.2⟩) (recv10 K w) rfl hl.1 rfl (Nat.le_of_ble_eq_true rfl) dX0_sink_49 hf (fun H locs w => ?_)
          refine lv_iload_n hx hb dX0_sink_52 rfl (lv_at hl 0 rfl) ?_
          refine lv_istore_n (lv' := [(1, .int _), (2, .int _), (0, .ref _)]) hx hb dX0_sink_53 rfl hl (by decide) rfl (fun ls hl => ?_)
          refine lv_iconst (v := nI 2) hx hb dX0_sink_54 (by decide) ?_
          refine lv_iload_n hx hb dX0_sink_55 rfl (lv_at hl 0 rfl) ?_
          refine lv_imul hx hb dX0_sink_56 ?_
          refine topE (y := nI (2 * (2 * q + 1))) (pk_mul _ _) ?_
          refine lv_iconst (v := nI 1) hx hb dX0_sink_57 (by decide) ?_
          refine lv_iadd hx hb dX0_sink_58 ?_
          refine topE (y := nI (2 * (2 * q + 1) + 1)) (nI_add _ _) ?_
          refine lv_istore_n (lv' := [(2, .int _), (1, .int _), (0, .ref _)]) hx hb dX0_sink_59 rfl hl (by decide) rfl (fun ls hl => ?_)
          refine lv_goto (tgt := 4) hx hb dX0_sink_60 rfl ?_
          exact ih (2 * q + 1) _ _ _ _ (by omega) (by omega) hm w (lv_sub hl [0, 1, 2] rfl)
        · rw [if_pos (bI_n h42)] at hm
          exact ret (by rw [← hm]; exact w) dX0_sink_45
      · refine lv_iload_n hx hb dX0_sink_12 rfl (lv_at hl 0 rfl) ?_
        refine lv_iconst (v := nI 1) hx hb dX0_sink_13 (by decide) ?_
        refine lv_iadd hx hb dX0_sink_14 ?_
        refine topE (y := nI (2 * q + 1 + 1)) (nI_add _ _) ?_
        refine lv_aload_n hx hb dX0_sink_15 rfl (lv_at hl 2 rfl) ?_
        refine gf_X0_size K w dX0_sink_16 ?_
        refine lv_icmp_ge (tgt := 36) hx hb dX0_sink_19 rfl (fun h9 => absurd h9 (nI_ge (by omega) (by omega))) (fun _ => ?_)
        refine lv_aload_n hx hb dX0_sink_22 rfl (lv_at hl 2 rfl) ?_
        refine lv_iload_n hx hb dX0_sink_23 rfl (lv_at hl 0 rfl) ?_
        refine lv_iconst (v := nI 1) hx hb dX0_sink_24 (by decide) ?_
        refine lv_iadd hx hb dX0_sink_25 ?_
        refine topE (y := nI (2 * q + 1 + 1)) (nI_add _ _) ?_
        refine lv_iload_n hx hb dX0_sink_26 rfl (lv_at hl 0 rfl) ?_
        refine calli K w (c_X0_comesBefore K.2.2 (by omega) (by omega)) (lk_X0_35 K ⟨Nat.le_trans (Nat.le_of_ble_eq_true rfl) hR.1, Nat.le_trans (Nat.le_of_ble_eq_true rfl) hR.2⟩) (recv10 K w) rfl hl.1 rfl (Nat.le_of_ble_eq_true rfl) dX0_sink_27 hf (fun H locs w => ?_)
        refine lv_if_eq (tgt := 36) hx hb dX0_sink_30 rfl (fun h9 => absurd h9 (by rw [h4]; decide)) (fun _ => ?_)
        refine lv_iinc (k := 0) (v := nI (_ + 1)) (lv' := [(2, .int _), (1, .int _), (0, .ref _)]) hx hb dX0_sink_33 hl rfl (inc1 _) (by decide) rfl (fun ls hl => ?_)
        have hch : chF M k q = 2 * q + 1 + 1 := if_pos ⟨h3, h4⟩
        rw [hch] at hm
        refine lv_aload_n hx hb dX0_sink_36 rfl (lv_at hl 2 rfl) ?_
        refine lv_iload_n hx hb dX0_sink_37 rfl (lv_at hl 1 rfl) ?_
        refine lv_iload_n hx hb dX0_sink_38 rfl (lv_at hl 0 rfl) ?_
        refine calli K w (c_X0_comesBefore K.2.2 (by omega) (by omega)) (lk_X0_35 K ⟨Nat.le_trans (Nat.le_of_ble_eq_true rfl) hR.1, Nat.le_trans (Nat.le_of_ble_eq_true rfl) hR.2⟩) (recv10 K w) rfl hl.1 rfl (Nat.le_of_ble_eq_true rfl) dX0_sink_39 hf (fun H locs w => ?_)
        refine lv_if_eq (tgt := 46) hx hb dX0_sink_42 rfl (fun h42 => ?_) (fun h42 => ?_)
        · rw [if_neg (by rw [bI_0 h42]; decide)] at hm
          refine lv_aload_n hx hb dX0_sink_46 rfl (lv_at hl 2 rfl) ?_
          refine lv_iload_n hx hb dX0_sink_47 rfl (lv_at hl 1 rfl) ?_
          refine lv_iload_n hx hb dX0_sink_48 rfl (lv_at hl 0 rfl) ?_
          refine callv K w (c_X0_swap K.2.2 (by omega) (by omega)) (lk_X0_28 K ⟨Nat.le_trans (Nat.le_of_ble_eq_true rfl) hR.1, Nat.le_trans (Nat.le_of_ble_eq_true rfl) hR.2⟩) (recv10 K w) rfl hl.1 rfl (Nat.le_of_ble_eq_true rfl) dX0_sink_49 hf (fun H locs w => ?_)
          refine lv_iload_n hx hb dX0_sink_52 rfl (lv_at hl 0 rfl) ?_
          refine lv_istore_n (lv' := [(1, .int _), (2, .int _), (0, .ref _)]) hx hb dX0_sink_53 rfl hl (by decide) rfl (fun ls hl => ?_)
          refine lv_iconst (v := nI 2) hx hb dX0_sink_54 (by decide) ?_
          refine lv_iload_n hx hb dX0_sink_55 rfl (lv_at hl 0 rfl) ?_
          refine lv_imul hx hb dX0_sink_56 ?_
          refine topE (y := nI (2 * (2 * q + 1 + 1))) (pk_mul _ _) ?_
          refine lv_iconst (v := nI 1) hx hb dX0_sink_57 (by decide) ?_
          refine lv_iadd hx hb dX0_sink_58 ?_
          refine topE (y := nI (2 * (2 * q + 1 + 1) + 1)) (nI_add _ _) ?_
          refine lv_istore_n (lv' := [(2, .int _), (1, .int _), (0, .ref _)]) hx hb dX0_sink_59 rfl hl (by decide) rfl (fun ls hl => ?_)
          refine lv_goto (tgt := 4) hx hb dX0_sink_60 rfl ?_
          exact ih (2 * q + 1 + 1) _ _ _ _ (by omega) (by omega) hm w (lv_sub hl [0, 1, 2] rfl)
        · rw [if_pos (bI_n h42)] at hm
          exact ret (by rw [← hm]; exact w) dX0_sink_45
      · refine lv_iload_n hx hb dX0_sink_12 rfl (lv_at hl 0 rfl) ?_
        refine lv_iconst (v := nI 1) hx hb dX0_sink_13 (by decide) ?_
        refine lv_iadd hx hb dX0_sink_14 ?_
        refine topE (y := nI (2 * q + 1 + 1)) (nI_add _ _) ?_
        refine lv_aload_n hx hb dX0_sink_15 rfl (lv_at hl 2 rfl) ?_
        refine gf_X0_size K w dX0_sink_16 ?_
        refine lv_icmp_ge (tgt := 36) hx hb dX0_sink_19 rfl (fun h9 => absurd h9 (nI_ge (by omega) (by omega))) (fun _ => ?_)
        refine lv_aload_n hx hb dX0_sink_22 rfl (lv_at hl 2 rfl) ?_
        refine lv_iload_n hx hb dX0_sink_23 rfl (lv_at hl 0 rfl) ?_
        refine lv_iconst (v := nI 1) hx hb dX0_sink_24 (by decide) ?_
        refine lv_iadd hx hb dX0_sink_25 ?_
        refine topE (y := nI (2 * q + 1 + 1)) (nI_add _ _) ?_
        refine lv_iload_n hx hb dX0_sink_26 rfl (lv_at hl 0 rfl) ?_
        refine calli K w (c_X0_comesBefore K.2.2 (by omega) (by omega)) (lk_X0_35 K ⟨Nat.le_trans (Nat.le_of_ble_eq_true rfl) hR.1, Nat.le_trans (Nat.le_of_ble_eq_true rfl) hR.2⟩) (recv10 K w) rfl hl.1 rfl (Nat.le_of_ble_eq_true rfl) dX0_sink_27 hf (fun H locs w => ?_)
        refine lv_if_eq (tgt := 36) hx hb dX0_sink_30 rfl (fun _ => ?_) (fun h9 => absurd (by rw [Bool.not_eq_true _ |>.mp h4]; rfl) h9)
        have hch : chF M k q = 2 * q + 1 := if_neg (fun h => h4 h.2)
        rw [hch] at hm
        refine lv_aload_n hx hb dX0_sink_36 rfl (lv_at hl 2 rfl) ?_
        refine lv_iload_n hx hb dX0_sink_37 rfl (lv_at hl 1 rfl) ?_
        refine lv_iload_n hx hb dX0_sink_38 rfl (lv_at hl 0 rfl) ?_
        refine calli K w (c_X0_comesBefore K.2.2 (by omega) (by omega)) (lk_X0_35 K ⟨Nat.le_trans (Nat.le_of_ble_eq_true rfl) hR.1, Nat.le_trans (Nat.le_of_ble_eq_true rfl) hR.2⟩) (recv10 K w) rfl hl.1 rfl (Nat.le_of_ble_eq_true rfl) dX0_sink_39 hf (fun H locs w => ?_)
        refine lv_if_eq (tgt := 46) hx hb dX0_sink_42 rfl (fun h42 => ?_) (fun h42 => ?_)
        · rw [if_neg (by rw [bI_0 h42]; decide)] at hm
          refine lv_aload_n hx hb dX0_sink_46 rfl (lv_at hl 2 rfl) ?_
          refine lv_iload_n hx hb dX0_sink_47 rfl (lv_at hl 1 rfl) ?_
          refine lv_iload_n hx hb dX0_sink_48 rfl (lv_at hl 0 rfl) ?_
          refine callv K w (c_X0_swap K.2.2 (by omega) (by omega)) (lk_X0_28 K ⟨Nat.le_trans (Nat.le_of_ble_eq_true rfl) hR.1, Nat.le_trans (Nat.le_of_ble_eq_true rfl) hR.2⟩) (recv10 K w) rfl hl.1 rfl (Nat.le_of_ble_eq_true rfl) dX0_sink_49 hf (fun H locs w => ?_)
          refine lv_iload_n hx hb dX0_sink_52 rfl (lv_at hl 0 rfl) ?_
          refine lv_istore_n (lv' := [(1, .int _), (2, .int _), (0, .ref _)]) hx hb dX0_sink_53 rfl hl (by decide) rfl (fun ls hl => ?_)
          refine lv_iconst (v := nI 2) hx hb dX0_sink_54 (by decide) ?_
          refine lv_iload_n hx hb dX0_sink_55 rfl (lv_at hl 0 rfl) ?_
          refine lv_imul hx hb dX0_sink_56 ?_
          refine topE (y := nI (2 * (2 * q + 1))) (pk_mul _ _) ?_
          refine lv_iconst (v := nI 1) hx hb dX0_sink_57 (by decide) ?_
          refine lv_iadd hx hb dX0_sink_58 ?_
          refine topE (y := nI (2 * (2 * q + 1) + 1)) (nI_add _ _) ?_
          refine lv_istore_n (lv' := [(2, .int _), (1, .int _), (0, .ref _)]) hx hb dX0_sink_59 rfl hl (by decide) rfl (fun ls hl => ?_)
          refine lv_goto (tgt := 4) hx hb dX0_sink_60 rfl ?_
          exact ih (2 * q + 1) _ _ _ _ (by omega) (by omega) hm w (lv_sub hl [0, 1, 2] rfl)
        · rw [if_pos (bI_n h42)] at hm
          exact ret (by rw [← hm]; exact w) dX0_sink_45
    · rw [siF_e h0] at hm
      refine lv_iload_n hx hb dX0_sink_4 rfl (lv_at hl 0 rfl) ?_
      refine lv_aload_n hx hb dX0_sink_5 rfl (lv_at hl 2 rfl) ?_
      refine gf_X0_size K w dX0_sink_6 ?_
      refine lv_icmp_ge (tgt := 63) hx hb dX0_sink_9 rfl (fun _ => ?_) (fun h9 => absurd (nI_le (by omega) (by omega)) h9)
      exact ret (by rw [← hm]; exact w) dX0_sink_63
end QL
set_option maxHeartbeats 4000000 in
set_option maxRecDepth 100000 in
theorem c_X0_rise {l : Launch} {E : En} {M : Mt} {n : Nat} (dn : dN E) {q : Nat} (hq : q < 2000) : MV l yX0_rise (.code yX0_rise cX0_rise 3 none) 1 25 E [.ref (ad E 10)] M n (q + 1)  (riF q M q) (n) (q + 1) := by
  refine MV.of dn (own := RX0) (by decide) rfl (Nat.le_of_ble_eq_true rfl) (fun p e s m args below meth c ls Q K w hl ret => ?_)
  have hx := K.1.1
  have hb := K.1.2.1
  have hR : 1 ≤ (rmA 1 25).frames ∧ 25 ≤ (rmA 1 25).locals := ⟨Nat.le_refl _, Nat.le_refl _⟩
  have hf : 0 ≤ (rmA 1 25).cells ∧ 0 ≤ (rmA 1 25).slots := ⟨Nat.le_refl _, Nat.le_refl _⟩
  have hl : lv_has ls 3 [(0, .ref (ad E 10))] := hl
  refine lv_aload_n hx hb dX0_rise_0 rfl (lv_at hl 0 rfl) ?_
  refine gf_X0_size K w dX0_rise_1 ?_
  refine lv_iconst (v := nI 1) hx hb dX0_rise_4 (by decide) ?_
  refine lv_isub hx hb dX0_rise_5 ?_
  refine topE (y := nI q) (pk_sub (by omega)) ?_
  refine lv_istore_n (lv' := [(1, .int _), (0, .ref _)]) hx hb dX0_rise_6 rfl hl (by decide) rfl (fun ls hl => ?_)
  exact lp_rise K hR hf ret q q M _ _ _ (Nat.le_refl _) hq rfl w hl

set_option maxHeartbeats 4000000 in
set_option maxRecDepth 100000 in
theorem c_X0_sink {l : Launch} {E : En} {M : Mt} {n k : Nat} (dn : dN E) (hk : k ≤ 2000) : MV l yX0_sink (.code yX0_sink cX0_sink 3 none) 1 25 E [.ref (ad E 10)] M n k  (siF k M k 0) (n) (k) := by
  refine MV.of dn (own := RX0) (by decide) rfl (Nat.le_of_ble_eq_true rfl) (fun p e s m args below meth c ls Q K w hl ret => ?_)
  have hx := K.1.1
  have hb := K.1.2.1
  have hR : 1 ≤ (rmA 1 25).frames ∧ 25 ≤ (rmA 1 25).locals := ⟨Nat.le_refl _, Nat.le_refl _⟩
  have hf : 0 ≤ (rmA 1 25).cells ∧ 0 ≤ (rmA 1 25).slots := ⟨Nat.le_refl _, Nat.le_refl _⟩
  have hl : lv_has ls 3 [(0, .ref (ad E 10))] := hl
  refine lv_iconst (v := nI 0) hx hb dX0_sink_0 (by decide) ?_
  refine lv_istore_n (lv' := [(1, .int _), (0, .ref _)]) hx hb dX0_sink_1 rfl hl (by decide) rfl (fun ls hl => ?_)
  refine lv_iconst (v := nI 1) hx hb dX0_sink_2 (by decide) ?_
  refine lv_istore_n (lv' := [(2, .int _), (1, .int _), (0, .ref _)]) hx hb dX0_sink_3 rfl hl (by decide) rfl (fun ls hl => ?_)
  exact lp_sink K hR hf ret hk k 0 M _ _ _ (by omega) (by omega) rfl w hl

set_option maxHeartbeats 4000000 in
set_option maxRecDepth 100000 in
theorem c_X0_put_a {l : Launch} {E : En} {M : Mt} {n k : Nat} (dn : dN E) {r ky nm : Int32} (h0 : k < 2000) : MV l yX0_put (.code yX0_put cX0_put 4 none) 2 47 E [.ref (ad E 10), .int r, .int ky, .int nm] M n k  (riF k (ptF M k r ky nm) k) (n) (k + 1) := by
  refine MV.of dn (own := RX0) (by decide) rfl (Nat.le_of_ble_eq_true rfl) (fun p e s m args below meth c ls Q K w hl ret => ?_)
  have hx := K.1.1
  have hb := K.1.2.1
  have hR : 2 ≤ (rmA 2 47).frames ∧ 47 ≤ (rmA 2 47).locals := ⟨Nat.le_refl _, Nat.le_refl _⟩
  have hf : 0 ≤ (rmA 2 47).cells ∧ 0 ≤ (rmA 2 47).slots := ⟨Nat.le_refl _, Nat.le_refl _⟩
  have hl : lv_has ls 4 [(0, .ref (ad E 10)), (1, .int r), (2, .int ky), (3, .int nm)] := hl
  refine lv_aload_n hx hb dX0_put_0 rfl (lv_at hl 0 rfl) ?_
  refine gf_X0_size K w dX0_put_1 ?_
  refine lv_sipush (v := nI 2000) hx hb dX0_put_4 (by decide) ?_
  refine lv_icmp_lt (tgt := 11) hx hb dX0_put_7 rfl (fun _ => ?_) (fun h9 => absurd (nI_lt h0 (by decide)) h9)
  refine lv_aload_n hx hb dX0_put_11 rfl (lv_at hl 0 rfl) ?_
  refine gf_X0_ranks K w dX0_put_12 ?_
  refine lv_aload_n hx hb dX0_put_15 rfl (lv_at hl 0 rfl) ?_
  refine gf_X0_size K w dX0_put_16 ?_
  refine lv_iload_n hx hb dX0_put_19 rfl (lv_at hl 1 rfl) ?_
  refine stN K w row11 (by omega) dX0_put_20 (fun H locs w => ?_)
  refine lv_aload_n hx hb dX0_put_21 rfl (lv_at hl 0 rfl) ?_
  refine gf_X0_keys K w dX0_put_22 ?_
  refine lv_aload_n hx hb dX0_put_25 rfl (lv_at hl 0 rfl) ?_
  refine gf_X0_size K w dX0_put_26 ?_
  refine lv_iload_n hx hb dX0_put_29 rfl (lv_at hl 2 rfl) ?_
  refine stN K w row12 (by omega) dX0_put_30 (fun H locs w => ?_)
  refine lv_aload_n hx hb dX0_put_31 rfl (lv_at hl 0 rfl) ?_
  refine gf_X0_numbers K w dX0_put_32 ?_
  refine lv_aload_n hx hb dX0_put_35 rfl (lv_at hl 0 rfl) ?_
  refine gf_X0_size K w dX0_put_36 ?_
  refine lv_iload_n hx hb dX0_put_39 rfl (lv_at hl 3 rfl) ?_
  refine stN K w row13 (by omega) dX0_put_40 (fun H locs w => ?_)
  have w : wst E s.heap (ptF M k r ky nm) n k H locs := w
  refine lv_aload_n hx hb dX0_put_41 rfl (lv_at hl 0 rfl) ?_
  refine lv_dup hx hb dX0_put_42 rfl ?_
  refine gf_X0_size K w dX0_put_43 ?_
  refine lv_iconst (v := nI 1) hx hb dX0_put_46 (by decide) ?_
  refine lv_iadd hx hb dX0_put_47 ?_
  refine pf_X0_size K w (nI_add k 1) dX0_put_48 (fun H locs w => ?_)
  refine lv_aload_n hx hb dX0_put_51 rfl (lv_at hl 0 rfl) ?_
  refine callv K w (c_X0_rise dn h0) (lk_X0_25 K ⟨Nat.le_trans (Nat.le_of_ble_eq_true rfl) hR.1, Nat.le_trans (Nat.le_of_ble_eq_true rfl) hR.2⟩) (recv10 K w) rfl hl.1 rfl (Nat.le_of_ble_eq_true rfl) dX0_put_52 hf (fun H locs w => ?_)
  exact ret w dX0_put_55

set_option maxHeartbeats 4000000 in
set_option maxRecDepth 100000 in
theorem c_X0_put_b {l : Launch} {E : En} {M : Mt} {n k : Nat} (dn : dN E) {r ky nm : Int32} (h0 : 2000 ≤ k) (h1 : k < 2147483648) : MV l yX0_put (.code yX0_put cX0_put 4 none) 2 47 E [.ref (ad E 10), .int r, .int ky, .int nm] M n k  (M) (n) (k) := by
  refine MV.of dn (own := RX0) (by decide) rfl (Nat.le_of_ble_eq_true rfl) (fun p e s m args below meth c ls Q K w hl ret => ?_)
  have hx := K.1.1
  have hb := K.1.2.1
  have hR : 2 ≤ (rmA 2 47).frames ∧ 47 ≤ (rmA 2 47).locals := ⟨Nat.le_refl _, Nat.le_refl _⟩
  have hf : 0 ≤ (rmA 2 47).cells ∧ 0 ≤ (rmA 2 47).slots := ⟨Nat.le_refl _, Nat.le_refl _⟩
  have hl : lv_has ls 4 [(0, .ref (ad E 10)), (1, .int r), (2, .int ky), (3, .int nm)] := hl
  refine lv_aload_n hx hb dX0_put_0 rfl (lv_at hl 0 rfl) ?_
  refine gf_X0_size K w dX0_put_1 ?_
  refine lv_sipush (v := nI 2000) hx hb dX0_put_4 (by decide) ?_
  refine lv_icmp_lt (tgt := 11) hx hb dX0_put_7 rfl (fun h9 => absurd h9 (nI_nlt h0 h1)) (fun _ => ?_)
  exact ret w dX0_put_10

theorem c_X0_put {l : Launch} {E : En} {M : Mt} {n k : Nat} (dn : dN E) {r ky nm : Int32} (h1 : k < 2147483648) : MV l yX0_put (.code yX0_put cX0_put 4 none) 2 47 E [.ref (ad E 10), .int r, .int ky, .int nm] M n k (puF M k r ky nm) n (puK k) := by
  by_cases h : 2000 ≤ k
  · rw [puF, puK, if_pos h, if_pos h]
    exact c_X0_put_b dn h h1
  · rw [puF, puK, if_neg h, if_neg h]
    exact c_X0_put_a dn (by omega)

set_option maxHeartbeats 4000000 in
set_option maxRecDepth 100000 in
theorem c_X0_take_a {l : Launch} {E : En} {M : Mt} {n k : Nat} (dn : dN E) (h0 : k = 0) : MI l yX0_take (.code yX0_take cX0_take 2 (some .int)) 2 47 E [.ref (ad E 10)] M n k (-1)  (M) (n) (k) := by
  refine MI.of dn (own := RX0) (by decide) rfl (Nat.le_of_ble_eq_true rfl) (fun p e s m args below meth c ls Q K w hl ret => ?_)
  have hx := K.1.1
  have hb := K.1.2.1
  have hR : 2 ≤ (rmA 2 47).frames ∧ 47 ≤ (rmA 2 47).locals := ⟨Nat.le_refl _, Nat.le_refl _⟩
  have hf : 0 ≤ (rmA 2 47).cells ∧ 0 ≤ (rmA 2 47).slots := ⟨Nat.le_refl _, Nat.le_refl _⟩
  have hl : lv_has ls 2 [(0, .ref (ad E 10))] := hl
  refine lv_aload_n hx hb dX0_take_0 rfl (lv_at hl 0 rfl) ?_
  refine gf_X0_size K w dX0_take_1 ?_
  refine lv_if_gt (tgt := 9) hx hb dX0_take_4 rfl (fun h9 => absurd h9 (by rw [h0]; decide)) (fun _ => ?_)
  refine lv_iconst (v := -1) hx hb dX0_take_7 (by decide) ?_
  exact ret w rfl dX0_take_8

set_option maxHeartbeats 4000000 in
set_option maxRecDepth 100000 in
theorem c_X0_take_b {l : Launch} {E : En} {M : Mt} {n : Nat} (dn : dN E) {q : Nat} (hq : q < 2000) : MI l yX0_take (.code yX0_take cX0_take 2 (some .int)) 2 47 E [.ref (ad E 10)] M n (q + 1) (M 13 0)  (siF q (swF M 0 q) q 0) (n) (q) := by
  refine MI.of dn (own := RX0) (by decide) rfl (Nat.le_of_ble_eq_true rfl) (fun p e s m args below meth c ls Q K w hl ret => ?_)
  have hx := K.1.1
  have hb := K.1.2.1
  have hR : 2 ≤ (rmA 2 47).frames ∧ 47 ≤ (rmA 2 47).locals := ⟨Nat.le_refl _, Nat.le_refl _⟩
  have hf : 0 ≤ (rmA 2 47).cells ∧ 0 ≤ (rmA 2 47).slots := ⟨Nat.le_refl _, Nat.le_refl _⟩
  have hl : lv_has ls 2 [(0, .ref (ad E 10))] := hl
  refine lv_aload_n hx hb dX0_take_0 rfl (lv_at hl 0 rfl) ?_
  refine gf_X0_size K w dX0_take_1 ?_
  refine lv_if_gt (tgt := 9) hx hb dX0_take_4 rfl (fun _ => ?_) (fun h9 => absurd (nI_pp (by omega) (by omega)) h9)
  refine lv_aload_n hx hb dX0_take_9 rfl (lv_at hl 0 rfl) ?_
  refine gf_X0_numbers K w dX0_take_10 ?_
  refine lv_iconst (v := nI 0) hx hb dX0_take_13 (by decide) ?_
  refine ldN K w row13 (by omega) dX0_take_14 ?_
  refine lv_istore_n (lv' := [(1, .int _), (0, .ref _)]) hx hb dX0_take_15 rfl hl (by decide) rfl (fun ls hl => ?_)
  refine lv_aload_n hx hb dX0_take_16 rfl (lv_at hl 1 rfl) ?_
  refine lv_dup hx hb dX0_take_17 rfl ?_
  refine gf_X0_size K w dX0_take_18 ?_
  refine lv_iconst (v := nI 1) hx hb dX0_take_21 (by decide) ?_
  refine lv_isub hx hb dX0_take_22 ?_
  refine pf_X0_size K w (pk_sub (by omega)) dX0_take_23 (fun H locs w => ?_)
  refine lv_aload_n hx hb dX0_take_26 rfl (lv_at hl 1 rfl) ?_
  refine lv_iconst (v := nI 0) hx hb dX0_take_27 (by decide) ?_
  refine lv_aload_n hx hb dX0_take_28 rfl (lv_at hl 1 rfl) ?_
  refine gf_X0_size K w dX0_take_29 ?_
  refine callv K w (c_X0_swap dn (by omega) (by omega)) (lk_X0_28 K ⟨Nat.le_trans (Nat.le_of_ble_eq_true rfl) hR.1, Nat.le_trans (Nat.le_of_ble_eq_true rfl) hR.2⟩) (recv10 K w) rfl hl.1 rfl (Nat.le_of_ble_eq_true rfl) dX0_take_32 hf (fun H locs w => ?_)
  refine lv_aload_n hx hb dX0_take_35 rfl (lv_at hl 1 rfl) ?_
  refine callv K w (c_X0_sink dn (by omega)) (lk_X0_32 K ⟨Nat.le_trans (Nat.le_of_ble_eq_true rfl) hR.1, Nat.le_trans (Nat.le_of_ble_eq_true rfl) hR.2⟩) (recv10 K w) rfl hl.1 rfl (Nat.le_of_ble_eq_true rfl) dX0_take_36 hf (fun H locs w => ?_)
  refine lv_iload_n hx hb dX0_take_39 rfl (lv_at hl 0 rfl) ?_
  exact ret w rfl dX0_take_40

theorem c_X0_take {l : Launch} {E : En} {M : Mt} {n k : Nat} (dn : dN E) (hk : k ≤ 2000) : MI l yX0_take (.code yX0_take cX0_take 2 (some .int)) 2 47 E [.ref (ad E 10)] M n k (tkR M k) (tkF M k) n (k - 1) := by
  cases k with
  | zero => exact c_X0_take_a dn rfl
  | succ q => exact c_X0_take_b dn (by omega)
