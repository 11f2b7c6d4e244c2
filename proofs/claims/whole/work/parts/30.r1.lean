section RA
variable {p : Program} {l : Launch} {e : Env} {R : Room} {s : State} {m : MethodId} {args : Array Value} {below : List Frame} {meth : Method} {c : Code} {H : Heap} {locs : List Loc} {cells slots : Nat} {Q : State → Prop} {ls : Array Slot} {w0 : Cond} {E : En} {M MF : Mt} {UF : Mt × Nat} {n k : Nat}
set_option maxHeartbeats 4000000 in
set_option maxRecDepth 100000 in
theorem lp_tl (K : cX E p m c cX1_tellNext 4 s args w0 RX1) (hR : 4 ≤ R.frames ∧ 91 ≤ R.locals) (hf : cells ≤ R.cells ∧ slots ≤ R.slots) {q j : Nat} (hq : q < n) (ret : ∀ {H : Heap} {locs : List Loc} {pc : Nat} {ls : Array Slot}, wst E s.heap UF.1 n UF.2 H locs → decode cX1_tellNext pc = .ok (.return_, 1) → W p l e R s m args below meth c H locs cells slots Q (F0 m pc ls [])) : ∀ (d i : Nat) (M : Mt) (k : Nat) (H : Heap) (locs : List Loc) (ls : Array Slot), i + d = j → k ≤ 2000 → okN M n → pcn M q = j → tlF q d i (M, k) = UF → wst E s.heap M n k H locs → lv_has ls 4 [(2, .int (nI i)), (1, .int (nI q)), (0, .ref (ad E 0))] → W p l e R s m args below meth c H locs cells slots Q (F0 m 10 ls []) := by
  have hx := K.1.1
  have hb := K.1.2.1
  intro d
  induction d with
  | zero =>
    intro i M k H locs ls hi hk ok hj hm w hl
    have h4 := ok.le hq
    have hn := ok.1
    refine lv_iload_n hx hb dX1_tellNext_10 rfl (lv_at hl 0 rfl) ?_
    refine lv_aload_n hx hb dX1_tellNext_11 rfl (lv_at hl 2 rfl) ?_
    refine gf_X1_parentCounts K w dX1_tellNext_12 ?_
    refine lv_iload_n hx hb dX1_tellNext_15 rfl (lv_at hl 1 rfl) ?_
    refine ldN K w row4 (by omega) dX1_tellNext_16 ?_
    refine topE (y := nI (pcn M q)) (ok.pc hq) ?_
    rw [hj]
    refine lv_icmp_ge (tgt := 57) hx hb dX1_tellNext_17 rfl (fun _ => ?_) (fun h9 => absurd (nI_le (by omega) (by omega)) h9)
    exact ret (by rw [← hm]; exact w) dX1_tellNext_57
  | succ d ih =>
    intro i M k H locs ls hi hk ok hj hm w hl
    have h4 := ok.le hq
    have hn := ok.1
    have h5 := ok.lt hq (t := i) (by omega)
    refine lv_iload_n hx hb dX1_tellNext_10 rfl (lv_at hl 0 rfl) ?_
    refine lv_aload_n hx hb dX1_tellNext_11 rfl (lv_at hl 2 rfl) ?_
    refine gf_X1_parentCounts K w dX1_tellNext_12 ?_
    refine lv_iload_n hx hb dX1_tellNext_15 rfl (lv_at hl 1 rfl) ?_
    refine ldN K w row4 (by omega) dX1_tellNext_16 ?_
    refine topE (y := nI (pcn M q)) (ok.pc hq) ?_
    rw [hj]
    refine lv_icmp_ge (tgt := 57) hx hb dX1_tellNext_17 rfl (fun h9 => absurd h9 (nI_ge (by omega) (by omega))) (fun _ => ?_)
    refine lv_aload_n hx hb dX1_tellNext_20 rfl (lv_at hl 2 rfl) ?_
    refine lv_iload_n hx hb dX1_tellNext_21 rfl (lv_at hl 1 rfl) ?_
    refine lv_iload_n hx hb dX1_tellNext_22 rfl (lv_at hl 0 rfl) ?_
    refine calli K w (c_X1_parentOf K.2.2 (by omega) (ok.pr hq (by omega))) (lk_X1_120 K ⟨Nat.le_trans (Nat.le_of_ble_eq_true rfl) hR.1, Nat.le_trans (Nat.le_of_ble_eq_true rfl) hR.2⟩) (recv0 K w) rfl hl.1 rfl (Nat.le_of_ble_eq_true rfl) dX1_tellNext_23 hf (fun H locs w => ?_)
    refine lv_istore_n (lv' := [(3, .int _), (2, .int _), (1, .int _), (0, .ref _)]) hx hb dX1_tellNext_26 rfl hl (by decide) rfl (fun ls hl => ?_)
    have hm : tlF q d (i + 1) (if (va_up M 9 (upd (M 9) (par M q i) (M 9 (par M q i) - nI 1))) 9 (par M q i) = 0 then (qoF (va_up M 9 (upd (M 9) (par M q i) (M 9 (par M q i) - nI 1))) k (par M q i), puK k) else ((va_up M 9 (upd (M 9) (par M q i) (M 9 (par M q i) - nI 1))), k)) = UF := hm
    by_cases hz9 : (va_up M 9 (upd (M 9) (par M q i) (M 9 (par M q i) - nI 1))) 9 (par M q i) = 0
    · rw [if_pos hz9] at hm
      refine lv_aload_n hx hb dX1_tellNext_27 rfl (lv_at hl 3 rfl) ?_
      refine gf_X1_untoldLinks K w dX1_tellNext_28 ?_
      refine lv_iload_n hx hb dX1_tellNext_31 rfl (lv_at hl 0 rfl) ?_
      refine lv_dup2_11 hx hb dX1_tellNext_32 rfl rfl ?_
      refine ldN K w row9 (by omega) dX1_tellNext_33 ?_
      refine lv_iconst (v := nI 1) hx hb dX1_tellNext_34 (by decide) ?_
      refine lv_isub hx hb dX1_tellNext_35 ?_
      refine stN K w row9 (by omega) dX1_tellNext_36 (fun H locs w => ?_)
      refine lv_aload_n hx hb dX1_tellNext_37 rfl (lv_at hl 3 rfl) ?_
      refine gf_X1_untoldLinks K w dX1_tellNext_38 ?_
      refine lv_iload_n hx hb dX1_tellNext_41 rfl (lv_at hl 0 rfl) ?_
      refine ldN K w row9 (by omega) dX1_tellNext_42 ?_
      refine lv_if_ne (tgt := 51) hx hb dX1_tellNext_43 rfl (fun h9 => absurd hz9 h9) (fun _ => ?_)
      refine lv_aload_n hx hb dX1_tellNext_46 rfl (lv_at hl 3 rfl) ?_
      refine lv_iload_n hx hb dX1_tellNext_47 rfl (lv_at hl 0 rfl) ?_
      refine callv K w (c_X1_queueInTheOrder K.2.2 (by omega) hk) (lk_X1_96 K ⟨Nat.le_trans (Nat.le_of_ble_eq_true rfl) hR.1, Nat.le_trans (Nat.le_of_ble_eq_true rfl) hR.2⟩) (recv0 K w) rfl hl.1 rfl (Nat.le_of_ble_eq_true rfl) dX1_tellNext_48 hf (fun H locs w => ?_)
      refine lv_iinc (k := 1) (v := nI (_ + 1)) (lv' := [(2, .int _), (3, .int _), (1, .int _), (0, .ref _)]) hx hb dX1_tellNext_51 hl rfl (inc1 _) (by decide) rfl (fun ls hl => ?_)
      refine lv_goto (tgt := 10) hx hb dX1_tellNext_54 rfl ?_
      exact ih (i + 1) (qoF (va_up M 9 (upd (M 9) (par M q i) (M 9 (par M q i) - nI 1))) k (par M q i)) (puK k) _ _ _ (by omega) (puK_le hk) (okN.rows (M := M) ok (qoF_row (by decide) (by decide) (by decide)) (qoF_row (by decide) (by decide) (by decide))) (by rw [← hj, pcn, qoF_row (by decide) (by decide) (by decide)]; rfl) hm w (lv_sub hl [0, 2, 3] rfl)
    · rw [if_neg hz9] at hm
      refine lv_aload_n hx hb dX1_tellNext_27 rfl (lv_at hl 3 rfl) ?_
      refine gf_X1_untoldLinks K w dX1_tellNext_28 ?_
      refine lv_iload_n hx hb dX1_tellNext_31 rfl (lv_at hl 0 rfl) ?_
      refine lv_dup2_11 hx hb dX1_tellNext_32 rfl rfl ?_
      refine ldN K w row9 (by omega) dX1_tellNext_33 ?_
      refine lv_iconst (v := nI 1) hx hb dX1_tellNext_34 (by decide) ?_
      refine lv_isub hx hb dX1_tellNext_35 ?_
      refine stN K w row9 (by omega) dX1_tellNext_36 (fun H locs w => ?_)
      refine lv_aload_n hx hb dX1_tellNext_37 rfl (lv_at hl 3 rfl) ?_
      refine gf_X1_untoldLinks K w dX1_tellNext_38 ?_
      refine lv_iload_n hx hb dX1_tellNext_41 rfl (lv_at hl 0 rfl) ?_
      refine ldN K w row9 (by omega) dX1_tellNext_42 ?_
      refine lv_if_ne (tgt := 51) hx hb dX1_tellNext_43 rfl (fun _ => ?_) (fun h9 => absurd h9 hz9)
      refine lv_iinc (k := 1) (v := nI (_ + 1)) (lv' := [(2, .int _), (3, .int _), (1, .int _), (0, .ref _)]) hx hb dX1_tellNext_51 hl rfl (inc1 _) (by decide) rfl (fun ls hl => ?_)
      refine lv_goto (tgt := 10) hx hb dX1_tellNext_54 rfl ?_
      exact ih (i + 1) (va_up M 9 (upd (M 9) (par M q i) (M 9 (par M q i) - nI 1))) k _ _ _ (by omega) hk ok hj hm w (lv_sub hl [0, 2, 3] rfl)

end RA
set_option maxHeartbeats 4000000 in
set_option maxRecDepth 100000 in
theorem c_X1_tellNext {l : Launch} {E : En} {M : Mt} {n k : Nat} (dn : dN E) (ok : okN M n) (h0 : 0 < k) (hk : k ≤ 2000) (hq : qN M n k) : MV l yX1_tellNext (.code yX1_tellNext cX1_tellNext 4 none) 4 91 E [.ref (ad E 0)] M n k  ((tnF (M, k)).1) (n) ((tnF (M, k)).2) := by
  refine MV.of dn (own := RX1) (by decide) rfl (Nat.le_of_ble_eq_true rfl) (fun p e s m args below meth c ls Q K w hl ret => ?_)
  have hx := K.1.1
  have hb := K.1.2.1
  have hR : 4 ≤ (rmA 4 91).frames ∧ 91 ≤ (rmA 4 91).locals := ⟨Nat.le_refl _, Nat.le_refl _⟩
  have hf : 0 ≤ (rmA 4 91).cells ∧ 0 ≤ (rmA 4 91).slots := ⟨Nat.le_refl _, Nat.le_refl _⟩
  have hl : lv_has ls 4 [(0, .ref (ad E 0))] := hl
  refine lv_aload_n hx hb dX1_tellNext_0 rfl (lv_at hl 0 rfl) ?_
  refine gf_X1_queue K w dX1_tellNext_1 ?_
  refine calli K w (c_X0_take dn hk) (lk_X1_170 K ⟨Nat.le_trans (Nat.le_of_ble_eq_true rfl) hR.1, Nat.le_trans (Nat.le_of_ble_eq_true rfl) hR.2⟩) (recv10 K w) rfl hl.1 rfl (Nat.le_of_ble_eq_true rfl) dX1_tellNext_4 hf (fun H locs w => ?_)
  refine topE (y := nI (ix (tkR M k))) (tk0 ok.1 hq h0).1 ?_
  refine lv_istore_n (lv' := [(1, .int _), (0, .ref _)]) hx hb dX1_tellNext_7 rfl hl (by decide) rfl (fun ls hl => ?_)
  refine lv_iconst (v := nI 0) hx hb dX1_tellNext_8 (by decide) ?_
  refine lv_istore_n (lv' := [(2, .int _), (1, .int _), (0, .ref _)]) hx hb dX1_tellNext_9 rfl hl (by decide) rfl (fun ls hl => ?_)
  exact lp_tl K ⟨Nat.le_trans (Nat.le_of_ble_eq_true rfl) hR.1, Nat.le_trans (Nat.le_of_ble_eq_true rfl) hR.2⟩ hf (tk0 ok.1 hq h0).2 ret _ 0 _ _ _ _ _ (Nat.zero_add _) (by omega) (ok.rows (tkF_row (by decide) (by decide) (by decide)) (tkF_row (by decide) (by decide) (by decide))) rfl rfl w (lv_sub hl [0, 1, 2] rfl)

section RB
variable {p : Program} {l : Launch} {e : Env} {R : Room} {s : State} {m : MethodId} {args : Array Value} {below : List Frame} {meth : Method} {c : Code} {H : Heap} {locs : List Loc} {cells slots : Nat} {Q : State → Prop} {ls : Array Slot} {w0 : Cond} {E : En} {M MF : Mt} {UF : Mt × Nat} {n k : Nat}
set_option maxHeartbeats 4000000 in
set_option maxRecDepth 100000 in
theorem lp_ta (K : cX E p m c cX1_toldAt 4 s args w0 RX1) (hR : 5 ≤ R.frames ∧ 114 ≤ R.locals) (hf : cells ≤ R.cells ∧ slots ≤ R.slots) {j : Nat} (hj : j < 2147483648) (kk : ∀ (H : Heap) (locs : List Loc) (ls : Array Slot), wst E s.heap UF.1 n UF.2 H locs → lv_has ls 4 [(0, .ref (ad E 0))] → W p l e R s m args below meth c H locs cells slots Q (F0 m 43 ls [])) : ∀ (d i : Nat) (M : Mt) (k : Nat) (H : Heap) (locs : List Loc) (ls : Array Slot), i + d = j → k ≤ 2000 → okN M n → qN M n k → taF d (M, k) = UF → wst E s.heap M n k H locs → lv_has ls 4 [(3, .int (nI i)), (2, .int (nI j)), (0, .ref (ad E 0))] → W p l e R s m args below meth c H locs cells slots Q (F0 m 18 ls []) := by
  have hx := K.1.1
  have hb := K.1.2.1
  intro d
  induction d with
  | zero =>
    intro i M k H locs ls hi hk ok hq hm w hl
    refine lv_iload_n hx hb dX1_toldAt_18 rfl (lv_at hl 0 rfl) ?_
    refine lv_iload_n hx hb dX1_toldAt_19 rfl (lv_at hl 1 rfl) ?_
    refine lv_icmp_ge (tgt := 43) hx hb dX1_toldAt_20 rfl (fun _ => ?_) (fun h9 => absurd (nI_le (by omega) (by omega)) h9)
    exact kk _ _ _ (by rw [← hm]; exact w) (lv_sub hl [2] rfl)
  | succ d ih =>
    intro i M k H locs ls hi hk ok hq hm w hl
    refine lv_iload_n hx hb dX1_toldAt_18 rfl (lv_at hl 0 rfl) ?_
    refine lv_iload_n hx hb dX1_toldAt_19 rfl (lv_at hl 1 rfl) ?_
    refine lv_icmp_ge (tgt := 43) hx hb dX1_toldAt_20 rfl (fun h9 => absurd h9 (nI_ge (by omega) (by omega))) (fun _ => ?_)
    by_cases h0 : 0 < k
    · rw [taF, if_pos h0] at hm
      refine lv_aload_n hx hb dX1_toldAt_23 rfl (lv_at hl 2 rfl) ?_
      refine gf_X1_queue K w dX1_toldAt_24 ?_
      refine calli K w (c_X0_size K.2.2) (lk_X1_167 K ⟨Nat.le_trans (Nat.le_of_ble_eq_true rfl) hR.1, Nat.le_trans (Nat.le_of_ble_eq_true rfl) hR.2⟩) (recv10 K w) rfl hl.1 rfl (Nat.le_of_ble_eq_true rfl) dX1_toldAt_27 hf (fun H locs w => ?_)
      refine lv_if_le (tgt := 43) hx hb dX1_toldAt_30 rfl (fun h9 => absurd h9 (nI_nle h0 (by omega))) (fun _ => ?_)
      refine lv_aload_n hx hb dX1_toldAt_33 rfl (lv_at hl 2 rfl) ?_
      refine callv K w (c_X1_tellNext K.2.2 ok h0 hk hq) (lk_X1_176 K ⟨Nat.le_trans (Nat.le_of_ble_eq_true rfl) hR.1, Nat.le_trans (Nat.le_of_ble_eq_true rfl) hR.2⟩) (recv0 K w) rfl hl.1 rfl (Nat.le_of_ble_eq_true rfl) dX1_toldAt_34 hf (fun H locs w => ?_)
      refine lv_iinc (k := 0) (v := nI (_ + 1)) (lv' := [(3, .int _), (2, .int _), (0, .ref _)]) hx hb dX1_toldAt_37 hl rfl (inc1 _) (by decide) rfl (fun ls hl => ?_)
      refine lv_goto (tgt := 18) hx hb dX1_toldAt_40 rfl ?_
      exact ih (i + 1) _ _ _ _ _ (by omega) (tnF_inv ok h0 hk hq).2.1 (tnF_inv ok h0 hk hq).1 (tnF_inv ok h0 hk hq).2.2 hm w (lv_sub hl [0, 1, 2] rfl)
    · rw [taF, if_neg h0] at hm
      refine lv_aload_n hx hb dX1_toldAt_23 rfl (lv_at hl 2 rfl) ?_
      refine gf_X1_queue K w dX1_toldAt_24 ?_
      refine calli K w (c_X0_size K.2.2) (lk_X1_167 K ⟨Nat.le_trans (Nat.le_of_ble_eq_true rfl) hR.1, Nat.le_trans (Nat.le_of_ble_eq_true rfl) hR.2⟩) (recv10 K w) rfl hl.1 rfl (Nat.le_of_ble_eq_true rfl) dX1_toldAt_27 hf (fun H locs w => ?_)
      refine lv_if_le (tgt := 43) hx hb dX1_toldAt_30 rfl (fun _ => ?_) (fun h9 => absurd (by rw [Nat.eq_zero_of_not_pos h0]; decide) h9)
      exact kk _ _ _ (by rw [← hm]; exact w) (lv_sub hl [2] rfl)

end RB
def tl0 (M : Mt) (n c : Nat) : Mt × Nat := (qoF (cuF M n) 0 c, puK 0)
theorem tl0_inv {M : Mt} {n c : Nat} (ok : okN M n) (hc : c < n) : okN (tl0 M n c).1 n ∧ (tl0 M n c).2 ≤ 2000 ∧ qN (tl0 M n c).1 n (tl0 M n c).2 :=
  ⟨(ok.rows (M' := cuF M n) (cuF_row (by decide)) (cuF_row (by decide))).rows (show qoF (cuF M n) 0 c 4 = cuF M n 4 from qoF_row (by decide) (by decide) (by decide)) (show qoF (cuF M n) 0 c 5 = cuF M n 5 from qoF_row (by decide) (by decide) (by decide)), by show puK 0 ≤ 2000; decide, qN.pu (fun i hi => absurd hi (Nat.not_lt_zero i)) hc⟩

set_option maxHeartbeats 4000000 in
set_option maxRecDepth 100000 in
theorem c_X1_toldAt {l : Launch} {E : En} {M : Mt} {n k : Nat} (dn : dN E) {q j : Nat} (hq : q < n) (hj : j < 2147483648) (ok : okN M n) : MI l yX1_toldAt (.code yX1_toldAt cX1_toldAt 4 (some .int)) 5 114 E [.ref (ad E 0), .int (nI q), .int (nI j)] M n k (tkR (taF j (tl0 M n q)).1 (taF j (tl0 M n q)).2)  (tkF (taF j (tl0 M n q)).1 (taF j (tl0 M n q)).2) (n) ((taF j (tl0 M n q)).2 - 1) := by
  refine MI.of dn (own := RX1) (by decide) rfl (Nat.le_of_ble_eq_true rfl) (fun p e s m args below meth c ls Q K w hl ret => ?_)
  have hx := K.1.1
  have hb := K.1.2.1
  have hR : 5 ≤ (rmA 5 114).frames ∧ 114 ≤ (rmA 5 114).locals := ⟨Nat.le_refl _, Nat.le_refl _⟩
  have hf : 0 ≤ (rmA 5 114).cells ∧ 0 ≤ (rmA 5 114).slots := ⟨Nat.le_refl _, Nat.le_refl _⟩
  have hl : lv_has ls 4 [(0, .ref (ad E 0)), (1, .int (nI q)), (2, .int (nI j))] := hl
  have hn := ok.1
  refine lv_aload_n hx hb dX1_toldAt_0 rfl (lv_at hl 0 rfl) ?_
  refine callv K w (c_X1_countUntoldLinks dn ok) (lk_X1_173 K ⟨Nat.le_trans (Nat.le_of_ble_eq_true rfl) hR.1, Nat.le_trans (Nat.le_of_ble_eq_true rfl) hR.2⟩) (recv0 K w) rfl hl.1 rfl (Nat.le_of_ble_eq_true rfl) dX1_toldAt_1 hf (fun H locs w => ?_)
  refine lv_aload_n hx hb dX1_toldAt_4 rfl (lv_at hl 0 rfl) ?_
  refine gf_X1_queue K w dX1_toldAt_5 ?_
  refine callv K w (c_X0_clear dn) (lk_X1_93 K ⟨Nat.le_trans (Nat.le_of_ble_eq_true rfl) hR.1, Nat.le_trans (Nat.le_of_ble_eq_true rfl) hR.2⟩) (recv10 K w) rfl hl.1 rfl (Nat.le_of_ble_eq_true rfl) dX1_toldAt_8 hf (fun H locs w => ?_)
  refine lv_aload_n hx hb dX1_toldAt_11 rfl (lv_at hl 0 rfl) ?_
  refine lv_iload_n hx hb dX1_toldAt_12 rfl (lv_at hl 1 rfl) ?_
  refine callv K w (c_X1_queueInTheOrder dn (by omega) (by decide)) (lk_X1_96 K ⟨Nat.le_trans (Nat.le_of_ble_eq_true rfl) hR.1, Nat.le_trans (Nat.le_of_ble_eq_true rfl) hR.2⟩) (recv0 K w) rfl hl.1 rfl (Nat.le_of_ble_eq_true rfl) dX1_toldAt_13 hf (fun H locs w => ?_)
  refine lv_iconst (v := nI 0) hx hb dX1_toldAt_16 (by decide) ?_
  refine lv_istore_n (lv' := [(3, .int _), (0, .ref _), (1, .int _), (2, .int _)]) hx hb dX1_toldAt_17 rfl hl (by decide) rfl (fun ls hl => ?_)
  refine lp_ta K ⟨Nat.le_trans (Nat.le_of_ble_eq_true rfl) hR.1, Nat.le_trans (Nat.le_of_ble_eq_true rfl) hR.2⟩ hf hj (fun H locs ls w hl => ?_) j 0 _ _ _ _ _ (by omega) (tl0_inv ok hq).2.1 (tl0_inv ok hq).1 (tl0_inv ok hq).2.2 rfl w (lv_sub hl [0, 3, 1] rfl)
  refine lv_aload_n hx hb dX1_toldAt_43 rfl (lv_at hl 0 rfl) ?_
  refine gf_X1_queue K w dX1_toldAt_44 ?_
  refine calli K w (c_X0_take dn (taF_inv (tl0_inv ok hq).1 (tl0_inv ok hq).2.1 (tl0_inv ok hq).2.2).2.1) (lk_X1_170 K ⟨Nat.le_trans (Nat.le_of_ble_eq_true rfl) hR.1, Nat.le_trans (Nat.le_of_ble_eq_true rfl) hR.2⟩) (recv10 K w) rfl hl.1 rfl (Nat.le_of_ble_eq_true rfl) dX1_toldAt_47 hf (fun H locs w => ?_)
  exact ret w rfl dX1_toldAt_50
