theorem bn_t {x y : Int32} (h : ¬ x = y) : nI 1 = bI (decide (¬ x = y)) := by rw [decide_eq_true h]; rfl
theorem bn_f {x y : Int32} (h : x = y) : nI 0 = bI (decide (¬ x = y)) := by rw [decide_eq_false (fun h2 => h2 h)]; rfl
def ad0 (M : Mt) (n : Nat) (ti ky : Int32) : Mt := va_up (va_up (va_up M 1 (upd (M 1) n ti)) 2 (upd (M 2) n ky)) 3 (upd (M 3) n (nI 1))
def adF (M : Mt) (n : Nat) (ti ky : Int32) (a b d : Option Nat) : Mt := lkO (lkO (lkO (ad0 M n ti ky) n a) n b) n d

set_option maxHeartbeats 4000000 in
set_option maxRecDepth 100000 in
theorem c_X1_add {l : Launch} {E : En} {M : Mt} {n k : Nat} (dn : dN E) {ti ky : Int32} {a b d : Option Nat} (ha : oB a n) (hb0 : oB b n) (hd : oB d n) (hn : n < 2000) (h4 : M 4 n = nI 0) : MI l yX1_add (.code yX1_add cX1_add 7 (some .int)) 3 68 E [.ref (ad E 0), .int ti, .int ky, .int (oI a), .int (oI b), .int (oI d)] M n k (nI n)  (adF M n ti ky a b d) (n + 1) (k) := by
  refine MI.of dn (own := RX1) (by decide) rfl (Nat.le_of_ble_eq_true rfl) (fun p e s m args below meth c ls Q K w hl ret => ?_)
  have hx := K.1.1
  have hb := K.1.2.1
  have hR : 3 ≤ (rmA 3 68).frames ∧ 68 ≤ (rmA 3 68).locals := ⟨Nat.le_refl _, Nat.le_refl _⟩
  have hf : 0 ≤ (rmA 3 68).cells ∧ 0 ≤ (rmA 3 68).slots := ⟨Nat.le_refl _, Nat.le_refl _⟩
  have hl : lv_has ls 7 [(0, .ref (ad E 0)), (1, .int ti), (2, .int ky), (3, .int (oI a)), (4, .int (oI b)), (5, .int (oI d))] := hl
  have up : ∀ {o : Option Nat}, oB o n → oB o 2000 := fun ho u hu => Nat.lt_trans (ho u hu) hn
  have e : pcn (ad0 M n ti ky) n = 0 := by rw [pcn, show ad0 M n ti ky 4 n = nI 0 from h4]; rfl
  have e0 : ad0 M n ti ky 4 n = nI (pcn (ad0 M n ti ky) n) := by rw [e]; exact h4
  have e1 := pcn_lkO (o := a) e0 (Nat.le_of_eq e) (by decide)
  have e2 := pcn_lkO (o := b) e1.1 e1.2 (by decide)
  refine lv_aload_n hx hb dX1_add_0 rfl (lv_at hl 0 rfl) ?_
  refine lv_iload_n hx hb dX1_add_1 rfl (lv_at hl 3 rfl) ?_
  refine callv K w (c_X1_checkParentOrNone dn ha (by omega)) (lk_X1_45 K ⟨Nat.le_trans (Nat.le_of_ble_eq_true rfl) hR.1, Nat.le_trans (Nat.le_of_ble_eq_true rfl) hR.2⟩) (recv0 K w) rfl hl.1 rfl (Nat.le_of_ble_eq_true rfl) dX1_add_2 hf (fun H locs w => ?_)
  refine lv_aload_n hx hb dX1_add_5 rfl (lv_at hl 0 rfl) ?_
  refine lv_iload hx hb dX1_add_6 (lv_at hl 4 rfl) ?_
  refine callv K w (c_X1_checkParentOrNone dn hb0 (by omega)) (lk_X1_45 K ⟨Nat.le_trans (Nat.le_of_ble_eq_true rfl) hR.1, Nat.le_trans (Nat.le_of_ble_eq_true rfl) hR.2⟩) (recv0 K w) rfl hl.1 rfl (Nat.le_of_ble_eq_true rfl) dX1_add_8 hf (fun H locs w => ?_)
  refine lv_aload_n hx hb dX1_add_11 rfl (lv_at hl 0 rfl) ?_
  refine lv_iload hx hb dX1_add_12 (lv_at hl 5 rfl) ?_
  refine callv K w (c_X1_checkParentOrNone dn hd (by omega)) (lk_X1_45 K ⟨Nat.le_trans (Nat.le_of_ble_eq_true rfl) hR.1, Nat.le_trans (Nat.le_of_ble_eq_true rfl) hR.2⟩) (recv0 K w) rfl hl.1 rfl (Nat.le_of_ble_eq_true rfl) dX1_add_14 hf (fun H locs w => ?_)
  refine lv_aload_n hx hb dX1_add_17 rfl (lv_at hl 0 rfl) ?_
  refine gf_X1_commits K w dX1_add_18 ?_
  refine lv_sipush (v := nI 2000) hx hb dX1_add_21 (by decide) ?_
  refine lv_icmp_lt (tgt := 37) hx hb dX1_add_24 rfl (fun _ => ?_) (fun h9 => absurd (nI_lt hn (by decide)) h9)
  refine lv_aload_n hx hb dX1_add_37 rfl (lv_at hl 0 rfl) ?_
  refine gf_X1_commits K w dX1_add_38 ?_
  refine lv_istore (lv' := [(6, .int _), (0, .ref _), (1, .int _), (2, .int _), (3, .int _), (4, .int _), (5, .int _)]) hx hb dX1_add_41 hl (by decide) rfl (fun ls hl => ?_)
  refine lv_aload_n hx hb dX1_add_43 rfl (lv_at hl 1 rfl) ?_
  refine lv_dup hx hb dX1_add_44 rfl ?_
  refine gf_X1_commits K w dX1_add_45 ?_
  refine lv_iconst (v := nI 1) hx hb dX1_add_48 (by decide) ?_
  refine lv_iadd hx hb dX1_add_49 ?_
  refine pf_X1_commits K w (nI_add n 1) dX1_add_50 (fun H locs w => ?_)
  refine lv_aload_n hx hb dX1_add_53 rfl (lv_at hl 1 rfl) ?_
  refine gf_X1_times K w dX1_add_54 ?_
  refine lv_iload hx hb dX1_add_57 (lv_at hl 0 rfl) ?_
  refine lv_iload_n hx hb dX1_add_59 rfl (lv_at hl 2 rfl) ?_
  refine stN K w row1 (by omega) dX1_add_60 (fun H locs w => ?_)
  refine lv_aload_n hx hb dX1_add_61 rfl (lv_at hl 1 rfl) ?_
  refine gf_X1_keys K w dX1_add_62 ?_
  refine lv_iload hx hb dX1_add_65 (lv_at hl 0 rfl) ?_
  refine lv_iload_n hx hb dX1_add_67 rfl (lv_at hl 3 rfl) ?_
  refine stN K w row2 (by omega) dX1_add_68 (fun H locs w => ?_)
  refine lv_aload_n hx hb dX1_add_69 rfl (lv_at hl 1 rfl) ?_
  refine gf_X1_generations K w dX1_add_70 ?_
  refine lv_iload hx hb dX1_add_73 (lv_at hl 0 rfl) ?_
  refine lv_iconst (v := nI 1) hx hb dX1_add_75 (by decide) ?_
  refine stN K w row3 (by omega) dX1_add_76 (fun H locs w => ?_)
  have w : wst E s.heap (ad0 M n ti ky) (n + 1) k H locs := w
  refine lv_aload_n hx hb dX1_add_77 rfl (lv_at hl 1 rfl) ?_
  refine lv_iload hx hb dX1_add_78 (lv_at hl 0 rfl) ?_
  refine lv_iload_n hx hb dX1_add_80 rfl (lv_at hl 4 rfl) ?_
  refine callv K w (c_X1_linkUnlessNone dn (up ha) hn e0 (by omega)) (lk_X1_60 K ⟨Nat.le_trans (Nat.le_of_ble_eq_true rfl) hR.1, Nat.le_trans (Nat.le_of_ble_eq_true rfl) hR.2⟩) (recv0 K w) rfl hl.1 rfl (Nat.le_of_ble_eq_true rfl) dX1_add_81 hf (fun H locs w => ?_)
  refine lv_aload_n hx hb dX1_add_84 rfl (lv_at hl 1 rfl) ?_
  refine lv_iload hx hb dX1_add_85 (lv_at hl 0 rfl) ?_
  refine lv_iload hx hb dX1_add_87 (lv_at hl 5 rfl) ?_
  refine callv K w (c_X1_linkUnlessNone dn (up hb0) hn e1.1 (by omega)) (lk_X1_60 K ⟨Nat.le_trans (Nat.le_of_ble_eq_true rfl) hR.1, Nat.le_trans (Nat.le_of_ble_eq_true rfl) hR.2⟩) (recv0 K w) rfl hl.1 rfl (Nat.le_of_ble_eq_true rfl) dX1_add_89 hf (fun H locs w => ?_)
  refine lv_aload_n hx hb dX1_add_92 rfl (lv_at hl 1 rfl) ?_
  refine lv_iload hx hb dX1_add_93 (lv_at hl 0 rfl) ?_
  refine lv_iload hx hb dX1_add_95 (lv_at hl 6 rfl) ?_
  refine callv K w (c_X1_linkUnlessNone dn (up hd) hn e2.1 (by omega)) (lk_X1_60 K ⟨Nat.le_trans (Nat.le_of_ble_eq_true rfl) hR.1, Nat.le_trans (Nat.le_of_ble_eq_true rfl) hR.2⟩) (recv0 K w) rfl hl.1 rfl (Nat.le_of_ble_eq_true rfl) dX1_add_97 hf (fun H locs w => ?_)
  refine lv_iload hx hb dX1_add_100 (lv_at hl 0 rfl) ?_
  exact ret w rfl dX1_add_102

set_option maxHeartbeats 4000000 in
set_option maxRecDepth 100000 in
theorem c_X1_under {l : Launch} {E : En} {M : Mt} {n k : Nat} (dn : dN E) {q u : Nat} (hq : q < n) (hu : u < q) (hn : n ≤ 2000) (h6 : M 6 q = 0) (hj : M 4 q = nI (pcn M q)) (h4 : pcn M q < 4) : MI l yX1_under (.code yX1_under cX1_under 3 (some .int)) 2 46 E [.ref (ad E 0), .int (nI q), .int (nI u)] M n k (lkF M q u 4 q)  (lkF M q u) (n) (k) := by
  refine MI.of dn (own := RX1) (by decide) rfl (Nat.le_of_ble_eq_true rfl) (fun p e s m args below meth c ls Q K w hl ret => ?_)
  have hx := K.1.1
  have hb := K.1.2.1
  have hR : 2 ≤ (rmA 2 46).frames ∧ 46 ≤ (rmA 2 46).locals := ⟨Nat.le_refl _, Nat.le_refl _⟩
  have hf : 0 ≤ (rmA 2 46).cells ∧ 0 ≤ (rmA 2 46).slots := ⟨Nat.le_refl _, Nat.le_refl _⟩
  have hl : lv_has ls 3 [(0, .ref (ad E 0)), (1, .int (nI q)), (2, .int (nI u))] := hl
  refine lv_aload_n hx hb dX1_under_0 rfl (lv_at hl 0 rfl) ?_
  refine lv_iload_n hx hb dX1_under_1 rfl (lv_at hl 1 rfl) ?_
  refine callv K w (c_X1_checkCommit dn hq hn) (lk_X1_64 K ⟨Nat.le_trans (Nat.le_of_ble_eq_true rfl) hR.1, Nat.le_trans (Nat.le_of_ble_eq_true rfl) hR.2⟩) (recv0 K w) rfl hl.1 rfl (Nat.le_of_ble_eq_true rfl) dX1_under_2 hf (fun H locs w => ?_)
  refine lv_iload_n hx hb dX1_under_5 rfl (lv_at hl 2 rfl) ?_
  refine lv_if_lt (tgt := 14) hx hb dX1_under_6 rfl (fun h9 => absurd h9 (nI_pos (by omega))) (fun _ => ?_)
  refine lv_iload_n hx hb dX1_under_9 rfl (lv_at hl 2 rfl) ?_
  refine lv_iload_n hx hb dX1_under_10 rfl (lv_at hl 1 rfl) ?_
  refine lv_icmp_lt (tgt := 24) hx hb dX1_under_11 rfl (fun _ => ?_) (fun h9 => absurd (nI_lt hu (by omega)) h9)
  refine lv_aload_n hx hb dX1_under_24 rfl (lv_at hl 0 rfl) ?_
  refine gf_X1_isParent K w dX1_under_25 ?_
  refine lv_iload_n hx hb dX1_under_28 rfl (lv_at hl 1 rfl) ?_
  refine ldZ K w (by omega) dX1_under_29 ?_
  refine lv_if_ne (tgt := 43) hx hb dX1_under_30 rfl (fun h9 => absurd h6 h9) (fun _ => ?_)
  refine lv_aload_n hx hb dX1_under_33 rfl (lv_at hl 0 rfl) ?_
  refine gf_X1_parentCounts K w dX1_under_34 ?_
  refine lv_iload_n hx hb dX1_under_37 rfl (lv_at hl 1 rfl) ?_
  refine ldN K w row4 (by omega) dX1_under_38 ?_
  refine topE (y := nI (pcn M q)) hj ?_
  refine lv_iconst (v := nI 4) hx hb dX1_under_39 (by decide) ?_
  refine lv_icmp_lt (tgt := 53) hx hb dX1_under_40 rfl (fun _ => ?_) (fun h9 => absurd (nI_lt h4 (by decide)) h9)
  refine lv_aload_n hx hb dX1_under_53 rfl (lv_at hl 0 rfl) ?_
  refine lv_iload_n hx hb dX1_under_54 rfl (lv_at hl 1 rfl) ?_
  refine lv_iload_n hx hb dX1_under_55 rfl (lv_at hl 2 rfl) ?_
  refine callv K w (c_X1_link dn (by omega) (by omega) hj h4) (lk_X1_74 K ⟨Nat.le_trans (Nat.le_of_ble_eq_true rfl) hR.1, Nat.le_trans (Nat.le_of_ble_eq_true rfl) hR.2⟩) (recv0 K w) rfl hl.1 rfl (Nat.le_of_ble_eq_true rfl) dX1_under_56 hf (fun H locs w => ?_)
  refine lv_aload_n hx hb dX1_under_59 rfl (lv_at hl 0 rfl) ?_
  refine gf_X1_parentCounts K w dX1_under_60 ?_
  refine lv_iload_n hx hb dX1_under_63 rfl (lv_at hl 1 rfl) ?_
  refine ldN K w row4 (by omega) dX1_under_64 ?_
  exact ret w rfl dX1_under_65

set_option maxHeartbeats 4000000 in
set_option maxRecDepth 100000 in
theorem c_X1_tip_1 {l : Launch} {E : En} {M : Mt} {n k : Nat} (dn : dN E) {h q : Nat} (hh : h < 2) (hq : q < n) (hn : n ≤ 2000) : MV l yX1_tip (.code yX1_tip cX1_tip 4 none) 1 21 E [.ref (ad E 0), .int (nI h), .int (nI q), .int (nI 1)] M n k  (va_up M 7 (upd (M 7) q (M 7 q ||| sdF h))) (n) (k) := by
  refine MV.of dn (own := RX1) (by decide) rfl (Nat.le_of_ble_eq_true rfl) (fun p e s m args below meth c ls Q K w hl ret => ?_)
  have hx := K.1.1
  have hb := K.1.2.1
  have hR : 1 ≤ (rmA 1 21).frames ∧ 21 ≤ (rmA 1 21).locals := ⟨Nat.le_refl _, Nat.le_refl _⟩
  have hf : 0 ≤ (rmA 1 21).cells ∧ 0 ≤ (rmA 1 21).slots := ⟨Nat.le_refl _, Nat.le_refl _⟩
  have hl : lv_has ls 4 [(0, .ref (ad E 0)), (1, .int (nI h)), (2, .int (nI q)), (3, .int (nI 1))] := hl
  refine lv_iload_n hx hb dX1_tip_0 rfl (lv_at hl 1 rfl) ?_
  refine callsv K w (c_X1_checkHolder dn hh) (lk_X1_77 K ⟨Nat.le_trans (Nat.le_of_ble_eq_true rfl) hR.1, Nat.le_trans (Nat.le_of_ble_eq_true rfl) hR.2⟩) rfl hl.1 rfl (Nat.le_of_ble_eq_true rfl) dX1_tip_1 hf (fun H locs w => ?_)
  refine lv_aload_n hx hb dX1_tip_4 rfl (lv_at hl 0 rfl) ?_
  refine lv_iload_n hx hb dX1_tip_5 rfl (lv_at hl 2 rfl) ?_
  refine callv K w (c_X1_checkCommit dn hq hn) (lk_X1_64 K ⟨Nat.le_trans (Nat.le_of_ble_eq_true rfl) hR.1, Nat.le_trans (Nat.le_of_ble_eq_true rfl) hR.2⟩) (recv0 K w) rfl hl.1 rfl (Nat.le_of_ble_eq_true rfl) dX1_tip_6 hf (fun H locs w => ?_)
  refine lv_aload_n hx hb dX1_tip_9 rfl (lv_at hl 0 rfl) ?_
  refine gf_X1_tips K w dX1_tip_10 ?_
  refine lv_iload_n hx hb dX1_tip_13 rfl (lv_at hl 2 rfl) ?_
  refine lv_iload_n hx hb dX1_tip_14 rfl (lv_at hl 3 rfl) ?_
  refine lv_if_eq (tgt := 32) hx hb dX1_tip_15 rfl (fun h9 => absurd h9 (by decide : ¬ nI 1 = 0)) (fun _ => ?_)
  refine lv_aload_n hx hb dX1_tip_18 rfl (lv_at hl 0 rfl) ?_
  refine gf_X1_tips K w dX1_tip_19 ?_
  refine lv_iload_n hx hb dX1_tip_22 rfl (lv_at hl 2 rfl) ?_
  refine ldN K w row7 (by omega) dX1_tip_23 ?_
  refine lv_iload_n hx hb dX1_tip_24 rfl (lv_at hl 1 rfl) ?_
  refine callsi K w (c_X1_sideOf dn (by omega)) (lk_X1_80 K ⟨Nat.le_trans (Nat.le_of_ble_eq_true rfl) hR.1, Nat.le_trans (Nat.le_of_ble_eq_true rfl) hR.2⟩) rfl hl.1 rfl (Nat.le_of_ble_eq_true rfl) dX1_tip_25 hf (fun H locs w => ?_)
  refine lv_ior hx hb dX1_tip_28 ?_
  refine lv_goto (tgt := 45) hx hb dX1_tip_29 rfl ?_
  refine stN K w row7 (by omega) dX1_tip_45 (fun H locs w => ?_)
  exact ret w dX1_tip_46
set_option maxHeartbeats 4000000 in
set_option maxRecDepth 100000 in
theorem c_X1_tip_0 {l : Launch} {E : En} {M : Mt} {n k : Nat} (dn : dN E) {h q : Nat} (hh : h < 2) (hq : q < n) (hn : n ≤ 2000) : MV l yX1_tip (.code yX1_tip cX1_tip 4 none) 1 21 E [.ref (ad E 0), .int (nI h), .int (nI q), .int (nI 0)] M n k  (va_up M 7 (upd (M 7) q (M 7 q &&& (sdF h ^^^ (-1))))) (n) (k) := by
  refine MV.of dn (own := RX1) (by decide) rfl (Nat.le_of_ble_eq_true rfl) (fun p e s m args below meth c ls Q K w hl ret => ?_)
  have hx := K.1.1
  have hb := K.1.2.1
  have hR : 1 ≤ (rmA 1 21).frames ∧ 21 ≤ (rmA 1 21).locals := ⟨Nat.le_refl _, Nat.le_refl _⟩
  have hf : 0 ≤ (rmA 1 21).cells ∧ 0 ≤ (rmA 1 21).slots := ⟨Nat.le_refl _, Nat.le_refl _⟩
  have hl : lv_has ls 4 [(0, .ref (ad E 0)), (1, .int (nI h)), (2, .int (nI q)), (3, .int (nI 0))] := hl
  refine lv_iload_n hx hb dX1_tip_0 rfl (lv_at hl 1 rfl) ?_
  refine callsv K w (c_X1_checkHolder dn hh) (lk_X1_77 K ⟨Nat.le_trans (Nat.le_of_ble_eq_true rfl) hR.1, Nat.le_trans (Nat.le_of_ble_eq_true rfl) hR.2⟩) rfl hl.1 rfl (Nat.le_of_ble_eq_true rfl) dX1_tip_1 hf (fun H locs w => ?_)
  refine lv_aload_n hx hb dX1_tip_4 rfl (lv_at hl 0 rfl) ?_
  refine lv_iload_n hx hb dX1_tip_5 rfl (lv_at hl 2 rfl) ?_
  refine callv K w (c_X1_checkCommit dn hq hn) (lk_X1_64 K ⟨Nat.le_trans (Nat.le_of_ble_eq_true rfl) hR.1, Nat.le_trans (Nat.le_of_ble_eq_true rfl) hR.2⟩) (recv0 K w) rfl hl.1 rfl (Nat.le_of_ble_eq_true rfl) dX1_tip_6 hf (fun H locs w => ?_)
  refine lv_aload_n hx hb dX1_tip_9 rfl (lv_at hl 0 rfl) ?_
  refine gf_X1_tips K w dX1_tip_10 ?_
  refine lv_iload_n hx hb dX1_tip_13 rfl (lv_at hl 2 rfl) ?_
  refine lv_iload_n hx hb dX1_tip_14 rfl (lv_at hl 3 rfl) ?_
  refine lv_if_eq (tgt := 32) hx hb dX1_tip_15 rfl (fun _ => ?_) (fun h9 => absurd (rfl : nI 0 = 0) h9)
  refine lv_aload_n hx hb dX1_tip_32 rfl (lv_at hl 0 rfl) ?_
  refine gf_X1_tips K w dX1_tip_33 ?_
  refine lv_iload_n hx hb dX1_tip_36 rfl (lv_at hl 2 rfl) ?_
  refine ldN K w row7 (by omega) dX1_tip_37 ?_
  refine lv_iload_n hx hb dX1_tip_38 rfl (lv_at hl 1 rfl) ?_
  refine callsi K w (c_X1_sideOf dn (by omega)) (lk_X1_80 K ⟨Nat.le_trans (Nat.le_of_ble_eq_true rfl) hR.1, Nat.le_trans (Nat.le_of_ble_eq_true rfl) hR.2⟩) rfl hl.1 rfl (Nat.le_of_ble_eq_true rfl) dX1_tip_39 hf (fun H locs w => ?_)
  refine lv_iconst (v := -1) hx hb dX1_tip_42 (by decide) ?_
  refine lv_ixor hx hb dX1_tip_43 ?_
  refine lv_iand hx hb dX1_tip_44 ?_
  refine stN K w row7 (by omega) dX1_tip_45 (fun H locs w => ?_)
  exact ret w dX1_tip_46

set_option maxHeartbeats 4000000 in
set_option maxRecDepth 100000 in
theorem c_X1_reaches {l : Launch} {E : En} {M : Mt} {n k : Nat} (dn : dN E) {b a : Nat} (hb0 : b < n) (ha : a < n) (ok : okN M n) : MI l yX1_reaches (.code yX1_reaches cX1_reaches 3 (some .boolean)) 3 66 E [.ref (ad E 0), .int (nI b), .int (nI a)] M n k (bI (decide (¬ mrF M n b 8 a = 0)))  (mrF M n b) (n) (k) := by
  refine MI.ofZ dn (own := RX1) (by decide) rfl (Nat.le_of_ble_eq_true rfl) (bI_z _) (fun p e s m args below meth c ls Q K w hl ret => ?_)
  have hx := K.1.1
  have hb := K.1.2.1
  have hR : 3 ≤ (rmA 3 66).frames ∧ 66 ≤ (rmA 3 66).locals := ⟨Nat.le_refl _, Nat.le_refl _⟩
  have hf : 0 ≤ (rmA 3 66).cells ∧ 0 ≤ (rmA 3 66).slots := ⟨Nat.le_refl _, Nat.le_refl _⟩
  have hl : lv_has ls 3 [(0, .ref (ad E 0)), (1, .int (nI b)), (2, .int (nI a))] := hl
  have hn := ok.1
  refine lv_aload_n hx hb dX1_reaches_0 rfl (lv_at hl 0 rfl) ?_
  refine lv_iload_n hx hb dX1_reaches_1 rfl (lv_at hl 1 rfl) ?_
  refine callv K w (c_X1_checkCommit dn hb0 ok.1) (lk_X1_64 K ⟨Nat.le_trans (Nat.le_of_ble_eq_true rfl) hR.1, Nat.le_trans (Nat.le_of_ble_eq_true rfl) hR.2⟩) (recv0 K w) rfl hl.1 rfl (Nat.le_of_ble_eq_true rfl) dX1_reaches_2 hf (fun H locs w => ?_)
  refine lv_aload_n hx hb dX1_reaches_5 rfl (lv_at hl 0 rfl) ?_
  refine lv_iload_n hx hb dX1_reaches_6 rfl (lv_at hl 2 rfl) ?_
  refine callv K w (c_X1_checkCommit dn ha ok.1) (lk_X1_64 K ⟨Nat.le_trans (Nat.le_of_ble_eq_true rfl) hR.1, Nat.le_trans (Nat.le_of_ble_eq_true rfl) hR.2⟩) (recv0 K w) rfl hl.1 rfl (Nat.le_of_ble_eq_true rfl) dX1_reaches_7 hf (fun H locs w => ?_)
  refine lv_aload_n hx hb dX1_reaches_10 rfl (lv_at hl 0 rfl) ?_
  refine lv_iload_n hx hb dX1_reaches_11 rfl (lv_at hl 1 rfl) ?_
  refine callv K w (c_X1_markReachable dn hb0 ok) (lk_X1_84 K ⟨Nat.le_trans (Nat.le_of_ble_eq_true rfl) hR.1, Nat.le_trans (Nat.le_of_ble_eq_true rfl) hR.2⟩) (recv0 K w) rfl hl.1 rfl (Nat.le_of_ble_eq_true rfl) dX1_reaches_12 hf (fun H locs w => ?_)
  refine lv_aload_n hx hb dX1_reaches_15 rfl (lv_at hl 0 rfl) ?_
  refine gf_X1_marks K w dX1_reaches_16 ?_
  refine lv_iload_n hx hb dX1_reaches_19 rfl (lv_at hl 2 rfl) ?_
  refine ldN K w row8 (by omega) dX1_reaches_20 ?_
  refine lv_if_eq (tgt := 28) hx hb dX1_reaches_21 rfl (fun h21 => ?_) (fun h21 => ?_)
  · refine lv_iconst (v := nI 0) hx hb dX1_reaches_28 (by decide) ?_
    exact ret w (by first | exact bn_t h21 | exact bn_f h21) dX1_reaches_29
  · refine lv_iconst (v := nI 1) hx hb dX1_reaches_24 (by decide) ?_
    refine lv_goto (tgt := 29) hx hb dX1_reaches_25 rfl ?_
    exact ret w (by first | exact bn_t h21 | exact bn_f h21) dX1_reaches_29
