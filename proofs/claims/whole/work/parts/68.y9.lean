def cgF : Nat → Nat → Mt × Int32 → Mt × Int32
  | 0, _, u => u
  | d + 1, i, u => cgF d (i + 1) (if gnF (i + 1) 0 u.1 3 i ≤ u.2 then (gnF (i + 1) 0 u.1, u.2) else (gnF (i + 1) 0 (gnF (i + 1) 0 u.1), gnF (i + 1) 0 (gnF (i + 1) 0 u.1) 3 i))
def ctH (M : Mt) (z : Nat) : Mt := hdR (hdR M z 7 0) z 8 1
theorem ctH_row {M : Mt} {z a : Nat} (h7 : a ≠ 7) (h8 : a ≠ 8) : ctH M z a = M a := by rw [ctH, hdR_row h8, hdR_row h7]
section YK
variable {p : Program} {l : Launch} {e : Env} {R : Room} {s : State} {m : MethodId} {args : Array Value} {below : List Frame} {meth : Method} {c : Code} {H : Heap} {locs : List Loc} {cells slots : Nat} {Q : State → Prop} {ls : Array Slot} {w0 : Cond} {E : En} {M MF : Mt} {UG : Mt × Int32} {z t f : Nat}
set_option maxHeartbeats 4000000 in
set_option maxRecDepth 100000 in
theorem lp_cw (K : cY E p m c cX2_count 7 s args w0 RX2) (hR : 0 ≤ R.frames ∧ 0 ≤ R.locals) (hf : cells ≤ R.cells ∧ slots ≤ R.slots) {q j : Nat} {g a x1 : Int32} (hq : q < z) (ok : okN M z) (hj : pcn M q = j) (kk : ∀ (H : Heap) (locs : List Loc) (ls : Array Slot), vst E s.heap M z t f H locs → lv_has ls 7 [(5, .int (nI 0)), (4, .int (nI q)), (3, .int g), (2, .int a), (0, .ref (ad E 0)), (1, .int x1)] → W p l e R s m args below meth c H locs cells slots Q (F0 m 181 ls [])) : ∀ (d i : Nat) (H : Heap) (locs : List Loc) (ls : Array Slot), i + d = j → vst E s.heap M z t f H locs → lv_has ls 7 [(6, .int (nI i)), (5, .int (nI 0)), (4, .int (nI q)), (3, .int g), (2, .int a), (0, .ref (ad E 0)), (1, .int x1)] → W p l e R s m args below meth c H locs cells slots Q (F0 m 143 ls []) := by
  have hx := K.1.1
  have hb := K.1.2.1
  intro d
  induction d with
  | zero =>
    intro i H locs ls hi w hl
    have h4 := ok.le hq
    have hn := ok.1
    refine lv_iload hx hb dX2_count_143 (lv_at hl 0 rfl) ?_
    refine lv_aload_n hx hb dX2_count_145 rfl (lv_at hl 5 rfl) ?_
    refine gf_X2_many K w dX2_count_146 ?_
    refine lv_iload hx hb dX2_count_149 (lv_at hl 2 rfl) ?_
    refine ldI2 K w rwI4 (by omega) dX2_count_151 ?_
    refine topE (y := nI (pcn M q)) (ok.pc hq) ?_
    rw [hj]
    refine lv_icmp_ge (tgt := 181) hx hb dX2_count_152 rfl (fun _ => ?_) (fun h9 => absurd (nI_le (by omega) (by omega)) h9)
    exact kk _ _ _ w (lv_sub hl [1, 2, 3, 4, 5, 6] rfl)
  | succ d ih =>
    intro i H locs ls hi w hl
    have h4 := ok.le hq
    have hn := ok.1
    have h5 := ok.lt hq (t := i) (by omega)
    refine lv_iload hx hb dX2_count_143 (lv_at hl 0 rfl) ?_
    refine lv_aload_n hx hb dX2_count_145 rfl (lv_at hl 5 rfl) ?_
    refine gf_X2_many K w dX2_count_146 ?_
    refine lv_iload hx hb dX2_count_149 (lv_at hl 2 rfl) ?_
    refine ldI2 K w rwI4 (by omega) dX2_count_151 ?_
    refine topE (y := nI (pcn M q)) (ok.pc hq) ?_
    rw [hj]
    refine lv_icmp_ge (tgt := 181) hx hb dX2_count_152 rfl (fun h9 => absurd h9 (nI_ge (by omega) (by omega))) (fun _ => ?_)
    refine lv_aload_n hx hb dX2_count_155 rfl (lv_at hl 5 rfl) ?_
    refine gf_X2_parent K w dX2_count_156 ?_
    refine lv_iload hx hb dX2_count_159 (lv_at hl 2 rfl) ?_
    refine lv_iconst (v := nI 4) hx hb dX2_count_161 (by decide) ?_
    refine lv_imul hx hb dX2_count_162 ?_
    refine topE (y := nI (q * 4)) (pk_mul _ _) ?_
    refine lv_iload hx hb dX2_count_163 (lv_at hl 0 rfl) ?_
    refine lv_iadd hx hb dX2_count_165 ?_
    refine topE (y := nI (q * 4 + i)) (nI_add _ _) ?_
    refine ldI2 K w rwI5 (by omega) dX2_count_166 ?_
    refine topE (y := nI (par M q i)) (ok.pr hq (by omega)) ?_
    refine lv_iload hx hb dX2_count_167 (lv_at hl 2 rfl) ?_
    refine lv_icmp_lt (tgt := 175) hx hb dX2_count_169 rfl (fun _ => ?_) (fun h9 => absurd (nI_lt h5 (by omega)) h9)
    refine lv_iinc (k := 0) (v := nI (_ + 1)) (lv' := [(6, .int _), (5, .int _), (4, .int _), (3, .int _), (2, .int _), (0, .ref _), (1, .int _)]) hx hb dX2_count_175 hl rfl (inc1 _) (by decide) rfl (fun ls hl => ?_)
    refine lv_goto (tgt := 143) hx hb dX2_count_178 rfl ?_
    exact ih (i + 1) _ _ _ (by omega) w (lv_sub hl [0, 1, 2, 3, 4, 5, 6] rfl)

set_option maxHeartbeats 4000000 in
set_option maxRecDepth 100000 in
theorem lp_ct_0 (K : cY E p m c cX2_count 7 s args w0 RX2) (hR : 2 ≤ R.frames ∧ 45 ≤ R.locals) (hf : cells ≤ R.cells ∧ slots ≤ R.slots) (ok : okN M z) (kk : ∀ (H : Heap) (locs : List Loc) (ls : Array Slot), vst E s.heap M z t f H locs → lv_has ls 7 [(3, .int (nI 0)), (2, .int (nI 0)), (0, .ref (ad E 0)), (1, .int (nI 0))] → W p l e R s m args below meth c H locs cells slots Q (F0 m 201 ls [])) : ∀ (d i : Nat) (H : Heap) (locs : List Loc) (ls : Array Slot), i + d = z → vst E s.heap M z t f H locs → lv_has ls 7 [(4, .int (nI i)), (3, .int (nI 0)), (2, .int (nI 0)), (0, .ref (ad E 0)), (1, .int (nI 0))] → W p l e R s m args below meth c H locs cells slots Q (F0 m 30 ls []) := by
  have hx := K.1.1
  have hb := K.1.2.1
  intro d
  induction d with
  | zero =>
    intro i H locs ls hi w hl
    have hz := ok.1
    refine lv_iload hx hb dX2_count_30 (lv_at hl 0 rfl) ?_
    refine lv_aload_n hx hb dX2_count_32 rfl (lv_at hl 3 rfl) ?_
    refine gf_X2_size K w dX2_count_33 ?_
    refine lv_icmp_ge (tgt := 201) hx hb dX2_count_36 rfl (fun _ => ?_) (fun h9 => absurd (nI_le (by omega) (by omega)) h9)
    exact kk _ _ _ w (lv_sub hl [1, 2, 3, 4] rfl)
  | succ d ih =>
    intro i H locs ls hi w hl
    have hz := ok.1
    refine lv_iload hx hb dX2_count_30 (lv_at hl 0 rfl) ?_
    refine lv_aload_n hx hb dX2_count_32 rfl (lv_at hl 3 rfl) ?_
    refine gf_X2_size K w dX2_count_33 ?_
    refine lv_icmp_ge (tgt := 201) hx hb dX2_count_36 rfl (fun h9 => absurd h9 (nI_ge (by omega) (by omega))) (fun _ => ?_)
    refine lv_iload_n hx hb dX2_count_39 rfl (lv_at hl 4 rfl) ?_
    refine lv_iconst (v := nI 1) hx hb dX2_count_40 (by decide) ?_
    refine lv_icmp_ne (tgt := 54) hx hb dX2_count_41 rfl (fun _ => ?_) (fun h9 => absurd h9 (by decide : ¬ nI 0 = nI 1))
    refine lv_iload_n hx hb dX2_count_54 rfl (lv_at hl 4 rfl) ?_
    refine lv_iconst (v := nI 2) hx hb dX2_count_55 (by decide) ?_
    refine lv_icmp_ne (tgt := 73) hx hb dX2_count_56 rfl (fun _ => ?_) (fun h9 => absurd h9 (by decide : ¬ nI 0 = nI 2))
    refine lv_iload_n hx hb dX2_count_73 rfl (lv_at hl 4 rfl) ?_
    refine lv_iconst (v := nI 4) hx hb dX2_count_74 (by decide) ?_
    refine lv_icmp_ne (tgt := 87) hx hb dX2_count_75 rfl (fun _ => ?_) (fun h9 => absurd h9 (by decide : ¬ nI 0 = nI 4))
    refine lv_iload_n hx hb dX2_count_87 rfl (lv_at hl 4 rfl) ?_
    refine lv_iconst (v := nI 5) hx hb dX2_count_88 (by decide) ?_
    refine lv_icmp_ne (tgt := 115) hx hb dX2_count_89 rfl (fun _ => ?_) (fun h9 => absurd h9 (by decide : ¬ nI 0 = nI 5))
    refine lv_iload_n hx hb dX2_count_115 rfl (lv_at hl 4 rfl) ?_
    refine lv_iconst (v := nI 3) hx hb dX2_count_116 (by decide) ?_
    refine lv_icmp_ne (tgt := 137) hx hb dX2_count_117 rfl (fun _ => ?_) (fun h9 => absurd h9 (by decide : ¬ nI 0 = nI 3))
    refine lv_iconst (v := nI 0) hx hb dX2_count_137 (by decide) ?_
    refine lv_istore (lv' := [(5, .int _), (4, .int _), (3, .int _), (2, .int _), (0, .ref _), (1, .int _)]) hx hb dX2_count_138 hl (by decide) rfl (fun ls hl => ?_)
    refine lv_iconst (v := nI 0) hx hb dX2_count_140 (by decide) ?_
    refine lv_istore (lv' := [(6, .int _), (5, .int _), (4, .int _), (3, .int _), (2, .int _), (0, .ref _), (1, .int _)]) hx hb dX2_count_141 hl (by decide) rfl (fun ls hl => ?_)
    refine lp_cw (a := nI 0) (g := nI 0) (j := pcn M i) K ⟨Nat.le_trans (Nat.le_of_ble_eq_true rfl) hR.1, Nat.le_trans (Nat.le_of_ble_eq_true rfl) hR.2⟩ hf (by omega) ok rfl (fun H locs ls w hl => ?_) (pcn M i) 0 _ _ _ (by omega) w (lv_sub hl [0, 1, 2, 3, 4, 5, 6] rfl)
    refine lv_iload_n hx hb dX2_count_181 rfl (lv_at hl 5 rfl) ?_
    refine lv_bipush (v := nI 6) hx hb dX2_count_182 (by decide) ?_
    refine lv_icmp_ne (tgt := 195) hx hb dX2_count_184 rfl (fun _ => ?_) (fun h9 => absurd h9 (by decide : ¬ nI 0 = nI 6))
    refine lv_iinc (k := 1) (v := nI (_ + 1)) (lv' := [(4, .int _), (5, .int _), (3, .int _), (2, .int _), (0, .ref _), (1, .int _)]) hx hb dX2_count_195 hl rfl (inc1 _) (by decide) rfl (fun ls hl => ?_)
    refine lv_goto (tgt := 30) hx hb dX2_count_198 rfl ?_
    exact ih (i + 1) _ _ _ (by omega) w (lv_sub hl [0, 2, 3, 4, 5] rfl)

set_option maxHeartbeats 4000000 in
set_option maxRecDepth 100000 in
theorem lp_ct_6 (K : cY E p m c cX2_count 7 s args w0 RX2) (hR : 2 ≤ R.frames ∧ 45 ≤ R.locals) (hf : cells ≤ R.cells ∧ slots ≤ R.slots) (ok : okN M z) (kk : ∀ (H : Heap) (locs : List Loc) (ls : Array Slot), vst E s.heap M z t f H locs → lv_has ls 7 [(3, .int (nI 0)), (2, .int (nI 0)), (0, .ref (ad E 0)), (1, .int (nI 6))] → W p l e R s m args below meth c H locs cells slots Q (F0 m 201 ls [])) : ∀ (d i : Nat) (H : Heap) (locs : List Loc) (ls : Array Slot), i + d = z → vst E s.heap M z t f H locs → lv_has ls 7 [(4, .int (nI i)), (3, .int (nI 0)), (2, .int (nI 0)), (0, .ref (ad E 0)), (1, .int (nI 6))] → W p l e R s m args below meth c H locs cells slots Q (F0 m 30 ls []) := by
  have hx := K.1.1
  have hb := K.1.2.1
  intro d
  induction d with
  | zero =>
    intro i H locs ls hi w hl
    have hz := ok.1
    refine lv_iload hx hb dX2_count_30 (lv_at hl 0 rfl) ?_
    refine lv_aload_n hx hb dX2_count_32 rfl (lv_at hl 3 rfl) ?_
    refine gf_X2_size K w dX2_count_33 ?_
    refine lv_icmp_ge (tgt := 201) hx hb dX2_count_36 rfl (fun _ => ?_) (fun h9 => absurd (nI_le (by omega) (by omega)) h9)
    exact kk _ _ _ w (lv_sub hl [1, 2, 3, 4] rfl)
  | succ d ih =>
    intro i H locs ls hi w hl
    have hz := ok.1
    refine lv_iload hx hb dX2_count_30 (lv_at hl 0 rfl) ?_
    refine lv_aload_n hx hb dX2_count_32 rfl (lv_at hl 3 rfl) ?_
    refine gf_X2_size K w dX2_count_33 ?_
    refine lv_icmp_ge (tgt := 201) hx hb dX2_count_36 rfl (fun h9 => absurd h9 (nI_ge (by omega) (by omega))) (fun _ => ?_)
    refine lv_iload_n hx hb dX2_count_39 rfl (lv_at hl 4 rfl) ?_
    refine lv_iconst (v := nI 1) hx hb dX2_count_40 (by decide) ?_
    refine lv_icmp_ne (tgt := 54) hx hb dX2_count_41 rfl (fun _ => ?_) (fun h9 => absurd h9 (by decide : ¬ nI 6 = nI 1))
    refine lv_iload_n hx hb dX2_count_54 rfl (lv_at hl 4 rfl) ?_
    refine lv_iconst (v := nI 2) hx hb dX2_count_55 (by decide) ?_
    refine lv_icmp_ne (tgt := 73) hx hb dX2_count_56 rfl (fun _ => ?_) (fun h9 => absurd h9 (by decide : ¬ nI 6 = nI 2))
    refine lv_iload_n hx hb dX2_count_73 rfl (lv_at hl 4 rfl) ?_
    refine lv_iconst (v := nI 4) hx hb dX2_count_74 (by decide) ?_
    refine lv_icmp_ne (tgt := 87) hx hb dX2_count_75 rfl (fun _ => ?_) (fun h9 => absurd h9 (by decide : ¬ nI 6 = nI 4))
    refine lv_iload_n hx hb dX2_count_87 rfl (lv_at hl 4 rfl) ?_
    refine lv_iconst (v := nI 5) hx hb dX2_count_88 (by decide) ?_
    refine lv_icmp_ne (tgt := 115) hx hb dX2_count_89 rfl (fun _ => ?_) (fun h9 => absurd h9 (by decide : ¬ nI 6 = nI 5))
    refine lv_iload_n hx hb dX2_count_115 rfl (lv_at hl 4 rfl) ?_
    refine lv_iconst (v := nI 3) hx hb dX2_count_116 (by decide) ?_
    refine lv_icmp_ne (tgt := 137) hx hb dX2_count_117 rfl (fun _ => ?_) (fun h9 => absurd h9 (by decide : ¬ nI 6 = nI 3))
    refine lv_iconst (v := nI 0) hx hb dX2_count_137 (by decide) ?_
    refine lv_istore (lv' := [(5, .int _), (4, .int _), (3, .int _), (2, .int _), (0, .ref _), (1, .int _)]) hx hb dX2_count_138 hl (by decide) rfl (fun ls hl => ?_)
    refine lv_iconst (v := nI 0) hx hb dX2_count_140 (by decide) ?_
    refine lv_istore (lv' := [(6, .int _), (5, .int _), (4, .int _), (3, .int _), (2, .int _), (0, .ref _), (1, .int _)]) hx hb dX2_count_141 hl (by decide) rfl (fun ls hl => ?_)
    refine lp_cw (a := nI 0) (g := nI 0) (j := pcn M i) K ⟨Nat.le_trans (Nat.le_of_ble_eq_true rfl) hR.1, Nat.le_trans (Nat.le_of_ble_eq_true rfl) hR.2⟩ hf (by omega) ok rfl (fun H locs ls w hl => ?_) (pcn M i) 0 _ _ _ (by omega) w (lv_sub hl [0, 1, 2, 3, 4, 5, 6] rfl)
    refine lv_iload_n hx hb dX2_count_181 rfl (lv_at hl 5 rfl) ?_
    refine lv_bipush (v := nI 6) hx hb dX2_count_182 (by decide) ?_
    refine lv_icmp_ne (tgt := 195) hx hb dX2_count_184 rfl (fun h9 => absurd (rfl : nI 6 = nI 6) h9) (fun _ => ?_)
    refine lv_iload hx hb dX2_count_187 (lv_at hl 0 rfl) ?_
    refine lv_if_eq (tgt := 195) hx hb dX2_count_189 rfl (fun _ => ?_) (fun h9 => absurd (rfl : nI 0 = 0) h9)
    refine lv_iinc (k := 1) (v := nI (_ + 1)) (lv' := [(4, .int _), (5, .int _), (3, .int _), (2, .int _), (0, .ref _), (1, .int _)]) hx hb dX2_count_195 hl rfl (inc1 _) (by decide) rfl (fun ls hl => ?_)
    refine lv_goto (tgt := 30) hx hb dX2_count_198 rfl ?_
    exact ih (i + 1) _ _ _ (by omega) w (lv_sub hl [0, 2, 3, 4, 5] rfl)

set_option maxHeartbeats 4000000 in
set_option maxRecDepth 100000 in
theorem lp_ct_o (K : cY E p m c cX2_count 7 s args w0 RX2) (hR : 2 ≤ R.frames ∧ 45 ≤ R.locals) (hf : cells ≤ R.cells ∧ slots ≤ R.slots) {x1 : Int32} (hx1 : ¬ x1 = nI 1) (hx2 : ¬ x1 = nI 2) (hx4 : ¬ x1 = nI 4) (hx5 : ¬ x1 = nI 5) (hx3 : ¬ x1 = nI 3) (hx6 : ¬ x1 = nI 6) (ok : okN M z) (kk : ∀ (H : Heap) (locs : List Loc) (ls : Array Slot), vst E s.heap M z t f H locs → lv_has ls 7 [(3, .int (nI 0)), (2, .int (nI 0)), (0, .ref (ad E 0)), (1, .int x1)] → W p l e R s m args below meth c H locs cells slots Q (F0 m 201 ls [])) : ∀ (d i : Nat) (H : Heap) (locs : List Loc) (ls : Array Slot), i + d = z → vst E s.heap M z t f H locs → lv_has ls 7 [(4, .int (nI i)), (3, .int (nI 0)), (2, .int (nI 0)), (0, .ref (ad E 0)), (1, .int x1)] → W p l e R s m args below meth c H locs cells slots Q (F0 m 30 ls []) := by
  have hx := K.1.1
  have hb := K.1.2.1
  intro d
  induction d with
  | zero =>
    intro i H locs ls hi w hl
    have hz := ok.1
    refine lv_iload hx hb dX2_count_30 (lv_at hl 0 rfl) ?_
    refine lv_aload_n hx hb dX2_count_32 rfl (lv_at hl 3 rfl) ?_
    refine gf_X2_size K w dX2_count_33 ?_
    refine lv_icmp_ge (tgt := 201) hx hb dX2_count_36 rfl (fun _ => ?_) (fun h9 => absurd (nI_le (by omega) (by omega)) h9)
    exact kk _ _ _ w (lv_sub hl [1, 2, 3, 4] rfl)
  | succ d ih =>
    intro i H locs ls hi w hl
    have hz := ok.1
    refine lv_iload hx hb dX2_count_30 (lv_at hl 0 rfl) ?_
    refine lv_aload_n hx hb dX2_count_32 rfl (lv_at hl 3 rfl) ?_
    refine gf_X2_size K w dX2_count_33 ?_
    refine lv_icmp_ge (tgt := 201) hx hb dX2_count_36 rfl (fun h9 => absurd h9 (nI_ge (by omega) (by omega))) (fun _ => ?_)
    refine lv_iload_n hx hb dX2_count_39 rfl (lv_at hl 4 rfl) ?_
    refine lv_iconst (v := nI 1) hx hb dX2_count_40 (by decide) ?_
    refine lv_icmp_ne (tgt := 54) hx hb dX2_count_41 rfl (fun _ => ?_) (fun h9 => absurd h9 hx1)
    refine lv_iload_n hx hb dX2_count_54 rfl (lv_at hl 4 rfl) ?_
    refine lv_iconst (v := nI 2) hx hb dX2_count_55 (by decide) ?_
    refine lv_icmp_ne (tgt := 73) hx hb dX2_count_56 rfl (fun _ => ?_) (fun h9 => absurd h9 hx2)
    refine lv_iload_n hx hb dX2_count_73 rfl (lv_at hl 4 rfl) ?_
    refine lv_iconst (v := nI 4) hx hb dX2_count_74 (by decide) ?_
    refine lv_icmp_ne (tgt := 87) hx hb dX2_count_75 rfl (fun _ => ?_) (fun h9 => absurd h9 hx4)
    refine lv_iload_n hx hb dX2_count_87 rfl (lv_at hl 4 rfl) ?_
    refine lv_iconst (v := nI 5) hx hb dX2_count_88 (by decide) ?_
    refine lv_icmp_ne (tgt := 115) hx hb dX2_count_89 rfl (fun _ => ?_) (fun h9 => absurd h9 hx5)
    refine lv_iload_n hx hb dX2_count_115 rfl (lv_at hl 4 rfl) ?_
    refine lv_iconst (v := nI 3) hx hb dX2_count_116 (by decide) ?_
    refine lv_icmp_ne (tgt := 137) hx hb dX2_count_117 rfl (fun _ => ?_) (fun h9 => absurd h9 hx3)
    refine lv_iconst (v := nI 0) hx hb dX2_count_137 (by decide) ?_
    refine lv_istore (lv' := [(5, .int _), (4, .int _), (3, .int _), (2, .int _), (0, .ref _), (1, .int _)]) hx hb dX2_count_138 hl (by decide) rfl (fun ls hl => ?_)
    refine lv_iconst (v := nI 0) hx hb dX2_count_140 (by decide) ?_
    refine lv_istore (lv' := [(6, .int _), (5, .int _), (4, .int _), (3, .int _), (2, .int _), (0, .ref _), (1, .int _)]) hx hb dX2_count_141 hl (by decide) rfl (fun ls hl => ?_)
    refine lp_cw (a := nI 0) (g := nI 0) (j := pcn M i) K ⟨Nat.le_trans (Nat.le_of_ble_eq_true rfl) hR.1, Nat.le_trans (Nat.le_of_ble_eq_true rfl) hR.2⟩ hf (by omega) ok rfl (fun H locs ls w hl => ?_) (pcn M i) 0 _ _ _ (by omega) w (lv_sub hl [0, 1, 2, 3, 4, 5, 6] rfl)
    refine lv_iload_n hx hb dX2_count_181 rfl (lv_at hl 5 rfl) ?_
    refine lv_bipush (v := nI 6) hx hb dX2_count_182 (by decide) ?_
    refine lv_icmp_ne (tgt := 195) hx hb dX2_count_184 rfl (fun _ => ?_) (fun h9 => absurd h9 hx6)
    refine lv_iinc (k := 1) (v := nI (_ + 1)) (lv' := [(4, .int _), (5, .int _), (3, .int _), (2, .int _), (0, .ref _), (1, .int _)]) hx hb dX2_count_195 hl rfl (inc1 _) (by decide) rfl (fun ls hl => ?_)
    refine lv_goto (tgt := 30) hx hb dX2_count_198 rfl ?_
    exact ih (i + 1) _ _ _ (by omega) w (lv_sub hl [0, 2, 3, 4, 5] rfl)

set_option maxHeartbeats 4000000 in
set_option maxRecDepth 100000 in
theorem lp_ct_1 (K : cY E p m c cX2_count 7 s args w0 RX2) (hR : 2 ≤ R.frames ∧ 45 ≤ R.locals) (hf : cells ≤ R.cells ∧ slots ≤ R.slots) {r : Nat} (ok : okN M z) (kk : ∀ (H : Heap) (locs : List Loc) (ls : Array Slot), vst E s.heap M z t f H locs → lv_has ls 7 [(3, .int (nI 0)), (2, .int (nI r)), (0, .ref (ad E 0)), (1, .int (nI 1))] → W p l e R s m args below meth c H locs cells slots Q (F0 m 201 ls [])) : ∀ (d i : Nat) (a : Nat) (H : Heap) (locs : List Loc) (ls : Array Slot), i + d = z → cnF (fun j => decide (¬ M 6 j = 0)) d i a = r → vst E s.heap M z t f H locs → lv_has ls 7 [(4, .int (nI i)), (3, .int (nI 0)), (2, .int (nI a)), (0, .ref (ad E 0)), (1, .int (nI 1))] → W p l e R s m args below meth c H locs cells slots Q (F0 m 30 ls []) := by
  have hx := K.1.1
  have hb := K.1.2.1
  intro d
  induction d with
  | zero =>
    intro i a H locs ls hi hm w hl
    have hz := ok.1
    refine lv_iload hx hb dX2_count_30 (lv_at hl 0 rfl) ?_
    refine lv_aload_n hx hb dX2_count_32 rfl (lv_at hl 3 rfl) ?_
    refine gf_X2_size K w dX2_count_33 ?_
    refine lv_icmp_ge (tgt := 201) hx hb dX2_count_36 rfl (fun _ => ?_) (fun h9 => absurd (nI_le (by omega) (by omega)) h9)
    exact kk _ _ _ w (by rw [← hm]; exact lv_sub hl [1, 2, 3, 4] rfl)
  | succ d ih =>
    intro i a H locs ls hi hm w hl
    have hz := ok.1
    refine lv_iload hx hb dX2_count_30 (lv_at hl 0 rfl) ?_
    refine lv_aload_n hx hb dX2_count_32 rfl (lv_at hl 3 rfl) ?_
    refine gf_X2_size K w dX2_count_33 ?_
    refine lv_icmp_ge (tgt := 201) hx hb dX2_count_36 rfl (fun h9 => absurd h9 (nI_ge (by omega) (by omega))) (fun _ => ?_)
    by_cases hc : decide (¬ M 6 i = 0) = true
    · rw [cnF, if_pos hc] at hm
      refine lv_iload_n hx hb dX2_count_39 rfl (lv_at hl 4 rfl) ?_
      refine lv_iconst (v := nI 1) hx hb dX2_count_40 (by decide) ?_
      refine lv_icmp_ne (tgt := 54) hx hb dX2_count_41 rfl (fun h9 => absurd (rfl : nI 1 = nI 1) h9) (fun _ => ?_)
      refine lv_aload_n hx hb dX2_count_44 rfl (lv_at hl 3 rfl) ?_
      refine gf_X2_tips K w dX2_count_45 ?_
      refine lv_iload hx hb dX2_count_48 (lv_at hl 0 rfl) ?_
      refine ldB2 K w rwB6 (by omega) dX2_count_50 ?_
      refine lv_if_ne (tgt := 112) hx hb dX2_count_51 rfl (fun _ => ?_) (fun h9 => absurd h9 (ne_t hc))
      refine lv_iinc (k := 2) (v := nI (_ + 1)) (lv' := [(2, .int _), (4, .int _), (3, .int _), (0, .ref _), (1, .int _)]) hx hb dX2_count_112 hl rfl (inc1 _) (by decide) rfl (fun ls hl => ?_)
      refine lv_iload_n hx hb dX2_count_115 rfl (lv_at hl 4 rfl) ?_
      refine lv_iconst (v := nI 3) hx hb dX2_count_116 (by decide) ?_
      refine lv_icmp_ne (tgt := 137) hx hb dX2_count_117 rfl (fun _ => ?_) (fun h9 => absurd h9 (by decide : ¬ nI 1 = nI 3))
      refine lv_iconst (v := nI 0) hx hb dX2_count_137 (by decide) ?_
      refine lv_istore (lv' := [(5, .int _), (2, .int _), (4, .int _), (3, .int _), (0, .ref _), (1, .int _)]) hx hb dX2_count_138 hl (by decide) rfl (fun ls hl => ?_)
      refine lv_iconst (v := nI 0) hx hb dX2_count_140 (by decide) ?_
      refine lv_istore (lv' := [(6, .int _), (5, .int _), (2, .int _), (4, .int _), (3, .int _), (0, .ref _), (1, .int _)]) hx hb dX2_count_141 hl (by decide) rfl (fun ls hl => ?_)
      refine lp_cw (a := nI (a + 1)) (g := nI 0) (j := pcn M i) K ⟨Nat.le_trans (Nat.le_of_ble_eq_true rfl) hR.1, Nat.le_trans (Nat.le_of_ble_eq_true rfl) hR.2⟩ hf (by omega) ok rfl (fun H locs ls w hl => ?_) (pcn M i) 0 _ _ _ (by omega) w (lv_sub hl [0, 1, 3, 4, 2, 5, 6] rfl)
      refine lv_iload_n hx hb dX2_count_181 rfl (lv_at hl 5 rfl) ?_
      refine lv_bipush (v := nI 6) hx hb dX2_count_182 (by decide) ?_
      refine lv_icmp_ne (tgt := 195) hx hb dX2_count_184 rfl (fun _ => ?_) (fun h9 => absurd h9 (by decide : ¬ nI 1 = nI 6))
      refine lv_iinc (k := 1) (v := nI (_ + 1)) (lv' := [(4, .int _), (5, .int _), (3, .int _), (2, .int _), (0, .ref _), (1, .int _)]) hx hb dX2_count_195 hl rfl (inc1 _) (by decide) rfl (fun ls hl => ?_)
      refine lv_goto (tgt := 30) hx hb dX2_count_198 rfl ?_
      exact ih (i + 1) (a + 1) _ _ _ (by omega) hm w (lv_sub hl [0, 2, 3, 4, 5] rfl)
    · rw [cnF, if_neg hc] at hm
      refine lv_iload_n hx hb dX2_count_39 rfl (lv_at hl 4 rfl) ?_
      refine lv_iconst (v := nI 1) hx hb dX2_count_40 (by decide) ?_
      refine lv_icmp_ne (tgt := 54) hx hb dX2_count_41 rfl (fun h9 => absurd (rfl : nI 1 = nI 1) h9) (fun _ => ?_)
      refine lv_aload_n hx hb dX2_count_44 rfl (lv_at hl 3 rfl) ?_
      refine gf_X2_tips K w dX2_count_45 ?_
      refine lv_iload hx hb dX2_count_48 (lv_at hl 0 rfl) ?_
      refine ldB2 K w rwB6 (by omega) dX2_count_50 ?_
      refine lv_if_ne (tgt := 112) hx hb dX2_count_51 rfl (fun h9 => absurd (ne_f hc) h9) (fun _ => ?_)
      refine lv_iload_n hx hb dX2_count_54 rfl (lv_at hl 4 rfl) ?_
      refine lv_iconst (v := nI 2) hx hb dX2_count_55 (by decide) ?_
      refine lv_icmp_ne (tgt := 73) hx hb dX2_count_56 rfl (fun _ => ?_) (fun h9 => absurd h9 (by decide : ¬ nI 1 = nI 2))
      refine lv_iload_n hx hb dX2_count_73 rfl (lv_at hl 4 rfl) ?_
      refine lv_iconst (v := nI 4) hx hb dX2_count_74 (by decide) ?_
      refine lv_icmp_ne (tgt := 87) hx hb dX2_count_75 rfl (fun _ => ?_) (fun h9 => absurd h9 (by decide : ¬ nI 1 = nI 4))
      refine lv_iload_n hx hb dX2_count_87 rfl (lv_at hl 4 rfl) ?_
      refine lv_iconst (v := nI 5) hx hb dX2_count_88 (by decide) ?_
      refine lv_icmp_ne (tgt := 115) hx hb dX2_count_89 rfl (fun _ => ?_) (fun h9 => absurd h9 (by decide : ¬ nI 1 = nI 5))
      refine lv_iload_n hx hb dX2_count_115 rfl (lv_at hl 4 rfl) ?_
      refine lv_iconst (v := nI 3) hx hb dX2_count_116 (by decide) ?_
      refine lv_icmp_ne (tgt := 137) hx hb dX2_count_117 rfl (fun _ => ?_) (fun h9 => absurd h9 (by decide : ¬ nI 1 = nI 3))
      refine lv_iconst (v := nI 0) hx hb dX2_count_137 (by decide) ?_
      refine lv_istore (lv' := [(5, .int _), (4, .int _), (3, .int _), (2, .int _), (0, .ref _), (1, .int _)]) hx hb dX2_count_138 hl (by decide) rfl (fun ls hl => ?_)
      refine lv_iconst (v := nI 0) hx hb dX2_count_140 (by decide) ?_
      refine lv_istore (lv' := [(6, .int _), (5, .int _), (4, .int _), (3, .int _), (2, .int _), (0, .ref _), (1, .int _)]) hx hb dX2_count_141 hl (by decide) rfl (fun ls hl => ?_)
      refine lp_cw (a := nI a) (g := nI 0) (j := pcn M i) K ⟨Nat.le_trans (Nat.le_of_ble_eq_true rfl) hR.1, Nat.le_trans (Nat.le_of_ble_eq_true rfl) hR.2⟩ hf (by omega) ok rfl (fun H locs ls w hl => ?_) (pcn M i) 0 _ _ _ (by omega) w (lv_sub hl [0, 1, 2, 3, 4, 5, 6] rfl)
      refine lv_iload_n hx hb dX2_count_181 rfl (lv_at hl 5 rfl) ?_
      refine lv_bipush (v := nI 6) hx hb dX2_count_182 (by decide) ?_
      refine lv_icmp_ne (tgt := 195) hx hb dX2_count_184 rfl (fun _ => ?_) (fun h9 => absurd h9 (by decide : ¬ nI 1 = nI 6))
      refine lv_iinc (k := 1) (v := nI (_ + 1)) (lv' := [(4, .int _), (5, .int _), (3, .int _), (2, .int _), (0, .ref _), (1, .int _)]) hx hb dX2_count_195 hl rfl (inc1 _) (by decide) rfl (fun ls hl => ?_)
      refine lv_goto (tgt := 30) hx hb dX2_count_198 rfl ?_
      exact ih (i + 1) a _ _ _ (by omega) hm w (lv_sub hl [0, 2, 3, 4, 5] rfl)

set_option maxHeartbeats 4000000 in
set_option maxRecDepth 100000 in
theorem lp_ct_2 (K : cY E p m c cX2_count 7 s args w0 RX2) (hR : 2 ≤ R.frames ∧ 45 ≤ R.locals) (hf : cells ≤ R.cells ∧ slots ≤ R.slots) {r : Nat} (ok : okN M z) (kk : ∀ (H : Heap) (locs : List Loc) (ls : Array Slot), vst E s.heap M z t f H locs → lv_has ls 7 [(3, .int (nI 0)), (2, .int (nI r)), (0, .ref (ad E 0)), (1, .int (nI 2))] → W p l e R s m args below meth c H locs cells slots Q (F0 m 201 ls [])) : ∀ (d i : Nat) (a : Nat) (H : Heap) (locs : List Loc) (ls : Array Slot), i + d = z → cnF (fun j => decide (¬ M 6 (2000 + j) = 0)) d i a = r → vst E s.heap M z t f H locs → lv_has ls 7 [(4, .int (nI i)), (3, .int (nI 0)), (2, .int (nI a)), (0, .ref (ad E 0)), (1, .int (nI 2))] → W p l e R s m args below meth c H locs cells slots Q (F0 m 30 ls []) := by
  have hx := K.1.1
  have hb := K.1.2.1
  intro d
  induction d with
  | zero =>
    intro i a H locs ls hi hm w hl
    have hz := ok.1
    refine lv_iload hx hb dX2_count_30 (lv_at hl 0 rfl) ?_
    refine lv_aload_n hx hb dX2_count_32 rfl (lv_at hl 3 rfl) ?_
    refine gf_X2_size K w dX2_count_33 ?_
    refine lv_icmp_ge (tgt := 201) hx hb dX2_count_36 rfl (fun _ => ?_) (fun h9 => absurd (nI_le (by omega) (by omega)) h9)
    exact kk _ _ _ w (by rw [← hm]; exact lv_sub hl [1, 2, 3, 4] rfl)
  | succ d ih =>
    intro i a H locs ls hi hm w hl
    have hz := ok.1
    refine lv_iload hx hb dX2_count_30 (lv_at hl 0 rfl) ?_
    refine lv_aload_n hx hb dX2_count_32 rfl (lv_at hl 3 rfl) ?_
    refine gf_X2_size K w dX2_count_33 ?_
    refine lv_icmp_ge (tgt := 201) hx hb dX2_count_36 rfl (fun h9 => absurd h9 (nI_ge (by omega) (by omega))) (fun _ => ?_)
    by_cases hc : decide (¬ M 6 (2000 + i) = 0) = true
    · rw [cnF, if_pos hc] at hm
      refine lv_iload_n hx hb dX2_count_39 rfl (lv_at hl 4 rfl) ?_
      refine lv_iconst (v := nI 1) hx hb dX2_count_40 (by decide) ?_
      refine lv_icmp_ne (tgt := 54) hx hb dX2_count_41 rfl (fun _ => ?_) (fun h9 => absurd h9 (by decide : ¬ nI 2 = nI 1))
      refine lv_iload_n hx hb dX2_count_54 rfl (lv_at hl 4 rfl) ?_
      refine lv_iconst (v := nI 2) hx hb dX2_count_55 (by decide) ?_
      refine lv_icmp_ne (tgt := 73) hx hb dX2_count_56 rfl (fun h9 => absurd (rfl : nI 2 = nI 2) h9) (fun _ => ?_)
      refine lv_aload_n hx hb dX2_count_59 rfl (lv_at hl 3 rfl) ?_
      refine gf_X2_tips K w dX2_count_60 ?_
      refine lv_sipush (v := nI 2000) hx hb dX2_count_63 (by decide) ?_
      refine lv_iload hx hb dX2_count_66 (lv_at hl 0 rfl) ?_
      refine lv_iadd hx hb dX2_count_68 ?_
      refine topE (y := nI (2000 + i)) (nI_add _ _) ?_
      refine ldB2 K w rwB6 (by omega) dX2_count_69 ?_
      refine lv_if_ne (tgt := 112) hx hb dX2_count_70 rfl (fun _ => ?_) (fun h9 => absurd h9 (ne_t hc))
      refine lv_iinc (k := 2) (v := nI (_ + 1)) (lv' := [(2, .int _), (4, .int _), (3, .int _), (0, .ref _), (1, .int _)]) hx hb dX2_count_112 hl rfl (inc1 _) (by decide) rfl (fun ls hl => ?_)
      refine lv_iload_n hx hb dX2_count_115 rfl (lv_at hl 4 rfl) ?_
      refine lv_iconst (v := nI 3) hx hb dX2_count_116 (by decide) ?_
      refine lv_icmp_ne (tgt := 137) hx hb dX2_count_117 rfl (fun _ => ?_) (fun h9 => absurd h9 (by decide : ¬ nI 2 = nI 3))
      refine lv_iconst (v := nI 0) hx hb dX2_count_137 (by decide) ?_
      refine lv_istore (lv' := [(5, .int _), (2, .int _), (4, .int _), (3, .int _), (0, .ref _), (1, .int _)]) hx hb dX2_count_138 hl (by decide) rfl (fun ls hl => ?_)
      refine lv_iconst (v := nI 0) hx hb dX2_count_140 (by decide) ?_
      refine lv_istore (lv' := [(6, .int _), (5, .int _), (2, .int _), (4, .int _), (3, .int _), (0, .ref _), (1, .int _)]) hx hb dX2_count_141 hl (by decide) rfl (fun ls hl => ?_)
      refine lp_cw (a := nI (a + 1)) (g := nI 0) (j := pcn M i) K ⟨Nat.le_trans (Nat.le_of_ble_eq_true rfl) hR.1, Nat.le_trans (Nat.le_of_ble_eq_true rfl) hR.2⟩ hf (by omega) ok rfl (fun H locs ls w hl => ?_) (pcn M i) 0 _ _ _ (by omega) w (lv_sub hl [0, 1, 3, 4, 2, 5, 6] rfl)
      refine lv_iload_n hx hb dX2_count_181 rfl (lv_at hl 5 rfl) ?_
      refine lv_bipush (v := nI 6) hx hb dX2_count_182 (by decide) ?_
      refine lv_icmp_ne (tgt := 195) hx hb dX2_count_184 rfl (fun _ => ?_) (fun h9 => absurd h9 (by decide : ¬ nI 2 = nI 6))
      refine lv_iinc (k := 1) (v := nI (_ + 1)) (lv' := [(4, .int _), (5, .int _), (3, .int _), (2, .int _), (0, .ref _), (1, .int _)]) hx hb dX2_count_195 hl rfl (inc1 _) (by decide) rfl (fun ls hl => ?_)
      refine lv_goto (tgt := 30) hx hb dX2_count_198 rfl ?_
      exact ih (i + 1) (a + 1) _ _ _ (by omega) hm w (lv_sub hl [0, 2, 3, 4, 5] rfl)
    · rw [cnF, if_neg hc] at hm
      refine lv_iload_n hx hb dX2_count_39 rfl (lv_at hl 4 rfl) ?_
      refine lv_iconst (v := nI 1) hx hb dX2_count_40 (by decide) ?_
      refine lv_icmp_ne (tgt := 54) hx hb dX2_count_41 rfl (fun _ => ?_) (fun h9 => absurd h9 (by decide : ¬ nI 2 = nI 1))
      refine lv_iload_n hx hb dX2_count_54 rfl (lv_at hl 4 rfl) ?_
      refine lv_iconst (v := nI 2) hx hb dX2_count_55 (by decide) ?_
      refine lv_icmp_ne (tgt := 73) hx hb dX2_count_56 rfl (fun h9 => absurd (rfl : nI 2 = nI 2) h9) (fun _ => ?_)
      refine lv_aload_n hx hb dX2_count_59 rfl (lv_at hl 3 rfl) ?_
      refine gf_X2_tips K w dX2_count_60 ?_
      refine lv_sipush (v := nI 2000) hx hb dX2_count_63 (by decide) ?_
      refine lv_iload hx hb dX2_count_66 (lv_at hl 0 rfl) ?_
      refine lv_iadd hx hb dX2_count_68 ?_
      refine topE (y := nI (2000 + i)) (nI_add _ _) ?_
      refine ldB2 K w rwB6 (by omega) dX2_count_69 ?_
      refine lv_if_ne (tgt := 112) hx hb dX2_count_70 rfl (fun h9 => absurd (ne_f hc) h9) (fun _ => ?_)
      refine lv_iload_n hx hb dX2_count_73 rfl (lv_at hl 4 rfl) ?_
      refine lv_iconst (v := nI 4) hx hb dX2_count_74 (by decide) ?_
      refine lv_icmp_ne (tgt := 87) hx hb dX2_count_75 rfl (fun _ => ?_) (fun h9 => absurd h9 (by decide : ¬ nI 2 = nI 4))
      refine lv_iload_n hx hb dX2_count_87 rfl (lv_at hl 4 rfl) ?_
      refine lv_iconst (v := nI 5) hx hb dX2_count_88 (by decide) ?_
      refine lv_icmp_ne (tgt := 115) hx hb dX2_count_89 rfl (fun _ => ?_) (fun h9 => absurd h9 (by decide : ¬ nI 2 = nI 5))
      refine lv_iload_n hx hb dX2_count_115 rfl (lv_at hl 4 rfl) ?_
      refine lv_iconst (v := nI 3) hx hb dX2_count_116 (by decide) ?_
      refine lv_icmp_ne (tgt := 137) hx hb dX2_count_117 rfl (fun _ => ?_) (fun h9 => absurd h9 (by decide : ¬ nI 2 = nI 3))
      refine lv_iconst (v := nI 0) hx hb dX2_count_137 (by decide) ?_
      refine lv_istore (lv' := [(5, .int _), (4, .int _), (3, .int _), (2, .int _), (0, .ref _), (1, .int _)]) hx hb dX2_count_138 hl (by decide) rfl (fun ls hl => ?_)
      refine lv_iconst (v := nI 0) hx hb dX2_count_140 (by decide) ?_
      refine lv_istore (lv' := [(6, .int _), (5, .int _), (4, .int _), (3, .int _), (2, .int _), (0, .ref _), (1, .int _)]) hx hb dX2_count_141 hl (by decide) rfl (fun ls hl => ?_)
      refine lp_cw (a := nI a) (g := nI 0) (j := pcn M i) K ⟨Nat.le_trans (Nat.le_of_ble_eq_true rfl) hR.1, Nat.le_trans (Nat.le_of_ble_eq_true rfl) hR.2⟩ hf (by omega) ok rfl (fun H locs ls w hl => ?_) (pcn M i) 0 _ _ _ (by omega) w (lv_sub hl [0, 1, 2, 3, 4, 5, 6] rfl)
      refine lv_iload_n hx hb dX2_count_181 rfl (lv_at hl 5 rfl) ?_
      refine lv_bipush (v := nI 6) hx hb dX2_count_182 (by decide) ?_
      refine lv_icmp_ne (tgt := 195) hx hb dX2_count_184 rfl (fun _ => ?_) (fun h9 => absurd h9 (by decide : ¬ nI 2 = nI 6))
      refine lv_iinc (k := 1) (v := nI (_ + 1)) (lv' := [(4, .int _), (5, .int _), (3, .int _), (2, .int _), (0, .ref _), (1, .int _)]) hx hb dX2_count_195 hl rfl (inc1 _) (by decide) rfl (fun ls hl => ?_)
      refine lv_goto (tgt := 30) hx hb dX2_count_198 rfl ?_
      exact ih (i + 1) a _ _ _ (by omega) hm w (lv_sub hl [0, 2, 3, 4, 5] rfl)

set_option maxHeartbeats 4000000 in
set_option maxRecDepth 100000 in
theorem lp_ct_4 (K : cY E p m c cX2_count 7 s args w0 RX2) (hR : 2 ≤ R.frames ∧ 45 ≤ R.locals) (hf : cells ≤ R.cells ∧ slots ≤ R.slots) {r : Nat} (ok : okN M z) (kk : ∀ (H : Heap) (locs : List Loc) (ls : Array Slot), vst E s.heap M z t f H locs → lv_has ls 7 [(3, .int (nI 0)), (2, .int (nI r)), (0, .ref (ad E 0)), (1, .int (nI 4))] → W p l e R s m args below meth c H locs cells slots Q (F0 m 201 ls [])) : ∀ (d i : Nat) (a : Nat) (H : Heap) (locs : List Loc) (ls : Array Slot), i + d = z → cnF (fun j => !(iaF M j z 0)) d i a = r → vst E s.heap M z t f H locs → lv_has ls 7 [(4, .int (nI i)), (3, .int (nI 0)), (2, .int (nI a)), (0, .ref (ad E 0)), (1, .int (nI 4))] → W p l e R s m args below meth c H locs cells slots Q (F0 m 30 ls []) := by
  have hx := K.1.1
  have hb := K.1.2.1
  intro d
  induction d with
  | zero =>
    intro i a H locs ls hi hm w hl
    have hz := ok.1
    refine lv_iload hx hb dX2_count_30 (lv_at hl 0 rfl) ?_
    refine lv_aload_n hx hb dX2_count_32 rfl (lv_at hl 3 rfl) ?_
    refine gf_X2_size K w dX2_count_33 ?_
    refine lv_icmp_ge (tgt := 201) hx hb dX2_count_36 rfl (fun _ => ?_) (fun h9 => absurd (nI_le (by omega) (by omega)) h9)
    exact kk _ _ _ w (by rw [← hm]; exact lv_sub hl [1, 2, 3, 4] rfl)
  | succ d ih =>
    intro i a H locs ls hi hm w hl
    have hz := ok.1
    refine lv_iload hx hb dX2_count_30 (lv_at hl 0 rfl) ?_
    refine lv_aload_n hx hb dX2_count_32 rfl (lv_at hl 3 rfl) ?_
    refine gf_X2_size K w dX2_count_33 ?_
    refine lv_icmp_ge (tgt := 201) hx hb dX2_count_36 rfl (fun h9 => absurd h9 (nI_ge (by omega) (by omega))) (fun _ => ?_)
    by_cases hc : (!(iaF M i z 0)) = true
    · rw [cnF, if_pos hc] at hm
      refine lv_iload_n hx hb dX2_count_39 rfl (lv_at hl 4 rfl) ?_
      refine lv_iconst (v := nI 1) hx hb dX2_count_40 (by decide) ?_
      refine lv_icmp_ne (tgt := 54) hx hb dX2_count_41 rfl (fun _ => ?_) (fun h9 => absurd h9 (by decide : ¬ nI 4 = nI 1))
      refine lv_iload_n hx hb dX2_count_54 rfl (lv_at hl 4 rfl) ?_
      refine lv_iconst (v := nI 2) hx hb dX2_count_55 (by decide) ?_
      refine lv_icmp_ne (tgt := 73) hx hb dX2_count_56 rfl (fun _ => ?_) (fun h9 => absurd h9 (by decide : ¬ nI 4 = nI 2))
      refine lv_iload_n hx hb dX2_count_73 rfl (lv_at hl 4 rfl) ?_
      refine lv_iconst (v := nI 4) hx hb dX2_count_74 (by decide) ?_
      refine lv_icmp_ne (tgt := 87) hx hb dX2_count_75 rfl (fun h9 => absurd (rfl : nI 4 = nI 4) h9) (fun _ => ?_)
      refine lv_aload_n hx hb dX2_count_78 rfl (lv_at hl 3 rfl) ?_
      refine lv_iload hx hb dX2_count_79 (lv_at hl 0 rfl) ?_
      refine calli2 K w (c_X2_isAnyParent K.2.2 (by omega) ok) (lk_X2_61 K ⟨Nat.le_trans (Nat.le_of_ble_eq_true rfl) hR.1, Nat.le_trans (Nat.le_of_ble_eq_true rfl) hR.2⟩) (recvM K w) rfl hl.1 rfl (Nat.le_of_ble_eq_true rfl) dX2_count_81 hf (fun H locs w => ?_)
      refine lv_if_eq (tgt := 112) hx hb dX2_count_84 rfl (fun _ => ?_) (fun h9 => absurd (by rw [show iaF M i z 0 = false by simpa using hc]; rfl) h9)
      refine lv_iinc (k := 2) (v := nI (_ + 1)) (lv' := [(2, .int _), (4, .int _), (3, .int _), (0, .ref _), (1, .int _)]) hx hb dX2_count_112 hl rfl (inc1 _) (by decide) rfl (fun ls hl => ?_)
      refine lv_iload_n hx hb dX2_count_115 rfl (lv_at hl 4 rfl) ?_
      refine lv_iconst (v := nI 3) hx hb dX2_count_116 (by decide) ?_
      refine lv_icmp_ne (tgt := 137) hx hb dX2_count_117 rfl (fun _ => ?_) (fun h9 => absurd h9 (by decide : ¬ nI 4 = nI 3))
      refine lv_iconst (v := nI 0) hx hb dX2_count_137 (by decide) ?_
      refine lv_istore (lv' := [(5, .int _), (2, .int _), (4, .int _), (3, .int _), (0, .ref _), (1, .int _)]) hx hb dX2_count_138 hl (by decide) rfl (fun ls hl => ?_)
      refine lv_iconst (v := nI 0) hx hb dX2_count_140 (by decide) ?_
      refine lv_istore (lv' := [(6, .int _), (5, .int _), (2, .int _), (4, .int _), (3, .int _), (0, .ref _), (1, .int _)]) hx hb dX2_count_141 hl (by decide) rfl (fun ls hl => ?_)
      refine lp_cw (a := nI (a + 1)) (g := nI 0) (j := pcn M i) K ⟨Nat.le_trans (Nat.le_of_ble_eq_true rfl) hR.1, Nat.le_trans (Nat.le_of_ble_eq_true rfl) hR.2⟩ hf (by omega) ok rfl (fun H locs ls w hl => ?_) (pcn M i) 0 _ _ _ (by omega) w (lv_sub hl [0, 1, 3, 4, 2, 5, 6] rfl)
      refine lv_iload_n hx hb dX2_count_181 rfl (lv_at hl 5 rfl) ?_
      refine lv_bipush (v := nI 6) hx hb dX2_count_182 (by decide) ?_
      refine lv_icmp_ne (tgt := 195) hx hb dX2_count_184 rfl (fun _ => ?_) (fun h9 => absurd h9 (by decide : ¬ nI 4 = nI 6))
      refine lv_iinc (k := 1) (v := nI (_ + 1)) (lv' := [(4, .int _), (5, .int _), (3, .int _), (2, .int _), (0, .ref _), (1, .int _)]) hx hb dX2_count_195 hl rfl (inc1 _) (by decide) rfl (fun ls hl => ?_)
      refine lv_goto (tgt := 30) hx hb dX2_count_198 rfl ?_
      exact ih (i + 1) (a + 1) _ _ _ (by omega) hm w (lv_sub hl [0, 2, 3, 4, 5] rfl)
    · rw [cnF, if_neg hc] at hm
      refine lv_iload_n hx hb dX2_count_39 rfl (lv_at hl 4 rfl) ?_
      refine lv_iconst (v := nI 1) hx hb dX2_count_40 (by decide) ?_
      refine lv_icmp_ne (tgt := 54) hx hb dX2_count_41 rfl (fun _ => ?_) (fun h9 => absurd h9 (by decide : ¬ nI 4 = nI 1))
      refine lv_iload_n hx hb dX2_count_54 rfl (lv_at hl 4 rfl) ?_
      refine lv_iconst (v := nI 2) hx hb dX2_count_55 (by decide) ?_
      refine lv_icmp_ne (tgt := 73) hx hb dX2_count_56 rfl (fun _ => ?_) (fun h9 => absurd h9 (by decide : ¬ nI 4 = nI 2))
      refine lv_iload_n hx hb dX2_count_73 rfl (lv_at hl 4 rfl) ?_
      refine lv_iconst (v := nI 4) hx hb dX2_count_74 (by decide) ?_
      refine lv_icmp_ne (tgt := 87) hx hb dX2_count_75 rfl (fun h9 => absurd (rfl : nI 4 = nI 4) h9) (fun _ => ?_)
      refine lv_aload_n hx hb dX2_count_78 rfl (lv_at hl 3 rfl) ?_
      refine lv_iload hx hb dX2_count_79 (lv_at hl 0 rfl) ?_
      refine calli2 K w (c_X2_isAnyParent K.2.2 (by omega) ok) (lk_X2_61 K ⟨Nat.le_trans (Nat.le_of_ble_eq_true rfl) hR.1, Nat.le_trans (Nat.le_of_ble_eq_true rfl) hR.2⟩) (recvM K w) rfl hl.1 rfl (Nat.le_of_ble_eq_true rfl) dX2_count_81 hf (fun H locs w => ?_)
      refine lv_if_eq (tgt := 112) hx hb dX2_count_84 rfl (fun h9 => absurd h9 (by rw [show iaF M i z 0 = true by simpa using hc]; decide)) (fun _ => ?_)
      refine lv_iload_n hx hb dX2_count_87 rfl (lv_at hl 4 rfl) ?_
      refine lv_iconst (v := nI 5) hx hb dX2_count_88 (by decide) ?_
      refine lv_icmp_ne (tgt := 115) hx hb dX2_count_89 rfl (fun _ => ?_) (fun h9 => absurd h9 (by decide : ¬ nI 4 = nI 5))
      refine lv_iload_n hx hb dX2_count_115 rfl (lv_at hl 4 rfl) ?_
      refine lv_iconst (v := nI 3) hx hb dX2_count_116 (by decide) ?_
      refine lv_icmp_ne (tgt := 137) hx hb dX2_count_117 rfl (fun _ => ?_) (fun h9 => absurd h9 (by decide : ¬ nI 4 = nI 3))
      refine lv_iconst (v := nI 0) hx hb dX2_count_137 (by decide) ?_
      refine lv_istore (lv' := [(5, .int _), (4, .int _), (3, .int _), (2, .int _), (0, .ref _), (1, .int _)]) hx hb dX2_count_138 hl (by decide) rfl (fun ls hl => ?_)
      refine lv_iconst (v := nI 0) hx hb dX2_count_140 (by decide) ?_
      refine lv_istore (lv' := [(6, .int _), (5, .int _), (4, .int _), (3, .int _), (2, .int _), (0, .ref _), (1, .int _)]) hx hb dX2_count_141 hl (by decide) rfl (fun ls hl => ?_)
      refine lp_cw (a := nI a) (g := nI 0) (j := pcn M i) K ⟨Nat.le_trans (Nat.le_of_ble_eq_true rfl) hR.1, Nat.le_trans (Nat.le_of_ble_eq_true rfl) hR.2⟩ hf (by omega) ok rfl (fun H locs ls w hl => ?_) (pcn M i) 0 _ _ _ (by omega) w (lv_sub hl [0, 1, 2, 3, 4, 5, 6] rfl)
      refine lv_iload_n hx hb dX2_count_181 rfl (lv_at hl 5 rfl) ?_
      refine lv_bipush (v := nI 6) hx hb dX2_count_182 (by decide) ?_
      refine lv_icmp_ne (tgt := 195) hx hb dX2_count_184 rfl (fun _ => ?_) (fun h9 => absurd h9 (by decide : ¬ nI 4 = nI 6))
      refine lv_iinc (k := 1) (v := nI (_ + 1)) (lv' := [(4, .int _), (5, .int _), (3, .int _), (2, .int _), (0, .ref _), (1, .int _)]) hx hb dX2_count_195 hl rfl (inc1 _) (by decide) rfl (fun ls hl => ?_)
      refine lv_goto (tgt := 30) hx hb dX2_count_198 rfl ?_
      exact ih (i + 1) a _ _ _ (by omega) hm w (lv_sub hl [0, 2, 3, 4, 5] rfl)

set_option maxHeartbeats 4000000 in
set_option maxRecDepth 100000 in
theorem lp_ct_5 (K : cY E p m c cX2_count 7 s args w0 RX2) (hR : 2 ≤ R.frames ∧ 45 ≤ R.locals) (hf : cells ≤ R.cells ∧ slots ≤ R.slots) {r : Nat} (ok : okN M z) (kk : ∀ (H : Heap) (locs : List Loc) (ls : Array Slot), vst E s.heap M z t f H locs → lv_has ls 7 [(3, .int (nI 0)), (2, .int (nI r)), (0, .ref (ad E 0)), (1, .int (nI 5))] → W p l e R s m args below meth c H locs cells slots Q (F0 m 201 ls [])) : ∀ (d i : Nat) (a : Nat) (H : Heap) (locs : List Loc) (ls : Array Slot), i + d = z → cnF (fun j => decide (¬ M 7 j = 0 ∧ ¬ M 8 j = 0)) d i a = r → vst E s.heap M z t f H locs → lv_has ls 7 [(4, .int (nI i)), (3, .int (nI 0)), (2, .int (nI a)), (0, .ref (ad E 0)), (1, .int (nI 5))] → W p l e R s m args below meth c H locs cells slots Q (F0 m 30 ls []) := by
  have hx := K.1.1
  have hb := K.1.2.1
  intro d
  induction d with
  | zero =>
    intro i a H locs ls hi hm w hl
    have hz := ok.1
    refine lv_iload hx hb dX2_count_30 (lv_at hl 0 rfl) ?_
    refine lv_aload_n hx hb dX2_count_32 rfl (lv_at hl 3 rfl) ?_
    refine gf_X2_size K w dX2_count_33 ?_
    refine lv_icmp_ge (tgt := 201) hx hb dX2_count_36 rfl (fun _ => ?_) (fun h9 => absurd (nI_le (by omega) (by omega)) h9)
    exact kk _ _ _ w (by rw [← hm]; exact lv_sub hl [1, 2, 3, 4] rfl)
  | succ d ih =>
    intro i a H locs ls hi hm w hl
    have hz := ok.1
    refine lv_iload hx hb dX2_count_30 (lv_at hl 0 rfl) ?_
    refine lv_aload_n hx hb dX2_count_32 rfl (lv_at hl 3 rfl) ?_
    refine gf_X2_size K w dX2_count_33 ?_
    refine lv_icmp_ge (tgt := 201) hx hb dX2_count_36 rfl (fun h9 => absurd h9 (nI_ge (by omega) (by omega))) (fun _ => ?_)
    rcases (by by_cases h7 : M 7 i = 0
               · exact Or.inl h7
               · by_cases h8 : M 8 i = 0
                 · exact Or.inr (Or.inl ⟨h7, h8⟩)
                 · exact Or.inr (Or.inr ⟨h7, h8⟩) : M 7 i = 0 ∨ (¬ M 7 i = 0 ∧ M 8 i = 0) ∨ (¬ M 7 i = 0 ∧ ¬ M 8 i = 0)) with h7 | ⟨h7, h8⟩ | ⟨h7, h8⟩
    · rw [cnF, if_neg (by rw [decide_eq_false (fun h => h.1 h7)]; decide)] at hm
      refine lv_iload_n hx hb dX2_count_39 rfl (lv_at hl 4 rfl) ?_
      refine lv_iconst (v := nI 1) hx hb dX2_count_40 (by decide) ?_
      refine lv_icmp_ne (tgt := 54) hx hb dX2_count_41 rfl (fun _ => ?_) (fun h9 => absurd h9 (by decide : ¬ nI 5 = nI 1))
      refine lv_iload_n hx hb dX2_count_54 rfl (lv_at hl 4 rfl) ?_
      refine lv_iconst (v := nI 2) hx hb dX2_count_55 (by decide) ?_
      refine lv_icmp_ne (tgt := 73) hx hb dX2_count_56 rfl (fun _ => ?_) (fun h9 => absurd h9 (by decide : ¬ nI 5 = nI 2))
      refine lv_iload_n hx hb dX2_count_73 rfl (lv_at hl 4 rfl) ?_
      refine lv_iconst (v := nI 4) hx hb dX2_count_74 (by decide) ?_
      refine lv_icmp_ne (tgt := 87) hx hb dX2_count_75 rfl (fun _ => ?_) (fun h9 => absurd h9 (by decide : ¬ nI 5 = nI 4))
      refine lv_iload_n hx hb dX2_count_87 rfl (lv_at hl 4 rfl) ?_
      refine lv_iconst (v := nI 5) hx hb dX2_count_88 (by decide) ?_
      refine lv_icmp_ne (tgt := 115) hx hb dX2_count_89 rfl (fun h9 => absurd (rfl : nI 5 = nI 5) h9) (fun _ => ?_)
      refine lv_aload_n hx hb dX2_count_92 rfl (lv_at hl 3 rfl) ?_
      refine gf_X2_one K w dX2_count_93 ?_
      refine lv_iload hx hb dX2_count_96 (lv_at hl 0 rfl) ?_
      refine ldB2 K w rwB7 (by omega) dX2_count_98 ?_
      refine lv_if_eq (tgt := 115) hx hb dX2_count_99 rfl (fun _ => ?_) (fun h9 => absurd h7 h9)
      refine lv_iload_n hx hb dX2_count_115 rfl (lv_at hl 4 rfl) ?_
      refine lv_iconst (v := nI 3) hx hb dX2_count_116 (by decide) ?_
      refine lv_icmp_ne (tgt := 137) hx hb dX2_count_117 rfl (fun _ => ?_) (fun h9 => absurd h9 (by decide : ¬ nI 5 = nI 3))
      refine lv_iconst (v := nI 0) hx hb dX2_count_137 (by decide) ?_
      refine lv_istore (lv' := [(5, .int _), (4, .int _), (3, .int _), (2, .int _), (0, .ref _), (1, .int _)]) hx hb dX2_count_138 hl (by decide) rfl (fun ls hl => ?_)
      refine lv_iconst (v := nI 0) hx hb dX2_count_140 (by decide) ?_
      refine lv_istore (lv' := [(6, .int _), (5, .int _), (4, .int _), (3, .int _), (2, .int _), (0, .ref _), (1, .int _)]) hx hb dX2_count_141 hl (by decide) rfl (fun ls hl => ?_)
      refine lp_cw (a := nI a) (g := nI 0) (j := pcn M i) K ⟨Nat.le_trans (Nat.le_of_ble_eq_true rfl) hR.1, Nat.le_trans (Nat.le_of_ble_eq_true rfl) hR.2⟩ hf (by omega) ok rfl (fun H locs ls w hl => ?_) (pcn M i) 0 _ _ _ (by omega) w (lv_sub hl [0, 1, 2, 3, 4, 5, 6] rfl)
      refine lv_iload_n hx hb dX2_count_181 rfl (lv_at hl 5 rfl) ?_
      refine lv_bipush (v := nI 6) hx hb dX2_count_182 (by decide) ?_
      refine lv_icmp_ne (tgt := 195) hx hb dX2_count_184 rfl (fun _ => ?_) (fun h9 => absurd h9 (by decide : ¬ nI 5 = nI 6))
      refine lv_iinc (k := 1) (v := nI (_ + 1)) (lv' := [(4, .int _), (5, .int _), (3, .int _), (2, .int _), (0, .ref _), (1, .int _)]) hx hb dX2_count_195 hl rfl (inc1 _) (by decide) rfl (fun ls hl => ?_)
      refine lv_goto (tgt := 30) hx hb dX2_count_198 rfl ?_
      exact ih (i + 1) a _ _ _ (by omega) hm w (lv_sub hl [0, 2, 3, 4, 5] rfl)
    · rw [cnF, if_neg (by rw [decide_eq_false (fun h => h.2 h8)]; decide)] at hm
      refine lv_iload_n hx hb dX2_count_39 rfl (lv_at hl 4 rfl) ?_
      refine lv_iconst (v := nI 1) hx hb dX2_count_40 (by decide) ?_
      refine lv_icmp_ne (tgt := 54) hx hb dX2_count_41 rfl (fun _ => ?_) (fun h9 => absurd h9 (by decide : ¬ nI 5 = nI 1))
      refine lv_iload_n hx hb dX2_count_54 rfl (lv_at hl 4 rfl) ?_
      refine lv_iconst (v := nI 2) hx hb dX2_count_55 (by decide) ?_
      refine lv_icmp_ne (tgt := 73) hx hb dX2_count_56 rfl (fun _ => ?_) (fun h9 => absurd h9 (by decide : ¬ nI 5 = nI 2))
      refine lv_iload_n hx hb dX2_count_73 rfl (lv_at hl 4 rfl) ?_
      refine lv_iconst (v := nI 4) hx hb dX2_count_74 (by decide) ?_
      refine lv_icmp_ne (tgt := 87) hx hb dX2_count_75 rfl (fun _ => ?_) (fun h9 => absurd h9 (by decide : ¬ nI 5 = nI 4))
      refine lv_iload_n hx hb dX2_count_87 rfl (lv_at hl 4 rfl) ?_
      refine lv_iconst (v := nI 5) hx hb dX2_count_88 (by decide) ?_
      refine lv_icmp_ne (tgt := 115) hx hb dX2_count_89 rfl (fun h9 => absurd (rfl : nI 5 = nI 5) h9) (fun _ => ?_)
      refine lv_aload_n hx hb dX2_count_92 rfl (lv_at hl 3 rfl) ?_
      refine gf_X2_one K w dX2_count_93 ?_
      refine lv_iload hx hb dX2_count_96 (lv_at hl 0 rfl) ?_
      refine ldB2 K w rwB7 (by omega) dX2_count_98 ?_
      refine lv_if_eq (tgt := 115) hx hb dX2_count_99 rfl (fun h9 => absurd h9 h7) (fun _ => ?_)
      refine lv_aload_n hx hb dX2_count_102 rfl (lv_at hl 3 rfl) ?_
      refine gf_X2_other K w dX2_count_103 ?_
      refine lv_iload hx hb dX2_count_106 (lv_at hl 0 rfl) ?_
      refine ldB2 K w rwB8 (by omega) dX2_count_108 ?_
      refine lv_if_eq (tgt := 115) hx hb dX2_count_109 rfl (fun _ => ?_) (fun h9 => absurd h8 h9)
      refine lv_iload_n hx hb dX2_count_115 rfl (lv_at hl 4 rfl) ?_
      refine lv_iconst (v := nI 3) hx hb dX2_count_116 (by decide) ?_
      refine lv_icmp_ne (tgt := 137) hx hb dX2_count_117 rfl (fun _ => ?_) (fun h9 => absurd h9 (by decide : ¬ nI 5 = nI 3))
      refine lv_iconst (v := nI 0) hx hb dX2_count_137 (by decide) ?_
      refine lv_istore (lv' := [(5, .int _), (4, .int _), (3, .int _), (2, .int _), (0, .ref _), (1, .int _)]) hx hb dX2_count_138 hl (by decide) rfl (fun ls hl => ?_)
      refine lv_iconst (v := nI 0) hx hb dX2_count_140 (by decide) ?_
      refine lv_istore (lv' := [(6, .int _), (5, .int _), (4, .int _), (3, .int _), (2, .int _), (0, .ref _), (1, .int _)]) hx hb dX2_count_141 hl (by decide) rfl (fun ls hl => ?_)
      refine lp_cw (a := nI a) (g := nI 0) (j := pcn M i) K ⟨Nat.le_trans (Nat.le_of_ble_eq_true rfl) hR.1, Nat.le_trans (Nat.le_of_ble_eq_true rfl) hR.2⟩ hf (by omega) ok rfl (fun H locs ls w hl => ?_) (pcn M i) 0 _ _ _ (by omega) w (lv_sub hl [0, 1, 2, 3, 4, 5, 6] rfl)
      refine lv_iload_n hx hb dX2_count_181 rfl (lv_at hl 5 rfl) ?_
      refine lv_bipush (v := nI 6) hx hb dX2_count_182 (by decide) ?_
      refine lv_icmp_ne (tgt := 195) hx hb dX2_count_184 rfl (fun _ => ?_) (fun h9 => absurd h9 (by decide : ¬ nI 5 = nI 6))
      refine lv_iinc (k := 1) (v := nI (_ + 1)) (lv' := [(4, .int _), (5, .int _), (3, .int _), (2, .int _), (0, .ref _), (1, .int _)]) hx hb dX2_count_195 hl rfl (inc1 _) (by decide) rfl (fun ls hl => ?_)
      refine lv_goto (tgt := 30) hx hb dX2_count_198 rfl ?_
      exact ih (i + 1) a _ _ _ (by omega) hm w (lv_sub hl [0, 2, 3, 4, 5] rfl)
    · rw [cnF, if_pos (decide_eq_true ⟨h7, h8⟩)] at hm
      refine lv_iload_n hx hb dX2_count_39 rfl (lv_at hl 4 rfl) ?_
      refine lv_iconst (v := nI 1) hx hb dX2_count_40 (by decide) ?_
      refine lv_icmp_ne (tgt := 54) hx hb dX2_count_41 rfl (fun _ => ?_) (fun h9 => absurd h9 (by decide : ¬ nI 5 = nI 1))
      refine lv_iload_n hx hb dX2_count_54 rfl (lv_at hl 4 rfl) ?_
      refine lv_iconst (v := nI 2) hx hb dX2_count_55 (by decide) ?_
      refine lv_icmp_ne (tgt := 73) hx hb dX2_count_56 rfl (fun _ => ?_) (fun h9 => absurd h9 (by decide : ¬ nI 5 = nI 2))
      refine lv_iload_n hx hb dX2_count_73 rfl (lv_at hl 4 rfl) ?_
      refine lv_iconst (v := nI 4) hx hb dX2_count_74 (by decide) ?_
      refine lv_icmp_ne (tgt := 87) hx hb dX2_count_75 rfl (fun _ => ?_) (fun h9 => absurd h9 (by decide : ¬ nI 5 = nI 4))
      refine lv_iload_n hx hb dX2_count_87 rfl (lv_at hl 4 rfl) ?_
      refine lv_iconst (v := nI 5) hx hb dX2_count_88 (by decide) ?_
      refine lv_icmp_ne (tgt := 115) hx hb dX2_count_89 rfl (fun h9 => absurd (rfl : nI 5 = nI 5) h9) (fun _ => ?_)
      refine lv_aload_n hx hb dX2_count_92 rfl (lv_at hl 3 rfl) ?_
      refine gf_X2_one K w dX2_count_93 ?_
      refine lv_iload hx hb dX2_count_96 (lv_at hl 0 rfl) ?_
      refine ldB2 K w rwB7 (by omega) dX2_count_98 ?_
      refine lv_if_eq (tgt := 115) hx hb dX2_count_99 rfl (fun h9 => absurd h9 h7) (fun _ => ?_)
      refine lv_aload_n hx hb dX2_count_102 rfl (lv_at hl 3 rfl) ?_
      refine gf_X2_other K w dX2_count_103 ?_
      refine lv_iload hx hb dX2_count_106 (lv_at hl 0 rfl) ?_
      refine ldB2 K w rwB8 (by omega) dX2_count_108 ?_
      refine lv_if_eq (tgt := 115) hx hb dX2_count_109 rfl (fun h9 => absurd h9 h8) (fun _ => ?_)
      refine lv_iinc (k := 2) (v := nI (_ + 1)) (lv' := [(2, .int _), (4, .int _), (3, .int _), (0, .ref _), (1, .int _)]) hx hb dX2_count_112 hl rfl (inc1 _) (by decide) rfl (fun ls hl => ?_)
      refine lv_iload_n hx hb dX2_count_115 rfl (lv_at hl 4 rfl) ?_
      refine lv_iconst (v := nI 3) hx hb dX2_count_116 (by decide) ?_
      refine lv_icmp_ne (tgt := 137) hx hb dX2_count_117 rfl (fun _ => ?_) (fun h9 => absurd h9 (by decide : ¬ nI 5 = nI 3))
      refine lv_iconst (v := nI 0) hx hb dX2_count_137 (by decide) ?_
      refine lv_istore (lv' := [(5, .int _), (2, .int _), (4, .int _), (3, .int _), (0, .ref _), (1, .int _)]) hx hb dX2_count_138 hl (by decide) rfl (fun ls hl => ?_)
      refine lv_iconst (v := nI 0) hx hb dX2_count_140 (by decide) ?_
      refine lv_istore (lv' := [(6, .int _), (5, .int _), (2, .int _), (4, .int _), (3, .int _), (0, .ref _), (1, .int _)]) hx hb dX2_count_141 hl (by decide) rfl (fun ls hl => ?_)
      refine lp_cw (a := nI (a + 1)) (g := nI 0) (j := pcn M i) K ⟨Nat.le_trans (Nat.le_of_ble_eq_true rfl) hR.1, Nat.le_trans (Nat.le_of_ble_eq_true rfl) hR.2⟩ hf (by omega) ok rfl (fun H locs ls w hl => ?_) (pcn M i) 0 _ _ _ (by omega) w (lv_sub hl [0, 1, 3, 4, 2, 5, 6] rfl)
      refine lv_iload_n hx hb dX2_count_181 rfl (lv_at hl 5 rfl) ?_
      refine lv_bipush (v := nI 6) hx hb dX2_count_182 (by decide) ?_
      refine lv_icmp_ne (tgt := 195) hx hb dX2_count_184 rfl (fun _ => ?_) (fun h9 => absurd h9 (by decide : ¬ nI 5 = nI 6))
      refine lv_iinc (k := 1) (v := nI (_ + 1)) (lv' := [(4, .int _), (5, .int _), (3, .int _), (2, .int _), (0, .ref _), (1, .int _)]) hx hb dX2_count_195 hl rfl (inc1 _) (by decide) rfl (fun ls hl => ?_)
      refine lv_goto (tgt := 30) hx hb dX2_count_198 rfl ?_
      exact ih (i + 1) (a + 1) _ _ _ (by omega) hm w (lv_sub hl [0, 2, 3, 4, 5] rfl)

set_option maxHeartbeats 4000000 in
set_option maxRecDepth 100000 in
theorem lp_ct_3 (K : cY E p m c cX2_count 7 s args w0 RX2) (hR : 2 ≤ R.frames ∧ 45 ≤ R.locals) (hf : cells ≤ R.cells ∧ slots ≤ R.slots) (kk : ∀ (H : Heap) (locs : List Loc) (ls : Array Slot), vst E s.heap UG.1 z t f H locs → lv_has ls 7 [(3, .int UG.2), (2, .int (nI 0)), (0, .ref (ad E 0)), (1, .int (nI 3))] → W p l e R s m args below meth c H locs cells slots Q (F0 m 201 ls [])) : ∀ (d i : Nat) (M : Mt) (g : Int32) (H : Heap) (locs : List Loc) (ls : Array Slot), i + d = z → okN M z → cgF d i (M, g) = UG → vst E s.heap M z t f H locs → lv_has ls 7 [(4, .int (nI i)), (3, .int g), (2, .int (nI 0)), (0, .ref (ad E 0)), (1, .int (nI 3))] → W p l e R s m args below meth c H locs cells slots Q (F0 m 30 ls []) := by
  have hx := K.1.1
  have hb := K.1.2.1
  intro d
  induction d with
  | zero =>
    intro i M g H locs ls hi ok hm w hl
    have hz := ok.1
    refine lv_iload hx hb dX2_count_30 (lv_at hl 0 rfl) ?_
    refine lv_aload_n hx hb dX2_count_32 rfl (lv_at hl 3 rfl) ?_
    refine gf_X2_size K w dX2_count_33 ?_
    refine lv_icmp_ge (tgt := 201) hx hb dX2_count_36 rfl (fun _ => ?_) (fun h9 => absurd (nI_le (by omega) (by omega)) h9)
    exact kk _ _ _ (by rw [← hm]; exact w) (by rw [← hm]; exact lv_sub hl [1, 2, 3, 4] rfl)
  | succ d ih =>
    intro i M g H locs ls hi ok hm w hl
    have hz := ok.1
    refine lv_iload hx hb dX2_count_30 (lv_at hl 0 rfl) ?_
    refine lv_aload_n hx hb dX2_count_32 rfl (lv_at hl 3 rfl) ?_
    refine gf_X2_size K w dX2_count_33 ?_
    refine lv_icmp_ge (tgt := 201) hx hb dX2_count_36 rfl (fun h9 => absurd h9 (nI_ge (by omega) (by omega))) (fun _ => ?_)
    rw [cgF] at hm
    by_cases hc : gnF (i + 1) 0 M 3 i ≤ g
    · rw [if_pos hc] at hm
      refine lv_iload_n hx hb dX2_count_39 rfl (lv_at hl 4 rfl) ?_
      refine lv_iconst (v := nI 1) hx hb dX2_count_40 (by decide) ?_
      refine lv_icmp_ne (tgt := 54) hx hb dX2_count_41 rfl (fun _ => ?_) (fun h9 => absurd h9 (by decide : ¬ nI 3 = nI 1))
      refine lv_iload_n hx hb dX2_count_54 rfl (lv_at hl 4 rfl) ?_
      refine lv_iconst (v := nI 2) hx hb dX2_count_55 (by decide) ?_
      refine lv_icmp_ne (tgt := 73) hx hb dX2_count_56 rfl (fun _ => ?_) (fun h9 => absurd h9 (by decide : ¬ nI 3 = nI 2))
      refine lv_iload_n hx hb dX2_count_73 rfl (lv_at hl 4 rfl) ?_
      refine lv_iconst (v := nI 4) hx hb dX2_count_74 (by decide) ?_
      refine lv_icmp_ne (tgt := 87) hx hb dX2_count_75 rfl (fun _ => ?_) (fun h9 => absurd h9 (by decide : ¬ nI 3 = nI 4))
      refine lv_iload_n hx hb dX2_count_87 rfl (lv_at hl 4 rfl) ?_
      refine lv_iconst (v := nI 5) hx hb dX2_count_88 (by decide) ?_
      refine lv_icmp_ne (tgt := 115) hx hb dX2_count_89 rfl (fun _ => ?_) (fun h9 => absurd h9 (by decide : ¬ nI 3 = nI 5))
      refine lv_iload_n hx hb dX2_count_115 rfl (lv_at hl 4 rfl) ?_
      refine lv_iconst (v := nI 3) hx hb dX2_count_116 (by decide) ?_
      refine lv_icmp_ne (tgt := 137) hx hb dX2_count_117 rfl (fun h9 => absurd (rfl : nI 3 = nI 3) h9) (fun _ => ?_)
      refine lv_aload_n hx hb dX2_count_120 rfl (lv_at hl 3 rfl) ?_
      refine lv_iload hx hb dX2_count_121 (lv_at hl 0 rfl) ?_
      refine calli2 K w (c_X2_generation K.2.2 (by omega) ok) (lk_X2_90 K ⟨Nat.le_trans (Nat.le_of_ble_eq_true rfl) hR.1, Nat.le_trans (Nat.le_of_ble_eq_true rfl) hR.2⟩) (recvM K w) rfl hl.1 rfl (Nat.le_of_ble_eq_true rfl) dX2_count_123 hf (fun H locs w => ?_)
      refine lv_iload_n hx hb dX2_count_126 rfl (lv_at hl 1 rfl) ?_
      refine lv_icmp_le (tgt := 137) hx hb dX2_count_127 rfl (fun _ => ?_) (fun h9 => absurd hc h9)
      refine lv_iconst (v := nI 0) hx hb dX2_count_137 (by decide) ?_
      refine lv_istore (lv' := [(5, .int _), (4, .int _), (3, .int _), (2, .int _), (0, .ref _), (1, .int _)]) hx hb dX2_count_138 hl (by decide) rfl (fun ls hl => ?_)
      refine lv_iconst (v := nI 0) hx hb dX2_count_140 (by decide) ?_
      refine lv_istore (lv' := [(6, .int _), (5, .int _), (4, .int _), (3, .int _), (2, .int _), (0, .ref _), (1, .int _)]) hx hb dX2_count_141 hl (by decide) rfl (fun ls hl => ?_)
      refine lp_cw (a := nI 0) (g := g) (j := pcn (gnF (i + 1) 0 M) i) K ⟨Nat.le_trans (Nat.le_of_ble_eq_true rfl) hR.1, Nat.le_trans (Nat.le_of_ble_eq_true rfl) hR.2⟩ hf (by omega) (ok.rows (gnF_row (by decide)) (gnF_row (by decide))) rfl (fun H locs ls w hl => ?_) (pcn (gnF (i + 1) 0 M) i) 0 _ _ _ (by omega) w (lv_sub hl [0, 1, 2, 3, 4, 5, 6] rfl)
      refine lv_iload_n hx hb dX2_count_181 rfl (lv_at hl 5 rfl) ?_
      refine lv_bipush (v := nI 6) hx hb dX2_count_182 (by decide) ?_
      refine lv_icmp_ne (tgt := 195) hx hb dX2_count_184 rfl (fun _ => ?_) (fun h9 => absurd h9 (by decide : ¬ nI 3 = nI 6))
      refine lv_iinc (k := 1) (v := nI (_ + 1)) (lv' := [(4, .int _), (5, .int _), (3, .int _), (2, .int _), (0, .ref _), (1, .int _)]) hx hb dX2_count_195 hl rfl (inc1 _) (by decide) rfl (fun ls hl => ?_)
      refine lv_goto (tgt := 30) hx hb dX2_count_198 rfl ?_
      exact ih (i + 1) (gnF (i + 1) 0 M) g _ _ _ (by omega) (ok.rows (gnF_row (by decide)) (gnF_row (by decide))) hm w (lv_sub hl [0, 2, 3, 4, 5] rfl)
    · rw [if_neg hc] at hm
      refine lv_iload_n hx hb dX2_count_39 rfl (lv_at hl 4 rfl) ?_
      refine lv_iconst (v := nI 1) hx hb dX2_count_40 (by decide) ?_
      refine lv_icmp_ne (tgt := 54) hx hb dX2_count_41 rfl (fun _ => ?_) (fun h9 => absurd h9 (by decide : ¬ nI 3 = nI 1))
      refine lv_iload_n hx hb dX2_count_54 rfl (lv_at hl 4 rfl) ?_
      refine lv_iconst (v := nI 2) hx hb dX2_count_55 (by decide) ?_
      refine lv_icmp_ne (tgt := 73) hx hb dX2_count_56 rfl (fun _ => ?_) (fun h9 => absurd h9 (by decide : ¬ nI 3 = nI 2))
      refine lv_iload_n hx hb dX2_count_73 rfl (lv_at hl 4 rfl) ?_
      refine lv_iconst (v := nI 4) hx hb dX2_count_74 (by decide) ?_
      refine lv_icmp_ne (tgt := 87) hx hb dX2_count_75 rfl (fun _ => ?_) (fun h9 => absurd h9 (by decide : ¬ nI 3 = nI 4))
      refine lv_iload_n hx hb dX2_count_87 rfl (lv_at hl 4 rfl) ?_
      refine lv_iconst (v := nI 5) hx hb dX2_count_88 (by decide) ?_
      refine lv_icmp_ne (tgt := 115) hx hb dX2_count_89 rfl (fun _ => ?_) (fun h9 => absurd h9 (by decide : ¬ nI 3 = nI 5))
      refine lv_iload_n hx hb dX2_count_115 rfl (lv_at hl 4 rfl) ?_
      refine lv_iconst (v := nI 3) hx hb dX2_count_116 (by decide) ?_
      refine lv_icmp_ne (tgt := 137) hx hb dX2_count_117 rfl (fun h9 => absurd (rfl : nI 3 = nI 3) h9) (fun _ => ?_)
      refine lv_aload_n hx hb dX2_count_120 rfl (lv_at hl 3 rfl) ?_
      refine lv_iload hx hb dX2_count_121 (lv_at hl 0 rfl) ?_
      refine calli2 K w (c_X2_generation K.2.2 (by omega) ok) (lk_X2_90 K ⟨Nat.le_trans (Nat.le_of_ble_eq_true rfl) hR.1, Nat.le_trans (Nat.le_of_ble_eq_true rfl) hR.2⟩) (recvM K w) rfl hl.1 rfl (Nat.le_of_ble_eq_true rfl) dX2_count_123 hf (fun H locs w => ?_)
      refine lv_iload_n hx hb dX2_count_126 rfl (lv_at hl 1 rfl) ?_
      refine lv_icmp_le (tgt := 137) hx hb dX2_count_127 rfl (fun h9 => absurd h9 hc) (fun _ => ?_)
      refine lv_aload_n hx hb dX2_count_130 rfl (lv_at hl 3 rfl) ?_
      refine lv_iload hx hb dX2_count_131 (lv_at hl 0 rfl) ?_
      refine calli2 K w (c_X2_generation K.2.2 (by omega) (ok.rows (gnF_row (by decide)) (gnF_row (by decide)))) (lk_X2_90 K ⟨Nat.le_trans (Nat.le_of_ble_eq_true rfl) hR.1, Nat.le_trans (Nat.le_of_ble_eq_true rfl) hR.2⟩) (recvM K w) rfl hl.1 rfl (Nat.le_of_ble_eq_true rfl) dX2_count_133 hf (fun H locs w => ?_)
      refine lv_istore_n (lv' := [(3, .int _), (4, .int _), (2, .int _), (0, .ref _), (1, .int _)]) hx hb dX2_count_136 rfl hl (by decide) rfl (fun ls hl => ?_)
      refine lv_iconst (v := nI 0) hx hb dX2_count_137 (by decide) ?_
      refine lv_istore (lv' := [(5, .int _), (3, .int _), (4, .int _), (2, .int _), (0, .ref _), (1, .int _)]) hx hb dX2_count_138 hl (by decide) rfl (fun ls hl => ?_)
      refine lv_iconst (v := nI 0) hx hb dX2_count_140 (by decide) ?_
      refine lv_istore (lv' := [(6, .int _), (5, .int _), (3, .int _), (4, .int _), (2, .int _), (0, .ref _), (1, .int _)]) hx hb dX2_count_141 hl (by decide) rfl (fun ls hl => ?_)
      refine lp_cw (a := nI 0) (g := (gnF (i + 1) 0 (gnF (i + 1) 0 M) 3 i)) (j := pcn (gnF (i + 1) 0 (gnF (i + 1) 0 M)) i) K ⟨Nat.le_trans (Nat.le_of_ble_eq_true rfl) hR.1, Nat.le_trans (Nat.le_of_ble_eq_true rfl) hR.2⟩ hf (by omega) (ok.rows ((gnF_row (by decide)).trans (gnF_row (by decide))) ((gnF_row (by decide)).trans (gnF_row (by decide)))) rfl (fun H locs ls w hl => ?_) (pcn (gnF (i + 1) 0 (gnF (i + 1) 0 M)) i) 0 _ _ _ (by omega) w (lv_sub hl [0, 1, 3, 2, 4, 5, 6] rfl)
      refine lv_iload_n hx hb dX2_count_181 rfl (lv_at hl 5 rfl) ?_
      refine lv_bipush (v := nI 6) hx hb dX2_count_182 (by decide) ?_
      refine lv_icmp_ne (tgt := 195) hx hb dX2_count_184 rfl (fun _ => ?_) (fun h9 => absurd h9 (by decide : ¬ nI 3 = nI 6))
      refine lv_iinc (k := 1) (v := nI (_ + 1)) (lv' := [(4, .int _), (5, .int _), (3, .int _), (2, .int _), (0, .ref _), (1, .int _)]) hx hb dX2_count_195 hl rfl (inc1 _) (by decide) rfl (fun ls hl => ?_)
      refine lv_goto (tgt := 30) hx hb dX2_count_198 rfl ?_
      exact ih (i + 1) (gnF (i + 1) 0 (gnF (i + 1) 0 M)) (gnF (i + 1) 0 (gnF (i + 1) 0 M) 3 i) _ _ _ (by omega) (ok.rows ((gnF_row (by decide)).trans (gnF_row (by decide))) ((gnF_row (by decide)).trans (gnF_row (by decide)))) hm w (lv_sub hl [0, 2, 3, 4, 5] rfl)

end YK
set_option maxHeartbeats 4000000 in
set_option maxRecDepth 100000 in
theorem c_X2_count_0 {l : Launch} {E : En} {M : Mt} {z t f : Nat} (dn : dM E) (hb6 : b01 M 6) (ok : okN M z) : MI2 l yX2_count (.code yX2_count cX2_count 7 (some .int)) 2 46 E [.ref (ad E 0), .int (nI 0)] M z t f (nI z) (ctH M z) z 0 f := by
  refine MI2.of dn (own := RX2) (by decide) rfl (Nat.le_of_ble_eq_true rfl) (fun p e s m args below meth c ls Q K w hl ret => ?_)
  have hx := K.1.1
  have hb := K.1.2.1
  have hR : 2 ≤ (rmA 2 46).frames ∧ 46 ≤ (rmA 2 46).locals := ⟨Nat.le_refl _, Nat.le_refl _⟩
  have hf : 0 ≤ (rmA 2 46).cells ∧ 0 ≤ (rmA 2 46).slots := ⟨Nat.le_refl _, Nat.le_refl _⟩
  have hl : lv_has ls 7 [(0, .ref (ad E 0)), (1, .int (nI 0))] := hl
  refine lv_aload_n hx hb dX2_count_0 rfl (lv_at hl 0 rfl) ?_
  refine lv_iconst (v := nI 0) hx hb dX2_count_1 (by decide) ?_
  refine pf_X2_thrown K w rfl dX2_count_2 (fun H locs w => ?_)
  refine lv_aload_n hx hb dX2_count_5 rfl (lv_at hl 0 rfl) ?_
  refine lv_iconst (v := nI 0) hx hb dX2_count_6 (by decide) ?_
  refine lv_aload_n hx hb dX2_count_7 rfl (lv_at hl 0 rfl) ?_
  refine gf_X2_one K w dX2_count_8 ?_
  refine callv2 K w (c_X2_held dn rwB7 (by decide) (by decide) (by decide) (by decide) hb6 ok) (lk_X2_87 K ⟨Nat.le_trans (Nat.le_of_ble_eq_true rfl) hR.1, Nat.le_trans (Nat.le_of_ble_eq_true rfl) hR.2⟩) (recvM K w) rfl hl.1 rfl (Nat.le_of_ble_eq_true rfl) dX2_count_11 hf (fun H locs w => ?_)
  refine lv_aload_n hx hb dX2_count_14 rfl (lv_at hl 0 rfl) ?_
  refine lv_iconst (v := nI 1) hx hb dX2_count_15 (by decide) ?_
  refine lv_aload_n hx hb dX2_count_16 rfl (lv_at hl 0 rfl) ?_
  refine gf_X2_other K w dX2_count_17 ?_
  refine callv2 K w (c_X2_held dn rwB8 (by decide) (by decide) (by decide) (by decide) (by intro j; rw [hdR_row (by decide)]; exact hb6 j) (ok.rows (hdR_row (by decide)) (hdR_row (by decide)))) (lk_X2_87 K ⟨Nat.le_trans (Nat.le_of_ble_eq_true rfl) hR.1, Nat.le_trans (Nat.le_of_ble_eq_true rfl) hR.2⟩) (recvM K w) rfl hl.1 rfl (Nat.le_of_ble_eq_true rfl) dX2_count_20 hf (fun H locs w => ?_)
  have ok0 : okN (ctH M z) z := ok.rows (ctH_row (by decide) (by decide)) (ctH_row (by decide) (by decide))
  refine lv_iconst (v := nI 0) hx hb dX2_count_23 (by decide) ?_
  refine lv_istore_n (lv' := [(2, .int _), (0, .ref _), (1, .int _)]) hx hb dX2_count_24 rfl hl (by decide) rfl (fun ls hl => ?_)
  refine lv_iconst (v := nI 0) hx hb dX2_count_25 (by decide) ?_
  refine lv_istore_n (lv' := [(3, .int _), (2, .int _), (0, .ref _), (1, .int _)]) hx hb dX2_count_26 rfl hl (by decide) rfl (fun ls hl => ?_)
  refine lv_iconst (v := nI 0) hx hb dX2_count_27 (by decide) ?_
  refine lv_istore (lv' := [(4, .int _), (3, .int _), (2, .int _), (0, .ref _), (1, .int _)]) hx hb dX2_count_28 hl (by decide) rfl (fun ls hl => ?_)
  refine lp_ct_0 K ⟨Nat.le_trans (Nat.le_of_ble_eq_true rfl) hR.1, Nat.le_trans (Nat.le_of_ble_eq_true rfl) hR.2⟩ hf ok0 (fun H locs ls w hl => ?_) z 0 _ _ _ (by omega) w (lv_sub hl [0, 1, 2, 3, 4] rfl)
  refine lv_iload_n hx hb dX2_count_201 rfl (lv_at hl 3 rfl) ?_
  refine lv_if_ne (tgt := 210) hx hb dX2_count_202 rfl (fun h9 => absurd (rfl : nI 0 = 0) h9) (fun _ => ?_)
  refine lv_aload_n hx hb dX2_count_205 rfl (lv_at hl 2 rfl) ?_
  refine gf_X2_size K w dX2_count_206 ?_
  exact ret w rfl dX2_count_209

set_option maxHeartbeats 4000000 in
set_option maxRecDepth 100000 in
theorem c_X2_count_6 {l : Launch} {E : En} {M : Mt} {z t f : Nat} (dn : dM E) (hb6 : b01 M 6) (ok : okN M z) : MI2 l yX2_count (.code yX2_count cX2_count 7 (some .int)) 2 46 E [.ref (ad E 0), .int (nI 6)] M z t f (nI 0) (ctH M z) z 0 f := by
  refine MI2.of dn (own := RX2) (by decide) rfl (Nat.le_of_ble_eq_true rfl) (fun p e s m args below meth c ls Q K w hl ret => ?_)
  have hx := K.1.1
  have hb := K.1.2.1
  have hR : 2 ≤ (rmA 2 46).frames ∧ 46 ≤ (rmA 2 46).locals := ⟨Nat.le_refl _, Nat.le_refl _⟩
  have hf : 0 ≤ (rmA 2 46).cells ∧ 0 ≤ (rmA 2 46).slots := ⟨Nat.le_refl _, Nat.le_refl _⟩
  have hl : lv_has ls 7 [(0, .ref (ad E 0)), (1, .int (nI 6))] := hl
  refine lv_aload_n hx hb dX2_count_0 rfl (lv_at hl 0 rfl) ?_
  refine lv_iconst (v := nI 0) hx hb dX2_count_1 (by decide) ?_
  refine pf_X2_thrown K w rfl dX2_count_2 (fun H locs w => ?_)
  refine lv_aload_n hx hb dX2_count_5 rfl (lv_at hl 0 rfl) ?_
  refine lv_iconst (v := nI 0) hx hb dX2_count_6 (by decide) ?_
  refine lv_aload_n hx hb dX2_count_7 rfl (lv_at hl 0 rfl) ?_
  refine gf_X2_one K w dX2_count_8 ?_
  refine callv2 K w (c_X2_held dn rwB7 (by decide) (by decide) (by decide) (by decide) hb6 ok) (lk_X2_87 K ⟨Nat.le_trans (Nat.le_of_ble_eq_true rfl) hR.1, Nat.le_trans (Nat.le_of_ble_eq_true rfl) hR.2⟩) (recvM K w) rfl hl.1 rfl (Nat.le_of_ble_eq_true rfl) dX2_count_11 hf (fun H locs w => ?_)
  refine lv_aload_n hx hb dX2_count_14 rfl (lv_at hl 0 rfl) ?_
  refine lv_iconst (v := nI 1) hx hb dX2_count_15 (by decide) ?_
  refine lv_aload_n hx hb dX2_count_16 rfl (lv_at hl 0 rfl) ?_
  refine gf_X2_other K w dX2_count_17 ?_
  refine callv2 K w (c_X2_held dn rwB8 (by decide) (by decide) (by decide) (by decide) (by intro j; rw [hdR_row (by decide)]; exact hb6 j) (ok.rows (hdR_row (by decide)) (hdR_row (by decide)))) (lk_X2_87 K ⟨Nat.le_trans (Nat.le_of_ble_eq_true rfl) hR.1, Nat.le_trans (Nat.le_of_ble_eq_true rfl) hR.2⟩) (recvM K w) rfl hl.1 rfl (Nat.le_of_ble_eq_true rfl) dX2_count_20 hf (fun H locs w => ?_)
  have ok0 : okN (ctH M z) z := ok.rows (ctH_row (by decide) (by decide)) (ctH_row (by decide) (by decide))
  refine lv_iconst (v := nI 0) hx hb dX2_count_23 (by decide) ?_
  refine lv_istore_n (lv' := [(2, .int _), (0, .ref _), (1, .int _)]) hx hb dX2_count_24 rfl hl (by decide) rfl (fun ls hl => ?_)
  refine lv_iconst (v := nI 0) hx hb dX2_count_25 (by decide) ?_
  refine lv_istore_n (lv' := [(3, .int _), (2, .int _), (0, .ref _), (1, .int _)]) hx hb dX2_count_26 rfl hl (by decide) rfl (fun ls hl => ?_)
  refine lv_iconst (v := nI 0) hx hb dX2_count_27 (by decide) ?_
  refine lv_istore (lv' := [(4, .int _), (3, .int _), (2, .int _), (0, .ref _), (1, .int _)]) hx hb dX2_count_28 hl (by decide) rfl (fun ls hl => ?_)
  refine lp_ct_6 K ⟨Nat.le_trans (Nat.le_of_ble_eq_true rfl) hR.1, Nat.le_trans (Nat.le_of_ble_eq_true rfl) hR.2⟩ hf ok0 (fun H locs ls w hl => ?_) z 0 _ _ _ (by omega) w (lv_sub hl [0, 1, 2, 3, 4] rfl)
  refine lv_iload_n hx hb dX2_count_201 rfl (lv_at hl 3 rfl) ?_
  refine lv_if_ne (tgt := 210) hx hb dX2_count_202 rfl (fun _ => ?_) (fun h9 => absurd h9 (by decide : ¬ nI 6 = 0))
  refine lv_iload_n hx hb dX2_count_210 rfl (lv_at hl 3 rfl) ?_
  refine lv_iconst (v := nI 3) hx hb dX2_count_211 (by decide) ?_
  refine lv_icmp_ne (tgt := 219) hx hb dX2_count_212 rfl (fun _ => ?_) (fun h9 => absurd h9 (by decide : ¬ nI 6 = nI 3))
  refine lv_iload_n hx hb dX2_count_219 rfl (lv_at hl 3 rfl) ?_
  refine lv_if_le (tgt := 233) hx hb dX2_count_220 rfl (fun h9 => absurd h9 (by decide : ¬ nI 6 ≤ 0)) (fun _ => ?_)
  refine lv_iload_n hx hb dX2_count_223 rfl (lv_at hl 3 rfl) ?_
  refine lv_bipush (v := nI 7) hx hb dX2_count_224 (by decide) ?_
  refine lv_icmp_ge (tgt := 233) hx hb dX2_count_226 rfl (fun h9 => absurd h9 (by decide : ¬ nI 7 ≤ nI 6)) (fun _ => ?_)
  refine lv_iload_n hx hb dX2_count_229 rfl (lv_at hl 1 rfl) ?_
  refine lv_goto (tgt := 234) hx hb dX2_count_230 rfl ?_
  exact ret w rfl dX2_count_234

set_option maxHeartbeats 4000000 in
set_option maxRecDepth 100000 in
theorem c_X2_count_1 {l : Launch} {E : En} {M : Mt} {z t f : Nat} (dn : dM E) (hb6 : b01 M 6) (ok : okN M z) : MI2 l yX2_count (.code yX2_count cX2_count 7 (some .int)) 2 46 E [.ref (ad E 0), .int (nI 1)] M z t f (nI (cnF (fun j => decide (¬ ctH M z 6 j = 0)) z 0 0)) (ctH M z) z 0 f := by
  refine MI2.of dn (own := RX2) (by decide) rfl (Nat.le_of_ble_eq_true rfl) (fun p e s m args below meth c ls Q K w hl ret => ?_)
  have hx := K.1.1
  have hb := K.1.2.1
  have hR : 2 ≤ (rmA 2 46).frames ∧ 46 ≤ (rmA 2 46).locals := ⟨Nat.le_refl _, Nat.le_refl _⟩
  have hf : 0 ≤ (rmA 2 46).cells ∧ 0 ≤ (rmA 2 46).slots := ⟨Nat.le_refl _, Nat.le_refl _⟩
  have hl : lv_has ls 7 [(0, .ref (ad E 0)), (1, .int (nI 1))] := hl
  refine lv_aload_n hx hb dX2_count_0 rfl (lv_at hl 0 rfl) ?_
  refine lv_iconst (v := nI 0) hx hb dX2_count_1 (by decide) ?_
  refine pf_X2_thrown K w rfl dX2_count_2 (fun H locs w => ?_)
  refine lv_aload_n hx hb dX2_count_5 rfl (lv_at hl 0 rfl) ?_
  refine lv_iconst (v := nI 0) hx hb dX2_count_6 (by decide) ?_
  refine lv_aload_n hx hb dX2_count_7 rfl (lv_at hl 0 rfl) ?_
  refine gf_X2_one K w dX2_count_8 ?_
  refine callv2 K w (c_X2_held dn rwB7 (by decide) (by decide) (by decide) (by decide) hb6 ok) (lk_X2_87 K ⟨Nat.le_trans (Nat.le_of_ble_eq_true rfl) hR.1, Nat.le_trans (Nat.le_of_ble_eq_true rfl) hR.2⟩) (recvM K w) rfl hl.1 rfl (Nat.le_of_ble_eq_true rfl) dX2_count_11 hf (fun H locs w => ?_)
  refine lv_aload_n hx hb dX2_count_14 rfl (lv_at hl 0 rfl) ?_
  refine lv_iconst (v := nI 1) hx hb dX2_count_15 (by decide) ?_
  refine lv_aload_n hx hb dX2_count_16 rfl (lv_at hl 0 rfl) ?_
  refine gf_X2_other K w dX2_count_17 ?_
  refine callv2 K w (c_X2_held dn rwB8 (by decide) (by decide) (by decide) (by decide) (by intro j; rw [hdR_row (by decide)]; exact hb6 j) (ok.rows (hdR_row (by decide)) (hdR_row (by decide)))) (lk_X2_87 K ⟨Nat.le_trans (Nat.le_of_ble_eq_true rfl) hR.1, Nat.le_trans (Nat.le_of_ble_eq_true rfl) hR.2⟩) (recvM K w) rfl hl.1 rfl (Nat.le_of_ble_eq_true rfl) dX2_count_20 hf (fun H locs w => ?_)
  have ok0 : okN (ctH M z) z := ok.rows (ctH_row (by decide) (by decide)) (ctH_row (by decide) (by decide))
  refine lv_iconst (v := nI 0) hx hb dX2_count_23 (by decide) ?_
  refine lv_istore_n (lv' := [(2, .int _), (0, .ref _), (1, .int _)]) hx hb dX2_count_24 rfl hl (by decide) rfl (fun ls hl => ?_)
  refine lv_iconst (v := nI 0) hx hb dX2_count_25 (by decide) ?_
  refine lv_istore_n (lv' := [(3, .int _), (2, .int _), (0, .ref _), (1, .int _)]) hx hb dX2_count_26 rfl hl (by decide) rfl (fun ls hl => ?_)
  refine lv_iconst (v := nI 0) hx hb dX2_count_27 (by decide) ?_
  refine lv_istore (lv' := [(4, .int _), (3, .int _), (2, .int _), (0, .ref _), (1, .int _)]) hx hb dX2_count_28 hl (by decide) rfl (fun ls hl => ?_)
  refine lp_ct_1 K ⟨Nat.le_trans (Nat.le_of_ble_eq_true rfl) hR.1, Nat.le_trans (Nat.le_of_ble_eq_true rfl) hR.2⟩ hf ok0 (fun H locs ls w hl => ?_) z 0 0 _ _ _ (by omega) rfl w (lv_sub hl [0, 1, 2, 3, 4] rfl)
  refine lv_iload_n hx hb dX2_count_201 rfl (lv_at hl 3 rfl) ?_
  refine lv_if_ne (tgt := 210) hx hb dX2_count_202 rfl (fun _ => ?_) (fun h9 => absurd h9 (by decide : ¬ nI 1 = 0))
  refine lv_iload_n hx hb dX2_count_210 rfl (lv_at hl 3 rfl) ?_
  refine lv_iconst (v := nI 3) hx hb dX2_count_211 (by decide) ?_
  refine lv_icmp_ne (tgt := 219) hx hb dX2_count_212 rfl (fun _ => ?_) (fun h9 => absurd h9 (by decide : ¬ nI 1 = nI 3))
  refine lv_iload_n hx hb dX2_count_219 rfl (lv_at hl 3 rfl) ?_
  refine lv_if_le (tgt := 233) hx hb dX2_count_220 rfl (fun h9 => absurd h9 (by decide : ¬ nI 1 ≤ 0)) (fun _ => ?_)
  refine lv_iload_n hx hb dX2_count_223 rfl (lv_at hl 3 rfl) ?_
  refine lv_bipush (v := nI 7) hx hb dX2_count_224 (by decide) ?_
  refine lv_icmp_ge (tgt := 233) hx hb dX2_count_226 rfl (fun h9 => absurd h9 (by decide : ¬ nI 7 ≤ nI 1)) (fun _ => ?_)
  refine lv_iload_n hx hb dX2_count_229 rfl (lv_at hl 1 rfl) ?_
  refine lv_goto (tgt := 234) hx hb dX2_count_230 rfl ?_
  exact ret w rfl dX2_count_234

set_option maxHeartbeats 4000000 in
set_option maxRecDepth 100000 in
theorem c_X2_count_2 {l : Launch} {E : En} {M : Mt} {z t f : Nat} (dn : dM E) (hb6 : b01 M 6) (ok : okN M z) : MI2 l yX2_count (.code yX2_count cX2_count 7 (some .int)) 2 46 E [.ref (ad E 0), .int (nI 2)] M z t f (nI (cnF (fun j => decide (¬ ctH M z 6 (2000 + j) = 0)) z 0 0)) (ctH M z) z 0 f := by
  refine MI2.of dn (own := RX2) (by decide) rfl (Nat.le_of_ble_eq_true rfl) (fun p e s m args below meth c ls Q K w hl ret => ?_)
  have hx := K.1.1
  have hb := K.1.2.1
  have hR : 2 ≤ (rmA 2 46).frames ∧ 46 ≤ (rmA 2 46).locals := ⟨Nat.le_refl _, Nat.le_refl _⟩
  have hf : 0 ≤ (rmA 2 46).cells ∧ 0 ≤ (rmA 2 46).slots := ⟨Nat.le_refl _, Nat.le_refl _⟩
  have hl : lv_has ls 7 [(0, .ref (ad E 0)), (1, .int (nI 2))] := hl
  refine lv_aload_n hx hb dX2_count_0 rfl (lv_at hl 0 rfl) ?_
  refine lv_iconst (v := nI 0) hx hb dX2_count_1 (by decide) ?_
  refine pf_X2_thrown K w rfl dX2_count_2 (fun H locs w => ?_)
  refine lv_aload_n hx hb dX2_count_5 rfl (lv_at hl 0 rfl) ?_
  refine lv_iconst (v := nI 0) hx hb dX2_count_6 (by decide) ?_
  refine lv_aload_n hx hb dX2_count_7 rfl (lv_at hl 0 rfl) ?_
  refine gf_X2_one K w dX2_count_8 ?_
  refine callv2 K w (c_X2_held dn rwB7 (by decide) (by decide) (by decide) (by decide) hb6 ok) (lk_X2_87 K ⟨Nat.le_trans (Nat.le_of_ble_eq_true rfl) hR.1, Nat.le_trans (Nat.le_of_ble_eq_true rfl) hR.2⟩) (recvM K w) rfl hl.1 rfl (Nat.le_of_ble_eq_true rfl) dX2_count_11 hf (fun H locs w => ?_)
  refine lv_aload_n hx hb dX2_count_14 rfl (lv_at hl 0 rfl) ?_
  refine lv_iconst (v := nI 1) hx hb dX2_count_15 (by decide) ?_
  refine lv_aload_n hx hb dX2_count_16 rfl (lv_at hl 0 rfl) ?_
  refine gf_X2_other K w dX2_count_17 ?_
  refine callv2 K w (c_X2_held dn rwB8 (by decide) (by decide) (by decide) (by decide) (by intro j; rw [hdR_row (by decide)]; exact hb6 j) (ok.rows (hdR_row (by decide)) (hdR_row (by decide)))) (lk_X2_87 K ⟨Nat.le_trans (Nat.le_of_ble_eq_true rfl) hR.1, Nat.le_trans (Nat.le_of_ble_eq_true rfl) hR.2⟩) (recvM K w) rfl hl.1 rfl (Nat.le_of_ble_eq_true rfl) dX2_count_20 hf (fun H locs w => ?_)
  have ok0 : okN (ctH M z) z := ok.rows (ctH_row (by decide) (by decide)) (ctH_row (by decide) (by decide))
  refine lv_iconst (v := nI 0) hx hb dX2_count_23 (by decide) ?_
  refine lv_istore_n (lv' := [(2, .int _), (0, .ref _), (1, .int _)]) hx hb dX2_count_24 rfl hl (by decide) rfl (fun ls hl => ?_)
  refine lv_iconst (v := nI 0) hx hb dX2_count_25 (by decide) ?_
  refine lv_istore_n (lv' := [(3, .int _), (2, .int _), (0, .ref _), (1, .int _)]) hx hb dX2_count_26 rfl hl (by decide) rfl (fun ls hl => ?_)
  refine lv_iconst (v := nI 0) hx hb dX2_count_27 (by decide) ?_
  refine lv_istore (lv' := [(4, .int _), (3, .int _), (2, .int _), (0, .ref _), (1, .int _)]) hx hb dX2_count_28 hl (by decide) rfl (fun ls hl => ?_)
  refine lp_ct_2 K ⟨Nat.le_trans (Nat.le_of_ble_eq_true rfl) hR.1, Nat.le_trans (Nat.le_of_ble_eq_true rfl) hR.2⟩ hf ok0 (fun H locs ls w hl => ?_) z 0 0 _ _ _ (by omega) rfl w (lv_sub hl [0, 1, 2, 3, 4] rfl)
  refine lv_iload_n hx hb dX2_count_201 rfl (lv_at hl 3 rfl) ?_
  refine lv_if_ne (tgt := 210) hx hb dX2_count_202 rfl (fun _ => ?_) (fun h9 => absurd h9 (by decide : ¬ nI 2 = 0))
  refine lv_iload_n hx hb dX2_count_210 rfl (lv_at hl 3 rfl) ?_
  refine lv_iconst (v := nI 3) hx hb dX2_count_211 (by decide) ?_
  refine lv_icmp_ne (tgt := 219) hx hb dX2_count_212 rfl (fun _ => ?_) (fun h9 => absurd h9 (by decide : ¬ nI 2 = nI 3))
  refine lv_iload_n hx hb dX2_count_219 rfl (lv_at hl 3 rfl) ?_
  refine lv_if_le (tgt := 233) hx hb dX2_count_220 rfl (fun h9 => absurd h9 (by decide : ¬ nI 2 ≤ 0)) (fun _ => ?_)
  refine lv_iload_n hx hb dX2_count_223 rfl (lv_at hl 3 rfl) ?_
  refine lv_bipush (v := nI 7) hx hb dX2_count_224 (by decide) ?_
  refine lv_icmp_ge (tgt := 233) hx hb dX2_count_226 rfl (fun h9 => absurd h9 (by decide : ¬ nI 7 ≤ nI 2)) (fun _ => ?_)
  refine lv_iload_n hx hb dX2_count_229 rfl (lv_at hl 1 rfl) ?_
  refine lv_goto (tgt := 234) hx hb dX2_count_230 rfl ?_
  exact ret w rfl dX2_count_234

set_option maxHeartbeats 4000000 in
set_option maxRecDepth 100000 in
theorem c_X2_count_4 {l : Launch} {E : En} {M : Mt} {z t f : Nat} (dn : dM E) (hb6 : b01 M 6) (ok : okN M z) : MI2 l yX2_count (.code yX2_count cX2_count 7 (some .int)) 2 46 E [.ref (ad E 0), .int (nI 4)] M z t f (nI (cnF (fun j => !(iaF (ctH M z) j z 0)) z 0 0)) (ctH M z) z 0 f := by
  refine MI2.of dn (own := RX2) (by decide) rfl (Nat.le_of_ble_eq_true rfl) (fun p e s m args below meth c ls Q K w hl ret => ?_)
  have hx := K.1.1
  have hb := K.1.2.1
  have hR : 2 ≤ (rmA 2 46).frames ∧ 46 ≤ (rmA 2 46).locals := ⟨Nat.le_refl _, Nat.le_refl _⟩
  have hf : 0 ≤ (rmA 2 46).cells ∧ 0 ≤ (rmA 2 46).slots := ⟨Nat.le_refl _, Nat.le_refl _⟩
  have hl : lv_has ls 7 [(0, .ref (ad E 0)), (1, .int (nI 4))] := hl
  refine lv_aload_n hx hb dX2_count_0 rfl (lv_at hl 0 rfl) ?_
  refine lv_iconst (v := nI 0) hx hb dX2_count_1 (by decide) ?_
  refine pf_X2_thrown K w rfl dX2_count_2 (fun H locs w => ?_)
  refine lv_aload_n hx hb dX2_count_5 rfl (lv_at hl 0 rfl) ?_
  refine lv_iconst (v := nI 0) hx hb dX2_count_6 (by decide) ?_
  refine lv_aload_n hx hb dX2_count_7 rfl (lv_at hl 0 rfl) ?_
  refine gf_X2_one K w dX2_count_8 ?_
  refine callv2 K w (c_X2_held dn rwB7 (by decide) (by decide) (by decide) (by decide) hb6 ok) (lk_X2_87 K ⟨Nat.le_trans (Nat.le_of_ble_eq_true rfl) hR.1, Nat.le_trans (Nat.le_of_ble_eq_true rfl) hR.2⟩) (recvM K w) rfl hl.1 rfl (Nat.le_of_ble_eq_true rfl) dX2_count_11 hf (fun H locs w => ?_)
  refine lv_aload_n hx hb dX2_count_14 rfl (lv_at hl 0 rfl) ?_
  refine lv_iconst (v := nI 1) hx hb dX2_count_15 (by decide) ?_
  refine lv_aload_n hx hb dX2_count_16 rfl (lv_at hl 0 rfl) ?_
  refine gf_X2_other K w dX2_count_17 ?_
  refine callv2 K w (c_X2_held dn rwB8 (by decide) (by decide) (by decide) (by decide) (by intro j; rw [hdR_row (by decide)]; exact hb6 j) (ok.rows (hdR_row (by decide)) (hdR_row (by decide)))) (lk_X2_87 K ⟨Nat.le_trans (Nat.le_of_ble_eq_true rfl) hR.1, Nat.le_trans (Nat.le_of_ble_eq_true rfl) hR.2⟩) (recvM K w) rfl hl.1 rfl (Nat.le_of_ble_eq_true rfl) dX2_count_20 hf (fun H locs w => ?_)
  have ok0 : okN (ctH M z) z := ok.rows (ctH_row (by decide) (by decide)) (ctH_row (by decide) (by decide))
  refine lv_iconst (v := nI 0) hx hb dX2_count_23 (by decide) ?_
  refine lv_istore_n (lv' := [(2, .int _), (0, .ref _), (1, .int _)]) hx hb dX2_count_24 rfl hl (by decide) rfl (fun ls hl => ?_)
  refine lv_iconst (v := nI 0) hx hb dX2_count_25 (by decide) ?_
  refine lv_istore_n (lv' := [(3, .int _), (2, .int _), (0, .ref _), (1, .int _)]) hx hb dX2_count_26 rfl hl (by decide) rfl (fun ls hl => ?_)
  refine lv_iconst (v := nI 0) hx hb dX2_count_27 (by decide) ?_
  refine lv_istore (lv' := [(4, .int _), (3, .int _), (2, .int _), (0, .ref _), (1, .int _)]) hx hb dX2_count_28 hl (by decide) rfl (fun ls hl => ?_)
  refine lp_ct_4 K ⟨Nat.le_trans (Nat.le_of_ble_eq_true rfl) hR.1, Nat.le_trans (Nat.le_of_ble_eq_true rfl) hR.2⟩ hf ok0 (fun H locs ls w hl => ?_) z 0 0 _ _ _ (by omega) rfl w (lv_sub hl [0, 1, 2, 3, 4] rfl)
  refine lv_iload_n hx hb dX2_count_201 rfl (lv_at hl 3 rfl) ?_
  refine lv_if_ne (tgt := 210) hx hb dX2_count_202 rfl (fun _ => ?_) (fun h9 => absurd h9 (by decide : ¬ nI 4 = 0))
  refine lv_iload_n hx hb dX2_count_210 rfl (lv_at hl 3 rfl) ?_
  refine lv_iconst (v := nI 3) hx hb dX2_count_211 (by decide) ?_
  refine lv_icmp_ne (tgt := 219) hx hb dX2_count_212 rfl (fun _ => ?_) (fun h9 => absurd h9 (by decide : ¬ nI 4 = nI 3))
  refine lv_iload_n hx hb dX2_count_219 rfl (lv_at hl 3 rfl) ?_
  refine lv_if_le (tgt := 233) hx hb dX2_count_220 rfl (fun h9 => absurd h9 (by decide : ¬ nI 4 ≤ 0)) (fun _ => ?_)
  refine lv_iload_n hx hb dX2_count_223 rfl (lv_at hl 3 rfl) ?_
  refine lv_bipush (v := nI 7) hx hb dX2_count_224 (by decide) ?_
  refine lv_icmp_ge (tgt := 233) hx hb dX2_count_226 rfl (fun h9 => absurd h9 (by decide : ¬ nI 7 ≤ nI 4)) (fun _ => ?_)
  refine lv_iload_n hx hb dX2_count_229 rfl (lv_at hl 1 rfl) ?_
  refine lv_goto (tgt := 234) hx hb dX2_count_230 rfl ?_
  exact ret w rfl dX2_count_234

set_option maxHeartbeats 4000000 in
set_option maxRecDepth 100000 in
theorem c_X2_count_5 {l : Launch} {E : En} {M : Mt} {z t f : Nat} (dn : dM E) (hb6 : b01 M 6) (ok : okN M z) : MI2 l yX2_count (.code yX2_count cX2_count 7 (some .int)) 2 46 E [.ref (ad E 0), .int (nI 5)] M z t f (nI (cnF (fun j => decide (¬ ctH M z 7 j = 0 ∧ ¬ ctH M z 8 j = 0)) z 0 0)) (ctH M z) z 0 f := by
  refine MI2.of dn (own := RX2) (by decide) rfl (Nat.le_of_ble_eq_true rfl) (fun p e s m args below meth c ls Q K w hl ret => ?_)
  have hx := K.1.1
  have hb := K.1.2.1
  have hR : 2 ≤ (rmA 2 46).frames ∧ 46 ≤ (rmA 2 46).locals := ⟨Nat.le_refl _, Nat.le_refl _⟩
  have hf : 0 ≤ (rmA 2 46).cells ∧ 0 ≤ (rmA 2 46).slots := ⟨Nat.le_refl _, Nat.le_refl _⟩
  have hl : lv_has ls 7 [(0, .ref (ad E 0)), (1, .int (nI 5))] := hl
  refine lv_aload_n hx hb dX2_count_0 rfl (lv_at hl 0 rfl) ?_
  refine lv_iconst (v := nI 0) hx hb dX2_count_1 (by decide) ?_
  refine pf_X2_thrown K w rfl dX2_count_2 (fun H locs w => ?_)
  refine lv_aload_n hx hb dX2_count_5 rfl (lv_at hl 0 rfl) ?_
  refine lv_iconst (v := nI 0) hx hb dX2_count_6 (by decide) ?_
  refine lv_aload_n hx hb dX2_count_7 rfl (lv_at hl 0 rfl) ?_
  refine gf_X2_one K w dX2_count_8 ?_
  refine callv2 K w (c_X2_held dn rwB7 (by decide) (by decide) (by decide) (by decide) hb6 ok) (lk_X2_87 K ⟨Nat.le_trans (Nat.le_of_ble_eq_true rfl) hR.1, Nat.le_trans (Nat.le_of_ble_eq_true rfl) hR.2⟩) (recvM K w) rfl hl.1 rfl (Nat.le_of_ble_eq_true rfl) dX2_count_11 hf (fun H locs w => ?_)
  refine lv_aload_n hx hb dX2_count_14 rfl (lv_at hl 0 rfl) ?_
  refine lv_iconst (v := nI 1) hx hb dX2_count_15 (by decide) ?_
  refine lv_aload_n hx hb dX2_count_16 rfl (lv_at hl 0 rfl) ?_
  refine gf_X2_other K w dX2_count_17 ?_
  refine callv2 K w (c_X2_held dn rwB8 (by decide) (by decide) (by decide) (by decide) (by intro j; rw [hdR_row (by decide)]; exact hb6 j) (ok.rows (hdR_row (by decide)) (hdR_row (by decide)))) (lk_X2_87 K ⟨Nat.le_trans (Nat.le_of_ble_eq_true rfl) hR.1, Nat.le_trans (Nat.le_of_ble_eq_true rfl) hR.2⟩) (recvM K w) rfl hl.1 rfl (Nat.le_of_ble_eq_true rfl) dX2_count_20 hf (fun H locs w => ?_)
  have ok0 : okN (ctH M z) z := ok.rows (ctH_row (by decide) (by decide)) (ctH_row (by decide) (by decide))
  refine lv_iconst (v := nI 0) hx hb dX2_count_23 (by decide) ?_
  refine lv_istore_n (lv' := [(2, .int _), (0, .ref _), (1, .int _)]) hx hb dX2_count_24 rfl hl (by decide) rfl (fun ls hl => ?_)
  refine lv_iconst (v := nI 0) hx hb dX2_count_25 (by decide) ?_
  refine lv_istore_n (lv' := [(3, .int _), (2, .int _), (0, .ref _), (1, .int _)]) hx hb dX2_count_26 rfl hl (by decide) rfl (fun ls hl => ?_)
  refine lv_iconst (v := nI 0) hx hb dX2_count_27 (by decide) ?_
  refine lv_istore (lv' := [(4, .int _), (3, .int _), (2, .int _), (0, .ref _), (1, .int _)]) hx hb dX2_count_28 hl (by decide) rfl (fun ls hl => ?_)
  refine lp_ct_5 K ⟨Nat.le_trans (Nat.le_of_ble_eq_true rfl) hR.1, Nat.le_trans (Nat.le_of_ble_eq_true rfl) hR.2⟩ hf ok0 (fun H locs ls w hl => ?_) z 0 0 _ _ _ (by omega) rfl w (lv_sub hl [0, 1, 2, 3, 4] rfl)
  refine lv_iload_n hx hb dX2_count_201 rfl (lv_at hl 3 rfl) ?_
  refine lv_if_ne (tgt := 210) hx hb dX2_count_202 rfl (fun _ => ?_) (fun h9 => absurd h9 (by decide : ¬ nI 5 = 0))
  refine lv_iload_n hx hb dX2_count_210 rfl (lv_at hl 3 rfl) ?_
  refine lv_iconst (v := nI 3) hx hb dX2_count_211 (by decide) ?_
  refine lv_icmp_ne (tgt := 219) hx hb dX2_count_212 rfl (fun _ => ?_) (fun h9 => absurd h9 (by decide : ¬ nI 5 = nI 3))
  refine lv_iload_n hx hb dX2_count_219 rfl (lv_at hl 3 rfl) ?_
  refine lv_if_le (tgt := 233) hx hb dX2_count_220 rfl (fun h9 => absurd h9 (by decide : ¬ nI 5 ≤ 0)) (fun _ => ?_)
  refine lv_iload_n hx hb dX2_count_223 rfl (lv_at hl 3 rfl) ?_
  refine lv_bipush (v := nI 7) hx hb dX2_count_224 (by decide) ?_
  refine lv_icmp_ge (tgt := 233) hx hb dX2_count_226 rfl (fun h9 => absurd h9 (by decide : ¬ nI 7 ≤ nI 5)) (fun _ => ?_)
  refine lv_iload_n hx hb dX2_count_229 rfl (lv_at hl 1 rfl) ?_
  refine lv_goto (tgt := 234) hx hb dX2_count_230 rfl ?_
  exact ret w rfl dX2_count_234

set_option maxHeartbeats 4000000 in
set_option maxRecDepth 100000 in
theorem c_X2_count_3 {l : Launch} {E : En} {M : Mt} {z t f : Nat} (dn : dM E) (hb6 : b01 M 6) (ok : okN M z) : MI2 l yX2_count (.code yX2_count cX2_count 7 (some .int)) 2 46 E [.ref (ad E 0), .int (nI 3)] M z t f ((cgF z 0 (ctH M z, nI 0)).2) (cgF z 0 (ctH M z, nI 0)).1 z 0 f := by
  refine MI2.of dn (own := RX2) (by decide) rfl (Nat.le_of_ble_eq_true rfl) (fun p e s m args below meth c ls Q K w hl ret => ?_)
  have hx := K.1.1
  have hb := K.1.2.1
  have hR : 2 ≤ (rmA 2 46).frames ∧ 46 ≤ (rmA 2 46).locals := ⟨Nat.le_refl _, Nat.le_refl _⟩
  have hf : 0 ≤ (rmA 2 46).cells ∧ 0 ≤ (rmA 2 46).slots := ⟨Nat.le_refl _, Nat.le_refl _⟩
  have hl : lv_has ls 7 [(0, .ref (ad E 0)), (1, .int (nI 3))] := hl
  refine lv_aload_n hx hb dX2_count_0 rfl (lv_at hl 0 rfl) ?_
  refine lv_iconst (v := nI 0) hx hb dX2_count_1 (by decide) ?_
  refine pf_X2_thrown K w rfl dX2_count_2 (fun H locs w => ?_)
  refine lv_aload_n hx hb dX2_count_5 rfl (lv_at hl 0 rfl) ?_
  refine lv_iconst (v := nI 0) hx hb dX2_count_6 (by decide) ?_
  refine lv_aload_n hx hb dX2_count_7 rfl (lv_at hl 0 rfl) ?_
  refine gf_X2_one K w dX2_count_8 ?_
  refine callv2 K w (c_X2_held dn rwB7 (by decide) (by decide) (by decide) (by decide) hb6 ok) (lk_X2_87 K ⟨Nat.le_trans (Nat.le_of_ble_eq_true rfl) hR.1, Nat.le_trans (Nat.le_of_ble_eq_true rfl) hR.2⟩) (recvM K w) rfl hl.1 rfl (Nat.le_of_ble_eq_true rfl) dX2_count_11 hf (fun H locs w => ?_)
  refine lv_aload_n hx hb dX2_count_14 rfl (lv_at hl 0 rfl) ?_
  refine lv_iconst (v := nI 1) hx hb dX2_count_15 (by decide) ?_
  refine lv_aload_n hx hb dX2_count_16 rfl (lv_at hl 0 rfl) ?_
  refine gf_X2_other K w dX2_count_17 ?_
  refine callv2 K w (c_X2_held dn rwB8 (by decide) (by decide) (by decide) (by decide) (by intro j; rw [hdR_row (by decide)]; exact hb6 j) (ok.rows (hdR_row (by decide)) (hdR_row (by decide)))) (lk_X2_87 K ⟨Nat.le_trans (Nat.le_of_ble_eq_true rfl) hR.1, Nat.le_trans (Nat.le_of_ble_eq_true rfl) hR.2⟩) (recvM K w) rfl hl.1 rfl (Nat.le_of_ble_eq_true rfl) dX2_count_20 hf (fun H locs w => ?_)
  have ok0 : okN (ctH M z) z := ok.rows (ctH_row (by decide) (by decide)) (ctH_row (by decide) (by decide))
  refine lv_iconst (v := nI 0) hx hb dX2_count_23 (by decide) ?_
  refine lv_istore_n (lv' := [(2, .int _), (0, .ref _), (1, .int _)]) hx hb dX2_count_24 rfl hl (by decide) rfl (fun ls hl => ?_)
  refine lv_iconst (v := nI 0) hx hb dX2_count_25 (by decide) ?_
  refine lv_istore_n (lv' := [(3, .int _), (2, .int _), (0, .ref _), (1, .int _)]) hx hb dX2_count_26 rfl hl (by decide) rfl (fun ls hl => ?_)
  refine lv_iconst (v := nI 0) hx hb dX2_count_27 (by decide) ?_
  refine lv_istore (lv' := [(4, .int _), (3, .int _), (2, .int _), (0, .ref _), (1, .int _)]) hx hb dX2_count_28 hl (by decide) rfl (fun ls hl => ?_)
  refine lp_ct_3 K ⟨Nat.le_trans (Nat.le_of_ble_eq_true rfl) hR.1, Nat.le_trans (Nat.le_of_ble_eq_true rfl) hR.2⟩ hf (fun H locs ls w hl => ?_) z 0 (ctH M z) (nI 0) _ _ _ (by omega) ok0 rfl w (lv_sub hl [0, 1, 2, 3, 4] rfl)
  refine lv_iload_n hx hb dX2_count_201 rfl (lv_at hl 3 rfl) ?_
  refine lv_if_ne (tgt := 210) hx hb dX2_count_202 rfl (fun _ => ?_) (fun h9 => absurd h9 (by decide : ¬ nI 3 = 0))
  refine lv_iload_n hx hb dX2_count_210 rfl (lv_at hl 3 rfl) ?_
  refine lv_iconst (v := nI 3) hx hb dX2_count_211 (by decide) ?_
  refine lv_icmp_ne (tgt := 219) hx hb dX2_count_212 rfl (fun h9 => absurd (rfl : nI 3 = nI 3) h9) (fun _ => ?_)
  refine lv_iload_n hx hb dX2_count_215 rfl (lv_at hl 0 rfl) ?_
  refine lv_goto (tgt := 234) hx hb dX2_count_216 rfl ?_
  exact ret w rfl dX2_count_234

set_option maxHeartbeats 4000000 in
set_option maxRecDepth 100000 in
theorem c_X2_count_o {l : Launch} {E : En} {M : Mt} {z t f : Nat} (dn : dM E) {x1 : Int32} (hx0 : ¬ x1 = 0) (hx1 : ¬ x1 = nI 1) (hx2 : ¬ x1 = nI 2) (hx4 : ¬ x1 = nI 4) (hx5 : ¬ x1 = nI 5) (hx3 : ¬ x1 = nI 3) (hx6 : ¬ x1 = nI 6) (hxr : x1 ≤ 0 ∨ nI 7 ≤ x1) (hb6 : b01 M 6) (ok : okN M z) : MI2 l yX2_count (.code yX2_count cX2_count 7 (some .int)) 2 46 E [.ref (ad E 0), .int x1] M z t f (-1) (ctH M z) z 0 f := by
  refine MI2.of dn (own := RX2) (by decide) rfl (Nat.le_of_ble_eq_true rfl) (fun p e s m args below meth c ls Q K w hl ret => ?_)
  have hx := K.1.1
  have hb := K.1.2.1
  have hR : 2 ≤ (rmA 2 46).frames ∧ 46 ≤ (rmA 2 46).locals := ⟨Nat.le_refl _, Nat.le_refl _⟩
  have hf : 0 ≤ (rmA 2 46).cells ∧ 0 ≤ (rmA 2 46).slots := ⟨Nat.le_refl _, Nat.le_refl _⟩
  have hl : lv_has ls 7 [(0, .ref (ad E 0)), (1, .int x1)] := hl
  refine lv_aload_n hx hb dX2_count_0 rfl (lv_at hl 0 rfl) ?_
  refine lv_iconst (v := nI 0) hx hb dX2_count_1 (by decide) ?_
  refine pf_X2_thrown K w rfl dX2_count_2 (fun H locs w => ?_)
  refine lv_aload_n hx hb dX2_count_5 rfl (lv_at hl 0 rfl) ?_
  refine lv_iconst (v := nI 0) hx hb dX2_count_6 (by decide) ?_
  refine lv_aload_n hx hb dX2_count_7 rfl (lv_at hl 0 rfl) ?_
  refine gf_X2_one K w dX2_count_8 ?_
  refine callv2 K w (c_X2_held dn rwB7 (by decide) (by decide) (by decide) (by decide) hb6 ok) (lk_X2_87 K ⟨Nat.le_trans (Nat.le_of_ble_eq_true rfl) hR.1, Nat.le_trans (Nat.le_of_ble_eq_true rfl) hR.2⟩) (recvM K w) rfl hl.1 rfl (Nat.le_of_ble_eq_true rfl) dX2_count_11 hf (fun H locs w => ?_)
  refine lv_aload_n hx hb dX2_count_14 rfl (lv_at hl 0 rfl) ?_
  refine lv_iconst (v := nI 1) hx hb dX2_count_15 (by decide) ?_
  refine lv_aload_n hx hb dX2_count_16 rfl (lv_at hl 0 rfl) ?_
  refine gf_X2_other K w dX2_count_17 ?_
  refine callv2 K w (c_X2_held dn rwB8 (by decide) (by decide) (by decide) (by decide) (by intro j; rw [hdR_row (by decide)]; exact hb6 j) (ok.rows (hdR_row (by decide)) (hdR_row (by decide)))) (lk_X2_87 K ⟨Nat.le_trans (Nat.le_of_ble_eq_true rfl) hR.1, Nat.le_trans (Nat.le_of_ble_eq_true rfl) hR.2⟩) (recvM K w) rfl hl.1 rfl (Nat.le_of_ble_eq_true rfl) dX2_count_20 hf (fun H locs w => ?_)
  have ok0 : okN (ctH M z) z := ok.rows (ctH_row (by decide) (by decide)) (ctH_row (by decide) (by decide))
  refine lv_iconst (v := nI 0) hx hb dX2_count_23 (by decide) ?_
  refine lv_istore_n (lv' := [(2, .int _), (0, .ref _), (1, .int _)]) hx hb dX2_count_24 rfl hl (by decide) rfl (fun ls hl => ?_)
  refine lv_iconst (v := nI 0) hx hb dX2_count_25 (by decide) ?_
  refine lv_istore_n (lv' := [(3, .int _), (2, .int _), (0, .ref _), (1, .int _)]) hx hb dX2_count_26 rfl hl (by decide) rfl (fun ls hl => ?_)
  refine lv_iconst (v := nI 0) hx hb dX2_count_27 (by decide) ?_
  refine lv_istore (lv' := [(4, .int _), (3, .int _), (2, .int _), (0, .ref _), (1, .int _)]) hx hb dX2_count_28 hl (by decide) rfl (fun ls hl => ?_)
  refine lp_ct_o K ⟨Nat.le_trans (Nat.le_of_ble_eq_true rfl) hR.1, Nat.le_trans (Nat.le_of_ble_eq_true rfl) hR.2⟩ hf hx1 hx2 hx4 hx5 hx3 hx6 ok0 (fun H locs ls w hl => ?_) z 0 _ _ _ (by omega) w (lv_sub hl [0, 1, 2, 3, 4] rfl)
  refine lv_iload_n hx hb dX2_count_201 rfl (lv_at hl 3 rfl) ?_
  refine lv_if_ne (tgt := 210) hx hb dX2_count_202 rfl (fun _ => ?_) (fun h9 => absurd h9 hx0)
  refine lv_iload_n hx hb dX2_count_210 rfl (lv_at hl 3 rfl) ?_
  refine lv_iconst (v := nI 3) hx hb dX2_count_211 (by decide) ?_
  refine lv_icmp_ne (tgt := 219) hx hb dX2_count_212 rfl (fun _ => ?_) (fun h9 => absurd h9 hx3)
  by_cases h0 : x1 ≤ 0
  · refine lv_iload_n hx hb dX2_count_219 rfl (lv_at hl 3 rfl) ?_
    refine lv_if_le (tgt := 233) hx hb dX2_count_220 rfl (fun _ => ?_) (fun h9 => absurd h0 h9)
    refine lv_iconst (v := -1) hx hb dX2_count_233 (by decide) ?_
    exact ret w rfl dX2_count_234
  · refine lv_iload_n hx hb dX2_count_219 rfl (lv_at hl 3 rfl) ?_
    refine lv_if_le (tgt := 233) hx hb dX2_count_220 rfl (fun h9 => absurd h9 h0) (fun _ => ?_)
    refine lv_iload_n hx hb dX2_count_223 rfl (lv_at hl 3 rfl) ?_
    refine lv_bipush (v := nI 7) hx hb dX2_count_224 (by decide) ?_
    refine lv_icmp_ge (tgt := 233) hx hb dX2_count_226 rfl (fun _ => ?_) (fun h9 => absurd (hxr.elim (fun h => absurd h h0) id) h9)
    refine lv_iconst (v := -1) hx hb dX2_count_233 (by decide) ?_
    exact ret w rfl dX2_count_234
