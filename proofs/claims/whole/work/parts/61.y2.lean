theorem pcn_up {M : Mt} {r c : Nat} {g : Nat → Int32} (h4 : 4 ≠ r) : pcn (va_up M r g) c = pcn M c := by
  show ix (va_up M r g 4 c) = ix (M 4 c)
  rw [va_up_ne _ _ h4]
theorem par_up {M : Mt} {r c t : Nat} {g : Nat → Int32} (h5 : 5 ≠ r) : par (va_up M r g) c t = par M c t := by
  show ix (va_up M r g 5 (c * 4 + t)) = ix (M 5 (c * 4 + t))
  rw [va_up_ne _ _ h5]
theorem okN.up {M : Mt} {r n : Nat} {g : Nat → Int32} (h : okN M n) (h4 : 4 ≠ r) (h5 : 5 ≠ r) : okN (va_up M r g) n := h.rows (va_up_ne _ _ h4) (va_up_ne _ _ h5)
/-- set the parents of c: d slots from i on -/
def stF (r c : Nat) : Nat → Nat → Mt → Mt
  | 0, _, M => M
  | d + 1, i, M => stF r c d (i + 1) (va_up M r (upd (M r) (par M c i) (nI 1)))
def crF (r : Nat) : Nat → Mt → Mt
  | 0, M => M
  | c + 1, M => crF r c (if M r c = 0 then M else stF r c (pcn M c) 0 M)
theorem stF_row {r c a : Nat} (h : a ≠ r) : ∀ {d i : Nat} {M : Mt}, stF r c d i M a = M a := by
  intro d
  induction d with
  | zero => intro i M; rfl
  | succ d ih => intro i M; rw [stF, ih, va_up_ne _ _ h]
theorem crF_row {r a : Nat} (h : a ≠ r) : ∀ {q : Nat} {M : Mt}, crF r q M a = M a := by
  intro q
  induction q with
  | zero => intro M; rfl
  | succ q ih =>
    intro M
    rw [crF, ih]
    split
    · rfl
    · rw [stF_row h]
def fmF (r q : Nat) : Nat → Nat → Mt → Mt
  | 0, _, M => M
  | d + 1, i, M => fmF r q d (i + 1) (va_up M r (upd (M r) i (if i = q then nI 1 else nI 0)))
def heF (r h : Nat) : Nat → Nat → Mt → Mt
  | 0, _, M => M
  | d + 1, i, M => heF r h d (i + 1) (va_up M r (upd (M r) i (M 6 (h * 2000 + i))))
theorem fmF_row {r q a : Nat} (h : a ≠ r) : ∀ {d i : Nat} {M : Mt}, fmF r q d i M a = M a := by
  intro d
  induction d with
  | zero => intro i M; rfl
  | succ d ih => intro i M; rw [fmF, ih, va_up_ne _ _ h]
theorem heF_row {r q a : Nat} (h : a ≠ r) : ∀ {d i : Nat} {M : Mt}, heF r q d i M a = M a := by
  intro d
  induction d with
  | zero => intro i M; rfl
  | succ d ih => intro i M; rw [heF, ih, va_up_ne _ _ h]
/-- from(q, set r) and held(h, set r) -/
def frF (M : Mt) (z r q : Nat) : Mt := crF r z (fmF r q 2000 0 M)
def hdR (M : Mt) (z r h : Nat) : Mt := crF r z (heF r h 2000 0 M)
def b01 (M : Mt) (r : Nat) : Prop := ∀ j, M r j = nI 0 ∨ M r j = nI 1
def bfF (M : Mt) (x y : Nat) : Bool := if M 1 x = M 1 y then (if M 2 x = M 2 y then decide (x < y) else decide (M 2 x < M 2 y)) else decide (M 1 y < M 1 x)
theorem bf_a {M : Mt} {x y : Nat} (h : ¬ M 1 x = M 1 y) (h2 : ¬ M 1 x ≤ M 1 y) : nI 1 = bI (bfF M x y) := by
  rw [bfF, if_neg h, decide_eq_true (lt_nle h2)]; rfl
theorem bf_b {M : Mt} {x y : Nat} (h : ¬ M 1 x = M 1 y) (h2 : M 1 x ≤ M 1 y) : nI 0 = bI (bfF M x y) := by
  rw [bfF, if_neg h, decide_eq_false (nlt_le h2)]; rfl
theorem bf_c {M : Mt} {x y : Nat} (h : M 1 x = M 1 y) (h1 : ¬ M 2 x = M 2 y) (h2 : ¬ M 2 y ≤ M 2 x) : nI 1 = bI (bfF M x y) := by
  rw [bfF, if_pos h, if_neg h1, decide_eq_true (lt_nle h2)]; rfl
theorem bf_d {M : Mt} {x y : Nat} (h : M 1 x = M 1 y) (h1 : ¬ M 2 x = M 2 y) (h2 : M 2 y ≤ M 2 x) : nI 0 = bI (bfF M x y) := by
  rw [bfF, if_pos h, if_neg h1, decide_eq_false (nlt_le h2)]; rfl
theorem bf_e {M : Mt} {x y : Nat} (hx : x < 2000) (hy : y < 2000) (h : M 1 x = M 1 y) (h1 : M 2 x = M 2 y) (h2 : ¬ nI y ≤ nI x) : nI 1 = bI (bfF M x y) := by
  rw [bfF, if_pos h, if_pos h1, decide_eq_true (show x < y from Nat.not_le.mp (fun h3 => h2 ((nI_leI (by omega) (by omega)).mpr h3)))]; rfl
theorem bf_f {M : Mt} {x y : Nat} (hx : x < 2000) (hy : y < 2000) (h : M 1 x = M 1 y) (h1 : M 2 x = M 2 y) (h2 : nI y ≤ nI x) : nI 0 = bI (bfF M x y) := by
  rw [bfF, if_pos h, if_pos h1, decide_eq_false (show ¬ x < y from Nat.not_lt.mpr ((nI_leI (by omega) (by omega)).mp h2))]; rfl

section YC
variable {p : Program} {l : Launch} {e : Env} {R : Room} {s : State} {m : MethodId} {args : Array Value} {below : List Frame} {meth : Method} {c : Code} {H : Heap} {locs : List Loc} {cells slots : Nat} {Q : State → Prop} {ls : Array Slot} {w0 : Cond} {E : En} {M MF : Mt} {z t f : Nat}
set_option maxHeartbeats 4000000 in
set_option maxRecDepth 100000 in
theorem lp_clin (K : cY E p m c cX2_close 4 s args w0 RX2) (hR : 0 ≤ R.frames ∧ 0 ≤ R.locals) (hf : cells ≤ R.cells ∧ slots ≤ R.slots) {r q j : Nat} (hr : rwB r 2000) (r4 : 4 ≠ r) (r5 : 5 ≠ r) (hq : q < z) (hz0 : z = z) (kk : ∀ (H : Heap) (locs : List Loc) (ls : Array Slot), vst E s.heap MF z t f H locs → lv_has ls 4 [(2, .int (nI q)), (0, .ref (ad E 0)), (1, .ref (ad E r))] → W p l e R s m args below meth c H locs cells slots Q (F0 m 48 ls [])) : ∀ (d i : Nat) (M : Mt) (H : Heap) (locs : List Loc) (ls : Array Slot), i + d = j → okN M z → pcn M q = j → ¬ M r q = 0 → stF r q d i M = MF → vst E s.heap M z t f H locs → lv_has ls 4 [(3, .int (nI i)), (2, .int (nI q)), (0, .ref (ad E 0)), (1, .ref (ad E r))] → W p l e R s m args below meth c H locs cells slots Q (F0 m 13 ls []) := by
  have hx := K.1.1
  have hb := K.1.2.1
  intro d
  induction d with
  | zero =>
    intro i M H locs ls hi ok hj hs hm w hl
    have h4 := ok.le hq
    have hn := ok.1
    refine lv_iload_n hx hb dX2_close_13 rfl (lv_at hl 0 rfl) ?_
    refine lv_aload_n hx hb dX2_close_14 rfl (lv_at hl 2 rfl) ?_
    refine gf_X2_many K w dX2_close_15 ?_
    refine lv_iload_n hx hb dX2_close_18 rfl (lv_at hl 1 rfl) ?_
    refine ldI2 K w rwI4 (by omega) dX2_close_19 ?_
    refine topE (y := nI (pcn M q)) (ok.pc hq) ?_
    rw [hj]
    refine lv_icmp_ge (tgt := 48) hx hb dX2_close_20 rfl (fun _ => ?_) (fun h9 => absurd (nI_le (by omega) (by omega)) h9)
    exact kk _ _ _ (by rw [← hm]; exact w) (lv_sub hl [1, 2, 3] rfl)
  | succ d ih =>
    intro i M H locs ls hi ok hj hs hm w hl
    have h4 := ok.le hq
    have hn := ok.1
    have h5 := ok.lt hq (t := i) (by omega)
    refine lv_iload_n hx hb dX2_close_13 rfl (lv_at hl 0 rfl) ?_
    refine lv_aload_n hx hb dX2_close_14 rfl (lv_at hl 2 rfl) ?_
    refine gf_X2_many K w dX2_close_15 ?_
    refine lv_iload_n hx hb dX2_close_18 rfl (lv_at hl 1 rfl) ?_
    refine ldI2 K w rwI4 (by omega) dX2_close_19 ?_
    refine topE (y := nI (pcn M q)) (ok.pc hq) ?_
    rw [hj]
    refine lv_icmp_ge (tgt := 48) hx hb dX2_close_20 rfl (fun h9 => absurd h9 (nI_ge (by omega) (by omega))) (fun _ => ?_)
    refine lv_aload_n hx hb dX2_close_23 rfl (lv_at hl 3 rfl) ?_
    refine lv_iload_n hx hb dX2_close_24 rfl (lv_at hl 1 rfl) ?_
    refine ldB2 K w hr (by omega) dX2_close_25 ?_
    refine lv_if_eq (tgt := 48) hx hb dX2_close_26 rfl (fun h9 => absurd h9 hs) (fun _ => ?_)
    refine lv_aload_n hx hb dX2_close_29 rfl (lv_at hl 3 rfl) ?_
    refine lv_aload_n hx hb dX2_close_30 rfl (lv_at hl 2 rfl) ?_
    refine gf_X2_parent K w dX2_close_31 ?_
    refine lv_iload_n hx hb dX2_close_34 rfl (lv_at hl 1 rfl) ?_
    refine lv_iconst (v := nI 4) hx hb dX2_close_35 (by decide) ?_
    refine lv_imul hx hb dX2_close_36 ?_
    refine topE (y := nI (q * 4)) (pk_mul _ _) ?_
    refine lv_iload_n hx hb dX2_close_37 rfl (lv_at hl 0 rfl) ?_
    refine lv_iadd hx hb dX2_close_38 ?_
    refine topE (y := nI (q * 4 + i)) (nI_add _ _) ?_
    refine ldI2 K w rwI5 (by omega) dX2_close_39 ?_
    refine topE (y := nI (par M q i)) (ok.pr hq (by omega)) ?_
    refine lv_iconst (v := nI 1) hx hb dX2_close_40 (by decide) ?_
    refine stB2 K w hr (by omega) (by decide) dX2_close_41 (fun H locs w => ?_)
    refine lv_iinc (k := 0) (v := nI (_ + 1)) (lv' := [(3, .int _), (2, .int _), (0, .ref _), (1, .ref _)]) hx hb dX2_close_42 hl rfl (inc1 _) (by decide) rfl (fun ls hl => ?_)
    refine lv_goto (tgt := 13) hx hb dX2_close_45 rfl ?_
    exact ih (i + 1) (va_up M r (upd (M r) (par M q i) (nI 1))) _ _ _ (by omega) (ok.up r4 r5) ((pcn_up r4).trans hj) (by rw [va_up_self, pk_un (by omega)]; exact hs) hm w (lv_sub hl [0, 1, 2, 3] rfl)

set_option maxHeartbeats 4000000 in
set_option maxRecDepth 100000 in
theorem lp_cl (K : cY E p m c cX2_close 4 s args w0 RX2) (hR : 0 ≤ R.frames ∧ 0 ≤ R.locals) (hf : cells ≤ R.cells ∧ slots ≤ R.slots) {r : Nat} (hr : rwB r 2000) (r4 : 4 ≠ r) (r5 : 5 ≠ r) (ret : ∀ {H : Heap} {locs : List Loc} {pc : Nat} {ls : Array Slot}, vst E s.heap MF z t f H locs → decode cX2_close pc = .ok (.return_, 1) → W p l e R s m args below meth c H locs cells slots Q (F0 m pc ls [])) : ∀ (q : Nat) (M : Mt) (H : Heap) (locs : List Loc) (ls : Array Slot), q ≤ z → okN M z → crF r q M = MF → vst E s.heap M z t f H locs → lv_has ls 4 [(2, .int (nI q - nI 1)), (0, .ref (ad E 0)), (1, .ref (ad E r))] → W p l e R s m args below meth c H locs cells slots Q (F0 m 7 ls []) := by
  have hx := K.1.1
  have hb := K.1.2.1
  intro q
  induction q with
  | zero =>
    intro M H locs ls hq ok hm w hl
    refine lv_iload_n hx hb dX2_close_7 rfl (lv_at hl 0 rfl) ?_
    refine lv_if_lt (tgt := 54) hx hb dX2_close_8 rfl (fun _ => ?_) (fun h9 => absurd (by decide : nI 0 - nI 1 < 0) h9)
    exact ret (by rw [← hm]; exact w) dX2_close_54
  | succ q ih =>
    intro M H locs ls hq ok hm w hl
    have hl : lv_has ls 4 [(2, .int (nI q)), (0, .ref (ad E 0)), (1, .ref (ad E r))] := by
      rw [show nI (q + 1) - nI 1 = nI q from pk_sub (by omega)] at hl
      exact hl
    have hn := ok.1
    refine lv_iload_n hx hb dX2_close_7 rfl (lv_at hl 0 rfl) ?_
    refine lv_if_lt (tgt := 54) hx hb dX2_close_8 rfl (fun h9 => absurd h9 (nI_pos (by omega))) (fun _ => ?_)
    have h4 := ok.le (c := q) (by omega)
    by_cases h0 : M r q = 0
    · rw [crF, if_pos h0] at hm
      refine lv_iconst (v := nI 0) hx hb dX2_close_11 (by decide) ?_
      refine lv_istore_n (lv' := [(3, .int _), (2, .int _), (0, .ref _), (1, .ref _)]) hx hb dX2_close_12 rfl hl (by decide) rfl (fun ls hl => ?_)
      refine lv_iload_n hx hb dX2_close_13 rfl (lv_at hl 0 rfl) ?_
      refine lv_aload_n hx hb dX2_close_14 rfl (lv_at hl 2 rfl) ?_
      refine gf_X2_many K w dX2_close_15 ?_
      refine lv_iload_n hx hb dX2_close_18 rfl (lv_at hl 1 rfl) ?_
      refine ldI2 K w rwI4 (by omega) dX2_close_19 ?_
      by_cases h1 : pcn M q = 0
      · refine topE (y := nI (pcn M q)) (ok.pc (by omega)) ?_
        refine lv_icmp_ge (tgt := 48) hx hb dX2_close_20 rfl (fun _ => ?_) (fun h9 => absurd (by rw [h1]; decide) h9)
        refine lv_iinc (k := 1) (v := nI q - nI 1) (lv' := [(2, .int _), (3, .int _), (0, .ref _), (1, .ref _)]) hx hb dX2_close_48 hl rfl (decm q) (by decide) rfl (fun ls hl => ?_)
        refine lv_goto (tgt := 7) hx hb dX2_close_51 rfl ?_
        exact ih _ _ _ _ (by omega) ok hm w (lv_sub hl [0, 2, 3] rfl)
      · refine topE (y := nI (pcn M q)) (ok.pc (by omega)) ?_
        refine lv_icmp_ge (tgt := 48) hx hb dX2_close_20 rfl (fun h9 => absurd h9 (nI_ge (by omega) (by omega))) (fun _ => ?_)
        refine lv_aload_n hx hb dX2_close_23 rfl (lv_at hl 3 rfl) ?_
        refine lv_iload_n hx hb dX2_close_24 rfl (lv_at hl 1 rfl) ?_
        refine ldB2 K w hr (by omega) dX2_close_25 ?_
        refine lv_if_eq (tgt := 48) hx hb dX2_close_26 rfl (fun _ => ?_) (fun h9 => absurd h0 h9)
        refine lv_iinc (k := 1) (v := nI q - nI 1) (lv' := [(2, .int _), (3, .int _), (0, .ref _), (1, .ref _)]) hx hb dX2_close_48 hl rfl (decm q) (by decide) rfl (fun ls hl => ?_)
        refine lv_goto (tgt := 7) hx hb dX2_close_51 rfl ?_
        exact ih _ _ _ _ (by omega) ok hm w (lv_sub hl [0, 2, 3] rfl)
    · rw [crF, if_neg h0] at hm
      refine lv_iconst (v := nI 0) hx hb dX2_close_11 (by decide) ?_
      refine lv_istore_n (lv' := [(3, .int _), (2, .int _), (0, .ref _), (1, .ref _)]) hx hb dX2_close_12 rfl hl (by decide) rfl (fun ls hl => ?_)
      refine lp_clin K ⟨Nat.le_trans (Nat.le_of_ble_eq_true rfl) hR.1, Nat.le_trans (Nat.le_of_ble_eq_true rfl) hR.2⟩ hf hr r4 r5 (by omega) rfl (fun H locs ls w hl => ?_) (pcn M q) 0 M _ _ _ (by omega) ok rfl h0 rfl w (lv_sub hl [0, 1, 2, 3] rfl)
      refine lv_iinc (k := 0) (v := nI q - nI 1) (lv' := [(2, .int _), (0, .ref _), (1, .ref _)]) hx hb dX2_close_48 hl rfl (decm q) (by decide) rfl (fun ls hl => ?_)
      refine lv_goto (tgt := 7) hx hb dX2_close_51 rfl ?_
      exact ih _ _ _ _ (by omega) (ok.rows (stF_row r4) (stF_row r5)) hm w (lv_sub hl [0, 1, 2] rfl)

end YC
set_option maxHeartbeats 4000000 in
set_option maxRecDepth 100000 in
theorem c_X2_close {l : Launch} {E : En} {M : Mt} {z t f : Nat} (dn : dM E) {r : Nat} (hr : rwB r 2000) (r4 : 4 ≠ r) (r5 : 5 ≠ r) (ok : okN M z) : MV2 l yX2_close (.code yX2_close cX2_close 4 none) 0 0 E [.ref (ad E 0), .ref (ad E r)] M z t f (crF r z M) z t f := by
  refine MV2.of dn (own := RX2) (by decide) rfl (Nat.le_of_ble_eq_true rfl) (fun p e s m args below meth c ls Q K w hl ret => ?_)
  have hx := K.1.1
  have hb := K.1.2.1
  have hR : 0 ≤ (rmA 0 0).frames ∧ 0 ≤ (rmA 0 0).locals := ⟨Nat.le_refl _, Nat.le_refl _⟩
  have hf : 0 ≤ (rmA 0 0).cells ∧ 0 ≤ (rmA 0 0).slots := ⟨Nat.le_refl _, Nat.le_refl _⟩
  have hl : lv_has ls 4 [(0, .ref (ad E 0)), (1, .ref (ad E r))] := hl
  refine lv_aload_n hx hb dX2_close_0 rfl (lv_at hl 0 rfl) ?_
  refine gf_X2_size K w dX2_close_1 ?_
  refine lv_iconst (v := nI 1) hx hb dX2_close_4 (by decide) ?_
  refine lv_isub hx hb dX2_close_5 ?_
  refine lv_istore_n (lv' := [(2, .int _), (0, .ref _), (1, .ref _)]) hx hb dX2_close_6 rfl hl (by decide) rfl (fun ls hl => ?_)
  exact lp_cl K hR hf hr r4 r5 ret z M _ _ _ (Nat.le_refl _) ok rfl w hl

section YD
variable {p : Program} {l : Launch} {e : Env} {R : Room} {s : State} {m : MethodId} {args : Array Value} {below : List Frame} {meth : Method} {c : Code} {H : Heap} {locs : List Loc} {cells slots : Nat} {Q : State → Prop} {ls : Array Slot} {w0 : Cond} {E : En} {M MF : Mt} {z t f : Nat}
set_option maxHeartbeats 4000000 in
set_option maxRecDepth 100000 in
theorem lp_from (K : cY E p m c cX2_from 4 s args w0 RX2) (hR : 0 ≤ R.frames ∧ 0 ≤ R.locals) (hf : cells ≤ R.cells ∧ slots ≤ R.slots) {r q : Nat} (hr : rwB r 2000) (r4 : 4 ≠ r) (r5 : 5 ≠ r) (hq : q < 2147483648) (kk : ∀ (H : Heap) (locs : List Loc) (ls : Array Slot), vst E s.heap MF z t f H locs → lv_has ls 4 [(0, .ref (ad E 0)), (2, .ref (ad E r))] → W p l e R s m args below meth c H locs cells slots Q (F0 m 28 ls [])) : ∀ (d i : Nat) (M : Mt) (H : Heap) (locs : List Loc) (ls : Array Slot), i + d = 2000 → fmF r q d i M = MF → vst E s.heap M z t f H locs → lv_has ls 4 [(3, .int (nI i)), (0, .ref (ad E 0)), (1, .int (nI q)), (2, .ref (ad E r))] → W p l e R s m args below meth c H locs cells slots Q (F0 m 2 ls []) := by
  have hx := K.1.1
  have hb := K.1.2.1
  intro d
  induction d with
  | zero =>
    intro i M H locs ls hi hm w hl
    refine lv_iload_n hx hb dX2_from_2 rfl (lv_at hl 0 rfl) ?_
    refine lv_sipush (v := nI 2000) hx hb dX2_from_3 (by decide) ?_
    refine lv_icmp_ge (tgt := 28) hx hb dX2_from_6 rfl (fun _ => ?_) (fun h9 => absurd (nI_le (by omega) (by omega)) h9)
    exact kk _ _ _ (by rw [← hm]; exact w) (lv_sub hl [1, 3] rfl)
  | succ d ih =>
    intro i M H locs ls hi hm w hl
    refine lv_iload_n hx hb dX2_from_2 rfl (lv_at hl 0 rfl) ?_
    refine lv_sipush (v := nI 2000) hx hb dX2_from_3 (by decide) ?_
    refine lv_icmp_ge (tgt := 28) hx hb dX2_from_6 rfl (fun h9 => absurd h9 (nI_ge (by omega) (by omega))) (fun _ => ?_)
    by_cases h0 : i = q
    · rw [fmF, if_pos h0] at hm
      refine lv_aload_n hx hb dX2_from_9 rfl (lv_at hl 3 rfl) ?_
      refine lv_iload_n hx hb dX2_from_10 rfl (lv_at hl 0 rfl) ?_
      refine lv_iload_n hx hb dX2_from_11 rfl (lv_at hl 0 rfl) ?_
      refine lv_iload_n hx hb dX2_from_12 rfl (lv_at hl 2 rfl) ?_
      refine lv_icmp_ne (tgt := 20) hx hb dX2_from_13 rfl (fun h9 => absurd (by rw [h0]) h9) (fun _ => ?_)
      refine lv_iconst (v := nI 1) hx hb dX2_from_16 (by decide) ?_
      refine lv_goto (tgt := 21) hx hb dX2_from_17 rfl ?_
      refine stB2 K w hr (by omega) (by decide) dX2_from_21 (fun H locs w => ?_)
      refine lv_iinc (k := 0) (v := nI (_ + 1)) (lv' := [(3, .int _), (0, .ref _), (1, .int _), (2, .ref _)]) hx hb dX2_from_22 hl rfl (inc1 _) (by decide) rfl (fun ls hl => ?_)
      refine lv_goto (tgt := 2) hx hb dX2_from_25 rfl ?_
      exact ih (i + 1) _ _ _ _ (by omega) hm w (lv_sub hl [0, 1, 2, 3] rfl)
    · rw [fmF, if_neg h0] at hm
      refine lv_aload_n hx hb dX2_from_9 rfl (lv_at hl 3 rfl) ?_
      refine lv_iload_n hx hb dX2_from_10 rfl (lv_at hl 0 rfl) ?_
      refine lv_iload_n hx hb dX2_from_11 rfl (lv_at hl 0 rfl) ?_
      refine lv_iload_n hx hb dX2_from_12 rfl (lv_at hl 2 rfl) ?_
      refine lv_icmp_ne (tgt := 20) hx hb dX2_from_13 rfl (fun _ => ?_) (fun h9 => absurd h9 (fun h => h0 ((nI_eq (by omega) (by omega)).mp h)))
      refine lv_iconst (v := nI 0) hx hb dX2_from_20 (by decide) ?_
      refine stB2 K w hr (by omega) (by decide) dX2_from_21 (fun H locs w => ?_)
      refine lv_iinc (k := 0) (v := nI (_ + 1)) (lv' := [(3, .int _), (0, .ref _), (1, .int _), (2, .ref _)]) hx hb dX2_from_22 hl rfl (inc1 _) (by decide) rfl (fun ls hl => ?_)
      refine lv_goto (tgt := 2) hx hb dX2_from_25 rfl ?_
      exact ih (i + 1) _ _ _ _ (by omega) hm w (lv_sub hl [0, 1, 2, 3] rfl)

set_option maxHeartbeats 4000000 in
set_option maxRecDepth 100000 in
theorem lp_hold (K : cY E p m c cX2_held 4 s args w0 RX2) (hR : 0 ≤ R.frames ∧ 0 ≤ R.locals) (hf : cells ≤ R.cells ∧ slots ≤ R.slots) {r q : Nat} (hr : rwB r 2000) (r4 : 4 ≠ r) (r5 : 5 ≠ r) (r6 : 6 ≠ r) (hq : q < 2) (kk : ∀ (H : Heap) (locs : List Loc) (ls : Array Slot), vst E s.heap MF z t f H locs → lv_has ls 4 [(0, .ref (ad E 0)), (2, .ref (ad E r))] → W p l e R s m args below meth c H locs cells slots Q (F0 m 30 ls [])) : ∀ (d i : Nat) (M : Mt) (H : Heap) (locs : List Loc) (ls : Array Slot), i + d = 2000 → b01 M 6 → heF r q d i M = MF → vst E s.heap M z t f H locs → lv_has ls 4 [(3, .int (nI i)), (0, .ref (ad E 0)), (1, .int (nI q)), (2, .ref (ad E r))] → W p l e R s m args below meth c H locs cells slots Q (F0 m 2 ls []) := by
  have hx := K.1.1
  have hb := K.1.2.1
  intro d
  induction d with
  | zero =>
    intro i M H locs ls hi hb6 hm w hl
    refine lv_iload_n hx hb dX2_held_2 rfl (lv_at hl 0 rfl) ?_
    refine lv_sipush (v := nI 2000) hx hb dX2_held_3 (by decide) ?_
    refine lv_icmp_ge (tgt := 30) hx hb dX2_held_6 rfl (fun _ => ?_) (fun h9 => absurd (nI_le (by omega) (by omega)) h9)
    exact kk _ _ _ (by rw [← hm]; exact w) (lv_sub hl [1, 3] rfl)
  | succ d ih =>
    intro i M H locs ls hi hb6 hm w hl
    refine lv_iload_n hx hb dX2_held_2 rfl (lv_at hl 0 rfl) ?_
    refine lv_sipush (v := nI 2000) hx hb dX2_held_3 (by decide) ?_
    refine lv_icmp_ge (tgt := 30) hx hb dX2_held_6 rfl (fun h9 => absurd h9 (nI_ge (by omega) (by omega))) (fun _ => ?_)
    refine lv_aload_n hx hb dX2_held_9 rfl (lv_at hl 3 rfl) ?_
    refine lv_iload_n hx hb dX2_held_10 rfl (lv_at hl 0 rfl) ?_
    refine lv_aload_n hx hb dX2_held_11 rfl (lv_at hl 1 rfl) ?_
    refine gf_X2_tips K w dX2_held_12 ?_
    refine lv_iload_n hx hb dX2_held_15 rfl (lv_at hl 2 rfl) ?_
    refine lv_sipush (v := nI 2000) hx hb dX2_held_16 (by decide) ?_
    refine lv_imul hx hb dX2_held_19 ?_
    refine topE (y := nI (q * 2000)) (pk_mul _ _) ?_
    refine lv_iload_n hx hb dX2_held_20 rfl (lv_at hl 0 rfl) ?_
    refine lv_iadd hx hb dX2_held_21 ?_
    refine topE (y := nI (q * 2000 + i)) (nI_add _ _) ?_
    refine ldB2 K w rwB6 (by omega) dX2_held_22 ?_
    refine stB2 K w hr (by omega) (nar01 (hb6 _)) dX2_held_23 (fun H locs w => ?_)
    refine lv_iinc (k := 0) (v := nI (_ + 1)) (lv' := [(3, .int _), (0, .ref _), (1, .int _), (2, .ref _)]) hx hb dX2_held_24 hl rfl (inc1 _) (by decide) rfl (fun ls hl => ?_)
    refine lv_goto (tgt := 2) hx hb dX2_held_27 rfl ?_
    exact ih (i + 1) _ _ _ _ (by omega) (by intro j; rw [va_up_ne _ _ r6]; exact hb6 j) hm w (lv_sub hl [0, 1, 2, 3] rfl)

end YD
set_option maxHeartbeats 4000000 in
set_option maxRecDepth 100000 in
theorem c_X2_from {l : Launch} {E : En} {M : Mt} {z t f : Nat} (dn : dM E) {r q : Nat} (hr : rwB r 2000) (r4 : 4 ≠ r) (r5 : 5 ≠ r) (hq : q < 2147483648) (ok : okN M z) : MV2 l yX2_from (.code yX2_from cX2_from 4 none) 1 23 E [.ref (ad E 0), .int (nI q), .ref (ad E r)] M z t f (frF M z r q) z t f := by
  refine MV2.of dn (own := RX2) (by decide) rfl (Nat.le_of_ble_eq_true rfl) (fun p e s m args below meth c ls Q K w hl ret => ?_)
  have hx := K.1.1
  have hb := K.1.2.1
  have hR : 1 ≤ (rmA 1 23).frames ∧ 23 ≤ (rmA 1 23).locals := ⟨Nat.le_refl _, Nat.le_refl _⟩
  have hf : 0 ≤ (rmA 1 23).cells ∧ 0 ≤ (rmA 1 23).slots := ⟨Nat.le_refl _, Nat.le_refl _⟩
  have hl : lv_has ls 4 [(0, .ref (ad E 0)), (1, .int (nI q)), (2, .ref (ad E r))] := hl
  refine lv_iconst (v := nI 0) hx hb dX2_from_0 (by decide) ?_
  refine lv_istore_n (lv' := [(3, .int _), (0, .ref _), (1, .int _), (2, .ref _)]) hx hb dX2_from_1 rfl hl (by decide) rfl (fun ls hl => ?_)
  refine lp_from K ⟨Nat.le_trans (Nat.le_of_ble_eq_true rfl) hR.1, Nat.le_trans (Nat.le_of_ble_eq_true rfl) hR.2⟩ hf hr r4 r5 hq (fun H locs ls w hl => ?_) 2000 0 M _ _ _ (by omega) rfl w hl
  refine lv_aload_n hx hb dX2_from_28 rfl (lv_at hl 0 rfl) ?_
  refine lv_aload_n hx hb dX2_from_29 rfl (lv_at hl 1 rfl) ?_
  refine callv2 K w (c_X2_close dn hr r4 r5 (ok.rows (fmF_row r4) (fmF_row r5))) (lk_X2_64 K ⟨Nat.le_trans (Nat.le_of_ble_eq_true rfl) hR.1, Nat.le_trans (Nat.le_of_ble_eq_true rfl) hR.2⟩) (recvM K w) rfl hl.1 rfl (Nat.le_of_ble_eq_true rfl) dX2_from_30 hf (fun H locs w => ?_)
  exact ret w dX2_from_33

set_option maxHeartbeats 4000000 in
set_option maxRecDepth 100000 in
theorem c_X2_held {l : Launch} {E : En} {M : Mt} {z t f : Nat} (dn : dM E) {r q : Nat} (hr : rwB r 2000) (r4 : 4 ≠ r) (r5 : 5 ≠ r) (r6 : 6 ≠ r) (hq : q < 2) (hb6 : b01 M 6) (ok : okN M z) : MV2 l yX2_held (.code yX2_held cX2_held 4 none) 1 23 E [.ref (ad E 0), .int (nI q), .ref (ad E r)] M z t f (hdR M z r q) z t f := by
  refine MV2.of dn (own := RX2) (by decide) rfl (Nat.le_of_ble_eq_true rfl) (fun p e s m args below meth c ls Q K w hl ret => ?_)
  have hx := K.1.1
  have hb := K.1.2.1
  have hR : 1 ≤ (rmA 1 23).frames ∧ 23 ≤ (rmA 1 23).locals := ⟨Nat.le_refl _, Nat.le_refl _⟩
  have hf : 0 ≤ (rmA 1 23).cells ∧ 0 ≤ (rmA 1 23).slots := ⟨Nat.le_refl _, Nat.le_refl _⟩
  have hl : lv_has ls 4 [(0, .ref (ad E 0)), (1, .int (nI q)), (2, .ref (ad E r))] := hl
  refine lv_iconst (v := nI 0) hx hb dX2_held_0 (by decide) ?_
  refine lv_istore_n (lv' := [(3, .int _), (0, .ref _), (1, .int _), (2, .ref _)]) hx hb dX2_held_1 rfl hl (by decide) rfl (fun ls hl => ?_)
  refine lp_hold K ⟨Nat.le_trans (Nat.le_of_ble_eq_true rfl) hR.1, Nat.le_trans (Nat.le_of_ble_eq_true rfl) hR.2⟩ hf hr r4 r5 r6 hq (fun H locs ls w hl => ?_) 2000 0 M _ _ _ (by omega) hb6 rfl w hl
  refine lv_aload_n hx hb dX2_held_30 rfl (lv_at hl 0 rfl) ?_
  refine lv_aload_n hx hb dX2_held_31 rfl (lv_at hl 1 rfl) ?_
  refine callv2 K w (c_X2_close dn hr r4 r5 (ok.rows (heF_row r4) (heF_row r5))) (lk_X2_64 K ⟨Nat.le_trans (Nat.le_of_ble_eq_true rfl) hR.1, Nat.le_trans (Nat.le_of_ble_eq_true rfl) hR.2⟩) (recvM K w) rfl hl.1 rfl (Nat.le_of_ble_eq_true rfl) dX2_held_32 hf (fun H locs w => ?_)
  exact ret w dX2_held_35

set_option maxHeartbeats 4000000 in
set_option maxRecDepth 100000 in
theorem c_X2_before {l : Launch} {E : En} {M : Mt} {z t f : Nat} (dn : dM E) {x y : Nat} (h1 : x < 2000) (h2 : y < 2000) : MI2 l yX2_before (.code yX2_before cX2_before 3 (some .boolean)) 0 0 E [.ref (ad E 0), .int (nI x), .int (nI y)] M z t f (bI (bfF M x y)) M z t f := by
  refine MI2.ofZ dn (own := RX2) (by decide) rfl (Nat.le_of_ble_eq_true rfl) (bI_z _) (fun p e s m args below meth c ls Q K w hl ret => ?_)
  have hx := K.1.1
  have hb := K.1.2.1
  have hR : 0 ≤ (rmA 0 0).frames ∧ 0 ≤ (rmA 0 0).locals := ⟨Nat.le_refl _, Nat.le_refl _⟩
  have hf : 0 ≤ (rmA 0 0).cells ∧ 0 ≤ (rmA 0 0).slots := ⟨Nat.le_refl _, Nat.le_refl _⟩
  have hl : lv_has ls 3 [(0, .ref (ad E 0)), (1, .int (nI x)), (2, .int (nI y))] := hl
  refine lv_aload_n hx hb dX2_before_0 rfl (lv_at hl 0 rfl) ?_
  refine gf_X2_time K w dX2_before_1 ?_
  refine lv_iload_n hx hb dX2_before_4 rfl (lv_at hl 1 rfl) ?_
  refine ldI2 K w rwI1 (by omega) dX2_before_5 ?_
  refine lv_aload_n hx hb dX2_before_6 rfl (lv_at hl 0 rfl) ?_
  refine gf_X2_time K w dX2_before_7 ?_
  refine lv_iload_n hx hb dX2_before_10 rfl (lv_at hl 2 rfl) ?_
  refine ldI2 K w rwI1 (by omega) dX2_before_11 ?_
  refine lv_icmp_eq (tgt := 36) hx hb dX2_before_12 rfl (fun h12 => ?_) (fun h12 => ?_)
  · refine lv_aload_n hx hb dX2_before_36 rfl (lv_at hl 0 rfl) ?_
    refine gf_X2_key K w dX2_before_37 ?_
    refine lv_iload_n hx hb dX2_before_40 rfl (lv_at hl 1 rfl) ?_
    refine ldI2 K w rwI2 (by omega) dX2_before_41 ?_
    refine lv_aload_n hx hb dX2_before_42 rfl (lv_at hl 0 rfl) ?_
    refine gf_X2_key K w dX2_before_43 ?_
    refine lv_iload_n hx hb dX2_before_46 rfl (lv_at hl 2 rfl) ?_
    refine ldI2 K w rwI2 (by omega) dX2_before_47 ?_
    refine lv_icmp_eq (tgt := 74) hx hb dX2_before_48 rfl (fun h48 => ?_) (fun h48 => ?_)
    · refine lv_iload_n hx hb dX2_before_74 rfl (lv_at hl 1 rfl) ?_
      refine lv_iload_n hx hb dX2_before_75 rfl (lv_at hl 2 rfl) ?_
      refine lv_icmp_ge (tgt := 83) hx hb dX2_before_76 rfl (fun h76 => ?_) (fun h76 => ?_)
      · refine lv_iconst (v := nI 0) hx hb dX2_before_83 (by decide) ?_
        exact ret w (by first | exact bf_c h12 h48 h63 | exact bf_d h12 h48 h63 | exact bf_e h1 h2 h12 h48 h76 | exact bf_f h1 h2 h12 h48 h76) dX2_before_84
      · refine lv_iconst (v := nI 1) hx hb dX2_before_79 (by decide) ?_
        refine lv_goto (tgt := 84) hx hb dX2_before_80 rfl ?_
        exact ret w (by first | exact bf_c h12 h48 h63 | exact bf_d h12 h48 h63 | exact bf_e h1 h2 h12 h48 h76 | exact bf_f h1 h2 h12 h48 h76) dX2_before_84
    · refine lv_aload_n hx hb dX2_before_51 rfl (lv_at hl 0 rfl) ?_
      refine gf_X2_key K w dX2_before_52 ?_
      refine lv_iload_n hx hb dX2_before_55 rfl (lv_at hl 1 rfl) ?_
      refine ldI2 K w rwI2 (by omega) dX2_before_56 ?_
      refine lv_aload_n hx hb dX2_before_57 rfl (lv_at hl 0 rfl) ?_
      refine gf_X2_key K w dX2_before_58 ?_
      refine lv_iload_n hx hb dX2_before_61 rfl (lv_at hl 2 rfl) ?_
      refine ldI2 K w rwI2 (by omega) dX2_before_62 ?_
      refine lv_icmp_ge (tgt := 70) hx hb dX2_before_63 rfl (fun h63 => ?_) (fun h63 => ?_)
      · refine lv_iconst (v := nI 0) hx hb dX2_before_70 (by decide) ?_
        refine lv_goto (tgt := 84) hx hb dX2_before_71 rfl ?_
        exact ret w (by first | exact bf_c h12 h48 h63 | exact bf_d h12 h48 h63 | exact bf_e h1 h2 h12 h48 h76 | exact bf_f h1 h2 h12 h48 h76) dX2_before_84
      · refine lv_iconst (v := nI 1) hx hb dX2_before_66 (by decide) ?_
        refine lv_goto (tgt := 84) hx hb dX2_before_67 rfl ?_
        exact ret w (by first | exact bf_c h12 h48 h63 | exact bf_d h12 h48 h63 | exact bf_e h1 h2 h12 h48 h76 | exact bf_f h1 h2 h12 h48 h76) dX2_before_84
  · refine lv_aload_n hx hb dX2_before_15 rfl (lv_at hl 0 rfl) ?_
    refine gf_X2_time K w dX2_before_16 ?_
    refine lv_iload_n hx hb dX2_before_19 rfl (lv_at hl 1 rfl) ?_
    refine ldI2 K w rwI1 (by omega) dX2_before_20 ?_
    refine lv_aload_n hx hb dX2_before_21 rfl (lv_at hl 0 rfl) ?_
    refine gf_X2_time K w dX2_before_22 ?_
    refine lv_iload_n hx hb dX2_before_25 rfl (lv_at hl 2 rfl) ?_
    refine ldI2 K w rwI1 (by omega) dX2_before_26 ?_
    refine lv_icmp_le (tgt := 34) hx hb dX2_before_27 rfl (fun h27 => ?_) (fun h27 => ?_)
    · refine lv_iconst (v := nI 0) hx hb dX2_before_34 (by decide) ?_
      exact ret w (by first | exact bf_a h12 h27 | exact bf_b h12 h27) dX2_before_35
    · refine lv_iconst (v := nI 1) hx hb dX2_before_30 (by decide) ?_
      refine lv_goto (tgt := 35) hx hb dX2_before_31 rfl ?_
      exact ret w (by first | exact bf_a h12 h27 | exact bf_b h12 h27) dX2_before_35

set_option maxHeartbeats 4000000 in
set_option maxRecDepth 100000 in
theorem c_X2_pick_a {l : Launch} {E : En} {M : Mt} {z t f : Nat} (dn : dM E) : MI2 l yX2_pick (.code yX2_pick cX2_pick 2 (some .int)) 1 21 E [.ref (ad E 0), .int (-1)] M z t f (nI f) M z t f := by
  refine MI2.of dn (own := RX2) (by decide) rfl (Nat.le_of_ble_eq_true rfl) (fun p e s m args below meth c ls Q K w hl ret => ?_)
  have hx := K.1.1
  have hb := K.1.2.1
  have hR : 1 ≤ (rmA 1 21).frames ∧ 21 ≤ (rmA 1 21).locals := ⟨Nat.le_refl _, Nat.le_refl _⟩
  have hf : 0 ≤ (rmA 1 21).cells ∧ 0 ≤ (rmA 1 21).slots := ⟨Nat.le_refl _, Nat.le_refl _⟩
  have hl : lv_has ls 2 [(0, .ref (ad E 0)), (1, .int (-1))] := hl
  refine lv_iload_n hx hb dX2_pick_0 rfl (lv_at hl 1 rfl) ?_
  refine lv_iconst (v := -1) hx hb dX2_pick_1 (by decide) ?_
  refine lv_icmp_ne (tgt := 10) hx hb dX2_pick_2 rfl (fun h9 => absurd (rfl : (-1 : Int32) = -1) h9) (fun _ => ?_)
  refine lv_aload_n hx hb dX2_pick_5 rfl (lv_at hl 0 rfl) ?_
  refine gf_X2_found K w dX2_pick_6 ?_
  exact ret w rfl dX2_pick_9

set_option maxHeartbeats 4000000 in
set_option maxRecDepth 100000 in
theorem c_X2_pick_b {l : Launch} {E : En} {M : Mt} {z t f : Nat} (dn : dM E) {i : Nat} (hi : i < f) (hf0 : f ≤ 2000) : MI2 l yX2_pick (.code yX2_pick cX2_pick 2 (some .int)) 1 21 E [.ref (ad E 0), .int (nI i)] M z t f (M 3 i) M z t f := by
  refine MI2.of dn (own := RX2) (by decide) rfl (Nat.le_of_ble_eq_true rfl) (fun p e s m args below meth c ls Q K w hl ret => ?_)
  have hx := K.1.1
  have hb := K.1.2.1
  have hR : 1 ≤ (rmA 1 21).frames ∧ 21 ≤ (rmA 1 21).locals := ⟨Nat.le_refl _, Nat.le_refl _⟩
  have hf : 0 ≤ (rmA 1 21).cells ∧ 0 ≤ (rmA 1 21).slots := ⟨Nat.le_refl _, Nat.le_refl _⟩
  have hl : lv_has ls 2 [(0, .ref (ad E 0)), (1, .int (nI i))] := hl
  refine lv_iload_n hx hb dX2_pick_0 rfl (lv_at hl 1 rfl) ?_
  refine lv_iconst (v := -1) hx hb dX2_pick_1 (by decide) ?_
  refine lv_icmp_ne (tgt := 10) hx hb dX2_pick_2 rfl (fun _ => ?_) (fun h9 => absurd h9 (nI_nm1 (by omega)))
  refine lv_iload_n hx hb dX2_pick_10 rfl (lv_at hl 1 rfl) ?_
  refine lv_if_lt (tgt := 22) hx hb dX2_pick_11 rfl (fun h9 => absurd h9 (nI_pos (by omega))) (fun _ => ?_)
  refine lv_iload_n hx hb dX2_pick_14 rfl (lv_at hl 1 rfl) ?_
  refine lv_aload_n hx hb dX2_pick_15 rfl (lv_at hl 0 rfl) ?_
  refine gf_X2_found K w dX2_pick_16 ?_
  refine lv_icmp_lt (tgt := 30) hx hb dX2_pick_19 rfl (fun _ => ?_) (fun h9 => absurd (nI_lt hi (by omega)) h9)
  refine lv_aload_n hx hb dX2_pick_30 rfl (lv_at hl 0 rfl) ?_
  refine gf_X2_row K w dX2_pick_31 ?_
  refine lv_iload_n hx hb dX2_pick_34 rfl (lv_at hl 1 rfl) ?_
  refine ldI2 K w rwI3 (by omega) dX2_pick_35 ?_
  exact ret w rfl dX2_pick_36

set_option maxHeartbeats 4000000 in
set_option maxRecDepth 100000 in
theorem c_X2_pick_c {l : Launch} {E : En} {M : Mt} {z t f : Nat} (dn : dM E) {x : Int32} (h1 : ¬ x = -1) (hx0 : x < 0 ∨ nI f ≤ x) : MI2 l yX2_pick (.code yX2_pick cX2_pick 2 (some .int)) 1 21 E [.ref (ad E 0), .int x] M z t f (nI 0) M z 2 f := by
  refine MI2.of dn (own := RX2) (by decide) rfl (Nat.le_of_ble_eq_true rfl) (fun p e s m args below meth c ls Q K w hl ret => ?_)
  have hx := K.1.1
  have hb := K.1.2.1
  have hR : 1 ≤ (rmA 1 21).frames ∧ 21 ≤ (rmA 1 21).locals := ⟨Nat.le_refl _, Nat.le_refl _⟩
  have hf : 0 ≤ (rmA 1 21).cells ∧ 0 ≤ (rmA 1 21).slots := ⟨Nat.le_refl _, Nat.le_refl _⟩
  have hl : lv_has ls 2 [(0, .ref (ad E 0)), (1, .int x)] := hl
  by_cases h0 : x < 0
  · refine lv_iload_n hx hb dX2_pick_0 rfl (lv_at hl 1 rfl) ?_
    refine lv_iconst (v := -1) hx hb dX2_pick_1 (by decide) ?_
    refine lv_icmp_ne (tgt := 10) hx hb dX2_pick_2 rfl (fun _ => ?_) (fun h9 => absurd h9 h1)
    refine lv_iload_n hx hb dX2_pick_10 rfl (lv_at hl 1 rfl) ?_
    refine lv_if_lt (tgt := 22) hx hb dX2_pick_11 rfl (fun _ => ?_) (fun h9 => absurd h0 h9)
    refine lv_aload_n hx hb dX2_pick_22 rfl (lv_at hl 0 rfl) ?_
    refine lv_iconst (v := nI 2) hx hb dX2_pick_23 (by decide) ?_
    refine calli2 K w (c_X2_refuse dn) (lk_X2_45 K ⟨Nat.le_trans (Nat.le_of_ble_eq_true rfl) hR.1, Nat.le_trans (Nat.le_of_ble_eq_true rfl) hR.2⟩) (recvM K w) rfl hl.1 rfl (Nat.le_of_ble_eq_true rfl) dX2_pick_24 hf (fun H locs w => ?_)
    refine lv_goto (tgt := 36) hx hb dX2_pick_27 rfl ?_
    exact ret w rfl dX2_pick_36
  · refine lv_iload_n hx hb dX2_pick_0 rfl (lv_at hl 1 rfl) ?_
    refine lv_iconst (v := -1) hx hb dX2_pick_1 (by decide) ?_
    refine lv_icmp_ne (tgt := 10) hx hb dX2_pick_2 rfl (fun _ => ?_) (fun h9 => absurd h9 h1)
    refine lv_iload_n hx hb dX2_pick_10 rfl (lv_at hl 1 rfl) ?_
    refine lv_if_lt (tgt := 22) hx hb dX2_pick_11 rfl (fun h9 => absurd h9 h0) (fun _ => ?_)
    refine lv_iload_n hx hb dX2_pick_14 rfl (lv_at hl 1 rfl) ?_
    refine lv_aload_n hx hb dX2_pick_15 rfl (lv_at hl 0 rfl) ?_
    refine gf_X2_found K w dX2_pick_16 ?_
    refine lv_icmp_lt (tgt := 30) hx hb dX2_pick_19 rfl (fun h9 => absurd h9 (nlt_or h0 hx0)) (fun _ => ?_)
    refine lv_aload_n hx hb dX2_pick_22 rfl (lv_at hl 0 rfl) ?_
    refine lv_iconst (v := nI 2) hx hb dX2_pick_23 (by decide) ?_
    refine calli2 K w (c_X2_refuse dn) (lk_X2_45 K ⟨Nat.le_trans (Nat.le_of_ble_eq_true rfl) hR.1, Nat.le_trans (Nat.le_of_ble_eq_true rfl) hR.2⟩) (recvM K w) rfl hl.1 rfl (Nat.le_of_ble_eq_true rfl) dX2_pick_24 hf (fun H locs w => ?_)
    refine lv_goto (tgt := 36) hx hb dX2_pick_27 rfl ?_
    exact ret w rfl dX2_pick_36
