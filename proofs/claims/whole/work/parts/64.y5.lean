/-- generation's inner and outer loop -/
def giF (x : Nat) : Nat → Nat → Mt → Mt
  | 0, _, M => M
  | d + 1, k, M => giF x d (k + 1) (if M 3 (par M x k) < M 3 x then M else va_up M 3 (upd (M 3) x (M 3 (par M x k) + nI 1)))
def gnF : Nat → Nat → Mt → Mt
  | 0, _, M => M
  | d + 1, i, M => gnF d (i + 1) (giF i (pcn M i) 0 (va_up M 3 (upd (M 3) i (nI 1))))
theorem giF_row {x a : Nat} (h : a ≠ 3) : ∀ {d k : Nat} {M : Mt}, giF x d k M a = M a := by
  intro d
  induction d with
  | zero => intro k M; rfl
  | succ d ih =>
    intro k M
    rw [giF, ih]
    split
    · rfl
    · rw [va_up_ne _ _ h]
theorem gnF_row {a : Nat} (h : a ≠ 3) : ∀ {d i : Nat} {M : Mt}, gnF d i M a = M a := by
  intro d
  induction d with
  | zero => intro i M; rfl
  | succ d ih => intro i M; rw [gnF, ih, giF_row h, va_up_ne _ _ h]

section YH
variable {p : Program} {l : Launch} {e : Env} {R : Room} {s : State} {m : MethodId} {args : Array Value} {below : List Frame} {meth : Method} {c : Code} {H : Heap} {locs : List Loc} {cells slots : Nat} {Q : State → Prop} {ls : Array Slot} {w0 : Cond} {E : En} {M MF : Mt} {z t f : Nat}
set_option maxHeartbeats 4000000 in
set_option maxRecDepth 100000 in
theorem lp_gi (K : cY E p m c cX2_generation 4 s args w0 RX2) (hR : 0 ≤ R.frames ∧ 0 ≤ R.locals) (hf : cells ≤ R.cells ∧ slots ≤ R.slots) {q j : Nat} {x1 : Int32} (hq : q < z) (kk : ∀ (H : Heap) (locs : List Loc) (ls : Array Slot), vst E s.heap MF z t f H locs → lv_has ls 4 [(2, .int (nI q)), (0, .ref (ad E 0)), (1, .int x1)] → W p l e R s m args below meth c H locs cells slots Q (F0 m 79 ls [])) : ∀ (d i : Nat) (M : Mt) (H : Heap) (locs : List Loc) (ls : Array Slot), i + d = j → okN M z → pcn M q = j → giF q d i M = MF → vst E s.heap M z t f H locs → lv_has ls 4 [(3, .int (nI i)), (2, .int (nI q)), (0, .ref (ad E 0)), (1, .int x1)] → W p l e R s m args below meth c H locs cells slots Q (F0 m 16 ls []) := by
  have hx := K.1.1
  have hb := K.1.2.1
  intro d
  induction d with
  | zero =>
    intro i M H locs ls hi ok hj hm w hl
    have h4 := ok.le hq
    have hn := ok.1
    refine lv_iload_n hx hb dX2_generation_16 rfl (lv_at hl 0 rfl) ?_
    refine lv_aload_n hx hb dX2_generation_17 rfl (lv_at hl 2 rfl) ?_
    refine gf_X2_many K w dX2_generation_18 ?_
    refine lv_iload_n hx hb dX2_generation_21 rfl (lv_at hl 1 rfl) ?_
    refine ldI2 K w rwI4 (by omega) dX2_generation_22 ?_
    refine topE (y := nI (pcn M q)) (ok.pc hq) ?_
    rw [hj]
    refine lv_icmp_ge (tgt := 79) hx hb dX2_generation_23 rfl (fun _ => ?_) (fun h9 => absurd (nI_le (by omega) (by omega)) h9)
    exact kk _ _ _ (by rw [← hm]; exact w) (lv_sub hl [1, 2, 3] rfl)
  | succ d ih =>
    intro i M H locs ls hi ok hj hm w hl
    have h4 := ok.le hq
    have hn := ok.1
    have h5 := ok.lt hq (t := i) (by omega)
    refine lv_iload_n hx hb dX2_generation_16 rfl (lv_at hl 0 rfl) ?_
    refine lv_aload_n hx hb dX2_generation_17 rfl (lv_at hl 2 rfl) ?_
    refine gf_X2_many K w dX2_generation_18 ?_
    refine lv_iload_n hx hb dX2_generation_21 rfl (lv_at hl 1 rfl) ?_
    refine ldI2 K w rwI4 (by omega) dX2_generation_22 ?_
    refine topE (y := nI (pcn M q)) (ok.pc hq) ?_
    rw [hj]
    refine lv_icmp_ge (tgt := 79) hx hb dX2_generation_23 rfl (fun h9 => absurd h9 (nI_ge (by omega) (by omega))) (fun _ => ?_)
    by_cases hlt : M 3 (par M q i) < M 3 q
    · rw [giF, if_pos hlt] at hm
      refine lv_aload_n hx hb dX2_generation_26 rfl (lv_at hl 2 rfl) ?_
      refine gf_X2_row K w dX2_generation_27 ?_
      refine lv_aload_n hx hb dX2_generation_30 rfl (lv_at hl 2 rfl) ?_
      refine gf_X2_parent K w dX2_generation_31 ?_
      refine lv_iload_n hx hb dX2_generation_34 rfl (lv_at hl 1 rfl) ?_
      refine lv_iconst (v := nI 4) hx hb dX2_generation_35 (by decide) ?_
      refine lv_imul hx hb dX2_generation_36 ?_
      refine topE (y := nI (q * 4)) (pk_mul _ _) ?_
      refine lv_iload_n hx hb dX2_generation_37 rfl (lv_at hl 0 rfl) ?_
      refine lv_iadd hx hb dX2_generation_38 ?_
      refine topE (y := nI (q * 4 + i)) (nI_add _ _) ?_
      refine ldI2 K w rwI5 (by omega) dX2_generation_39 ?_
      refine topE (y := nI (par M q i)) (ok.pr hq (by omega)) ?_
      refine ldI2 K w rwI3 (by omega) dX2_generation_40 ?_
      refine lv_aload_n hx hb dX2_generation_41 rfl (lv_at hl 2 rfl) ?_
      refine gf_X2_row K w dX2_generation_42 ?_
      refine lv_iload_n hx hb dX2_generation_45 rfl (lv_at hl 1 rfl) ?_
      refine ldI2 K w rwI3 (by omega) dX2_generation_46 ?_
      refine lv_icmp_lt (tgt := 73) hx hb dX2_generation_47 rfl (fun _ => ?_) (fun h9 => absurd hlt h9)
      refine lv_iinc (k := 0) (v := nI (_ + 1)) (lv' := [(3, .int _), (2, .int _), (0, .ref _), (1, .int _)]) hx hb dX2_generation_73 hl rfl (inc1 _) (by decide) rfl (fun ls hl => ?_)
      refine lv_goto (tgt := 16) hx hb dX2_generation_76 rfl ?_
      exact ih (i + 1) M _ _ _ (by omega) ok hj hm w (lv_sub hl [0, 1, 2, 3] rfl)
    · rw [giF, if_neg hlt] at hm
      refine lv_aload_n hx hb dX2_generation_26 rfl (lv_at hl 2 rfl) ?_
      refine gf_X2_row K w dX2_generation_27 ?_
      refine lv_aload_n hx hb dX2_generation_30 rfl (lv_at hl 2 rfl) ?_
      refine gf_X2_parent K w dX2_generation_31 ?_
      refine lv_iload_n hx hb dX2_generation_34 rfl (lv_at hl 1 rfl) ?_
      refine lv_iconst (v := nI 4) hx hb dX2_generation_35 (by decide) ?_
      refine lv_imul hx hb dX2_generation_36 ?_
      refine topE (y := nI (q * 4)) (pk_mul _ _) ?_
      refine lv_iload_n hx hb dX2_generation_37 rfl (lv_at hl 0 rfl) ?_
      refine lv_iadd hx hb dX2_generation_38 ?_
      refine topE (y := nI (q * 4 + i)) (nI_add _ _) ?_
      refine ldI2 K w rwI5 (by omega) dX2_generation_39 ?_
      refine topE (y := nI (par M q i)) (ok.pr hq (by omega)) ?_
      refine ldI2 K w rwI3 (by omega) dX2_generation_40 ?_
      refine lv_aload_n hx hb dX2_generation_41 rfl (lv_at hl 2 rfl) ?_
      refine gf_X2_row K w dX2_generation_42 ?_
      refine lv_iload_n hx hb dX2_generation_45 rfl (lv_at hl 1 rfl) ?_
      refine ldI2 K w rwI3 (by omega) dX2_generation_46 ?_
      refine lv_icmp_lt (tgt := 73) hx hb dX2_generation_47 rfl (fun h9 => absurd h9 hlt) (fun _ => ?_)
      refine lv_aload_n hx hb dX2_generation_50 rfl (lv_at hl 2 rfl) ?_
      refine gf_X2_row K w dX2_generation_51 ?_
      refine lv_iload_n hx hb dX2_generation_54 rfl (lv_at hl 1 rfl) ?_
      refine lv_aload_n hx hb dX2_generation_55 rfl (lv_at hl 2 rfl) ?_
      refine gf_X2_row K w dX2_generation_56 ?_
      refine lv_aload_n hx hb dX2_generation_59 rfl (lv_at hl 2 rfl) ?_
      refine gf_X2_parent K w dX2_generation_60 ?_
      refine lv_iload_n hx hb dX2_generation_63 rfl (lv_at hl 1 rfl) ?_
      refine lv_iconst (v := nI 4) hx hb dX2_generation_64 (by decide) ?_
      refine lv_imul hx hb dX2_generation_65 ?_
      refine topE (y := nI (q * 4)) (pk_mul _ _) ?_
      refine lv_iload_n hx hb dX2_generation_66 rfl (lv_at hl 0 rfl) ?_
      refine lv_iadd hx hb dX2_generation_67 ?_
      refine topE (y := nI (q * 4 + i)) (nI_add _ _) ?_
      refine ldI2 K w rwI5 (by omega) dX2_generation_68 ?_
      refine topE (y := nI (par M q i)) (ok.pr hq (by omega)) ?_
      refine ldI2 K w rwI3 (by omega) dX2_generation_69 ?_
      refine lv_iconst (v := nI 1) hx hb dX2_generation_70 (by decide) ?_
      refine lv_iadd hx hb dX2_generation_71 ?_
      refine stI2 K w rwI3 (by omega) dX2_generation_72 (fun H locs w => ?_)
      refine lv_iinc (k := 0) (v := nI (_ + 1)) (lv' := [(3, .int _), (2, .int _), (0, .ref _), (1, .int _)]) hx hb dX2_generation_73 hl rfl (inc1 _) (by decide) rfl (fun ls hl => ?_)
      refine lv_goto (tgt := 16) hx hb dX2_generation_76 rfl ?_
      exact ih (i + 1) (va_up M 3 (upd (M 3) q (M 3 (par M q i) + nI 1))) _ _ _ (by omega) ok hj hm w (lv_sub hl [0, 1, 2, 3] rfl)

set_option maxHeartbeats 4000000 in
set_option maxRecDepth 100000 in
theorem lp_gn (K : cY E p m c cX2_generation 4 s args w0 RX2) (hR : 0 ≤ R.frames ∧ 0 ≤ R.locals) (hf : cells ≤ R.cells ∧ slots ≤ R.slots) {q : Nat} (hq : q < z) (kk : ∀ (H : Heap) (locs : List Loc) (ls : Array Slot), vst E s.heap MF z t f H locs → lv_has ls 4 [(0, .ref (ad E 0)), (1, .int (nI q))] → W p l e R s m args below meth c H locs cells slots Q (F0 m 85 ls [])) : ∀ (d i : Nat) (M : Mt) (H : Heap) (locs : List Loc) (ls : Array Slot), i + d = q + 1 → okN M z → gnF d i M = MF → vst E s.heap M z t f H locs → lv_has ls 4 [(2, .int (nI i)), (0, .ref (ad E 0)), (1, .int (nI q))] → W p l e R s m args below meth c H locs cells slots Q (F0 m 2 ls []) := by
  have hx := K.1.1
  have hb := K.1.2.1
  intro d
  induction d with
  | zero =>
    intro i M H locs ls hi ok hm w hl
    have hn := ok.1
    refine lv_iload_n hx hb dX2_generation_2 rfl (lv_at hl 0 rfl) ?_
    refine lv_iload_n hx hb dX2_generation_3 rfl (lv_at hl 2 rfl) ?_
    refine lv_icmp_gt (tgt := 85) hx hb dX2_generation_4 rfl (fun _ => ?_) (fun h9 => absurd (nI_lt (by omega) (by omega)) h9)
    exact kk _ _ _ (by rw [← hm]; exact w) (lv_sub hl [1, 2] rfl)
  | succ d ih =>
    intro i M H locs ls hi ok hm w hl
    have hn := ok.1
    refine lv_iload_n hx hb dX2_generation_2 rfl (lv_at hl 0 rfl) ?_
    refine lv_iload_n hx hb dX2_generation_3 rfl (lv_at hl 2 rfl) ?_
    refine lv_icmp_gt (tgt := 85) hx hb dX2_generation_4 rfl (fun h9 => absurd h9 (nI_nlt (by omega) (by omega))) (fun _ => ?_)
    refine lv_aload_n hx hb dX2_generation_7 rfl (lv_at hl 1 rfl) ?_
    refine gf_X2_row K w dX2_generation_8 ?_
    refine lv_iload_n hx hb dX2_generation_11 rfl (lv_at hl 0 rfl) ?_
    refine lv_iconst (v := nI 1) hx hb dX2_generation_12 (by decide) ?_
    refine stI2 K w rwI3 (by omega) dX2_generation_13 (fun H locs w => ?_)
    refine lv_iconst (v := nI 0) hx hb dX2_generation_14 (by decide) ?_
    refine lv_istore_n (lv' := [(3, .int _), (2, .int _), (0, .ref _), (1, .int _)]) hx hb dX2_generation_15 rfl hl (by decide) rfl (fun ls hl => ?_)
    refine lp_gi (j := pcn M i) K ⟨Nat.le_trans (Nat.le_of_ble_eq_true rfl) hR.1, Nat.le_trans (Nat.le_of_ble_eq_true rfl) hR.2⟩ hf (by omega) (fun H locs ls w hl => ?_) (pcn M i) 0 (va_up M 3 (upd (M 3) i (nI 1))) _ _ _ (by omega) ok rfl rfl w (lv_sub hl [0, 1, 2, 3] rfl)
    refine lv_iinc (k := 0) (v := nI (_ + 1)) (lv' := [(2, .int _), (0, .ref _), (1, .int _)]) hx hb dX2_generation_79 hl rfl (inc1 _) (by decide) rfl (fun ls hl => ?_)
    refine lv_goto (tgt := 2) hx hb dX2_generation_82 rfl ?_
    exact ih (i + 1) (giF i (pcn M i) 0 (va_up M 3 (upd (M 3) i (nI 1)))) _ _ _ (by omega) (okN.rows (M := M) ok (giF_row (by decide)) (giF_row (by decide))) hm w (lv_sub hl [0, 1, 2] rfl)

end YH
set_option maxHeartbeats 4000000 in
set_option maxRecDepth 100000 in
theorem c_X2_generation {l : Launch} {E : En} {M : Mt} {z t f : Nat} (dn : dM E) {q : Nat} (hq : q < z) (ok : okN M z) : MI2 l yX2_generation (.code yX2_generation cX2_generation 4 (some .int)) 0 0 E [.ref (ad E 0), .int (nI q)] M z t f (gnF (q + 1) 0 M 3 q) (gnF (q + 1) 0 M) z t f := by
  refine MI2.of dn (own := RX2) (by decide) rfl (Nat.le_of_ble_eq_true rfl) (fun p e s m args below meth c ls Q K w hl ret => ?_)
  have hx := K.1.1
  have hb := K.1.2.1
  have hR : 0 ≤ (rmA 0 0).frames ∧ 0 ≤ (rmA 0 0).locals := ⟨Nat.le_refl _, Nat.le_refl _⟩
  have hf : 0 ≤ (rmA 0 0).cells ∧ 0 ≤ (rmA 0 0).slots := ⟨Nat.le_refl _, Nat.le_refl _⟩
  have hl : lv_has ls 4 [(0, .ref (ad E 0)), (1, .int (nI q))] := hl
  have hn := ok.1
  refine lv_iconst (v := nI 0) hx hb dX2_generation_0 (by decide) ?_
  refine lv_istore_n (lv' := [(2, .int _), (0, .ref _), (1, .int _)]) hx hb dX2_generation_1 rfl hl (by decide) rfl (fun ls hl => ?_)
  refine lp_gn K ⟨Nat.le_trans (Nat.le_of_ble_eq_true rfl) hR.1, Nat.le_trans (Nat.le_of_ble_eq_true rfl) hR.2⟩ hf hq (fun H locs ls w hl => ?_) (q + 1) 0 M _ _ _ (by omega) ok rfl w hl
  refine lv_aload_n hx hb dX2_generation_85 rfl (lv_at hl 0 rfl) ?_
  refine gf_X2_row K w dX2_generation_86 ?_
  refine lv_iload_n hx hb dX2_generation_89 rfl (lv_at hl 1 rfl) ?_
  refine ldI2 K w rwI3 (by omega) dX2_generation_90 ?_
  exact ret w rfl dX2_generation_91

def ra0 (M : Mt) (n : Nat) (ti ky : Int32) : Mt := va_up (va_up (va_up M 1 (upd (M 1) n ti)) 2 (upd (M 2) n ky)) 4 (upd (M 4) n (nI 0))
def raF (M : Mt) (n : Nat) (ti ky : Int32) (a b d : Option Nat) : Mt := jnF (jnF (jnF (ra0 M n ti ky) n a) n b) n d
theorem pcn_jn {M : Mt} {q j : Nat} {o : Option Nat} (hj : M 4 q = nI (pcn M q)) (hb : pcn M q ≤ j) (h4 : j < 4) : jnF M q o 4 q = nI (pcn (jnF M q o) q) ∧ pcn (jnF M q o) q ≤ j + 1 := by
  cases o with
  | none => exact ⟨hj, Nat.le_succ_of_le hb⟩
  | some u =>
    have e : jnF M q (some u) 4 q = nI (pcn M q + 1) := by
      show upd (M 4) q (M 4 q + nI 1) q = _
      rw [pk_us, hj, nI_add]
    have e2 : pcn (jnF M q (some u)) q = pcn M q + 1 := by
      rw [pcn, e]
      exact nI_clamp (by omega)
    rw [e2]
    exact ⟨e, by omega⟩
theorem oI_lo {o : Option Nat} {n : Nat} (h : oB o n) (hn : n ≤ 2000) : ¬ oI o < -1 := by
  cases o with
  | none => decide
  | some u =>
    have hu := h u rfl
    exact fun h2 => nI_pos (n := u) (by omega) (i32_lt_trans h2 (by decide))
theorem oI_hi {o : Option Nat} {n : Nat} (h : oB o n) (hn : n ≤ 2000) : ¬ nI n ≤ oI o := by
  cases o with
  | none => exact fun h2 => nlt_le h2 (lt_nle (fun h3 => nI_pos (n := n) (by omega) (lt_nle (fun h4 => nlt_le (a := -1) (b := 0) (by
      simp only [Int32.le_iff_toInt_le] at h3 h4 ⊢
      exact Int.le_trans h4 h3) (by decide)))))
  | some u => exact nI_ge (h u rfl) (by omega)

set_option maxHeartbeats 4000000 in
set_option maxRecDepth 100000 in
theorem c_X2_add {l : Launch} {E : En} {M : Mt} {z t f : Nat} (dn : dM E) {ti ky : Int32} {a b d : Option Nat} (ha : oB a z) (hb0 : oB b z) (hd : oB d z) (hz : z < 2000) : MI2 l yX2_add (.code yX2_add cX2_add 6 (some .int)) 1 22 E [.ref (ad E 0), .int ti, .int ky, .int (oI a), .int (oI b), .int (oI d)] M z t f (nI z) (raF M z ti ky a b d) (z + 1) 0 f := by
  refine MI2.of dn (own := RX2) (by decide) rfl (Nat.le_of_ble_eq_true rfl) (fun p e s m args below meth c ls Q K w hl ret => ?_)
  have hx := K.1.1
  have hb := K.1.2.1
  have hR : 1 ≤ (rmA 1 22).frames ∧ 22 ≤ (rmA 1 22).locals := ⟨Nat.le_refl _, Nat.le_refl _⟩
  have hf : 0 ≤ (rmA 1 22).cells ∧ 0 ≤ (rmA 1 22).slots := ⟨Nat.le_refl _, Nat.le_refl _⟩
  have hl : lv_has ls 6 [(0, .ref (ad E 0)), (1, .int ti), (2, .int ky), (3, .int (oI a)), (4, .int (oI b)), (5, .int (oI d))] := hl
  have up : ∀ {o : Option Nat}, oB o z → oB o 2000 := fun ho u hu => Nat.lt_trans (ho u hu) hz
  have e9 : ra0 M z ti ky 4 z = nI 0 := by show upd (M 4) z (nI 0) z = _; rw [pk_us]
  have e : pcn (ra0 M z ti ky) z = 0 := by rw [pcn, e9]; rfl
  have e0 : ra0 M z ti ky 4 z = nI (pcn (ra0 M z ti ky) z) := by rw [e]; exact e9
  have e1 := pcn_jn (o := a) e0 (Nat.le_of_eq e) (by decide)
  have e2 := pcn_jn (o := b) e1.1 e1.2 (by decide)
  refine lv_aload_n hx hb dX2_add_0 rfl (lv_at hl 0 rfl) ?_
  refine lv_iconst (v := nI 0) hx hb dX2_add_1 (by decide) ?_
  refine pf_X2_thrown K w rfl dX2_add_2 (fun H locs w => ?_)
  refine lv_iload_n hx hb dX2_add_5 rfl (lv_at hl 3 rfl) ?_
  refine lv_iconst (v := -1) hx hb dX2_add_6 (by decide) ?_
  refine lv_icmp_lt (tgt := 48) hx hb dX2_add_7 rfl (fun h9 => absurd h9 (oI_lo ha (by omega))) (fun _ => ?_)
  refine lv_iload_n hx hb dX2_add_10 rfl (lv_at hl 3 rfl) ?_
  refine lv_aload_n hx hb dX2_add_11 rfl (lv_at hl 0 rfl) ?_
  refine gf_X2_size K w dX2_add_12 ?_
  refine lv_icmp_ge (tgt := 48) hx hb dX2_add_15 rfl (fun h9 => absurd h9 (oI_hi ha (by omega))) (fun _ => ?_)
  refine lv_iload hx hb dX2_add_18 (lv_at hl 4 rfl) ?_
  refine lv_iconst (v := -1) hx hb dX2_add_20 (by decide) ?_
  refine lv_icmp_lt (tgt := 48) hx hb dX2_add_21 rfl (fun h9 => absurd h9 (oI_lo hb0 (by omega))) (fun _ => ?_)
  refine lv_iload hx hb dX2_add_24 (lv_at hl 4 rfl) ?_
  refine lv_aload_n hx hb dX2_add_26 rfl (lv_at hl 0 rfl) ?_
  refine gf_X2_size K w dX2_add_27 ?_
  refine lv_icmp_ge (tgt := 48) hx hb dX2_add_30 rfl (fun h9 => absurd h9 (oI_hi hb0 (by omega))) (fun _ => ?_)
  refine lv_iload hx hb dX2_add_33 (lv_at hl 5 rfl) ?_
  refine lv_iconst (v := -1) hx hb dX2_add_35 (by decide) ?_
  refine lv_icmp_lt (tgt := 48) hx hb dX2_add_36 rfl (fun h9 => absurd h9 (oI_lo hd (by omega))) (fun _ => ?_)
  refine lv_iload hx hb dX2_add_39 (lv_at hl 5 rfl) ?_
  refine lv_aload_n hx hb dX2_add_41 rfl (lv_at hl 0 rfl) ?_
  refine gf_X2_size K w dX2_add_42 ?_
  refine lv_icmp_lt (tgt := 54) hx hb dX2_add_45 rfl (fun _ => ?_) (fun h9 => absurd (lt_nle (oI_hi hd (by omega))) h9)
  refine lv_aload_n hx hb dX2_add_54 rfl (lv_at hl 0 rfl) ?_
  refine gf_X2_size K w dX2_add_55 ?_
  refine lv_sipush (v := nI 2000) hx hb dX2_add_58 (by decide) ?_
  refine lv_icmp_ne (tgt := 70) hx hb dX2_add_61 rfl (fun _ => ?_) (fun h9 => absurd h9 (fun h => absurd ((nI_eq (by omega) (by decide)).mp h) (by omega)))
  refine lv_aload_n hx hb dX2_add_70 rfl (lv_at hl 0 rfl) ?_
  refine gf_X2_time K w dX2_add_71 ?_
  refine lv_aload_n hx hb dX2_add_74 rfl (lv_at hl 0 rfl) ?_
  refine gf_X2_size K w dX2_add_75 ?_
  refine lv_iload_n hx hb dX2_add_78 rfl (lv_at hl 1 rfl) ?_
  refine stI2 K w rwI1 (by omega) dX2_add_79 (fun H locs w => ?_)
  refine lv_aload_n hx hb dX2_add_80 rfl (lv_at hl 0 rfl) ?_
  refine gf_X2_key K w dX2_add_81 ?_
  refine lv_aload_n hx hb dX2_add_84 rfl (lv_at hl 0 rfl) ?_
  refine gf_X2_size K w dX2_add_85 ?_
  refine lv_iload_n hx hb dX2_add_88 rfl (lv_at hl 2 rfl) ?_
  refine stI2 K w rwI2 (by omega) dX2_add_89 (fun H locs w => ?_)
  refine lv_aload_n hx hb dX2_add_90 rfl (lv_at hl 0 rfl) ?_
  refine gf_X2_many K w dX2_add_91 ?_
  refine lv_aload_n hx hb dX2_add_94 rfl (lv_at hl 0 rfl) ?_
  refine gf_X2_size K w dX2_add_95 ?_
  refine lv_iconst (v := nI 0) hx hb dX2_add_98 (by decide) ?_
  refine stI2 K w rwI4 (by omega) dX2_add_99 (fun H locs w => ?_)
  have w : vst E s.heap (ra0 M z ti ky) z 0 f H locs := w
  refine lv_aload_n hx hb dX2_add_100 rfl (lv_at hl 0 rfl) ?_
  refine lv_aload_n hx hb dX2_add_101 rfl (lv_at hl 0 rfl) ?_
  refine gf_X2_size K w dX2_add_102 ?_
  refine lv_iload_n hx hb dX2_add_105 rfl (lv_at hl 3 rfl) ?_
  refine callv2 K w (c_X2_join dn (up ha) hz e0 (by omega)) (lk_X2_49 K ⟨Nat.le_trans (Nat.le_of_ble_eq_true rfl) hR.1, Nat.le_trans (Nat.le_of_ble_eq_true rfl) hR.2⟩) (recvM K w) rfl hl.1 rfl (Nat.le_of_ble_eq_true rfl) dX2_add_106 hf (fun H locs w => ?_)
  refine lv_aload_n hx hb dX2_add_109 rfl (lv_at hl 0 rfl) ?_
  refine lv_aload_n hx hb dX2_add_110 rfl (lv_at hl 0 rfl) ?_
  refine gf_X2_size K w dX2_add_111 ?_
  refine lv_iload hx hb dX2_add_114 (lv_at hl 4 rfl) ?_
  refine callv2 K w (c_X2_join dn (up hb0) hz e1.1 (by omega)) (lk_X2_49 K ⟨Nat.le_trans (Nat.le_of_ble_eq_true rfl) hR.1, Nat.le_trans (Nat.le_of_ble_eq_true rfl) hR.2⟩) (recvM K w) rfl hl.1 rfl (Nat.le_of_ble_eq_true rfl) dX2_add_116 hf (fun H locs w => ?_)
  refine lv_aload_n hx hb dX2_add_119 rfl (lv_at hl 0 rfl) ?_
  refine lv_aload_n hx hb dX2_add_120 rfl (lv_at hl 0 rfl) ?_
  refine gf_X2_size K w dX2_add_121 ?_
  refine lv_iload hx hb dX2_add_124 (lv_at hl 5 rfl) ?_
  refine callv2 K w (c_X2_join dn (up hd) hz e2.1 (by omega)) (lk_X2_49 K ⟨Nat.le_trans (Nat.le_of_ble_eq_true rfl) hR.1, Nat.le_trans (Nat.le_of_ble_eq_true rfl) hR.2⟩) (recvM K w) rfl hl.1 rfl (Nat.le_of_ble_eq_true rfl) dX2_add_126 hf (fun H locs w => ?_)
  refine lv_aload_n hx hb dX2_add_129 rfl (lv_at hl 0 rfl) ?_
  refine lv_dup hx hb dX2_add_130 rfl ?_
  refine gf_X2_size K w dX2_add_131 ?_
  refine lv_iconst (v := nI 1) hx hb dX2_add_134 (by decide) ?_
  refine lv_iadd hx hb dX2_add_135 ?_
  refine pf_X2_size K w (nI_add z 1) dX2_add_136 (fun H locs w => ?_)
  refine lv_aload_n hx hb dX2_add_139 rfl (lv_at hl 0 rfl) ?_
  refine gf_X2_size K w dX2_add_140 ?_
  refine lv_iconst (v := nI 1) hx hb dX2_add_143 (by decide) ?_
  refine lv_isub hx hb dX2_add_144 ?_
  refine topE (y := nI z) (pk_sub (by omega)) ?_
  exact ret w rfl dX2_add_145
