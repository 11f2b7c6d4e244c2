theorem there_t {x y : Int32} (h0 : ¬ x < 0) (h1 : ¬ y ≤ x) : nI 1 = bI (decide (¬ (x < 0 ∨ y ≤ x))) := by
  rw [decide_eq_true (show ¬ (x < 0 ∨ y ≤ x) from fun h => h.elim h0 h1)]; rfl
theorem there_a {x y : Int32} (h : x < 0) : nI 0 = bI (decide (¬ (x < 0 ∨ y ≤ x))) := by
  rw [decide_eq_false (show ¬ ¬ (x < 0 ∨ y ≤ x) from fun h2 => h2 (Or.inl h))]; rfl
theorem there_b {x y : Int32} (h : y ≤ x) : nI 0 = bI (decide (¬ (x < 0 ∨ y ≤ x))) := by
  rw [decide_eq_false (show ¬ ¬ (x < 0 ∨ y ≤ x) from fun h2 => h2 (Or.inr h))]; rfl
def jnF (M : Mt) (q : Nat) (o : Option Nat) : Mt := match o with
  | none => M
  | some u => va_up (va_up M 5 (upd (M 5) (q * 4 + pcn M q) (nI u))) 4 (upd (M 4) q (M 4 q + nI 1))
/-- among the parents of c, from slot t on -/
def ipF (M : Mt) (q c : Nat) : Nat → Nat → Bool
  | 0, _ => false
  | d + 1, t => if par M c t = q then true else ipF M q c d (t + 1)
def iaF (M : Mt) (q : Nat) : Nat → Nat → Bool
  | 0, _ => false
  | d + 1, c => if ipF M q c (pcn M c) 0 = true then true else iaF M q d (c + 1)

set_option maxHeartbeats 4000000 in
set_option maxRecDepth 100000 in
theorem c_X2_thrown {l : Launch} {E : En} {M : Mt} {z t f : Nat} (dn : dM E) : MI2 l yX2_thrown (.code yX2_thrown cX2_thrown 1 (some .int)) 0 0 E [.ref (ad E 0)] M z t f (nI t) M z t f := by
  refine MI2.of dn (own := RX2) (by decide) rfl (Nat.le_of_ble_eq_true rfl) (fun p e s m args below meth c ls Q K w hl ret => ?_)
  have hx := K.1.1
  have hb := K.1.2.1
  have hR : 0 ≤ (rmA 0 0).frames ∧ 0 ≤ (rmA 0 0).locals := ⟨Nat.le_refl _, Nat.le_refl _⟩
  have hf : 0 ≤ (rmA 0 0).cells ∧ 0 ≤ (rmA 0 0).slots := ⟨Nat.le_refl _, Nat.le_refl _⟩
  have hl : lv_has ls 1 [(0, .ref (ad E 0))] := hl
  refine lv_aload_n hx hb dX2_thrown_0 rfl (lv_at hl 0 rfl) ?_
  refine gf_X2_thrown K w dX2_thrown_1 ?_
  exact ret w rfl dX2_thrown_4

set_option maxHeartbeats 4000000 in
set_option maxRecDepth 100000 in
theorem c_X2_refuse {l : Launch} {E : En} {M : Mt} {z t f : Nat} (dn : dM E) {k : Nat} : MI2 l yX2_refuse (.code yX2_refuse cX2_refuse 2 (some .int)) 0 0 E [.ref (ad E 0), .int (nI k)] M z t f (nI 0) M z k f := by
  refine MI2.of dn (own := RX2) (by decide) rfl (Nat.le_of_ble_eq_true rfl) (fun p e s m args below meth c ls Q K w hl ret => ?_)
  have hx := K.1.1
  have hb := K.1.2.1
  have hR : 0 ≤ (rmA 0 0).frames ∧ 0 ≤ (rmA 0 0).locals := ⟨Nat.le_refl _, Nat.le_refl _⟩
  have hf : 0 ≤ (rmA 0 0).cells ∧ 0 ≤ (rmA 0 0).slots := ⟨Nat.le_refl _, Nat.le_refl _⟩
  have hl : lv_has ls 2 [(0, .ref (ad E 0)), (1, .int (nI k))] := hl
  refine lv_aload_n hx hb dX2_refuse_0 rfl (lv_at hl 0 rfl) ?_
  refine lv_iload_n hx hb dX2_refuse_1 rfl (lv_at hl 1 rfl) ?_
  refine pf_X2_thrown K w rfl dX2_refuse_2 (fun H locs w => ?_)
  refine lv_iconst (v := nI 0) hx hb dX2_refuse_5 (by decide) ?_
  exact ret w rfl dX2_refuse_6

set_option maxHeartbeats 4000000 in
set_option maxRecDepth 100000 in
theorem c_X2_there {l : Launch} {E : En} {M : Mt} {z t f : Nat} (dn : dM E) {x : Int32} : MI2 l yX2_there (.code yX2_there cX2_there 2 (some .boolean)) 0 0 E [.ref (ad E 0), .int x] M z t f (bI (decide (¬ (x < 0 ∨ nI z ≤ x)))) M z t f := by
  refine MI2.ofZ dn (own := RX2) (by decide) rfl (Nat.le_of_ble_eq_true rfl) (bI_z _) (fun p e s m args below meth c ls Q K w hl ret => ?_)
  have hx := K.1.1
  have hb := K.1.2.1
  have hR : 0 ≤ (rmA 0 0).frames ∧ 0 ≤ (rmA 0 0).locals := ⟨Nat.le_refl _, Nat.le_refl _⟩
  have hf : 0 ≤ (rmA 0 0).cells ∧ 0 ≤ (rmA 0 0).slots := ⟨Nat.le_refl _, Nat.le_refl _⟩
  have hl : lv_has ls 2 [(0, .ref (ad E 0)), (1, .int x)] := hl
  refine lv_iload_n hx hb dX2_there_0 rfl (lv_at hl 1 rfl) ?_
  refine lv_if_lt (tgt := 16) hx hb dX2_there_1 rfl (fun h1 => ?_) (fun h1 => ?_)
  · refine lv_iconst (v := nI 0) hx hb dX2_there_16 (by decide) ?_
    exact ret w (by first | exact there_a h1 | exact there_t h1 h9 | exact there_b h9) dX2_there_17
  · refine lv_iload_n hx hb dX2_there_4 rfl (lv_at hl 1 rfl) ?_
    refine lv_aload_n hx hb dX2_there_5 rfl (lv_at hl 0 rfl) ?_
    refine gf_X2_size K w dX2_there_6 ?_
    refine lv_icmp_ge (tgt := 16) hx hb dX2_there_9 rfl (fun h9 => ?_) (fun h9 => ?_)
    · refine lv_iconst (v := nI 0) hx hb dX2_there_16 (by decide) ?_
      exact ret w (by first | exact there_a h1 | exact there_t h1 h9 | exact there_b h9) dX2_there_17
    · refine lv_iconst (v := nI 1) hx hb dX2_there_12 (by decide) ?_
      refine lv_goto (tgt := 17) hx hb dX2_there_13 rfl ?_
      exact ret w (by first | exact there_a h1 | exact there_t h1 h9 | exact there_b h9) dX2_there_17

set_option maxHeartbeats 4000000 in
set_option maxRecDepth 100000 in
theorem c_X2_join_a {l : Launch} {E : En} {M : Mt} {z t f : Nat} (dn : dM E) {q : Nat} : MV2 l yX2_join (.code yX2_join cX2_join 3 none) 0 0 E [.ref (ad E 0), .int (nI q), .int (-1)] M z t f M z t f := by
  refine MV2.of dn (own := RX2) (by decide) rfl (Nat.le_of_ble_eq_true rfl) (fun p e s m args below meth c ls Q K w hl ret => ?_)
  have hx := K.1.1
  have hb := K.1.2.1
  have hR : 0 ≤ (rmA 0 0).frames ∧ 0 ≤ (rmA 0 0).locals := ⟨Nat.le_refl _, Nat.le_refl _⟩
  have hf : 0 ≤ (rmA 0 0).cells ∧ 0 ≤ (rmA 0 0).slots := ⟨Nat.le_refl _, Nat.le_refl _⟩
  have hl : lv_has ls 3 [(0, .ref (ad E 0)), (1, .int (nI q)), (2, .int (-1))] := hl
  refine lv_iload_n hx hb dX2_join_0 rfl (lv_at hl 2 rfl) ?_
  refine lv_if_ge (tgt := 5) hx hb dX2_join_1 rfl (fun h9 => absurd h9 (by decide : ¬ (0 : Int32) ≤ -1)) (fun _ => ?_)
  exact ret w dX2_join_4

set_option maxHeartbeats 4000000 in
set_option maxRecDepth 100000 in
theorem c_X2_join_b {l : Launch} {E : En} {M : Mt} {z t f : Nat} (dn : dM E) {q u : Nat} (hq : q < 2000) (hu : u < 2000) (hj : M 4 q = nI (pcn M q)) (h4 : pcn M q < 4) : MV2 l yX2_join (.code yX2_join cX2_join 3 none) 0 0 E [.ref (ad E 0), .int (nI q), .int (nI u)] M z t f (jnF M q (some u)) z t f := by
  refine MV2.of dn (own := RX2) (by decide) rfl (Nat.le_of_ble_eq_true rfl) (fun p e s m args below meth c ls Q K w hl ret => ?_)
  have hx := K.1.1
  have hb := K.1.2.1
  have hR : 0 ≤ (rmA 0 0).frames ∧ 0 ≤ (rmA 0 0).locals := ⟨Nat.le_refl _, Nat.le_refl _⟩
  have hf : 0 ≤ (rmA 0 0).cells ∧ 0 ≤ (rmA 0 0).slots := ⟨Nat.le_refl _, Nat.le_refl _⟩
  have hl : lv_has ls 3 [(0, .ref (ad E 0)), (1, .int (nI q)), (2, .int (nI u))] := hl
  refine lv_iload_n hx hb dX2_join_0 rfl (lv_at hl 2 rfl) ?_
  refine lv_if_ge (tgt := 5) hx hb dX2_join_1 rfl (fun _ => ?_) (fun h9 => absurd (nI_pos' (by omega)) h9)
  refine lv_aload_n hx hb dX2_join_5 rfl (lv_at hl 0 rfl) ?_
  refine gf_X2_parent K w dX2_join_6 ?_
  refine lv_iload_n hx hb dX2_join_9 rfl (lv_at hl 1 rfl) ?_
  refine lv_iconst (v := nI 4) hx hb dX2_join_10 (by decide) ?_
  refine lv_imul hx hb dX2_join_11 ?_
  refine topE (y := nI (q * 4)) (pk_mul _ _) ?_
  refine lv_aload_n hx hb dX2_join_12 rfl (lv_at hl 0 rfl) ?_
  refine gf_X2_many K w dX2_join_13 ?_
  refine lv_iload_n hx hb dX2_join_16 rfl (lv_at hl 1 rfl) ?_
  refine ldI2 K w rwI4 (by omega) dX2_join_17 ?_
  refine topE (y := nI (pcn M q)) hj ?_
  refine lv_iadd hx hb dX2_join_18 ?_
  refine topE (y := nI (q * 4 + pcn M q)) (nI_add _ _) ?_
  refine lv_iload_n hx hb dX2_join_19 rfl (lv_at hl 2 rfl) ?_
  refine stI2 K w rwI5 (by omega) dX2_join_20 (fun H locs w => ?_)
  refine lv_aload_n hx hb dX2_join_21 rfl (lv_at hl 0 rfl) ?_
  refine gf_X2_many K w dX2_join_22 ?_
  refine lv_iload_n hx hb dX2_join_25 rfl (lv_at hl 1 rfl) ?_
  refine lv_dup2_11 hx hb dX2_join_26 rfl rfl ?_
  refine ldI2 K w rwI4 (by omega) dX2_join_27 ?_
  refine lv_iconst (v := nI 1) hx hb dX2_join_28 (by decide) ?_
  refine lv_iadd hx hb dX2_join_29 ?_
  refine stI2 K w rwI4 (by omega) dX2_join_30 (fun H locs w => ?_)
  exact ret w dX2_join_31

theorem c_X2_join {l : Launch} {E : En} {M : Mt} {z t f : Nat} (dn : dM E) {q : Nat} {o : Option Nat} (ho : oB o 2000) (hq : q < 2000) (hj : M 4 q = nI (pcn M q)) (h4 : pcn M q < 4) : MV2 l yX2_join (.code yX2_join cX2_join 3 none) 0 0 E [.ref (ad E 0), .int (nI q), .int (oI o)] M z t f (jnF M q o) z t f := by
  cases o with
  | none => exact c_X2_join_a dn
  | some u => exact c_X2_join_b dn hq (ho u rfl) hj h4

section YA
variable {p : Program} {l : Launch} {e : Env} {R : Room} {s : State} {m : MethodId} {args : Array Value} {below : List Frame} {meth : Method} {c : Code} {H : Heap} {locs : List Loc} {cells slots : Nat} {Q : State → Prop} {ls : Array Slot} {w0 : Cond} {E : En} {M MF : Mt} {z t f : Nat}
set_option maxHeartbeats 4000000 in
set_option maxRecDepth 100000 in
theorem lp_isp (K : cY E p m c cX2_isParent 4 s args w0 RX2) (hR : 0 ≤ R.frames ∧ 0 ≤ R.locals) (hf : cells ≤ R.cells ∧ slots ≤ R.slots) {q c0 j : Nat} {r : Bool} (hq : q < 2147483648) (hc : c0 < z) (ok : okN M z) (hj : pcn M c0 = j) (ret : ∀ {H : Heap} {locs : List Loc} {pc : Nat} {ls : Array Slot} {v : Int32}, vst E s.heap M z t f H locs → v = bI r → decode cX2_isParent pc = .ok (.ireturn, 1) → W p l e R s m args below meth c H locs cells slots Q (F0 m pc ls [.int v])) : ∀ (d i : Nat) (H : Heap) (locs : List Loc) (ls : Array Slot), i + d = j → ipF M q c0 d i = r → vst E s.heap M z t f H locs → lv_has ls 4 [(3, .int (nI i)), (0, .ref (ad E 0)), (1, .int (nI q)), (2, .int (nI c0))] → W p l e R s m args below meth c H locs cells slots Q (F0 m 2 ls []) := by
  have hx := K.1.1
  have hb := K.1.2.1
  intro d
  induction d with
  | zero =>
    intro i H locs ls hi hm w hl
    have h4 := ok.le hc
    have hn := ok.1
    refine lv_iload_n hx hb dX2_isParent_2 rfl (lv_at hl 0 rfl) ?_
    refine lv_aload_n hx hb dX2_isParent_3 rfl (lv_at hl 1 rfl) ?_
    refine gf_X2_many K w dX2_isParent_4 ?_
    refine lv_iload_n hx hb dX2_isParent_7 rfl (lv_at hl 3 rfl) ?_
    refine ldI2 K w rwI4 (by omega) dX2_isParent_8 ?_
    refine topE (y := nI (pcn M c0)) (ok.pc hc) ?_
    rw [hj]
    refine lv_icmp_ge (tgt := 34) hx hb dX2_isParent_9 rfl (fun _ => ?_) (fun h9 => absurd (nI_le (by omega) (by omega)) h9)
    refine lv_iconst (v := nI 0) hx hb dX2_isParent_34 (by decide) ?_
    exact ret w (by rw [← hm]; rfl) dX2_isParent_35
  | succ d ih =>
    intro i H locs ls hi hm w hl
    have h4 := ok.le hc
    have hn := ok.1
    refine lv_iload_n hx hb dX2_isParent_2 rfl (lv_at hl 0 rfl) ?_
    refine lv_aload_n hx hb dX2_isParent_3 rfl (lv_at hl 1 rfl) ?_
    refine gf_X2_many K w dX2_isParent_4 ?_
    refine lv_iload_n hx hb dX2_isParent_7 rfl (lv_at hl 3 rfl) ?_
    refine ldI2 K w rwI4 (by omega) dX2_isParent_8 ?_
    refine topE (y := nI (pcn M c0)) (ok.pc hc) ?_
    rw [hj]
    refine lv_icmp_ge (tgt := 34) hx hb dX2_isParent_9 rfl (fun h9 => absurd h9 (nI_ge (by omega) (by omega))) (fun _ => ?_)
    have h5 := ok.lt hc (t := i) (by omega)
    by_cases hc0 : par M c0 i = q
    · rw [ipF, if_pos hc0] at hm
      refine lv_aload_n hx hb dX2_isParent_12 rfl (lv_at hl 1 rfl) ?_
      refine gf_X2_parent K w dX2_isParent_13 ?_
      refine lv_iload_n hx hb dX2_isParent_16 rfl (lv_at hl 3 rfl) ?_
      refine lv_iconst (v := nI 4) hx hb dX2_isParent_17 (by decide) ?_
      refine lv_imul hx hb dX2_isParent_18 ?_
      refine topE (y := nI (c0 * 4)) (pk_mul _ _) ?_
      refine lv_iload_n hx hb dX2_isParent_19 rfl (lv_at hl 0 rfl) ?_
      refine lv_iadd hx hb dX2_isParent_20 ?_
      refine topE (y := nI (c0 * 4 + i)) (nI_add _ _) ?_
      refine ldI2 K w rwI5 (by omega) dX2_isParent_21 ?_
      refine topE (y := nI (par M c0 i)) (ok.pr hc (by omega)) ?_
      refine lv_iload_n hx hb dX2_isParent_22 rfl (lv_at hl 2 rfl) ?_
      refine lv_icmp_ne (tgt := 28) hx hb dX2_isParent_23 rfl (fun h9 => absurd (by rw [hc0]) h9) (fun _ => ?_)
      refine lv_iconst (v := nI 1) hx hb dX2_isParent_26 (by decide) ?_
      exact ret w (by rw [← hm]; rfl) dX2_isParent_27
    · rw [ipF, if_neg hc0] at hm
      refine lv_aload_n hx hb dX2_isParent_12 rfl (lv_at hl 1 rfl) ?_
      refine gf_X2_parent K w dX2_isParent_13 ?_
      refine lv_iload_n hx hb dX2_isParent_16 rfl (lv_at hl 3 rfl) ?_
      refine lv_iconst (v := nI 4) hx hb dX2_isParent_17 (by decide) ?_
      refine lv_imul hx hb dX2_isParent_18 ?_
      refine topE (y := nI (c0 * 4)) (pk_mul _ _) ?_
      refine lv_iload_n hx hb dX2_isParent_19 rfl (lv_at hl 0 rfl) ?_
      refine lv_iadd hx hb dX2_isParent_20 ?_
      refine topE (y := nI (c0 * 4 + i)) (nI_add _ _) ?_
      refine ldI2 K w rwI5 (by omega) dX2_isParent_21 ?_
      refine topE (y := nI (par M c0 i)) (ok.pr hc (by omega)) ?_
      refine lv_iload_n hx hb dX2_isParent_22 rfl (lv_at hl 2 rfl) ?_
      refine lv_icmp_ne (tgt := 28) hx hb dX2_isParent_23 rfl (fun _ => ?_) (fun h9 => absurd h9 (fun h => hc0 ((nI_eq (by omega) (by omega)).mp h)))
      refine lv_iinc (k := 0) (v := nI (_ + 1)) (lv' := [(3, .int _), (0, .ref _), (1, .int _), (2, .int _)]) hx hb dX2_isParent_28 hl rfl (inc1 _) (by decide) rfl (fun ls hl => ?_)
      refine lv_goto (tgt := 2) hx hb dX2_isParent_31 rfl ?_
      exact ih (i + 1) _ _ _ (by omega) hm w (lv_sub hl [0, 1, 2, 3] rfl)

end YA
set_option maxHeartbeats 4000000 in
set_option maxRecDepth 100000 in
theorem c_X2_isParent {l : Launch} {E : En} {M : Mt} {z t f : Nat} (dn : dM E) {q c0 : Nat} (hq : q < 2147483648) (hc : c0 < z) (ok : okN M z) : MI2 l yX2_isParent (.code yX2_isParent cX2_isParent 4 (some .boolean)) 0 0 E [.ref (ad E 0), .int (nI q), .int (nI c0)] M z t f (bI (ipF M q c0 (pcn M c0) 0)) M z t f := by
  refine MI2.ofZ dn (own := RX2) (by decide) rfl (Nat.le_of_ble_eq_true rfl) (bI_z _) (fun p e s m args below meth c ls Q K w hl ret => ?_)
  have hx := K.1.1
  have hb := K.1.2.1
  have hR : 0 ≤ (rmA 0 0).frames ∧ 0 ≤ (rmA 0 0).locals := ⟨Nat.le_refl _, Nat.le_refl _⟩
  have hf : 0 ≤ (rmA 0 0).cells ∧ 0 ≤ (rmA 0 0).slots := ⟨Nat.le_refl _, Nat.le_refl _⟩
  have hl : lv_has ls 4 [(0, .ref (ad E 0)), (1, .int (nI q)), (2, .int (nI c0))] := hl
  refine lv_iconst (v := nI 0) hx hb dX2_isParent_0 (by decide) ?_
  refine lv_istore_n (lv' := [(3, .int _), (0, .ref _), (1, .int _), (2, .int _)]) hx hb dX2_isParent_1 rfl hl (by decide) rfl (fun ls hl => ?_)
  exact lp_isp K hR hf hq hc ok rfl ret (pcn M c0) 0 _ _ _ (by omega) rfl w hl

section YB
variable {p : Program} {l : Launch} {e : Env} {R : Room} {s : State} {m : MethodId} {args : Array Value} {below : List Frame} {meth : Method} {c : Code} {H : Heap} {locs : List Loc} {cells slots : Nat} {Q : State → Prop} {ls : Array Slot} {w0 : Cond} {E : En} {M MF : Mt} {z t f : Nat}
set_option maxHeartbeats 4000000 in
set_option maxRecDepth 100000 in
theorem lp_isa (K : cY E p m c cX2_isAnyParent 3 s args w0 RX2) (hR : 1 ≤ R.frames ∧ 23 ≤ R.locals) (hf : cells ≤ R.cells ∧ slots ≤ R.slots) {q : Nat} {r : Bool} (hq : q < 2147483648) (ok : okN M z) (ret : ∀ {H : Heap} {locs : List Loc} {pc : Nat} {ls : Array Slot} {v : Int32}, vst E s.heap M z t f H locs → v = bI r → decode cX2_isAnyParent pc = .ok (.ireturn, 1) → W p l e R s m args below meth c H locs cells slots Q (F0 m pc ls [.int v])) : ∀ (d i : Nat) (H : Heap) (locs : List Loc) (ls : Array Slot), i + d = z → iaF M q d i = r → vst E s.heap M z t f H locs → lv_has ls 3 [(2, .int (nI i)), (0, .ref (ad E 0)), (1, .int (nI q))] → W p l e R s m args below meth c H locs cells slots Q (F0 m 2 ls []) := by
  have hx := K.1.1
  have hb := K.1.2.1
  intro d
  induction d with
  | zero =>
    intro i H locs ls hi hm w hl
    have hn := ok.1
    refine lv_iload_n hx hb dX2_isAnyParent_2 rfl (lv_at hl 0 rfl) ?_
    refine lv_aload_n hx hb dX2_isAnyParent_3 rfl (lv_at hl 1 rfl) ?_
    refine gf_X2_size K w dX2_isAnyParent_4 ?_
    refine lv_icmp_ge (tgt := 27) hx hb dX2_isAnyParent_7 rfl (fun _ => ?_) (fun h9 => absurd (nI_le (by omega) (by omega)) h9)
    refine lv_iconst (v := nI 0) hx hb dX2_isAnyParent_27 (by decide) ?_
    exact ret w (by rw [← hm]; rfl) dX2_isAnyParent_28
  | succ d ih =>
    intro i H locs ls hi hm w hl
    have hn := ok.1
    refine lv_iload_n hx hb dX2_isAnyParent_2 rfl (lv_at hl 0 rfl) ?_
    refine lv_aload_n hx hb dX2_isAnyParent_3 rfl (lv_at hl 1 rfl) ?_
    refine gf_X2_size K w dX2_isAnyParent_4 ?_
    refine lv_icmp_ge (tgt := 27) hx hb dX2_isAnyParent_7 rfl (fun h9 => absurd h9 (nI_ge (by omega) (by omega))) (fun _ => ?_)
    by_cases hc0 : ipF M q i (pcn M i) 0 = true
    · rw [iaF, if_pos hc0] at hm
      refine lv_aload_n hx hb dX2_isAnyParent_10 rfl (lv_at hl 1 rfl) ?_
      refine lv_iload_n hx hb dX2_isAnyParent_11 rfl (lv_at hl 2 rfl) ?_
      refine lv_iload_n hx hb dX2_isAnyParent_12 rfl (lv_at hl 0 rfl) ?_
      refine calli2 K w (c_X2_isParent K.2.2 hq (by omega) ok) (lk_X2_53 K ⟨Nat.le_trans (Nat.le_of_ble_eq_true rfl) hR.1, Nat.le_trans (Nat.le_of_ble_eq_true rfl) hR.2⟩) (recvM K w) rfl hl.1 rfl (Nat.le_of_ble_eq_true rfl) dX2_isAnyParent_13 hf (fun H locs w => ?_)
      refine lv_if_eq (tgt := 21) hx hb dX2_isAnyParent_16 rfl (fun h9 => absurd h9 (by rw [hc0]; decide)) (fun _ => ?_)
      refine lv_iconst (v := nI 1) hx hb dX2_isAnyParent_19 (by decide) ?_
      exact ret w (by rw [← hm]; rfl) dX2_isAnyParent_20
    · rw [iaF, if_neg hc0] at hm
      refine lv_aload_n hx hb dX2_isAnyParent_10 rfl (lv_at hl 1 rfl) ?_
      refine lv_iload_n hx hb dX2_isAnyParent_11 rfl (lv_at hl 2 rfl) ?_
      refine lv_iload_n hx hb dX2_isAnyParent_12 rfl (lv_at hl 0 rfl) ?_
      refine calli2 K w (c_X2_isParent K.2.2 hq (by omega) ok) (lk_X2_53 K ⟨Nat.le_trans (Nat.le_of_ble_eq_true rfl) hR.1, Nat.le_trans (Nat.le_of_ble_eq_true rfl) hR.2⟩) (recvM K w) rfl hl.1 rfl (Nat.le_of_ble_eq_true rfl) dX2_isAnyParent_13 hf (fun H locs w => ?_)
      refine lv_if_eq (tgt := 21) hx hb dX2_isAnyParent_16 rfl (fun _ => ?_) (fun h9 => absurd (by rw [Bool.not_eq_true _ |>.mp hc0]; rfl) h9)
      refine lv_iinc (k := 0) (v := nI (_ + 1)) (lv' := [(2, .int _), (0, .ref _), (1, .int _)]) hx hb dX2_isAnyParent_21 hl rfl (inc1 _) (by decide) rfl (fun ls hl => ?_)
      refine lv_goto (tgt := 2) hx hb dX2_isAnyParent_24 rfl ?_
      exact ih (i + 1) _ _ _ (by omega) hm w (lv_sub hl [0, 1, 2] rfl)

end YB
set_option maxHeartbeats 4000000 in
set_option maxRecDepth 100000 in
theorem c_X2_isAnyParent {l : Launch} {E : En} {M : Mt} {z t f : Nat} (dn : dM E) {q : Nat} (hq : q < 2147483648) (ok : okN M z) : MI2 l yX2_isAnyParent (.code yX2_isAnyParent cX2_isAnyParent 3 (some .boolean)) 1 23 E [.ref (ad E 0), .int (nI q)] M z t f (bI (iaF M q z 0)) M z t f := by
  refine MI2.ofZ dn (own := RX2) (by decide) rfl (Nat.le_of_ble_eq_true rfl) (bI_z _) (fun p e s m args below meth c ls Q K w hl ret => ?_)
  have hx := K.1.1
  have hb := K.1.2.1
  have hR : 1 ≤ (rmA 1 23).frames ∧ 23 ≤ (rmA 1 23).locals := ⟨Nat.le_refl _, Nat.le_refl _⟩
  have hf : 0 ≤ (rmA 1 23).cells ∧ 0 ≤ (rmA 1 23).slots := ⟨Nat.le_refl _, Nat.le_refl _⟩
  have hl : lv_has ls 3 [(0, .ref (ad E 0)), (1, .int (nI q))] := hl
  refine lv_iconst (v := nI 0) hx hb dX2_isAnyParent_0 (by decide) ?_
  refine lv_istore_n (lv' := [(2, .int _), (0, .ref _), (1, .int _)]) hx hb dX2_isAnyParent_1 rfl hl (by decide) rfl (fun ls hl => ?_)
  exact lp_isa K hR hf hq ok ret z 0 _ _ _ (by omega) rfl w hl
