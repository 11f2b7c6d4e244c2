/-- the line of first parents -/
def bkF (M : Mt) : Nat → Nat → Option Nat
  | 0, c => some c
  | t + 1, c => if pcn M c = 0 then none else bkF M t (par M c 0)
section SA
variable {p : Program} {l : Launch} {e : Env} {R : Room} {s : State} {m : MethodId} {args : Array Value} {below : List Frame} {meth : Method} {c : Code} {H : Heap} {locs : List Loc} {cells slots : Nat} {Q : State → Prop} {ls : Array Slot} {w0 : Cond} {E : En} {M MF : Mt} {n k : Nat}
set_option maxHeartbeats 4000000 in
set_option maxRecDepth 100000 in
theorem lp_back (K : cX E p m c cX1_back 5 s args w0 RX1) (hR : 1 ≤ R.frames ∧ 22 ≤ R.locals) (hf : cells ≤ R.cells ∧ slots ≤ R.slots) {j r : Nat} (hj : j < 2147483648) (ok : okN M n) (ret : ∀ {H : Heap} {locs : List Loc} {pc : Nat} {ls : Array Slot} {v : Int32}, wst E s.heap M n k H locs → v = nI r → decode cX1_back pc = .ok (.ireturn, 1) → W p l e R s m args below meth c H locs cells slots Q (F0 m pc ls [.int v])) : ∀ (d i : Nat) (q : Nat) (H : Heap) (locs : List Loc) (ls : Array Slot), i + d = j → q < n → bkF M d q = some r → wst E s.heap M n k H locs → lv_has ls 5 [(4, .int (nI i)), (3, .int (nI q)), (2, .int (nI j)), (0, .ref (ad E 0))] → W p l e R s m args below meth c H locs cells slots Q (F0 m 24 ls []) := by
  have hx := K.1.1
  have hb := K.1.2.1
  intro d
  induction d with
  | zero =>
    intro i q H locs ls hi hq hm w hl
    have h4 := ok.le hq
    have hn := ok.1
    refine lv_iload hx hb dX1_back_24 (lv_at hl 0 rfl) ?_
    refine lv_iload_n hx hb dX1_back_26 rfl (lv_at hl 2 rfl) ?_
    refine lv_icmp_ge (tgt := 62) hx hb dX1_back_27 rfl (fun _ => ?_) (fun h9 => absurd (nI_le (by omega) (by omega)) h9)
    refine lv_iload_n hx hb dX1_back_62 rfl (lv_at hl 1 rfl) ?_
    exact ret w (by cases hm; rfl) dX1_back_63
  | succ d ih =>
    intro i q H locs ls hi hq hm w hl
    have h4 := ok.le hq
    have hn := ok.1
    by_cases h0 : pcn M q = 0
    · rw [bkF, if_pos h0] at hm; cases hm
    rw [bkF, if_neg h0] at hm
    have h5 := ok.lt hq (t := 0) (by omega)
    refine lv_iload hx hb dX1_back_24 (lv_at hl 0 rfl) ?_
    refine lv_iload_n hx hb dX1_back_26 rfl (lv_at hl 2 rfl) ?_
    refine lv_icmp_ge (tgt := 62) hx hb dX1_back_27 rfl (fun h9 => absurd h9 (nI_ge (by omega) (by omega))) (fun _ => ?_)
    refine lv_aload_n hx hb dX1_back_30 rfl (lv_at hl 3 rfl) ?_
    refine gf_X1_parentCounts K w dX1_back_31 ?_
    refine lv_iload_n hx hb dX1_back_34 rfl (lv_at hl 1 rfl) ?_
    refine ldN K w row4 (by omega) dX1_back_35 ?_
    refine topE (y := nI (pcn M q)) (ok.pc hq) ?_
    refine lv_if_ne (tgt := 49) hx hb dX1_back_36 rfl (fun _ => ?_) (fun h9 => absurd h9 (nI_ne0 (by omega) (by omega)))
    refine lv_aload_n hx hb dX1_back_49 rfl (lv_at hl 3 rfl) ?_
    refine lv_iload_n hx hb dX1_back_50 rfl (lv_at hl 1 rfl) ?_
    refine lv_iconst (v := nI 0) hx hb dX1_back_51 (by decide) ?_
    refine calli K w (c_X1_parentOf K.2.2 (by omega) (ok.pr hq (by omega))) (lk_X1_120 K ⟨Nat.le_trans (Nat.le_of_ble_eq_true rfl) hR.1, Nat.le_trans (Nat.le_of_ble_eq_true rfl) hR.2⟩) (recv0 K w) rfl hl.1 rfl (Nat.le_of_ble_eq_true rfl) dX1_back_52 hf (fun H locs w => ?_)
    refine lv_istore_n (lv' := [(3, .int _), (4, .int _), (2, .int _), (0, .ref _)]) hx hb dX1_back_55 rfl hl (by decide) rfl (fun ls hl => ?_)
    refine lv_iinc (k := 1) (v := nI (_ + 1)) (lv' := [(4, .int _), (3, .int _), (2, .int _), (0, .ref _)]) hx hb dX1_back_56 hl rfl (inc1 _) (by decide) rfl (fun ls hl => ?_)
    refine lv_goto (tgt := 24) hx hb dX1_back_59 rfl ?_
    exact ih (i + 1) _ _ _ _ (by omega) (by omega) hm w (lv_sub hl [0, 1, 2, 3] rfl)

set_option maxHeartbeats 4000000 in
set_option maxRecDepth 100000 in
theorem lp_backt (K : cX E p m c cX1_back 5 s args w0 RX1) (hR : 1 ≤ R.frames ∧ 22 ≤ R.locals) (hf : cells ≤ R.cells ∧ slots ≤ R.slots) {j : Nat} (hj : j < 2147483648) (ok : okN M n) (thr : ∀ {H : Heap} {locs : List Loc} {pc : Nat} {ls : Array Slot} {rest : List Value} {ik ic : Nat} {x : Nat × String}, wst E s.heap M n k H locs → xT "java/util/NoSuchElementException" ik ic → x ∈ strL → ls.size = 5 → (rest.map fun v => v.category).sum ≤ 8 → 5 < 7 → 90 ≤ 111 → decode cX1_back pc = .ok (.new ik, 3) → decode cX1_back (pc + 3) = .ok (.dup, 1) → decode cX1_back (pc + 4) = .ok (.ldc x.1, 2) → decode cX1_back (pc + 6) = .ok (.invokespecial ic, 3) → decode cX1_back (pc + 9) = .ok (.athrow, 1) → W p l e R s m args below meth c H locs cells slots Q (F0 m pc ls rest)) : ∀ (d i q : Nat) (H : Heap) (locs : List Loc) (ls : Array Slot), i + d = j → q < n → bkF M d q = none → wst E s.heap M n k H locs → lv_has ls 5 [(4, .int (nI i)), (3, .int (nI q)), (2, .int (nI j)), (0, .ref (ad E 0))] → W p l e R s m args below meth c H locs cells slots Q (F0 m 24 ls []) := by
  have hx := K.1.1
  have hb := K.1.2.1
  intro d
  induction d with
  | zero =>
    intro i q H locs ls hi hq hm w hl
    cases hm
  | succ d ih =>
    intro i q H locs ls hi hq hm w hl
    have h4 := ok.le hq
    have hn := ok.1
    by_cases h0 : pcn M q = 0
    · refine lv_iload hx hb dX1_back_24 (lv_at hl 0 rfl) ?_
      refine lv_iload_n hx hb dX1_back_26 rfl (lv_at hl 2 rfl) ?_
      refine lv_icmp_ge (tgt := 62) hx hb dX1_back_27 rfl (fun h9 => absurd h9 (nI_ge (by omega) (by omega))) (fun _ => ?_)
      refine lv_aload_n hx hb dX1_back_30 rfl (lv_at hl 3 rfl) ?_
      refine gf_X1_parentCounts K w dX1_back_31 ?_
      refine lv_iload_n hx hb dX1_back_34 rfl (lv_at hl 1 rfl) ?_
      refine ldN K w row4 (by omega) dX1_back_35 ?_
      refine topE (y := nI (pcn M q)) (ok.pc hq) ?_
      refine lv_if_ne (tgt := 49) hx hb dX1_back_36 rfl (fun h9 => absurd (by rw [h0]; rfl) h9) (fun _ => ?_)
      exact thr w xNSE (List.mem_of_getElem? (i := 4) rfl) hl.1 (Nat.le_of_ble_eq_true rfl) (by decide) (by decide) dX1_back_39 dX1_back_42 dX1_back_43 dX1_back_45 dX1_back_48
    · rw [bkF, if_neg h0] at hm
      have h5 := ok.lt hq (t := 0) (by omega)
      refine lv_iload hx hb dX1_back_24 (lv_at hl 0 rfl) ?_
      refine lv_iload_n hx hb dX1_back_26 rfl (lv_at hl 2 rfl) ?_
      refine lv_icmp_ge (tgt := 62) hx hb dX1_back_27 rfl (fun h9 => absurd h9 (nI_ge (by omega) (by omega))) (fun _ => ?_)
      refine lv_aload_n hx hb dX1_back_30 rfl (lv_at hl 3 rfl) ?_
      refine gf_X1_parentCounts K w dX1_back_31 ?_
      refine lv_iload_n hx hb dX1_back_34 rfl (lv_at hl 1 rfl) ?_
      refine ldN K w row4 (by omega) dX1_back_35 ?_
      refine topE (y := nI (pcn M q)) (ok.pc hq) ?_
      refine lv_if_ne (tgt := 49) hx hb dX1_back_36 rfl (fun _ => ?_) (fun h9 => absurd h9 (nI_ne0 (by omega) (by omega)))
      refine lv_aload_n hx hb dX1_back_49 rfl (lv_at hl 3 rfl) ?_
      refine lv_iload_n hx hb dX1_back_50 rfl (lv_at hl 1 rfl) ?_
      refine lv_iconst (v := nI 0) hx hb dX1_back_51 (by decide) ?_
      refine calli K w (c_X1_parentOf K.2.2 (by omega) (ok.pr hq (by omega))) (lk_X1_120 K ⟨Nat.le_trans (Nat.le_of_ble_eq_true rfl) hR.1, Nat.le_trans (Nat.le_of_ble_eq_true rfl) hR.2⟩) (recv0 K w) rfl hl.1 rfl (Nat.le_of_ble_eq_true rfl) dX1_back_52 hf (fun H locs w => ?_)
      refine lv_istore_n (lv' := [(3, .int _), (4, .int _), (2, .int _), (0, .ref _)]) hx hb dX1_back_55 rfl hl (by decide) rfl (fun ls hl => ?_)
      refine lv_iinc (k := 1) (v := nI (_ + 1)) (lv' := [(4, .int _), (3, .int _), (2, .int _), (0, .ref _)]) hx hb dX1_back_56 hl rfl (inc1 _) (by decide) rfl (fun ls hl => ?_)
      refine lv_goto (tgt := 24) hx hb dX1_back_59 rfl ?_
      exact ih (i + 1) _ _ _ _ (by omega) (by omega) hm w (lv_sub hl [0, 1, 2, 3] rfl)

end SA
set_option maxHeartbeats 4000000 in
set_option maxRecDepth 100000 in
theorem c_X1_back {l : Launch} {E : En} {M : Mt} {n k : Nat} (dn : dN E) {q j r : Nat} (hq : q < n) (hj : j < 2147483648) (ok : okN M n) (hm : bkF M j q = some r) : MI l yX1_back (.code yX1_back cX1_back 5 (some .int)) 1 22 E [.ref (ad E 0), .int (nI q), .int (nI j)] M n k (nI r)  (M) (n) (k) := by
  refine MI.of dn (own := RX1) (by decide) rfl (Nat.le_of_ble_eq_true rfl) (fun p e s m args below meth c ls Q K w hl ret => ?_)
  have hx := K.1.1
  have hb := K.1.2.1
  have hR : 1 ≤ (rmA 1 22).frames ∧ 22 ≤ (rmA 1 22).locals := ⟨Nat.le_refl _, Nat.le_refl _⟩
  have hf : 0 ≤ (rmA 1 22).cells ∧ 0 ≤ (rmA 1 22).slots := ⟨Nat.le_refl _, Nat.le_refl _⟩
  have hl : lv_has ls 5 [(0, .ref (ad E 0)), (1, .int (nI q)), (2, .int (nI j))] := hl
  refine lv_aload_n hx hb dX1_back_0 rfl (lv_at hl 0 rfl) ?_
  refine lv_iload_n hx hb dX1_back_1 rfl (lv_at hl 1 rfl) ?_
  refine callv K w (c_X1_checkCommit dn hq ok.1) (lk_X1_64 K ⟨Nat.le_trans (Nat.le_of_ble_eq_true rfl) hR.1, Nat.le_trans (Nat.le_of_ble_eq_true rfl) hR.2⟩) (recv0 K w) rfl hl.1 rfl (Nat.le_of_ble_eq_true rfl) dX1_back_2 hf (fun H locs w => ?_)
  refine lv_iload_n hx hb dX1_back_5 rfl (lv_at hl 2 rfl) ?_
  refine lv_if_ge (tgt := 19) hx hb dX1_back_6 rfl (fun _ => ?_) (fun h9 => absurd (nI_pos' hj) h9)
  refine lv_iload_n hx hb dX1_back_19 rfl (lv_at hl 1 rfl) ?_
  refine lv_istore_n (lv' := [(3, .int _), (0, .ref _), (1, .int _), (2, .int _)]) hx hb dX1_back_20 rfl hl (by decide) rfl (fun ls hl => ?_)
  refine lv_iconst (v := nI 0) hx hb dX1_back_21 (by decide) ?_
  refine lv_istore (lv' := [(4, .int _), (3, .int _), (0, .ref _), (1, .int _), (2, .int _)]) hx hb dX1_back_22 hl (by decide) rfl (fun ls hl => ?_)
  exact lp_back K ⟨Nat.le_trans (Nat.le_of_ble_eq_true rfl) hR.1, Nat.le_trans (Nat.le_of_ble_eq_true rfl) hR.2⟩ hf hj ok ret j 0 q _ _ _ (by omega) hq hm w (lv_sub hl [0, 1, 4, 2] rfl)

set_option maxHeartbeats 4000000 in
set_option maxRecDepth 100000 in
theorem t_X1_back_a {l : Launch} {E : En} {M : Mt} {n k : Nat} (hst : l.stackTraces = false) (dn : dN E) {x y : Int32} (hx0 : x < 0 ∨ nI n ≤ x) : MT l yX1_back (.code yX1_back cX1_back 5 (some .int)) 7 111 E [.ref (ad E 0), .int x, .int y] M n k "java/lang/IllegalArgumentException" (M) (n) (k) := by
  refine MT.of hst dn (by decide) rfl (Nat.le_of_ble_eq_true rfl) (fun p e s m args below meth c ls Q K z w hl out thr => ?_)
  have hx := K.1.1
  have hb := K.1.2.1
  have hR : 7 ≤ (rmx 7 111).frames ∧ 111 ≤ (rmx 7 111).locals := ⟨Nat.le_refl _, Nat.le_refl _⟩
  have hf : 0 ≤ (rmx 7 111).cells ∧ 0 ≤ (rmx 7 111).slots := ⟨Nat.zero_le _, Nat.zero_le _⟩
  have hl : lv_has ls 5 [(0, .ref (ad E 0)), (1, .int x), (2, .int y)] := hl
  refine lv_aload_n hx hb dX1_back_0 rfl (lv_at hl 0 rfl) ?_
  refine lv_iload_n hx hb dX1_back_1 rfl (lv_at hl 1 rfl) ?_
  exact callt K z w (t_X1_checkCommit hst dn hx0) (lk_X1_64 K ⟨Nat.le_trans (Nat.le_of_ble_eq_true rfl) hR.1, Nat.le_trans (Nat.le_of_ble_eq_true rfl) hR.2⟩) (recv0 K w) rfl hl.1 rfl (Nat.le_of_ble_eq_true rfl) dX1_back_2 ⟨Nat.le_of_ble_eq_true rfl, Nat.le_of_ble_eq_true rfl⟩ out

set_option maxHeartbeats 4000000 in
set_option maxRecDepth 100000 in
theorem t_X1_back_b {l : Launch} {E : En} {M : Mt} {n k : Nat} (hst : l.stackTraces = false) (dn : dN E) {q : Nat} {y : Int32} (hq : q < n) (hn : n ≤ 2000) (hy : y < 0) : MT l yX1_back (.code yX1_back cX1_back 5 (some .int)) 7 111 E [.ref (ad E 0), .int (nI q), .int y] M n k "java/lang/IllegalArgumentException" (M) (n) (k) := by
  refine MT.of hst dn (by decide) rfl (Nat.le_of_ble_eq_true rfl) (fun p e s m args below meth c ls Q K z w hl out thr => ?_)
  have hx := K.1.1
  have hb := K.1.2.1
  have hR : 7 ≤ (rmx 7 111).frames ∧ 111 ≤ (rmx 7 111).locals := ⟨Nat.le_refl _, Nat.le_refl _⟩
  have hf : 0 ≤ (rmx 7 111).cells ∧ 0 ≤ (rmx 7 111).slots := ⟨Nat.zero_le _, Nat.zero_le _⟩
  have hl : lv_has ls 5 [(0, .ref (ad E 0)), (1, .int (nI q)), (2, .int y)] := hl
  refine lv_aload_n hx hb dX1_back_0 rfl (lv_at hl 0 rfl) ?_
  refine lv_iload_n hx hb dX1_back_1 rfl (lv_at hl 1 rfl) ?_
  refine callv K w (c_X1_checkCommit dn hq hn) (lk_X1_64 K ⟨Nat.le_trans (Nat.le_of_ble_eq_true rfl) hR.1, Nat.le_trans (Nat.le_of_ble_eq_true rfl) hR.2⟩) (recv0 K w) rfl hl.1 rfl (Nat.le_of_ble_eq_true rfl) dX1_back_2 hf (fun H locs w => ?_)
  refine lv_iload_n hx hb dX1_back_5 rfl (lv_at hl 2 rfl) ?_
  refine lv_if_ge (tgt := 19) hx hb dX1_back_6 rfl (fun h9 => absurd h9 (fun h => nlt_le h hy)) (fun _ => ?_)
  exact thr w xIAE (List.mem_of_getElem? (i := 3) rfl) hl.1 (Nat.le_of_ble_eq_true rfl) (by decide) (by decide) dX1_back_9 dX1_back_12 dX1_back_13 dX1_back_15 dX1_back_18

set_option maxHeartbeats 4000000 in
set_option maxRecDepth 100000 in
theorem t_X1_back_c {l : Launch} {E : En} {M : Mt} {n k : Nat} (hst : l.stackTraces = false) (dn : dN E) {q j : Nat} (hq : q < n) (hj : j < 2147483648) (ok : okN M n) (hm : bkF M j q = none) : MT l yX1_back (.code yX1_back cX1_back 5 (some .int)) 7 111 E [.ref (ad E 0), .int (nI q), .int (nI j)] M n k "java/util/NoSuchElementException" (M) (n) (k) := by
  refine MT.of hst dn (by decide) rfl (Nat.le_of_ble_eq_true rfl) (fun p e s m args below meth c ls Q K z w hl out thr => ?_)
  have hx := K.1.1
  have hb := K.1.2.1
  have hR : 7 ≤ (rmx 7 111).frames ∧ 111 ≤ (rmx 7 111).locals := ⟨Nat.le_refl _, Nat.le_refl _⟩
  have hf : 0 ≤ (rmx 7 111).cells ∧ 0 ≤ (rmx 7 111).slots := ⟨Nat.zero_le _, Nat.zero_le _⟩
  have hl : lv_has ls 5 [(0, .ref (ad E 0)), (1, .int (nI q)), (2, .int (nI j))] := hl
  refine lv_aload_n hx hb dX1_back_0 rfl (lv_at hl 0 rfl) ?_
  refine lv_iload_n hx hb dX1_back_1 rfl (lv_at hl 1 rfl) ?_
  refine callv K w (c_X1_checkCommit dn hq ok.1) (lk_X1_64 K ⟨Nat.le_trans (Nat.le_of_ble_eq_true rfl) hR.1, Nat.le_trans (Nat.le_of_ble_eq_true rfl) hR.2⟩) (recv0 K w) rfl hl.1 rfl (Nat.le_of_ble_eq_true rfl) dX1_back_2 hf (fun H locs w => ?_)
  refine lv_iload_n hx hb dX1_back_5 rfl (lv_at hl 2 rfl) ?_
  refine lv_if_ge (tgt := 19) hx hb dX1_back_6 rfl (fun _ => ?_) (fun h9 => absurd (nI_pos' hj) h9)
  refine lv_iload_n hx hb dX1_back_19 rfl (lv_at hl 1 rfl) ?_
  refine lv_istore_n (lv' := [(3, .int _), (0, .ref _), (1, .int _), (2, .int _)]) hx hb dX1_back_20 rfl hl (by decide) rfl (fun ls hl => ?_)
  refine lv_iconst (v := nI 0) hx hb dX1_back_21 (by decide) ?_
  refine lv_istore (lv' := [(4, .int _), (3, .int _), (0, .ref _), (1, .int _), (2, .int _)]) hx hb dX1_back_22 hl (by decide) rfl (fun ls hl => ?_)
  exact lp_backt K ⟨Nat.le_trans (Nat.le_of_ble_eq_true rfl) hR.1, Nat.le_trans (Nat.le_of_ble_eq_true rfl) hR.2⟩ hf hj ok thr j 0 q _ _ _ (by omega) hq hm w (lv_sub hl [0, 1, 4, 2] rfl)
