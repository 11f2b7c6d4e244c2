theorem nlt_or {x y : Int32} (h0 : ¬ x < 0) (h : x < 0 ∨ y ≤ x) : ¬ x < y := nlt_le (h.elim (fun h1 => absurd h1 h0) id)
/-- a parent that is let in, or none -/
def oI (o : Option Nat) : Int32 := match o with
  | none => -1
  | some u => nI u
def oB (o : Option Nat) (n : Nat) : Prop := ∀ u, o = some u → u < n

set_option maxHeartbeats 4000000 in
set_option maxRecDepth 100000 in
theorem t_X1_checkCommit {l : Launch} {E : En} {M : Mt} {n k : Nat} (hst : l.stackTraces = false) (dn : dN E) {x : Int32} (hx0 : x < 0 ∨ nI n ≤ x) : MT l yX1_checkCommit (.code yX1_checkCommit cX1_checkCommit 2 none) 6 90 E [.ref (ad E 0), .int x] M n k "java/lang/IllegalArgumentException" (M) (n) (k) := by
  refine MT.of hst dn (by decide) rfl (Nat.le_of_ble_eq_true rfl) (fun p e s m args below meth c ls Q K z w hl out thr => ?_)
  have hx := K.1.1
  have hb := K.1.2.1
  have hR : 6 ≤ (rmx 6 90).frames ∧ 90 ≤ (rmx 6 90).locals := ⟨Nat.le_refl _, Nat.le_refl _⟩
  have hf : 0 ≤ (rmx 6 90).cells ∧ 0 ≤ (rmx 6 90).slots := ⟨Nat.zero_le _, Nat.zero_le _⟩
  have hl : lv_has ls 2 [(0, .ref (ad E 0)), (1, .int x)] := hl
  by_cases h0 : x < 0
  · refine lv_iload_n hx hb dX1_checkCommit_0 rfl (lv_at hl 1 rfl) ?_
    refine lv_if_lt (tgt := 12) hx hb dX1_checkCommit_1 rfl (fun _ => ?_) (fun h9 => absurd h0 h9)
    exact thr w xIAE (List.mem_of_getElem? (i := 6) rfl) hl.1 (Nat.le_of_ble_eq_true rfl) (by decide) (by decide) dX1_checkCommit_12 dX1_checkCommit_15 dX1_checkCommit_16 dX1_checkCommit_18 dX1_checkCommit_21
  · refine lv_iload_n hx hb dX1_checkCommit_0 rfl (lv_at hl 1 rfl) ?_
    refine lv_if_lt (tgt := 12) hx hb dX1_checkCommit_1 rfl (fun h9 => absurd h9 h0) (fun _ => ?_)
    refine lv_iload_n hx hb dX1_checkCommit_4 rfl (lv_at hl 1 rfl) ?_
    refine lv_aload_n hx hb dX1_checkCommit_5 rfl (lv_at hl 0 rfl) ?_
    refine gf_X1_commits K w dX1_checkCommit_6 ?_
    refine lv_icmp_lt (tgt := 22) hx hb dX1_checkCommit_9 rfl (fun h9 => absurd h9 (nlt_or h0 hx0)) (fun _ => ?_)
    exact thr w xIAE (List.mem_of_getElem? (i := 6) rfl) hl.1 (Nat.le_of_ble_eq_true rfl) (by decide) (by decide) dX1_checkCommit_12 dX1_checkCommit_15 dX1_checkCommit_16 dX1_checkCommit_18 dX1_checkCommit_21

set_option maxHeartbeats 4000000 in
set_option maxRecDepth 100000 in
theorem t_X1_checkParentOrNone {l : Launch} {E : En} {M : Mt} {n k : Nat} (hst : l.stackTraces = false) (dn : dN E) {x : Int32} (hx1 : ¬ x = -1) (hx0 : x < 0 ∨ nI n ≤ x) : MT l yX1_checkParentOrNone (.code yX1_checkParentOrNone cX1_checkParentOrNone 2 none) 7 111 E [.ref (ad E 0), .int x] M n k "java/lang/IllegalArgumentException" (M) (n) (k) := by
  refine MT.of hst dn (by decide) rfl (Nat.le_of_ble_eq_true rfl) (fun p e s m args below meth c ls Q K z w hl out thr => ?_)
  have hx := K.1.1
  have hb := K.1.2.1
  have hR : 7 ≤ (rmx 7 111).frames ∧ 111 ≤ (rmx 7 111).locals := ⟨Nat.le_refl _, Nat.le_refl _⟩
  have hf : 0 ≤ (rmx 7 111).cells ∧ 0 ≤ (rmx 7 111).slots := ⟨Nat.zero_le _, Nat.zero_le _⟩
  have hl : lv_has ls 2 [(0, .ref (ad E 0)), (1, .int x)] := hl
  refine lv_iload_n hx hb dX1_checkParentOrNone_0 rfl (lv_at hl 1 rfl) ?_
  refine lv_iconst (v := -1) hx hb dX1_checkParentOrNone_1 (by decide) ?_
  refine lv_icmp_eq (tgt := 10) hx hb dX1_checkParentOrNone_2 rfl (fun h9 => absurd h9 hx1) (fun _ => ?_)
  refine lv_aload_n hx hb dX1_checkParentOrNone_5 rfl (lv_at hl 0 rfl) ?_
  refine lv_iload_n hx hb dX1_checkParentOrNone_6 rfl (lv_at hl 1 rfl) ?_
  exact callt K z w (t_X1_checkCommit hst dn hx0) (lk_X1_64 K ⟨Nat.le_trans (Nat.le_of_ble_eq_true rfl) hR.1, Nat.le_trans (Nat.le_of_ble_eq_true rfl) hR.2⟩) (recv0 K w) rfl hl.1 rfl (Nat.le_of_ble_eq_true rfl) dX1_checkParentOrNone_7 ⟨Nat.le_of_ble_eq_true rfl, Nat.le_of_ble_eq_true rfl⟩ out

set_option maxHeartbeats 4000000 in
set_option maxRecDepth 100000 in
theorem t_X1_checkHolder {l : Launch} {E : En} {M : Mt} {n k : Nat} (hst : l.stackTraces = false) (dn : dN E) {x : Int32} (hx0 : x < 0 ∨ nI 2 ≤ x) : MT l yX1_checkHolder (.code yX1_checkHolder cX1_checkHolder 1 none) 6 90 E [.int x] M n k "java/lang/IllegalArgumentException" (M) (n) (k) := by
  refine MT.of hst dn (by decide) rfl (Nat.le_of_ble_eq_true rfl) (fun p e s m args below meth c ls Q K z w hl out thr => ?_)
  have hx := K.1.1
  have hb := K.1.2.1
  have hR : 6 ≤ (rmx 6 90).frames ∧ 90 ≤ (rmx 6 90).locals := ⟨Nat.le_refl _, Nat.le_refl _⟩
  have hf : 0 ≤ (rmx 6 90).cells ∧ 0 ≤ (rmx 6 90).slots := ⟨Nat.zero_le _, Nat.zero_le _⟩
  have hl : lv_has ls 1 [(0, .int x)] := hl
  by_cases h0 : x < 0
  · refine lv_iload_n hx hb dX1_checkHolder_0 rfl (lv_at hl 0 rfl) ?_
    refine lv_if_lt (tgt := 9) hx hb dX1_checkHolder_1 rfl (fun _ => ?_) (fun h9 => absurd h0 h9)
    exact thr w xIAE (List.mem_of_getElem? (i := 7) rfl) hl.1 (Nat.le_of_ble_eq_true rfl) (by decide) (by decide) dX1_checkHolder_9 dX1_checkHolder_12 dX1_checkHolder_13 dX1_checkHolder_15 dX1_checkHolder_18
  · refine lv_iload_n hx hb dX1_checkHolder_0 rfl (lv_at hl 0 rfl) ?_
    refine lv_if_lt (tgt := 9) hx hb dX1_checkHolder_1 rfl (fun h9 => absurd h9 h0) (fun _ => ?_)
    refine lv_iload_n hx hb dX1_checkHolder_4 rfl (lv_at hl 0 rfl) ?_
    refine lv_iconst (v := nI 2) hx hb dX1_checkHolder_5 (by decide) ?_
    refine lv_icmp_lt (tgt := 19) hx hb dX1_checkHolder_6 rfl (fun h9 => absurd h9 (nlt_or h0 hx0)) (fun _ => ?_)
    exact thr w xIAE (List.mem_of_getElem? (i := 7) rfl) hl.1 (Nat.le_of_ble_eq_true rfl) (by decide) (by decide) dX1_checkHolder_9 dX1_checkHolder_12 dX1_checkHolder_13 dX1_checkHolder_15 dX1_checkHolder_18

set_option maxHeartbeats 4000000 in
set_option maxRecDepth 100000 in
theorem t_X1_checkPlace {l : Launch} {E : En} {M : Mt} {n k : Nat} (hst : l.stackTraces = false) (dn : dN E) {x y : Int32} (hx0 : x < 0 ∨ y ≤ x) : MT l yX1_checkPlace (.code yX1_checkPlace cX1_checkPlace 2 none) 6 90 E [.int x, .int y] M n k "java/util/NoSuchElementException" (M) (n) (k) := by
  refine MT.of hst dn (by decide) rfl (Nat.le_of_ble_eq_true rfl) (fun p e s m args below meth c ls Q K z w hl out thr => ?_)
  have hx := K.1.1
  have hb := K.1.2.1
  have hR : 6 ≤ (rmx 6 90).frames ∧ 90 ≤ (rmx 6 90).locals := ⟨Nat.le_refl _, Nat.le_refl _⟩
  have hf : 0 ≤ (rmx 6 90).cells ∧ 0 ≤ (rmx 6 90).slots := ⟨Nat.zero_le _, Nat.zero_le _⟩
  have hl : lv_has ls 2 [(0, .int x), (1, .int y)] := hl
  by_cases h0 : x < 0
  · refine lv_iload_n hx hb dX1_checkPlace_0 rfl (lv_at hl 0 rfl) ?_
    refine lv_if_lt (tgt := 9) hx hb dX1_checkPlace_1 rfl (fun _ => ?_) (fun h9 => absurd h0 h9)
    exact thr w xNSE (List.mem_of_getElem? (i := 8) rfl) hl.1 (Nat.le_of_ble_eq_true rfl) (by decide) (by decide) dX1_checkPlace_9 dX1_checkPlace_12 dX1_checkPlace_13 dX1_checkPlace_15 dX1_checkPlace_18
  · refine lv_iload_n hx hb dX1_checkPlace_0 rfl (lv_at hl 0 rfl) ?_
    refine lv_if_lt (tgt := 9) hx hb dX1_checkPlace_1 rfl (fun h9 => absurd h9 h0) (fun _ => ?_)
    refine lv_iload_n hx hb dX1_checkPlace_4 rfl (lv_at hl 0 rfl) ?_
    refine lv_iload_n hx hb dX1_checkPlace_5 rfl (lv_at hl 1 rfl) ?_
    refine lv_icmp_lt (tgt := 19) hx hb dX1_checkPlace_6 rfl (fun h9 => absurd h9 (nlt_or h0 hx0)) (fun _ => ?_)
    exact thr w xNSE (List.mem_of_getElem? (i := 8) rfl) hl.1 (Nat.le_of_ble_eq_true rfl) (by decide) (by decide) dX1_checkPlace_9 dX1_checkPlace_12 dX1_checkPlace_13 dX1_checkPlace_15 dX1_checkPlace_18

theorem c_X1_checkParentOrNone {l : Launch} {E : En} {M : Mt} {n k : Nat} (dn : dN E) {o : Option Nat} (ho : oB o n) (hn : n ≤ 2000) : MV l yX1_checkParentOrNone (.code yX1_checkParentOrNone cX1_checkParentOrNone 2 none) 1 21 E [.ref (ad E 0), .int (oI o)] M n k M n k := by
  cases o with
  | none => exact c_X1_checkParentOrNone_a dn
  | some u => exact c_X1_checkParentOrNone_b dn (ho u rfl) hn
def lkO (M : Mt) (q : Nat) (o : Option Nat) : Mt := match o with
  | none => M
  | some u => lkF M q u

theorem c_X1_linkUnlessNone {l : Launch} {E : En} {M : Mt} {n k : Nat} (dn : dN E) {q : Nat} {o : Option Nat} (ho : oB o 2000) (hq : q < 2000) (hj : M 4 q = nI (pcn M q)) (h4 : pcn M q < 4) : MV l yX1_linkUnlessNone (.code yX1_linkUnlessNone cX1_linkUnlessNone 3 none) 2 46 E [.ref (ad E 0), .int (nI q), .int (oI o)] M n k (lkO M q o) n k := by
  cases o with
  | none => exact c_X1_linkUnlessNone_a dn
  | some u => exact c_X1_linkUnlessNone_b dn hq (ho u rfl) hj h4
theorem pcn_lk {M : Mt} {q u : Nat} (hj : M 4 q = nI (pcn M q)) (h4 : pcn M q < 4) : lkF M q u 4 q = nI (pcn M q + 1) ∧ pcn (lkF M q u) q = pcn M q + 1 := by
  have e : lkF M q u 4 q = nI (pcn M q + 1) := by
    show upd (M 4) q (M 4 q + nI 1) q = _
    rw [pk_us, hj, nI_add]
  refine ⟨e, ?_⟩
  rw [pcn, e]
  exact nI_clamp (by omega)
theorem pcn_lkO {M : Mt} {q j : Nat} {o : Option Nat} (hj : M 4 q = nI (pcn M q)) (hb : pcn M q ≤ j) (h4 : j < 4) : lkO M q o 4 q = nI (pcn (lkO M q o) q) ∧ pcn (lkO M q o) q ≤ j + 1 := by
  cases o with
  | none => exact ⟨hj, Nat.le_succ_of_le hb⟩
  | some u =>
    obtain ⟨e1, e2⟩ := pcn_lk (u := u) hj (by omega)
    refine ⟨by rw [show lkO M q (some u) = lkF M q u from rfl, e2]; exact e1, ?_⟩
    rw [show lkO M q (some u) = lkF M q u from rfl, e2]
    omega
