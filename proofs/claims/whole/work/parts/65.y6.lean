theorem lt_m1 {x : Int32} (h1 : ¬ x = -1) (h : x < 0) : x < -1 := by
  have h3 : ¬ x.toInt = (-1 : Int32).toInt := fun e => h1 (Int32.toInt_inj.mp e)
  simp only [Int32.lt_iff_toInt_lt] at h ⊢
  have e1 : (-1 : Int32).toInt = -1 := by decide
  have e0 : (0 : Int32).toInt = 0 := by decide
  rw [e1] at h3 ⊢
  rw [e0] at h
  omega
theorem i32_lt_of {a b x : Int32} (h : a < b) (h2 : b ≤ x) : a < x := by
  simp only [Int32.lt_iff_toInt_lt, Int32.le_iff_toInt_le] at h h2 ⊢
  omega
theorem dB_f {P : Prop} {d : Decidable P} (h : ¬ P) : bI (@decide P d) = 0 := by rw [decide_eq_false h]; rfl
theorem dB_t {P : Prop} {d : Decidable P} (h : P) : ¬ bI (@decide P d) = 0 := by rw [decide_eq_true h]; decide
theorem in_ok {q z : Nat} (h : q < z) (hz : z ≤ 2000) : ¬ (nI q < 0 ∨ nI z ≤ nI q) := fun h2 => h2.elim (nI_pos (by omega)) (nI_ge h (by omega))
theorem iaF_dec {M : Mt} {q z : Nat} (h : iaF M q z 0 = false) : bI (iaF M q z 0) = 0 := by rw [h]; rfl
/-- base's first loop: both, and what is left -/
def an2 (M : Mt) (i : Nat) : Int32 := if M 7 i = 0 then nI 0 else if M 8 i = 0 then nI 0 else nI 1
def b1S (M : Mt) (i : Nat) (v : Int32) : Mt := va_up (va_up (va_up M 7 (upd (M 7) i v)) 9 (upd (M 9) i v)) 8 (upd (M 8) i (nI 0))
def b1F : Nat → Nat → Mt → Mt
  | 0, _, M => M
  | d + 1, i, M => b1F d (i + 1) (b1S M i (an2 M i))
def b2F : Nat → Nat → Mt → Mt
  | 0, _, M => M
  | d + 1, i, M => b2F d (i + 1) (if M 7 i = 0 then M else stF 8 i (pcn M i) 0 M)
def b3F : Nat → Nat → Mt → Mt
  | 0, _, M => M
  | d + 1, i, M => b3F d (i + 1) (if M 8 i = 0 then M else va_up M 9 (upd (M 9) i (nI 0)))
theorem b1F_row {a : Nat} (h7 : a ≠ 7) (h8 : a ≠ 8) (h9 : a ≠ 9) : ∀ {d i : Nat} {M : Mt}, b1F d i M a = M a := by
  intro d
  induction d with
  | zero => intro i M; rfl
  | succ d ih => intro i M; rw [b1F, ih, b1S, va_up_ne _ _ h8, va_up_ne _ _ h9, va_up_ne _ _ h7]
theorem b2F_row {a : Nat} (h8 : a ≠ 8) : ∀ {d i : Nat} {M : Mt}, b2F d i M a = M a := by
  intro d
  induction d with
  | zero => intro i M; rfl
  | succ d ih =>
    intro i M
    rw [b2F, ih]
    split
    · rfl
    · rw [stF_row h8]
theorem b3F_row {a : Nat} (h9 : a ≠ 9) : ∀ {d i : Nat} {M : Mt}, b3F d i M a = M a := by
  intro d
  induction d with
  | zero => intro i M; rfl
  | succ d ih =>
    intro i M
    rw [b3F, ih]
    split
    · rfl
    · rw [va_up_ne _ _ h9]
theorem frF_row {M : Mt} {z r q a : Nat} (h : a ≠ r) : frF M z r q a = M a := by rw [frF, crF_row h, fmF_row h]
theorem hdR_row {M : Mt} {z r q a : Nat} (h : a ≠ r) : hdR M z r q a = M a := by rw [hdR, crF_row h, heF_row h]
def ba0 (M : Mt) (z a b : Nat) : Mt := frF (frF M z 7 a) z 8 b
def baR (M : Mt) (z a b : Nat) : Mt := b3F z 0 (crF 8 z (b2F z 0 (b1F z 0 (ba0 M z a b))))

set_option maxHeartbeats 4000000 in
set_option maxRecDepth 100000 in
theorem r_X2_add_a {l : Launch} {E : En} {M : Mt} {z t f : Nat} (dn : dM E) {ti ky x y v : Int32} (h1 : ¬ x = -1) (h2 : x < 0 ∨ nI z ≤ x) : MI2 l yX2_add (.code yX2_add cX2_add 6 (some .int)) 1 22 E [.ref (ad E 0), .int ti, .int ky, .int x, .int y, .int v] M z t f (nI 0) M z 1 f := by
  refine MI2.of dn (own := RX2) (by decide) rfl (Nat.le_of_ble_eq_true rfl) (fun p e s m args below meth c ls Q K w hl ret => ?_)
  have hx := K.1.1
  have hb := K.1.2.1
  have hR : 1 ≤ (rmA 1 22).frames ∧ 22 ≤ (rmA 1 22).locals := ⟨Nat.le_refl _, Nat.le_refl _⟩
  have hf : 0 ≤ (rmA 1 22).cells ∧ 0 ≤ (rmA 1 22).slots := ⟨Nat.le_refl _, Nat.le_refl _⟩
  have hl : lv_has ls 6 [(0, .ref (ad E 0)), (1, .int ti), (2, .int ky), (3, .int x), (4, .int y), (5, .int v)] := hl
  by_cases h0 : x < 0
  · refine lv_aload_n hx hb dX2_add_0 rfl (lv_at hl 0 rfl) ?_
    refine lv_iconst (v := nI 0) hx hb dX2_add_1 (by decide) ?_
    refine pf_X2_thrown K w rfl dX2_add_2 (fun H locs w => ?_)
    refine lv_iload_n hx hb dX2_add_5 rfl (lv_at hl 3 rfl) ?_
    refine lv_iconst (v := -1) hx hb dX2_add_6 (by decide) ?_
    refine lv_icmp_lt (tgt := 48) hx hb dX2_add_7 rfl (fun _ => ?_) (fun h9 => absurd (lt_m1 h1 h0) h9)
    refine lv_aload_n hx hb dX2_add_48 rfl (lv_at hl 0 rfl) ?_
    refine lv_iconst (v := nI 1) hx hb dX2_add_49 (by decide) ?_
    refine calli2 K w (c_X2_refuse dn) (lk_X2_45 K ⟨Nat.le_trans (Nat.le_of_ble_eq_true rfl) hR.1, Nat.le_trans (Nat.le_of_ble_eq_true rfl) hR.2⟩) (recvM K w) rfl hl.1 rfl (Nat.le_of_ble_eq_true rfl) dX2_add_50 hf (fun H locs w => ?_)
    exact ret w rfl dX2_add_53
  · refine lv_aload_n hx hb dX2_add_0 rfl (lv_at hl 0 rfl) ?_
    refine lv_iconst (v := nI 0) hx hb dX2_add_1 (by decide) ?_
    refine pf_X2_thrown K w rfl dX2_add_2 (fun H locs w => ?_)
    refine lv_iload_n hx hb dX2_add_5 rfl (lv_at hl 3 rfl) ?_
    refine lv_iconst (v := -1) hx hb dX2_add_6 (by decide) ?_
    refine lv_icmp_lt (tgt := 48) hx hb dX2_add_7 rfl (fun h9 => absurd h9 (fun h => h0 (i32_lt_trans h (by decide)))) (fun _ => ?_)
    refine lv_iload_n hx hb dX2_add_10 rfl (lv_at hl 3 rfl) ?_
    refine lv_aload_n hx hb dX2_add_11 rfl (lv_at hl 0 rfl) ?_
    refine gf_X2_size K w dX2_add_12 ?_
    refine lv_icmp_ge (tgt := 48) hx hb dX2_add_15 rfl (fun _ => ?_) (fun h9 => absurd (h2.elim (fun h => absurd h h0) id) h9)
    refine lv_aload_n hx hb dX2_add_48 rfl (lv_at hl 0 rfl) ?_
    refine lv_iconst (v := nI 1) hx hb dX2_add_49 (by decide) ?_
    refine calli2 K w (c_X2_refuse dn) (lk_X2_45 K ⟨Nat.le_trans (Nat.le_of_ble_eq_true rfl) hR.1, Nat.le_trans (Nat.le_of_ble_eq_true rfl) hR.2⟩) (recvM K w) rfl hl.1 rfl (Nat.le_of_ble_eq_true rfl) dX2_add_50 hf (fun H locs w => ?_)
    exact ret w rfl dX2_add_53

set_option maxHeartbeats 4000000 in
set_option maxRecDepth 100000 in
theorem r_X2_add_b {l : Launch} {E : En} {M : Mt} {z t f : Nat} (dn : dM E) {ti ky x v : Int32} {a : Option Nat} (ha : oB a z) (hz : z ≤ 2000) (h1 : ¬ x = -1) (h2 : x < 0 ∨ nI z ≤ x) : MI2 l yX2_add (.code yX2_add cX2_add 6 (some .int)) 1 22 E [.ref (ad E 0), .int ti, .int ky, .int (oI a), .int x, .int v] M z t f (nI 0) M z 1 f := by
  refine MI2.of dn (own := RX2) (by decide) rfl (Nat.le_of_ble_eq_true rfl) (fun p e s m args below meth c ls Q K w hl ret => ?_)
  have hx := K.1.1
  have hb := K.1.2.1
  have hR : 1 ≤ (rmA 1 22).frames ∧ 22 ≤ (rmA 1 22).locals := ⟨Nat.le_refl _, Nat.le_refl _⟩
  have hf : 0 ≤ (rmA 1 22).cells ∧ 0 ≤ (rmA 1 22).slots := ⟨Nat.le_refl _, Nat.le_refl _⟩
  have hl : lv_has ls 6 [(0, .ref (ad E 0)), (1, .int ti), (2, .int ky), (3, .int (oI a)), (4, .int x), (5, .int v)] := hl
  by_cases h0 : x < 0
  · refine lv_aload_n hx hb dX2_add_0 rfl (lv_at hl 0 rfl) ?_
    refine lv_iconst (v := nI 0) hx hb dX2_add_1 (by decide) ?_
    refine pf_X2_thrown K w rfl dX2_add_2 (fun H locs w => ?_)
    refine lv_iload_n hx hb dX2_add_5 rfl (lv_at hl 3 rfl) ?_
    refine lv_iconst (v := -1) hx hb dX2_add_6 (by decide) ?_
    refine lv_icmp_lt (tgt := 48) hx hb dX2_add_7 rfl (fun h9 => absurd h9 (oI_lo ha hz)) (fun _ => ?_)
    refine lv_iload_n hx hb dX2_add_10 rfl (lv_at hl 3 rfl) ?_
    refine lv_aload_n hx hb dX2_add_11 rfl (lv_at hl 0 rfl) ?_
    refine gf_X2_size K w dX2_add_12 ?_
    refine lv_icmp_ge (tgt := 48) hx hb dX2_add_15 rfl (fun h9 => absurd h9 (oI_hi ha hz)) (fun _ => ?_)
    refine lv_iload hx hb dX2_add_18 (lv_at hl 4 rfl) ?_
    refine lv_iconst (v := -1) hx hb dX2_add_20 (by decide) ?_
    refine lv_icmp_lt (tgt := 48) hx hb dX2_add_21 rfl (fun _ => ?_) (fun h9 => absurd (lt_m1 h1 h0) h9)
    refine lv_aload_n hx hb dX2_add_48 rfl (lv_at hl 0 rfl) ?_
    refine lv_iconst (v := nI 1) hx hb dX2_add_49 (by decide) ?_
    refine calli2 K w (c_X2_refuse dn) (lk_X2_45 K ⟨Nat.le_trans (Nat.le_of_ble_eq_true rfl) hR.1, Nat.le_trans (Nat.le_of_ble_eq_true rfl) hR.2⟩) (recvM K w) rfl hl.1 rfl (Nat.le_of_ble_eq_true rfl) dX2_add_50 hf (fun H locs w => ?_)
    exact ret w rfl dX2_add_53
  · refine lv_aload_n hx hb dX2_add_0 rfl (lv_at hl 0 rfl) ?_
    refine lv_iconst (v := nI 0) hx hb dX2_add_1 (by decide) ?_
    refine pf_X2_thrown K w rfl dX2_add_2 (fun H locs w => ?_)
    refine lv_iload_n hx hb dX2_add_5 rfl (lv_at hl 3 rfl) ?_
    refine lv_iconst (v := -1) hx hb dX2_add_6 (by decide) ?_
    refine lv_icmp_lt (tgt := 48) hx hb dX2_add_7 rfl (fun h9 => absurd h9 (oI_lo ha hz)) (fun _ => ?_)
    refine lv_iload_n hx hb dX2_add_10 rfl (lv_at hl 3 rfl) ?_
    refine lv_aload_n hx hb dX2_add_11 rfl (lv_at hl 0 rfl) ?_
    refine gf_X2_size K w dX2_add_12 ?_
    refine lv_icmp_ge (tgt := 48) hx hb dX2_add_15 rfl (fun h9 => absurd h9 (oI_hi ha hz)) (fun _ => ?_)
    refine lv_iload hx hb dX2_add_18 (lv_at hl 4 rfl) ?_
    refine lv_iconst (v := -1) hx hb dX2_add_20 (by decide) ?_
    refine lv_icmp_lt (tgt := 48) hx hb dX2_add_21 rfl (fun h9 => absurd h9 (fun h => h0 (i32_lt_trans h (by decide)))) (fun _ => ?_)
    refine lv_iload hx hb dX2_add_24 (lv_at hl 4 rfl) ?_
    refine lv_aload_n hx hb dX2_add_26 rfl (lv_at hl 0 rfl) ?_
    refine gf_X2_size K w dX2_add_27 ?_
    refine lv_icmp_ge (tgt := 48) hx hb dX2_add_30 rfl (fun _ => ?_) (fun h9 => absurd (h2.elim (fun h => absurd h h0) id) h9)
    refine lv_aload_n hx hb dX2_add_48 rfl (lv_at hl 0 rfl) ?_
    refine lv_iconst (v := nI 1) hx hb dX2_add_49 (by decide) ?_
    refine calli2 K w (c_X2_refuse dn) (lk_X2_45 K ⟨Nat.le_trans (Nat.le_of_ble_eq_true rfl) hR.1, Nat.le_trans (Nat.le_of_ble_eq_true rfl) hR.2⟩) (recvM K w) rfl hl.1 rfl (Nat.le_of_ble_eq_true rfl) dX2_add_50 hf (fun H locs w => ?_)
    exact ret w rfl dX2_add_53

set_option maxHeartbeats 4000000 in
set_option maxRecDepth 100000 in
theorem r_X2_add_c {l : Launch} {E : En} {M : Mt} {z t f : Nat} (dn : dM E) {ti ky x : Int32} {a b : Option Nat} (ha : oB a z) (hb0 : oB b z) (hz : z ≤ 2000) (h1 : ¬ x = -1) (h2 : x < 0 ∨ nI z ≤ x) : MI2 l yX2_add (.code yX2_add cX2_add 6 (some .int)) 1 22 E [.ref (ad E 0), .int ti, .int ky, .int (oI a), .int (oI b), .int x] M z t f (nI 0) M z 1 f := by
  refine MI2.of dn (own := RX2) (by decide) rfl (Nat.le_of_ble_eq_true rfl) (fun p e s m args below meth c ls Q K w hl ret => ?_)
  have hx := K.1.1
  have hb := K.1.2.1
  have hR : 1 ≤ (rmA 1 22).frames ∧ 22 ≤ (rmA 1 22).locals := ⟨Nat.le_refl _, Nat.le_refl _⟩
  have hf : 0 ≤ (rmA 1 22).cells ∧ 0 ≤ (rmA 1 22).slots := ⟨Nat.le_refl _, Nat.le_refl _⟩
  have hl : lv_has ls 6 [(0, .ref (ad E 0)), (1, .int ti), (2, .int ky), (3, .int (oI a)), (4, .int (oI b)), (5, .int x)] := hl
  by_cases h0 : x < 0
  · refine lv_aload_n hx hb dX2_add_0 rfl (lv_at hl 0 rfl) ?_
    refine lv_iconst (v := nI 0) hx hb dX2_add_1 (by decide) ?_
    refine pf_X2_thrown K w rfl dX2_add_2 (fun H locs w => ?_)
    refine lv_iload_n hx hb dX2_add_5 rfl (lv_at hl 3 rfl) ?_
    refine lv_iconst (v := -1) hx hb dX2_add_6 (by decide) ?_
    refine lv_icmp_lt (tgt := 48) hx hb dX2_add_7 rfl (fun h9 => absurd h9 (oI_lo ha hz)) (fun _ => ?_)
    refine lv_iload_n hx hb dX2_add_10 rfl (lv_at hl 3 rfl) ?_
    refine lv_aload_n hx hb dX2_add_11 rfl (lv_at hl 0 rfl) ?_
    refine gf_X2_size K w dX2_add_12 ?_
    refine lv_icmp_ge (tgt := 48) hx hb dX2_add_15 rfl (fun h9 => absurd h9 (oI_hi ha hz)) (fun _ => ?_)
    refine lv_iload hx hb dX2_add_18 (lv_at hl 4 rfl) ?_
    refine lv_iconst (v := -1) hx hb dX2_add_20 (by decide) ?_
    refine lv_icmp_lt (tgt := 48) hx hb dX2_add_21 rfl (fun h9 => absurd h9 (oI_lo hb0 hz)) (fun _ => ?_)
    refine lv_iload hx hb dX2_add_24 (lv_at hl 4 rfl) ?_
    refine lv_aload_n hx hb dX2_add_26 rfl (lv_at hl 0 rfl) ?_
    refine gf_X2_size K w dX2_add_27 ?_
    refine lv_icmp_ge (tgt := 48) hx hb dX2_add_30 rfl (fun h9 => absurd h9 (oI_hi hb0 hz)) (fun _ => ?_)
    refine lv_iload hx hb dX2_add_33 (lv_at hl 5 rfl) ?_
    refine lv_iconst (v := -1) hx hb dX2_add_35 (by decide) ?_
    refine lv_icmp_lt (tgt := 48) hx hb dX2_add_36 rfl (fun _ => ?_) (fun h9 => absurd (lt_m1 h1 h0) h9)
    refine lv_aload_n hx hb dX2_add_48 rfl (lv_at hl 0 rfl) ?_
    refine lv_iconst (v := nI 1) hx hb dX2_add_49 (by decide) ?_
    refine calli2 K w (c_X2_refuse dn) (lk_X2_45 K ⟨Nat.le_trans (Nat.le_of_ble_eq_true rfl) hR.1, Nat.le_trans (Nat.le_of_ble_eq_true rfl) hR.2⟩) (recvM K w) rfl hl.1 rfl (Nat.le_of_ble_eq_true rfl) dX2_add_50 hf (fun H locs w => ?_)
    exact ret w rfl dX2_add_53
  · refine lv_aload_n hx hb dX2_add_0 rfl (lv_at hl 0 rfl) ?_
    refine lv_iconst (v := nI 0) hx hb dX2_add_1 (by decide) ?_
    refine pf_X2_thrown K w rfl dX2_add_2 (fun H locs w => ?_)
    refine lv_iload_n hx hb dX2_add_5 rfl (lv_at hl 3 rfl) ?_
    refine lv_iconst (v := -1) hx hb dX2_add_6 (by decide) ?_
    refine lv_icmp_lt (tgt := 48) hx hb dX2_add_7 rfl (fun h9 => absurd h9 (oI_lo ha hz)) (fun _ => ?_)
    refine lv_iload_n hx hb dX2_add_10 rfl (lv_at hl 3 rfl) ?_
    refine lv_aload_n hx hb dX2_add_11 rfl (lv_at hl 0 rfl) ?_
    refine gf_X2_size K w dX2_add_12 ?_
    refine lv_icmp_ge (tgt := 48) hx hb dX2_add_15 rfl (fun h9 => absurd h9 (oI_hi ha hz)) (fun _ => ?_)
    refine lv_iload hx hb dX2_add_18 (lv_at hl 4 rfl) ?_
    refine lv_iconst (v := -1) hx hb dX2_add_20 (by decide) ?_
    refine lv_icmp_lt (tgt := 48) hx hb dX2_add_21 rfl (fun h9 => absurd h9 (oI_lo hb0 hz)) (fun _ => ?_)
    refine lv_iload hx hb dX2_add_24 (lv_at hl 4 rfl) ?_
    refine lv_aload_n hx hb dX2_add_26 rfl (lv_at hl 0 rfl) ?_
    refine gf_X2_size K w dX2_add_27 ?_
    refine lv_icmp_ge (tgt := 48) hx hb dX2_add_30 rfl (fun h9 => absurd h9 (oI_hi hb0 hz)) (fun _ => ?_)
    refine lv_iload hx hb dX2_add_33 (lv_at hl 5 rfl) ?_
    refine lv_iconst (v := -1) hx hb dX2_add_35 (by decide) ?_
    refine lv_icmp_lt (tgt := 48) hx hb dX2_add_36 rfl (fun h9 => absurd h9 (fun h => h0 (i32_lt_trans h (by decide)))) (fun _ => ?_)
    refine lv_iload hx hb dX2_add_39 (lv_at hl 5 rfl) ?_
    refine lv_aload_n hx hb dX2_add_41 rfl (lv_at hl 0 rfl) ?_
    refine gf_X2_size K w dX2_add_42 ?_
    refine lv_icmp_lt (tgt := 54) hx hb dX2_add_45 rfl (fun h9 => absurd h9 (nlt_or h0 h2)) (fun _ => ?_)
    refine lv_aload_n hx hb dX2_add_48 rfl (lv_at hl 0 rfl) ?_
    refine lv_iconst (v := nI 1) hx hb dX2_add_49 (by decide) ?_
    refine calli2 K w (c_X2_refuse dn) (lk_X2_45 K ⟨Nat.le_trans (Nat.le_of_ble_eq_true rfl) hR.1, Nat.le_trans (Nat.le_of_ble_eq_true rfl) hR.2⟩) (recvM K w) rfl hl.1 rfl (Nat.le_of_ble_eq_true rfl) dX2_add_50 hf (fun H locs w => ?_)
    exact ret w rfl dX2_add_53

set_option maxHeartbeats 4000000 in
set_option maxRecDepth 100000 in
theorem r_X2_under_a {l : Launch} {E : En} {M : Mt} {z t f : Nat} (dn : dM E) {x y : Int32} (h2 : x < 0 ∨ nI z ≤ x) : MI2 l yX2_under (.code yX2_under cX2_under 3 (some .int)) 2 45 E [.ref (ad E 0), .int x, .int y] M z t f (nI 0) M z 1 f := by
  refine MI2.of dn (own := RX2) (by decide) rfl (Nat.le_of_ble_eq_true rfl) (fun p e s m args below meth c ls Q K w hl ret => ?_)
  have hx := K.1.1
  have hb := K.1.2.1
  have hR : 2 ≤ (rmA 2 45).frames ∧ 45 ≤ (rmA 2 45).locals := ⟨Nat.le_refl _, Nat.le_refl _⟩
  have hf : 0 ≤ (rmA 2 45).cells ∧ 0 ≤ (rmA 2 45).slots := ⟨Nat.le_refl _, Nat.le_refl _⟩
  have hl : lv_has ls 3 [(0, .ref (ad E 0)), (1, .int x), (2, .int y)] := hl
  refine lv_aload_n hx hb dX2_under_0 rfl (lv_at hl 0 rfl) ?_
  refine lv_iconst (v := nI 0) hx hb dX2_under_1 (by decide) ?_
  refine pf_X2_thrown K w rfl dX2_under_2 (fun H locs w => ?_)
  refine lv_aload_n hx hb dX2_under_5 rfl (lv_at hl 0 rfl) ?_
  refine lv_iload_n hx hb dX2_under_6 rfl (lv_at hl 1 rfl) ?_
  refine calli2 K w (c_X2_there dn) (lk_X2_57 K ⟨Nat.le_trans (Nat.le_of_ble_eq_true rfl) hR.1, Nat.le_trans (Nat.le_of_ble_eq_true rfl) hR.2⟩) (recvM K w) rfl hl.1 rfl (Nat.le_of_ble_eq_true rfl) dX2_under_7 hf (fun H locs w => ?_)
  refine lv_if_eq (tgt := 22) hx hb dX2_under_10 rfl (fun _ => ?_) (fun h9 => absurd (dB_f (fun h => h h2)) h9)
  refine lv_aload_n hx hb dX2_under_22 rfl (lv_at hl 0 rfl) ?_
  refine lv_iconst (v := nI 1) hx hb dX2_under_23 (by decide) ?_
  refine calli2 K w (c_X2_refuse dn) (lk_X2_45 K ⟨Nat.le_trans (Nat.le_of_ble_eq_true rfl) hR.1, Nat.le_trans (Nat.le_of_ble_eq_true rfl) hR.2⟩) (recvM K w) rfl hl.1 rfl (Nat.le_of_ble_eq_true rfl) dX2_under_24 hf (fun H locs w => ?_)
  exact ret w rfl dX2_under_27

set_option maxHeartbeats 4000000 in
set_option maxRecDepth 100000 in
theorem r_X2_under_b {l : Launch} {E : En} {M : Mt} {z t f : Nat} (dn : dM E) {q : Nat} {y : Int32} (hq : q < z) (hz : z ≤ 2000) (h2 : y < 0 ∨ nI q ≤ y) : MI2 l yX2_under (.code yX2_under cX2_under 3 (some .int)) 2 45 E [.ref (ad E 0), .int (nI q), .int y] M z t f (nI 0) M z 1 f := by
  refine MI2.of dn (own := RX2) (by decide) rfl (Nat.le_of_ble_eq_true rfl) (fun p e s m args below meth c ls Q K w hl ret => ?_)
  have hx := K.1.1
  have hb := K.1.2.1
  have hR : 2 ≤ (rmA 2 45).frames ∧ 45 ≤ (rmA 2 45).locals := ⟨Nat.le_refl _, Nat.le_refl _⟩
  have hf : 0 ≤ (rmA 2 45).cells ∧ 0 ≤ (rmA 2 45).slots := ⟨Nat.le_refl _, Nat.le_refl _⟩
  have hl : lv_has ls 3 [(0, .ref (ad E 0)), (1, .int (nI q)), (2, .int y)] := hl
  by_cases h0 : y < 0
  · refine lv_aload_n hx hb dX2_under_0 rfl (lv_at hl 0 rfl) ?_
    refine lv_iconst (v := nI 0) hx hb dX2_under_1 (by decide) ?_
    refine pf_X2_thrown K w rfl dX2_under_2 (fun H locs w => ?_)
    refine lv_aload_n hx hb dX2_under_5 rfl (lv_at hl 0 rfl) ?_
    refine lv_iload_n hx hb dX2_under_6 rfl (lv_at hl 1 rfl) ?_
    refine calli2 K w (c_X2_there dn) (lk_X2_57 K ⟨Nat.le_trans (Nat.le_of_ble_eq_true rfl) hR.1, Nat.le_trans (Nat.le_of_ble_eq_true rfl) hR.2⟩) (recvM K w) rfl hl.1 rfl (Nat.le_of_ble_eq_true rfl) dX2_under_7 hf (fun H locs w => ?_)
    refine lv_if_eq (tgt := 22) hx hb dX2_under_10 rfl (fun h9 => absurd h9 (dB_t (in_ok hq hz))) (fun _ => ?_)
    refine lv_iload_n hx hb dX2_under_13 rfl (lv_at hl 2 rfl) ?_
    refine lv_if_lt (tgt := 22) hx hb dX2_under_14 rfl (fun _ => ?_) (fun h9 => absurd h0 h9)
    refine lv_aload_n hx hb dX2_under_22 rfl (lv_at hl 0 rfl) ?_
    refine lv_iconst (v := nI 1) hx hb dX2_under_23 (by decide) ?_
    refine calli2 K w (c_X2_refuse dn) (lk_X2_45 K ⟨Nat.le_trans (Nat.le_of_ble_eq_true rfl) hR.1, Nat.le_trans (Nat.le_of_ble_eq_true rfl) hR.2⟩) (recvM K w) rfl hl.1 rfl (Nat.le_of_ble_eq_true rfl) dX2_under_24 hf (fun H locs w => ?_)
    exact ret w rfl dX2_under_27
  · refine lv_aload_n hx hb dX2_under_0 rfl (lv_at hl 0 rfl) ?_
    refine lv_iconst (v := nI 0) hx hb dX2_under_1 (by decide) ?_
    refine pf_X2_thrown K w rfl dX2_under_2 (fun H locs w => ?_)
    refine lv_aload_n hx hb dX2_under_5 rfl (lv_at hl 0 rfl) ?_
    refine lv_iload_n hx hb dX2_under_6 rfl (lv_at hl 1 rfl) ?_
    refine calli2 K w (c_X2_there dn) (lk_X2_57 K ⟨Nat.le_trans (Nat.le_of_ble_eq_true rfl) hR.1, Nat.le_trans (Nat.le_of_ble_eq_true rfl) hR.2⟩) (recvM K w) rfl hl.1 rfl (Nat.le_of_ble_eq_true rfl) dX2_under_7 hf (fun H locs w => ?_)
    refine lv_if_eq (tgt := 22) hx hb dX2_under_10 rfl (fun h9 => absurd h9 (dB_t (in_ok hq hz))) (fun _ => ?_)
    refine lv_iload_n hx hb dX2_under_13 rfl (lv_at hl 2 rfl) ?_
    refine lv_if_lt (tgt := 22) hx hb dX2_under_14 rfl (fun h9 => absurd h9 h0) (fun _ => ?_)
    refine lv_iload_n hx hb dX2_under_17 rfl (lv_at hl 2 rfl) ?_
    refine lv_iload_n hx hb dX2_under_18 rfl (lv_at hl 1 rfl) ?_
    refine lv_icmp_lt (tgt := 28) hx hb dX2_under_19 rfl (fun h9 => absurd h9 (nlt_or h0 h2)) (fun _ => ?_)
    refine lv_aload_n hx hb dX2_under_22 rfl (lv_at hl 0 rfl) ?_
    refine lv_iconst (v := nI 1) hx hb dX2_under_23 (by decide) ?_
    refine calli2 K w (c_X2_refuse dn) (lk_X2_45 K ⟨Nat.le_trans (Nat.le_of_ble_eq_true rfl) hR.1, Nat.le_trans (Nat.le_of_ble_eq_true rfl) hR.2⟩) (recvM K w) rfl hl.1 rfl (Nat.le_of_ble_eq_true rfl) dX2_under_24 hf (fun H locs w => ?_)
    exact ret w rfl dX2_under_27

set_option maxHeartbeats 4000000 in
set_option maxRecDepth 100000 in
theorem r_X2_under_c {l : Launch} {E : En} {M : Mt} {z t f : Nat} (dn : dM E) {q u : Nat} (hq : q < z) (hu : u < q) (ok : okN M z) (h2 : iaF M q z 0 = true ∨ pcn M q = 4) : MI2 l yX2_under (.code yX2_under cX2_under 3 (some .int)) 2 45 E [.ref (ad E 0), .int (nI q), .int (nI u)] M z t f (nI 0) M z 2 f := by
  refine MI2.of dn (own := RX2) (by decide) rfl (Nat.le_of_ble_eq_true rfl) (fun p e s m args below meth c ls Q K w hl ret => ?_)
  have hx := K.1.1
  have hb := K.1.2.1
  have hR : 2 ≤ (rmA 2 45).frames ∧ 45 ≤ (rmA 2 45).locals := ⟨Nat.le_refl _, Nat.le_refl _⟩
  have hf : 0 ≤ (rmA 2 45).cells ∧ 0 ≤ (rmA 2 45).slots := ⟨Nat.le_refl _, Nat.le_refl _⟩
  have hl : lv_has ls 3 [(0, .ref (ad E 0)), (1, .int (nI q)), (2, .int (nI u))] := hl
  have hz := ok.1
  refine lv_aload_n hx hb dX2_under_0 rfl (lv_at hl 0 rfl) ?_
  refine lv_iconst (v := nI 0) hx hb dX2_under_1 (by decide) ?_
  refine pf_X2_thrown K w rfl dX2_under_2 (fun H locs w => ?_)
  by_cases h0 : iaF M q z 0 = true
  · refine lv_aload_n hx hb dX2_under_5 rfl (lv_at hl 0 rfl) ?_
    refine lv_iload_n hx hb dX2_under_6 rfl (lv_at hl 1 rfl) ?_
    refine calli2 K w (c_X2_there dn) (lk_X2_57 K ⟨Nat.le_trans (Nat.le_of_ble_eq_true rfl) hR.1, Nat.le_trans (Nat.le_of_ble_eq_true rfl) hR.2⟩) (recvM K w) rfl hl.1 rfl (Nat.le_of_ble_eq_true rfl) dX2_under_7 hf (fun H locs w => ?_)
    refine lv_if_eq (tgt := 22) hx hb dX2_under_10 rfl (fun h9 => absurd h9 (dB_t (in_ok hq hz))) (fun _ => ?_)
    refine lv_iload_n hx hb dX2_under_13 rfl (lv_at hl 2 rfl) ?_
    refine lv_if_lt (tgt := 22) hx hb dX2_under_14 rfl (fun h9 => absurd h9 (nI_pos (by omega))) (fun _ => ?_)
    refine lv_iload_n hx hb dX2_under_17 rfl (lv_at hl 2 rfl) ?_
    refine lv_iload_n hx hb dX2_under_18 rfl (lv_at hl 1 rfl) ?_
    refine lv_icmp_lt (tgt := 28) hx hb dX2_under_19 rfl (fun _ => ?_) (fun h9 => absurd (nI_lt hu (by omega)) h9)
    refine lv_aload_n hx hb dX2_under_28 rfl (lv_at hl 0 rfl) ?_
    refine lv_iload_n hx hb dX2_under_29 rfl (lv_at hl 1 rfl) ?_
    refine calli2 K w (c_X2_isAnyParent dn (by omega) ok) (lk_X2_61 K ⟨Nat.le_trans (Nat.le_of_ble_eq_true rfl) hR.1, Nat.le_trans (Nat.le_of_ble_eq_true rfl) hR.2⟩) (recvM K w) rfl hl.1 rfl (Nat.le_of_ble_eq_true rfl) dX2_under_30 hf (fun H locs w => ?_)
    refine lv_if_ne (tgt := 46) hx hb dX2_under_33 rfl (fun _ => ?_) (fun h9 => absurd h9 (by rw [h0]; decide))
    refine lv_aload_n hx hb dX2_under_46 rfl (lv_at hl 0 rfl) ?_
    refine lv_iconst (v := nI 2) hx hb dX2_under_47 (by decide) ?_
    refine calli2 K w (c_X2_refuse dn) (lk_X2_45 K ⟨Nat.le_trans (Nat.le_of_ble_eq_true rfl) hR.1, Nat.le_trans (Nat.le_of_ble_eq_true rfl) hR.2⟩) (recvM K w) rfl hl.1 rfl (Nat.le_of_ble_eq_true rfl) dX2_under_48 hf (fun H locs w => ?_)
    exact ret w rfl dX2_under_51
  · refine lv_aload_n hx hb dX2_under_5 rfl (lv_at hl 0 rfl) ?_
    refine lv_iload_n hx hb dX2_under_6 rfl (lv_at hl 1 rfl) ?_
    refine calli2 K w (c_X2_there dn) (lk_X2_57 K ⟨Nat.le_trans (Nat.le_of_ble_eq_true rfl) hR.1, Nat.le_trans (Nat.le_of_ble_eq_true rfl) hR.2⟩) (recvM K w) rfl hl.1 rfl (Nat.le_of_ble_eq_true rfl) dX2_under_7 hf (fun H locs w => ?_)
    refine lv_if_eq (tgt := 22) hx hb dX2_under_10 rfl (fun h9 => absurd h9 (dB_t (in_ok hq hz))) (fun _ => ?_)
    refine lv_iload_n hx hb dX2_under_13 rfl (lv_at hl 2 rfl) ?_
    refine lv_if_lt (tgt := 22) hx hb dX2_under_14 rfl (fun h9 => absurd h9 (nI_pos (by omega))) (fun _ => ?_)
    refine lv_iload_n hx hb dX2_under_17 rfl (lv_at hl 2 rfl) ?_
    refine lv_iload_n hx hb dX2_under_18 rfl (lv_at hl 1 rfl) ?_
    refine lv_icmp_lt (tgt := 28) hx hb dX2_under_19 rfl (fun _ => ?_) (fun h9 => absurd (nI_lt hu (by omega)) h9)
    refine lv_aload_n hx hb dX2_under_28 rfl (lv_at hl 0 rfl) ?_
    refine lv_iload_n hx hb dX2_under_29 rfl (lv_at hl 1 rfl) ?_
    refine calli2 K w (c_X2_isAnyParent dn (by omega) ok) (lk_X2_61 K ⟨Nat.le_trans (Nat.le_of_ble_eq_true rfl) hR.1, Nat.le_trans (Nat.le_of_ble_eq_true rfl) hR.2⟩) (recvM K w) rfl hl.1 rfl (Nat.le_of_ble_eq_true rfl) dX2_under_30 hf (fun H locs w => ?_)
    refine lv_if_ne (tgt := 46) hx hb dX2_under_33 rfl (fun h9 => absurd (iaF_dec (Bool.not_eq_true _ |>.mp h0)) h9) (fun _ => ?_)
    refine lv_aload_n hx hb dX2_under_36 rfl (lv_at hl 0 rfl) ?_
    refine gf_X2_many K w dX2_under_37 ?_
    refine lv_iload_n hx hb dX2_under_40 rfl (lv_at hl 1 rfl) ?_
    refine ldI2 K w rwI4 (by omega) dX2_under_41 ?_
    refine topE (y := nI (pcn M q)) (ok.pc hq) ?_
    refine lv_iconst (v := nI 4) hx hb dX2_under_42 (by decide) ?_
    refine lv_icmp_ne (tgt := 52) hx hb dX2_under_43 rfl (fun h9 => absurd (by rw [h2.elim (fun h => absurd h h0) id]) h9) (fun _ => ?_)
    refine lv_aload_n hx hb dX2_under_46 rfl (lv_at hl 0 rfl) ?_
    refine lv_iconst (v := nI 2) hx hb dX2_under_47 (by decide) ?_
    refine calli2 K w (c_X2_refuse dn) (lk_X2_45 K ⟨Nat.le_trans (Nat.le_of_ble_eq_true rfl) hR.1, Nat.le_trans (Nat.le_of_ble_eq_true rfl) hR.2⟩) (recvM K w) rfl hl.1 rfl (Nat.le_of_ble_eq_true rfl) dX2_under_48 hf (fun H locs w => ?_)
    exact ret w rfl dX2_under_51

set_option maxHeartbeats 4000000 in
set_option maxRecDepth 100000 in
theorem c_X2_under {l : Launch} {E : En} {M : Mt} {z t f : Nat} (dn : dM E) {q u : Nat} (hq : q < z) (hu : u < q) (ok : okN M z) (h0 : iaF M q z 0 = false) (h4 : pcn M q < 4) : MI2 l yX2_under (.code yX2_under cX2_under 3 (some .int)) 2 45 E [.ref (ad E 0), .int (nI q), .int (nI u)] M z t f (jnF M q (some u) 4 q) (jnF M q (some u)) z 0 f := by
  refine MI2.of dn (own := RX2) (by decide) rfl (Nat.le_of_ble_eq_true rfl) (fun p e s m args below meth c ls Q K w hl ret => ?_)
  have hx := K.1.1
  have hb := K.1.2.1
  have hR : 2 ≤ (rmA 2 45).frames ∧ 45 ≤ (rmA 2 45).locals := ⟨Nat.le_refl _, Nat.le_refl _⟩
  have hf : 0 ≤ (rmA 2 45).cells ∧ 0 ≤ (rmA 2 45).slots := ⟨Nat.le_refl _, Nat.le_refl _⟩
  have hl : lv_has ls 3 [(0, .ref (ad E 0)), (1, .int (nI q)), (2, .int (nI u))] := hl
  have hz := ok.1
  refine lv_aload_n hx hb dX2_under_0 rfl (lv_at hl 0 rfl) ?_
  refine lv_iconst (v := nI 0) hx hb dX2_under_1 (by decide) ?_
  refine pf_X2_thrown K w rfl dX2_under_2 (fun H locs w => ?_)
  refine lv_aload_n hx hb dX2_under_5 rfl (lv_at hl 0 rfl) ?_
  refine lv_iload_n hx hb dX2_under_6 rfl (lv_at hl 1 rfl) ?_
  refine calli2 K w (c_X2_there dn) (lk_X2_57 K ⟨Nat.le_trans (Nat.le_of_ble_eq_true rfl) hR.1, Nat.le_trans (Nat.le_of_ble_eq_true rfl) hR.2⟩) (recvM K w) rfl hl.1 rfl (Nat.le_of_ble_eq_true rfl) dX2_under_7 hf (fun H locs w => ?_)
  refine lv_if_eq (tgt := 22) hx hb dX2_under_10 rfl (fun h9 => absurd h9 (dB_t (in_ok hq hz))) (fun _ => ?_)
  refine lv_iload_n hx hb dX2_under_13 rfl (lv_at hl 2 rfl) ?_
  refine lv_if_lt (tgt := 22) hx hb dX2_under_14 rfl (fun h9 => absurd h9 (nI_pos (by omega))) (fun _ => ?_)
  refine lv_iload_n hx hb dX2_under_17 rfl (lv_at hl 2 rfl) ?_
  refine lv_iload_n hx hb dX2_under_18 rfl (lv_at hl 1 rfl) ?_
  refine lv_icmp_lt (tgt := 28) hx hb dX2_under_19 rfl (fun _ => ?_) (fun h9 => absurd (nI_lt hu (by omega)) h9)
  refine lv_aload_n hx hb dX2_under_28 rfl (lv_at hl 0 rfl) ?_
  refine lv_iload_n hx hb dX2_under_29 rfl (lv_at hl 1 rfl) ?_
  refine calli2 K w (c_X2_isAnyParent dn (by omega) ok) (lk_X2_61 K ⟨Nat.le_trans (Nat.le_of_ble_eq_true rfl) hR.1, Nat.le_trans (Nat.le_of_ble_eq_true rfl) hR.2⟩) (recvM K w) rfl hl.1 rfl (Nat.le_of_ble_eq_true rfl) dX2_under_30 hf (fun H locs w => ?_)
  refine lv_if_ne (tgt := 46) hx hb dX2_under_33 rfl (fun h9 => absurd (iaF_dec h0) h9) (fun _ => ?_)
  refine lv_aload_n hx hb dX2_under_36 rfl (lv_at hl 0 rfl) ?_
  refine gf_X2_many K w dX2_under_37 ?_
  refine lv_iload_n hx hb dX2_under_40 rfl (lv_at hl 1 rfl) ?_
  refine ldI2 K w rwI4 (by omega) dX2_under_41 ?_
  refine topE (y := nI (pcn M q)) (ok.pc hq) ?_
  refine lv_iconst (v := nI 4) hx hb dX2_under_42 (by decide) ?_
  refine lv_icmp_ne (tgt := 52) hx hb dX2_under_43 rfl (fun _ => ?_) (fun h9 => absurd h9 (fun h => absurd ((nI_eq (by omega) (by decide)).mp h) (by omega)))
  refine lv_aload_n hx hb dX2_under_52 rfl (lv_at hl 0 rfl) ?_
  refine lv_iload_n hx hb dX2_under_53 rfl (lv_at hl 1 rfl) ?_
  refine lv_iload_n hx hb dX2_under_54 rfl (lv_at hl 2 rfl) ?_
  refine callv2 K w (c_X2_join_b dn (by omega) (by omega) (ok.pc hq) h4) (lk_X2_49 K ⟨Nat.le_trans (Nat.le_of_ble_eq_true rfl) hR.1, Nat.le_trans (Nat.le_of_ble_eq_true rfl) hR.2⟩) (recvM K w) rfl hl.1 rfl (Nat.le_of_ble_eq_true rfl) dX2_under_55 hf (fun H locs w => ?_)
  refine lv_aload_n hx hb dX2_under_58 rfl (lv_at hl 0 rfl) ?_
  refine gf_X2_many K w dX2_under_59 ?_
  refine lv_iload_n hx hb dX2_under_62 rfl (lv_at hl 1 rfl) ?_
  refine ldI2 K w rwI4 (by omega) dX2_under_63 ?_
  exact ret w rfl dX2_under_64

set_option maxHeartbeats 4000000 in
set_option maxRecDepth 100000 in
theorem r_X2_tip {l : Launch} {E : En} {M : Mt} {z t f : Nat} (dn : dM E) {x y v : Int32} (h2 : (x < 0 ∨ nI 2 ≤ x) ∨ (y < 0 ∨ nI z ≤ y)) : MV2 l yX2_tip (.code yX2_tip cX2_tip 4 none) 1 21 E [.ref (ad E 0), .int x, .int y, .int v] M z t f M z 1 f := by
  refine MV2.of dn (own := RX2) (by decide) rfl (Nat.le_of_ble_eq_true rfl) (fun p e s m args below meth c ls Q K w hl ret => ?_)
  have hx := K.1.1
  have hb := K.1.2.1
  have hR : 1 ≤ (rmA 1 21).frames ∧ 21 ≤ (rmA 1 21).locals := ⟨Nat.le_refl _, Nat.le_refl _⟩
  have hf : 0 ≤ (rmA 1 21).cells ∧ 0 ≤ (rmA 1 21).slots := ⟨Nat.le_refl _, Nat.le_refl _⟩
  have hl : lv_has ls 4 [(0, .ref (ad E 0)), (1, .int x), (2, .int y), (3, .int v)] := hl
  by_cases h0 : x < 0
  · refine lv_aload_n hx hb dX2_tip_0 rfl (lv_at hl 0 rfl) ?_
    refine lv_iconst (v := nI 0) hx hb dX2_tip_1 (by decide) ?_
    refine pf_X2_thrown K w rfl dX2_tip_2 (fun H locs w => ?_)
    refine lv_iload_n hx hb dX2_tip_5 rfl (lv_at hl 1 rfl) ?_
    refine lv_if_lt (tgt := 22) hx hb dX2_tip_6 rfl (fun _ => ?_) (fun h9 => absurd h0 h9)
    refine lv_aload_n hx hb dX2_tip_22 rfl (lv_at hl 0 rfl) ?_
    refine lv_iconst (v := nI 1) hx hb dX2_tip_23 (by decide) ?_
    refine pf_X2_thrown K w rfl dX2_tip_24 (fun H locs w => ?_)
    refine lv_goto (tgt := 43) hx hb dX2_tip_27 rfl ?_
    exact ret w dX2_tip_43
  · refine lv_aload_n hx hb dX2_tip_0 rfl (lv_at hl 0 rfl) ?_
    refine lv_iconst (v := nI 0) hx hb dX2_tip_1 (by decide) ?_
    refine pf_X2_thrown K w rfl dX2_tip_2 (fun H locs w => ?_)
    by_cases h3 : nI 1 < x
    · refine lv_iload_n hx hb dX2_tip_5 rfl (lv_at hl 1 rfl) ?_
      refine lv_if_lt (tgt := 22) hx hb dX2_tip_6 rfl (fun h9 => absurd h9 h0) (fun _ => ?_)
      refine lv_iload_n hx hb dX2_tip_9 rfl (lv_at hl 1 rfl) ?_
      refine lv_iconst (v := nI 1) hx hb dX2_tip_10 (by decide) ?_
      refine lv_icmp_gt (tgt := 22) hx hb dX2_tip_11 rfl (fun _ => ?_) (fun h9 => absurd h3 h9)
      refine lv_aload_n hx hb dX2_tip_22 rfl (lv_at hl 0 rfl) ?_
      refine lv_iconst (v := nI 1) hx hb dX2_tip_23 (by decide) ?_
      refine pf_X2_thrown K w rfl dX2_tip_24 (fun H locs w => ?_)
      refine lv_goto (tgt := 43) hx hb dX2_tip_27 rfl ?_
      exact ret w dX2_tip_43
    · refine lv_iload_n hx hb dX2_tip_5 rfl (lv_at hl 1 rfl) ?_
      refine lv_if_lt (tgt := 22) hx hb dX2_tip_6 rfl (fun h9 => absurd h9 h0) (fun _ => ?_)
      refine lv_iload_n hx hb dX2_tip_9 rfl (lv_at hl 1 rfl) ?_
      refine lv_iconst (v := nI 1) hx hb dX2_tip_10 (by decide) ?_
      refine lv_icmp_gt (tgt := 22) hx hb dX2_tip_11 rfl (fun h9 => absurd h9 h3) (fun _ => ?_)
      refine lv_aload_n hx hb dX2_tip_14 rfl (lv_at hl 0 rfl) ?_
      refine lv_iload_n hx hb dX2_tip_15 rfl (lv_at hl 2 rfl) ?_
      refine calli2 K w (c_X2_there dn) (lk_X2_57 K ⟨Nat.le_trans (Nat.le_of_ble_eq_true rfl) hR.1, Nat.le_trans (Nat.le_of_ble_eq_true rfl) hR.2⟩) (recvM K w) rfl hl.1 rfl (Nat.le_of_ble_eq_true rfl) dX2_tip_16 hf (fun H locs w => ?_)
      refine lv_if_ne (tgt := 30) hx hb dX2_tip_19 rfl (fun h9 => absurd (dB_f (fun h => h (h2.elim (fun h4 => h4.elim (fun h5 => absurd h5 h0) (fun h5 => absurd (i32_lt_of (by decide) h5) h3)) id))) h9) (fun _ => ?_)
      refine lv_aload_n hx hb dX2_tip_22 rfl (lv_at hl 0 rfl) ?_
      refine lv_iconst (v := nI 1) hx hb dX2_tip_23 (by decide) ?_
      refine pf_X2_thrown K w rfl dX2_tip_24 (fun H locs w => ?_)
      refine lv_goto (tgt := 43) hx hb dX2_tip_27 rfl ?_
      exact ret w dX2_tip_43

set_option maxHeartbeats 4000000 in
set_option maxRecDepth 100000 in
theorem c_X2_tip_1 {l : Launch} {E : En} {M : Mt} {z t f : Nat} (dn : dM E) {h q : Nat} (hh : h < 2) (hq : q < z) (hz : z ≤ 2000) : MV2 l yX2_tip (.code yX2_tip cX2_tip 4 none) 1 21 E [.ref (ad E 0), .int (nI h), .int (nI q), .int (nI 1)] M z t f (va_up M 6 (upd (M 6) (h * 2000 + q) (nI 1))) z 0 f := by
  refine MV2.of dn (own := RX2) (by decide) rfl (Nat.le_of_ble_eq_true rfl) (fun p e s m args below meth c ls Q K w hl ret => ?_)
  have hx := K.1.1
  have hb := K.1.2.1
  have hR : 1 ≤ (rmA 1 21).frames ∧ 21 ≤ (rmA 1 21).locals := ⟨Nat.le_refl _, Nat.le_refl _⟩
  have hf : 0 ≤ (rmA 1 21).cells ∧ 0 ≤ (rmA 1 21).slots := ⟨Nat.le_refl _, Nat.le_refl _⟩
  have hl : lv_has ls 4 [(0, .ref (ad E 0)), (1, .int (nI h)), (2, .int (nI q)), (3, .int (nI 1))] := hl
  refine lv_aload_n hx hb dX2_tip_0 rfl (lv_at hl 0 rfl) ?_
  refine lv_iconst (v := nI 0) hx hb dX2_tip_1 (by decide) ?_
  refine pf_X2_thrown K w rfl dX2_tip_2 (fun H locs w => ?_)
  refine lv_iload_n hx hb dX2_tip_5 rfl (lv_at hl 1 rfl) ?_
  refine lv_if_lt (tgt := 22) hx hb dX2_tip_6 rfl (fun h9 => absurd h9 (nI_pos (by omega))) (fun _ => ?_)
  refine lv_iload_n hx hb dX2_tip_9 rfl (lv_at hl 1 rfl) ?_
  refine lv_iconst (v := nI 1) hx hb dX2_tip_10 (by decide) ?_
  refine lv_icmp_gt (tgt := 22) hx hb dX2_tip_11 rfl (fun h9 => absurd h9 (nI_nlt (by omega) (by omega))) (fun _ => ?_)
  refine lv_aload_n hx hb dX2_tip_14 rfl (lv_at hl 0 rfl) ?_
  refine lv_iload_n hx hb dX2_tip_15 rfl (lv_at hl 2 rfl) ?_
  refine calli2 K w (c_X2_there dn) (lk_X2_57 K ⟨Nat.le_trans (Nat.le_of_ble_eq_true rfl) hR.1, Nat.le_trans (Nat.le_of_ble_eq_true rfl) hR.2⟩) (recvM K w) rfl hl.1 rfl (Nat.le_of_ble_eq_true rfl) dX2_tip_16 hf (fun H locs w => ?_)
  refine lv_if_ne (tgt := 30) hx hb dX2_tip_19 rfl (fun _ => ?_) (fun h9 => absurd h9 (dB_t (in_ok hq hz)))
  refine lv_aload_n hx hb dX2_tip_30 rfl (lv_at hl 0 rfl) ?_
  refine gf_X2_tips K w dX2_tip_31 ?_
  refine lv_iload_n hx hb dX2_tip_34 rfl (lv_at hl 1 rfl) ?_
  refine lv_sipush (v := nI 2000) hx hb dX2_tip_35 (by decide) ?_
  refine lv_imul hx hb dX2_tip_38 ?_
  refine topE (y := nI (h * 2000)) (pk_mul _ _) ?_
  refine lv_iload_n hx hb dX2_tip_39 rfl (lv_at hl 2 rfl) ?_
  refine lv_iadd hx hb dX2_tip_40 ?_
  refine topE (y := nI (h * 2000 + q)) (nI_add _ _) ?_
  refine lv_iload_n hx hb dX2_tip_41 rfl (lv_at hl 3 rfl) ?_
  refine stB2 K w rwB6 (by omega) (by decide) dX2_tip_42 (fun H locs w => ?_)
  exact ret w dX2_tip_43

set_option maxHeartbeats 4000000 in
set_option maxRecDepth 100000 in
theorem c_X2_tip_0 {l : Launch} {E : En} {M : Mt} {z t f : Nat} (dn : dM E) {h q : Nat} (hh : h < 2) (hq : q < z) (hz : z ≤ 2000) : MV2 l yX2_tip (.code yX2_tip cX2_tip 4 none) 1 21 E [.ref (ad E 0), .int (nI h), .int (nI q), .int (nI 0)] M z t f (va_up M 6 (upd (M 6) (h * 2000 + q) (nI 0))) z 0 f := by
  refine MV2.of dn (own := RX2) (by decide) rfl (Nat.le_of_ble_eq_true rfl) (fun p e s m args below meth c ls Q K w hl ret => ?_)
  have hx := K.1.1
  have hb := K.1.2.1
  have hR : 1 ≤ (rmA 1 21).frames ∧ 21 ≤ (rmA 1 21).locals := ⟨Nat.le_refl _, Nat.le_refl _⟩
  have hf : 0 ≤ (rmA 1 21).cells ∧ 0 ≤ (rmA 1 21).slots := ⟨Nat.le_refl _, Nat.le_refl _⟩
  have hl : lv_has ls 4 [(0, .ref (ad E 0)), (1, .int (nI h)), (2, .int (nI q)), (3, .int (nI 0))] := hl
  refine lv_aload_n hx hb dX2_tip_0 rfl (lv_at hl 0 rfl) ?_
  refine lv_iconst (v := nI 0) hx hb dX2_tip_1 (by decide) ?_
  refine pf_X2_thrown K w rfl dX2_tip_2 (fun H locs w => ?_)
  refine lv_iload_n hx hb dX2_tip_5 rfl (lv_at hl 1 rfl) ?_
  refine lv_if_lt (tgt := 22) hx hb dX2_tip_6 rfl (fun h9 => absurd h9 (nI_pos (by omega))) (fun _ => ?_)
  refine lv_iload_n hx hb dX2_tip_9 rfl (lv_at hl 1 rfl) ?_
  refine lv_iconst (v := nI 1) hx hb dX2_tip_10 (by decide) ?_
  refine lv_icmp_gt (tgt := 22) hx hb dX2_tip_11 rfl (fun h9 => absurd h9 (nI_nlt (by omega) (by omega))) (fun _ => ?_)
  refine lv_aload_n hx hb dX2_tip_14 rfl (lv_at hl 0 rfl) ?_
  refine lv_iload_n hx hb dX2_tip_15 rfl (lv_at hl 2 rfl) ?_
  refine calli2 K w (c_X2_there dn) (lk_X2_57 K ⟨Nat.le_trans (Nat.le_of_ble_eq_true rfl) hR.1, Nat.le_trans (Nat.le_of_ble_eq_true rfl) hR.2⟩) (recvM K w) rfl hl.1 rfl (Nat.le_of_ble_eq_true rfl) dX2_tip_16 hf (fun H locs w => ?_)
  refine lv_if_ne (tgt := 30) hx hb dX2_tip_19 rfl (fun _ => ?_) (fun h9 => absurd h9 (dB_t (in_ok hq hz)))
  refine lv_aload_n hx hb dX2_tip_30 rfl (lv_at hl 0 rfl) ?_
  refine gf_X2_tips K w dX2_tip_31 ?_
  refine lv_iload_n hx hb dX2_tip_34 rfl (lv_at hl 1 rfl) ?_
  refine lv_sipush (v := nI 2000) hx hb dX2_tip_35 (by decide) ?_
  refine lv_imul hx hb dX2_tip_38 ?_
  refine topE (y := nI (h * 2000)) (pk_mul _ _) ?_
  refine lv_iload_n hx hb dX2_tip_39 rfl (lv_at hl 2 rfl) ?_
  refine lv_iadd hx hb dX2_tip_40 ?_
  refine topE (y := nI (h * 2000 + q)) (nI_add _ _) ?_
  refine lv_iload_n hx hb dX2_tip_41 rfl (lv_at hl 3 rfl) ?_
  refine stB2 K w rwB6 (by omega) (by decide) dX2_tip_42 (fun H locs w => ?_)
  exact ret w dX2_tip_43

set_option maxHeartbeats 4000000 in
set_option maxRecDepth 100000 in
theorem r_X2_reaches {l : Launch} {E : En} {M : Mt} {z t f : Nat} (dn : dM E) {x y : Int32} (h2 : (x < 0 ∨ nI z ≤ x) ∨ (y < 0 ∨ nI z ≤ y)) : MI2 l yX2_reaches (.code yX2_reaches cX2_reaches 3 (some .boolean)) 2 46 E [.ref (ad E 0), .int x, .int y] M z t f (nI 0) M z 1 f := by
  refine MI2.ofZ dn (own := RX2) (by decide) rfl (Nat.le_of_ble_eq_true rfl) (Or.inl rfl) (fun p e s m args below meth c ls Q K w hl ret => ?_)
  have hx := K.1.1
  have hb := K.1.2.1
  have hR : 2 ≤ (rmA 2 46).frames ∧ 46 ≤ (rmA 2 46).locals := ⟨Nat.le_refl _, Nat.le_refl _⟩
  have hf : 0 ≤ (rmA 2 46).cells ∧ 0 ≤ (rmA 2 46).slots := ⟨Nat.le_refl _, Nat.le_refl _⟩
  have hl : lv_has ls 3 [(0, .ref (ad E 0)), (1, .int x), (2, .int y)] := hl
  by_cases h0 : x < 0 ∨ nI z ≤ x
  · refine lv_aload_n hx hb dX2_reaches_0 rfl (lv_at hl 0 rfl) ?_
    refine lv_iconst (v := nI 0) hx hb dX2_reaches_1 (by decide) ?_
    refine pf_X2_thrown K w rfl dX2_reaches_2 (fun H locs w => ?_)
    refine lv_aload_n hx hb dX2_reaches_5 rfl (lv_at hl 0 rfl) ?_
    refine lv_iload_n hx hb dX2_reaches_6 rfl (lv_at hl 1 rfl) ?_
    refine calli2 K w (c_X2_there dn) (lk_X2_57 K ⟨Nat.le_trans (Nat.le_of_ble_eq_true rfl) hR.1, Nat.le_trans (Nat.le_of_ble_eq_true rfl) hR.2⟩) (recvM K w) rfl hl.1 rfl (Nat.le_of_ble_eq_true rfl) dX2_reaches_7 hf (fun H locs w => ?_)
    refine lv_if_eq (tgt := 21) hx hb dX2_reaches_10 rfl (fun _ => ?_) (fun h9 => absurd (dB_f (fun h => h h0)) h9)
    refine lv_aload_n hx hb dX2_reaches_21 rfl (lv_at hl 0 rfl) ?_
    refine lv_iconst (v := nI 1) hx hb dX2_reaches_22 (by decide) ?_
    refine pf_X2_thrown K w rfl dX2_reaches_23 (fun H locs w => ?_)
    refine lv_iconst (v := nI 0) hx hb dX2_reaches_26 (by decide) ?_
    exact ret w rfl dX2_reaches_27
  · refine lv_aload_n hx hb dX2_reaches_0 rfl (lv_at hl 0 rfl) ?_
    refine lv_iconst (v := nI 0) hx hb dX2_reaches_1 (by decide) ?_
    refine pf_X2_thrown K w rfl dX2_reaches_2 (fun H locs w => ?_)
    refine lv_aload_n hx hb dX2_reaches_5 rfl (lv_at hl 0 rfl) ?_
    refine lv_iload_n hx hb dX2_reaches_6 rfl (lv_at hl 1 rfl) ?_
    refine calli2 K w (c_X2_there dn) (lk_X2_57 K ⟨Nat.le_trans (Nat.le_of_ble_eq_true rfl) hR.1, Nat.le_trans (Nat.le_of_ble_eq_true rfl) hR.2⟩) (recvM K w) rfl hl.1 rfl (Nat.le_of_ble_eq_true rfl) dX2_reaches_7 hf (fun H locs w => ?_)
    refine lv_if_eq (tgt := 21) hx hb dX2_reaches_10 rfl (fun h9 => absurd h9 (dB_t h0)) (fun _ => ?_)
    refine lv_aload_n hx hb dX2_reaches_13 rfl (lv_at hl 0 rfl) ?_
    refine lv_iload_n hx hb dX2_reaches_14 rfl (lv_at hl 2 rfl) ?_
    refine calli2 K w (c_X2_there dn) (lk_X2_57 K ⟨Nat.le_trans (Nat.le_of_ble_eq_true rfl) hR.1, Nat.le_trans (Nat.le_of_ble_eq_true rfl) hR.2⟩) (recvM K w) rfl hl.1 rfl (Nat.le_of_ble_eq_true rfl) dX2_reaches_15 hf (fun H locs w => ?_)
    refine lv_if_ne (tgt := 28) hx hb dX2_reaches_18 rfl (fun h9 => absurd (dB_f (fun h => h (h2.elim (fun h4 => absurd h4 h0) id))) h9) (fun _ => ?_)
    refine lv_aload_n hx hb dX2_reaches_21 rfl (lv_at hl 0 rfl) ?_
    refine lv_iconst (v := nI 1) hx hb dX2_reaches_22 (by decide) ?_
    refine pf_X2_thrown K w rfl dX2_reaches_23 (fun H locs w => ?_)
    refine lv_iconst (v := nI 0) hx hb dX2_reaches_26 (by decide) ?_
    exact ret w rfl dX2_reaches_27

set_option maxHeartbeats 4000000 in
set_option maxRecDepth 100000 in
theorem c_X2_reaches {l : Launch} {E : En} {M : Mt} {z t f : Nat} (dn : dM E) {q u : Nat} (hq : q < z) (hu : u < z) (ok : okN M z) (hz1 : frF M z 7 q 7 u = 0 ∨ frF M z 7 q 7 u = 1) : MI2 l yX2_reaches (.code yX2_reaches cX2_reaches 3 (some .boolean)) 2 46 E [.ref (ad E 0), .int (nI q), .int (nI u)] M z t f (frF M z 7 q 7 u) (frF M z 7 q) z 0 f := by
  refine MI2.ofZ dn (own := RX2) (by decide) rfl (Nat.le_of_ble_eq_true rfl) (hz1) (fun p e s m args below meth c ls Q K w hl ret => ?_)
  have hx := K.1.1
  have hb := K.1.2.1
  have hR : 2 ≤ (rmA 2 46).frames ∧ 46 ≤ (rmA 2 46).locals := ⟨Nat.le_refl _, Nat.le_refl _⟩
  have hf : 0 ≤ (rmA 2 46).cells ∧ 0 ≤ (rmA 2 46).slots := ⟨Nat.le_refl _, Nat.le_refl _⟩
  have hl : lv_has ls 3 [(0, .ref (ad E 0)), (1, .int (nI q)), (2, .int (nI u))] := hl
  have hz := ok.1
  refine lv_aload_n hx hb dX2_reaches_0 rfl (lv_at hl 0 rfl) ?_
  refine lv_iconst (v := nI 0) hx hb dX2_reaches_1 (by decide) ?_
  refine pf_X2_thrown K w rfl dX2_reaches_2 (fun H locs w => ?_)
  refine lv_aload_n hx hb dX2_reaches_5 rfl (lv_at hl 0 rfl) ?_
  refine lv_iload_n hx hb dX2_reaches_6 rfl (lv_at hl 1 rfl) ?_
  refine calli2 K w (c_X2_there dn) (lk_X2_57 K ⟨Nat.le_trans (Nat.le_of_ble_eq_true rfl) hR.1, Nat.le_trans (Nat.le_of_ble_eq_true rfl) hR.2⟩) (recvM K w) rfl hl.1 rfl (Nat.le_of_ble_eq_true rfl) dX2_reaches_7 hf (fun H locs w => ?_)
  refine lv_if_eq (tgt := 21) hx hb dX2_reaches_10 rfl (fun h9 => absurd h9 (dB_t (in_ok hq hz))) (fun _ => ?_)
  refine lv_aload_n hx hb dX2_reaches_13 rfl (lv_at hl 0 rfl) ?_
  refine lv_iload_n hx hb dX2_reaches_14 rfl (lv_at hl 2 rfl) ?_
  refine calli2 K w (c_X2_there dn) (lk_X2_57 K ⟨Nat.le_trans (Nat.le_of_ble_eq_true rfl) hR.1, Nat.le_trans (Nat.le_of_ble_eq_true rfl) hR.2⟩) (recvM K w) rfl hl.1 rfl (Nat.le_of_ble_eq_true rfl) dX2_reaches_15 hf (fun H locs w => ?_)
  refine lv_if_ne (tgt := 28) hx hb dX2_reaches_18 rfl (fun _ => ?_) (fun h9 => absurd h9 (dB_t (in_ok hu hz)))
  refine lv_aload_n hx hb dX2_reaches_28 rfl (lv_at hl 0 rfl) ?_
  refine lv_iload_n hx hb dX2_reaches_29 rfl (lv_at hl 1 rfl) ?_
  refine lv_aload_n hx hb dX2_reaches_30 rfl (lv_at hl 0 rfl) ?_
  refine gf_X2_one K w dX2_reaches_31 ?_
  refine callv2 K w (c_X2_from dn rwB7 (by decide) (by decide) (by omega) ok) (lk_X2_68 K ⟨Nat.le_trans (Nat.le_of_ble_eq_true rfl) hR.1, Nat.le_trans (Nat.le_of_ble_eq_true rfl) hR.2⟩) (recvM K w) rfl hl.1 rfl (Nat.le_of_ble_eq_true rfl) dX2_reaches_34 hf (fun H locs w => ?_)
  refine lv_aload_n hx hb dX2_reaches_37 rfl (lv_at hl 0 rfl) ?_
  refine gf_X2_one K w dX2_reaches_38 ?_
  refine lv_iload_n hx hb dX2_reaches_41 rfl (lv_at hl 2 rfl) ?_
  refine ldB2 K w rwB7 (by omega) dX2_reaches_42 ?_
  exact ret w rfl dX2_reaches_43
