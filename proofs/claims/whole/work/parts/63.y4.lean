theorem cnF_add {b : Nat → Bool} : ∀ {d i a : Nat}, cnF b d i a = a + cnF b d i 0 := by
  intro d
  induction d with
  | zero => intro i a; show a = a + 0; omega
  | succ d ih =>
    intro i a
    rw [cnF, cnF]
    by_cases h : b i = true
    · rw [if_pos h, if_pos h, ih, ih (a := 0 + 1)]
      omega
    · rw [if_neg h, if_neg h, ih]
theorem cnF_s {b : Nat → Bool} {d i : Nat} : cnF b (d + 1) i 0 = (if b i = true then 1 else 0) + cnF b d (i + 1) 0 := by
  rw [cnF]
  by_cases h : b i = true
  · rw [if_pos h, cnF_add]
  · rw [if_neg h, Nat.zero_add]
theorem cnF_congr {b b' : Nat → Bool} : ∀ {d i : Nat}, (∀ j, i ≤ j → j < i + d → b j = b' j) → cnF b d i 0 = cnF b' d i 0 := by
  intro d
  induction d with
  | zero => intro i _; rfl
  | succ d ih =>
    intro i h
    rw [cnF_s, cnF_s, h i (Nat.le_refl _) (by omega), ih (fun j h1 h2 => h j (by omega) (by omega))]
theorem cnF_le {b : Nat → Bool} : ∀ {d i : Nat}, cnF b d i 0 ≤ d := by
  intro d
  induction d with
  | zero => intro i; exact Nat.le_refl _
  | succ d ih =>
    intro i
    rw [cnF_s]
    have := ih (i := i + 1)
    split <;> omega
theorem cnF_del {b b' : Nat → Bool} {y : Nat} (h1 : b y = true) (h2 : b' y = false) (h : ∀ j, j ≠ y → b' j = b j) : ∀ {d i : Nat}, i ≤ y → y < i + d → cnF b' d i 0 + 1 = cnF b d i 0 := by
  intro d
  induction d with
  | zero => intro i a1 a2; omega
  | succ d ih =>
    intro i a1 a2
    rw [cnF_s, cnF_s]
    by_cases e : i = y
    · subst e
      rw [h1, h2, cnF_congr (b := b') (b' := b) (fun j g1 g2 => h j (by omega))]
      simp
      omega
    · rw [h i e]
      have := ih (i := i + 1) (by omega) (by omega)
      omega
theorem cnF_zero {b : Nat → Bool} : ∀ {d i : Nat}, cnF b d i 0 = 0 → ∀ j, i ≤ j → j < i + d → b j = false := by
  intro d
  induction d with
  | zero => intro i _ j h1 h2; omega
  | succ d ih =>
    intro i h j h1 h2
    rw [cnF_s] at h
    by_cases e : i = j
    · subst e
      cases hb : b i with
      | false => rfl
      | true => rw [hb, if_pos rfl] at h; omega
    · exact ih (i := i + 1) (by split at h <;> omega) j (by omega) (by omega)
/-- how many are left -/
def cL (M : Mt) (z : Nat) : Nat := cnF (fun j => decide (¬ M 9 j = 0)) z 0 0
theorem cL_le {M : Mt} {z : Nat} : cL M z ≤ z := cnF_le
theorem cL_zero {M : Mt} {z : Nat} (h : cL M z = 0) : ∀ j, j < z → M 9 j = 0 := fun j hj => ne_f (by rw [cnF_zero h j (Nat.zero_le _) (by omega)]; decide)
theorem cL_tk {M : Mt} {z y fo : Nat} (hy : y < z) (h : ¬ M 9 y = 0) : cL (tkO (M, fo) y).1 z + 1 = cL M z := by
  refine cnF_del (y := y) (decide_eq_true h) ?_ (fun j hj => ?_) (Nat.zero_le _) (by omega)
  · show decide (¬ upd (M 9) y (nI 0) y = 0) = false
    rw [pk_us]
    rfl
  · show decide (¬ upd (M 9) y (nI 0) j = 0) = _
    rw [pk_un hj]
theorem lsF_left {M : Mt} {z i y : Nat} {o : Option Nat} (h : lsF M z i o = some y) : o = some y ∨ ¬ M 9 y = 0 := by
  unfold lsF at h
  split at h
  · exact Or.inl h
  · rename_i h9
    cases o with
    | none =>
      dsimp only at h
      split at h
      · cases h; exact Or.inr h9
      · cases h
    | some x =>
      dsimp only at h
      split at h
      · split at h
        · cases h; exact Or.inr h9
        · exact Or.inl h
      · exact Or.inl h
theorem lmF_left {M : Mt} {z : Nat} : ∀ {d i y : Nat} {o : Option Nat}, lmF M z d i o = some y → o = some y ∨ ¬ M 9 y = 0 := by
  intro d
  induction d with
  | zero => intro i y o h; exact Or.inl h
  | succ d ih =>
    intro i y o h
    rcases ih h with h1 | h1
    · exact lsF_left h1
    · exact Or.inr h1
theorem lmF_none {M : Mt} {z : Nat} : ∀ {d i : Nat}, (∀ j, i ≤ j → j < i + d → M 9 j = 0) → lmF M z d i none = none := by
  intro d
  induction d with
  | zero => intro i _; rfl
  | succ d ih =>
    intro i h
    have e : lsF M z i none = none := by unfold lsF; rw [if_pos (h i (Nat.le_refl _) (by omega))]
    rw [lmF, e]
    exact ih (fun j h1 h2 => h j (by omega) (by omega))
theorem okN.tk {M : Mt} {n fo y : Nat} (h : okN M n) : okN (tkO (M, fo) y).1 n := h

section YG
variable {p : Program} {l : Launch} {e : Env} {R : Room} {s : State} {m : MethodId} {args : Array Value} {below : List Frame} {meth : Method} {c : Code} {H : Heap} {locs : List Loc} {cells slots : Nat} {Q : State → Prop} {ls : Array Slot} {w0 : Cond} {E : En} {M MF : Mt} {UF : Mt × Nat} {z t f : Nat}
set_option maxHeartbeats 4000000 in
set_option maxRecDepth 100000 in
theorem lp_lscan (K : cY E p m c cX2_log 5 s args w0 RX2) (hR : 2 ≤ R.frames ∧ 45 ≤ R.locals) (hf : cells ≤ R.cells ∧ slots ≤ R.slots) {x1 : Int32} {of : Option Nat} (ok : okN M z) (kk : ∀ (H : Heap) (locs : List Loc) (ls : Array Slot), vst E s.heap M z t f H locs → lv_has ls 5 [(3, .int (oI of)), (2, .int x1), (0, .ref (ad E 0))] → W p l e R s m args below meth c H locs cells slots Q (F0 m 89 ls [])) : ∀ (d i : Nat) (o : Option Nat) (H : Heap) (locs : List Loc) (ls : Array Slot), i + d = z → oB o z → lmF M z d i o = of → vst E s.heap M z t f H locs → lv_has ls 5 [(4, .int (nI i)), (3, .int (oI o)), (2, .int x1), (0, .ref (ad E 0))] → W p l e R s m args below meth c H locs cells slots Q (F0 m 38 ls []) := by
  have hx := K.1.1
  have hb := K.1.2.1
  intro d
  induction d with
  | zero =>
    intro i o H locs ls hi ho hm w hl
    have hz := ok.1
    refine lv_iload hx hb dX2_log_38 (lv_at hl 0 rfl) ?_
    refine lv_aload_n hx hb dX2_log_40 rfl (lv_at hl 3 rfl) ?_
    refine gf_X2_size K w dX2_log_41 ?_
    refine lv_icmp_ge (tgt := 89) hx hb dX2_log_44 rfl (fun _ => ?_) (fun h9 => absurd (nI_le (by omega) (by omega)) h9)
    exact kk _ _ _ w (by rw [← hm]; exact lv_sub hl [1, 2, 3] rfl)
  | succ d ih =>
    intro i o H locs ls hi ho hm w hl
    have hz := ok.1
    refine lv_iload hx hb dX2_log_38 (lv_at hl 0 rfl) ?_
    refine lv_aload_n hx hb dX2_log_40 rfl (lv_at hl 3 rfl) ?_
    refine gf_X2_size K w dX2_log_41 ?_
    refine lv_icmp_ge (tgt := 89) hx hb dX2_log_44 rfl (fun h9 => absurd h9 (nI_ge (by omega) (by omega))) (fun _ => ?_)
    by_cases h9z : M 9 i = 0
    · have hsc : lsF M z i o = o := by unfold lsF; rw [if_pos h9z]
      rw [lmF, hsc] at hm
      refine lv_aload_n hx hb dX2_log_47 rfl (lv_at hl 3 rfl) ?_
      refine gf_X2_left K w dX2_log_48 ?_
      refine lv_iload hx hb dX2_log_51 (lv_at hl 0 rfl) ?_
      refine ldB2 K w rwB9 (by omega) dX2_log_53 ?_
      refine lv_if_eq (tgt := 83) hx hb dX2_log_54 rfl (fun _ => ?_) (fun h9 => absurd h9z h9)
      refine lv_iinc (k := 0) (v := nI (_ + 1)) (lv' := [(4, .int _), (3, .int _), (2, .int _), (0, .ref _)]) hx hb dX2_log_83 hl rfl (inc1 _) (by decide) rfl (fun ls hl => ?_)
      refine lv_goto (tgt := 38) hx hb dX2_log_86 rfl ?_
      exact ih (i + 1) (o) _ _ _ (by omega) (by rw [← hsc]; exact lsF_lt (by omega) ho) hm w (lv_sub hl [0, 1, 2, 3] rfl)
    · refine lv_aload_n hx hb dX2_log_47 rfl (lv_at hl 3 rfl) ?_
      refine gf_X2_left K w dX2_log_48 ?_
      refine lv_iload hx hb dX2_log_51 (lv_at hl 0 rfl) ?_
      refine ldB2 K w rwB9 (by omega) dX2_log_53 ?_
      refine lv_if_eq (tgt := 83) hx hb dX2_log_54 rfl (fun h9 => absurd h9 h9z) (fun _ => ?_)
      rcases o with _ | y
      · refine lv_iload_n hx hb dX2_log_57 rfl (lv_at hl 1 rfl) ?_
        refine lv_if_lt (tgt := 71) hx hb dX2_log_58 rfl (fun _ => ?_) (fun h9 => absurd (by decide : oI none < 0) h9)
        by_cases hfx : fxF M i z 0 = true
        · have hsc : lsF M z i none = some i := by rw [lsF, if_neg h9z]; exact if_pos hfx
          rw [lmF, hsc] at hm
          refine lv_aload_n hx hb dX2_log_71 rfl (lv_at hl 3 rfl) ?_
          refine lv_iload hx hb dX2_log_72 (lv_at hl 0 rfl) ?_
          refine calli2 K w (c_X2_free K.2.2 (by omega) ok) (lk_X2_84 K ⟨Nat.le_trans (Nat.le_of_ble_eq_true rfl) hR.1, Nat.le_trans (Nat.le_of_ble_eq_true rfl) hR.2⟩) (recvM K w) rfl hl.1 rfl (Nat.le_of_ble_eq_true rfl) dX2_log_74 hf (fun H locs w => ?_)
          refine lv_if_eq (tgt := 83) hx hb dX2_log_77 rfl (fun h9 => absurd h9 (by rw [hfx]; decide)) (fun _ => ?_)
          refine lv_iload hx hb dX2_log_80 (lv_at hl 0 rfl) ?_
          refine lv_istore_n (lv' := [(3, .int _), (4, .int _), (2, .int _), (0, .ref _)]) hx hb dX2_log_82 rfl hl (by decide) rfl (fun ls hl => ?_)
          refine lv_iinc (k := 1) (v := nI (_ + 1)) (lv' := [(4, .int _), (3, .int _), (2, .int _), (0, .ref _)]) hx hb dX2_log_83 hl rfl (inc1 _) (by decide) rfl (fun ls hl => ?_)
          refine lv_goto (tgt := 38) hx hb dX2_log_86 rfl ?_
          exact ih (i + 1) (some i) _ _ _ (by omega) (by rw [← hsc]; exact lsF_lt (by omega) ho) hm w (lv_sub hl [0, 1, 2, 3] rfl)
        · have hsc : lsF M z i none = none := by rw [lsF, if_neg h9z]; exact if_neg hfx
          rw [lmF, hsc] at hm
          refine lv_aload_n hx hb dX2_log_71 rfl (lv_at hl 3 rfl) ?_
          refine lv_iload hx hb dX2_log_72 (lv_at hl 0 rfl) ?_
          refine calli2 K w (c_X2_free K.2.2 (by omega) ok) (lk_X2_84 K ⟨Nat.le_trans (Nat.le_of_ble_eq_true rfl) hR.1, Nat.le_trans (Nat.le_of_ble_eq_true rfl) hR.2⟩) (recvM K w) rfl hl.1 rfl (Nat.le_of_ble_eq_true rfl) dX2_log_74 hf (fun H locs w => ?_)
          refine lv_if_eq (tgt := 83) hx hb dX2_log_77 rfl (fun _ => ?_) (fun h9 => absurd (by rw [Bool.not_eq_true _ |>.mp hfx]; rfl) h9)
          refine lv_iinc (k := 0) (v := nI (_ + 1)) (lv' := [(4, .int _), (3, .int _), (2, .int _), (0, .ref _)]) hx hb dX2_log_83 hl rfl (inc1 _) (by decide) rfl (fun ls hl => ?_)
          refine lv_goto (tgt := 38) hx hb dX2_log_86 rfl ?_
          exact ih (i + 1) (none) _ _ _ (by omega) (by rw [← hsc]; exact lsF_lt (by omega) ho) hm w (lv_sub hl [0, 1, 2, 3] rfl)
      · have hy := ho y rfl
        refine lv_iload_n hx hb dX2_log_57 rfl (lv_at hl 1 rfl) ?_
        refine lv_if_lt (tgt := 71) hx hb dX2_log_58 rfl (fun h9 => absurd h9 (show ¬ nI y < 0 from nI_pos (by omega))) (fun _ => ?_)
        by_cases hbf : bfF M i y = true
        · refine lv_aload_n hx hb dX2_log_61 rfl (lv_at hl 3 rfl) ?_
          refine lv_iload hx hb dX2_log_62 (lv_at hl 0 rfl) ?_
          refine lv_iload_n hx hb dX2_log_64 rfl (lv_at hl 1 rfl) ?_
          refine topE (y := nI y) rfl ?_
          refine calli2 K w (c_X2_before K.2.2 (by omega) (by omega)) (lk_X2_75 K ⟨Nat.le_trans (Nat.le_of_ble_eq_true rfl) hR.1, Nat.le_trans (Nat.le_of_ble_eq_true rfl) hR.2⟩) (recvM K w) rfl hl.1 rfl (Nat.le_of_ble_eq_true rfl) dX2_log_65 hf (fun H locs w => ?_)
          refine lv_if_eq (tgt := 83) hx hb dX2_log_68 rfl (fun h9 => absurd h9 (by rw [hbf]; decide)) (fun _ => ?_)
          by_cases hfx : fxF M i z 0 = true
          · have hsc : lsF M z i (some y) = some i := by rw [lsF, if_neg h9z]; exact (if_pos hbf).trans (if_pos hfx)
            rw [lmF, hsc] at hm
            refine lv_aload_n hx hb dX2_log_71 rfl (lv_at hl 3 rfl) ?_
            refine lv_iload hx hb dX2_log_72 (lv_at hl 0 rfl) ?_
            refine calli2 K w (c_X2_free K.2.2 (by omega) ok) (lk_X2_84 K ⟨Nat.le_trans (Nat.le_of_ble_eq_true rfl) hR.1, Nat.le_trans (Nat.le_of_ble_eq_true rfl) hR.2⟩) (recvM K w) rfl hl.1 rfl (Nat.le_of_ble_eq_true rfl) dX2_log_74 hf (fun H locs w => ?_)
            refine lv_if_eq (tgt := 83) hx hb dX2_log_77 rfl (fun h9 => absurd h9 (by rw [hfx]; decide)) (fun _ => ?_)
            refine lv_iload hx hb dX2_log_80 (lv_at hl 0 rfl) ?_
            refine lv_istore_n (lv' := [(3, .int _), (4, .int _), (2, .int _), (0, .ref _)]) hx hb dX2_log_82 rfl hl (by decide) rfl (fun ls hl => ?_)
            refine lv_iinc (k := 1) (v := nI (_ + 1)) (lv' := [(4, .int _), (3, .int _), (2, .int _), (0, .ref _)]) hx hb dX2_log_83 hl rfl (inc1 _) (by decide) rfl (fun ls hl => ?_)
            refine lv_goto (tgt := 38) hx hb dX2_log_86 rfl ?_
            exact ih (i + 1) (some i) _ _ _ (by omega) (by rw [← hsc]; exact lsF_lt (by omega) ho) hm w (lv_sub hl [0, 1, 2, 3] rfl)
          · have hsc : lsF M z i (some y) = some y := by rw [lsF, if_neg h9z]; exact (if_pos hbf).trans (if_neg hfx)
            rw [lmF, hsc] at hm
            refine lv_aload_n hx hb dX2_log_71 rfl (lv_at hl 3 rfl) ?_
            refine lv_iload hx hb dX2_log_72 (lv_at hl 0 rfl) ?_
            refine calli2 K w (c_X2_free K.2.2 (by omega) ok) (lk_X2_84 K ⟨Nat.le_trans (Nat.le_of_ble_eq_true rfl) hR.1, Nat.le_trans (Nat.le_of_ble_eq_true rfl) hR.2⟩) (recvM K w) rfl hl.1 rfl (Nat.le_of_ble_eq_true rfl) dX2_log_74 hf (fun H locs w => ?_)
            refine lv_if_eq (tgt := 83) hx hb dX2_log_77 rfl (fun _ => ?_) (fun h9 => absurd (by rw [Bool.not_eq_true _ |>.mp hfx]; rfl) h9)
            refine lv_iinc (k := 0) (v := nI (_ + 1)) (lv' := [(4, .int _), (3, .int _), (2, .int _), (0, .ref _)]) hx hb dX2_log_83 hl rfl (inc1 _) (by decide) rfl (fun ls hl => ?_)
            refine lv_goto (tgt := 38) hx hb dX2_log_86 rfl ?_
            exact ih (i + 1) (some y) _ _ _ (by omega) (by rw [← hsc]; exact lsF_lt (by omega) ho) hm w (lv_sub hl [0, 1, 2, 3] rfl)
        · have hsc : lsF M z i (some y) = some y := by rw [lsF, if_neg h9z]; exact if_neg hbf
          rw [lmF, hsc] at hm
          refine lv_aload_n hx hb dX2_log_61 rfl (lv_at hl 3 rfl) ?_
          refine lv_iload hx hb dX2_log_62 (lv_at hl 0 rfl) ?_
          refine lv_iload_n hx hb dX2_log_64 rfl (lv_at hl 1 rfl) ?_
          refine topE (y := nI y) rfl ?_
          refine calli2 K w (c_X2_before K.2.2 (by omega) (by omega)) (lk_X2_75 K ⟨Nat.le_trans (Nat.le_of_ble_eq_true rfl) hR.1, Nat.le_trans (Nat.le_of_ble_eq_true rfl) hR.2⟩) (recvM K w) rfl hl.1 rfl (Nat.le_of_ble_eq_true rfl) dX2_log_65 hf (fun H locs w => ?_)
          refine lv_if_eq (tgt := 83) hx hb dX2_log_68 rfl (fun _ => ?_) (fun h9 => absurd (by rw [Bool.not_eq_true _ |>.mp hbf]; rfl) h9)
          refine lv_iinc (k := 0) (v := nI (_ + 1)) (lv' := [(4, .int _), (3, .int _), (2, .int _), (0, .ref _)]) hx hb dX2_log_83 hl rfl (inc1 _) (by decide) rfl (fun ls hl => ?_)
          refine lv_goto (tgt := 38) hx hb dX2_log_86 rfl ?_
          exact ih (i + 1) (some y) _ _ _ (by omega) (by rw [← hsc]; exact lsF_lt (by omega) ho) hm w (lv_sub hl [0, 1, 2, 3] rfl)

set_option maxHeartbeats 4000000 in
set_option maxRecDepth 100000 in
theorem lp_log (K : cY E p m c cX2_log 5 s args w0 RX2) (hR : 2 ≤ R.frames ∧ 45 ≤ R.locals) (hf : cells ≤ R.cells ∧ slots ≤ R.slots) {x1 : Int32} (kk : ∀ (H : Heap) (locs : List Loc) (ls : Array Slot), vst E s.heap UF.1 z t UF.2 H locs → lv_has ls 5 [(2, .int x1), (0, .ref (ad E 0))] → W p l e R s m args below meth c H locs cells slots Q (F0 m 93 ls [])) : ∀ (d : Nat) (M : Mt) (f : Nat) (H : Heap) (locs : List Loc) (ls : Array Slot), cL M z ≤ d → f + cL M z ≤ z → okN M z → lgF z d (M, f) = UF → vst E s.heap M z t f H locs → lv_has ls 5 [(2, .int x1), (0, .ref (ad E 0))] → W p l e R s m args below meth c H locs cells slots Q (F0 m 33 ls []) := by
  have hx := K.1.1
  have hb := K.1.2.1
  intro d
  induction d with
  | zero =>
    intro M f H locs ls hd hfo ok hm w hl
    refine lv_iconst (v := oI none) hx hb dX2_log_33 (by decide) ?_
    refine lv_istore_n (lv' := [(3, .int _), (2, .int _), (0, .ref _)]) hx hb dX2_log_34 rfl hl (by decide) rfl (fun ls hl => ?_)
    refine lv_iconst (v := nI 0) hx hb dX2_log_35 (by decide) ?_
    refine lv_istore (lv' := [(4, .int _), (3, .int _), (2, .int _), (0, .ref _)]) hx hb dX2_log_36 hl (by decide) rfl (fun ls hl => ?_)
    refine lp_lscan (of := lmF M z z 0 none) K ⟨Nat.le_trans (Nat.le_of_ble_eq_true rfl) hR.1, Nat.le_trans (Nat.le_of_ble_eq_true rfl) hR.2⟩ hf ok (fun H locs ls w hl => ?_) z 0 none _ _ _ (by omega) oB_none rfl w (lv_sub hl [0, 1, 2, 3] rfl)
    have hmn : lmF M z z 0 none = none := lmF_none (fun j _ h2 => cL_zero (M := M) (z := z) (Nat.le_zero.mp hd) j (by omega))
    rw [hmn] at hl
    refine lv_iload_n hx hb dX2_log_89 rfl (lv_at hl 0 rfl) ?_
    refine lv_if_ge (tgt := 99) hx hb dX2_log_90 rfl (fun h9 => absurd h9 (by decide : ¬ (0 : Int32) ≤ oI none)) (fun _ => ?_)
    exact kk _ _ _ (by rw [← hm]; exact w) (lv_sub hl [1, 2] rfl)
  | succ d ih =>
    intro M f H locs ls hd hfo ok hm w hl
    have hz := ok.1
    refine lv_iconst (v := oI none) hx hb dX2_log_33 (by decide) ?_
    refine lv_istore_n (lv' := [(3, .int _), (2, .int _), (0, .ref _)]) hx hb dX2_log_34 rfl hl (by decide) rfl (fun ls hl => ?_)
    refine lv_iconst (v := nI 0) hx hb dX2_log_35 (by decide) ?_
    refine lv_istore (lv' := [(4, .int _), (3, .int _), (2, .int _), (0, .ref _)]) hx hb dX2_log_36 hl (by decide) rfl (fun ls hl => ?_)
    refine lp_lscan (of := lmF M z z 0 none) K ⟨Nat.le_trans (Nat.le_of_ble_eq_true rfl) hR.1, Nat.le_trans (Nat.le_of_ble_eq_true rfl) hR.2⟩ hf ok (fun H locs ls w hl => ?_) z 0 none _ _ _ (by omega) oB_none rfl w (lv_sub hl [0, 1, 2, 3] rfl)
    have hlt : oB (lmF M z z 0 none) z := lmF_lt (by omega) oB_none
    rw [lgF] at hm
    rcases hmn : lmF M z z 0 none with _ | y
    · rw [hmn] at hm hl
      refine lv_iload_n hx hb dX2_log_89 rfl (lv_at hl 0 rfl) ?_
      refine lv_if_ge (tgt := 99) hx hb dX2_log_90 rfl (fun h9 => absurd h9 (by decide : ¬ (0 : Int32) ≤ oI none)) (fun _ => ?_)
      exact kk _ _ _ (by rw [← hm]; exact w) (lv_sub hl [1, 2] rfl)
    · rw [hmn] at hm hl
      have hy := hlt y hmn
      have hct := cL_tk (fo := f) hy ((lmF_left hmn).elim (fun h => by cases h) id)
      refine lv_iload_n hx hb dX2_log_89 rfl (lv_at hl 0 rfl) ?_
      refine lv_if_ge (tgt := 99) hx hb dX2_log_90 rfl (fun _ => ?_) (fun h9 => absurd (show (0 : Int32) ≤ nI y from nI_pos' (by omega)) h9)
      refine lv_aload_n hx hb dX2_log_99 rfl (lv_at hl 2 rfl) ?_
      refine gf_X2_left K w dX2_log_100 ?_
      refine lv_iload_n hx hb dX2_log_103 rfl (lv_at hl 0 rfl) ?_
      refine topE (y := nI y) rfl ?_
      refine lv_iconst (v := nI 0) hx hb dX2_log_104 (by decide) ?_
      refine stB2 K w rwB9 (by omega) (by decide) dX2_log_105 (fun H locs w => ?_)
      refine lv_aload_n hx hb dX2_log_106 rfl (lv_at hl 2 rfl) ?_
      refine gf_X2_row K w dX2_log_107 ?_
      refine lv_aload_n hx hb dX2_log_110 rfl (lv_at hl 2 rfl) ?_
      refine gf_X2_found K w dX2_log_111 ?_
      refine lv_iload_n hx hb dX2_log_114 rfl (lv_at hl 0 rfl) ?_
      refine topE (y := nI y) rfl ?_
      refine stI2 K w rwI3 (by omega) dX2_log_115 (fun H locs w => ?_)
      refine lv_aload_n hx hb dX2_log_116 rfl (lv_at hl 2 rfl) ?_
      refine lv_dup hx hb dX2_log_117 rfl ?_
      refine gf_X2_found K w dX2_log_118 ?_
      refine lv_iconst (v := nI 1) hx hb dX2_log_121 (by decide) ?_
      refine lv_iadd hx hb dX2_log_122 ?_
      refine pf_X2_found K w (nI_add f 1) dX2_log_123 (fun H locs w => ?_)
      refine lv_goto (tgt := 33) hx hb dX2_log_126 rfl ?_
      exact ih _ (f + 1) _ _ _ (by omega) (by omega) ok.tk hm w (lv_sub hl [1, 2] rfl)

set_option maxHeartbeats 4000000 in
set_option maxRecDepth 100000 in
theorem lp_bk (K : cY E p m c cX2_back 5 s args w0 RX2) (hR : 1 ≤ R.frames ∧ 21 ≤ R.locals) (hf : cells ≤ R.cells ∧ slots ≤ R.slots) {j r : Nat} (hj : j < 2147483648) (ok : okN M z) (ret : ∀ {H : Heap} {locs : List Loc} {pc : Nat} {ls : Array Slot} {v : Int32}, vst E s.heap M z t f H locs → v = nI r → decode cX2_back pc = .ok (.ireturn, 1) → W p l e R s m args below meth c H locs cells slots Q (F0 m pc ls [.int v])) : ∀ (d i : Nat) (q : Nat) (H : Heap) (locs : List Loc) (ls : Array Slot), i + d = j → q < z → bkF M d q = some r → vst E s.heap M z t f H locs → lv_has ls 5 [(4, .int (nI i)), (3, .int (nI q)), (0, .ref (ad E 0)), (2, .int (nI j))] → W p l e R s m args below meth c H locs cells slots Q (F0 m 28 ls []) := by
  have hx := K.1.1
  have hb := K.1.2.1
  intro d
  induction d with
  | zero =>
    intro i q H locs ls hi hq hm w hl
    have h4 := ok.le hq
    have hn := ok.1
    refine lv_iload hx hb dX2_back_28 (lv_at hl 0 rfl) ?_
    refine lv_iload_n hx hb dX2_back_30 rfl (lv_at hl 3 rfl) ?_
    refine lv_icmp_ge (tgt := 64) hx hb dX2_back_31 rfl (fun _ => ?_) (fun h9 => absurd (nI_le (by omega) (by omega)) h9)
    refine lv_iload_n hx hb dX2_back_64 rfl (lv_at hl 1 rfl) ?_
    exact ret w (by cases hm; rfl) dX2_back_65
  | succ d ih =>
    intro i q H locs ls hi hq hm w hl
    have h4 := ok.le hq
    have hn := ok.1
    by_cases h0 : pcn M q = 0
    · rw [bkF, if_pos h0] at hm; cases hm
    rw [bkF, if_neg h0] at hm
    have h5 := ok.lt hq (t := 0) (by omega)
    refine lv_iload hx hb dX2_back_28 (lv_at hl 0 rfl) ?_
    refine lv_iload_n hx hb dX2_back_30 rfl (lv_at hl 3 rfl) ?_
    refine lv_icmp_ge (tgt := 64) hx hb dX2_back_31 rfl (fun h9 => absurd h9 (nI_ge (by omega) (by omega))) (fun _ => ?_)
    refine lv_aload_n hx hb dX2_back_34 rfl (lv_at hl 2 rfl) ?_
    refine gf_X2_many K w dX2_back_35 ?_
    refine lv_iload_n hx hb dX2_back_38 rfl (lv_at hl 1 rfl) ?_
    refine ldI2 K w rwI4 (by omega) dX2_back_39 ?_
    refine topE (y := nI (pcn M q)) (ok.pc hq) ?_
    refine lv_if_ne (tgt := 49) hx hb dX2_back_40 rfl (fun _ => ?_) (fun h9 => absurd h9 (nI_ne0 (by omega) (by omega)))
    refine lv_aload_n hx hb dX2_back_49 rfl (lv_at hl 2 rfl) ?_
    refine gf_X2_parent K w dX2_back_50 ?_
    refine lv_iload_n hx hb dX2_back_53 rfl (lv_at hl 1 rfl) ?_
    refine lv_iconst (v := nI 4) hx hb dX2_back_54 (by decide) ?_
    refine lv_imul hx hb dX2_back_55 ?_
    refine topE (y := nI (q * 4 + 0)) (pk_mul _ _) ?_
    refine ldI2 K w rwI5 (by omega) dX2_back_56 ?_
    refine topE (y := nI (par M q 0)) (ok.pr hq (by omega)) ?_
    refine lv_istore_n (lv' := [(3, .int _), (4, .int _), (0, .ref _), (2, .int _)]) hx hb dX2_back_57 rfl hl (by decide) rfl (fun ls hl => ?_)
    refine lv_iinc (k := 1) (v := nI (_ + 1)) (lv' := [(4, .int _), (3, .int _), (0, .ref _), (2, .int _)]) hx hb dX2_back_58 hl rfl (inc1 _) (by decide) rfl (fun ls hl => ?_)
    refine lv_goto (tgt := 28) hx hb dX2_back_61 rfl ?_
    exact ih (i + 1) _ _ _ _ (by omega) (by omega) hm w (lv_sub hl [0, 1, 2, 3] rfl)

set_option maxHeartbeats 4000000 in
set_option maxRecDepth 100000 in
theorem lp_bkt (K : cY E p m c cX2_back 5 s args w0 RX2) (hR : 1 ≤ R.frames ∧ 21 ≤ R.locals) (hf : cells ≤ R.cells ∧ slots ≤ R.slots) {j : Nat} (hj : j < 2147483648) (ok : okN M z) (ret : ∀ {H : Heap} {locs : List Loc} {pc : Nat} {ls : Array Slot} {v : Int32}, vst E s.heap M z 2 f H locs → v = nI 0 → decode cX2_back pc = .ok (.ireturn, 1) → W p l e R s m args below meth c H locs cells slots Q (F0 m pc ls [.int v])) : ∀ (d i q : Nat) (H : Heap) (locs : List Loc) (ls : Array Slot), i + d = j → q < z → bkF M d q = none → vst E s.heap M z t f H locs → lv_has ls 5 [(4, .int (nI i)), (3, .int (nI q)), (0, .ref (ad E 0)), (2, .int (nI j))] → W p l e R s m args below meth c H locs cells slots Q (F0 m 28 ls []) := by
  have hx := K.1.1
  have hb := K.1.2.1
  intro d
  induction d with
  | zero =>
    intro i q H locs ls hi hq hm w hl
    cases hm
  | succ d ih =>
    intro i q H locs ls hi hq hm w hl
    have h4 := ok.le hq
    have hn := ok.1
    by_cases h0 : pcn M q = 0
    · refine lv_iload hx hb dX2_back_28 (lv_at hl 0 rfl) ?_
      refine lv_iload_n hx hb dX2_back_30 rfl (lv_at hl 3 rfl) ?_
      refine lv_icmp_ge (tgt := 64) hx hb dX2_back_31 rfl (fun h9 => absurd h9 (nI_ge (by omega) (by omega))) (fun _ => ?_)
      refine lv_aload_n hx hb dX2_back_34 rfl (lv_at hl 2 rfl) ?_
      refine gf_X2_many K w dX2_back_35 ?_
      refine lv_iload_n hx hb dX2_back_38 rfl (lv_at hl 1 rfl) ?_
      refine ldI2 K w rwI4 (by omega) dX2_back_39 ?_
      refine topE (y := nI (pcn M q)) (ok.pc hq) ?_
      refine lv_if_ne (tgt := 49) hx hb dX2_back_40 rfl (fun h9 => absurd (by rw [h0]; rfl) h9) (fun _ => ?_)
      refine lv_aload_n hx hb dX2_back_43 rfl (lv_at hl 2 rfl) ?_
      refine lv_iconst (v := nI 2) hx hb dX2_back_44 (by decide) ?_
      refine calli2 K w (c_X2_refuse K.2.2) (lk_X2_45 K ⟨Nat.le_trans (Nat.le_of_ble_eq_true rfl) hR.1, Nat.le_trans (Nat.le_of_ble_eq_true rfl) hR.2⟩) (recvM K w) rfl hl.1 rfl (Nat.le_of_ble_eq_true rfl) dX2_back_45 hf (fun H locs w => ?_)
      exact ret w rfl dX2_back_48
    · rw [bkF, if_neg h0] at hm
      have h5 := ok.lt hq (t := 0) (by omega)
      refine lv_iload hx hb dX2_back_28 (lv_at hl 0 rfl) ?_
      refine lv_iload_n hx hb dX2_back_30 rfl (lv_at hl 3 rfl) ?_
      refine lv_icmp_ge (tgt := 64) hx hb dX2_back_31 rfl (fun h9 => absurd h9 (nI_ge (by omega) (by omega))) (fun _ => ?_)
      refine lv_aload_n hx hb dX2_back_34 rfl (lv_at hl 2 rfl) ?_
      refine gf_X2_many K w dX2_back_35 ?_
      refine lv_iload_n hx hb dX2_back_38 rfl (lv_at hl 1 rfl) ?_
      refine ldI2 K w rwI4 (by omega) dX2_back_39 ?_
      refine topE (y := nI (pcn M q)) (ok.pc hq) ?_
      refine lv_if_ne (tgt := 49) hx hb dX2_back_40 rfl (fun _ => ?_) (fun h9 => absurd h9 (nI_ne0 (by omega) (by omega)))
      refine lv_aload_n hx hb dX2_back_49 rfl (lv_at hl 2 rfl) ?_
      refine gf_X2_parent K w dX2_back_50 ?_
      refine lv_iload_n hx hb dX2_back_53 rfl (lv_at hl 1 rfl) ?_
      refine lv_iconst (v := nI 4) hx hb dX2_back_54 (by decide) ?_
      refine lv_imul hx hb dX2_back_55 ?_
      refine topE (y := nI (q * 4 + 0)) (pk_mul _ _) ?_
      refine ldI2 K w rwI5 (by omega) dX2_back_56 ?_
      refine topE (y := nI (par M q 0)) (ok.pr hq (by omega)) ?_
      refine lv_istore_n (lv' := [(3, .int _), (4, .int _), (0, .ref _), (2, .int _)]) hx hb dX2_back_57 rfl hl (by decide) rfl (fun ls hl => ?_)
      refine lv_iinc (k := 1) (v := nI (_ + 1)) (lv' := [(4, .int _), (3, .int _), (0, .ref _), (2, .int _)]) hx hb dX2_back_58 hl rfl (inc1 _) (by decide) rfl (fun ls hl => ?_)
      refine lv_goto (tgt := 28) hx hb dX2_back_61 rfl ?_
      exact ih (i + 1) _ _ _ _ (by omega) (by omega) hm w (lv_sub hl [0, 1, 2, 3] rfl)

end YG
