/-- sent's first loop -/
def sB (M : Mt) (i : Nat) : Bool := decide (¬ M 7 i = 0 ∧ M 8 i = 0)
def s1F : Nat → Nat → Mt → Mt
  | 0, _, M => M
  | d + 1, i, M => s1F d (i + 1) (va_up M 9 (upd (M 9) i (bI (sB M i))))
theorem s1F_row {a : Nat} (h : a ≠ 9) : ∀ {d i : Nat} {M : Mt}, s1F d i M a = M a := by
  intro d
  induction d with
  | zero => intro i M; rfl
  | succ d ih => intro i M; rw [s1F, ih, va_up_ne _ _ h]
theorem s1F_keep {j : Nat} : ∀ {d i : Nat} {M : Mt}, j < i → s1F d i M 9 j = M 9 j := by
  intro d
  induction d with
  | zero => intro i M _; rfl
  | succ d ih => intro i M h; rw [s1F, ih (by omega), va_up_self, pk_un (by omega)]
theorem s1F_at {j : Nat} : ∀ {d i : Nat} {M : Mt}, i ≤ j → j < i + d → s1F d i M 9 j = bI (sB M j) := by
  intro d
  induction d with
  | zero => intro i M h1 h2; omega
  | succ d ih =>
    intro i M h1 h2
    rw [s1F]
    by_cases e : j = i
    · subst e
      rw [s1F_keep (by omega), va_up_self, pk_us]
    · rw [ih (by omega) (by omega)]
      rfl
theorem sB_t {M : Mt} {i : Nat} (h7 : ¬ M 7 i = 0) (h8 : M 8 i = 0) : sB M i = true := decide_eq_true ⟨h7, h8⟩
theorem sB_f {M : Mt} {i : Nat} (h7 : M 7 i = 0) : sB M i = false := decide_eq_false (fun h => h.1 h7)
theorem sB_g {M : Mt} {i : Nat} (h8 : ¬ M 8 i = 0) : sB M i = false := decide_eq_false (fun h => h8 h.2)
def ssF (M : Mt) (i : Nat) (o : Option Nat) : Option Nat := if M 9 i = 0 then o else match o with
  | none => some i
  | some y => if M 3 i < M 3 y ∨ (M 3 i = M 3 y ∧ M 2 i < M 2 y) then some i else some y
def smF (M : Mt) : Nat → Nat → Option Nat → Option Nat
  | 0, _, o => o
  | d + 1, i, o => smF M d (i + 1) (ssF M i o)
theorem ssF_lt {M : Mt} {i z : Nat} {o : Option Nat} (hi : i < z) (ho : oB o z) : oB (ssF M i o) z := by
  intro u hu
  unfold ssF at hu
  split at hu
  · exact ho u hu
  · cases o with
    | none => cases hu; exact hi
    | some y =>
      dsimp only at hu
      split at hu
      · cases hu; exact hi
      · cases hu; exact ho _ rfl
theorem smF_lt {M : Mt} {z : Nat} : ∀ {d i : Nat} {o : Option Nat}, i + d ≤ z → oB o z → oB (smF M d i o) z := by
  intro d
  induction d with
  | zero => intro i o _ ho; exact ho
  | succ d ih => intro i o hi ho; exact ih (by omega) (ssF_lt (by omega) ho)
theorem smF_some {M : Mt} : ∀ {d i : Nat} {y : Nat}, smF M d i (some y) ≠ none := by
  intro d
  induction d with
  | zero => intro i y h; cases h
  | succ d ih =>
    intro i y h
    rw [smF] at h
    have e : ∃ x, ssF M i (some y) = some x := by
      unfold ssF
      split
      · exact ⟨y, rfl⟩
      · dsimp only
        split
        · exact ⟨i, rfl⟩
        · exact ⟨y, rfl⟩
    obtain ⟨x, hx⟩ := e
    rw [hx] at h
    exact ih h
theorem smF_none {M : Mt} : ∀ {d i : Nat}, smF M d i none = none → ∀ j, i ≤ j → j < i + d → M 9 j = 0 := by
  intro d
  induction d with
  | zero => intro i _ j h1 h2; omega
  | succ d ih =>
    intro i h j h1 h2
    rw [smF] at h
    by_cases h9 : M 9 i = 0
    · have e : ssF M i none = none := by unfold ssF; rw [if_pos h9]
      rw [e] at h
      by_cases ej : j = i
      · rw [ej]; exact h9
      · exact ih h j (by omega) (by omega)
    · have e : ssF M i none = some i := by unfold ssF; rw [if_neg h9]
      rw [e] at h
      exact absurd h smF_some
theorem ssF_left {M : Mt} {i y : Nat} {o : Option Nat} (h : ssF M i o = some y) : o = some y ∨ ¬ M 9 y = 0 := by
  unfold ssF at h
  split at h
  · exact Or.inl h
  · rename_i h9
    cases o with
    | none => cases h; exact Or.inr h9
    | some x =>
      dsimp only at h
      split at h
      · cases h; exact Or.inr h9
      · exact Or.inl h
theorem smF_left {M : Mt} : ∀ {d i y : Nat} {o : Option Nat}, smF M d i o = some y → o = some y ∨ ¬ M 9 y = 0 := by
  intro d
  induction d with
  | zero => intro i y o h; exact Or.inl h
  | succ d ih =>
    intro i y o h
    rcases ih h with h1 | h1
    · exact ssF_left h1
    · exact Or.inr h1
def s2F (z : Nat) : Nat → Mt → Option Nat → Mt × Option Nat
  | 0, M, o => (M, o)
  | d + 1, M, _ => match smF M z 0 none with
    | none => (M, none)
    | some y => s2F z d (va_up M 9 (upd (M 9) y (nI 0))) (some y)
theorem cL_pos {M : Mt} {z : Nat} (h : 0 < cL M z) : smF M z 0 none ≠ none := by
  intro h2
  have e : cL M z = 0 := by
    have h3 := smF_none h2
    have : cL M z = cnF (fun _ => false) z 0 0 := cnF_congr (fun j _ h5 => decide_eq_false (fun h6 => h6 (h3 j (Nat.zero_le _) h5)))
    rw [this]
    have hz : ∀ d i, cnF (fun _ => false) d i 0 = 0 := by
      intro d
      induction d with
      | zero => intro i; rfl
      | succ d ih => intro i; rw [cnF_s, ih]; rfl
    exact hz z 0
  omega
theorem cL_del {M : Mt} {z y : Nat} (hy : y < z) (h : ¬ M 9 y = 0) : cL (va_up M 9 (upd (M 9) y (nI 0))) z + 1 = cL M z := cL_tk (fo := 0) hy h
theorem cL_s1 {M : Mt} {z : Nat} : cL (s1F z 0 M) z = cnF (fun j => sB M j) z 0 0 := by
  refine cnF_congr (fun j _ h => ?_)
  rw [s1F_at (Nat.zero_le _) h]
  cases hb : sB M j with
  | false => rfl
  | true => rfl
theorem cL_row {M M' : Mt} {z : Nat} (h : M' 9 = M 9) : cL M' z = cL M z := by rw [cL, cL, h]

section YJ
variable {p : Program} {l : Launch} {e : Env} {R : Room} {s : State} {m : MethodId} {args : Array Value} {below : List Frame} {meth : Method} {c : Code} {H : Heap} {locs : List Loc} {cells slots : Nat} {Q : State → Prop} {ls : Array Slot} {w0 : Cond} {E : En} {M MF : Mt} {UF : Mt × Option Nat} {z t f : Nat}
set_option maxHeartbeats 4000000 in
set_option maxRecDepth 100000 in
theorem lp_s1 (K : cY E p m c cX2_sent 7 s args w0 RX2) (hR : 0 ≤ R.frames ∧ 0 ≤ R.locals) (hf : cells ≤ R.cells ∧ slots ≤ R.slots) {x1 : Int32} {r : Nat} (hz : z ≤ 2000) (kk : ∀ (H : Heap) (locs : List Loc) (ls : Array Slot), vst E s.heap MF z t f H locs → lv_has ls 7 [(3, .int (nI r)), (2, .int x1), (0, .ref (ad E 0))] → W p l e R s m args below meth c H locs cells slots Q (F0 m 105 ls [])) : ∀ (d i : Nat) (M : Mt) (a : Nat) (H : Heap) (locs : List Loc) (ls : Array Slot), i + d = z → s1F d i M = MF → cnF (fun j => sB M j) d i a = r → vst E s.heap M z t f H locs → lv_has ls 7 [(4, .int (nI i)), (3, .int (nI a)), (2, .int x1), (0, .ref (ad E 0))] → W p l e R s m args below meth c H locs cells slots Q (F0 m 45 ls []) := by
  have hx := K.1.1
  have hb := K.1.2.1
  intro d
  induction d with
  | zero =>
    intro i M a H locs ls hi hm hc w hl
    refine lv_iload hx hb dX2_sent_45 (lv_at hl 0 rfl) ?_
    refine lv_aload_n hx hb dX2_sent_47 rfl (lv_at hl 3 rfl) ?_
    refine gf_X2_size K w dX2_sent_48 ?_
    refine lv_icmp_ge (tgt := 105) hx hb dX2_sent_51 rfl (fun _ => ?_) (fun h9 => absurd (nI_le (by omega) (by omega)) h9)
    exact kk _ _ _ (by rw [← hm]; exact w) (by rw [← hc]; exact lv_sub hl [1, 2, 3] rfl)
  | succ d ih =>
    intro i M a H locs ls hi hm hc w hl
    refine lv_iload hx hb dX2_sent_45 (lv_at hl 0 rfl) ?_
    refine lv_aload_n hx hb dX2_sent_47 rfl (lv_at hl 3 rfl) ?_
    refine gf_X2_size K w dX2_sent_48 ?_
    refine lv_icmp_ge (tgt := 105) hx hb dX2_sent_51 rfl (fun h9 => absurd h9 (nI_ge (by omega) (by omega))) (fun _ => ?_)
    by_cases h7 : M 7 i = 0
    · have hsb := sB_f (M := M) (i := i) h7
      rw [s1F, hsb] at hm
      rw [cnF, if_neg (by rw [hsb]; decide)] at hc
      refine lv_aload_n hx hb dX2_sent_54 rfl (lv_at hl 3 rfl) ?_
      refine gf_X2_left K w dX2_sent_55 ?_
      refine lv_iload hx hb dX2_sent_58 (lv_at hl 0 rfl) ?_
      refine lv_aload_n hx hb dX2_sent_60 rfl (lv_at hl 3 rfl) ?_
      refine gf_X2_one K w dX2_sent_61 ?_
      refine lv_iload hx hb dX2_sent_64 (lv_at hl 0 rfl) ?_
      refine ldB2 K w rwB7 (by omega) dX2_sent_66 ?_
      refine lv_if_eq (tgt := 84) hx hb dX2_sent_67 rfl (fun _ => ?_) (fun h9 => absurd h7 h9)
      refine lv_iconst (v := nI 0) hx hb dX2_sent_84 (by decide) ?_
      refine stB2 K w rwB9 (by omega) (by decide) dX2_sent_85 (fun H locs w => ?_)
      refine lv_aload_n hx hb dX2_sent_86 rfl (lv_at hl 3 rfl) ?_
      refine gf_X2_left K w dX2_sent_87 ?_
      refine lv_iload hx hb dX2_sent_90 (lv_at hl 0 rfl) ?_
      refine ldB2 K w rwB9 (by omega) dX2_sent_92 ?_
      refine topE (y := nI 0) (by rw [va_up_self, pk_us]) ?_
      refine lv_if_eq (tgt := 99) hx hb dX2_sent_93 rfl (fun _ => ?_) (fun h9 => absurd (rfl : nI 0 = 0) h9)
      refine lv_iinc (k := 0) (v := nI (_ + 1)) (lv' := [(4, .int _), (3, .int _), (2, .int _), (0, .ref _)]) hx hb dX2_sent_99 hl rfl (inc1 _) (by decide) rfl (fun ls hl => ?_)
      refine lv_goto (tgt := 45) hx hb dX2_sent_102 rfl ?_
      exact ih (i + 1) _ a _ _ _ (by omega) hm hc w (lv_sub hl [0, 1, 2, 3] rfl)
    · refine lv_aload_n hx hb dX2_sent_54 rfl (lv_at hl 3 rfl) ?_
      refine gf_X2_left K w dX2_sent_55 ?_
      refine lv_iload hx hb dX2_sent_58 (lv_at hl 0 rfl) ?_
      refine lv_aload_n hx hb dX2_sent_60 rfl (lv_at hl 3 rfl) ?_
      refine gf_X2_one K w dX2_sent_61 ?_
      refine lv_iload hx hb dX2_sent_64 (lv_at hl 0 rfl) ?_
      refine ldB2 K w rwB7 (by omega) dX2_sent_66 ?_
      refine lv_if_eq (tgt := 84) hx hb dX2_sent_67 rfl (fun h9 => absurd h9 h7) (fun _ => ?_)
      by_cases h8 : M 8 i = 0
      · have hsb := sB_t (M := M) (i := i) h7 h8
        rw [s1F, hsb] at hm
        rw [cnF, if_pos hsb] at hc
        refine lv_aload_n hx hb dX2_sent_70 rfl (lv_at hl 3 rfl) ?_
        refine gf_X2_other K w dX2_sent_71 ?_
        refine lv_iload hx hb dX2_sent_74 (lv_at hl 0 rfl) ?_
        refine ldB2 K w rwB8 (by omega) dX2_sent_76 ?_
        refine lv_if_ne (tgt := 84) hx hb dX2_sent_77 rfl (fun h9 => absurd h8 h9) (fun _ => ?_)
        refine lv_iconst (v := nI 1) hx hb dX2_sent_80 (by decide) ?_
        refine lv_goto (tgt := 85) hx hb dX2_sent_81 rfl ?_
        refine stB2 K w rwB9 (by omega) (by decide) dX2_sent_85 (fun H locs w => ?_)
        refine lv_aload_n hx hb dX2_sent_86 rfl (lv_at hl 3 rfl) ?_
        refine gf_X2_left K w dX2_sent_87 ?_
        refine lv_iload hx hb dX2_sent_90 (lv_at hl 0 rfl) ?_
        refine ldB2 K w rwB9 (by omega) dX2_sent_92 ?_
        refine topE (y := nI 1) (by rw [va_up_self, pk_us]) ?_
        refine lv_if_eq (tgt := 99) hx hb dX2_sent_93 rfl (fun h9 => absurd h9 (by decide : ¬ nI 1 = 0)) (fun _ => ?_)
        refine lv_iinc (k := 1) (v := nI (_ + 1)) (lv' := [(3, .int _), (4, .int _), (2, .int _), (0, .ref _)]) hx hb dX2_sent_96 hl rfl (inc1 _) (by decide) rfl (fun ls hl => ?_)
        refine lv_iinc (k := 1) (v := nI (_ + 1)) (lv' := [(4, .int _), (3, .int _), (2, .int _), (0, .ref _)]) hx hb dX2_sent_99 hl rfl (inc1 _) (by decide) rfl (fun ls hl => ?_)
        refine lv_goto (tgt := 45) hx hb dX2_sent_102 rfl ?_
        exact ih (i + 1) _ (a + 1) _ _ _ (by omega) hm hc w (lv_sub hl [0, 1, 2, 3] rfl)
      · have hsb := sB_g (M := M) (i := i) h8
        rw [s1F, hsb] at hm
        rw [cnF, if_neg (by rw [hsb]; decide)] at hc
        refine lv_aload_n hx hb dX2_sent_70 rfl (lv_at hl 3 rfl) ?_
        refine gf_X2_other K w dX2_sent_71 ?_
        refine lv_iload hx hb dX2_sent_74 (lv_at hl 0 rfl) ?_
        refine ldB2 K w rwB8 (by omega) dX2_sent_76 ?_
        refine lv_if_ne (tgt := 84) hx hb dX2_sent_77 rfl (fun _ => ?_) (fun h9 => absurd h9 h8)
        refine lv_iconst (v := nI 0) hx hb dX2_sent_84 (by decide) ?_
        refine stB2 K w rwB9 (by omega) (by decide) dX2_sent_85 (fun H locs w => ?_)
        refine lv_aload_n hx hb dX2_sent_86 rfl (lv_at hl 3 rfl) ?_
        refine gf_X2_left K w dX2_sent_87 ?_
        refine lv_iload hx hb dX2_sent_90 (lv_at hl 0 rfl) ?_
        refine ldB2 K w rwB9 (by omega) dX2_sent_92 ?_
        refine topE (y := nI 0) (by rw [va_up_self, pk_us]) ?_
        refine lv_if_eq (tgt := 99) hx hb dX2_sent_93 rfl (fun _ => ?_) (fun h9 => absurd (rfl : nI 0 = 0) h9)
        refine lv_iinc (k := 0) (v := nI (_ + 1)) (lv' := [(4, .int _), (3, .int _), (2, .int _), (0, .ref _)]) hx hb dX2_sent_99 hl rfl (inc1 _) (by decide) rfl (fun ls hl => ?_)
        refine lv_goto (tgt := 45) hx hb dX2_sent_102 rfl ?_
        exact ih (i + 1) _ a _ _ _ (by omega) hm hc w (lv_sub hl [0, 1, 2, 3] rfl)

set_option maxHeartbeats 4000000 in
set_option maxRecDepth 100000 in
theorem lp_sscan (K : cY E p m c cX2_sent 7 s args w0 RX2) (hR : 0 ≤ R.frames ∧ 0 ≤ R.locals) (hf : cells ≤ R.cells ∧ slots ≤ R.slots) {x1 x5 : Int32} {of : Option Nat} (hz : z ≤ 2000) (kk : ∀ (H : Heap) (locs : List Loc) (ls : Array Slot), vst E s.heap M z t f H locs → lv_has ls 7 [(4, .int (oI of)), (5, .int x5), (2, .int x1), (0, .ref (ad E 0))] → W p l e R s m args below meth c H locs cells slots Q (F0 m 239 ls [])) : ∀ (d i : Nat) (o : Option Nat) (H : Heap) (locs : List Loc) (ls : Array Slot), i + d = z → oB o z → smF M d i o = of → vst E s.heap M z t f H locs → lv_has ls 7 [(6, .int (nI i)), (4, .int (oI o)), (5, .int x5), (2, .int x1), (0, .ref (ad E 0))] → W p l e R s m args below meth c H locs cells slots Q (F0 m 154 ls []) := by
  have hx := K.1.1
  have hb := K.1.2.1
  intro d
  induction d with
  | zero =>
    intro i o H locs ls hi ho hm w hl
    refine lv_iload hx hb dX2_sent_154 (lv_at hl 0 rfl) ?_
    refine lv_aload_n hx hb dX2_sent_156 rfl (lv_at hl 4 rfl) ?_
    refine gf_X2_size K w dX2_sent_157 ?_
    refine lv_icmp_ge (tgt := 239) hx hb dX2_sent_160 rfl (fun _ => ?_) (fun h9 => absurd (nI_le (by omega) (by omega)) h9)
    exact kk _ _ _ w (by rw [← hm]; exact lv_sub hl [1, 2, 3, 4] rfl)
  | succ d ih =>
    intro i o H locs ls hi ho hm w hl
    refine lv_iload hx hb dX2_sent_154 (lv_at hl 0 rfl) ?_
    refine lv_aload_n hx hb dX2_sent_156 rfl (lv_at hl 4 rfl) ?_
    refine gf_X2_size K w dX2_sent_157 ?_
    refine lv_icmp_ge (tgt := 239) hx hb dX2_sent_160 rfl (fun h9 => absurd h9 (nI_ge (by omega) (by omega))) (fun _ => ?_)
    by_cases h9z : M 9 i = 0
    · have hsc : ssF M i o = o := by unfold ssF; rw [if_pos h9z]
      rw [smF, hsc] at hm
      refine lv_aload_n hx hb dX2_sent_163 rfl (lv_at hl 4 rfl) ?_
      refine gf_X2_left K w dX2_sent_164 ?_
      refine lv_iload hx hb dX2_sent_167 (lv_at hl 0 rfl) ?_
      refine ldB2 K w rwB9 (by omega) dX2_sent_169 ?_
      refine lv_if_eq (tgt := 233) hx hb dX2_sent_170 rfl (fun _ => ?_) (fun h9 => absurd h9z h9)
      refine lv_iinc (k := 0) (v := nI (_ + 1)) (lv' := [(6, .int _), (4, .int _), (5, .int _), (2, .int _), (0, .ref _)]) hx hb dX2_sent_233 hl rfl (inc1 _) (by decide) rfl (fun ls hl => ?_)
      refine lv_goto (tgt := 154) hx hb dX2_sent_236 rfl ?_
      exact ih (i + 1) (o) _ _ _ (by omega) (by rw [← hsc]; exact ssF_lt (by omega) ho) hm w (lv_sub hl [0, 1, 2, 3, 4] rfl)
    · refine lv_aload_n hx hb dX2_sent_163 rfl (lv_at hl 4 rfl) ?_
      refine gf_X2_left K w dX2_sent_164 ?_
      refine lv_iload hx hb dX2_sent_167 (lv_at hl 0 rfl) ?_
      refine ldB2 K w rwB9 (by omega) dX2_sent_169 ?_
      refine lv_if_eq (tgt := 233) hx hb dX2_sent_170 rfl (fun h9 => absurd h9 h9z) (fun _ => ?_)
      rcases o with _ | y
      · have hsc : ssF M i none = some i := by unfold ssF; rw [if_neg h9z]
        rw [smF, hsc] at hm
        refine lv_iload hx hb dX2_sent_173 (lv_at hl 1 rfl) ?_
        refine lv_if_lt (tgt := 229) hx hb dX2_sent_175 rfl (fun _ => ?_) (fun h9 => absurd (by decide : oI none < 0) h9)
        refine lv_iload hx hb dX2_sent_229 (lv_at hl 0 rfl) ?_
        refine lv_istore (lv' := [(4, .int _), (6, .int _), (5, .int _), (2, .int _), (0, .ref _)]) hx hb dX2_sent_231 hl (by decide) rfl (fun ls hl => ?_)
        refine lv_iinc (k := 1) (v := nI (_ + 1)) (lv' := [(6, .int _), (4, .int _), (5, .int _), (2, .int _), (0, .ref _)]) hx hb dX2_sent_233 hl rfl (inc1 _) (by decide) rfl (fun ls hl => ?_)
        refine lv_goto (tgt := 154) hx hb dX2_sent_236 rfl ?_
        exact ih (i + 1) (some i) _ _ _ (by omega) (by rw [← hsc]; exact ssF_lt (by omega) ho) hm w (lv_sub hl [0, 1, 2, 3, 4] rfl)
      · have hy := ho y rfl
        refine lv_iload hx hb dX2_sent_173 (lv_at hl 1 rfl) ?_
        refine lv_if_lt (tgt := 229) hx hb dX2_sent_175 rfl (fun h9 => absurd h9 (show ¬ nI y < 0 from nI_pos (by omega))) (fun _ => ?_)
        by_cases hr1 : M 3 i < M 3 y
        · have hsc : ssF M i (some y) = some i := by unfold ssF; rw [if_neg h9z]; exact if_pos (Or.inl hr1)
          rw [smF, hsc] at hm
          refine lv_aload_n hx hb dX2_sent_178 rfl (lv_at hl 4 rfl) ?_
          refine gf_X2_row K w dX2_sent_179 ?_
          refine lv_iload hx hb dX2_sent_182 (lv_at hl 0 rfl) ?_
          refine ldI2 K w rwI3 (by omega) dX2_sent_184 ?_
          refine lv_aload_n hx hb dX2_sent_185 rfl (lv_at hl 4 rfl) ?_
          refine gf_X2_row K w dX2_sent_186 ?_
          refine lv_iload hx hb dX2_sent_189 (lv_at hl 1 rfl) ?_
          refine topE (y := nI y) rfl ?_
          refine ldI2 K w rwI3 (by omega) dX2_sent_191 ?_
          refine lv_icmp_lt (tgt := 229) hx hb dX2_sent_192 rfl (fun _ => ?_) (fun h9 => absurd hr1 h9)
          refine lv_iload hx hb dX2_sent_229 (lv_at hl 0 rfl) ?_
          refine lv_istore (lv' := [(4, .int _), (6, .int _), (5, .int _), (2, .int _), (0, .ref _)]) hx hb dX2_sent_231 hl (by decide) rfl (fun ls hl => ?_)
          refine lv_iinc (k := 1) (v := nI (_ + 1)) (lv' := [(6, .int _), (4, .int _), (5, .int _), (2, .int _), (0, .ref _)]) hx hb dX2_sent_233 hl rfl (inc1 _) (by decide) rfl (fun ls hl => ?_)
          refine lv_goto (tgt := 154) hx hb dX2_sent_236 rfl ?_
          exact ih (i + 1) (some i) _ _ _ (by omega) (by rw [← hsc]; exact ssF_lt (by omega) ho) hm w (lv_sub hl [0, 1, 2, 3, 4] rfl)
        · refine lv_aload_n hx hb dX2_sent_178 rfl (lv_at hl 4 rfl) ?_
          refine gf_X2_row K w dX2_sent_179 ?_
          refine lv_iload hx hb dX2_sent_182 (lv_at hl 0 rfl) ?_
          refine ldI2 K w rwI3 (by omega) dX2_sent_184 ?_
          refine lv_aload_n hx hb dX2_sent_185 rfl (lv_at hl 4 rfl) ?_
          refine gf_X2_row K w dX2_sent_186 ?_
          refine lv_iload hx hb dX2_sent_189 (lv_at hl 1 rfl) ?_
          refine topE (y := nI y) rfl ?_
          refine ldI2 K w rwI3 (by omega) dX2_sent_191 ?_
          refine lv_icmp_lt (tgt := 229) hx hb dX2_sent_192 rfl (fun h9 => absurd h9 hr1) (fun _ => ?_)
          by_cases hr2 : M 3 i = M 3 y
          · refine lv_aload_n hx hb dX2_sent_195 rfl (lv_at hl 4 rfl) ?_
            refine gf_X2_row K w dX2_sent_196 ?_
            refine lv_iload hx hb dX2_sent_199 (lv_at hl 0 rfl) ?_
            refine ldI2 K w rwI3 (by omega) dX2_sent_201 ?_
            refine lv_aload_n hx hb dX2_sent_202 rfl (lv_at hl 4 rfl) ?_
            refine gf_X2_row K w dX2_sent_203 ?_
            refine lv_iload hx hb dX2_sent_206 (lv_at hl 1 rfl) ?_
            refine topE (y := nI y) rfl ?_
            refine ldI2 K w rwI3 (by omega) dX2_sent_208 ?_
            refine lv_icmp_ne (tgt := 233) hx hb dX2_sent_209 rfl (fun h9 => absurd hr2 h9) (fun _ => ?_)
            by_cases hr3 : M 2 y ≤ M 2 i
            · have hsc : ssF M i (some y) = some y := by unfold ssF; rw [if_neg h9z]; exact if_neg (fun h => h.elim hr1 (fun h => nlt_le hr3 h.2))
              rw [smF, hsc] at hm
              refine lv_aload_n hx hb dX2_sent_212 rfl (lv_at hl 4 rfl) ?_
              refine gf_X2_key K w dX2_sent_213 ?_
              refine lv_iload hx hb dX2_sent_216 (lv_at hl 0 rfl) ?_
              refine ldI2 K w rwI2 (by omega) dX2_sent_218 ?_
              refine lv_aload_n hx hb dX2_sent_219 rfl (lv_at hl 4 rfl) ?_
              refine gf_X2_key K w dX2_sent_220 ?_
              refine lv_iload hx hb dX2_sent_223 (lv_at hl 1 rfl) ?_
              refine topE (y := nI y) rfl ?_
              refine ldI2 K w rwI2 (by omega) dX2_sent_225 ?_
              refine lv_icmp_ge (tgt := 233) hx hb dX2_sent_226 rfl (fun _ => ?_) (fun h9 => absurd hr3 h9)
              refine lv_iinc (k := 0) (v := nI (_ + 1)) (lv' := [(6, .int _), (4, .int _), (5, .int _), (2, .int _), (0, .ref _)]) hx hb dX2_sent_233 hl rfl (inc1 _) (by decide) rfl (fun ls hl => ?_)
              refine lv_goto (tgt := 154) hx hb dX2_sent_236 rfl ?_
              exact ih (i + 1) (some y) _ _ _ (by omega) (by rw [← hsc]; exact ssF_lt (by omega) ho) hm w (lv_sub hl [0, 1, 2, 3, 4] rfl)
            · have hsc : ssF M i (some y) = some i := by unfold ssF; rw [if_neg h9z]; exact if_pos (Or.inr ⟨hr2, lt_nle hr3⟩)
              rw [smF, hsc] at hm
              refine lv_aload_n hx hb dX2_sent_212 rfl (lv_at hl 4 rfl) ?_
              refine gf_X2_key K w dX2_sent_213 ?_
              refine lv_iload hx hb dX2_sent_216 (lv_at hl 0 rfl) ?_
              refine ldI2 K w rwI2 (by omega) dX2_sent_218 ?_
              refine lv_aload_n hx hb dX2_sent_219 rfl (lv_at hl 4 rfl) ?_
              refine gf_X2_key K w dX2_sent_220 ?_
              refine lv_iload hx hb dX2_sent_223 (lv_at hl 1 rfl) ?_
              refine topE (y := nI y) rfl ?_
              refine ldI2 K w rwI2 (by omega) dX2_sent_225 ?_
              refine lv_icmp_ge (tgt := 233) hx hb dX2_sent_226 rfl (fun h9 => absurd h9 hr3) (fun _ => ?_)
              refine lv_iload hx hb dX2_sent_229 (lv_at hl 0 rfl) ?_
              refine lv_istore (lv' := [(4, .int _), (6, .int _), (5, .int _), (2, .int _), (0, .ref _)]) hx hb dX2_sent_231 hl (by decide) rfl (fun ls hl => ?_)
              refine lv_iinc (k := 1) (v := nI (_ + 1)) (lv' := [(6, .int _), (4, .int _), (5, .int _), (2, .int _), (0, .ref _)]) hx hb dX2_sent_233 hl rfl (inc1 _) (by decide) rfl (fun ls hl => ?_)
              refine lv_goto (tgt := 154) hx hb dX2_sent_236 rfl ?_
              exact ih (i + 1) (some i) _ _ _ (by omega) (by rw [← hsc]; exact ssF_lt (by omega) ho) hm w (lv_sub hl [0, 1, 2, 3, 4] rfl)
          · have hsc : ssF M i (some y) = some y := by unfold ssF; rw [if_neg h9z]; exact if_neg (fun h => h.elim hr1 (fun h => hr2 h.1))
            rw [smF, hsc] at hm
            refine lv_aload_n hx hb dX2_sent_195 rfl (lv_at hl 4 rfl) ?_
            refine gf_X2_row K w dX2_sent_196 ?_
            refine lv_iload hx hb dX2_sent_199 (lv_at hl 0 rfl) ?_
            refine ldI2 K w rwI3 (by omega) dX2_sent_201 ?_
            refine lv_aload_n hx hb dX2_sent_202 rfl (lv_at hl 4 rfl) ?_
            refine gf_X2_row K w dX2_sent_203 ?_
            refine lv_iload hx hb dX2_sent_206 (lv_at hl 1 rfl) ?_
            refine topE (y := nI y) rfl ?_
            refine ldI2 K w rwI3 (by omega) dX2_sent_208 ?_
            refine lv_icmp_ne (tgt := 233) hx hb dX2_sent_209 rfl (fun _ => ?_) (fun h9 => absurd h9 hr2)
            refine lv_iinc (k := 0) (v := nI (_ + 1)) (lv' := [(6, .int _), (4, .int _), (5, .int _), (2, .int _), (0, .ref _)]) hx hb dX2_sent_233 hl rfl (inc1 _) (by decide) rfl (fun ls hl => ?_)
            refine lv_goto (tgt := 154) hx hb dX2_sent_236 rfl ?_
            exact ih (i + 1) (some y) _ _ _ (by omega) (by rw [← hsc]; exact ssF_lt (by omega) ho) hm w (lv_sub hl [0, 1, 2, 3, 4] rfl)

set_option maxHeartbeats 4000000 in
set_option maxRecDepth 100000 in
theorem lp_s2 (K : cY E p m c cX2_sent 7 s args w0 RX2) (hR : 0 ≤ R.frames ∧ 0 ≤ R.locals) (hf : cells ≤ R.cells ∧ slots ≤ R.slots) {j : Nat} (hj : j < 2147483647) (hz : z ≤ 2000) (kk : ∀ (H : Heap) (locs : List Loc) (ls : Array Slot), vst E s.heap UF.1 z t f H locs → lv_has ls 7 [(4, .int (oI UF.2)), (0, .ref (ad E 0))] → W p l e R s m args below meth c H locs cells slots Q (F0 m 253 ls [])) : ∀ (d i : Nat) (M : Mt) (o : Option Nat) (v4 : Int32) (H : Heap) (locs : List Loc) (ls : Array Slot), i + d = j + 1 → d ≤ cL M z → (d = 0 → v4 = oI o) → s2F z d M o = UF → vst E s.heap M z t f H locs → lv_has ls 7 [(5, .int (nI i)), (4, .int v4), (2, .int (nI j)), (0, .ref (ad E 0))] → W p l e R s m args below meth c H locs cells slots Q (F0 m 142 ls []) := by
  have hx := K.1.1
  have hb := K.1.2.1
  intro d
  induction d with
  | zero =>
    intro i M o v4 H locs ls hi hcl ho4 hm w hl
    refine lv_iload hx hb dX2_sent_142 (lv_at hl 0 rfl) ?_
    refine lv_iload_n hx hb dX2_sent_144 rfl (lv_at hl 2 rfl) ?_
    refine lv_icmp_gt (tgt := 253) hx hb dX2_sent_145 rfl (fun _ => ?_) (fun h9 => absurd (nI_lt (by omega) (by omega)) h9)
    exact kk _ _ _ (by rw [← hm]; exact w) (by rw [← hm, show (s2F z 0 M o).2 = o from rfl, ← ho4 rfl]; exact lv_sub hl [1, 3] rfl)
  | succ d ih =>
    intro i M o v4 H locs ls hi hcl ho4 hm w hl
    refine lv_iload hx hb dX2_sent_142 (lv_at hl 0 rfl) ?_
    refine lv_iload_n hx hb dX2_sent_144 rfl (lv_at hl 2 rfl) ?_
    refine lv_icmp_gt (tgt := 253) hx hb dX2_sent_145 rfl (fun h9 => absurd h9 (nI_nlt (by omega) (by omega))) (fun _ => ?_)
    refine lv_iconst (v := oI none) hx hb dX2_sent_148 (by decide) ?_
    refine lv_istore (lv' := [(4, .int _), (5, .int _), (2, .int _), (0, .ref _)]) hx hb dX2_sent_149 hl (by decide) rfl (fun ls hl => ?_)
    refine lv_iconst (v := nI 0) hx hb dX2_sent_151 (by decide) ?_
    refine lv_istore (lv' := [(6, .int _), (4, .int _), (5, .int _), (2, .int _), (0, .ref _)]) hx hb dX2_sent_152 hl (by decide) rfl (fun ls hl => ?_)
    refine lp_sscan (of := smF M z 0 none) K ⟨Nat.le_trans (Nat.le_of_ble_eq_true rfl) hR.1, Nat.le_trans (Nat.le_of_ble_eq_true rfl) hR.2⟩ hf hz (fun H locs ls w hl => ?_) z 0 none _ _ _ (by omega) oB_none rfl w (lv_sub hl [0, 1, 2, 3, 4] rfl)
    have hlt : oB (smF M z 0 none) z := smF_lt (by omega) oB_none
    rw [s2F] at hm
    rcases hmn : smF M z 0 none with _ | y
    · exact absurd hmn (cL_pos (by omega))
    rw [hmn] at hm hl
    have hy := hlt y hmn
    have hct := cL_del hy ((smF_left hmn).elim (fun h => by cases h) id)
    refine lv_aload_n hx hb dX2_sent_239 rfl (lv_at hl 3 rfl) ?_
    refine gf_X2_left K w dX2_sent_240 ?_
    refine lv_iload hx hb dX2_sent_243 (lv_at hl 0 rfl) ?_
    refine topE (y := nI y) rfl ?_
    refine lv_iconst (v := nI 0) hx hb dX2_sent_245 (by decide) ?_
    refine stB2 K w rwB9 (by omega) (by decide) dX2_sent_246 (fun H locs w => ?_)
    refine lv_iinc (k := 1) (v := nI (_ + 1)) (lv' := [(5, .int _), (4, .int _), (2, .int _), (0, .ref _)]) hx hb dX2_sent_247 hl rfl (inc1 _) (by decide) rfl (fun ls hl => ?_)
    refine lv_goto (tgt := 142) hx hb dX2_sent_250 rfl ?_
    exact ih (i + 1) _ (some y) _ _ _ _ (by omega) (by omega) (fun _ => rfl) hm w (lv_sub hl [0, 1, 2, 3] rfl)

set_option maxHeartbeats 4000000 in
set_option maxRecDepth 100000 in
theorem pre_sent (K : cY E p m c cX2_sent 7 s args w0 RX2) (hR : 2 ≤ R.frames ∧ 46 ≤ R.locals) (hf : cells ≤ R.cells ∧ slots ≤ R.slots) {h : Nat} {x : Int32} (hh : h < 2) (hb6 : b01 M 6) (ok : okN M z) (kk : ∀ (H : Heap) (locs : List Loc) (ls : Array Slot), vst E s.heap (s1F z 0 (hdR (hdR M z 7 h) z 8 (1 - h))) z 0 f H locs → lv_has ls 7 [(3, .int (nI (cnF (fun j => sB (hdR (hdR M z 7 h) z 8 (1 - h)) j) z 0 0))), (2, .int x), (0, .ref (ad E 0))] → W p l e R s m args below meth c H locs cells slots Q (F0 m 105 ls [])) (w : vst E s.heap M z 0 f H locs) (hl : lv_has ls 7 [(0, .ref (ad E 0)), (1, .int (nI h)), (2, .int x)]) : W p l e R s m args below meth c H locs cells slots Q (F0 m 20 ls []) := by
  have hx := K.1.1
  have hb := K.1.2.1
  have hz := ok.1
  refine lv_aload_n hx hb dX2_sent_20 rfl (lv_at hl 0 rfl) ?_
  refine lv_iload_n hx hb dX2_sent_21 rfl (lv_at hl 1 rfl) ?_
  refine lv_aload_n hx hb dX2_sent_22 rfl (lv_at hl 0 rfl) ?_
  refine gf_X2_one K w dX2_sent_23 ?_
  refine callv2 K w (c_X2_held K.2.2 rwB7 (by decide) (by decide) (by decide) hh hb6 ok) (lk_X2_87 K ⟨Nat.le_trans (Nat.le_of_ble_eq_true rfl) hR.1, Nat.le_trans (Nat.le_of_ble_eq_true rfl) hR.2⟩) (recvM K w) rfl hl.1 rfl (Nat.le_of_ble_eq_true rfl) dX2_sent_26 hf (fun H locs w => ?_)
  refine lv_aload_n hx hb dX2_sent_29 rfl (lv_at hl 0 rfl) ?_
  refine lv_iconst (v := nI 1) hx hb dX2_sent_30 (by decide) ?_
  refine lv_iload_n hx hb dX2_sent_31 rfl (lv_at hl 1 rfl) ?_
  refine lv_isub hx hb dX2_sent_32 ?_
  refine topE (y := nI (1 - h)) (pk_sub (by omega)) ?_
  refine lv_aload_n hx hb dX2_sent_33 rfl (lv_at hl 0 rfl) ?_
  refine gf_X2_other K w dX2_sent_34 ?_
  refine callv2 K w (c_X2_held K.2.2 rwB8 (by decide) (by decide) (by decide) (by omega) (by intro j; rw [hdR_row (by decide)]; exact hb6 j) (ok.rows (hdR_row (by decide)) (hdR_row (by decide)))) (lk_X2_87 K ⟨Nat.le_trans (Nat.le_of_ble_eq_true rfl) hR.1, Nat.le_trans (Nat.le_of_ble_eq_true rfl) hR.2⟩) (recvM K w) rfl hl.1 rfl (Nat.le_of_ble_eq_true rfl) dX2_sent_37 hf (fun H locs w => ?_)
  refine lv_iconst (v := nI 0) hx hb dX2_sent_40 (by decide) ?_
  refine lv_istore_n (lv' := [(3, .int _), (0, .ref _), (1, .int _), (2, .int _)]) hx hb dX2_sent_41 rfl hl (by decide) rfl (fun ls hl => ?_)
  refine lv_iconst (v := nI 0) hx hb dX2_sent_42 (by decide) ?_
  refine lv_istore (lv' := [(4, .int _), (3, .int _), (0, .ref _), (1, .int _), (2, .int _)]) hx hb dX2_sent_43 hl (by decide) rfl (fun ls hl => ?_)
  exact lp_s1 K ⟨Nat.le_trans (Nat.le_of_ble_eq_true rfl) hR.1, Nat.le_trans (Nat.le_of_ble_eq_true rfl) hR.2⟩ hf hz kk z 0 _ 0 _ _ _ (by omega) rfl rfl w (lv_sub hl [0, 1, 4, 2] rfl)

end YJ
def se0 (M : Mt) (z h : Nat) : Mt := s1F z 0 (hdR (hdR M z 7 h) z 8 (1 - h))
def seN (M : Mt) (z h : Nat) : Nat := cnF (fun j => sB (hdR (hdR M z 7 h) z 8 (1 - h)) j) z 0 0
theorem se0_row {M : Mt} {z h a : Nat} (h7 : a ≠ 7) (h8 : a ≠ 8) (h9 : a ≠ 9) : se0 M z h a = M a := by rw [se0, s1F_row h9, hdR_row h8, hdR_row h7]
def seU (M : Mt) (z h j : Nat) : Mt × Option Nat := s2F z (j + 1) (gnF (z - 1 + 1) 0 (se0 M z h)) none
theorem seN_le {M : Mt} {z h : Nat} : seN M z h ≤ z := cnF_le

set_option maxHeartbeats 4000000 in
set_option maxRecDepth 100000 in
theorem r_X2_sent {l : Launch} {E : En} {M : Mt} {z t f : Nat} (dn : dM E) {x v : Int32} (h2 : x < 0 ∨ nI 2 ≤ x) : MI2 l yX2_sent (.code yX2_sent cX2_sent 7 (some .int)) 2 46 E [.ref (ad E 0), .int x, .int v] M z t f (nI 0) M z 1 f := by
  refine MI2.of dn (own := RX2) (by decide) rfl (Nat.le_of_ble_eq_true rfl) (fun p e s m args below meth c ls Q K w hl ret => ?_)
  have hx := K.1.1
  have hb := K.1.2.1
  have hR : 2 ≤ (rmA 2 46).frames ∧ 46 ≤ (rmA 2 46).locals := ⟨Nat.le_refl _, Nat.le_refl _⟩
  have hf : 0 ≤ (rmA 2 46).cells ∧ 0 ≤ (rmA 2 46).slots := ⟨Nat.le_refl _, Nat.le_refl _⟩
  have hl : lv_has ls 7 [(0, .ref (ad E 0)), (1, .int x), (2, .int v)] := hl
  by_cases h0 : x < 0
  · refine lv_aload_n hx hb dX2_sent_0 rfl (lv_at hl 0 rfl) ?_
    refine lv_iconst (v := nI 0) hx hb dX2_sent_1 (by decide) ?_
    refine pf_X2_thrown K w rfl dX2_sent_2 (fun H locs w => ?_)
    refine lv_iload_n hx hb dX2_sent_5 rfl (lv_at hl 1 rfl) ?_
    refine lv_if_lt (tgt := 14) hx hb dX2_sent_6 rfl (fun _ => ?_) (fun h9 => absurd h0 h9)
    refine lv_aload_n hx hb dX2_sent_14 rfl (lv_at hl 0 rfl) ?_
    refine lv_iconst (v := nI 1) hx hb dX2_sent_15 (by decide) ?_
    refine calli2 K w (c_X2_refuse dn) (lk_X2_45 K ⟨Nat.le_trans (Nat.le_of_ble_eq_true rfl) hR.1, Nat.le_trans (Nat.le_of_ble_eq_true rfl) hR.2⟩) (recvM K w) rfl hl.1 rfl (Nat.le_of_ble_eq_true rfl) dX2_sent_16 hf (fun H locs w => ?_)
    exact ret w rfl dX2_sent_19
  · refine lv_aload_n hx hb dX2_sent_0 rfl (lv_at hl 0 rfl) ?_
    refine lv_iconst (v := nI 0) hx hb dX2_sent_1 (by decide) ?_
    refine pf_X2_thrown K w rfl dX2_sent_2 (fun H locs w => ?_)
    refine lv_iload_n hx hb dX2_sent_5 rfl (lv_at hl 1 rfl) ?_
    refine lv_if_lt (tgt := 14) hx hb dX2_sent_6 rfl (fun h9 => absurd h9 h0) (fun _ => ?_)
    refine lv_iload_n hx hb dX2_sent_9 rfl (lv_at hl 1 rfl) ?_
    refine lv_iconst (v := nI 1) hx hb dX2_sent_10 (by decide) ?_
    refine lv_icmp_le (tgt := 20) hx hb dX2_sent_11 rfl (fun h9 => absurd h9 (fun h => nlt_le h (i32_lt_of (by decide) (h2.elim (fun h4 => absurd h4 h0) id)))) (fun _ => ?_)
    refine lv_aload_n hx hb dX2_sent_14 rfl (lv_at hl 0 rfl) ?_
    refine lv_iconst (v := nI 1) hx hb dX2_sent_15 (by decide) ?_
    refine calli2 K w (c_X2_refuse dn) (lk_X2_45 K ⟨Nat.le_trans (Nat.le_of_ble_eq_true rfl) hR.1, Nat.le_trans (Nat.le_of_ble_eq_true rfl) hR.2⟩) (recvM K w) rfl hl.1 rfl (Nat.le_of_ble_eq_true rfl) dX2_sent_16 hf (fun H locs w => ?_)
    exact ret w rfl dX2_sent_19

set_option maxHeartbeats 4000000 in
set_option maxRecDepth 100000 in
theorem c_X2_sent_a {l : Launch} {E : En} {M : Mt} {z t f : Nat} (dn : dM E) {h : Nat} (hh : h < 2) (hb6 : b01 M 6) (ok : okN M z) : MI2 l yX2_sent (.code yX2_sent cX2_sent 7 (some .int)) 2 46 E [.ref (ad E 0), .int (nI h), .int (-1)] M z t f (nI (seN M z h)) (se0 M z h) z 0 f := by
  refine MI2.of dn (own := RX2) (by decide) rfl (Nat.le_of_ble_eq_true rfl) (fun p e s m args below meth c ls Q K w hl ret => ?_)
  have hx := K.1.1
  have hb := K.1.2.1
  have hR : 2 ≤ (rmA 2 46).frames ∧ 46 ≤ (rmA 2 46).locals := ⟨Nat.le_refl _, Nat.le_refl _⟩
  have hf : 0 ≤ (rmA 2 46).cells ∧ 0 ≤ (rmA 2 46).slots := ⟨Nat.le_refl _, Nat.le_refl _⟩
  have hl : lv_has ls 7 [(0, .ref (ad E 0)), (1, .int (nI h)), (2, .int (-1))] := hl
  refine lv_aload_n hx hb dX2_sent_0 rfl (lv_at hl 0 rfl) ?_
  refine lv_iconst (v := nI 0) hx hb dX2_sent_1 (by decide) ?_
  refine pf_X2_thrown K w rfl dX2_sent_2 (fun H locs w => ?_)
  refine lv_iload_n hx hb dX2_sent_5 rfl (lv_at hl 1 rfl) ?_
  refine lv_if_lt (tgt := 14) hx hb dX2_sent_6 rfl (fun h9 => absurd h9 (nI_pos (by omega))) (fun _ => ?_)
  refine lv_iload_n hx hb dX2_sent_9 rfl (lv_at hl 1 rfl) ?_
  refine lv_iconst (v := nI 1) hx hb dX2_sent_10 (by decide) ?_
  refine lv_icmp_le (tgt := 20) hx hb dX2_sent_11 rfl (fun _ => ?_) (fun h9 => absurd (nI_le (by omega) (by decide)) h9)
  refine pre_sent K ⟨Nat.le_trans (Nat.le_of_ble_eq_true rfl) hR.1, Nat.le_trans (Nat.le_of_ble_eq_true rfl) hR.2⟩ hf hh hb6 ok (fun H locs ls w hl => ?_) w hl
  refine lv_iload_n hx hb dX2_sent_105 rfl (lv_at hl 1 rfl) ?_
  refine lv_iconst (v := -1) hx hb dX2_sent_106 (by decide) ?_
  refine lv_icmp_ne (tgt := 112) hx hb dX2_sent_107 rfl (fun h9 => absurd (rfl : (-1 : Int32) = -1) h9) (fun _ => ?_)
  refine lv_iload_n hx hb dX2_sent_110 rfl (lv_at hl 0 rfl) ?_
  exact ret w rfl dX2_sent_111

set_option maxHeartbeats 4000000 in
set_option maxRecDepth 100000 in
theorem c_X2_sent_c {l : Launch} {E : En} {M : Mt} {z t f : Nat} (dn : dM E) {h : Nat} {x : Int32} (hh : h < 2) (hb6 : b01 M 6) (ok : okN M z) (h1 : ¬ x = -1) (h2 : x < 0 ∨ nI (seN M z h) ≤ x) : MI2 l yX2_sent (.code yX2_sent cX2_sent 7 (some .int)) 2 46 E [.ref (ad E 0), .int (nI h), .int x] M z t f (nI 0) (se0 M z h) z 2 f := by
  refine MI2.of dn (own := RX2) (by decide) rfl (Nat.le_of_ble_eq_true rfl) (fun p e s m args below meth c ls Q K w hl ret => ?_)
  have hx := K.1.1
  have hb := K.1.2.1
  have hR : 2 ≤ (rmA 2 46).frames ∧ 46 ≤ (rmA 2 46).locals := ⟨Nat.le_refl _, Nat.le_refl _⟩
  have hf : 0 ≤ (rmA 2 46).cells ∧ 0 ≤ (rmA 2 46).slots := ⟨Nat.le_refl _, Nat.le_refl _⟩
  have hl : lv_has ls 7 [(0, .ref (ad E 0)), (1, .int (nI h)), (2, .int x)] := hl
  refine lv_aload_n hx hb dX2_sent_0 rfl (lv_at hl 0 rfl) ?_
  refine lv_iconst (v := nI 0) hx hb dX2_sent_1 (by decide) ?_
  refine pf_X2_thrown K w rfl dX2_sent_2 (fun H locs w => ?_)
  refine lv_iload_n hx hb dX2_sent_5 rfl (lv_at hl 1 rfl) ?_
  refine lv_if_lt (tgt := 14) hx hb dX2_sent_6 rfl (fun h9 => absurd h9 (nI_pos (by omega))) (fun _ => ?_)
  refine lv_iload_n hx hb dX2_sent_9 rfl (lv_at hl 1 rfl) ?_
  refine lv_iconst (v := nI 1) hx hb dX2_sent_10 (by decide) ?_
  refine lv_icmp_le (tgt := 20) hx hb dX2_sent_11 rfl (fun _ => ?_) (fun h9 => absurd (nI_le (by omega) (by decide)) h9)
  refine pre_sent K ⟨Nat.le_trans (Nat.le_of_ble_eq_true rfl) hR.1, Nat.le_trans (Nat.le_of_ble_eq_true rfl) hR.2⟩ hf hh hb6 ok (fun H locs ls w hl => ?_) w hl
  refine lv_iload_n hx hb dX2_sent_105 rfl (lv_at hl 1 rfl) ?_
  refine lv_iconst (v := -1) hx hb dX2_sent_106 (by decide) ?_
  refine lv_icmp_ne (tgt := 112) hx hb dX2_sent_107 rfl (fun _ => ?_) (fun h9 => absurd h9 h1)
  by_cases h0 : x < 0
  · refine lv_iload_n hx hb dX2_sent_112 rfl (lv_at hl 1 rfl) ?_
    refine lv_if_lt (tgt := 121) hx hb dX2_sent_113 rfl (fun _ => ?_) (fun h9 => absurd h0 h9)
    refine lv_aload_n hx hb dX2_sent_121 rfl (lv_at hl 2 rfl) ?_
    refine lv_iconst (v := nI 2) hx hb dX2_sent_122 (by decide) ?_
    refine calli2 K w (c_X2_refuse dn) (lk_X2_45 K ⟨Nat.le_trans (Nat.le_of_ble_eq_true rfl) hR.1, Nat.le_trans (Nat.le_of_ble_eq_true rfl) hR.2⟩) (recvM K w) rfl hl.1 rfl (Nat.le_of_ble_eq_true rfl) dX2_sent_123 hf (fun H locs w => ?_)
    exact ret w rfl dX2_sent_126
  · refine lv_iload_n hx hb dX2_sent_112 rfl (lv_at hl 1 rfl) ?_
    refine lv_if_lt (tgt := 121) hx hb dX2_sent_113 rfl (fun h9 => absurd h9 h0) (fun _ => ?_)
    refine lv_iload_n hx hb dX2_sent_116 rfl (lv_at hl 1 rfl) ?_
    refine lv_iload_n hx hb dX2_sent_117 rfl (lv_at hl 0 rfl) ?_
    refine lv_icmp_lt (tgt := 127) hx hb dX2_sent_118 rfl (fun h9 => absurd h9 (nlt_or h0 h2)) (fun _ => ?_)
    refine lv_aload_n hx hb dX2_sent_121 rfl (lv_at hl 2 rfl) ?_
    refine lv_iconst (v := nI 2) hx hb dX2_sent_122 (by decide) ?_
    refine calli2 K w (c_X2_refuse dn) (lk_X2_45 K ⟨Nat.le_trans (Nat.le_of_ble_eq_true rfl) hR.1, Nat.le_trans (Nat.le_of_ble_eq_true rfl) hR.2⟩) (recvM K w) rfl hl.1 rfl (Nat.le_of_ble_eq_true rfl) dX2_sent_123 hf (fun H locs w => ?_)
    exact ret w rfl dX2_sent_126

set_option maxHeartbeats 4000000 in
set_option maxRecDepth 100000 in
theorem c_X2_sent_b {l : Launch} {E : En} {M : Mt} {z t f : Nat} (dn : dM E) {h j r : Nat} (hh : h < 2) (hb6 : b01 M 6) (ok : okN M z) (hj : j < seN M z h) (hr : (seU M z h j).2 = some r) : MI2 l yX2_sent (.code yX2_sent cX2_sent 7 (some .int)) 2 46 E [.ref (ad E 0), .int (nI h), .int (nI j)] M z t f (nI r) (seU M z h j).1 z 0 f := by
  refine MI2.of dn (own := RX2) (by decide) rfl (Nat.le_of_ble_eq_true rfl) (fun p e s m args below meth c ls Q K w hl ret => ?_)
  have hx := K.1.1
  have hb := K.1.2.1
  have hR : 2 ≤ (rmA 2 46).frames ∧ 46 ≤ (rmA 2 46).locals := ⟨Nat.le_refl _, Nat.le_refl _⟩
  have hf : 0 ≤ (rmA 2 46).cells ∧ 0 ≤ (rmA 2 46).slots := ⟨Nat.le_refl _, Nat.le_refl _⟩
  have hl : lv_has ls 7 [(0, .ref (ad E 0)), (1, .int (nI h)), (2, .int (nI j))] := hl
  have hz := ok.1
  have hsn := seN_le (M := M) (z := z) (h := h)
  have ok1 : okN (se0 M z h) z := ok.rows (se0_row (by decide) (by decide) (by decide)) (se0_row (by decide) (by decide) (by decide))
  refine lv_aload_n hx hb dX2_sent_0 rfl (lv_at hl 0 rfl) ?_
  refine lv_iconst (v := nI 0) hx hb dX2_sent_1 (by decide) ?_
  refine pf_X2_thrown K w rfl dX2_sent_2 (fun H locs w => ?_)
  refine lv_iload_n hx hb dX2_sent_5 rfl (lv_at hl 1 rfl) ?_
  refine lv_if_lt (tgt := 14) hx hb dX2_sent_6 rfl (fun h9 => absurd h9 (nI_pos (by omega))) (fun _ => ?_)
  refine lv_iload_n hx hb dX2_sent_9 rfl (lv_at hl 1 rfl) ?_
  refine lv_iconst (v := nI 1) hx hb dX2_sent_10 (by decide) ?_
  refine lv_icmp_le (tgt := 20) hx hb dX2_sent_11 rfl (fun _ => ?_) (fun h9 => absurd (nI_le (by omega) (by decide)) h9)
  refine pre_sent K ⟨Nat.le_trans (Nat.le_of_ble_eq_true rfl) hR.1, Nat.le_trans (Nat.le_of_ble_eq_true rfl) hR.2⟩ hf hh hb6 ok (fun H locs ls w hl => ?_) w hl
  refine lv_iload_n hx hb dX2_sent_105 rfl (lv_at hl 1 rfl) ?_
  refine lv_iconst (v := -1) hx hb dX2_sent_106 (by decide) ?_
  refine lv_icmp_ne (tgt := 112) hx hb dX2_sent_107 rfl (fun _ => ?_) (fun h9 => absurd h9 (nI_nm1 (by omega)))
  refine lv_iload_n hx hb dX2_sent_112 rfl (lv_at hl 1 rfl) ?_
  refine lv_if_lt (tgt := 121) hx hb dX2_sent_113 rfl (fun h9 => absurd h9 (nI_pos (by omega))) (fun _ => ?_)
  refine lv_iload_n hx hb dX2_sent_116 rfl (lv_at hl 1 rfl) ?_
  refine lv_iload_n hx hb dX2_sent_117 rfl (lv_at hl 0 rfl) ?_
  refine lv_icmp_lt (tgt := 127) hx hb dX2_sent_118 rfl (fun _ => ?_) (fun h9 => absurd (nI_lt hj (by omega)) h9)
  refine lv_aload_n hx hb dX2_sent_127 rfl (lv_at hl 2 rfl) ?_
  refine lv_aload_n hx hb dX2_sent_128 rfl (lv_at hl 2 rfl) ?_
  refine gf_X2_size K w dX2_sent_129 ?_
  refine lv_iconst (v := nI 1) hx hb dX2_sent_132 (by decide) ?_
  refine lv_isub hx hb dX2_sent_133 ?_
  refine topE (y := nI (z - 1)) (pk_sub (by omega)) ?_
  refine calli2 K w (c_X2_generation dn (q := z - 1) (by omega) ok1) (lk_X2_90 K ⟨Nat.le_trans (Nat.le_of_ble_eq_true rfl) hR.1, Nat.le_trans (Nat.le_of_ble_eq_true rfl) hR.2⟩) (recvM K w) rfl hl.1 rfl (Nat.le_of_ble_eq_true rfl) dX2_sent_134 hf (fun H locs w => ?_)
  refine lv_istore (lv' := [(4, .int _), (3, .int _), (2, .int _), (0, .ref _)]) hx hb dX2_sent_137 hl (by decide) rfl (fun ls hl => ?_)
  refine lv_iconst (v := nI 0) hx hb dX2_sent_139 (by decide) ?_
  refine lv_istore (lv' := [(5, .int _), (4, .int _), (3, .int _), (2, .int _), (0, .ref _)]) hx hb dX2_sent_140 hl (by decide) rfl (fun ls hl => ?_)
  refine lp_s2 (j := j) K ⟨Nat.le_trans (Nat.le_of_ble_eq_true rfl) hR.1, Nat.le_trans (Nat.le_of_ble_eq_true rfl) hR.2⟩ hf (by omega) hz (fun H locs ls w hl => ?_) (j + 1) 0 (gnF (z - 1 + 1) 0 (se0 M z h)) none _ _ _ _ (by omega) (by rw [cL_row (gnF_row (by decide)), show cL (se0 M z h) z = seN M z h from cL_s1]; exact hj) (fun h => absurd h (by omega)) rfl w (lv_sub hl [0, 1, 3, 4] rfl)
  refine lv_iload hx hb dX2_sent_253 (lv_at hl 0 rfl) ?_
  exact ret w (by rw [show (s2F z (j + 1) (gnF (z - 1 + 1) 0 (se0 M z h)) none).2 = some r from hr]; rfl) dX2_sent_255
