section YI
variable {p : Program} {l : Launch} {e : Env} {R : Room} {s : State} {m : MethodId} {args : Array Value} {below : List Frame} {meth : Method} {c : Code} {H : Heap} {locs : List Loc} {cells slots : Nat} {Q : State → Prop} {ls : Array Slot} {w0 : Cond} {E : En} {M MF : Mt} {z t f : Nat}
set_option maxHeartbeats 4000000 in
set_option maxRecDepth 100000 in
theorem lp_b1 (K : cY E p m c cX2_base 6 s args w0 RX2) (hR : 0 ≤ R.frames ∧ 0 ≤ R.locals) (hf : cells ≤ R.cells ∧ slots ≤ R.slots) {x1 : Int32} (hz : z ≤ 2000) (kk : ∀ (H : Heap) (locs : List Loc) (ls : Array Slot), vst E s.heap MF z t f H locs → lv_has ls 6 [(3, .int x1), (0, .ref (ad E 0))] → W p l e R s m args below meth c H locs cells slots Q (F0 m 117 ls [])) : ∀ (d i : Nat) (M : Mt) (H : Heap) (locs : List Loc) (ls : Array Slot), i + d = z → b1F d i M = MF → vst E s.heap M z t f H locs → lv_has ls 6 [(4, .int (nI i)), (3, .int x1), (0, .ref (ad E 0))] → W p l e R s m args below meth c H locs cells slots Q (F0 m 48 ls []) := by
  have hx := K.1.1
  have hb := K.1.2.1
  intro d
  induction d with
  | zero =>
    intro i M H locs ls hi hm w hl
    refine lv_iload hx hb dX2_base_48 (lv_at hl 0 rfl) ?_
    refine lv_aload_n hx hb dX2_base_50 rfl (lv_at hl 2 rfl) ?_
    refine gf_X2_size K w dX2_base_51 ?_
    refine lv_icmp_ge (tgt := 117) hx hb dX2_base_54 rfl (fun _ => ?_) (fun h9 => absurd (nI_le (by omega) (by omega)) h9)
    exact kk _ _ _ (by rw [← hm]; exact w) (lv_sub hl [1, 2] rfl)
  | succ d ih =>
    intro i M H locs ls hi hm w hl
    refine lv_iload hx hb dX2_base_48 (lv_at hl 0 rfl) ?_
    refine lv_aload_n hx hb dX2_base_50 rfl (lv_at hl 2 rfl) ?_
    refine gf_X2_size K w dX2_base_51 ?_
    refine lv_icmp_ge (tgt := 117) hx hb dX2_base_54 rfl (fun h9 => absurd h9 (nI_ge (by omega) (by omega))) (fun _ => ?_)
    by_cases h7 : M 7 i = 0
    · rw [b1F, an2, if_pos h7] at hm
      refine lv_aload_n hx hb dX2_base_57 rfl (lv_at hl 2 rfl) ?_
      refine gf_X2_one K w dX2_base_58 ?_
      refine lv_iload hx hb dX2_base_61 (lv_at hl 0 rfl) ?_
      refine lv_aload_n hx hb dX2_base_63 rfl (lv_at hl 2 rfl) ?_
      refine gf_X2_one K w dX2_base_64 ?_
      refine lv_iload hx hb dX2_base_67 (lv_at hl 0 rfl) ?_
      refine ldB2 K w rwB7 (by omega) dX2_base_69 ?_
      refine lv_if_eq (tgt := 87) hx hb dX2_base_70 rfl (fun _ => ?_) (fun h9 => absurd h7 h9)
      refine lv_iconst (v := nI 0) hx hb dX2_base_87 (by decide) ?_
      refine stB2 K w rwB7 (by omega) (by decide) dX2_base_88 (fun H locs w => ?_)
      refine lv_aload_n hx hb dX2_base_89 rfl (lv_at hl 2 rfl) ?_
      refine gf_X2_left K w dX2_base_90 ?_
      refine lv_iload hx hb dX2_base_93 (lv_at hl 0 rfl) ?_
      refine lv_aload_n hx hb dX2_base_95 rfl (lv_at hl 2 rfl) ?_
      refine gf_X2_one K w dX2_base_96 ?_
      refine lv_iload hx hb dX2_base_99 (lv_at hl 0 rfl) ?_
      refine ldB2 K w rwB7 (by omega) dX2_base_101 ?_
      refine topE (y := nI 0) (by rw [va_up_self, pk_us]) ?_
      refine stB2 K w rwB9 (by omega) (by decide) dX2_base_102 (fun H locs w => ?_)
      refine lv_aload_n hx hb dX2_base_103 rfl (lv_at hl 2 rfl) ?_
      refine gf_X2_other K w dX2_base_104 ?_
      refine lv_iload hx hb dX2_base_107 (lv_at hl 0 rfl) ?_
      refine lv_iconst (v := nI 0) hx hb dX2_base_109 (by decide) ?_
      refine stB2 K w rwB8 (by omega) (by decide) dX2_base_110 (fun H locs w => ?_)
      refine lv_iinc (k := 0) (v := nI (_ + 1)) (lv' := [(4, .int _), (3, .int _), (0, .ref _)]) hx hb dX2_base_111 hl rfl (inc1 _) (by decide) rfl (fun ls hl => ?_)
      refine lv_goto (tgt := 48) hx hb dX2_base_114 rfl ?_
      exact ih (i + 1) (b1S M i (nI 0)) _ _ _ (by omega) hm w (lv_sub hl [0, 1, 2] rfl)
    · refine lv_aload_n hx hb dX2_base_57 rfl (lv_at hl 2 rfl) ?_
      refine gf_X2_one K w dX2_base_58 ?_
      refine lv_iload hx hb dX2_base_61 (lv_at hl 0 rfl) ?_
      refine lv_aload_n hx hb dX2_base_63 rfl (lv_at hl 2 rfl) ?_
      refine gf_X2_one K w dX2_base_64 ?_
      refine lv_iload hx hb dX2_base_67 (lv_at hl 0 rfl) ?_
      refine ldB2 K w rwB7 (by omega) dX2_base_69 ?_
      refine lv_if_eq (tgt := 87) hx hb dX2_base_70 rfl (fun h9 => absurd h9 h7) (fun _ => ?_)
      by_cases h8 : M 8 i = 0
      · rw [b1F, an2, if_neg h7, if_pos h8] at hm
        refine lv_aload_n hx hb dX2_base_73 rfl (lv_at hl 2 rfl) ?_
        refine gf_X2_other K w dX2_base_74 ?_
        refine lv_iload hx hb dX2_base_77 (lv_at hl 0 rfl) ?_
        refine ldB2 K w rwB8 (by omega) dX2_base_79 ?_
        refine lv_if_eq (tgt := 87) hx hb dX2_base_80 rfl (fun _ => ?_) (fun h9 => absurd h8 h9)
        refine lv_iconst (v := nI 0) hx hb dX2_base_87 (by decide) ?_
        refine stB2 K w rwB7 (by omega) (by decide) dX2_base_88 (fun H locs w => ?_)
        refine lv_aload_n hx hb dX2_base_89 rfl (lv_at hl 2 rfl) ?_
        refine gf_X2_left K w dX2_base_90 ?_
        refine lv_iload hx hb dX2_base_93 (lv_at hl 0 rfl) ?_
        refine lv_aload_n hx hb dX2_base_95 rfl (lv_at hl 2 rfl) ?_
        refine gf_X2_one K w dX2_base_96 ?_
        refine lv_iload hx hb dX2_base_99 (lv_at hl 0 rfl) ?_
        refine ldB2 K w rwB7 (by omega) dX2_base_101 ?_
        refine topE (y := nI 0) (by rw [va_up_self, pk_us]) ?_
        refine stB2 K w rwB9 (by omega) (by decide) dX2_base_102 (fun H locs w => ?_)
        refine lv_aload_n hx hb dX2_base_103 rfl (lv_at hl 2 rfl) ?_
        refine gf_X2_other K w dX2_base_104 ?_
        refine lv_iload hx hb dX2_base_107 (lv_at hl 0 rfl) ?_
        refine lv_iconst (v := nI 0) hx hb dX2_base_109 (by decide) ?_
        refine stB2 K w rwB8 (by omega) (by decide) dX2_base_110 (fun H locs w => ?_)
        refine lv_iinc (k := 0) (v := nI (_ + 1)) (lv' := [(4, .int _), (3, .int _), (0, .ref _)]) hx hb dX2_base_111 hl rfl (inc1 _) (by decide) rfl (fun ls hl => ?_)
        refine lv_goto (tgt := 48) hx hb dX2_base_114 rfl ?_
        exact ih (i + 1) (b1S M i (nI 0)) _ _ _ (by omega) hm w (lv_sub hl [0, 1, 2] rfl)
      · rw [b1F, an2, if_neg h7, if_neg h8] at hm
        refine lv_aload_n hx hb dX2_base_73 rfl (lv_at hl 2 rfl) ?_
        refine gf_X2_other K w dX2_base_74 ?_
        refine lv_iload hx hb dX2_base_77 (lv_at hl 0 rfl) ?_
        refine ldB2 K w rwB8 (by omega) dX2_base_79 ?_
        refine lv_if_eq (tgt := 87) hx hb dX2_base_80 rfl (fun h9 => absurd h9 h8) (fun _ => ?_)
        refine lv_iconst (v := nI 1) hx hb dX2_base_83 (by decide) ?_
        refine lv_goto (tgt := 88) hx hb dX2_base_84 rfl ?_
        refine stB2 K w rwB7 (by omega) (by decide) dX2_base_88 (fun H locs w => ?_)
        refine lv_aload_n hx hb dX2_base_89 rfl (lv_at hl 2 rfl) ?_
        refine gf_X2_left K w dX2_base_90 ?_
        refine lv_iload hx hb dX2_base_93 (lv_at hl 0 rfl) ?_
        refine lv_aload_n hx hb dX2_base_95 rfl (lv_at hl 2 rfl) ?_
        refine gf_X2_one K w dX2_base_96 ?_
        refine lv_iload hx hb dX2_base_99 (lv_at hl 0 rfl) ?_
        refine ldB2 K w rwB7 (by omega) dX2_base_101 ?_
        refine topE (y := nI 1) (by rw [va_up_self, pk_us]) ?_
        refine stB2 K w rwB9 (by omega) (by decide) dX2_base_102 (fun H locs w => ?_)
        refine lv_aload_n hx hb dX2_base_103 rfl (lv_at hl 2 rfl) ?_
        refine gf_X2_other K w dX2_base_104 ?_
        refine lv_iload hx hb dX2_base_107 (lv_at hl 0 rfl) ?_
        refine lv_iconst (v := nI 0) hx hb dX2_base_109 (by decide) ?_
        refine stB2 K w rwB8 (by omega) (by decide) dX2_base_110 (fun H locs w => ?_)
        refine lv_iinc (k := 0) (v := nI (_ + 1)) (lv' := [(4, .int _), (3, .int _), (0, .ref _)]) hx hb dX2_base_111 hl rfl (inc1 _) (by decide) rfl (fun ls hl => ?_)
        refine lv_goto (tgt := 48) hx hb dX2_base_114 rfl ?_
        exact ih (i + 1) (b1S M i (nI 1)) _ _ _ (by omega) hm w (lv_sub hl [0, 1, 2] rfl)

set_option maxHeartbeats 4000000 in
set_option maxRecDepth 100000 in
theorem lp_b2i (K : cY E p m c cX2_base 6 s args w0 RX2) (hR : 0 ≤ R.frames ∧ 0 ≤ R.locals) (hf : cells ≤ R.cells ∧ slots ≤ R.slots) {q j : Nat} {x1 : Int32} (hq : q < z) (kk : ∀ (H : Heap) (locs : List Loc) (ls : Array Slot), vst E s.heap MF z t f H locs → lv_has ls 6 [(4, .int (nI q)), (3, .int x1), (0, .ref (ad E 0))] → W p l e R s m args below meth c H locs cells slots Q (F0 m 178 ls [])) : ∀ (d i : Nat) (M : Mt) (H : Heap) (locs : List Loc) (ls : Array Slot), i + d = j → okN M z → pcn M q = j → ¬ M 7 q = 0 → stF 8 q d i M = MF → vst E s.heap M z t f H locs → lv_has ls 6 [(5, .int (nI i)), (4, .int (nI q)), (3, .int x1), (0, .ref (ad E 0))] → W p l e R s m args below meth c H locs cells slots Q (F0 m 132 ls []) := by
  have hx := K.1.1
  have hb := K.1.2.1
  intro d
  induction d with
  | zero =>
    intro i M H locs ls hi ok hj hs hm w hl
    have h4 := ok.le hq
    have hn := ok.1
    refine lv_iload hx hb dX2_base_132 (lv_at hl 0 rfl) ?_
    refine lv_aload_n hx hb dX2_base_134 rfl (lv_at hl 3 rfl) ?_
    refine gf_X2_many K w dX2_base_135 ?_
    refine lv_iload hx hb dX2_base_138 (lv_at hl 1 rfl) ?_
    refine ldI2 K w rwI4 (by omega) dX2_base_140 ?_
    refine topE (y := nI (pcn M q)) (ok.pc hq) ?_
    rw [hj]
    refine lv_icmp_ge (tgt := 178) hx hb dX2_base_141 rfl (fun _ => ?_) (fun h9 => absurd (nI_le (by omega) (by omega)) h9)
    exact kk _ _ _ (by rw [← hm]; exact w) (lv_sub hl [1, 2, 3] rfl)
  | succ d ih =>
    intro i M H locs ls hi ok hj hs hm w hl
    have h4 := ok.le hq
    have hn := ok.1
    have h5 := ok.lt hq (t := i) (by omega)
    refine lv_iload hx hb dX2_base_132 (lv_at hl 0 rfl) ?_
    refine lv_aload_n hx hb dX2_base_134 rfl (lv_at hl 3 rfl) ?_
    refine gf_X2_many K w dX2_base_135 ?_
    refine lv_iload hx hb dX2_base_138 (lv_at hl 1 rfl) ?_
    refine ldI2 K w rwI4 (by omega) dX2_base_140 ?_
    refine topE (y := nI (pcn M q)) (ok.pc hq) ?_
    rw [hj]
    refine lv_icmp_ge (tgt := 178) hx hb dX2_base_141 rfl (fun h9 => absurd h9 (nI_ge (by omega) (by omega))) (fun _ => ?_)
    refine lv_aload_n hx hb dX2_base_144 rfl (lv_at hl 3 rfl) ?_
    refine gf_X2_one K w dX2_base_145 ?_
    refine lv_iload hx hb dX2_base_148 (lv_at hl 1 rfl) ?_
    refine ldB2 K w rwB7 (by omega) dX2_base_150 ?_
    refine lv_if_eq (tgt := 178) hx hb dX2_base_151 rfl (fun h9 => absurd h9 hs) (fun _ => ?_)
    refine lv_aload_n hx hb dX2_base_154 rfl (lv_at hl 3 rfl) ?_
    refine gf_X2_other K w dX2_base_155 ?_
    refine lv_aload_n hx hb dX2_base_158 rfl (lv_at hl 3 rfl) ?_
    refine gf_X2_parent K w dX2_base_159 ?_
    refine lv_iload hx hb dX2_base_162 (lv_at hl 1 rfl) ?_
    refine lv_iconst (v := nI 4) hx hb dX2_base_164 (by decide) ?_
    refine lv_imul hx hb dX2_base_165 ?_
    refine topE (y := nI (q * 4)) (pk_mul _ _) ?_
    refine lv_iload hx hb dX2_base_166 (lv_at hl 0 rfl) ?_
    refine lv_iadd hx hb dX2_base_168 ?_
    refine topE (y := nI (q * 4 + i)) (nI_add _ _) ?_
    refine ldI2 K w rwI5 (by omega) dX2_base_169 ?_
    refine topE (y := nI (par M q i)) (ok.pr hq (by omega)) ?_
    refine lv_iconst (v := nI 1) hx hb dX2_base_170 (by decide) ?_
    refine stB2 K w rwB8 (by omega) (by decide) dX2_base_171 (fun H locs w => ?_)
    refine lv_iinc (k := 0) (v := nI (_ + 1)) (lv' := [(5, .int _), (4, .int _), (3, .int _), (0, .ref _)]) hx hb dX2_base_172 hl rfl (inc1 _) (by decide) rfl (fun ls hl => ?_)
    refine lv_goto (tgt := 132) hx hb dX2_base_175 rfl ?_
    exact ih (i + 1) (va_up M 8 (upd (M 8) (par M q i) (nI 1))) _ _ _ (by omega) ok hj hs hm w (lv_sub hl [0, 1, 2, 3] rfl)

set_option maxHeartbeats 4000000 in
set_option maxRecDepth 100000 in
theorem lp_b2 (K : cY E p m c cX2_base 6 s args w0 RX2) (hR : 0 ≤ R.frames ∧ 0 ≤ R.locals) (hf : cells ≤ R.cells ∧ slots ≤ R.slots) {x1 : Int32} (kk : ∀ (H : Heap) (locs : List Loc) (ls : Array Slot), vst E s.heap MF z t f H locs → lv_has ls 6 [(3, .int x1), (0, .ref (ad E 0))] → W p l e R s m args below meth c H locs cells slots Q (F0 m 184 ls [])) : ∀ (d i : Nat) (M : Mt) (H : Heap) (locs : List Loc) (ls : Array Slot), i + d = z → okN M z → b2F d i M = MF → vst E s.heap M z t f H locs → lv_has ls 6 [(4, .int (nI i)), (3, .int x1), (0, .ref (ad E 0))] → W p l e R s m args below meth c H locs cells slots Q (F0 m 120 ls []) := by
  have hx := K.1.1
  have hb := K.1.2.1
  intro d
  induction d with
  | zero =>
    intro i M H locs ls hi ok hm w hl
    have hn := ok.1
    refine lv_iload hx hb dX2_base_120 (lv_at hl 0 rfl) ?_
    refine lv_aload_n hx hb dX2_base_122 rfl (lv_at hl 2 rfl) ?_
    refine gf_X2_size K w dX2_base_123 ?_
    refine lv_icmp_ge (tgt := 184) hx hb dX2_base_126 rfl (fun _ => ?_) (fun h9 => absurd (nI_le (by omega) (by omega)) h9)
    exact kk _ _ _ (by rw [← hm]; exact w) (lv_sub hl [1, 2] rfl)
  | succ d ih =>
    intro i M H locs ls hi ok hm w hl
    have hn := ok.1
    refine lv_iload hx hb dX2_base_120 (lv_at hl 0 rfl) ?_
    refine lv_aload_n hx hb dX2_base_122 rfl (lv_at hl 2 rfl) ?_
    refine gf_X2_size K w dX2_base_123 ?_
    refine lv_icmp_ge (tgt := 184) hx hb dX2_base_126 rfl (fun h9 => absurd h9 (nI_ge (by omega) (by omega))) (fun _ => ?_)
    have h4 := ok.le (c := i) (by omega)
    by_cases h7 : M 7 i = 0
    · rw [b2F, if_pos h7] at hm
      refine lv_iconst (v := nI 0) hx hb dX2_base_129 (by decide) ?_
      refine lv_istore (lv' := [(5, .int _), (4, .int _), (3, .int _), (0, .ref _)]) hx hb dX2_base_130 hl (by decide) rfl (fun ls hl => ?_)
      refine lv_iload hx hb dX2_base_132 (lv_at hl 0 rfl) ?_
      refine lv_aload_n hx hb dX2_base_134 rfl (lv_at hl 3 rfl) ?_
      refine gf_X2_many K w dX2_base_135 ?_
      refine lv_iload hx hb dX2_base_138 (lv_at hl 1 rfl) ?_
      refine ldI2 K w rwI4 (by omega) dX2_base_140 ?_
      by_cases h1 : pcn M i = 0
      · refine topE (y := nI (pcn M i)) (ok.pc (by omega)) ?_
        refine lv_icmp_ge (tgt := 178) hx hb dX2_base_141 rfl (fun _ => ?_) (fun h9 => absurd (by rw [h1]; decide) h9)
        refine lv_iinc (k := 1) (v := nI (_ + 1)) (lv' := [(4, .int _), (5, .int _), (3, .int _), (0, .ref _)]) hx hb dX2_base_178 hl rfl (inc1 _) (by decide) rfl (fun ls hl => ?_)
        refine lv_goto (tgt := 120) hx hb dX2_base_181 rfl ?_
        exact ih (i + 1) M _ _ _ (by omega) ok hm w (lv_sub hl [0, 2, 3] rfl)
      · refine topE (y := nI (pcn M i)) (ok.pc (by omega)) ?_
        refine lv_icmp_ge (tgt := 178) hx hb dX2_base_141 rfl (fun h9 => absurd h9 (nI_ge (by omega) (by omega))) (fun _ => ?_)
        refine lv_aload_n hx hb dX2_base_144 rfl (lv_at hl 3 rfl) ?_
        refine gf_X2_one K w dX2_base_145 ?_
        refine lv_iload hx hb dX2_base_148 (lv_at hl 1 rfl) ?_
        refine ldB2 K w rwB7 (by omega) dX2_base_150 ?_
        refine lv_if_eq (tgt := 178) hx hb dX2_base_151 rfl (fun _ => ?_) (fun h9 => absurd h7 h9)
        refine lv_iinc (k := 1) (v := nI (_ + 1)) (lv' := [(4, .int _), (5, .int _), (3, .int _), (0, .ref _)]) hx hb dX2_base_178 hl rfl (inc1 _) (by decide) rfl (fun ls hl => ?_)
        refine lv_goto (tgt := 120) hx hb dX2_base_181 rfl ?_
        exact ih (i + 1) M _ _ _ (by omega) ok hm w (lv_sub hl [0, 2, 3] rfl)
    · rw [b2F, if_neg h7] at hm
      refine lv_iconst (v := nI 0) hx hb dX2_base_129 (by decide) ?_
      refine lv_istore (lv' := [(5, .int _), (4, .int _), (3, .int _), (0, .ref _)]) hx hb dX2_base_130 hl (by decide) rfl (fun ls hl => ?_)
      refine lp_b2i (j := pcn M i) K ⟨Nat.le_trans (Nat.le_of_ble_eq_true rfl) hR.1, Nat.le_trans (Nat.le_of_ble_eq_true rfl) hR.2⟩ hf (by omega) (fun H locs ls w hl => ?_) (pcn M i) 0 M _ _ _ (by omega) ok rfl h7 rfl w (lv_sub hl [0, 1, 2, 3] rfl)
      refine lv_iinc (k := 0) (v := nI (_ + 1)) (lv' := [(4, .int _), (3, .int _), (0, .ref _)]) hx hb dX2_base_178 hl rfl (inc1 _) (by decide) rfl (fun ls hl => ?_)
      refine lv_goto (tgt := 120) hx hb dX2_base_181 rfl ?_
      exact ih (i + 1) (stF 8 i (pcn M i) 0 M) _ _ _ (by omega) (ok.rows (stF_row (by decide)) (stF_row (by decide))) hm w (lv_sub hl [0, 1, 2] rfl)

set_option maxHeartbeats 4000000 in
set_option maxRecDepth 100000 in
theorem lp_b3 (K : cY E p m c cX2_base 6 s args w0 RX2) (hR : 0 ≤ R.frames ∧ 0 ≤ R.locals) (hf : cells ≤ R.cells ∧ slots ≤ R.slots) {x1 : Int32} (hz : z ≤ 2000) (kk : ∀ (H : Heap) (locs : List Loc) (ls : Array Slot), vst E s.heap MF z t f H locs → lv_has ls 6 [(3, .int x1), (0, .ref (ad E 0))] → W p l e R s m args below meth c H locs cells slots Q (F0 m 228 ls [])) : ∀ (d i : Nat) (M : Mt) (H : Heap) (locs : List Loc) (ls : Array Slot), i + d = z → b3F d i M = MF → vst E s.heap M z t f H locs → lv_has ls 6 [(4, .int (nI i)), (3, .int x1), (0, .ref (ad E 0))] → W p l e R s m args below meth c H locs cells slots Q (F0 m 195 ls []) := by
  have hx := K.1.1
  have hb := K.1.2.1
  intro d
  induction d with
  | zero =>
    intro i M H locs ls hi hm w hl
    refine lv_iload hx hb dX2_base_195 (lv_at hl 0 rfl) ?_
    refine lv_aload_n hx hb dX2_base_197 rfl (lv_at hl 2 rfl) ?_
    refine gf_X2_size K w dX2_base_198 ?_
    refine lv_icmp_ge (tgt := 228) hx hb dX2_base_201 rfl (fun _ => ?_) (fun h9 => absurd (nI_le (by omega) (by omega)) h9)
    exact kk _ _ _ (by rw [← hm]; exact w) (lv_sub hl [1, 2] rfl)
  | succ d ih =>
    intro i M H locs ls hi hm w hl
    refine lv_iload hx hb dX2_base_195 (lv_at hl 0 rfl) ?_
    refine lv_aload_n hx hb dX2_base_197 rfl (lv_at hl 2 rfl) ?_
    refine gf_X2_size K w dX2_base_198 ?_
    refine lv_icmp_ge (tgt := 228) hx hb dX2_base_201 rfl (fun h9 => absurd h9 (nI_ge (by omega) (by omega))) (fun _ => ?_)
    by_cases h8 : M 8 i = 0
    · rw [b3F, if_pos h8] at hm
      refine lv_aload_n hx hb dX2_base_204 rfl (lv_at hl 2 rfl) ?_
      refine gf_X2_other K w dX2_base_205 ?_
      refine lv_iload hx hb dX2_base_208 (lv_at hl 0 rfl) ?_
      refine ldB2 K w rwB8 (by omega) dX2_base_210 ?_
      refine lv_if_eq (tgt := 222) hx hb dX2_base_211 rfl (fun _ => ?_) (fun h9 => absurd h8 h9)
      refine lv_iinc (k := 0) (v := nI (_ + 1)) (lv' := [(4, .int _), (3, .int _), (0, .ref _)]) hx hb dX2_base_222 hl rfl (inc1 _) (by decide) rfl (fun ls hl => ?_)
      refine lv_goto (tgt := 195) hx hb dX2_base_225 rfl ?_
      exact ih (i + 1) _ _ _ _ (by omega) hm w (lv_sub hl [0, 1, 2] rfl)
    · rw [b3F, if_neg h8] at hm
      refine lv_aload_n hx hb dX2_base_204 rfl (lv_at hl 2 rfl) ?_
      refine gf_X2_other K w dX2_base_205 ?_
      refine lv_iload hx hb dX2_base_208 (lv_at hl 0 rfl) ?_
      refine ldB2 K w rwB8 (by omega) dX2_base_210 ?_
      refine lv_if_eq (tgt := 222) hx hb dX2_base_211 rfl (fun h9 => absurd h9 h8) (fun _ => ?_)
      refine lv_aload_n hx hb dX2_base_214 rfl (lv_at hl 2 rfl) ?_
      refine gf_X2_left K w dX2_base_215 ?_
      refine lv_iload hx hb dX2_base_218 (lv_at hl 0 rfl) ?_
      refine lv_iconst (v := nI 0) hx hb dX2_base_220 (by decide) ?_
      refine stB2 K w rwB9 (by omega) (by decide) dX2_base_221 (fun H locs w => ?_)
      refine lv_iinc (k := 0) (v := nI (_ + 1)) (lv' := [(4, .int _), (3, .int _), (0, .ref _)]) hx hb dX2_base_222 hl rfl (inc1 _) (by decide) rfl (fun ls hl => ?_)
      refine lv_goto (tgt := 195) hx hb dX2_base_225 rfl ?_
      exact ih (i + 1) _ _ _ _ (by omega) hm w (lv_sub hl [0, 1, 2] rfl)

set_option maxHeartbeats 4000000 in
set_option maxRecDepth 100000 in
theorem pre_base (K : cY E p m c cX2_base 6 s args w0 RX2) (hR : 2 ≤ R.frames ∧ 46 ≤ R.locals) (hf : cells ≤ R.cells ∧ slots ≤ R.slots) {a b : Nat} {x : Int32} (ha : a < z) (hb0 : b < z) (ok : okN M z) (kk : ∀ (H : Heap) (locs : List Loc) (ls : Array Slot), vst E s.heap (orF z z (baR M z a b, 0)).1 z 0 (orF z z (baR M z a b, 0)).2 H locs → lv_has ls 6 [(3, .int x), (0, .ref (ad E 0))] → W p l e R s m args below meth c H locs cells slots Q (F0 m 232 ls [])) (w : vst E s.heap M z 0 f H locs) (hl : lv_has ls 6 [(0, .ref (ad E 0)), (1, .int (nI a)), (2, .int (nI b)), (3, .int x)]) : W p l e R s m args below meth c H locs cells slots Q (F0 m 27 ls []) := by
  have hx := K.1.1
  have hb := K.1.2.1
  have hz := ok.1
  refine lv_aload_n hx hb dX2_base_27 rfl (lv_at hl 0 rfl) ?_
  refine lv_iload_n hx hb dX2_base_28 rfl (lv_at hl 1 rfl) ?_
  refine lv_aload_n hx hb dX2_base_29 rfl (lv_at hl 0 rfl) ?_
  refine gf_X2_one K w dX2_base_30 ?_
  refine callv2 K w (c_X2_from K.2.2 rwB7 (by decide) (by decide) (by omega) ok) (lk_X2_68 K ⟨Nat.le_trans (Nat.le_of_ble_eq_true rfl) hR.1, Nat.le_trans (Nat.le_of_ble_eq_true rfl) hR.2⟩) (recvM K w) rfl hl.1 rfl (Nat.le_of_ble_eq_true rfl) dX2_base_33 hf (fun H locs w => ?_)
  refine lv_aload_n hx hb dX2_base_36 rfl (lv_at hl 0 rfl) ?_
  refine lv_iload_n hx hb dX2_base_37 rfl (lv_at hl 2 rfl) ?_
  refine lv_aload_n hx hb dX2_base_38 rfl (lv_at hl 0 rfl) ?_
  refine gf_X2_other K w dX2_base_39 ?_
  refine callv2 K w (c_X2_from K.2.2 rwB8 (by decide) (by decide) (by omega) (ok.rows (frF_row (by decide)) (frF_row (by decide)))) (lk_X2_68 K ⟨Nat.le_trans (Nat.le_of_ble_eq_true rfl) hR.1, Nat.le_trans (Nat.le_of_ble_eq_true rfl) hR.2⟩) (recvM K w) rfl hl.1 rfl (Nat.le_of_ble_eq_true rfl) dX2_base_42 hf (fun H locs w => ?_)
  refine lv_iconst (v := nI 0) hx hb dX2_base_45 (by decide) ?_
  refine lv_istore (lv' := [(4, .int _), (0, .ref _), (1, .int _), (2, .int _), (3, .int _)]) hx hb dX2_base_46 hl (by decide) rfl (fun ls hl => ?_)
  have ok0 : okN (ba0 M z a b) z := ok.rows ((frF_row (by decide)).trans (frF_row (by decide))) ((frF_row (by decide)).trans (frF_row (by decide)))
  refine lp_b1 K ⟨Nat.le_trans (Nat.le_of_ble_eq_true rfl) hR.1, Nat.le_trans (Nat.le_of_ble_eq_true rfl) hR.2⟩ hf hz (fun H locs ls w hl => ?_) z 0 (ba0 M z a b) _ _ _ (by omega) rfl w (lv_sub hl [0, 4, 1] rfl)
  have ok1 : okN (b1F z 0 (ba0 M z a b)) z := ok0.rows (b1F_row (by decide) (by decide) (by decide)) (b1F_row (by decide) (by decide) (by decide))
  refine lv_iconst (v := nI 0) hx hb dX2_base_117 (by decide) ?_
  refine lv_istore (lv' := [(4, .int _), (3, .int _), (0, .ref _)]) hx hb dX2_base_118 hl (by decide) rfl (fun ls hl => ?_)
  refine lp_b2 K ⟨Nat.le_trans (Nat.le_of_ble_eq_true rfl) hR.1, Nat.le_trans (Nat.le_of_ble_eq_true rfl) hR.2⟩ hf (fun H locs ls w hl => ?_) z 0 _ _ _ _ (by omega) ok1 rfl w (lv_sub hl [0, 1, 2] rfl)
  refine lv_aload_n hx hb dX2_base_184 rfl (lv_at hl 1 rfl) ?_
  refine lv_aload_n hx hb dX2_base_185 rfl (lv_at hl 1 rfl) ?_
  refine gf_X2_other K w dX2_base_186 ?_
  refine callv2 K w (c_X2_close K.2.2 rwB8 (by decide) (by decide) (ok1.rows (b2F_row (by decide)) (b2F_row (by decide)))) (lk_X2_64 K ⟨Nat.le_trans (Nat.le_of_ble_eq_true rfl) hR.1, Nat.le_trans (Nat.le_of_ble_eq_true rfl) hR.2⟩) (recvM K w) rfl hl.1 rfl (Nat.le_of_ble_eq_true rfl) dX2_base_189 hf (fun H locs w => ?_)
  refine lv_iconst (v := nI 0) hx hb dX2_base_192 (by decide) ?_
  refine lv_istore (lv' := [(4, .int _), (3, .int _), (0, .ref _)]) hx hb dX2_base_193 hl (by decide) rfl (fun ls hl => ?_)
  refine lp_b3 K ⟨Nat.le_trans (Nat.le_of_ble_eq_true rfl) hR.1, Nat.le_trans (Nat.le_of_ble_eq_true rfl) hR.2⟩ hf hz (fun H locs ls w hl => ?_) z 0 _ _ _ _ (by omega) rfl w (lv_sub hl [0, 1, 2] rfl)
  refine lv_aload_n hx hb dX2_base_228 rfl (lv_at hl 1 rfl) ?_
  refine callv2 K w (c_X2_order K.2.2 hz) (lk_X2_78 K ⟨Nat.le_trans (Nat.le_of_ble_eq_true rfl) hR.1, Nat.le_trans (Nat.le_of_ble_eq_true rfl) hR.2⟩) (recvM K w) rfl hl.1 rfl (Nat.le_of_ble_eq_true rfl) dX2_base_229 hf (fun H locs w => ?_)
  exact kk _ _ _ w hl

end YI
theorem orF_le {z : Nat} : ∀ {d : Nat} {u : Mt × Nat}, (orF z d u).2 ≤ u.2 + d := by
  intro d
  induction d with
  | zero => intro u; exact Nat.le_refl _
  | succ d ih =>
    intro u
    rw [orF]
    split
    · omega
    · rename_i y _
      have := ih (u := tkO u y)
      have e : (tkO u y).2 = u.2 + 1 := rfl
      omega
theorem lgF_le {z : Nat} : ∀ {d : Nat} {u : Mt × Nat}, (lgF z d u).2 ≤ u.2 + d := by
  intro d
  induction d with
  | zero => intro u; exact Nat.le_refl _
  | succ d ih =>
    intro u
    rw [lgF]
    split
    · omega
    · rename_i y _
      have := ih (u := tkO u y)
      have e : (tkO u y).2 = u.2 + 1 := rfl
      omega
def orU (M : Mt) (z a b : Nat) : Mt × Nat := orF z z (baR M z a b, 0)
def lgU (M : Mt) (z q : Nat) : Mt × Nat := lgF z z (frF M z 9 q, 0)
theorem orU_le {M : Mt} {z a b : Nat} : (orU M z a b).2 ≤ z := Nat.le_trans orF_le (by omega)
theorem lgU_le {M : Mt} {z q : Nat} : (lgU M z q).2 ≤ z := Nat.le_trans lgF_le (by omega)

set_option maxHeartbeats 4000000 in
set_option maxRecDepth 100000 in
theorem r_X2_base {l : Launch} {E : En} {M : Mt} {z t f : Nat} (dn : dM E) {x y v : Int32} (h2 : (x < 0 ∨ nI z ≤ x) ∨ (y < 0 ∨ nI z ≤ y)) : MI2 l yX2_base (.code yX2_base cX2_base 6 (some .int)) 2 46 E [.ref (ad E 0), .int x, .int y, .int v] M z t f (nI 0) M z 1 f := by
  refine MI2.of dn (own := RX2) (by decide) rfl (Nat.le_of_ble_eq_true rfl) (fun p e s m args below meth c ls Q K w hl ret => ?_)
  have hx := K.1.1
  have hb := K.1.2.1
  have hR : 2 ≤ (rmA 2 46).frames ∧ 46 ≤ (rmA 2 46).locals := ⟨Nat.le_refl _, Nat.le_refl _⟩
  have hf : 0 ≤ (rmA 2 46).cells ∧ 0 ≤ (rmA 2 46).slots := ⟨Nat.le_refl _, Nat.le_refl _⟩
  have hl : lv_has ls 6 [(0, .ref (ad E 0)), (1, .int x), (2, .int y), (3, .int v)] := hl
  by_cases h0 : x < 0 ∨ nI z ≤ x
  · refine lv_aload_n hx hb dX2_base_0 rfl (lv_at hl 0 rfl) ?_
    refine lv_iconst (v := nI 0) hx hb dX2_base_1 (by decide) ?_
    refine pf_X2_thrown K w rfl dX2_base_2 (fun H locs w => ?_)
    refine lv_aload_n hx hb dX2_base_5 rfl (lv_at hl 0 rfl) ?_
    refine lv_iload_n hx hb dX2_base_6 rfl (lv_at hl 1 rfl) ?_
    refine calli2 K w (c_X2_there dn) (lk_X2_57 K ⟨Nat.le_trans (Nat.le_of_ble_eq_true rfl) hR.1, Nat.le_trans (Nat.le_of_ble_eq_true rfl) hR.2⟩) (recvM K w) rfl hl.1 rfl (Nat.le_of_ble_eq_true rfl) dX2_base_7 hf (fun H locs w => ?_)
    refine lv_if_eq (tgt := 21) hx hb dX2_base_10 rfl (fun _ => ?_) (fun h9 => absurd (dB_f (fun h => h h0)) h9)
    refine lv_aload_n hx hb dX2_base_21 rfl (lv_at hl 0 rfl) ?_
    refine lv_iconst (v := nI 1) hx hb dX2_base_22 (by decide) ?_
    refine calli2 K w (c_X2_refuse dn) (lk_X2_45 K ⟨Nat.le_trans (Nat.le_of_ble_eq_true rfl) hR.1, Nat.le_trans (Nat.le_of_ble_eq_true rfl) hR.2⟩) (recvM K w) rfl hl.1 rfl (Nat.le_of_ble_eq_true rfl) dX2_base_23 hf (fun H locs w => ?_)
    exact ret w rfl dX2_base_26
  · refine lv_aload_n hx hb dX2_base_0 rfl (lv_at hl 0 rfl) ?_
    refine lv_iconst (v := nI 0) hx hb dX2_base_1 (by decide) ?_
    refine pf_X2_thrown K w rfl dX2_base_2 (fun H locs w => ?_)
    refine lv_aload_n hx hb dX2_base_5 rfl (lv_at hl 0 rfl) ?_
    refine lv_iload_n hx hb dX2_base_6 rfl (lv_at hl 1 rfl) ?_
    refine calli2 K w (c_X2_there dn) (lk_X2_57 K ⟨Nat.le_trans (Nat.le_of_ble_eq_true rfl) hR.1, Nat.le_trans (Nat.le_of_ble_eq_true rfl) hR.2⟩) (recvM K w) rfl hl.1 rfl (Nat.le_of_ble_eq_true rfl) dX2_base_7 hf (fun H locs w => ?_)
    refine lv_if_eq (tgt := 21) hx hb dX2_base_10 rfl (fun h9 => absurd h9 (dB_t h0)) (fun _ => ?_)
    refine lv_aload_n hx hb dX2_base_13 rfl (lv_at hl 0 rfl) ?_
    refine lv_iload_n hx hb dX2_base_14 rfl (lv_at hl 2 rfl) ?_
    refine calli2 K w (c_X2_there dn) (lk_X2_57 K ⟨Nat.le_trans (Nat.le_of_ble_eq_true rfl) hR.1, Nat.le_trans (Nat.le_of_ble_eq_true rfl) hR.2⟩) (recvM K w) rfl hl.1 rfl (Nat.le_of_ble_eq_true rfl) dX2_base_15 hf (fun H locs w => ?_)
    refine lv_if_ne (tgt := 27) hx hb dX2_base_18 rfl (fun h9 => absurd (dB_f (fun h => h (h2.elim (fun h4 => absurd h4 h0) id))) h9) (fun _ => ?_)
    refine lv_aload_n hx hb dX2_base_21 rfl (lv_at hl 0 rfl) ?_
    refine lv_iconst (v := nI 1) hx hb dX2_base_22 (by decide) ?_
    refine calli2 K w (c_X2_refuse dn) (lk_X2_45 K ⟨Nat.le_trans (Nat.le_of_ble_eq_true rfl) hR.1, Nat.le_trans (Nat.le_of_ble_eq_true rfl) hR.2⟩) (recvM K w) rfl hl.1 rfl (Nat.le_of_ble_eq_true rfl) dX2_base_23 hf (fun H locs w => ?_)
    exact ret w rfl dX2_base_26

set_option maxHeartbeats 4000000 in
set_option maxRecDepth 100000 in
theorem c_X2_base_a {l : Launch} {E : En} {M : Mt} {z t f : Nat} (dn : dM E) {a b : Nat} (ha : a < z) (hb0 : b < z) (ok : okN M z) : MI2 l yX2_base (.code yX2_base cX2_base 6 (some .int)) 2 46 E [.ref (ad E 0), .int (nI a), .int (nI b), .int (-1)] M z t f (nI (orU M z a b).2) (orU M z a b).1 z 0 (orU M z a b).2 := by
  refine MI2.of dn (own := RX2) (by decide) rfl (Nat.le_of_ble_eq_true rfl) (fun p e s m args below meth c ls Q K w hl ret => ?_)
  have hx := K.1.1
  have hb := K.1.2.1
  have hR : 2 ≤ (rmA 2 46).frames ∧ 46 ≤ (rmA 2 46).locals := ⟨Nat.le_refl _, Nat.le_refl _⟩
  have hf : 0 ≤ (rmA 2 46).cells ∧ 0 ≤ (rmA 2 46).slots := ⟨Nat.le_refl _, Nat.le_refl _⟩
  have hl : lv_has ls 6 [(0, .ref (ad E 0)), (1, .int (nI a)), (2, .int (nI b)), (3, .int (-1))] := hl
  have hz := ok.1
  refine lv_aload_n hx hb dX2_base_0 rfl (lv_at hl 0 rfl) ?_
  refine lv_iconst (v := nI 0) hx hb dX2_base_1 (by decide) ?_
  refine pf_X2_thrown K w rfl dX2_base_2 (fun H locs w => ?_)
  refine lv_aload_n hx hb dX2_base_5 rfl (lv_at hl 0 rfl) ?_
  refine lv_iload_n hx hb dX2_base_6 rfl (lv_at hl 1 rfl) ?_
  refine calli2 K w (c_X2_there dn) (lk_X2_57 K ⟨Nat.le_trans (Nat.le_of_ble_eq_true rfl) hR.1, Nat.le_trans (Nat.le_of_ble_eq_true rfl) hR.2⟩) (recvM K w) rfl hl.1 rfl (Nat.le_of_ble_eq_true rfl) dX2_base_7 hf (fun H locs w => ?_)
  refine lv_if_eq (tgt := 21) hx hb dX2_base_10 rfl (fun h9 => absurd h9 (dB_t (in_ok ha hz))) (fun _ => ?_)
  refine lv_aload_n hx hb dX2_base_13 rfl (lv_at hl 0 rfl) ?_
  refine lv_iload_n hx hb dX2_base_14 rfl (lv_at hl 2 rfl) ?_
  refine calli2 K w (c_X2_there dn) (lk_X2_57 K ⟨Nat.le_trans (Nat.le_of_ble_eq_true rfl) hR.1, Nat.le_trans (Nat.le_of_ble_eq_true rfl) hR.2⟩) (recvM K w) rfl hl.1 rfl (Nat.le_of_ble_eq_true rfl) dX2_base_15 hf (fun H locs w => ?_)
  refine lv_if_ne (tgt := 27) hx hb dX2_base_18 rfl (fun _ => ?_) (fun h9 => absurd h9 (dB_t (in_ok hb0 hz)))
  refine pre_base K ⟨Nat.le_trans (Nat.le_of_ble_eq_true rfl) hR.1, Nat.le_trans (Nat.le_of_ble_eq_true rfl) hR.2⟩ hf ha hb0 ok (fun H locs ls w hl => ?_) w hl
  refine lv_aload_n hx hb dX2_base_232 rfl (lv_at hl 1 rfl) ?_
  refine lv_iload_n hx hb dX2_base_233 rfl (lv_at hl 0 rfl) ?_
  refine calli2 K w (c_X2_pick_a dn) (lk_X2_81 K ⟨Nat.le_trans (Nat.le_of_ble_eq_true rfl) hR.1, Nat.le_trans (Nat.le_of_ble_eq_true rfl) hR.2⟩) (recvM K w) rfl hl.1 rfl (Nat.le_of_ble_eq_true rfl) dX2_base_234 hf (fun H locs w => ?_)
  exact ret w rfl dX2_base_237

set_option maxHeartbeats 4000000 in
set_option maxRecDepth 100000 in
theorem c_X2_base_b {l : Launch} {E : En} {M : Mt} {z t f : Nat} (dn : dM E) {a b j : Nat} (ha : a < z) (hb0 : b < z) (ok : okN M z) (hj : j < (orU M z a b).2) : MI2 l yX2_base (.code yX2_base cX2_base 6 (some .int)) 2 46 E [.ref (ad E 0), .int (nI a), .int (nI b), .int (nI j)] M z t f ((orU M z a b).1 3 j) (orU M z a b).1 z 0 (orU M z a b).2 := by
  refine MI2.of dn (own := RX2) (by decide) rfl (Nat.le_of_ble_eq_true rfl) (fun p e s m args below meth c ls Q K w hl ret => ?_)
  have hx := K.1.1
  have hb := K.1.2.1
  have hR : 2 ≤ (rmA 2 46).frames ∧ 46 ≤ (rmA 2 46).locals := ⟨Nat.le_refl _, Nat.le_refl _⟩
  have hf : 0 ≤ (rmA 2 46).cells ∧ 0 ≤ (rmA 2 46).slots := ⟨Nat.le_refl _, Nat.le_refl _⟩
  have hl : lv_has ls 6 [(0, .ref (ad E 0)), (1, .int (nI a)), (2, .int (nI b)), (3, .int (nI j))] := hl
  have hz := ok.1
  refine lv_aload_n hx hb dX2_base_0 rfl (lv_at hl 0 rfl) ?_
  refine lv_iconst (v := nI 0) hx hb dX2_base_1 (by decide) ?_
  refine pf_X2_thrown K w rfl dX2_base_2 (fun H locs w => ?_)
  refine lv_aload_n hx hb dX2_base_5 rfl (lv_at hl 0 rfl) ?_
  refine lv_iload_n hx hb dX2_base_6 rfl (lv_at hl 1 rfl) ?_
  refine calli2 K w (c_X2_there dn) (lk_X2_57 K ⟨Nat.le_trans (Nat.le_of_ble_eq_true rfl) hR.1, Nat.le_trans (Nat.le_of_ble_eq_true rfl) hR.2⟩) (recvM K w) rfl hl.1 rfl (Nat.le_of_ble_eq_true rfl) dX2_base_7 hf (fun H locs w => ?_)
  refine lv_if_eq (tgt := 21) hx hb dX2_base_10 rfl (fun h9 => absurd h9 (dB_t (in_ok ha hz))) (fun _ => ?_)
  refine lv_aload_n hx hb dX2_base_13 rfl (lv_at hl 0 rfl) ?_
  refine lv_iload_n hx hb dX2_base_14 rfl (lv_at hl 2 rfl) ?_
  refine calli2 K w (c_X2_there dn) (lk_X2_57 K ⟨Nat.le_trans (Nat.le_of_ble_eq_true rfl) hR.1, Nat.le_trans (Nat.le_of_ble_eq_true rfl) hR.2⟩) (recvM K w) rfl hl.1 rfl (Nat.le_of_ble_eq_true rfl) dX2_base_15 hf (fun H locs w => ?_)
  refine lv_if_ne (tgt := 27) hx hb dX2_base_18 rfl (fun _ => ?_) (fun h9 => absurd h9 (dB_t (in_ok hb0 hz)))
  refine pre_base K ⟨Nat.le_trans (Nat.le_of_ble_eq_true rfl) hR.1, Nat.le_trans (Nat.le_of_ble_eq_true rfl) hR.2⟩ hf ha hb0 ok (fun H locs ls w hl => ?_) w hl
  refine lv_aload_n hx hb dX2_base_232 rfl (lv_at hl 1 rfl) ?_
  refine lv_iload_n hx hb dX2_base_233 rfl (lv_at hl 0 rfl) ?_
  refine calli2 K w (c_X2_pick_b dn hj (Nat.le_trans orU_le hz)) (lk_X2_81 K ⟨Nat.le_trans (Nat.le_of_ble_eq_true rfl) hR.1, Nat.le_trans (Nat.le_of_ble_eq_true rfl) hR.2⟩) (recvM K w) rfl hl.1 rfl (Nat.le_of_ble_eq_true rfl) dX2_base_234 hf (fun H locs w => ?_)
  exact ret w rfl dX2_base_237

set_option maxHeartbeats 4000000 in
set_option maxRecDepth 100000 in
theorem c_X2_base_c {l : Launch} {E : En} {M : Mt} {z t f : Nat} (dn : dM E) {a b : Nat} {x : Int32} (ha : a < z) (hb0 : b < z) (ok : okN M z) (h1 : ¬ x = -1) (h2 : x < 0 ∨ nI (orU M z a b).2 ≤ x) : MI2 l yX2_base (.code yX2_base cX2_base 6 (some .int)) 2 46 E [.ref (ad E 0), .int (nI a), .int (nI b), .int x] M z t f (nI 0) (orU M z a b).1 z 2 (orU M z a b).2 := by
  refine MI2.of dn (own := RX2) (by decide) rfl (Nat.le_of_ble_eq_true rfl) (fun p e s m args below meth c ls Q K w hl ret => ?_)
  have hx := K.1.1
  have hb := K.1.2.1
  have hR : 2 ≤ (rmA 2 46).frames ∧ 46 ≤ (rmA 2 46).locals := ⟨Nat.le_refl _, Nat.le_refl _⟩
  have hf : 0 ≤ (rmA 2 46).cells ∧ 0 ≤ (rmA 2 46).slots := ⟨Nat.le_refl _, Nat.le_refl _⟩
  have hl : lv_has ls 6 [(0, .ref (ad E 0)), (1, .int (nI a)), (2, .int (nI b)), (3, .int x)] := hl
  have hz := ok.1
  refine lv_aload_n hx hb dX2_base_0 rfl (lv_at hl 0 rfl) ?_
  refine lv_iconst (v := nI 0) hx hb dX2_base_1 (by decide) ?_
  refine pf_X2_thrown K w rfl dX2_base_2 (fun H locs w => ?_)
  refine lv_aload_n hx hb dX2_base_5 rfl (lv_at hl 0 rfl) ?_
  refine lv_iload_n hx hb dX2_base_6 rfl (lv_at hl 1 rfl) ?_
  refine calli2 K w (c_X2_there dn) (lk_X2_57 K ⟨Nat.le_trans (Nat.le_of_ble_eq_true rfl) hR.1, Nat.le_trans (Nat.le_of_ble_eq_true rfl) hR.2⟩) (recvM K w) rfl hl.1 rfl (Nat.le_of_ble_eq_true rfl) dX2_base_7 hf (fun H locs w => ?_)
  refine lv_if_eq (tgt := 21) hx hb dX2_base_10 rfl (fun h9 => absurd h9 (dB_t (in_ok ha hz))) (fun _ => ?_)
  refine lv_aload_n hx hb dX2_base_13 rfl (lv_at hl 0 rfl) ?_
  refine lv_iload_n hx hb dX2_base_14 rfl (lv_at hl 2 rfl) ?_
  refine calli2 K w (c_X2_there dn) (lk_X2_57 K ⟨Nat.le_trans (Nat.le_of_ble_eq_true rfl) hR.1, Nat.le_trans (Nat.le_of_ble_eq_true rfl) hR.2⟩) (recvM K w) rfl hl.1 rfl (Nat.le_of_ble_eq_true rfl) dX2_base_15 hf (fun H locs w => ?_)
  refine lv_if_ne (tgt := 27) hx hb dX2_base_18 rfl (fun _ => ?_) (fun h9 => absurd h9 (dB_t (in_ok hb0 hz)))
  refine pre_base K ⟨Nat.le_trans (Nat.le_of_ble_eq_true rfl) hR.1, Nat.le_trans (Nat.le_of_ble_eq_true rfl) hR.2⟩ hf ha hb0 ok (fun H locs ls w hl => ?_) w hl
  refine lv_aload_n hx hb dX2_base_232 rfl (lv_at hl 1 rfl) ?_
  refine lv_iload_n hx hb dX2_base_233 rfl (lv_at hl 0 rfl) ?_
  refine calli2 K w (c_X2_pick_c dn h1 h2) (lk_X2_81 K ⟨Nat.le_trans (Nat.le_of_ble_eq_true rfl) hR.1, Nat.le_trans (Nat.le_of_ble_eq_true rfl) hR.2⟩) (recvM K w) rfl hl.1 rfl (Nat.le_of_ble_eq_true rfl) dX2_base_234 hf (fun H locs w => ?_)
  exact ret w rfl dX2_base_237

set_option maxHeartbeats 4000000 in
set_option maxRecDepth 100000 in
theorem r_X2_log {l : Launch} {E : En} {M : Mt} {z t f : Nat} (dn : dM E) {x v : Int32} (h2 : x < 0 ∨ nI z ≤ x) : MI2 l yX2_log (.code yX2_log cX2_log 5 (some .int)) 2 46 E [.ref (ad E 0), .int x, .int v] M z t f (nI 0) M z 1 f := by
  refine MI2.of dn (own := RX2) (by decide) rfl (Nat.le_of_ble_eq_true rfl) (fun p e s m args below meth c ls Q K w hl ret => ?_)
  have hx := K.1.1
  have hb := K.1.2.1
  have hR : 2 ≤ (rmA 2 46).frames ∧ 46 ≤ (rmA 2 46).locals := ⟨Nat.le_refl _, Nat.le_refl _⟩
  have hf : 0 ≤ (rmA 2 46).cells ∧ 0 ≤ (rmA 2 46).slots := ⟨Nat.le_refl _, Nat.le_refl _⟩
  have hl : lv_has ls 5 [(0, .ref (ad E 0)), (1, .int x), (2, .int v)] := hl
  refine lv_aload_n hx hb dX2_log_0 rfl (lv_at hl 0 rfl) ?_
  refine lv_iconst (v := nI 0) hx hb dX2_log_1 (by decide) ?_
  refine pf_X2_thrown K w rfl dX2_log_2 (fun H locs w => ?_)
  refine lv_aload_n hx hb dX2_log_5 rfl (lv_at hl 0 rfl) ?_
  refine lv_iload_n hx hb dX2_log_6 rfl (lv_at hl 1 rfl) ?_
  refine calli2 K w (c_X2_there dn) (lk_X2_57 K ⟨Nat.le_trans (Nat.le_of_ble_eq_true rfl) hR.1, Nat.le_trans (Nat.le_of_ble_eq_true rfl) hR.2⟩) (recvM K w) rfl hl.1 rfl (Nat.le_of_ble_eq_true rfl) dX2_log_7 hf (fun H locs w => ?_)
  refine lv_if_ne (tgt := 19) hx hb dX2_log_10 rfl (fun h9 => absurd (dB_f (fun h => h h2)) h9) (fun _ => ?_)
  refine lv_aload_n hx hb dX2_log_13 rfl (lv_at hl 0 rfl) ?_
  refine lv_iconst (v := nI 1) hx hb dX2_log_14 (by decide) ?_
  refine calli2 K w (c_X2_refuse dn) (lk_X2_45 K ⟨Nat.le_trans (Nat.le_of_ble_eq_true rfl) hR.1, Nat.le_trans (Nat.le_of_ble_eq_true rfl) hR.2⟩) (recvM K w) rfl hl.1 rfl (Nat.le_of_ble_eq_true rfl) dX2_log_15 hf (fun H locs w => ?_)
  exact ret w rfl dX2_log_18

set_option maxHeartbeats 4000000 in
set_option maxRecDepth 100000 in
theorem c_X2_log_a {l : Launch} {E : En} {M : Mt} {z t f : Nat} (dn : dM E) {q : Nat} (hq : q < z) (ok : okN M z) : MI2 l yX2_log (.code yX2_log cX2_log 5 (some .int)) 2 46 E [.ref (ad E 0), .int (nI q), .int (-1)] M z t f (nI (lgU M z q).2) (lgU M z q).1 z 0 (lgU M z q).2 := by
  refine MI2.of dn (own := RX2) (by decide) rfl (Nat.le_of_ble_eq_true rfl) (fun p e s m args below meth c ls Q K w hl ret => ?_)
  have hx := K.1.1
  have hb := K.1.2.1
  have hR : 2 ≤ (rmA 2 46).frames ∧ 46 ≤ (rmA 2 46).locals := ⟨Nat.le_refl _, Nat.le_refl _⟩
  have hf : 0 ≤ (rmA 2 46).cells ∧ 0 ≤ (rmA 2 46).slots := ⟨Nat.le_refl _, Nat.le_refl _⟩
  have hl : lv_has ls 5 [(0, .ref (ad E 0)), (1, .int (nI q)), (2, .int (-1))] := hl
  have hz := ok.1
  refine lv_aload_n hx hb dX2_log_0 rfl (lv_at hl 0 rfl) ?_
  refine lv_iconst (v := nI 0) hx hb dX2_log_1 (by decide) ?_
  refine pf_X2_thrown K w rfl dX2_log_2 (fun H locs w => ?_)
  refine lv_aload_n hx hb dX2_log_5 rfl (lv_at hl 0 rfl) ?_
  refine lv_iload_n hx hb dX2_log_6 rfl (lv_at hl 1 rfl) ?_
  refine calli2 K w (c_X2_there dn) (lk_X2_57 K ⟨Nat.le_trans (Nat.le_of_ble_eq_true rfl) hR.1, Nat.le_trans (Nat.le_of_ble_eq_true rfl) hR.2⟩) (recvM K w) rfl hl.1 rfl (Nat.le_of_ble_eq_true rfl) dX2_log_7 hf (fun H locs w => ?_)
  refine lv_if_ne (tgt := 19) hx hb dX2_log_10 rfl (fun _ => ?_) (fun h9 => absurd h9 (dB_t (in_ok hq hz)))
  refine lv_aload_n hx hb dX2_log_19 rfl (lv_at hl 0 rfl) ?_
  refine lv_iload_n hx hb dX2_log_20 rfl (lv_at hl 1 rfl) ?_
  refine lv_aload_n hx hb dX2_log_21 rfl (lv_at hl 0 rfl) ?_
  refine gf_X2_left K w dX2_log_22 ?_
  refine callv2 K w (c_X2_from dn rwB9 (by decide) (by decide) (by omega) ok) (lk_X2_68 K ⟨Nat.le_trans (Nat.le_of_ble_eq_true rfl) hR.1, Nat.le_trans (Nat.le_of_ble_eq_true rfl) hR.2⟩) (recvM K w) rfl hl.1 rfl (Nat.le_of_ble_eq_true rfl) dX2_log_25 hf (fun H locs w => ?_)
  refine lv_aload_n hx hb dX2_log_28 rfl (lv_at hl 0 rfl) ?_
  refine lv_iconst (v := nI 0) hx hb dX2_log_29 (by decide) ?_
  refine pf_X2_found K w rfl dX2_log_30 (fun H locs w => ?_)
  refine lp_log K ⟨Nat.le_trans (Nat.le_of_ble_eq_true rfl) hR.1, Nat.le_trans (Nat.le_of_ble_eq_true rfl) hR.2⟩ hf (fun H locs ls w hl => ?_) z (frF M z 9 q) 0 _ _ _ cL_le (by rw [Nat.zero_add]; exact cL_le) (ok.rows (frF_row (by decide)) (frF_row (by decide))) rfl w (lv_sub hl [2, 0] rfl)
  refine lv_aload_n hx hb dX2_log_93 rfl (lv_at hl 1 rfl) ?_
  refine lv_iload_n hx hb dX2_log_94 rfl (lv_at hl 0 rfl) ?_
  refine calli2 K w (c_X2_pick_a dn) (lk_X2_81 K ⟨Nat.le_trans (Nat.le_of_ble_eq_true rfl) hR.1, Nat.le_trans (Nat.le_of_ble_eq_true rfl) hR.2⟩) (recvM K w) rfl hl.1 rfl (Nat.le_of_ble_eq_true rfl) dX2_log_95 hf (fun H locs w => ?_)
  exact ret w rfl dX2_log_98

set_option maxHeartbeats 4000000 in
set_option maxRecDepth 100000 in
theorem c_X2_log_b {l : Launch} {E : En} {M : Mt} {z t f : Nat} (dn : dM E) {q j : Nat} (hq : q < z) (ok : okN M z) (hj : j < (lgU M z q).2) : MI2 l yX2_log (.code yX2_log cX2_log 5 (some .int)) 2 46 E [.ref (ad E 0), .int (nI q), .int (nI j)] M z t f ((lgU M z q).1 3 j) (lgU M z q).1 z 0 (lgU M z q).2 := by
  refine MI2.of dn (own := RX2) (by decide) rfl (Nat.le_of_ble_eq_true rfl) (fun p e s m args below meth c ls Q K w hl ret => ?_)
  have hx := K.1.1
  have hb := K.1.2.1
  have hR : 2 ≤ (rmA 2 46).frames ∧ 46 ≤ (rmA 2 46).locals := ⟨Nat.le_refl _, Nat.le_refl _⟩
  have hf : 0 ≤ (rmA 2 46).cells ∧ 0 ≤ (rmA 2 46).slots := ⟨Nat.le_refl _, Nat.le_refl _⟩
  have hl : lv_has ls 5 [(0, .ref (ad E 0)), (1, .int (nI q)), (2, .int (nI j))] := hl
  have hz := ok.1
  refine lv_aload_n hx hb dX2_log_0 rfl (lv_at hl 0 rfl) ?_
  refine lv_iconst (v := nI 0) hx hb dX2_log_1 (by decide) ?_
  refine pf_X2_thrown K w rfl dX2_log_2 (fun H locs w => ?_)
  refine lv_aload_n hx hb dX2_log_5 rfl (lv_at hl 0 rfl) ?_
  refine lv_iload_n hx hb dX2_log_6 rfl (lv_at hl 1 rfl) ?_
  refine calli2 K w (c_X2_there dn) (lk_X2_57 K ⟨Nat.le_trans (Nat.le_of_ble_eq_true rfl) hR.1, Nat.le_trans (Nat.le_of_ble_eq_true rfl) hR.2⟩) (recvM K w) rfl hl.1 rfl (Nat.le_of_ble_eq_true rfl) dX2_log_7 hf (fun H locs w => ?_)
  refine lv_if_ne (tgt := 19) hx hb dX2_log_10 rfl (fun _ => ?_) (fun h9 => absurd h9 (dB_t (in_ok hq hz)))
  refine lv_aload_n hx hb dX2_log_19 rfl (lv_at hl 0 rfl) ?_
  refine lv_iload_n hx hb dX2_log_20 rfl (lv_at hl 1 rfl) ?_
  refine lv_aload_n hx hb dX2_log_21 rfl (lv_at hl 0 rfl) ?_
  refine gf_X2_left K w dX2_log_22 ?_
  refine callv2 K w (c_X2_from dn rwB9 (by decide) (by decide) (by omega) ok) (lk_X2_68 K ⟨Nat.le_trans (Nat.le_of_ble_eq_true rfl) hR.1, Nat.le_trans (Nat.le_of_ble_eq_true rfl) hR.2⟩) (recvM K w) rfl hl.1 rfl (Nat.le_of_ble_eq_true rfl) dX2_log_25 hf (fun H locs w => ?_)
  refine lv_aload_n hx hb dX2_log_28 rfl (lv_at hl 0 rfl) ?_
  refine lv_iconst (v := nI 0) hx hb dX2_log_29 (by decide) ?_
  refine pf_X2_found K w rfl dX2_log_30 (fun H locs w => ?_)
  refine lp_log K ⟨Nat.le_trans (Nat.le_of_ble_eq_true rfl) hR.1, Nat.le_trans (Nat.le_of_ble_eq_true rfl) hR.2⟩ hf (fun H locs ls w hl => ?_) z (frF M z 9 q) 0 _ _ _ cL_le (by rw [Nat.zero_add]; exact cL_le) (ok.rows (frF_row (by decide)) (frF_row (by decide))) rfl w (lv_sub hl [2, 0] rfl)
  refine lv_aload_n hx hb dX2_log_93 rfl (lv_at hl 1 rfl) ?_
  refine lv_iload_n hx hb dX2_log_94 rfl (lv_at hl 0 rfl) ?_
  refine calli2 K w (c_X2_pick_b dn hj (Nat.le_trans lgU_le hz)) (lk_X2_81 K ⟨Nat.le_trans (Nat.le_of_ble_eq_true rfl) hR.1, Nat.le_trans (Nat.le_of_ble_eq_true rfl) hR.2⟩) (recvM K w) rfl hl.1 rfl (Nat.le_of_ble_eq_true rfl) dX2_log_95 hf (fun H locs w => ?_)
  exact ret w rfl dX2_log_98

set_option maxHeartbeats 4000000 in
set_option maxRecDepth 100000 in
theorem c_X2_log_c {l : Launch} {E : En} {M : Mt} {z t f : Nat} (dn : dM E) {q : Nat} {x : Int32} (hq : q < z) (ok : okN M z) (h1 : ¬ x = -1) (h2 : x < 0 ∨ nI (lgU M z q).2 ≤ x) : MI2 l yX2_log (.code yX2_log cX2_log 5 (some .int)) 2 46 E [.ref (ad E 0), .int (nI q), .int x] M z t f (nI 0) (lgU M z q).1 z 2 (lgU M z q).2 := by
  refine MI2.of dn (own := RX2) (by decide) rfl (Nat.le_of_ble_eq_true rfl) (fun p e s m args below meth c ls Q K w hl ret => ?_)
  have hx := K.1.1
  have hb := K.1.2.1
  have hR : 2 ≤ (rmA 2 46).frames ∧ 46 ≤ (rmA 2 46).locals := ⟨Nat.le_refl _, Nat.le_refl _⟩
  have hf : 0 ≤ (rmA 2 46).cells ∧ 0 ≤ (rmA 2 46).slots := ⟨Nat.le_refl _, Nat.le_refl _⟩
  have hl : lv_has ls 5 [(0, .ref (ad E 0)), (1, .int (nI q)), (2, .int x)] := hl
  have hz := ok.1
  refine lv_aload_n hx hb dX2_log_0 rfl (lv_at hl 0 rfl) ?_
  refine lv_iconst (v := nI 0) hx hb dX2_log_1 (by decide) ?_
  refine pf_X2_thrown K w rfl dX2_log_2 (fun H locs w => ?_)
  refine lv_aload_n hx hb dX2_log_5 rfl (lv_at hl 0 rfl) ?_
  refine lv_iload_n hx hb dX2_log_6 rfl (lv_at hl 1 rfl) ?_
  refine calli2 K w (c_X2_there dn) (lk_X2_57 K ⟨Nat.le_trans (Nat.le_of_ble_eq_true rfl) hR.1, Nat.le_trans (Nat.le_of_ble_eq_true rfl) hR.2⟩) (recvM K w) rfl hl.1 rfl (Nat.le_of_ble_eq_true rfl) dX2_log_7 hf (fun H locs w => ?_)
  refine lv_if_ne (tgt := 19) hx hb dX2_log_10 rfl (fun _ => ?_) (fun h9 => absurd h9 (dB_t (in_ok hq hz)))
  refine lv_aload_n hx hb dX2_log_19 rfl (lv_at hl 0 rfl) ?_
  refine lv_iload_n hx hb dX2_log_20 rfl (lv_at hl 1 rfl) ?_
  refine lv_aload_n hx hb dX2_log_21 rfl (lv_at hl 0 rfl) ?_
  refine gf_X2_left K w dX2_log_22 ?_
  refine callv2 K w (c_X2_from dn rwB9 (by decide) (by decide) (by omega) ok) (lk_X2_68 K ⟨Nat.le_trans (Nat.le_of_ble_eq_true rfl) hR.1, Nat.le_trans (Nat.le_of_ble_eq_true rfl) hR.2⟩) (recvM K w) rfl hl.1 rfl (Nat.le_of_ble_eq_true rfl) dX2_log_25 hf (fun H locs w => ?_)
  refine lv_aload_n hx hb dX2_log_28 rfl (lv_at hl 0 rfl) ?_
  refine lv_iconst (v := nI 0) hx hb dX2_log_29 (by decide) ?_
  refine pf_X2_found K w rfl dX2_log_30 (fun H locs w => ?_)
  refine lp_log K ⟨Nat.le_trans (Nat.le_of_ble_eq_true rfl) hR.1, Nat.le_trans (Nat.le_of_ble_eq_true rfl) hR.2⟩ hf (fun H locs ls w hl => ?_) z (frF M z 9 q) 0 _ _ _ cL_le (by rw [Nat.zero_add]; exact cL_le) (ok.rows (frF_row (by decide)) (frF_row (by decide))) rfl w (lv_sub hl [2, 0] rfl)
  refine lv_aload_n hx hb dX2_log_93 rfl (lv_at hl 1 rfl) ?_
  refine lv_iload_n hx hb dX2_log_94 rfl (lv_at hl 0 rfl) ?_
  refine calli2 K w (c_X2_pick_c dn h1 h2) (lk_X2_81 K ⟨Nat.le_trans (Nat.le_of_ble_eq_true rfl) hR.1, Nat.le_trans (Nat.le_of_ble_eq_true rfl) hR.2⟩) (recvM K w) rfl hl.1 rfl (Nat.le_of_ble_eq_true rfl) dX2_log_95 hf (fun H locs w => ?_)
  exact ret w rfl dX2_log_98

set_option maxHeartbeats 4000000 in
set_option maxRecDepth 100000 in
theorem r_X2_back_a {l : Launch} {E : En} {M : Mt} {z t f : Nat} (dn : dM E) {x v : Int32} (h2 : x < 0 ∨ nI z ≤ x) : MI2 l yX2_back (.code yX2_back cX2_back 5 (some .int)) 1 21 E [.ref (ad E 0), .int x, .int v] M z t f (nI 0) M z 1 f := by
  refine MI2.of dn (own := RX2) (by decide) rfl (Nat.le_of_ble_eq_true rfl) (fun p e s m args below meth c ls Q K w hl ret => ?_)
  have hx := K.1.1
  have hb := K.1.2.1
  have hR : 1 ≤ (rmA 1 21).frames ∧ 21 ≤ (rmA 1 21).locals := ⟨Nat.le_refl _, Nat.le_refl _⟩
  have hf : 0 ≤ (rmA 1 21).cells ∧ 0 ≤ (rmA 1 21).slots := ⟨Nat.le_refl _, Nat.le_refl _⟩
  have hl : lv_has ls 5 [(0, .ref (ad E 0)), (1, .int x), (2, .int v)] := hl
  refine lv_aload_n hx hb dX2_back_0 rfl (lv_at hl 0 rfl) ?_
  refine lv_iconst (v := nI 0) hx hb dX2_back_1 (by decide) ?_
  refine pf_X2_thrown K w rfl dX2_back_2 (fun H locs w => ?_)
  refine lv_aload_n hx hb dX2_back_5 rfl (lv_at hl 0 rfl) ?_
  refine lv_iload_n hx hb dX2_back_6 rfl (lv_at hl 1 rfl) ?_
  refine calli2 K w (c_X2_there dn) (lk_X2_57 K ⟨Nat.le_trans (Nat.le_of_ble_eq_true rfl) hR.1, Nat.le_trans (Nat.le_of_ble_eq_true rfl) hR.2⟩) (recvM K w) rfl hl.1 rfl (Nat.le_of_ble_eq_true rfl) dX2_back_7 hf (fun H locs w => ?_)
  refine lv_if_eq (tgt := 17) hx hb dX2_back_10 rfl (fun _ => ?_) (fun h9 => absurd (dB_f (fun h => h h2)) h9)
  refine lv_aload_n hx hb dX2_back_17 rfl (lv_at hl 0 rfl) ?_
  refine lv_iconst (v := nI 1) hx hb dX2_back_18 (by decide) ?_
  refine calli2 K w (c_X2_refuse dn) (lk_X2_45 K ⟨Nat.le_trans (Nat.le_of_ble_eq_true rfl) hR.1, Nat.le_trans (Nat.le_of_ble_eq_true rfl) hR.2⟩) (recvM K w) rfl hl.1 rfl (Nat.le_of_ble_eq_true rfl) dX2_back_19 hf (fun H locs w => ?_)
  exact ret w rfl dX2_back_22

set_option maxHeartbeats 4000000 in
set_option maxRecDepth 100000 in
theorem r_X2_back_b {l : Launch} {E : En} {M : Mt} {z t f : Nat} (dn : dM E) {q : Nat} {v : Int32} (hq : q < z) (hz : z ≤ 2000) (h2 : v < 0) : MI2 l yX2_back (.code yX2_back cX2_back 5 (some .int)) 1 21 E [.ref (ad E 0), .int (nI q), .int v] M z t f (nI 0) M z 1 f := by
  refine MI2.of dn (own := RX2) (by decide) rfl (Nat.le_of_ble_eq_true rfl) (fun p e s m args below meth c ls Q K w hl ret => ?_)
  have hx := K.1.1
  have hb := K.1.2.1
  have hR : 1 ≤ (rmA 1 21).frames ∧ 21 ≤ (rmA 1 21).locals := ⟨Nat.le_refl _, Nat.le_refl _⟩
  have hf : 0 ≤ (rmA 1 21).cells ∧ 0 ≤ (rmA 1 21).slots := ⟨Nat.le_refl _, Nat.le_refl _⟩
  have hl : lv_has ls 5 [(0, .ref (ad E 0)), (1, .int (nI q)), (2, .int v)] := hl
  refine lv_aload_n hx hb dX2_back_0 rfl (lv_at hl 0 rfl) ?_
  refine lv_iconst (v := nI 0) hx hb dX2_back_1 (by decide) ?_
  refine pf_X2_thrown K w rfl dX2_back_2 (fun H locs w => ?_)
  refine lv_aload_n hx hb dX2_back_5 rfl (lv_at hl 0 rfl) ?_
  refine lv_iload_n hx hb dX2_back_6 rfl (lv_at hl 1 rfl) ?_
  refine calli2 K w (c_X2_there dn) (lk_X2_57 K ⟨Nat.le_trans (Nat.le_of_ble_eq_true rfl) hR.1, Nat.le_trans (Nat.le_of_ble_eq_true rfl) hR.2⟩) (recvM K w) rfl hl.1 rfl (Nat.le_of_ble_eq_true rfl) dX2_back_7 hf (fun H locs w => ?_)
  refine lv_if_eq (tgt := 17) hx hb dX2_back_10 rfl (fun h9 => absurd h9 (dB_t (in_ok hq hz))) (fun _ => ?_)
  refine lv_iload_n hx hb dX2_back_13 rfl (lv_at hl 2 rfl) ?_
  refine lv_if_ge (tgt := 23) hx hb dX2_back_14 rfl (fun h9 => absurd h9 (fun h => nlt_le h h2)) (fun _ => ?_)
  refine lv_aload_n hx hb dX2_back_17 rfl (lv_at hl 0 rfl) ?_
  refine lv_iconst (v := nI 1) hx hb dX2_back_18 (by decide) ?_
  refine calli2 K w (c_X2_refuse dn) (lk_X2_45 K ⟨Nat.le_trans (Nat.le_of_ble_eq_true rfl) hR.1, Nat.le_trans (Nat.le_of_ble_eq_true rfl) hR.2⟩) (recvM K w) rfl hl.1 rfl (Nat.le_of_ble_eq_true rfl) dX2_back_19 hf (fun H locs w => ?_)
  exact ret w rfl dX2_back_22

set_option maxHeartbeats 4000000 in
set_option maxRecDepth 100000 in
theorem r_X2_back_c {l : Launch} {E : En} {M : Mt} {z t f : Nat} (dn : dM E) {q j : Nat} (hq : q < z) (hj : j < 2147483648) (ok : okN M z) (hm : bkF M j q = none) : MI2 l yX2_back (.code yX2_back cX2_back 5 (some .int)) 1 21 E [.ref (ad E 0), .int (nI q), .int (nI j)] M z t f (nI 0) M z 2 f := by
  refine MI2.of dn (own := RX2) (by decide) rfl (Nat.le_of_ble_eq_true rfl) (fun p e s m args below meth c ls Q K w hl ret => ?_)
  have hx := K.1.1
  have hb := K.1.2.1
  have hR : 1 ≤ (rmA 1 21).frames ∧ 21 ≤ (rmA 1 21).locals := ⟨Nat.le_refl _, Nat.le_refl _⟩
  have hf : 0 ≤ (rmA 1 21).cells ∧ 0 ≤ (rmA 1 21).slots := ⟨Nat.le_refl _, Nat.le_refl _⟩
  have hl : lv_has ls 5 [(0, .ref (ad E 0)), (1, .int (nI q)), (2, .int (nI j))] := hl
  have hz := ok.1
  refine lv_aload_n hx hb dX2_back_0 rfl (lv_at hl 0 rfl) ?_
  refine lv_iconst (v := nI 0) hx hb dX2_back_1 (by decide) ?_
  refine pf_X2_thrown K w rfl dX2_back_2 (fun H locs w => ?_)
  refine lv_aload_n hx hb dX2_back_5 rfl (lv_at hl 0 rfl) ?_
  refine lv_iload_n hx hb dX2_back_6 rfl (lv_at hl 1 rfl) ?_
  refine calli2 K w (c_X2_there dn) (lk_X2_57 K ⟨Nat.le_trans (Nat.le_of_ble_eq_true rfl) hR.1, Nat.le_trans (Nat.le_of_ble_eq_true rfl) hR.2⟩) (recvM K w) rfl hl.1 rfl (Nat.le_of_ble_eq_true rfl) dX2_back_7 hf (fun H locs w => ?_)
  refine lv_if_eq (tgt := 17) hx hb dX2_back_10 rfl (fun h9 => absurd h9 (dB_t (in_ok hq hz))) (fun _ => ?_)
  refine lv_iload_n hx hb dX2_back_13 rfl (lv_at hl 2 rfl) ?_
  refine lv_if_ge (tgt := 23) hx hb dX2_back_14 rfl (fun _ => ?_) (fun h9 => absurd (nI_pos' hj) h9)
  refine lv_iload_n hx hb dX2_back_23 rfl (lv_at hl 1 rfl) ?_
  refine lv_istore_n (lv' := [(3, .int _), (0, .ref _), (1, .int _), (2, .int _)]) hx hb dX2_back_24 rfl hl (by decide) rfl (fun ls hl => ?_)
  refine lv_iconst (v := nI 0) hx hb dX2_back_25 (by decide) ?_
  refine lv_istore (lv' := [(4, .int _), (3, .int _), (0, .ref _), (1, .int _), (2, .int _)]) hx hb dX2_back_26 hl (by decide) rfl (fun ls hl => ?_)
  exact lp_bkt K ⟨Nat.le_trans (Nat.le_of_ble_eq_true rfl) hR.1, Nat.le_trans (Nat.le_of_ble_eq_true rfl) hR.2⟩ hf hj ok ret j 0 q _ _ _ (by omega) hq hm w (lv_sub hl [0, 1, 2, 4] rfl)

set_option maxHeartbeats 4000000 in
set_option maxRecDepth 100000 in
theorem c_X2_back {l : Launch} {E : En} {M : Mt} {z t f : Nat} (dn : dM E) {q j r : Nat} (hq : q < z) (hj : j < 2147483648) (ok : okN M z) (hm : bkF M j q = some r) : MI2 l yX2_back (.code yX2_back cX2_back 5 (some .int)) 1 21 E [.ref (ad E 0), .int (nI q), .int (nI j)] M z t f (nI r) M z 0 f := by
  refine MI2.of dn (own := RX2) (by decide) rfl (Nat.le_of_ble_eq_true rfl) (fun p e s m args below meth c ls Q K w hl ret => ?_)
  have hx := K.1.1
  have hb := K.1.2.1
  have hR : 1 ≤ (rmA 1 21).frames ∧ 21 ≤ (rmA 1 21).locals := ⟨Nat.le_refl _, Nat.le_refl _⟩
  have hf : 0 ≤ (rmA 1 21).cells ∧ 0 ≤ (rmA 1 21).slots := ⟨Nat.le_refl _, Nat.le_refl _⟩
  have hl : lv_has ls 5 [(0, .ref (ad E 0)), (1, .int (nI q)), (2, .int (nI j))] := hl
  have hz := ok.1
  refine lv_aload_n hx hb dX2_back_0 rfl (lv_at hl 0 rfl) ?_
  refine lv_iconst (v := nI 0) hx hb dX2_back_1 (by decide) ?_
  refine pf_X2_thrown K w rfl dX2_back_2 (fun H locs w => ?_)
  refine lv_aload_n hx hb dX2_back_5 rfl (lv_at hl 0 rfl) ?_
  refine lv_iload_n hx hb dX2_back_6 rfl (lv_at hl 1 rfl) ?_
  refine calli2 K w (c_X2_there dn) (lk_X2_57 K ⟨Nat.le_trans (Nat.le_of_ble_eq_true rfl) hR.1, Nat.le_trans (Nat.le_of_ble_eq_true rfl) hR.2⟩) (recvM K w) rfl hl.1 rfl (Nat.le_of_ble_eq_true rfl) dX2_back_7 hf (fun H locs w => ?_)
  refine lv_if_eq (tgt := 17) hx hb dX2_back_10 rfl (fun h9 => absurd h9 (dB_t (in_ok hq hz))) (fun _ => ?_)
  refine lv_iload_n hx hb dX2_back_13 rfl (lv_at hl 2 rfl) ?_
  refine lv_if_ge (tgt := 23) hx hb dX2_back_14 rfl (fun _ => ?_) (fun h9 => absurd (nI_pos' hj) h9)
  refine lv_iload_n hx hb dX2_back_23 rfl (lv_at hl 1 rfl) ?_
  refine lv_istore_n (lv' := [(3, .int _), (0, .ref _), (1, .int _), (2, .int _)]) hx hb dX2_back_24 rfl hl (by decide) rfl (fun ls hl => ?_)
  refine lv_iconst (v := nI 0) hx hb dX2_back_25 (by decide) ?_
  refine lv_istore (lv' := [(4, .int _), (3, .int _), (0, .ref _), (1, .int _), (2, .int _)]) hx hb dX2_back_26 hl (by decide) rfl (fun ls hl => ?_)
  exact lp_bk K ⟨Nat.le_trans (Nat.le_of_ble_eq_true rfl) hR.1, Nat.le_trans (Nat.le_of_ble_eq_true rfl) hR.2⟩ hf hj ok ret j 0 q _ _ _ (by omega) hq hm w (lv_sub hl [0, 1, 2, 4] rfl)

set_option maxHeartbeats 4000000 in
set_option maxRecDepth 100000 in
theorem r_X2_told_a {l : Launch} {E : En} {M : Mt} {z t f : Nat} (dn : dM E) {x v : Int32} (h2 : x < 0 ∨ nI z ≤ x) : MI2 l yX2_told (.code yX2_told cX2_told 3 (some .int)) 1 23 E [.ref (ad E 0), .int x, .int v] M z t f (nI 0) M z 1 f := by
  refine MI2.of dn (own := RX2) (by decide) rfl (Nat.le_of_ble_eq_true rfl) (fun p e s m args below meth c ls Q K w hl ret => ?_)
  have hx := K.1.1
  have hb := K.1.2.1
  have hR : 1 ≤ (rmA 1 23).frames ∧ 23 ≤ (rmA 1 23).locals := ⟨Nat.le_refl _, Nat.le_refl _⟩
  have hf : 0 ≤ (rmA 1 23).cells ∧ 0 ≤ (rmA 1 23).slots := ⟨Nat.le_refl _, Nat.le_refl _⟩
  have hl : lv_has ls 3 [(0, .ref (ad E 0)), (1, .int x), (2, .int v)] := hl
  refine lv_aload_n hx hb dX2_told_0 rfl (lv_at hl 0 rfl) ?_
  refine lv_iconst (v := nI 0) hx hb dX2_told_1 (by decide) ?_
  refine pf_X2_thrown K w rfl dX2_told_2 (fun H locs w => ?_)
  refine lv_aload_n hx hb dX2_told_5 rfl (lv_at hl 0 rfl) ?_
  refine lv_iload_n hx hb dX2_told_6 rfl (lv_at hl 1 rfl) ?_
  refine calli2 K w (c_X2_there dn) (lk_X2_57 K ⟨Nat.le_trans (Nat.le_of_ble_eq_true rfl) hR.1, Nat.le_trans (Nat.le_of_ble_eq_true rfl) hR.2⟩) (recvM K w) rfl hl.1 rfl (Nat.le_of_ble_eq_true rfl) dX2_told_7 hf (fun H locs w => ?_)
  refine lv_if_eq (tgt := 22) hx hb dX2_told_10 rfl (fun _ => ?_) (fun h9 => absurd (dB_f (fun h => h h2)) h9)
  refine lv_aload_n hx hb dX2_told_22 rfl (lv_at hl 0 rfl) ?_
  refine lv_iconst (v := nI 1) hx hb dX2_told_23 (by decide) ?_
  refine calli2 K w (c_X2_refuse dn) (lk_X2_45 K ⟨Nat.le_trans (Nat.le_of_ble_eq_true rfl) hR.1, Nat.le_trans (Nat.le_of_ble_eq_true rfl) hR.2⟩) (recvM K w) rfl hl.1 rfl (Nat.le_of_ble_eq_true rfl) dX2_told_24 hf (fun H locs w => ?_)
  exact ret w rfl dX2_told_27

set_option maxHeartbeats 4000000 in
set_option maxRecDepth 100000 in
theorem r_X2_told_b {l : Launch} {E : En} {M : Mt} {z t f : Nat} (dn : dM E) {q : Nat} {v : Int32} (hq : q < z) (hz : z ≤ 2000) (h2 : v < 0 ∨ ¬ v ≤ nI 4) : MI2 l yX2_told (.code yX2_told cX2_told 3 (some .int)) 1 23 E [.ref (ad E 0), .int (nI q), .int v] M z t f (nI 0) M z 1 f := by
  refine MI2.of dn (own := RX2) (by decide) rfl (Nat.le_of_ble_eq_true rfl) (fun p e s m args below meth c ls Q K w hl ret => ?_)
  have hx := K.1.1
  have hb := K.1.2.1
  have hR : 1 ≤ (rmA 1 23).frames ∧ 23 ≤ (rmA 1 23).locals := ⟨Nat.le_refl _, Nat.le_refl _⟩
  have hf : 0 ≤ (rmA 1 23).cells ∧ 0 ≤ (rmA 1 23).slots := ⟨Nat.le_refl _, Nat.le_refl _⟩
  have hl : lv_has ls 3 [(0, .ref (ad E 0)), (1, .int (nI q)), (2, .int v)] := hl
  by_cases h0 : v < 0
  · refine lv_aload_n hx hb dX2_told_0 rfl (lv_at hl 0 rfl) ?_
    refine lv_iconst (v := nI 0) hx hb dX2_told_1 (by decide) ?_
    refine pf_X2_thrown K w rfl dX2_told_2 (fun H locs w => ?_)
    refine lv_aload_n hx hb dX2_told_5 rfl (lv_at hl 0 rfl) ?_
    refine lv_iload_n hx hb dX2_told_6 rfl (lv_at hl 1 rfl) ?_
    refine calli2 K w (c_X2_there dn) (lk_X2_57 K ⟨Nat.le_trans (Nat.le_of_ble_eq_true rfl) hR.1, Nat.le_trans (Nat.le_of_ble_eq_true rfl) hR.2⟩) (recvM K w) rfl hl.1 rfl (Nat.le_of_ble_eq_true rfl) dX2_told_7 hf (fun H locs w => ?_)
    refine lv_if_eq (tgt := 22) hx hb dX2_told_10 rfl (fun h9 => absurd h9 (dB_t (in_ok hq hz))) (fun _ => ?_)
    refine lv_iload_n hx hb dX2_told_13 rfl (lv_at hl 2 rfl) ?_
    refine lv_if_lt (tgt := 22) hx hb dX2_told_14 rfl (fun _ => ?_) (fun h9 => absurd h0 h9)
    refine lv_aload_n hx hb dX2_told_22 rfl (lv_at hl 0 rfl) ?_
    refine lv_iconst (v := nI 1) hx hb dX2_told_23 (by decide) ?_
    refine calli2 K w (c_X2_refuse dn) (lk_X2_45 K ⟨Nat.le_trans (Nat.le_of_ble_eq_true rfl) hR.1, Nat.le_trans (Nat.le_of_ble_eq_true rfl) hR.2⟩) (recvM K w) rfl hl.1 rfl (Nat.le_of_ble_eq_true rfl) dX2_told_24 hf (fun H locs w => ?_)
    exact ret w rfl dX2_told_27
  · refine lv_aload_n hx hb dX2_told_0 rfl (lv_at hl 0 rfl) ?_
    refine lv_iconst (v := nI 0) hx hb dX2_told_1 (by decide) ?_
    refine pf_X2_thrown K w rfl dX2_told_2 (fun H locs w => ?_)
    refine lv_aload_n hx hb dX2_told_5 rfl (lv_at hl 0 rfl) ?_
    refine lv_iload_n hx hb dX2_told_6 rfl (lv_at hl 1 rfl) ?_
    refine calli2 K w (c_X2_there dn) (lk_X2_57 K ⟨Nat.le_trans (Nat.le_of_ble_eq_true rfl) hR.1, Nat.le_trans (Nat.le_of_ble_eq_true rfl) hR.2⟩) (recvM K w) rfl hl.1 rfl (Nat.le_of_ble_eq_true rfl) dX2_told_7 hf (fun H locs w => ?_)
    refine lv_if_eq (tgt := 22) hx hb dX2_told_10 rfl (fun h9 => absurd h9 (dB_t (in_ok hq hz))) (fun _ => ?_)
    refine lv_iload_n hx hb dX2_told_13 rfl (lv_at hl 2 rfl) ?_
    refine lv_if_lt (tgt := 22) hx hb dX2_told_14 rfl (fun h9 => absurd h9 h0) (fun _ => ?_)
    refine lv_iload_n hx hb dX2_told_17 rfl (lv_at hl 2 rfl) ?_
    refine lv_iconst (v := nI 4) hx hb dX2_told_18 (by decide) ?_
    refine lv_icmp_le (tgt := 28) hx hb dX2_told_19 rfl (fun h9 => absurd h9 (h2.elim (fun h => absurd h h0) id)) (fun _ => ?_)
    refine lv_aload_n hx hb dX2_told_22 rfl (lv_at hl 0 rfl) ?_
    refine lv_iconst (v := nI 1) hx hb dX2_told_23 (by decide) ?_
    refine calli2 K w (c_X2_refuse dn) (lk_X2_45 K ⟨Nat.le_trans (Nat.le_of_ble_eq_true rfl) hR.1, Nat.le_trans (Nat.le_of_ble_eq_true rfl) hR.2⟩) (recvM K w) rfl hl.1 rfl (Nat.le_of_ble_eq_true rfl) dX2_told_24 hf (fun H locs w => ?_)
    exact ret w rfl dX2_told_27

set_option maxHeartbeats 4000000 in
set_option maxRecDepth 100000 in
theorem c_X2_told_0 {l : Launch} {E : En} {M : Mt} {z t f : Nat} (dn : dM E) {q : Nat} (hq : q < z) (hz : z ≤ 2000) : MI2 l yX2_told (.code yX2_told cX2_told 3 (some .int)) 1 23 E [.ref (ad E 0), .int (nI q), .int (nI 0)] M z t f (M 1 q) M z 0 f := by
  refine MI2.of dn (own := RX2) (by decide) rfl (Nat.le_of_ble_eq_true rfl) (fun p e s m args below meth c ls Q K w hl ret => ?_)
  have hx := K.1.1
  have hb := K.1.2.1
  have hR : 1 ≤ (rmA 1 23).frames ∧ 23 ≤ (rmA 1 23).locals := ⟨Nat.le_refl _, Nat.le_refl _⟩
  have hf : 0 ≤ (rmA 1 23).cells ∧ 0 ≤ (rmA 1 23).slots := ⟨Nat.le_refl _, Nat.le_refl _⟩
  have hl : lv_has ls 3 [(0, .ref (ad E 0)), (1, .int (nI q)), (2, .int (nI 0))] := hl
  refine lv_aload_n hx hb dX2_told_0 rfl (lv_at hl 0 rfl) ?_
  refine lv_iconst (v := nI 0) hx hb dX2_told_1 (by decide) ?_
  refine pf_X2_thrown K w rfl dX2_told_2 (fun H locs w => ?_)
  refine lv_aload_n hx hb dX2_told_5 rfl (lv_at hl 0 rfl) ?_
  refine lv_iload_n hx hb dX2_told_6 rfl (lv_at hl 1 rfl) ?_
  refine calli2 K w (c_X2_there dn) (lk_X2_57 K ⟨Nat.le_trans (Nat.le_of_ble_eq_true rfl) hR.1, Nat.le_trans (Nat.le_of_ble_eq_true rfl) hR.2⟩) (recvM K w) rfl hl.1 rfl (Nat.le_of_ble_eq_true rfl) dX2_told_7 hf (fun H locs w => ?_)
  refine lv_if_eq (tgt := 22) hx hb dX2_told_10 rfl (fun h9 => absurd h9 (dB_t (in_ok hq hz))) (fun _ => ?_)
  refine lv_iload_n hx hb dX2_told_13 rfl (lv_at hl 2 rfl) ?_
  refine lv_if_lt (tgt := 22) hx hb dX2_told_14 rfl (fun h9 => absurd h9 (nI_pos (by decide))) (fun _ => ?_)
  refine lv_iload_n hx hb dX2_told_17 rfl (lv_at hl 2 rfl) ?_
  refine lv_iconst (v := nI 4) hx hb dX2_told_18 (by decide) ?_
  refine lv_icmp_le (tgt := 28) hx hb dX2_told_19 rfl (fun _ => ?_) (fun h9 => absurd (nI_le (by decide) (by decide)) h9)
  refine lv_iload_n hx hb dX2_told_28 rfl (lv_at hl 2 rfl) ?_
  refine lv_tableIn (off := 31) (tgt := 60) hx hb dX2_told_29 (by decide) (by decide) (by decide) rfl ?_
  refine lv_aload_n hx hb dX2_told_60 rfl (lv_at hl 0 rfl) ?_
  refine gf_X2_time K w dX2_told_61 ?_
  refine lv_iload_n hx hb dX2_told_64 rfl (lv_at hl 1 rfl) ?_
  refine ldI2 K w rwI1 (by omega) dX2_told_65 ?_
  exact ret w rfl dX2_told_66

set_option maxHeartbeats 4000000 in
set_option maxRecDepth 100000 in
theorem c_X2_told_1 {l : Launch} {E : En} {M : Mt} {z t f : Nat} (dn : dM E) {q : Nat} (hq : q < z) (hz : z ≤ 2000) : MI2 l yX2_told (.code yX2_told cX2_told 3 (some .int)) 1 23 E [.ref (ad E 0), .int (nI q), .int (nI 1)] M z t f (M 2 q) M z 0 f := by
  refine MI2.of dn (own := RX2) (by decide) rfl (Nat.le_of_ble_eq_true rfl) (fun p e s m args below meth c ls Q K w hl ret => ?_)
  have hx := K.1.1
  have hb := K.1.2.1
  have hR : 1 ≤ (rmA 1 23).frames ∧ 23 ≤ (rmA 1 23).locals := ⟨Nat.le_refl _, Nat.le_refl _⟩
  have hf : 0 ≤ (rmA 1 23).cells ∧ 0 ≤ (rmA 1 23).slots := ⟨Nat.le_refl _, Nat.le_refl _⟩
  have hl : lv_has ls 3 [(0, .ref (ad E 0)), (1, .int (nI q)), (2, .int (nI 1))] := hl
  refine lv_aload_n hx hb dX2_told_0 rfl (lv_at hl 0 rfl) ?_
  refine lv_iconst (v := nI 0) hx hb dX2_told_1 (by decide) ?_
  refine pf_X2_thrown K w rfl dX2_told_2 (fun H locs w => ?_)
  refine lv_aload_n hx hb dX2_told_5 rfl (lv_at hl 0 rfl) ?_
  refine lv_iload_n hx hb dX2_told_6 rfl (lv_at hl 1 rfl) ?_
  refine calli2 K w (c_X2_there dn) (lk_X2_57 K ⟨Nat.le_trans (Nat.le_of_ble_eq_true rfl) hR.1, Nat.le_trans (Nat.le_of_ble_eq_true rfl) hR.2⟩) (recvM K w) rfl hl.1 rfl (Nat.le_of_ble_eq_true rfl) dX2_told_7 hf (fun H locs w => ?_)
  refine lv_if_eq (tgt := 22) hx hb dX2_told_10 rfl (fun h9 => absurd h9 (dB_t (in_ok hq hz))) (fun _ => ?_)
  refine lv_iload_n hx hb dX2_told_13 rfl (lv_at hl 2 rfl) ?_
  refine lv_if_lt (tgt := 22) hx hb dX2_told_14 rfl (fun h9 => absurd h9 (nI_pos (by decide))) (fun _ => ?_)
  refine lv_iload_n hx hb dX2_told_17 rfl (lv_at hl 2 rfl) ?_
  refine lv_iconst (v := nI 4) hx hb dX2_told_18 (by decide) ?_
  refine lv_icmp_le (tgt := 28) hx hb dX2_told_19 rfl (fun _ => ?_) (fun h9 => absurd (nI_le (by decide) (by decide)) h9)
  refine lv_iload_n hx hb dX2_told_28 rfl (lv_at hl 2 rfl) ?_
  refine lv_tableIn (off := 38) (tgt := 67) hx hb dX2_told_29 (by decide) (by decide) (by decide) rfl ?_
  refine lv_aload_n hx hb dX2_told_67 rfl (lv_at hl 0 rfl) ?_
  refine gf_X2_key K w dX2_told_68 ?_
  refine lv_iload_n hx hb dX2_told_71 rfl (lv_at hl 1 rfl) ?_
  refine ldI2 K w rwI2 (by omega) dX2_told_72 ?_
  exact ret w rfl dX2_told_73

set_option maxHeartbeats 4000000 in
set_option maxRecDepth 100000 in
theorem c_X2_told_2 {l : Launch} {E : En} {M : Mt} {z t f : Nat} (dn : dM E) {q : Nat} (hq : q < z) (hz : z ≤ 2000) : MI2 l yX2_told (.code yX2_told cX2_told 3 (some .int)) 1 23 E [.ref (ad E 0), .int (nI q), .int (nI 2)] M z t f (M 4 q) M z 0 f := by
  refine MI2.of dn (own := RX2) (by decide) rfl (Nat.le_of_ble_eq_true rfl) (fun p e s m args below meth c ls Q K w hl ret => ?_)
  have hx := K.1.1
  have hb := K.1.2.1
  have hR : 1 ≤ (rmA 1 23).frames ∧ 23 ≤ (rmA 1 23).locals := ⟨Nat.le_refl _, Nat.le_refl _⟩
  have hf : 0 ≤ (rmA 1 23).cells ∧ 0 ≤ (rmA 1 23).slots := ⟨Nat.le_refl _, Nat.le_refl _⟩
  have hl : lv_has ls 3 [(0, .ref (ad E 0)), (1, .int (nI q)), (2, .int (nI 2))] := hl
  refine lv_aload_n hx hb dX2_told_0 rfl (lv_at hl 0 rfl) ?_
  refine lv_iconst (v := nI 0) hx hb dX2_told_1 (by decide) ?_
  refine pf_X2_thrown K w rfl dX2_told_2 (fun H locs w => ?_)
  refine lv_aload_n hx hb dX2_told_5 rfl (lv_at hl 0 rfl) ?_
  refine lv_iload_n hx hb dX2_told_6 rfl (lv_at hl 1 rfl) ?_
  refine calli2 K w (c_X2_there dn) (lk_X2_57 K ⟨Nat.le_trans (Nat.le_of_ble_eq_true rfl) hR.1, Nat.le_trans (Nat.le_of_ble_eq_true rfl) hR.2⟩) (recvM K w) rfl hl.1 rfl (Nat.le_of_ble_eq_true rfl) dX2_told_7 hf (fun H locs w => ?_)
  refine lv_if_eq (tgt := 22) hx hb dX2_told_10 rfl (fun h9 => absurd h9 (dB_t (in_ok hq hz))) (fun _ => ?_)
  refine lv_iload_n hx hb dX2_told_13 rfl (lv_at hl 2 rfl) ?_
  refine lv_if_lt (tgt := 22) hx hb dX2_told_14 rfl (fun h9 => absurd h9 (nI_pos (by decide))) (fun _ => ?_)
  refine lv_iload_n hx hb dX2_told_17 rfl (lv_at hl 2 rfl) ?_
  refine lv_iconst (v := nI 4) hx hb dX2_told_18 (by decide) ?_
  refine lv_icmp_le (tgt := 28) hx hb dX2_told_19 rfl (fun _ => ?_) (fun h9 => absurd (nI_le (by decide) (by decide)) h9)
  refine lv_iload_n hx hb dX2_told_28 rfl (lv_at hl 2 rfl) ?_
  refine lv_tableIn (off := 45) (tgt := 74) hx hb dX2_told_29 (by decide) (by decide) (by decide) rfl ?_
  refine lv_aload_n hx hb dX2_told_74 rfl (lv_at hl 0 rfl) ?_
  refine gf_X2_many K w dX2_told_75 ?_
  refine lv_iload_n hx hb dX2_told_78 rfl (lv_at hl 1 rfl) ?_
  refine ldI2 K w rwI4 (by omega) dX2_told_79 ?_
  exact ret w rfl dX2_told_80

set_option maxHeartbeats 4000000 in
set_option maxRecDepth 100000 in
theorem c_X2_told_3 {l : Launch} {E : En} {M : Mt} {z t f : Nat} (dn : dM E) {q : Nat} (hq : q < z) (ok : okN M z) : MI2 l yX2_told (.code yX2_told cX2_told 3 (some .int)) 1 23 E [.ref (ad E 0), .int (nI q), .int (nI 3)] M z t f (gnF (q + 1) 0 M 3 q) (gnF (q + 1) 0 M) z 0 f := by
  refine MI2.of dn (own := RX2) (by decide) rfl (Nat.le_of_ble_eq_true rfl) (fun p e s m args below meth c ls Q K w hl ret => ?_)
  have hx := K.1.1
  have hb := K.1.2.1
  have hR : 1 ≤ (rmA 1 23).frames ∧ 23 ≤ (rmA 1 23).locals := ⟨Nat.le_refl _, Nat.le_refl _⟩
  have hf : 0 ≤ (rmA 1 23).cells ∧ 0 ≤ (rmA 1 23).slots := ⟨Nat.le_refl _, Nat.le_refl _⟩
  have hl : lv_has ls 3 [(0, .ref (ad E 0)), (1, .int (nI q)), (2, .int (nI 3))] := hl
  have hz := ok.1
  refine lv_aload_n hx hb dX2_told_0 rfl (lv_at hl 0 rfl) ?_
  refine lv_iconst (v := nI 0) hx hb dX2_told_1 (by decide) ?_
  refine pf_X2_thrown K w rfl dX2_told_2 (fun H locs w => ?_)
  refine lv_aload_n hx hb dX2_told_5 rfl (lv_at hl 0 rfl) ?_
  refine lv_iload_n hx hb dX2_told_6 rfl (lv_at hl 1 rfl) ?_
  refine calli2 K w (c_X2_there dn) (lk_X2_57 K ⟨Nat.le_trans (Nat.le_of_ble_eq_true rfl) hR.1, Nat.le_trans (Nat.le_of_ble_eq_true rfl) hR.2⟩) (recvM K w) rfl hl.1 rfl (Nat.le_of_ble_eq_true rfl) dX2_told_7 hf (fun H locs w => ?_)
  refine lv_if_eq (tgt := 22) hx hb dX2_told_10 rfl (fun h9 => absurd h9 (dB_t (in_ok hq hz))) (fun _ => ?_)
  refine lv_iload_n hx hb dX2_told_13 rfl (lv_at hl 2 rfl) ?_
  refine lv_if_lt (tgt := 22) hx hb dX2_told_14 rfl (fun h9 => absurd h9 (nI_pos (by decide))) (fun _ => ?_)
  refine lv_iload_n hx hb dX2_told_17 rfl (lv_at hl 2 rfl) ?_
  refine lv_iconst (v := nI 4) hx hb dX2_told_18 (by decide) ?_
  refine lv_icmp_le (tgt := 28) hx hb dX2_told_19 rfl (fun _ => ?_) (fun h9 => absurd (nI_le (by decide) (by decide)) h9)
  refine lv_iload_n hx hb dX2_told_28 rfl (lv_at hl 2 rfl) ?_
  refine lv_tableIn (off := 52) (tgt := 81) hx hb dX2_told_29 (by decide) (by decide) (by decide) rfl ?_
  refine lv_aload_n hx hb dX2_told_81 rfl (lv_at hl 0 rfl) ?_
  refine lv_iload_n hx hb dX2_told_82 rfl (lv_at hl 1 rfl) ?_
  refine calli2 K w (c_X2_generation dn hq ok) (lk_X2_90 K ⟨Nat.le_trans (Nat.le_of_ble_eq_true rfl) hR.1, Nat.le_trans (Nat.le_of_ble_eq_true rfl) hR.2⟩) (recvM K w) rfl hl.1 rfl (Nat.le_of_ble_eq_true rfl) dX2_told_83 hf (fun H locs w => ?_)
  exact ret w rfl dX2_told_86

set_option maxHeartbeats 4000000 in
set_option maxRecDepth 100000 in
theorem c_X2_told_4 {l : Launch} {E : En} {M : Mt} {z t f : Nat} (dn : dM E) {q : Nat} (hq : q < z) (hz : z ≤ 2000) : MI2 l yX2_told (.code yX2_told cX2_told 3 (some .int)) 1 23 E [.ref (ad E 0), .int (nI q), .int (nI 4)] M z t f ((if M 6 q = 0 then nI 0 else nI 1) + (if M 6 (2000 + q) = 0 then nI 0 else nI 1)) M z 0 f := by
  refine MI2.of dn (own := RX2) (by decide) rfl (Nat.le_of_ble_eq_true rfl) (fun p e s m args below meth c ls Q K w hl ret => ?_)
  have hx := K.1.1
  have hb := K.1.2.1
  have hR : 1 ≤ (rmA 1 23).frames ∧ 23 ≤ (rmA 1 23).locals := ⟨Nat.le_refl _, Nat.le_refl _⟩
  have hf : 0 ≤ (rmA 1 23).cells ∧ 0 ≤ (rmA 1 23).slots := ⟨Nat.le_refl _, Nat.le_refl _⟩
  have hl : lv_has ls 3 [(0, .ref (ad E 0)), (1, .int (nI q)), (2, .int (nI 4))] := hl
  refine lv_aload_n hx hb dX2_told_0 rfl (lv_at hl 0 rfl) ?_
  refine lv_iconst (v := nI 0) hx hb dX2_told_1 (by decide) ?_
  refine pf_X2_thrown K w rfl dX2_told_2 (fun H locs w => ?_)
  refine lv_aload_n hx hb dX2_told_5 rfl (lv_at hl 0 rfl) ?_
  refine lv_iload_n hx hb dX2_told_6 rfl (lv_at hl 1 rfl) ?_
  refine calli2 K w (c_X2_there dn) (lk_X2_57 K ⟨Nat.le_trans (Nat.le_of_ble_eq_true rfl) hR.1, Nat.le_trans (Nat.le_of_ble_eq_true rfl) hR.2⟩) (recvM K w) rfl hl.1 rfl (Nat.le_of_ble_eq_true rfl) dX2_told_7 hf (fun H locs w => ?_)
  refine lv_if_eq (tgt := 22) hx hb dX2_told_10 rfl (fun h9 => absurd h9 (dB_t (in_ok hq hz))) (fun _ => ?_)
  refine lv_iload_n hx hb dX2_told_13 rfl (lv_at hl 2 rfl) ?_
  refine lv_if_lt (tgt := 22) hx hb dX2_told_14 rfl (fun h9 => absurd h9 (nI_pos (by decide))) (fun _ => ?_)
  refine lv_iload_n hx hb dX2_told_17 rfl (lv_at hl 2 rfl) ?_
  refine lv_iconst (v := nI 4) hx hb dX2_told_18 (by decide) ?_
  refine lv_icmp_le (tgt := 28) hx hb dX2_told_19 rfl (fun _ => ?_) (fun h9 => absurd (nI_le (by decide) (by decide)) h9)
  refine lv_iload_n hx hb dX2_told_28 rfl (lv_at hl 2 rfl) ?_
  refine lv_tableOut (tgt := 87) hx hb dX2_told_29 (by decide) rfl ?_
  refine lv_aload_n hx hb dX2_told_87 rfl (lv_at hl 0 rfl) ?_
  refine gf_X2_tips K w dX2_told_88 ?_
  refine lv_iload_n hx hb dX2_told_91 rfl (lv_at hl 1 rfl) ?_
  refine ldB2 K w rwB6 (by omega) dX2_told_92 ?_
  refine lv_if_eq (tgt := 100) hx hb dX2_told_93 rfl (fun h93 => ?_) (fun h93 => ?_)
  · refine lv_iconst (v := nI 0) hx hb dX2_told_100 (by decide) ?_
    refine lv_aload_n hx hb dX2_told_101 rfl (lv_at hl 0 rfl) ?_
    refine gf_X2_tips K w dX2_told_102 ?_
    refine lv_sipush (v := nI 2000) hx hb dX2_told_105 (by decide) ?_
    refine lv_iload_n hx hb dX2_told_108 rfl (lv_at hl 1 rfl) ?_
    refine lv_iadd hx hb dX2_told_109 ?_
    refine topE (y := nI (2000 + q)) (nI_add _ _) ?_
    refine ldB2 K w rwB6 (by omega) dX2_told_110 ?_
    refine lv_if_eq (tgt := 118) hx hb dX2_told_111 rfl (fun h111 => ?_) (fun h111 => ?_)
    · refine lv_iconst (v := nI 0) hx hb dX2_told_118 (by decide) ?_
      refine lv_iadd hx hb dX2_told_119 ?_
      exact ret w (by first | rw [if_pos h93, if_pos h111] | rw [if_pos h93, if_neg h111] | rw [if_neg h93, if_pos h111] | rw [if_neg h93, if_neg h111]) dX2_told_120
    · refine lv_iconst (v := nI 1) hx hb dX2_told_114 (by decide) ?_
      refine lv_goto (tgt := 119) hx hb dX2_told_115 rfl ?_
      refine lv_iadd hx hb dX2_told_119 ?_
      exact ret w (by first | rw [if_pos h93, if_pos h111] | rw [if_pos h93, if_neg h111] | rw [if_neg h93, if_pos h111] | rw [if_neg h93, if_neg h111]) dX2_told_120
  · refine lv_iconst (v := nI 1) hx hb dX2_told_96 (by decide) ?_
    refine lv_goto (tgt := 101) hx hb dX2_told_97 rfl ?_
    refine lv_aload_n hx hb dX2_told_101 rfl (lv_at hl 0 rfl) ?_
    refine gf_X2_tips K w dX2_told_102 ?_
    refine lv_sipush (v := nI 2000) hx hb dX2_told_105 (by decide) ?_
    refine lv_iload_n hx hb dX2_told_108 rfl (lv_at hl 1 rfl) ?_
    refine lv_iadd hx hb dX2_told_109 ?_
    refine topE (y := nI (2000 + q)) (nI_add _ _) ?_
    refine ldB2 K w rwB6 (by omega) dX2_told_110 ?_
    refine lv_if_eq (tgt := 118) hx hb dX2_told_111 rfl (fun h111 => ?_) (fun h111 => ?_)
    · refine lv_iconst (v := nI 0) hx hb dX2_told_118 (by decide) ?_
      refine lv_iadd hx hb dX2_told_119 ?_
      exact ret w (by first | rw [if_pos h93, if_pos h111] | rw [if_pos h93, if_neg h111] | rw [if_neg h93, if_pos h111] | rw [if_neg h93, if_neg h111]) dX2_told_120
    · refine lv_iconst (v := nI 1) hx hb dX2_told_114 (by decide) ?_
      refine lv_goto (tgt := 119) hx hb dX2_told_115 rfl ?_
      refine lv_iadd hx hb dX2_told_119 ?_
      exact ret w (by first | rw [if_pos h93, if_pos h111] | rw [if_pos h93, if_neg h111] | rw [if_neg h93, if_pos h111] | rw [if_neg h93, if_neg h111]) dX2_told_120
