theorem lg_self {x y : Int64} (h : x = y) : lg_cmp x y = 0 := by
  subst h
  unfold lg_cmp
  simp
/-- class and reference give one answer, or refuse alike -/
def AgI (l : Launch) (E : En) (a2 : Nat → Nat) (qo : Nat) (cJ : ClassId) (Inv : Mt → Nat → Nat → Mt → Nat → Prop) (yL : MethodName) (wL1 : Cond) (As : List Value) (yR : MethodName) (wR1 : Cond) (Rs : List Value) (P : Nat → Int32 → (Nat → Int64) → Prop) (M : Mt) (n k : Nat) (g : Nat → Int64) (N : Mt) (t f : Nat) : Prop :=
  ∃ (kc : Nat) (rr : Int32) (M' : Mt) (n' k' : Nat) (g' : Nat → Int64) (N' : Mt) (f' fr lo : Nat), kc < 3 ∧ MW l yL wL1 E qo cJ As M n k g (nI kc) M' n' k' g' ∧ MI2 l yR wR1 fr lo (e2 E a2) (.ref (a2 0) :: Rs) N n t f rr N' n' kc f' ∧ P kc rr g' ∧ Inv M' n' k' N' f' ∧ n' ≤ n + 1 ∧ fr ≤ 11 ∧ lo ≤ 400
def PI (kc : Nat) (rr : Int32) (g' : Nat → Int64) : Prop := kc = 0 → g' 0 = rr.toInt64
def PZ (kc : Nat) (rr : Int32) (g' : Nat → Int64) : Prop := kc = 0 → (rr = nI 0 ∧ g' 0 = lN 0) ∨ (rr = nI 1 ∧ g' 0 = lN 1)
def AgV (l : Launch) (E : En) (a2 : Nat → Nat) (qo : Nat) (cJ : ClassId) (Inv : Mt → Nat → Nat → Mt → Nat → Prop) (yL : MethodName) (wL1 : Cond) (As : List Value) (yR : MethodName) (wR1 : Cond) (Rs : List Value) (M : Mt) (n k : Nat) (g : Nat → Int64) (N : Mt) (t f : Nat) : Prop :=
  ∃ (kc : Nat) (M' : Mt) (n' k' : Nat) (g' : Nat → Int64) (N' : Mt) (f' fr lo : Nat), kc < 3 ∧ MW l yL wL1 E qo cJ As M n k g (nI kc) M' n' k' g' ∧ MV2 l yR wR1 fr lo (e2 E a2) (.ref (a2 0) :: Rs) N n t f N' n' kc f' ∧ Inv M' n' k' N' f' ∧ n' ≤ n + 1 ∧ fr ≤ 11 ∧ lo ≤ 400
def AgC (l : Launch) (E : En) (a2 : Nat → Nat) (Inv : Mt → Nat → Nat → Mt → Nat → Prop) (x : Int32) (M : Mt) (n k : Nat) (N : Mt) (t f : Nat) : Prop :=
  ∃ (rr : Int32) (M' : Mt) (n' k' : Nat) (N' : Mt) (t' f' fr lo fr2 lo2 : Nat), MI l yX1_count (.code yX1_count cX1_count 2 (some .int)) fr lo E [.ref (ad E 0), .int x] M n k rr M' n' k' ∧ MI2 l yX2_count (.code yX2_count cX2_count 7 (some .int)) fr2 lo2 (e2 E a2) [.ref (a2 0), .int x] N n t f rr N' n' t' f' ∧ Inv M' n' k' N' f' ∧ n' ≤ n + 1 ∧ fr ≤ 11 ∧ lo ≤ 400 ∧ fr2 ≤ 11 ∧ lo2 ≤ 400

section LP
variable {p : Program} {l : Launch} {e : Env} {s : State} {m : MethodId} {below : List Frame} {meth : Method} {c : Code} {H : Heap} {locs : List Loc} {cells slots : Nat} {Q : State → Prop} {ls : Array Slot} {E : En} {a2 : Nat → Nat} {qo b L : Nat} {cJ : ClassId} {xs : Nat → Int32} {M N : Mt} {n k t f : Nat} {g : Nat → Int64}
theorem ldS {N : Mt} {z t f pc : Nat} {rest : List Value} (K : cM E a2 qo cJ p l m c s b) (w : lS E a2 qo cJ s M n k g N z t f H locs) (hX : va_X b L xs s s.heap) (hbl : b < s.heap.size) {j : Nat} (hj : j < L) (hL : L ≤ 3072) (hd : decode code pc = .ok (.iaload, 1)) (kk : W p l e room_1 s m #[Value.ref b] below meth c H locs cells slots Q (F0 m (pc + 1) ls (.int (xs j) :: rest))) : W p l e room_1 s m #[Value.ref b] below meth c H locs cells slots Q (F0 m pc ls (.int (nI j) :: .ref b :: rest)) := by
  refine va_sld K.1.1 K.1.2.1 hX hbl (A := aS s) (fun h => Nat.lt_irrefl _ (Nat.lt_of_lt_of_le hbl h)) w.2.2.2 (vp_in_nI hj (by omega)) hd ?_
  rw [nI_clamp (by omega)]
  exact kk
set_option maxHeartbeats 4000000 in
set_option maxRecDepth 100000 in
theorem cs_add (K : cM E a2 qo cJ p l m c s b) (hX : va_X b L xs s s.heap) (hbl : b < s.heap.size) (hL : L ≤ 3072) {i : Nat} (hi : 6 * i + 6 ≤ L) (hcs : cells + 1 ≤ 601024 ∧ slots + 6 ≤ 7293034) {Inv : Mt → Nat → Nat → Mt → Nat → Prop} (hA : AgI l E a2 qo cJ Inv yL_add (.codeWith yL_add cL_add 8 (some .int) [(0, 16, 19, 13), (0, 16, 23, 15)]) [.ref (ad E 0), .int (xs (6 * i + 1)), .int (xs (6 * i + 2)), .int (xs (6 * i + 3)), .int (xs (6 * i + 4)), .int (xs (6 * i + 5)), .ref qo] yX2_add (.code yX2_add cX2_add 6 (some .int)) [.int (xs (6 * i + 1)), .int (xs (6 * i + 2)), .int (xs (6 * i + 3)), .int (xs (6 * i + 4)), .int (xs (6 * i + 5))] PI M n k g N t f) (kk : ∀ (M : Mt) (n' k : Nat) (g : Nat → Int64) (N : Mt) (t f : Nat) (H : Heap) (locs : List Loc) (ls : Array Slot), Inv M n' k N f → n' ≤ n + 1 → lS E a2 qo cJ s M n' k g N n' t f H locs → lv_has ls 7 [(4, .int (nI (6 * i))), (3, .ref qo), (2, .ref (a2 0)), (1, .ref (ad E 0)), (0, .ref b)] → W p l e room_1 s m #[Value.ref b] below meth c H locs (cells + 1) (slots + 6) Q (F0 m 796 ls [])) (w : lS E a2 qo cJ s M n k g N n t f H locs) (hl : lv_has ls 7 [(4, .int (nI (6 * i))), (3, .ref qo), (2, .ref (a2 0)), (1, .ref (ad E 0)), (0, .ref b)]) : W p l e room_1 s m #[Value.ref b] below meth c H locs cells slots Q (F0 m 96 ls []) := by
  have hx := K.1.1
  have hb := K.1.2.1
  obtain ⟨kc, rr, M', n', k', g', N', f', fr, lo, hkc, hW, hR, hP, hI, hn, hfr, hlo⟩ := hA
  refine lv_aload_n hx hb dL_law_96 rfl (lv_at hl 3 rfl) ?_
  refine lv_aload_n hx hb dL_law_97 rfl (lv_at hl 4 rfl) ?_
  refine lv_iload hx hb dL_law_98 (lv_at hl 0 rfl) ?_
  refine lv_iconst (v := nI 1) hx hb dL_law_100 (by decide) ?_
  refine lv_iadd hx hb dL_law_101 ?_
  refine topE (y := nI (6 * i + 1)) (nI_add _ _) ?_
  refine ldS K w hX hbl (by omega) hL dL_law_102 ?_
  refine lv_aload_n hx hb dL_law_103 rfl (lv_at hl 4 rfl) ?_
  refine lv_iload hx hb dL_law_104 (lv_at hl 0 rfl) ?_
  refine lv_iconst (v := nI 2) hx hb dL_law_106 (by decide) ?_
  refine lv_iadd hx hb dL_law_107 ?_
  refine topE (y := nI (6 * i + 2)) (nI_add _ _) ?_
  refine ldS K w hX hbl (by omega) hL dL_law_108 ?_
  refine lv_aload_n hx hb dL_law_109 rfl (lv_at hl 4 rfl) ?_
  refine lv_iload hx hb dL_law_110 (lv_at hl 0 rfl) ?_
  refine lv_iconst (v := nI 3) hx hb dL_law_112 (by decide) ?_
  refine lv_iadd hx hb dL_law_113 ?_
  refine topE (y := nI (6 * i + 3)) (nI_add _ _) ?_
  refine ldS K w hX hbl (by omega) hL dL_law_114 ?_
  refine lv_aload_n hx hb dL_law_115 rfl (lv_at hl 4 rfl) ?_
  refine lv_iload hx hb dL_law_116 (lv_at hl 0 rfl) ?_
  refine lv_iconst (v := nI 4) hx hb dL_law_118 (by decide) ?_
  refine lv_iadd hx hb dL_law_119 ?_
  refine topE (y := nI (6 * i + 4)) (nI_add _ _) ?_
  refine ldS K w hX hbl (by omega) hL dL_law_120 ?_
  refine lv_aload_n hx hb dL_law_121 rfl (lv_at hl 4 rfl) ?_
  refine lv_iload hx hb dL_law_122 (lv_at hl 0 rfl) ?_
  refine lv_iconst (v := nI 5) hx hb dL_law_124 (by decide) ?_
  refine lv_iadd hx hb dL_law_125 ?_
  refine topE (y := nI (6 * i + 5)) (nI_add _ _) ?_
  refine ldS K w hX hbl (by omega) hL dL_law_126 ?_
  refine lv_aload_n hx hb dL_law_127 rfl (lv_at hl 1 rfl) ?_
  refine lcallW K w hW (ll_L_add K) rfl hl.1 rfl (Nat.le_of_ble_eq_true rfl) dL_law_128 hcs (fun H locs w => ?_)
  refine lv_istore (lv' := [(5, .int _), (4, .int _), (3, .ref _), (2, .ref _), (1, .ref _), (0, .ref _)]) hx hb dL_law_131 hl (by decide) rfl (fun ls hl => ?_)
  refine lv_aload_n hx hb dL_law_133 rfl (lv_at hl 3 rfl) ?_
  refine lv_aload_n hx hb dL_law_134 rfl (lv_at hl 5 rfl) ?_
  refine lv_iload hx hb dL_law_135 (lv_at hl 1 rfl) ?_
  refine lv_iconst (v := nI 1) hx hb dL_law_137 (by decide) ?_
  refine lv_iadd hx hb dL_law_138 ?_
  refine topE (y := nI (6 * i + 1)) (nI_add _ _) ?_
  refine ldS K w hX hbl (by omega) hL dL_law_139 ?_
  refine lv_aload_n hx hb dL_law_140 rfl (lv_at hl 5 rfl) ?_
  refine lv_iload hx hb dL_law_141 (lv_at hl 1 rfl) ?_
  refine lv_iconst (v := nI 2) hx hb dL_law_143 (by decide) ?_
  refine lv_iadd hx hb dL_law_144 ?_
  refine topE (y := nI (6 * i + 2)) (nI_add _ _) ?_
  refine ldS K w hX hbl (by omega) hL dL_law_145 ?_
  refine lv_aload_n hx hb dL_law_146 rfl (lv_at hl 5 rfl) ?_
  refine lv_iload hx hb dL_law_147 (lv_at hl 1 rfl) ?_
  refine lv_iconst (v := nI 3) hx hb dL_law_149 (by decide) ?_
  refine lv_iadd hx hb dL_law_150 ?_
  refine topE (y := nI (6 * i + 3)) (nI_add _ _) ?_
  refine ldS K w hX hbl (by omega) hL dL_law_151 ?_
  refine lv_aload_n hx hb dL_law_152 rfl (lv_at hl 5 rfl) ?_
  refine lv_iload hx hb dL_law_153 (lv_at hl 1 rfl) ?_
  refine lv_iconst (v := nI 4) hx hb dL_law_155 (by decide) ?_
  refine lv_iadd hx hb dL_law_156 ?_
  refine topE (y := nI (6 * i + 4)) (nI_add _ _) ?_
  refine ldS K w hX hbl (by omega) hL dL_law_157 ?_
  refine lv_aload_n hx hb dL_law_158 rfl (lv_at hl 5 rfl) ?_
  refine lv_iload hx hb dL_law_159 (lv_at hl 1 rfl) ?_
  refine lv_iconst (v := nI 5) hx hb dL_law_161 (by decide) ?_
  refine lv_iadd hx hb dL_law_162 ?_
  refine topE (y := nI (6 * i + 5)) (nI_add _ _) ?_
  refine ldS K w hX hbl (by omega) hL dL_law_163 ?_
  refine lcallR K w hR (ll_X2_add K ⟨by show fr + 1 ≤ 12; omega, by show 8 + (6 + 11) + lo ≤ 440; omega⟩) rfl hl.1 rfl (Nat.le_of_ble_eq_true rfl) dL_law_164 ⟨by show cells + 1 ≤ 601024; omega, by show slots + 6 ≤ 7293034; omega⟩ (fun H locs w => ?_)
  refine lv_istore (lv' := [(6, .int _), (5, .int _), (4, .int _), (3, .ref _), (2, .ref _), (1, .ref _), (0, .ref _)]) hx hb dL_law_167 hl (by decide) rfl (fun ls hl => ?_)
  refine lv_aload_n hx hb dL_law_169 rfl (lv_at hl 4 rfl) ?_
  refine lcallR K w (c_X2_thrown K.2.2.1.2.2.1) (ll_X2_thrown K ⟨(Nat.le_of_ble_eq_true rfl), (Nat.le_of_ble_eq_true rfl)⟩) rfl hl.1 rfl (Nat.le_of_ble_eq_true rfl) dL_law_170 ⟨by show cells + 1 ≤ 601024; omega, by show slots + 6 ≤ 7293034; omega⟩ (fun H locs w => ?_)
  refine lv_iload hx hb dL_law_173 (lv_at hl 1 rfl) ?_
  refine lv_icmp_eq (tgt := 180) hx hb dL_law_175 rfl (fun _ => ?_) (fun h9 => absurd (rfl : nI kc = nI kc) h9)
  by_cases h0 : kc = 0
  · refine lv_iload hx hb dL_law_180 (lv_at hl 1 rfl) ?_
    refine lv_if_ne (tgt := 197) hx hb dL_law_182 rfl (fun h9 => absurd (by rw [h0]; rfl) h9) (fun _ => ?_)
    refine lv_aload_n hx hb dL_law_185 rfl (lv_at hl 3 rfl) ?_
    refine lv_iconst (v := nI 0) hx hb dL_law_186 (by decide) ?_
    refine ldO K w dL_law_187 ?_
    refine lv_iload hx hb dL_law_188 (lv_at hl 0 rfl) ?_
    refine lv_i2l hx hb dL_law_190 rfl ?_
    refine W.lcmp hx hb dL_law_191 ?_
    refine lv_if_eq (tgt := 197) hx hb dL_law_192 rfl (fun _ => ?_) (fun h9 => absurd (lg_self (hP h0)) h9)
    refine lv_goto (tgt := 796) hx hb dL_law_197 rfl ?_
    exact kk _ _ _ _ _ _ _ _ _ _ hI hn w (lv_sub hl [2, 3, 4, 5, 6] rfl)
  · refine lv_iload hx hb dL_law_180 (lv_at hl 1 rfl) ?_
    refine lv_if_ne (tgt := 197) hx hb dL_law_182 rfl (fun _ => ?_) (fun h9 => absurd h9 (nI_ne0 (by omega) (by omega)))
    refine lv_goto (tgt := 796) hx hb dL_law_197 rfl ?_
    exact kk _ _ _ _ _ _ _ _ _ _ hI hn w (lv_sub hl [2, 3, 4, 5, 6] rfl)

set_option maxHeartbeats 4000000 in
set_option maxRecDepth 100000 in
theorem cs_under (K : cM E a2 qo cJ p l m c s b) (hX : va_X b L xs s s.heap) (hbl : b < s.heap.size) (hL : L ≤ 3072) {i : Nat} (hi : 6 * i + 6 ≤ L) (hcs : cells + 1 ≤ 601024 ∧ slots + 6 ≤ 7293034) {Inv : Mt → Nat → Nat → Mt → Nat → Prop} (hA : AgI l E a2 qo cJ Inv yL_under (.codeWith yL_under cL_under 5 (some .int) [(0, 10, 13, 13), (0, 10, 17, 15)]) [.ref (ad E 0), .int (xs (6 * i + 1)), .int (xs (6 * i + 2)), .ref qo] yX2_under (.code yX2_under cX2_under 3 (some .int)) [.int (xs (6 * i + 1)), .int (xs (6 * i + 2))] PI M n k g N t f) (kk : ∀ (M : Mt) (n' k : Nat) (g : Nat → Int64) (N : Mt) (t f : Nat) (H : Heap) (locs : List Loc) (ls : Array Slot), Inv M n' k N f → n' ≤ n + 1 → lS E a2 qo cJ s M n' k g N n' t f H locs → lv_has ls 7 [(4, .int (nI (6 * i))), (3, .ref qo), (2, .ref (a2 0)), (1, .ref (ad E 0)), (0, .ref b)] → W p l e room_1 s m #[Value.ref b] below meth c H locs (cells + 1) (slots + 6) Q (F0 m 796 ls [])) (w : lS E a2 qo cJ s M n k g N n t f H locs) (hl : lv_has ls 7 [(4, .int (nI (6 * i))), (3, .ref qo), (2, .ref (a2 0)), (1, .ref (ad E 0)), (0, .ref b)]) : W p l e room_1 s m #[Value.ref b] below meth c H locs cells slots Q (F0 m 200 ls []) := by
  have hx := K.1.1
  have hb := K.1.2.1
  obtain ⟨kc, rr, M', n', k', g', N', f', fr, lo, hkc, hW, hR, hP, hI, hn, hfr, hlo⟩ := hA
  refine lv_aload_n hx hb dL_law_200 rfl (lv_at hl 3 rfl) ?_
  refine lv_aload_n hx hb dL_law_201 rfl (lv_at hl 4 rfl) ?_
  refine lv_iload hx hb dL_law_202 (lv_at hl 0 rfl) ?_
  refine lv_iconst (v := nI 1) hx hb dL_law_204 (by decide) ?_
  refine lv_iadd hx hb dL_law_205 ?_
  refine topE (y := nI (6 * i + 1)) (nI_add _ _) ?_
  refine ldS K w hX hbl (by omega) hL dL_law_206 ?_
  refine lv_aload_n hx hb dL_law_207 rfl (lv_at hl 4 rfl) ?_
  refine lv_iload hx hb dL_law_208 (lv_at hl 0 rfl) ?_
  refine lv_iconst (v := nI 2) hx hb dL_law_210 (by decide) ?_
  refine lv_iadd hx hb dL_law_211 ?_
  refine topE (y := nI (6 * i + 2)) (nI_add _ _) ?_
  refine ldS K w hX hbl (by omega) hL dL_law_212 ?_
  refine lv_aload_n hx hb dL_law_213 rfl (lv_at hl 1 rfl) ?_
  refine lcallW K w hW (ll_L_under K) rfl hl.1 rfl (Nat.le_of_ble_eq_true rfl) dL_law_214 hcs (fun H locs w => ?_)
  refine lv_istore (lv' := [(5, .int _), (4, .int _), (3, .ref _), (2, .ref _), (1, .ref _), (0, .ref _)]) hx hb dL_law_217 hl (by decide) rfl (fun ls hl => ?_)
  refine lv_aload_n hx hb dL_law_219 rfl (lv_at hl 3 rfl) ?_
  refine lv_aload_n hx hb dL_law_220 rfl (lv_at hl 5 rfl) ?_
  refine lv_iload hx hb dL_law_221 (lv_at hl 1 rfl) ?_
  refine lv_iconst (v := nI 1) hx hb dL_law_223 (by decide) ?_
  refine lv_iadd hx hb dL_law_224 ?_
  refine topE (y := nI (6 * i + 1)) (nI_add _ _) ?_
  refine ldS K w hX hbl (by omega) hL dL_law_225 ?_
  refine lv_aload_n hx hb dL_law_226 rfl (lv_at hl 5 rfl) ?_
  refine lv_iload hx hb dL_law_227 (lv_at hl 1 rfl) ?_
  refine lv_iconst (v := nI 2) hx hb dL_law_229 (by decide) ?_
  refine lv_iadd hx hb dL_law_230 ?_
  refine topE (y := nI (6 * i + 2)) (nI_add _ _) ?_
  refine ldS K w hX hbl (by omega) hL dL_law_231 ?_
  refine lcallR K w hR (ll_X2_under K ⟨by show fr + 1 ≤ 12; omega, by show 8 + (3 + 11) + lo ≤ 440; omega⟩) rfl hl.1 rfl (Nat.le_of_ble_eq_true rfl) dL_law_232 ⟨by show cells + 1 ≤ 601024; omega, by show slots + 6 ≤ 7293034; omega⟩ (fun H locs w => ?_)
  refine lv_istore (lv' := [(6, .int _), (5, .int _), (4, .int _), (3, .ref _), (2, .ref _), (1, .ref _), (0, .ref _)]) hx hb dL_law_235 hl (by decide) rfl (fun ls hl => ?_)
  refine lv_aload_n hx hb dL_law_237 rfl (lv_at hl 4 rfl) ?_
  refine lcallR K w (c_X2_thrown K.2.2.1.2.2.1) (ll_X2_thrown K ⟨(Nat.le_of_ble_eq_true rfl), (Nat.le_of_ble_eq_true rfl)⟩) rfl hl.1 rfl (Nat.le_of_ble_eq_true rfl) dL_law_238 ⟨by show cells + 1 ≤ 601024; omega, by show slots + 6 ≤ 7293034; omega⟩ (fun H locs w => ?_)
  refine lv_iload hx hb dL_law_241 (lv_at hl 1 rfl) ?_
  refine lv_icmp_eq (tgt := 248) hx hb dL_law_243 rfl (fun _ => ?_) (fun h9 => absurd (rfl : nI kc = nI kc) h9)
  by_cases h0 : kc = 0
  · refine lv_iload hx hb dL_law_248 (lv_at hl 1 rfl) ?_
    refine lv_if_ne (tgt := 265) hx hb dL_law_250 rfl (fun h9 => absurd (by rw [h0]; rfl) h9) (fun _ => ?_)
    refine lv_aload_n hx hb dL_law_253 rfl (lv_at hl 3 rfl) ?_
    refine lv_iconst (v := nI 0) hx hb dL_law_254 (by decide) ?_
    refine ldO K w dL_law_255 ?_
    refine lv_iload hx hb dL_law_256 (lv_at hl 0 rfl) ?_
    refine lv_i2l hx hb dL_law_258 rfl ?_
    refine W.lcmp hx hb dL_law_259 ?_
    refine lv_if_eq (tgt := 265) hx hb dL_law_260 rfl (fun _ => ?_) (fun h9 => absurd (lg_self (hP h0)) h9)
    refine lv_goto (tgt := 796) hx hb dL_law_265 rfl ?_
    exact kk _ _ _ _ _ _ _ _ _ _ hI hn w (lv_sub hl [2, 3, 4, 5, 6] rfl)
  · refine lv_iload hx hb dL_law_248 (lv_at hl 1 rfl) ?_
    refine lv_if_ne (tgt := 265) hx hb dL_law_250 rfl (fun _ => ?_) (fun h9 => absurd h9 (nI_ne0 (by omega) (by omega)))
    refine lv_goto (tgt := 796) hx hb dL_law_265 rfl ?_
    exact kk _ _ _ _ _ _ _ _ _ _ hI hn w (lv_sub hl [2, 3, 4, 5, 6] rfl)

set_option maxHeartbeats 4000000 in
set_option maxRecDepth 100000 in
theorem cs_reaches (K : cM E a2 qo cJ p l m c s b) (hX : va_X b L xs s s.heap) (hbl : b < s.heap.size) (hL : L ≤ 3072) {i : Nat} (hi : 6 * i + 6 ≤ L) (hcs : cells + 1 ≤ 601024 ∧ slots + 6 ≤ 7293034) {Inv : Mt → Nat → Nat → Mt → Nat → Prop} (hA : AgI l E a2 qo cJ Inv yL_reaches (.codeWith yL_reaches cL_reaches 5 (some .int) [(0, 17, 20, 13)]) [.ref (ad E 0), .int (xs (6 * i + 1)), .int (xs (6 * i + 2)), .ref qo] yX2_reaches (.code yX2_reaches cX2_reaches 3 (some .boolean)) [.int (xs (6 * i + 1)), .int (xs (6 * i + 2))] PZ M n k g N t f) (kk : ∀ (M : Mt) (n' k : Nat) (g : Nat → Int64) (N : Mt) (t f : Nat) (H : Heap) (locs : List Loc) (ls : Array Slot), Inv M n' k N f → n' ≤ n + 1 → lS E a2 qo cJ s M n' k g N n' t f H locs → lv_has ls 7 [(4, .int (nI (6 * i))), (3, .ref qo), (2, .ref (a2 0)), (1, .ref (ad E 0)), (0, .ref b)] → W p l e room_1 s m #[Value.ref b] below meth c H locs (cells + 1) (slots + 6) Q (F0 m 796 ls [])) (w : lS E a2 qo cJ s M n k g N n t f H locs) (hl : lv_has ls 7 [(4, .int (nI (6 * i))), (3, .ref qo), (2, .ref (a2 0)), (1, .ref (ad E 0)), (0, .ref b)]) : W p l e room_1 s m #[Value.ref b] below meth c H locs cells slots Q (F0 m 344 ls []) := by
  have hx := K.1.1
  have hb := K.1.2.1
  obtain ⟨kc, rr, M', n', k', g', N', f', fr, lo, hkc, hW, hR, hP, hI, hn, hfr, hlo⟩ := hA
  refine lv_aload_n hx hb dL_law_344 rfl (lv_at hl 3 rfl) ?_
  refine lv_aload_n hx hb dL_law_345 rfl (lv_at hl 4 rfl) ?_
  refine lv_iload hx hb dL_law_346 (lv_at hl 0 rfl) ?_
  refine lv_iconst (v := nI 1) hx hb dL_law_348 (by decide) ?_
  refine lv_iadd hx hb dL_law_349 ?_
  refine topE (y := nI (6 * i + 1)) (nI_add _ _) ?_
  refine ldS K w hX hbl (by omega) hL dL_law_350 ?_
  refine lv_aload_n hx hb dL_law_351 rfl (lv_at hl 4 rfl) ?_
  refine lv_iload hx hb dL_law_352 (lv_at hl 0 rfl) ?_
  refine lv_iconst (v := nI 2) hx hb dL_law_354 (by decide) ?_
  refine lv_iadd hx hb dL_law_355 ?_
  refine topE (y := nI (6 * i + 2)) (nI_add _ _) ?_
  refine ldS K w hX hbl (by omega) hL dL_law_356 ?_
  refine lv_aload_n hx hb dL_law_357 rfl (lv_at hl 1 rfl) ?_
  refine lcallW K w hW (ll_L_reaches K) rfl hl.1 rfl (Nat.le_of_ble_eq_true rfl) dL_law_358 hcs (fun H locs w => ?_)
  refine lv_istore (lv' := [(5, .int _), (4, .int _), (3, .ref _), (2, .ref _), (1, .ref _), (0, .ref _)]) hx hb dL_law_361 hl (by decide) rfl (fun ls hl => ?_)
  refine lv_aload_n hx hb dL_law_363 rfl (lv_at hl 3 rfl) ?_
  refine lv_aload_n hx hb dL_law_364 rfl (lv_at hl 5 rfl) ?_
  refine lv_iload hx hb dL_law_365 (lv_at hl 1 rfl) ?_
  refine lv_iconst (v := nI 1) hx hb dL_law_367 (by decide) ?_
  refine lv_iadd hx hb dL_law_368 ?_
  refine topE (y := nI (6 * i + 1)) (nI_add _ _) ?_
  refine ldS K w hX hbl (by omega) hL dL_law_369 ?_
  refine lv_aload_n hx hb dL_law_370 rfl (lv_at hl 5 rfl) ?_
  refine lv_iload hx hb dL_law_371 (lv_at hl 1 rfl) ?_
  refine lv_iconst (v := nI 2) hx hb dL_law_373 (by decide) ?_
  refine lv_iadd hx hb dL_law_374 ?_
  refine topE (y := nI (6 * i + 2)) (nI_add _ _) ?_
  refine ldS K w hX hbl (by omega) hL dL_law_375 ?_
  refine lcallR K w hR (ll_X2_reaches K ⟨by show fr + 1 ≤ 12; omega, by show 8 + (3 + 11) + lo ≤ 440; omega⟩) rfl hl.1 rfl (Nat.le_of_ble_eq_true rfl) dL_law_376 ⟨by show cells + 1 ≤ 601024; omega, by show slots + 6 ≤ 7293034; omega⟩ (fun H locs w => ?_)
  refine lv_istore (lv' := [(6, .int _), (5, .int _), (4, .int _), (3, .ref _), (2, .ref _), (1, .ref _), (0, .ref _)]) hx hb dL_law_379 hl (by decide) rfl (fun ls hl => ?_)
  refine lv_aload_n hx hb dL_law_381 rfl (lv_at hl 4 rfl) ?_
  refine lcallR K w (c_X2_thrown K.2.2.1.2.2.1) (ll_X2_thrown K ⟨(Nat.le_of_ble_eq_true rfl), (Nat.le_of_ble_eq_true rfl)⟩) rfl hl.1 rfl (Nat.le_of_ble_eq_true rfl) dL_law_382 ⟨by show cells + 1 ≤ 601024; omega, by show slots + 6 ≤ 7293034; omega⟩ (fun H locs w => ?_)
  refine lv_iload hx hb dL_law_385 (lv_at hl 1 rfl) ?_
  refine lv_icmp_eq (tgt := 392) hx hb dL_law_387 rfl (fun _ => ?_) (fun h9 => absurd (rfl : nI kc = nI kc) h9)
  by_cases h0 : kc = 0
  · rcases hP h0 with ⟨hr, hg⟩ | ⟨hr, hg⟩
    · refine lv_iload hx hb dL_law_392 (lv_at hl 1 rfl) ?_
      refine lv_if_ne (tgt := 416) hx hb dL_law_394 rfl (fun h9 => absurd (by rw [h0]; rfl) h9) (fun _ => ?_)
      refine lv_aload_n hx hb dL_law_397 rfl (lv_at hl 3 rfl) ?_
      refine lv_iconst (v := nI 0) hx hb dL_law_398 (by decide) ?_
      refine ldO K w dL_law_399 ?_
      refine lv_iload hx hb dL_law_400 (lv_at hl 0 rfl) ?_
      refine lv_if_eq (tgt := 409) hx hb dL_law_402 rfl (fun _ => ?_) (fun h9 => absurd (by rw [hr]; rfl) h9)
      refine lv_lconst (v := lN 0) hx hb dL_law_409 rfl ?_
      refine W.lcmp hx hb dL_law_410 ?_
      refine lv_if_eq (tgt := 416) hx hb dL_law_411 rfl (fun _ => ?_) (fun h9 => absurd (lg_self hg) h9)
      refine lv_goto (tgt := 796) hx hb dL_law_416 rfl ?_
      exact kk _ _ _ _ _ _ _ _ _ _ hI hn w (lv_sub hl [2, 3, 4, 5, 6] rfl)
    · refine lv_iload hx hb dL_law_392 (lv_at hl 1 rfl) ?_
      refine lv_if_ne (tgt := 416) hx hb dL_law_394 rfl (fun h9 => absurd (by rw [h0]; rfl) h9) (fun _ => ?_)
      refine lv_aload_n hx hb dL_law_397 rfl (lv_at hl 3 rfl) ?_
      refine lv_iconst (v := nI 0) hx hb dL_law_398 (by decide) ?_
      refine ldO K w dL_law_399 ?_
      refine lv_iload hx hb dL_law_400 (lv_at hl 0 rfl) ?_
      refine lv_if_eq (tgt := 409) hx hb dL_law_402 rfl (fun h9 => absurd h9 (by rw [hr]; decide)) (fun _ => ?_)
      refine lv_lconst (v := lN 1) hx hb dL_law_405 rfl ?_
      refine lv_goto (tgt := 410) hx hb dL_law_406 rfl ?_
      refine W.lcmp hx hb dL_law_410 ?_
      refine lv_if_eq (tgt := 416) hx hb dL_law_411 rfl (fun _ => ?_) (fun h9 => absurd (lg_self hg) h9)
      refine lv_goto (tgt := 796) hx hb dL_law_416 rfl ?_
      exact kk _ _ _ _ _ _ _ _ _ _ hI hn w (lv_sub hl [2, 3, 4, 5, 6] rfl)
  · refine lv_iload hx hb dL_law_392 (lv_at hl 1 rfl) ?_
    refine lv_if_ne (tgt := 416) hx hb dL_law_394 rfl (fun _ => ?_) (fun h9 => absurd h9 (nI_ne0 (by omega) (by omega)))
    refine lv_goto (tgt := 796) hx hb dL_law_416 rfl ?_
    exact kk _ _ _ _ _ _ _ _ _ _ hI hn w (lv_sub hl [2, 3, 4, 5, 6] rfl)

set_option maxHeartbeats 4000000 in
set_option maxRecDepth 100000 in
theorem cs_base (K : cM E a2 qo cJ p l m c s b) (hX : va_X b L xs s s.heap) (hbl : b < s.heap.size) (hL : L ≤ 3072) {i : Nat} (hi : 6 * i + 6 ≤ L) (hcs : cells + 1 ≤ 601024 ∧ slots + 6 ≤ 7293034) {Inv : Mt → Nat → Nat → Mt → Nat → Prop} (hA : AgI l E a2 qo cJ Inv yL_base (.codeWith yL_base cL_base 6 (some .int) [(0, 12, 15, 13), (0, 12, 19, 33)]) [.ref (ad E 0), .int (xs (6 * i + 1)), .int (xs (6 * i + 2)), .int (xs (6 * i + 3)), .ref qo] yX2_base (.code yX2_base cX2_base 6 (some .int)) [.int (xs (6 * i + 1)), .int (xs (6 * i + 2)), .int (xs (6 * i + 3))] PI M n k g N t f) (kk : ∀ (M : Mt) (n' k : Nat) (g : Nat → Int64) (N : Mt) (t f : Nat) (H : Heap) (locs : List Loc) (ls : Array Slot), Inv M n' k N f → n' ≤ n + 1 → lS E a2 qo cJ s M n' k g N n' t f H locs → lv_has ls 7 [(4, .int (nI (6 * i))), (3, .ref qo), (2, .ref (a2 0)), (1, .ref (ad E 0)), (0, .ref b)] → W p l e room_1 s m #[Value.ref b] below meth c H locs (cells + 1) (slots + 6) Q (F0 m 796 ls [])) (w : lS E a2 qo cJ s M n k g N n t f H locs) (hl : lv_has ls 7 [(4, .int (nI (6 * i))), (3, .ref qo), (2, .ref (a2 0)), (1, .ref (ad E 0)), (0, .ref b)]) : W p l e room_1 s m #[Value.ref b] below meth c H locs cells slots Q (F0 m 419 ls []) := by
  have hx := K.1.1
  have hb := K.1.2.1
  obtain ⟨kc, rr, M', n', k', g', N', f', fr, lo, hkc, hW, hR, hP, hI, hn, hfr, hlo⟩ := hA
  refine lv_aload_n hx hb dL_law_419 rfl (lv_at hl 3 rfl) ?_
  refine lv_aload_n hx hb dL_law_420 rfl (lv_at hl 4 rfl) ?_
  refine lv_iload hx hb dL_law_421 (lv_at hl 0 rfl) ?_
  refine lv_iconst (v := nI 1) hx hb dL_law_423 (by decide) ?_
  refine lv_iadd hx hb dL_law_424 ?_
  refine topE (y := nI (6 * i + 1)) (nI_add _ _) ?_
  refine ldS K w hX hbl (by omega) hL dL_law_425 ?_
  refine lv_aload_n hx hb dL_law_426 rfl (lv_at hl 4 rfl) ?_
  refine lv_iload hx hb dL_law_427 (lv_at hl 0 rfl) ?_
  refine lv_iconst (v := nI 2) hx hb dL_law_429 (by decide) ?_
  refine lv_iadd hx hb dL_law_430 ?_
  refine topE (y := nI (6 * i + 2)) (nI_add _ _) ?_
  refine ldS K w hX hbl (by omega) hL dL_law_431 ?_
  refine lv_aload_n hx hb dL_law_432 rfl (lv_at hl 4 rfl) ?_
  refine lv_iload hx hb dL_law_433 (lv_at hl 0 rfl) ?_
  refine lv_iconst (v := nI 3) hx hb dL_law_435 (by decide) ?_
  refine lv_iadd hx hb dL_law_436 ?_
  refine topE (y := nI (6 * i + 3)) (nI_add _ _) ?_
  refine ldS K w hX hbl (by omega) hL dL_law_437 ?_
  refine lv_aload_n hx hb dL_law_438 rfl (lv_at hl 1 rfl) ?_
  refine lcallW K w hW (ll_L_base K) rfl hl.1 rfl (Nat.le_of_ble_eq_true rfl) dL_law_439 hcs (fun H locs w => ?_)
  refine lv_istore (lv' := [(5, .int _), (4, .int _), (3, .ref _), (2, .ref _), (1, .ref _), (0, .ref _)]) hx hb dL_law_442 hl (by decide) rfl (fun ls hl => ?_)
  refine lv_aload_n hx hb dL_law_444 rfl (lv_at hl 3 rfl) ?_
  refine lv_aload_n hx hb dL_law_445 rfl (lv_at hl 5 rfl) ?_
  refine lv_iload hx hb dL_law_446 (lv_at hl 1 rfl) ?_
  refine lv_iconst (v := nI 1) hx hb dL_law_448 (by decide) ?_
  refine lv_iadd hx hb dL_law_449 ?_
  refine topE (y := nI (6 * i + 1)) (nI_add _ _) ?_
  refine ldS K w hX hbl (by omega) hL dL_law_450 ?_
  refine lv_aload_n hx hb dL_law_451 rfl (lv_at hl 5 rfl) ?_
  refine lv_iload hx hb dL_law_452 (lv_at hl 1 rfl) ?_
  refine lv_iconst (v := nI 2) hx hb dL_law_454 (by decide) ?_
  refine lv_iadd hx hb dL_law_455 ?_
  refine topE (y := nI (6 * i + 2)) (nI_add _ _) ?_
  refine ldS K w hX hbl (by omega) hL dL_law_456 ?_
  refine lv_aload_n hx hb dL_law_457 rfl (lv_at hl 5 rfl) ?_
  refine lv_iload hx hb dL_law_458 (lv_at hl 1 rfl) ?_
  refine lv_iconst (v := nI 3) hx hb dL_law_460 (by decide) ?_
  refine lv_iadd hx hb dL_law_461 ?_
  refine topE (y := nI (6 * i + 3)) (nI_add _ _) ?_
  refine ldS K w hX hbl (by omega) hL dL_law_462 ?_
  refine lcallR K w hR (ll_X2_base K ⟨by show fr + 1 ≤ 12; omega, by show 8 + (6 + 11) + lo ≤ 440; omega⟩) rfl hl.1 rfl (Nat.le_of_ble_eq_true rfl) dL_law_463 ⟨by show cells + 1 ≤ 601024; omega, by show slots + 6 ≤ 7293034; omega⟩ (fun H locs w => ?_)
  refine lv_istore (lv' := [(6, .int _), (5, .int _), (4, .int _), (3, .ref _), (2, .ref _), (1, .ref _), (0, .ref _)]) hx hb dL_law_466 hl (by decide) rfl (fun ls hl => ?_)
  refine lv_aload_n hx hb dL_law_468 rfl (lv_at hl 4 rfl) ?_
  refine lcallR K w (c_X2_thrown K.2.2.1.2.2.1) (ll_X2_thrown K ⟨(Nat.le_of_ble_eq_true rfl), (Nat.le_of_ble_eq_true rfl)⟩) rfl hl.1 rfl (Nat.le_of_ble_eq_true rfl) dL_law_469 ⟨by show cells + 1 ≤ 601024; omega, by show slots + 6 ≤ 7293034; omega⟩ (fun H locs w => ?_)
  refine lv_iload hx hb dL_law_472 (lv_at hl 1 rfl) ?_
  refine lv_icmp_eq (tgt := 479) hx hb dL_law_474 rfl (fun _ => ?_) (fun h9 => absurd (rfl : nI kc = nI kc) h9)
  by_cases h0 : kc = 0
  · refine lv_iload hx hb dL_law_479 (lv_at hl 1 rfl) ?_
    refine lv_if_ne (tgt := 496) hx hb dL_law_481 rfl (fun h9 => absurd (by rw [h0]; rfl) h9) (fun _ => ?_)
    refine lv_aload_n hx hb dL_law_484 rfl (lv_at hl 3 rfl) ?_
    refine lv_iconst (v := nI 0) hx hb dL_law_485 (by decide) ?_
    refine ldO K w dL_law_486 ?_
    refine lv_iload hx hb dL_law_487 (lv_at hl 0 rfl) ?_
    refine lv_i2l hx hb dL_law_489 rfl ?_
    refine W.lcmp hx hb dL_law_490 ?_
    refine lv_if_eq (tgt := 496) hx hb dL_law_491 rfl (fun _ => ?_) (fun h9 => absurd (lg_self (hP h0)) h9)
    refine lv_goto (tgt := 796) hx hb dL_law_496 rfl ?_
    exact kk _ _ _ _ _ _ _ _ _ _ hI hn w (lv_sub hl [2, 3, 4, 5, 6] rfl)
  · refine lv_iload hx hb dL_law_479 (lv_at hl 1 rfl) ?_
    refine lv_if_ne (tgt := 496) hx hb dL_law_481 rfl (fun _ => ?_) (fun h9 => absurd h9 (nI_ne0 (by omega) (by omega)))
    refine lv_goto (tgt := 796) hx hb dL_law_496 rfl ?_
    exact kk _ _ _ _ _ _ _ _ _ _ hI hn w (lv_sub hl [2, 3, 4, 5, 6] rfl)

set_option maxHeartbeats 4000000 in
set_option maxRecDepth 100000 in
theorem cs_log (K : cM E a2 qo cJ p l m c s b) (hX : va_X b L xs s s.heap) (hbl : b < s.heap.size) (hL : L ≤ 3072) {i : Nat} (hi : 6 * i + 6 ≤ L) (hcs : cells + 1 ≤ 601024 ∧ slots + 6 ≤ 7293034) {Inv : Mt → Nat → Nat → Mt → Nat → Prop} (hA : AgI l E a2 qo cJ Inv yL_log (.codeWith yL_log cL_log 5 (some .int) [(0, 10, 13, 13), (0, 10, 17, 33)]) [.ref (ad E 0), .int (xs (6 * i + 1)), .int (xs (6 * i + 2)), .ref qo] yX2_log (.code yX2_log cX2_log 5 (some .int)) [.int (xs (6 * i + 1)), .int (xs (6 * i + 2))] PI M n k g N t f) (kk : ∀ (M : Mt) (n' k : Nat) (g : Nat → Int64) (N : Mt) (t f : Nat) (H : Heap) (locs : List Loc) (ls : Array Slot), Inv M n' k N f → n' ≤ n + 1 → lS E a2 qo cJ s M n' k g N n' t f H locs → lv_has ls 7 [(4, .int (nI (6 * i))), (3, .ref qo), (2, .ref (a2 0)), (1, .ref (ad E 0)), (0, .ref b)] → W p l e room_1 s m #[Value.ref b] below meth c H locs (cells + 1) (slots + 6) Q (F0 m 796 ls [])) (w : lS E a2 qo cJ s M n k g N n t f H locs) (hl : lv_has ls 7 [(4, .int (nI (6 * i))), (3, .ref qo), (2, .ref (a2 0)), (1, .ref (ad E 0)), (0, .ref b)]) : W p l e room_1 s m #[Value.ref b] below meth c H locs cells slots Q (F0 m 499 ls []) := by
  have hx := K.1.1
  have hb := K.1.2.1
  obtain ⟨kc, rr, M', n', k', g', N', f', fr, lo, hkc, hW, hR, hP, hI, hn, hfr, hlo⟩ := hA
  refine lv_aload_n hx hb dL_law_499 rfl (lv_at hl 3 rfl) ?_
  refine lv_aload_n hx hb dL_law_500 rfl (lv_at hl 4 rfl) ?_
  refine lv_iload hx hb dL_law_501 (lv_at hl 0 rfl) ?_
  refine lv_iconst (v := nI 1) hx hb dL_law_503 (by decide) ?_
  refine lv_iadd hx hb dL_law_504 ?_
  refine topE (y := nI (6 * i + 1)) (nI_add _ _) ?_
  refine ldS K w hX hbl (by omega) hL dL_law_505 ?_
  refine lv_aload_n hx hb dL_law_506 rfl (lv_at hl 4 rfl) ?_
  refine lv_iload hx hb dL_law_507 (lv_at hl 0 rfl) ?_
  refine lv_iconst (v := nI 2) hx hb dL_law_509 (by decide) ?_
  refine lv_iadd hx hb dL_law_510 ?_
  refine topE (y := nI (6 * i + 2)) (nI_add _ _) ?_
  refine ldS K w hX hbl (by omega) hL dL_law_511 ?_
  refine lv_aload_n hx hb dL_law_512 rfl (lv_at hl 1 rfl) ?_
  refine lcallW K w hW (ll_L_log K) rfl hl.1 rfl (Nat.le_of_ble_eq_true rfl) dL_law_513 hcs (fun H locs w => ?_)
  refine lv_istore (lv' := [(5, .int _), (4, .int _), (3, .ref _), (2, .ref _), (1, .ref _), (0, .ref _)]) hx hb dL_law_516 hl (by decide) rfl (fun ls hl => ?_)
  refine lv_aload_n hx hb dL_law_518 rfl (lv_at hl 3 rfl) ?_
  refine lv_aload_n hx hb dL_law_519 rfl (lv_at hl 5 rfl) ?_
  refine lv_iload hx hb dL_law_520 (lv_at hl 1 rfl) ?_
  refine lv_iconst (v := nI 1) hx hb dL_law_522 (by decide) ?_
  refine lv_iadd hx hb dL_law_523 ?_
  refine topE (y := nI (6 * i + 1)) (nI_add _ _) ?_
  refine ldS K w hX hbl (by omega) hL dL_law_524 ?_
  refine lv_aload_n hx hb dL_law_525 rfl (lv_at hl 5 rfl) ?_
  refine lv_iload hx hb dL_law_526 (lv_at hl 1 rfl) ?_
  refine lv_iconst (v := nI 2) hx hb dL_law_528 (by decide) ?_
  refine lv_iadd hx hb dL_law_529 ?_
  refine topE (y := nI (6 * i + 2)) (nI_add _ _) ?_
  refine ldS K w hX hbl (by omega) hL dL_law_530 ?_
  refine lcallR K w hR (ll_X2_log K ⟨by show fr + 1 ≤ 12; omega, by show 8 + (5 + 11) + lo ≤ 440; omega⟩) rfl hl.1 rfl (Nat.le_of_ble_eq_true rfl) dL_law_531 ⟨by show cells + 1 ≤ 601024; omega, by show slots + 6 ≤ 7293034; omega⟩ (fun H locs w => ?_)
  refine lv_istore (lv' := [(6, .int _), (5, .int _), (4, .int _), (3, .ref _), (2, .ref _), (1, .ref _), (0, .ref _)]) hx hb dL_law_534 hl (by decide) rfl (fun ls hl => ?_)
  refine lv_aload_n hx hb dL_law_536 rfl (lv_at hl 4 rfl) ?_
  refine lcallR K w (c_X2_thrown K.2.2.1.2.2.1) (ll_X2_thrown K ⟨(Nat.le_of_ble_eq_true rfl), (Nat.le_of_ble_eq_true rfl)⟩) rfl hl.1 rfl (Nat.le_of_ble_eq_true rfl) dL_law_537 ⟨by show cells + 1 ≤ 601024; omega, by show slots + 6 ≤ 7293034; omega⟩ (fun H locs w => ?_)
  refine lv_iload hx hb dL_law_540 (lv_at hl 1 rfl) ?_
  refine lv_icmp_eq (tgt := 547) hx hb dL_law_542 rfl (fun _ => ?_) (fun h9 => absurd (rfl : nI kc = nI kc) h9)
  by_cases h0 : kc = 0
  · refine lv_iload hx hb dL_law_547 (lv_at hl 1 rfl) ?_
    refine lv_if_ne (tgt := 564) hx hb dL_law_549 rfl (fun h9 => absurd (by rw [h0]; rfl) h9) (fun _ => ?_)
    refine lv_aload_n hx hb dL_law_552 rfl (lv_at hl 3 rfl) ?_
    refine lv_iconst (v := nI 0) hx hb dL_law_553 (by decide) ?_
    refine ldO K w dL_law_554 ?_
    refine lv_iload hx hb dL_law_555 (lv_at hl 0 rfl) ?_
    refine lv_i2l hx hb dL_law_557 rfl ?_
    refine W.lcmp hx hb dL_law_558 ?_
    refine lv_if_eq (tgt := 564) hx hb dL_law_559 rfl (fun _ => ?_) (fun h9 => absurd (lg_self (hP h0)) h9)
    refine lv_goto (tgt := 796) hx hb dL_law_564 rfl ?_
    exact kk _ _ _ _ _ _ _ _ _ _ hI hn w (lv_sub hl [2, 3, 4, 5, 6] rfl)
  · refine lv_iload hx hb dL_law_547 (lv_at hl 1 rfl) ?_
    refine lv_if_ne (tgt := 564) hx hb dL_law_549 rfl (fun _ => ?_) (fun h9 => absurd h9 (nI_ne0 (by omega) (by omega)))
    refine lv_goto (tgt := 796) hx hb dL_law_564 rfl ?_
    exact kk _ _ _ _ _ _ _ _ _ _ hI hn w (lv_sub hl [2, 3, 4, 5, 6] rfl)

set_option maxHeartbeats 4000000 in
set_option maxRecDepth 100000 in
theorem cs_back (K : cM E a2 qo cJ p l m c s b) (hX : va_X b L xs s s.heap) (hbl : b < s.heap.size) (hL : L ≤ 3072) {i : Nat} (hi : 6 * i + 6 ≤ L) (hcs : cells + 1 ≤ 601024 ∧ slots + 6 ≤ 7293034) {Inv : Mt → Nat → Nat → Mt → Nat → Prop} (hA : AgI l E a2 qo cJ Inv yL_back (.codeWith yL_back cL_back 5 (some .int) [(0, 10, 13, 13), (0, 10, 17, 33)]) [.ref (ad E 0), .int (xs (6 * i + 1)), .int (xs (6 * i + 2)), .ref qo] yX2_back (.code yX2_back cX2_back 5 (some .int)) [.int (xs (6 * i + 1)), .int (xs (6 * i + 2))] PI M n k g N t f) (kk : ∀ (M : Mt) (n' k : Nat) (g : Nat → Int64) (N : Mt) (t f : Nat) (H : Heap) (locs : List Loc) (ls : Array Slot), Inv M n' k N f → n' ≤ n + 1 → lS E a2 qo cJ s M n' k g N n' t f H locs → lv_has ls 7 [(4, .int (nI (6 * i))), (3, .ref qo), (2, .ref (a2 0)), (1, .ref (ad E 0)), (0, .ref b)] → W p l e room_1 s m #[Value.ref b] below meth c H locs (cells + 1) (slots + 6) Q (F0 m 796 ls [])) (w : lS E a2 qo cJ s M n k g N n t f H locs) (hl : lv_has ls 7 [(4, .int (nI (6 * i))), (3, .ref qo), (2, .ref (a2 0)), (1, .ref (ad E 0)), (0, .ref b)]) : W p l e room_1 s m #[Value.ref b] below meth c H locs cells slots Q (F0 m 567 ls []) := by
  have hx := K.1.1
  have hb := K.1.2.1
  obtain ⟨kc, rr, M', n', k', g', N', f', fr, lo, hkc, hW, hR, hP, hI, hn, hfr, hlo⟩ := hA
  refine lv_aload_n hx hb dL_law_567 rfl (lv_at hl 3 rfl) ?_
  refine lv_aload_n hx hb dL_law_568 rfl (lv_at hl 4 rfl) ?_
  refine lv_iload hx hb dL_law_569 (lv_at hl 0 rfl) ?_
  refine lv_iconst (v := nI 1) hx hb dL_law_571 (by decide) ?_
  refine lv_iadd hx hb dL_law_572 ?_
  refine topE (y := nI (6 * i + 1)) (nI_add _ _) ?_
  refine ldS K w hX hbl (by omega) hL dL_law_573 ?_
  refine lv_aload_n hx hb dL_law_574 rfl (lv_at hl 4 rfl) ?_
  refine lv_iload hx hb dL_law_575 (lv_at hl 0 rfl) ?_
  refine lv_iconst (v := nI 2) hx hb dL_law_577 (by decide) ?_
  refine lv_iadd hx hb dL_law_578 ?_
  refine topE (y := nI (6 * i + 2)) (nI_add _ _) ?_
  refine ldS K w hX hbl (by omega) hL dL_law_579 ?_
  refine lv_aload_n hx hb dL_law_580 rfl (lv_at hl 1 rfl) ?_
  refine lcallW K w hW (ll_L_back K) rfl hl.1 rfl (Nat.le_of_ble_eq_true rfl) dL_law_581 hcs (fun H locs w => ?_)
  refine lv_istore (lv' := [(5, .int _), (4, .int _), (3, .ref _), (2, .ref _), (1, .ref _), (0, .ref _)]) hx hb dL_law_584 hl (by decide) rfl (fun ls hl => ?_)
  refine lv_aload_n hx hb dL_law_586 rfl (lv_at hl 3 rfl) ?_
  refine lv_aload_n hx hb dL_law_587 rfl (lv_at hl 5 rfl) ?_
  refine lv_iload hx hb dL_law_588 (lv_at hl 1 rfl) ?_
  refine lv_iconst (v := nI 1) hx hb dL_law_590 (by decide) ?_
  refine lv_iadd hx hb dL_law_591 ?_
  refine topE (y := nI (6 * i + 1)) (nI_add _ _) ?_
  refine ldS K w hX hbl (by omega) hL dL_law_592 ?_
  refine lv_aload_n hx hb dL_law_593 rfl (lv_at hl 5 rfl) ?_
  refine lv_iload hx hb dL_law_594 (lv_at hl 1 rfl) ?_
  refine lv_iconst (v := nI 2) hx hb dL_law_596 (by decide) ?_
  refine lv_iadd hx hb dL_law_597 ?_
  refine topE (y := nI (6 * i + 2)) (nI_add _ _) ?_
  refine ldS K w hX hbl (by omega) hL dL_law_598 ?_
  refine lcallR K w hR (ll_X2_back K ⟨by show fr + 1 ≤ 12; omega, by show 8 + (5 + 11) + lo ≤ 440; omega⟩) rfl hl.1 rfl (Nat.le_of_ble_eq_true rfl) dL_law_599 ⟨by show cells + 1 ≤ 601024; omega, by show slots + 6 ≤ 7293034; omega⟩ (fun H locs w => ?_)
  refine lv_istore (lv' := [(6, .int _), (5, .int _), (4, .int _), (3, .ref _), (2, .ref _), (1, .ref _), (0, .ref _)]) hx hb dL_law_602 hl (by decide) rfl (fun ls hl => ?_)
  refine lv_aload_n hx hb dL_law_604 rfl (lv_at hl 4 rfl) ?_
  refine lcallR K w (c_X2_thrown K.2.2.1.2.2.1) (ll_X2_thrown K ⟨(Nat.le_of_ble_eq_true rfl), (Nat.le_of_ble_eq_true rfl)⟩) rfl hl.1 rfl (Nat.le_of_ble_eq_true rfl) dL_law_605 ⟨by show cells + 1 ≤ 601024; omega, by show slots + 6 ≤ 7293034; omega⟩ (fun H locs w => ?_)
  refine lv_iload hx hb dL_law_608 (lv_at hl 1 rfl) ?_
  refine lv_icmp_eq (tgt := 615) hx hb dL_law_610 rfl (fun _ => ?_) (fun h9 => absurd (rfl : nI kc = nI kc) h9)
  by_cases h0 : kc = 0
  · refine lv_iload hx hb dL_law_615 (lv_at hl 1 rfl) ?_
    refine lv_if_ne (tgt := 632) hx hb dL_law_617 rfl (fun h9 => absurd (by rw [h0]; rfl) h9) (fun _ => ?_)
    refine lv_aload_n hx hb dL_law_620 rfl (lv_at hl 3 rfl) ?_
    refine lv_iconst (v := nI 0) hx hb dL_law_621 (by decide) ?_
    refine ldO K w dL_law_622 ?_
    refine lv_iload hx hb dL_law_623 (lv_at hl 0 rfl) ?_
    refine lv_i2l hx hb dL_law_625 rfl ?_
    refine W.lcmp hx hb dL_law_626 ?_
    refine lv_if_eq (tgt := 632) hx hb dL_law_627 rfl (fun _ => ?_) (fun h9 => absurd (lg_self (hP h0)) h9)
    refine lv_goto (tgt := 796) hx hb dL_law_632 rfl ?_
    exact kk _ _ _ _ _ _ _ _ _ _ hI hn w (lv_sub hl [2, 3, 4, 5, 6] rfl)
  · refine lv_iload hx hb dL_law_615 (lv_at hl 1 rfl) ?_
    refine lv_if_ne (tgt := 632) hx hb dL_law_617 rfl (fun _ => ?_) (fun h9 => absurd h9 (nI_ne0 (by omega) (by omega)))
    refine lv_goto (tgt := 796) hx hb dL_law_632 rfl ?_
    exact kk _ _ _ _ _ _ _ _ _ _ hI hn w (lv_sub hl [2, 3, 4, 5, 6] rfl)

set_option maxHeartbeats 4000000 in
set_option maxRecDepth 100000 in
theorem cs_sent (K : cM E a2 qo cJ p l m c s b) (hX : va_X b L xs s s.heap) (hbl : b < s.heap.size) (hL : L ≤ 3072) {i : Nat} (hi : 6 * i + 6 ≤ L) (hcs : cells + 1 ≤ 601024 ∧ slots + 6 ≤ 7293034) {Inv : Mt → Nat → Nat → Mt → Nat → Prop} (hA : AgI l E a2 qo cJ Inv yL_sent (.codeWith yL_sent cL_sent 5 (some .int) [(0, 10, 13, 13), (0, 10, 17, 33)]) [.ref (ad E 0), .int (xs (6 * i + 1)), .int (xs (6 * i + 2)), .ref qo] yX2_sent (.code yX2_sent cX2_sent 7 (some .int)) [.int (xs (6 * i + 1)), .int (xs (6 * i + 2))] PI M n k g N t f) (kk : ∀ (M : Mt) (n' k : Nat) (g : Nat → Int64) (N : Mt) (t f : Nat) (H : Heap) (locs : List Loc) (ls : Array Slot), Inv M n' k N f → n' ≤ n + 1 → lS E a2 qo cJ s M n' k g N n' t f H locs → lv_has ls 7 [(4, .int (nI (6 * i))), (3, .ref qo), (2, .ref (a2 0)), (1, .ref (ad E 0)), (0, .ref b)] → W p l e room_1 s m #[Value.ref b] below meth c H locs (cells + 1) (slots + 6) Q (F0 m 796 ls [])) (w : lS E a2 qo cJ s M n k g N n t f H locs) (hl : lv_has ls 7 [(4, .int (nI (6 * i))), (3, .ref qo), (2, .ref (a2 0)), (1, .ref (ad E 0)), (0, .ref b)]) : W p l e room_1 s m #[Value.ref b] below meth c H locs cells slots Q (F0 m 635 ls []) := by
  have hx := K.1.1
  have hb := K.1.2.1
  obtain ⟨kc, rr, M', n', k', g', N', f', fr, lo, hkc, hW, hR, hP, hI, hn, hfr, hlo⟩ := hA
  refine lv_aload_n hx hb dL_law_635 rfl (lv_at hl 3 rfl) ?_
  refine lv_aload_n hx hb dL_law_636 rfl (lv_at hl 4 rfl) ?_
  refine lv_iload hx hb dL_law_637 (lv_at hl 0 rfl) ?_
  refine lv_iconst (v := nI 1) hx hb dL_law_639 (by decide) ?_
  refine lv_iadd hx hb dL_law_640 ?_
  refine topE (y := nI (6 * i + 1)) (nI_add _ _) ?_
  refine ldS K w hX hbl (by omega) hL dL_law_641 ?_
  refine lv_aload_n hx hb dL_law_642 rfl (lv_at hl 4 rfl) ?_
  refine lv_iload hx hb dL_law_643 (lv_at hl 0 rfl) ?_
  refine lv_iconst (v := nI 2) hx hb dL_law_645 (by decide) ?_
  refine lv_iadd hx hb dL_law_646 ?_
  refine topE (y := nI (6 * i + 2)) (nI_add _ _) ?_
  refine ldS K w hX hbl (by omega) hL dL_law_647 ?_
  refine lv_aload_n hx hb dL_law_648 rfl (lv_at hl 1 rfl) ?_
  refine lcallW K w hW (ll_L_sent K) rfl hl.1 rfl (Nat.le_of_ble_eq_true rfl) dL_law_649 hcs (fun H locs w => ?_)
  refine lv_istore (lv' := [(5, .int _), (4, .int _), (3, .ref _), (2, .ref _), (1, .ref _), (0, .ref _)]) hx hb dL_law_652 hl (by decide) rfl (fun ls hl => ?_)
  refine lv_aload_n hx hb dL_law_654 rfl (lv_at hl 3 rfl) ?_
  refine lv_aload_n hx hb dL_law_655 rfl (lv_at hl 5 rfl) ?_
  refine lv_iload hx hb dL_law_656 (lv_at hl 1 rfl) ?_
  refine lv_iconst (v := nI 1) hx hb dL_law_658 (by decide) ?_
  refine lv_iadd hx hb dL_law_659 ?_
  refine topE (y := nI (6 * i + 1)) (nI_add _ _) ?_
  refine ldS K w hX hbl (by omega) hL dL_law_660 ?_
  refine lv_aload_n hx hb dL_law_661 rfl (lv_at hl 5 rfl) ?_
  refine lv_iload hx hb dL_law_662 (lv_at hl 1 rfl) ?_
  refine lv_iconst (v := nI 2) hx hb dL_law_664 (by decide) ?_
  refine lv_iadd hx hb dL_law_665 ?_
  refine topE (y := nI (6 * i + 2)) (nI_add _ _) ?_
  refine ldS K w hX hbl (by omega) hL dL_law_666 ?_
  refine lcallR K w hR (ll_X2_sent K ⟨by show fr + 1 ≤ 12; omega, by show 8 + (7 + 11) + lo ≤ 440; omega⟩) rfl hl.1 rfl (Nat.le_of_ble_eq_true rfl) dL_law_667 ⟨by show cells + 1 ≤ 601024; omega, by show slots + 6 ≤ 7293034; omega⟩ (fun H locs w => ?_)
  refine lv_istore (lv' := [(6, .int _), (5, .int _), (4, .int _), (3, .ref _), (2, .ref _), (1, .ref _), (0, .ref _)]) hx hb dL_law_670 hl (by decide) rfl (fun ls hl => ?_)
  refine lv_aload_n hx hb dL_law_672 rfl (lv_at hl 4 rfl) ?_
  refine lcallR K w (c_X2_thrown K.2.2.1.2.2.1) (ll_X2_thrown K ⟨(Nat.le_of_ble_eq_true rfl), (Nat.le_of_ble_eq_true rfl)⟩) rfl hl.1 rfl (Nat.le_of_ble_eq_true rfl) dL_law_673 ⟨by show cells + 1 ≤ 601024; omega, by show slots + 6 ≤ 7293034; omega⟩ (fun H locs w => ?_)
  refine lv_iload hx hb dL_law_676 (lv_at hl 1 rfl) ?_
  refine lv_icmp_eq (tgt := 683) hx hb dL_law_678 rfl (fun _ => ?_) (fun h9 => absurd (rfl : nI kc = nI kc) h9)
  by_cases h0 : kc = 0
  · refine lv_iload hx hb dL_law_683 (lv_at hl 1 rfl) ?_
    refine lv_if_ne (tgt := 700) hx hb dL_law_685 rfl (fun h9 => absurd (by rw [h0]; rfl) h9) (fun _ => ?_)
    refine lv_aload_n hx hb dL_law_688 rfl (lv_at hl 3 rfl) ?_
    refine lv_iconst (v := nI 0) hx hb dL_law_689 (by decide) ?_
    refine ldO K w dL_law_690 ?_
    refine lv_iload hx hb dL_law_691 (lv_at hl 0 rfl) ?_
    refine lv_i2l hx hb dL_law_693 rfl ?_
    refine W.lcmp hx hb dL_law_694 ?_
    refine lv_if_eq (tgt := 700) hx hb dL_law_695 rfl (fun _ => ?_) (fun h9 => absurd (lg_self (hP h0)) h9)
    refine lv_goto (tgt := 796) hx hb dL_law_700 rfl ?_
    exact kk _ _ _ _ _ _ _ _ _ _ hI hn w (lv_sub hl [2, 3, 4, 5, 6] rfl)
  · refine lv_iload hx hb dL_law_683 (lv_at hl 1 rfl) ?_
    refine lv_if_ne (tgt := 700) hx hb dL_law_685 rfl (fun _ => ?_) (fun h9 => absurd h9 (nI_ne0 (by omega) (by omega)))
    refine lv_goto (tgt := 796) hx hb dL_law_700 rfl ?_
    exact kk _ _ _ _ _ _ _ _ _ _ hI hn w (lv_sub hl [2, 3, 4, 5, 6] rfl)

set_option maxHeartbeats 4000000 in
set_option maxRecDepth 100000 in
theorem cs_told (K : cM E a2 qo cJ p l m c s b) (hX : va_X b L xs s s.heap) (hbl : b < s.heap.size) (hL : L ≤ 3072) {i : Nat} (hi : 6 * i + 6 ≤ L) (hcs : cells + 1 ≤ 601024 ∧ slots + 6 ≤ 7293034) {Inv : Mt → Nat → Nat → Mt → Nat → Prop} (hA : AgI l E a2 qo cJ Inv yL_told (.codeWith yL_told cL_told 5 (some .int) [(0, 10, 13, 13)]) [.ref (ad E 0), .int (xs (6 * i + 1)), .int (xs (6 * i + 2)), .ref qo] yX2_told (.code yX2_told cX2_told 3 (some .int)) [.int (xs (6 * i + 1)), .int (xs (6 * i + 2))] PI M n k g N t f) (kk : ∀ (M : Mt) (n' k : Nat) (g : Nat → Int64) (N : Mt) (t f : Nat) (H : Heap) (locs : List Loc) (ls : Array Slot), Inv M n' k N f → n' ≤ n + 1 → lS E a2 qo cJ s M n' k g N n' t f H locs → lv_has ls 7 [(4, .int (nI (6 * i))), (3, .ref qo), (2, .ref (a2 0)), (1, .ref (ad E 0)), (0, .ref b)] → W p l e room_1 s m #[Value.ref b] below meth c H locs (cells + 1) (slots + 6) Q (F0 m 796 ls [])) (w : lS E a2 qo cJ s M n k g N n t f H locs) (hl : lv_has ls 7 [(4, .int (nI (6 * i))), (3, .ref qo), (2, .ref (a2 0)), (1, .ref (ad E 0)), (0, .ref b)]) : W p l e room_1 s m #[Value.ref b] below meth c H locs cells slots Q (F0 m 703 ls []) := by
  have hx := K.1.1
  have hb := K.1.2.1
  obtain ⟨kc, rr, M', n', k', g', N', f', fr, lo, hkc, hW, hR, hP, hI, hn, hfr, hlo⟩ := hA
  refine lv_aload_n hx hb dL_law_703 rfl (lv_at hl 3 rfl) ?_
  refine lv_aload_n hx hb dL_law_704 rfl (lv_at hl 4 rfl) ?_
  refine lv_iload hx hb dL_law_705 (lv_at hl 0 rfl) ?_
  refine lv_iconst (v := nI 1) hx hb dL_law_707 (by decide) ?_
  refine lv_iadd hx hb dL_law_708 ?_
  refine topE (y := nI (6 * i + 1)) (nI_add _ _) ?_
  refine ldS K w hX hbl (by omega) hL dL_law_709 ?_
  refine lv_aload_n hx hb dL_law_710 rfl (lv_at hl 4 rfl) ?_
  refine lv_iload hx hb dL_law_711 (lv_at hl 0 rfl) ?_
  refine lv_iconst (v := nI 2) hx hb dL_law_713 (by decide) ?_
  refine lv_iadd hx hb dL_law_714 ?_
  refine topE (y := nI (6 * i + 2)) (nI_add _ _) ?_
  refine ldS K w hX hbl (by omega) hL dL_law_715 ?_
  refine lv_aload_n hx hb dL_law_716 rfl (lv_at hl 1 rfl) ?_
  refine lcallW K w hW (ll_L_told K) rfl hl.1 rfl (Nat.le_of_ble_eq_true rfl) dL_law_717 hcs (fun H locs w => ?_)
  refine lv_istore (lv' := [(5, .int _), (4, .int _), (3, .ref _), (2, .ref _), (1, .ref _), (0, .ref _)]) hx hb dL_law_720 hl (by decide) rfl (fun ls hl => ?_)
  refine lv_aload_n hx hb dL_law_722 rfl (lv_at hl 3 rfl) ?_
  refine lv_aload_n hx hb dL_law_723 rfl (lv_at hl 5 rfl) ?_
  refine lv_iload hx hb dL_law_724 (lv_at hl 1 rfl) ?_
  refine lv_iconst (v := nI 1) hx hb dL_law_726 (by decide) ?_
  refine lv_iadd hx hb dL_law_727 ?_
  refine topE (y := nI (6 * i + 1)) (nI_add _ _) ?_
  refine ldS K w hX hbl (by omega) hL dL_law_728 ?_
  refine lv_aload_n hx hb dL_law_729 rfl (lv_at hl 5 rfl) ?_
  refine lv_iload hx hb dL_law_730 (lv_at hl 1 rfl) ?_
  refine lv_iconst (v := nI 2) hx hb dL_law_732 (by decide) ?_
  refine lv_iadd hx hb dL_law_733 ?_
  refine topE (y := nI (6 * i + 2)) (nI_add _ _) ?_
  refine ldS K w hX hbl (by omega) hL dL_law_734 ?_
  refine lcallR K w hR (ll_X2_told K ⟨by show fr + 1 ≤ 12; omega, by show 8 + (3 + 11) + lo ≤ 440; omega⟩) rfl hl.1 rfl (Nat.le_of_ble_eq_true rfl) dL_law_735 ⟨by show cells + 1 ≤ 601024; omega, by show slots + 6 ≤ 7293034; omega⟩ (fun H locs w => ?_)
  refine lv_istore (lv' := [(6, .int _), (5, .int _), (4, .int _), (3, .ref _), (2, .ref _), (1, .ref _), (0, .ref _)]) hx hb dL_law_738 hl (by decide) rfl (fun ls hl => ?_)
  refine lv_aload_n hx hb dL_law_740 rfl (lv_at hl 4 rfl) ?_
  refine lcallR K w (c_X2_thrown K.2.2.1.2.2.1) (ll_X2_thrown K ⟨(Nat.le_of_ble_eq_true rfl), (Nat.le_of_ble_eq_true rfl)⟩) rfl hl.1 rfl (Nat.le_of_ble_eq_true rfl) dL_law_741 ⟨by show cells + 1 ≤ 601024; omega, by show slots + 6 ≤ 7293034; omega⟩ (fun H locs w => ?_)
  refine lv_iload hx hb dL_law_744 (lv_at hl 1 rfl) ?_
  refine lv_icmp_eq (tgt := 751) hx hb dL_law_746 rfl (fun _ => ?_) (fun h9 => absurd (rfl : nI kc = nI kc) h9)
  by_cases h0 : kc = 0
  · refine lv_iload hx hb dL_law_751 (lv_at hl 1 rfl) ?_
    refine lv_if_ne (tgt := 768) hx hb dL_law_753 rfl (fun h9 => absurd (by rw [h0]; rfl) h9) (fun _ => ?_)
    refine lv_aload_n hx hb dL_law_756 rfl (lv_at hl 3 rfl) ?_
    refine lv_iconst (v := nI 0) hx hb dL_law_757 (by decide) ?_
    refine ldO K w dL_law_758 ?_
    refine lv_iload hx hb dL_law_759 (lv_at hl 0 rfl) ?_
    refine lv_i2l hx hb dL_law_761 rfl ?_
    refine W.lcmp hx hb dL_law_762 ?_
    refine lv_if_eq (tgt := 768) hx hb dL_law_763 rfl (fun _ => ?_) (fun h9 => absurd (lg_self (hP h0)) h9)
    refine lv_goto (tgt := 796) hx hb dL_law_768 rfl ?_
    exact kk _ _ _ _ _ _ _ _ _ _ hI hn w (lv_sub hl [2, 3, 4, 5, 6] rfl)
  · refine lv_iload hx hb dL_law_751 (lv_at hl 1 rfl) ?_
    refine lv_if_ne (tgt := 768) hx hb dL_law_753 rfl (fun _ => ?_) (fun h9 => absurd h9 (nI_ne0 (by omega) (by omega)))
    refine lv_goto (tgt := 796) hx hb dL_law_768 rfl ?_
    exact kk _ _ _ _ _ _ _ _ _ _ hI hn w (lv_sub hl [2, 3, 4, 5, 6] rfl)

set_option maxHeartbeats 4000000 in
set_option maxRecDepth 100000 in
theorem cs_tip (K : cM E a2 qo cJ p l m c s b) (hX : va_X b L xs s s.heap) (hbl : b < s.heap.size) (hL : L ≤ 3072) {i : Nat} (hi : 6 * i + 6 ≤ L) (hcs : cells + 1 ≤ 601024 ∧ slots + 6 ≤ 7293034) {Inv : Mt → Nat → Nat → Mt → Nat → Prop} (hA1 : ¬ xs (6 * i + 3) = 0 → AgV l E a2 qo cJ Inv yL_tip (.codeWith yL_tip cL_tip 5 (some .int) [(0, 7, 10, 13)]) [.ref (ad E 0), .int (xs (6 * i + 1)), .int (xs (6 * i + 2)), .int (nI 1)] yX2_tip (.code yX2_tip cX2_tip 4 none) [.int (xs (6 * i + 1)), .int (xs (6 * i + 2)), .int (nI 1)] M n k g N t f) (hA0 : xs (6 * i + 3) = 0 → AgV l E a2 qo cJ Inv yL_tip (.codeWith yL_tip cL_tip 5 (some .int) [(0, 7, 10, 13)]) [.ref (ad E 0), .int (xs (6 * i + 1)), .int (xs (6 * i + 2)), .int (nI 0)] yX2_tip (.code yX2_tip cX2_tip 4 none) [.int (xs (6 * i + 1)), .int (xs (6 * i + 2)), .int (nI 0)] M n k g N t f) (kk : ∀ (M : Mt) (n' k : Nat) (g : Nat → Int64) (N : Mt) (t f : Nat) (H : Heap) (locs : List Loc) (ls : Array Slot), Inv M n' k N f → n' ≤ n + 1 → lS E a2 qo cJ s M n' k g N n' t f H locs → lv_has ls 7 [(4, .int (nI (6 * i))), (3, .ref qo), (2, .ref (a2 0)), (1, .ref (ad E 0)), (0, .ref b)] → W p l e room_1 s m #[Value.ref b] below meth c H locs (cells + 1) (slots + 6) Q (F0 m 796 ls [])) (w : lS E a2 qo cJ s M n k g N n t f H locs) (hl : lv_has ls 7 [(4, .int (nI (6 * i))), (3, .ref qo), (2, .ref (a2 0)), (1, .ref (ad E 0)), (0, .ref b)]) : W p l e room_1 s m #[Value.ref b] below meth c H locs cells slots Q (F0 m 268 ls []) := by
  have hx := K.1.1
  have hb := K.1.2.1
  by_cases hs : xs (6 * i + 3) = 0
  · obtain ⟨kc, M', n', k', g', N', f', fr, lo, hkc, hW, hR, hI, hn, hfr, hlo⟩ := hA0 hs
    refine lv_aload_n hx hb dL_law_268 rfl (lv_at hl 3 rfl) ?_
    refine lv_aload_n hx hb dL_law_269 rfl (lv_at hl 4 rfl) ?_
    refine lv_iload hx hb dL_law_270 (lv_at hl 0 rfl) ?_
    refine lv_iconst (v := nI 1) hx hb dL_law_272 (by decide) ?_
    refine lv_iadd hx hb dL_law_273 ?_
    refine topE (y := nI (6 * i + 1)) (nI_add _ _) ?_
    refine ldS K w hX hbl (by omega) hL dL_law_274 ?_
    refine lv_aload_n hx hb dL_law_275 rfl (lv_at hl 4 rfl) ?_
    refine lv_iload hx hb dL_law_276 (lv_at hl 0 rfl) ?_
    refine lv_iconst (v := nI 2) hx hb dL_law_278 (by decide) ?_
    refine lv_iadd hx hb dL_law_279 ?_
    refine topE (y := nI (6 * i + 2)) (nI_add _ _) ?_
    refine ldS K w hX hbl (by omega) hL dL_law_280 ?_
    refine lv_aload_n hx hb dL_law_281 rfl (lv_at hl 4 rfl) ?_
    refine lv_iload hx hb dL_law_282 (lv_at hl 0 rfl) ?_
    refine lv_iconst (v := nI 3) hx hb dL_law_284 (by decide) ?_
    refine lv_iadd hx hb dL_law_285 ?_
    refine topE (y := nI (6 * i + 3)) (nI_add _ _) ?_
    refine ldS K w hX hbl (by omega) hL dL_law_286 ?_
    refine lv_if_eq (tgt := 294) hx hb dL_law_287 rfl (fun _ => ?_) (fun h9 => absurd hs h9)
    refine lv_iconst (v := nI 0) hx hb dL_law_294 (by decide) ?_
    refine lcallW K w hW (ll_L_tip K) rfl hl.1 rfl (Nat.le_of_ble_eq_true rfl) dL_law_295 hcs (fun H locs w => ?_)
    refine lv_istore (lv' := [(5, .int _), (4, .int _), (3, .ref _), (2, .ref _), (1, .ref _), (0, .ref _)]) hx hb dL_law_298 hl (by decide) rfl (fun ls hl => ?_)
    refine lv_aload_n hx hb dL_law_300 rfl (lv_at hl 3 rfl) ?_
    refine lv_aload_n hx hb dL_law_301 rfl (lv_at hl 5 rfl) ?_
    refine lv_iload hx hb dL_law_302 (lv_at hl 1 rfl) ?_
    refine lv_iconst (v := nI 1) hx hb dL_law_304 (by decide) ?_
    refine lv_iadd hx hb dL_law_305 ?_
    refine topE (y := nI (6 * i + 1)) (nI_add _ _) ?_
    refine ldS K w hX hbl (by omega) hL dL_law_306 ?_
    refine lv_aload_n hx hb dL_law_307 rfl (lv_at hl 5 rfl) ?_
    refine lv_iload hx hb dL_law_308 (lv_at hl 1 rfl) ?_
    refine lv_iconst (v := nI 2) hx hb dL_law_310 (by decide) ?_
    refine lv_iadd hx hb dL_law_311 ?_
    refine topE (y := nI (6 * i + 2)) (nI_add _ _) ?_
    refine ldS K w hX hbl (by omega) hL dL_law_312 ?_
    refine lv_aload_n hx hb dL_law_313 rfl (lv_at hl 5 rfl) ?_
    refine lv_iload hx hb dL_law_314 (lv_at hl 1 rfl) ?_
    refine lv_iconst (v := nI 3) hx hb dL_law_316 (by decide) ?_
    refine lv_iadd hx hb dL_law_317 ?_
    refine topE (y := nI (6 * i + 3)) (nI_add _ _) ?_
    refine ldS K w hX hbl (by omega) hL dL_law_318 ?_
    refine lv_if_eq (tgt := 326) hx hb dL_law_319 rfl (fun _ => ?_) (fun h9 => absurd hs h9)
    refine lv_iconst (v := nI 0) hx hb dL_law_326 (by decide) ?_
    refine lcallRv K w hR (ll_X2_tip K ⟨by show fr + 1 ≤ 12; omega, by show 8 + (4 + 11) + lo ≤ 440; omega⟩) rfl hl.1 rfl (Nat.le_of_ble_eq_true rfl) dL_law_327 ⟨by show cells + 1 ≤ 601024; omega, by show slots + 6 ≤ 7293034; omega⟩ (fun H locs w => ?_)
    refine lv_aload_n hx hb dL_law_330 rfl (lv_at hl 3 rfl) ?_
    refine lcallR K w (c_X2_thrown K.2.2.1.2.2.1) (ll_X2_thrown K ⟨(Nat.le_of_ble_eq_true rfl), (Nat.le_of_ble_eq_true rfl)⟩) rfl hl.1 rfl (Nat.le_of_ble_eq_true rfl) dL_law_331 ⟨by show cells + 1 ≤ 601024; omega, by show slots + 6 ≤ 7293034; omega⟩ (fun H locs w => ?_)
    refine lv_iload hx hb dL_law_334 (lv_at hl 0 rfl) ?_
    refine lv_icmp_eq (tgt := 341) hx hb dL_law_336 rfl (fun _ => ?_) (fun h9 => absurd (rfl : nI kc = nI kc) h9)
    refine lv_goto (tgt := 796) hx hb dL_law_341 rfl ?_
    exact kk _ _ _ _ _ _ _ _ _ _ hI hn w (lv_sub hl [1, 2, 3, 4, 5] rfl)
  · obtain ⟨kc, M', n', k', g', N', f', fr, lo, hkc, hW, hR, hI, hn, hfr, hlo⟩ := hA1 hs
    refine lv_aload_n hx hb dL_law_268 rfl (lv_at hl 3 rfl) ?_
    refine lv_aload_n hx hb dL_law_269 rfl (lv_at hl 4 rfl) ?_
    refine lv_iload hx hb dL_law_270 (lv_at hl 0 rfl) ?_
    refine lv_iconst (v := nI 1) hx hb dL_law_272 (by decide) ?_
    refine lv_iadd hx hb dL_law_273 ?_
    refine topE (y := nI (6 * i + 1)) (nI_add _ _) ?_
    refine ldS K w hX hbl (by omega) hL dL_law_274 ?_
    refine lv_aload_n hx hb dL_law_275 rfl (lv_at hl 4 rfl) ?_
    refine lv_iload hx hb dL_law_276 (lv_at hl 0 rfl) ?_
    refine lv_iconst (v := nI 2) hx hb dL_law_278 (by decide) ?_
    refine lv_iadd hx hb dL_law_279 ?_
    refine topE (y := nI (6 * i + 2)) (nI_add _ _) ?_
    refine ldS K w hX hbl (by omega) hL dL_law_280 ?_
    refine lv_aload_n hx hb dL_law_281 rfl (lv_at hl 4 rfl) ?_
    refine lv_iload hx hb dL_law_282 (lv_at hl 0 rfl) ?_
    refine lv_iconst (v := nI 3) hx hb dL_law_284 (by decide) ?_
    refine lv_iadd hx hb dL_law_285 ?_
    refine topE (y := nI (6 * i + 3)) (nI_add _ _) ?_
    refine ldS K w hX hbl (by omega) hL dL_law_286 ?_
    refine lv_if_eq (tgt := 294) hx hb dL_law_287 rfl (fun h9 => absurd h9 hs) (fun _ => ?_)
    refine lv_iconst (v := nI 1) hx hb dL_law_290 (by decide) ?_
    refine lv_goto (tgt := 295) hx hb dL_law_291 rfl ?_
    refine lcallW K w hW (ll_L_tip K) rfl hl.1 rfl (Nat.le_of_ble_eq_true rfl) dL_law_295 hcs (fun H locs w => ?_)
    refine lv_istore (lv' := [(5, .int _), (4, .int _), (3, .ref _), (2, .ref _), (1, .ref _), (0, .ref _)]) hx hb dL_law_298 hl (by decide) rfl (fun ls hl => ?_)
    refine lv_aload_n hx hb dL_law_300 rfl (lv_at hl 3 rfl) ?_
    refine lv_aload_n hx hb dL_law_301 rfl (lv_at hl 5 rfl) ?_
    refine lv_iload hx hb dL_law_302 (lv_at hl 1 rfl) ?_
    refine lv_iconst (v := nI 1) hx hb dL_law_304 (by decide) ?_
    refine lv_iadd hx hb dL_law_305 ?_
    refine topE (y := nI (6 * i + 1)) (nI_add _ _) ?_
    refine ldS K w hX hbl (by omega) hL dL_law_306 ?_
    refine lv_aload_n hx hb dL_law_307 rfl (lv_at hl 5 rfl) ?_
    refine lv_iload hx hb dL_law_308 (lv_at hl 1 rfl) ?_
    refine lv_iconst (v := nI 2) hx hb dL_law_310 (by decide) ?_
    refine lv_iadd hx hb dL_law_311 ?_
    refine topE (y := nI (6 * i + 2)) (nI_add _ _) ?_
    refine ldS K w hX hbl (by omega) hL dL_law_312 ?_
    refine lv_aload_n hx hb dL_law_313 rfl (lv_at hl 5 rfl) ?_
    refine lv_iload hx hb dL_law_314 (lv_at hl 1 rfl) ?_
    refine lv_iconst (v := nI 3) hx hb dL_law_316 (by decide) ?_
    refine lv_iadd hx hb dL_law_317 ?_
    refine topE (y := nI (6 * i + 3)) (nI_add _ _) ?_
    refine ldS K w hX hbl (by omega) hL dL_law_318 ?_
    refine lv_if_eq (tgt := 326) hx hb dL_law_319 rfl (fun h9 => absurd h9 hs) (fun _ => ?_)
    refine lv_iconst (v := nI 1) hx hb dL_law_322 (by decide) ?_
    refine lv_goto (tgt := 327) hx hb dL_law_323 rfl ?_
    refine lcallRv K w hR (ll_X2_tip K ⟨by show fr + 1 ≤ 12; omega, by show 8 + (4 + 11) + lo ≤ 440; omega⟩) rfl hl.1 rfl (Nat.le_of_ble_eq_true rfl) dL_law_327 ⟨by show cells + 1 ≤ 601024; omega, by show slots + 6 ≤ 7293034; omega⟩ (fun H locs w => ?_)
    refine lv_aload_n hx hb dL_law_330 rfl (lv_at hl 3 rfl) ?_
    refine lcallR K w (c_X2_thrown K.2.2.1.2.2.1) (ll_X2_thrown K ⟨(Nat.le_of_ble_eq_true rfl), (Nat.le_of_ble_eq_true rfl)⟩) rfl hl.1 rfl (Nat.le_of_ble_eq_true rfl) dL_law_331 ⟨by show cells + 1 ≤ 601024; omega, by show slots + 6 ≤ 7293034; omega⟩ (fun H locs w => ?_)
    refine lv_iload hx hb dL_law_334 (lv_at hl 0 rfl) ?_
    refine lv_icmp_eq (tgt := 341) hx hb dL_law_336 rfl (fun _ => ?_) (fun h9 => absurd (rfl : nI kc = nI kc) h9)
    refine lv_goto (tgt := 796) hx hb dL_law_341 rfl ?_
    exact kk _ _ _ _ _ _ _ _ _ _ hI hn w (lv_sub hl [1, 2, 3, 4, 5] rfl)

set_option maxHeartbeats 4000000 in
set_option maxRecDepth 100000 in
theorem cs_count (K : cM E a2 qo cJ p l m c s b) (hX : va_X b L xs s s.heap) (hbl : b < s.heap.size) (hL : L ≤ 3072) {i : Nat} (hi : 6 * i + 6 ≤ L) (hcs : cells + 1 ≤ 601024 ∧ slots + 6 ≤ 7293034) {Inv : Mt → Nat → Nat → Mt → Nat → Prop} (hA : AgC l E a2 Inv (xs (6 * i + 1)) M n k N t f) (kk : ∀ (M : Mt) (n' k : Nat) (g : Nat → Int64) (N : Mt) (t f : Nat) (H : Heap) (locs : List Loc) (ls : Array Slot), Inv M n' k N f → n' ≤ n + 1 → lS E a2 qo cJ s M n' k g N n' t f H locs → lv_has ls 7 [(4, .int (nI (6 * i))), (3, .ref qo), (2, .ref (a2 0)), (1, .ref (ad E 0)), (0, .ref b)] → W p l e room_1 s m #[Value.ref b] below meth c H locs (cells + 1) (slots + 6) Q (F0 m 796 ls [])) (w : lS E a2 qo cJ s M n k g N n t f H locs) (hl : lv_has ls 7 [(4, .int (nI (6 * i))), (3, .ref qo), (2, .ref (a2 0)), (1, .ref (ad E 0)), (0, .ref b)]) : W p l e room_1 s m #[Value.ref b] below meth c H locs cells slots Q (F0 m 771 ls []) := by
  have hx := K.1.1
  have hb := K.1.2.1
  obtain ⟨rr, M', n', k', N', t', f', fr, lo, fr2, lo2, hC, hR, hI, hn, hfr, hlo, hfr2, hlo2⟩ := hA
  refine lv_aload_n hx hb dL_law_771 rfl (lv_at hl 3 rfl) ?_
  refine lv_aload_n hx hb dL_law_772 rfl (lv_at hl 4 rfl) ?_
  refine lv_iload hx hb dL_law_773 (lv_at hl 0 rfl) ?_
  refine lv_iconst (v := nI 1) hx hb dL_law_775 (by decide) ?_
  refine lv_iadd hx hb dL_law_776 ?_
  refine topE (y := nI (6 * i + 1)) (nI_add _ _) ?_
  refine ldS K w hX hbl (by omega) hL dL_law_777 ?_
  refine lcallC K w hC (ll_X1_count K ⟨by show fr + 1 ≤ 12; omega, by show 8 + (2 + 11) + lo ≤ 440; omega⟩) rfl hl.1 rfl (Nat.le_of_ble_eq_true rfl) dL_law_778 ⟨by show cells ≤ 601024; omega, by show slots ≤ 7293034; omega⟩ (fun H locs w => ?_)
  refine lv_aload_n hx hb dL_law_781 rfl (lv_at hl 2 rfl) ?_
  refine lv_aload_n hx hb dL_law_782 rfl (lv_at hl 4 rfl) ?_
  refine lv_iload hx hb dL_law_783 (lv_at hl 0 rfl) ?_
  refine lv_iconst (v := nI 1) hx hb dL_law_785 (by decide) ?_
  refine lv_iadd hx hb dL_law_786 ?_
  refine topE (y := nI (6 * i + 1)) (nI_add _ _) ?_
  refine ldS K w hX hbl (by omega) hL dL_law_787 ?_
  refine lcallR K w hR (ll_X2_count K ⟨by show fr2 + 1 ≤ 12; omega, by show 8 + (7 + 11) + lo2 ≤ 440; omega⟩) rfl hl.1 rfl (Nat.le_of_ble_eq_true rfl) dL_law_788 ⟨by show cells ≤ 601024; omega, by show slots ≤ 7293034; omega⟩ (fun H locs w => ?_)
  refine lv_icmp_eq (tgt := 796) hx hb dL_law_791 rfl (fun _ => ?_) (fun h9 => absurd (rfl : rr = rr) h9)
  refine W.widen (k := cells + 1) (n := slots + 6) (Nat.le_succ _) (Nat.le_add_right _ _) ?_
  exact kk _ _ _ _ _ _ _ _ _ _ hI hn w (lv_sub hl [0, 1, 2, 3, 4] rfl)

end LP
