def SOK (l : Launch) (E : En) (a2 : Nat → Nat) (qo : Nat) (cJ : ClassId) (Inv : Mt → Nat → Nat → Mt → Nat → Prop) : Prop := ∀ (M : Mt) (n k : Nat) (g : Nat → Int64) (N : Mt) (t f : Nat), Inv M n k N f → n ≤ 600 →
  (∀ p1 p2 p3 p4 p5 : Int32, AgI l E a2 qo cJ Inv yL_add (.codeWith yL_add cL_add 8 (some .int) [(0, 16, 19, 13), (0, 16, 23, 15)]) [.ref (ad E 0), .int p1, .int p2, .int p3, .int p4, .int p5, .ref qo] yX2_add (.code yX2_add cX2_add 6 (some .int)) [.int p1, .int p2, .int p3, .int p4, .int p5] PI M n k g N t f) ∧
  (∀ p1 p2 : Int32, AgI l E a2 qo cJ Inv yL_under (.codeWith yL_under cL_under 5 (some .int) [(0, 10, 13, 13), (0, 10, 17, 15)]) [.ref (ad E 0), .int p1, .int p2, .ref qo] yX2_under (.code yX2_under cX2_under 3 (some .int)) [.int p1, .int p2] PI M n k g N t f) ∧
  (∀ p1 p2 : Int32, AgI l E a2 qo cJ Inv yL_reaches (.codeWith yL_reaches cL_reaches 5 (some .int) [(0, 17, 20, 13)]) [.ref (ad E 0), .int p1, .int p2, .ref qo] yX2_reaches (.code yX2_reaches cX2_reaches 3 (some .boolean)) [.int p1, .int p2] PZ M n k g N t f) ∧
  (∀ p1 p2 p3 : Int32, AgI l E a2 qo cJ Inv yL_base (.codeWith yL_base cL_base 6 (some .int) [(0, 12, 15, 13), (0, 12, 19, 33)]) [.ref (ad E 0), .int p1, .int p2, .int p3, .ref qo] yX2_base (.code yX2_base cX2_base 6 (some .int)) [.int p1, .int p2, .int p3] PI M n k g N t f) ∧
  (∀ p1 p2 : Int32, AgI l E a2 qo cJ Inv yL_log (.codeWith yL_log cL_log 5 (some .int) [(0, 10, 13, 13), (0, 10, 17, 33)]) [.ref (ad E 0), .int p1, .int p2, .ref qo] yX2_log (.code yX2_log cX2_log 5 (some .int)) [.int p1, .int p2] PI M n k g N t f) ∧
  (∀ p1 p2 : Int32, AgI l E a2 qo cJ Inv yL_back (.codeWith yL_back cL_back 5 (some .int) [(0, 10, 13, 13), (0, 10, 17, 33)]) [.ref (ad E 0), .int p1, .int p2, .ref qo] yX2_back (.code yX2_back cX2_back 5 (some .int)) [.int p1, .int p2] PI M n k g N t f) ∧
  (∀ p1 p2 : Int32, AgI l E a2 qo cJ Inv yL_sent (.codeWith yL_sent cL_sent 5 (some .int) [(0, 10, 13, 13), (0, 10, 17, 33)]) [.ref (ad E 0), .int p1, .int p2, .ref qo] yX2_sent (.code yX2_sent cX2_sent 7 (some .int)) [.int p1, .int p2] PI M n k g N t f) ∧
  (∀ p1 p2 : Int32, AgI l E a2 qo cJ Inv yL_told (.codeWith yL_told cL_told 5 (some .int) [(0, 10, 13, 13)]) [.ref (ad E 0), .int p1, .int p2, .ref qo] yX2_told (.code yX2_told cX2_told 3 (some .int)) [.int p1, .int p2] PI M n k g N t f) ∧
  (∀ p1 p2 : Int32, AgV l E a2 qo cJ Inv yL_tip (.codeWith yL_tip cL_tip 5 (some .int) [(0, 7, 10, 13)]) [.ref (ad E 0), .int p1, .int p2, .int (nI 1)] yX2_tip (.code yX2_tip cX2_tip 4 none) [.int p1, .int p2, .int (nI 1)] M n k g N t f) ∧
  (∀ p1 p2 : Int32, AgV l E a2 qo cJ Inv yL_tip (.codeWith yL_tip cL_tip 5 (some .int) [(0, 7, 10, 13)]) [.ref (ad E 0), .int p1, .int p2, .int (nI 0)] yX2_tip (.code yX2_tip cX2_tip 4 none) [.int p1, .int p2, .int (nI 0)] M n k g N t f) ∧
  (∀ x : Int32, AgC l E a2 Inv x M n k N t f)
theorem inc6 (i : Nat) : nI (6 * i) + Int32.ofInt 6 = nI (6 * (i + 1)) := nI_add (6 * i) 6
theorem len_t {L i : Nat} (hL : L ≤ 3072) (hi : i ≤ 600) (h : ¬ 6 * i + 6 ≤ L) : nI L - nI 6 < nI (6 * i) := by
  simp only [Int32.lt_iff_toInt_lt]
  rw [pk_sub_toInt (by omega) (by omega), nI_toInt (by omega)]
  omega
theorem len_f {L i : Nat} (hL : L ≤ 3072) (h : 6 * i + 6 ≤ L) : ¬ nI L - nI 6 < nI (6 * i) := by
  simp only [Int32.lt_iff_toInt_lt]
  rw [pk_sub_toInt (by omega) (by omega), nI_toInt (by omega)]
  omega
section LQ
variable {p : Program} {l : Launch} {e : Env} {s : State} {m : MethodId} {below : List Frame} {meth : Method} {c : Code} {H : Heap} {locs : List Loc} {cells slots : Nat} {Q : State → Prop} {ls : Array Slot} {E : En} {a2 : Nat → Nat} {qo b L : Nat} {cJ : ClassId} {xs : Nat → Int32} {M N : Mt} {n k t f : Nat} {g : Nat → Int64}
set_option maxHeartbeats 4000000 in
set_option maxRecDepth 100000 in
theorem law_loop (K : cM E a2 qo cJ p l m c s b) (hr : meth.sig.returnType = ret) (hlocks : meth.locks = false) (hX : va_X b L xs s s.heap) (hbl : b < s.heap.size) (hL : L ≤ 3072) {Inv : Mt → Nat → Nat → Mt → Nat → Prop} (hst : SOK l E a2 qo cJ Inv) : ∀ (d i : Nat) (M : Mt) (n k : Nat) (g : Nat → Int64) (N : Mt) (t f : Nat) (H : Heap) (locs : List Loc) (ls : Array Slot), L < 6 * i + 6 * d → i ≤ 513 → n ≤ i → Inv M n k N f → lS E a2 qo cJ s M n k g N n t f H locs → lv_has ls 7 [(4, .int (nI (6 * i))), (3, .ref qo), (2, .ref (a2 0)), (1, .ref (ad E 0)), (0, .ref b)] → W p l e room_1 s m #[Value.ref b] below meth c H locs (25 + i) (56028 + 6 * i) (lw_Z below #[Value.ref b] s) (F0 m 23 ls []) := by
  have hx := K.1.1
  have hb := K.1.2.1
  intro d
  induction d with
  | zero =>
    intro i M n k g N t f H locs ls hd hi hn hI w hl
    refine lv_iload hx hb dL_law_23 (lv_at hl 0 rfl) ?_
    refine lv_aload_n hx hb dL_law_25 rfl (lv_at hl 4 rfl) ?_
    refine va_slen hx hb hX hbl (A := aS s) (fun h => Nat.lt_irrefl _ (Nat.lt_of_lt_of_le hbl h)) w.2.2.2 dL_law_26 ?_
    refine topE (y := nI L) rfl ?_
    refine lv_bipush (v := nI 6) hx hb dL_law_27 (by decide) ?_
    refine lv_isub hx hb dL_law_29 ?_
    refine lv_icmp_gt (tgt := 802) hx hb dL_law_30 rfl (fun _ => ?_) (fun h9 => absurd (len_t hL (by omega) (by omega)) h9)
    refine lv_iconst (v := 1) hx hb dL_law_802 (by decide) ?_
    refine va_forget (fun q hq => w.2.2.2.2.2 q hq) ?_
    refine W.widen (k := 601024) (n := 7293034) (by omega) (by omega) ?_
    exact lw_ret hx hb hr hlocks dL_law_803
  | succ d ih =>
    intro i M n k g N t f H locs ls hd hi hn hI w hl
    have st := hst M n k g N t f hI (by omega)
    have next : ∀ (M : Mt) (n' k : Nat) (g : Nat → Int64) (N : Mt) (t f : Nat) (H : Heap) (locs : List Loc) (ls : Array Slot), 6 * i + 6 ≤ L → Inv M n' k N f → n' ≤ n + 1 → lS E a2 qo cJ s M n' k g N n' t f H locs → lv_has ls 7 [(4, .int (nI (6 * i))), (3, .ref qo), (2, .ref (a2 0)), (1, .ref (ad E 0)), (0, .ref b)] → W p l e room_1 s m #[Value.ref b] below meth c H locs (25 + i + 1) (56028 + 6 * i + 6) (lw_Z below #[Value.ref b] s) (F0 m 796 ls []) := by
      intro M n' k g N t f H locs ls h6 hI hn' w hl
      refine lv_iinc (k := 0) (v := nI (6 * (i + 1))) (lv' := [(4, .int _), (3, .ref _), (2, .ref _), (1, .ref _), (0, .ref _)]) hx hb dL_law_796 hl rfl (inc6 i) (by decide) rfl (fun ls hl => ?_)
      refine lv_goto (tgt := 23) hx hb dL_law_799 rfl ?_
      refine W.widen (k := 25 + (i + 1)) (n := 56028 + 6 * (i + 1)) (by omega) (by omega) ?_
      exact ih (i + 1) M n' k g N t f H locs ls (by omega) (by omega) (by omega) hI w hl
    by_cases h6 : 6 * i + 6 ≤ L
    · refine lv_iload hx hb dL_law_23 (lv_at hl 0 rfl) ?_
      refine lv_aload_n hx hb dL_law_25 rfl (lv_at hl 4 rfl) ?_
      refine va_slen hx hb hX hbl (A := aS s) (fun h => Nat.lt_irrefl _ (Nat.lt_of_lt_of_le hbl h)) w.2.2.2 dL_law_26 ?_
      refine topE (y := nI L) rfl ?_
      refine lv_bipush (v := nI 6) hx hb dL_law_27 (by decide) ?_
      refine lv_isub hx hb dL_law_29 ?_
      refine lv_icmp_gt (tgt := 802) hx hb dL_law_30 rfl (fun h9 => absurd h9 (len_f hL h6)) (fun _ => ?_)
      refine lv_aload_n hx hb dL_law_33 rfl (lv_at hl 4 rfl) ?_
      refine lv_iload hx hb dL_law_34 (lv_at hl 0 rfl) ?_
      refine ldS K w hX hbl (by omega) hL dL_law_36 ?_
      refine lv_bipush (v := nI 15) hx hb dL_law_37 (by decide) ?_
      refine lv_iand hx hb dL_law_39 ?_
      obtain ⟨j, hj, hje⟩ := pk_andE (xs (6 * i)) (m := nI 15) 4 (by decide)
      refine topE (y := nI j) hje ?_
      by_cases hj0 : j = 0
      · subst hj0
        refine lv_tableIn (off := 56) (tgt := 96) hx hb dL_law_40 (by decide) (by decide) (by decide) rfl ?_
        exact cs_add K hX hbl hL h6 ⟨by omega, by omega⟩ (Inv := Inv) (st.1 _ _ _ _ _) (fun M n' k g N t f H locs ls hI hn w hl => next M n' k g N t f H locs ls h6 hI hn w hl) w hl
      by_cases hj1 : j = 1
      · subst hj1
        refine lv_tableIn (off := 160) (tgt := 200) hx hb dL_law_40 (by decide) (by decide) (by decide) rfl ?_
        exact cs_under K hX hbl hL h6 ⟨by omega, by omega⟩ (Inv := Inv) (st.2.1 _ _) (fun M n' k g N t f H locs ls hI hn w hl => next M n' k g N t f H locs ls h6 hI hn w hl) w hl
      by_cases hj2 : j = 2
      · subst hj2
        refine lv_tableIn (off := 228) (tgt := 268) hx hb dL_law_40 (by decide) (by decide) (by decide) rfl ?_
        exact cs_tip K hX hbl hL h6 ⟨by omega, by omega⟩ (Inv := Inv) (fun _ => st.2.2.2.2.2.2.2.2.1 _ _) (fun _ => st.2.2.2.2.2.2.2.2.2.1 _ _) (fun M n' k g N t f H locs ls hI hn w hl => next M n' k g N t f H locs ls h6 hI hn w hl) w hl
      by_cases hj3 : j = 3
      · subst hj3
        refine lv_tableIn (off := 304) (tgt := 344) hx hb dL_law_40 (by decide) (by decide) (by decide) rfl ?_
        exact cs_reaches K hX hbl hL h6 ⟨by omega, by omega⟩ (Inv := Inv) (st.2.2.1 _ _) (fun M n' k g N t f H locs ls hI hn w hl => next M n' k g N t f H locs ls h6 hI hn w hl) w hl
      by_cases hj4 : j = 4
      · subst hj4
        refine lv_tableIn (off := 379) (tgt := 419) hx hb dL_law_40 (by decide) (by decide) (by decide) rfl ?_
        exact cs_base K hX hbl hL h6 ⟨by omega, by omega⟩ (Inv := Inv) (st.2.2.2.1 _ _ _) (fun M n' k g N t f H locs ls hI hn w hl => next M n' k g N t f H locs ls h6 hI hn w hl) w hl
      by_cases hj5 : j = 5
      · subst hj5
        refine lv_tableIn (off := 459) (tgt := 499) hx hb dL_law_40 (by decide) (by decide) (by decide) rfl ?_
        exact cs_log K hX hbl hL h6 ⟨by omega, by omega⟩ (Inv := Inv) (st.2.2.2.2.1 _ _) (fun M n' k g N t f H locs ls hI hn w hl => next M n' k g N t f H locs ls h6 hI hn w hl) w hl
      by_cases hj6 : j = 6
      · subst hj6
        refine lv_tableIn (off := 527) (tgt := 567) hx hb dL_law_40 (by decide) (by decide) (by decide) rfl ?_
        exact cs_back K hX hbl hL h6 ⟨by omega, by omega⟩ (Inv := Inv) (st.2.2.2.2.2.1 _ _) (fun M n' k g N t f H locs ls hI hn w hl => next M n' k g N t f H locs ls h6 hI hn w hl) w hl
      by_cases hj7 : j = 7
      · subst hj7
        refine lv_tableIn (off := 595) (tgt := 635) hx hb dL_law_40 (by decide) (by decide) (by decide) rfl ?_
        exact cs_sent K hX hbl hL h6 ⟨by omega, by omega⟩ (Inv := Inv) (st.2.2.2.2.2.2.1 _ _) (fun M n' k g N t f H locs ls hI hn w hl => next M n' k g N t f H locs ls h6 hI hn w hl) w hl
      by_cases hj8 : j = 8
      · subst hj8
        refine lv_tableIn (off := 663) (tgt := 703) hx hb dL_law_40 (by decide) (by decide) (by decide) rfl ?_
        exact cs_told K hX hbl hL h6 ⟨by omega, by omega⟩ (Inv := Inv) (st.2.2.2.2.2.2.2.1 _ _) (fun M n' k g N t f H locs ls hI hn w hl => next M n' k g N t f H locs ls h6 hI hn w hl) w hl
      by_cases hj9 : j = 9
      · subst hj9
        refine lv_tableIn (off := 731) (tgt := 771) hx hb dL_law_40 (by decide) (by decide) (by decide) rfl ?_
        exact cs_count K hX hbl hL h6 ⟨by omega, by omega⟩ (Inv := Inv) (st.2.2.2.2.2.2.2.2.2.2 _) (fun M n' k g N t f H locs ls hI hn w hl => next M n' k g N t f H locs ls h6 hI hn w hl) w hl
      refine lv_tableOut (tgt := 796) hx hb dL_law_40 (Or.inr (by rw [nI_toInt (by omega)]; omega)) rfl ?_
      refine W.widen (k := 25 + i + 1) (n := 56028 + 6 * i + 6) (Nat.le_succ _) (Nat.le_add_right _ _) ?_
      exact next M n k g N t f H locs ls h6 hI (Nat.le_succ _) w hl
    · refine lv_iload hx hb dL_law_23 (lv_at hl 0 rfl) ?_
      refine lv_aload_n hx hb dL_law_25 rfl (lv_at hl 4 rfl) ?_
      refine va_slen hx hb hX hbl (A := aS s) (fun h => Nat.lt_irrefl _ (Nat.lt_of_lt_of_le hbl h)) w.2.2.2 dL_law_26 ?_
      refine topE (y := nI L) rfl ?_
      refine lv_bipush (v := nI 6) hx hb dL_law_27 (by decide) ?_
      refine lv_isub hx hb dL_law_29 ?_
      refine lv_icmp_gt (tgt := 802) hx hb dL_law_30 rfl (fun _ => ?_) (fun h9 => absurd (len_t hL (by omega) (by omega)) h9)
      refine lv_iconst (v := 1) hx hb dL_law_802 (by decide) ?_
      refine va_forget (fun q hq => w.2.2.2.2.2 q hq) ?_
      refine W.widen (k := 601024) (n := 7293034) (by omega) (by omega) ?_
      exact lw_ret hx hb hr hlocks dL_law_803
end LQ
