set_option maxRecDepth 100000 in
set_option maxHeartbeats 4000000 in
theorem wX_in : ∀ w ∈ wX, w ∈ lw_tbl := by
  intro w hw
  have h : wX.map some = [40, 52, 54, 115, 165, 166, 167, 168, 169, 170, 274, 275, 276, 277, 283, 284, 285, 286, 294, 295, 296, 297, 309, 310, 311, 312, 313, 376, 377, 378, 379, 399, 400, 401, 402, 408, 409, 410, 411, 415, 416, 417, 418, 429, 431, 472, 476, 488, 504, 508, 520, 536, 544, 548, 560, 564].map (fun i => lw_tbl[i]?) := by rfl
  have h1 : some w ∈ wX.map some := List.mem_map.mpr ⟨w, hw, rfl⟩
  rw [h] at h1
  obtain ⟨i, -, hi⟩ := List.mem_map.mp h1
  exact List.mem_of_getElem? hi
set_option maxRecDepth 100000 in
set_option maxHeartbeats 4000000 in
theorem wC_in : ∀ w ∈ wC, w ∈ lw_tbl := by
  intro w hw
  have h : wC.map some = [0, 1, 2, 3, 4, 5, 6, 7, 8, 9, 10, 11, 12, 13, 14, 15, 16, 17, 18, 19, 20, 21, 22, 23, 24, 25, 26, 41, 42, 44, 45, 46, 47, 48, 49, 50, 51, 53, 55, 56, 57, 58, 59, 60, 61, 63, 64, 65, 66, 67, 68, 69, 70, 71, 72, 73, 74, 75, 76, 77, 78, 79, 80, 81, 82, 83, 84, 85, 86, 87, 88, 89, 90, 91, 92, 93, 94, 95, 96, 97, 98, 99, 100, 101, 102, 103, 104, 105, 106, 107, 108, 109, 110, 111, 112, 113, 114, 116, 117, 118, 119, 121, 122, 123, 124, 125, 126, 128, 129, 130, 131, 132, 133, 135, 136, 137, 139, 140, 141, 143, 144, 145, 147, 148, 149, 151, 152, 153, 155, 156, 157, 159, 160, 161, 163, 164, 171, 172, 173, 174, 176, 177, 178, 180, 181, 182, 183, 191, 192, 193, 194, 195, 196, 197, 198, 199, 200, 201, 202, 203, 204, 205, 206, 207, 208, 210, 212, 213, 215, 216, 217, 218, 220, 221, 222, 224, 225, 226, 227, 228, 229, 230, 231, 232, 233, 234, 235, 237, 238, 239, 240, 241, 242, 243, 244, 245, 246, 247, 248, 249, 250, 251, 253, 254, 255, 256, 257, 258, 260, 261, 262, 263, 264, 265, 266, 268, 269, 270, 272, 273, 278, 279, 280, 287, 288, 289, 290, 291, 292, 298, 299, 300, 301, 303, 304, 305, 307, 308, 314, 315, 316, 317, 318, 319, 320, 321, 323, 324, 325, 326, 327, 328, 329, 331, 332, 333, 335, 336, 337, 339, 340, 341, 343, 344, 345, 346, 347, 348, 349, 350, 351, 352, 353, 355, 356, 357, 358, 359, 360, 362, 363, 364, 365, 366, 367, 368, 369, 370, 371, 372, 374, 375, 380, 381, 382, 383, 385, 386, 387, 389, 390, 391, 393, 394, 395, 397, 398, 403, 404, 405, 412, 413, 414, 419, 420, 421, 422, 423, 424, 425, 426, 427, 568].map (fun i => lw_tbl[i]?) := by rfl
  have h1 : some w ∈ wC.map some := List.mem_map.mpr ⟨w, hw, rfl⟩
  rw [h] at h1
  obtain ⟨i, -, hi⟩ := List.mem_map.mp h1
  exact List.mem_of_getElem? hi
set_option maxRecDepth 100000 in
set_option maxHeartbeats 4000000 in
theorem wR_in : ∀ w ∈ wR, w ∈ lw_tbl := by
  intro w hw
  have h : wR.map some = [27, 28, 29, 30, 31, 32, 33, 34, 35, 36, 37, 38, 39, 43, 49, 58, 59, 79, 80, 131, 132, 249, 430, 432, 433, 434, 435, 436, 437, 438, 439, 440, 441, 442, 443, 444, 445, 446, 447, 448, 449, 450, 451, 452, 453, 454, 455, 456, 457, 458, 459, 460, 461, 462, 463, 464, 465, 466, 467, 468, 469, 470, 471, 473, 474, 475, 477, 478, 479, 480, 482, 483, 484, 486, 487, 489, 490, 491, 492, 494, 495, 496, 498, 499, 500, 502, 503, 505, 506, 507, 509, 510, 511, 512, 514, 515, 516, 518, 519, 521, 522, 523, 524, 526, 527, 528, 530, 531, 532, 534, 535, 537, 538, 539, 540, 542, 543, 545, 546, 547, 549, 550, 551, 552, 554, 555, 556, 558, 559, 561, 562, 563, 565, 566, 567, 568].map (fun i => lw_tbl[i]?) := by rfl
  have h1 : some w ∈ wR.map some := List.mem_map.mpr ⟨w, hw, rfl⟩
  rw [h] at h1
  obtain ⟨i, -, hi⟩ := List.mem_map.mp h1
  exact List.mem_of_getElem? hi
abbrev e2 (E : En) (a2 : Nat → Nat) : En := (E.1, E.2.1, E.2.2.1, a2)
/-- the law's own frame: nothing that was there before -/
def aS (s : State) : Nat → Prop := fun q => s.heap.size ≤ q
/-- the law's place: code, words, kinds, and which cells lie apart -/
def cM (E : En) (a2 : Nat → Nat) (qo : Nat) (cJ : ClassId) (p : Program) (l : Launch) (m : MethodId) (c : Code) (s : State) (b : Nat) : Prop := CallFix p m c code 7 s #[Value.ref b] lw_tbl RL ∧ va_K E.1 vcl (tyL E cJ) s ∧ (dN E ∧ apo E qo ∧ dM (e2 E a2) ∧ (∀ i j, i < 14 → j < 10 → a2 j ≠ ad E i) ∧ ∀ j, j < 10 → a2 j ≠ qo) ∧ ((∀ i, i < 14 → s.heap.size ≤ ad E i) ∧ (∀ j, j < 10 → s.heap.size ≤ a2 j) ∧ s.heap.size ≤ qo) ∧ (∀ A : Nat → Prop, (∀ q, A q → s.heap.size ≤ q) → vx_Zq Bundle.tN "UNASSIGNED_STACK" Bundle.steD A s s.heap ∧ vx_Zq Bundle.tN "SUPPRESSED_SENTINEL" Bundle.listD A s s.heap) ∧ ((∀ x ∈ strL, ∃ sa : Nat, vk_R RX1 x.1 x.2 sa s) ∧ (∀ X ∈ xL, va_Nw (.castable X X) s) ∧ ∀ x ∈ dL, va_Nw (.declares x) s) ∧ va_Nc "java/lang/IllegalStateException" "java/lang/IllegalArgumentException" s ∧ va_Nc "java/util/NoSuchElementException" "java/lang/IllegalArgumentException" s
def lS (E : En) (a2 : Nat → Nat) (qo : Nat) (cJ : ClassId) (s : State) (M : Mt) (n k : Nat) (g : Nat → Int64) (N : Mt) (z t f : Nat) (H : Heap) (locs : List Loc) : Prop := va_P E.1 vcl (wN E M n k) H ∧ va_P E.1 vcl (vN (e2 E a2) N z t f) H ∧ va_P E.1 vcl (oL qo cJ g) H ∧ va_S (aS s) s.heap H locs
theorem vN_kept {E : En} {D : va_G} {cl : List vw_C} {N : Mt} {z t f : Nat} {H H1 : Heap} (h : va_P D cl (vN E N z t f) H) (hq : ∀ j, j < 10 → H1[ad E j]? = H[ad E j]?) : va_P D cl (vN E N z t f) H1 := h.kept (fun k q hk => by
  obtain ⟨h1, h2⟩ := vN_addr hk
  rw [h2]
  exact hq k h1)
theorem wN_kept {E : En} {D : va_G} {cl : List vw_C} {M : Mt} {n k : Nat} {H H1 : Heap} (h : va_P D cl (wN E M n k) H) (hq : ∀ j, j < 14 → H1[ad E j]? = H[ad E j]?) : va_P D cl (wN E M n k) H1 := h.kept (fun k q hk => by
  obtain ⟨h1, h2⟩ := wN_addr hk
  rw [h2]
  exact hq k h1)
theorem vN_lt {E : En} {D : va_G} {cl : List vw_C} {N : Mt} {z t f : Nat} {H : Heap} (h : va_P D cl (vN E N z t f) H) {j : Nat} (hj : j < 10) : ad E j < H.size := by
  have hlen : (vN E N z t f).length = 10 := rfl
  obtain ⟨a, ha⟩ : ∃ a, (vN E N z t f)[j]? = some a := ⟨_, List.getElem?_eq_getElem (by rw [hlen]; exact hj)⟩
  rw [← (vN_addr ha).2]
  exact (h j a ha).lt
theorem wN_lt {E : En} {D : va_G} {cl : List vw_C} {M : Mt} {n k : Nat} {H : Heap} (h : va_P D cl (wN E M n k) H) {j : Nat} (hj : j < 14) : ad E j < H.size := by
  have hlen : (wN E M n k).length = 14 := rfl
  obtain ⟨a, ha⟩ : ∃ a, (wN E M n k)[j]? = some a := ⟨_, List.getElem?_eq_getElem (by rw [hlen]; exact hj)⟩
  rw [← (wN_addr ha).2]
  exact (h j a ha).lt
theorem at_inT {L : List Cond} (ps : List Nat) (h : ps.map (fun i => lw_tbl[i]?) = L.map some) : ∀ w ∈ L, w ∈ lw_tbl := by
  intro w hw
  have h1 : some w ∈ ps.map (fun i => lw_tbl[i]?) := by rw [h]; exact List.mem_map.mpr ⟨w, hw, rfl⟩
  obtain ⟨i, -, hi⟩ := List.mem_map.mp h1
  exact List.mem_of_getElem? hi
theorem gLT {w1 : Cond} {L ws : List Cond} (hw : ∀ w ∈ ws, w ∈ lw_tbl ∧ ((w.onTables && w.keeps) = true ∨ ∃ ty, w = .arrayClass ty)) (h1 : w1 ∈ lw_tbl ∧ ((w1.onTables && w1.keeps) = true ∨ ∃ ty, w1 = .arrayClass ty)) (hl : ∀ w ∈ L, w ∈ lw_tbl) (hg : L.all goodWord = true) : GoodIn lw_tbl (L ++ (w1 :: ws)) := by
  intro w h
  rcases List.mem_append.mp h with h | h
  · exact ⟨hl w h, good_of_word (List.all_eq_true.mp hg w h)⟩
  · rcases List.mem_cons.mp h with rfl | h
    · exact h1
    · exact hw w h
theorem wW_T {w : Cond} (h : w ∈ wW) : w ∈ lw_tbl ∧ ((w.onTables && w.keeps) = true ∨ ∃ ty, w = .arrayClass ty) := ⟨(List.mem_append.mp h).elim (wX_in w) (wC_in w), wW_good h⟩
theorem wC_T {w : Cond} (h : w ∈ wC) : w ∈ lw_tbl ∧ ((w.onTables && w.keeps) = true ∨ ∃ ty, w = .arrayClass ty) := ⟨wC_in w h, wC_good h⟩
theorem wR_T {w : Cond} (h : w ∈ wR) : w ∈ lw_tbl ∧ ((w.onTables && w.keeps) = true ∨ ∃ ty, w = .arrayClass ty) := ⟨wR_in w h, wR_good h⟩
theorem pW_blind {E : En} {qo : Nat} {cJ : ClassId} {av : List Value} {sz : Nat} {M : Mt} {n k : Nat} {g : Nat → Int64} : FrameBlind (va_Pc av (fun U => U.heap.size = sz ∧ va_P E.1 vcl (wN E M n k) U.heap ∧ va_P E.1 vcl (oL qo cJ g) U.heap ∧ va_K E.1 vcl (tyL E cJ) U ∧ zW E qo sz U)) := by
  intro a U gg mk q
  obtain ⟨q0, q1, qP, qO, qK, ⟨z1, z2, z3, z4, z5⟩, z6, z7⟩ := q
  exact ⟨q0, q1, qP, qO, va_K.moved (u := U) (U := U.calling gg mk a) (Vm.Alike.refl U.vm) qK, ⟨vx_Zq.moved (u := U) (U := U.calling gg mk a) (Vm.Alike.refl U.vm) z1, vx_Zq.moved (u := U) (U := U.calling gg mk a) (Vm.Alike.refl U.vm) z2, fun x hx => by obtain ⟨sa, h⟩ := z3 x hx; exact ⟨sa, vk_R.same (u := U) (U := U.calling gg mk a) rfl h⟩, fun X hX => va_Nw.same (u := U) (U := U.calling gg mk a) rfl rfl (z4 X hX), fun x hx => va_Nw.same (u := U) (U := U.calling gg mk a) rfl rfl (z5 x hx)⟩, va_Nc.moved (u := U) (U := U.calling gg mk a) (Vm.Alike.refl U.vm) z6, va_Nc.moved (u := U) (U := U.calling gg mk a) (Vm.Alike.refl U.vm) z7⟩
section LC
variable {p : Program} {l : Launch} {e : Env} {s : State} {m : MethodId} {below : List Frame} {meth : Method} {c : Code} {H : Heap} {locs : List Loc} {cells slots : Nat} {Q : State → Prop} {pc : Nat} {ls : Array Slot} {rest st : List Value} {w1 : Cond} {E : En} {a2 : Nat → Nat} {qo b : Nat} {cJ : ClassId} {M M' N N' : Mt} {n k n' k' z t f z' t' f' : Nat} {g g' : Nat → Int64}
variable {y : MethodName} {bytes : ByteArray} {maxL fr lo idx nA : Nat} {As : List Value} {ret : Option FieldType} {r : Int32} {hh : List (Nat × Nat × Nat × Nat)}
theorem sub1 (K : cM E a2 qo cJ p l m c s b) {sz : Nat} (h : s.heap.size ≤ sz) : ∀ q, aL E qo sz q → aS s q := by
  rintro q ((⟨i, hi, e⟩ | h2) | h2)
  · rw [e]; exact K.2.2.2.1.1 i hi
  · exact Nat.le_trans h h2
  · rw [h2]; exact K.2.2.2.1.2.2
theorem sub2 (K : cM E a2 qo cJ p l m c s b) {sz : Nat} (h : s.heap.size ≤ sz) : ∀ q, aM (e2 E a2) sz q → aS s q := by
  rintro q (⟨i, hi, e⟩ | h2)
  · rw [e]; exact K.2.2.2.1.2.1 i hi
  · exact Nat.le_trans h h2
theorem lcallW (K : cM E a2 qo cJ p l m c s b) (w : lS E a2 qo cJ s M n k g N z t f H locs) (hM : MW l y w1 E qo cJ As M n k g r M' n' k' g') (cw : vx_CSW room_1 s #[Value.ref b] RL idx y bytes maxL ret hh (w1 :: wW) ({ frames := 10, cells := 1, slots := 6, locals := 400 }) 1 6 nA) (hn : As.length = nA) (hsz : ls.size = 7) (hst : st = As.reverse ++ rest) (hW : (rest.map fun v => v.category).sum ≤ 8) (hd : decode code pc = .ok (.invokestatic idx, 3)) (hf : cells + 1 ≤ room_1.cells ∧ slots + 6 ≤ room_1.slots)
    (kk : ∀ (H : Heap) (locs : List Loc), lS E a2 qo cJ s M' n' k' g' N z t f H locs → W p l e room_1 s m #[Value.ref b] below meth c H locs (cells + 1) (slots + 6) Q (F0 m (pc + 3) ls (.int r :: rest))) : W p l e room_1 s m #[Value.ref b] below meth c H locs cells slots Q (F0 m pc ls st) := by
  have hsub := sub1 K (sz := H.size) w.2.2.2.1
  have hst0 := K.2.2.2.2.1 (aL E qo s.heap.size) (sub1 K (Nat.le_refl _))
  refine va_calli (A0 := aS s) (A1 := aL E qo H.size) (vx_runSW (As := As) (rest := rest) K.1 (hM H.size) cw ⟨pW_blind, fun U hU hW => ⟨rfl, by rw [hU], by rw [hU]; exact w.1, by rw [hU]; exact w.2.2.1, va_K.moved hW.alike K.2.1, ?_⟩⟩ rfl hn hsz hst (lv_room hW) hd hf) w.2.2.2 (fun q _ h => hsub q h) hsub (fun r' u t H1 locs1 ht hvm hp hB hz hk hS => ?_)
  · have hz0 := K.2.2.2.2.1 (aL E qo H.size) hsub
    have hk0 : ∀ a : Nat, a < s.heap.size → ¬ aL E qo H.size a → H[a]? = s.heap[a]? := fun a h1 h2 => w.2.2.2.2.1 a h1 (fun h3 => Nat.lt_irrefl _ (Nat.lt_of_lt_of_le h1 h3))
    refine ⟨⟨?_, ?_, fun x hx => ?_, fun X hX => (K.2.2.2.2.2.1.2.1 X hX).warmC hW, fun x hx => (K.2.2.2.2.2.1.2.2 x hx).warmD hW⟩, va_Nc.moved hW.alike K.2.2.2.2.2.2.1, va_Nc.moved hW.alike K.2.2.2.2.2.2.2⟩
    · rw [hU]; exact (hz0.1.kept hk0).moved hW.alike
    · rw [hU]; exact (hz0.2.kept hk0).moved hW.alike
    · obtain ⟨sa, h⟩ := K.2.2.2.2.2.1.1 x hx
      exact ⟨sa, h.warm hW⟩
  · subst hp
    refine kk H1 locs1 ⟨by rw [← ht]; exact hB.1, vN_kept w.2.1 (fun j hj => hk _ (vN_lt w.2.1 hj) ?_), by rw [← ht]; exact hB.2, hS⟩
    rintro ((⟨i, hi, e⟩ | h2) | h2)
    · exact K.2.2.1.2.2.2.1 i j hi hj e
    · exact Nat.lt_irrefl _ (Nat.lt_of_lt_of_le (vN_lt w.2.1 hj) h2)
    · exact K.2.2.1.2.2.2.2 j hj h2
theorem recvC (K : cM E a2 qo cJ p l m c s b) (w : lS E a2 qo cJ s M n k g N z t f H locs) : ∃ cell : Cell, H[ad E 0]? = some cell ∧ cell.vm.isStatics = false ∧ s.vm.findClass RX1 = some cell.cls := va_recv (ci := 1) (q0 := 0) K.2.1 w.1 rfl rfl
theorem recvR (K : cM E a2 qo cJ p l m c s b) (w : lS E a2 qo cJ s M n k g N z t f H locs) : ∃ cell : Cell, H[a2 0]? = some cell ∧ cell.vm.isStatics = false ∧ s.vm.findClass RX2 = some cell.cls := va_recv (ci := 2) (q0 := 0) K.2.1 w.2.1 rfl rfl
theorem keepR (K : cM E a2 qo cJ p l m c s b) (w : lS E a2 qo cJ s M n k g N z t f H locs) {H1 : Heap} (hk : ∀ q : Nat, q < H.size → ¬ aM (e2 E a2) H.size q → H1[q]? = H[q]?) : va_P E.1 vcl (wN E M n k) H1 ∧ va_P E.1 vcl (oL qo cJ g) H1 := by
  refine ⟨wN_kept w.1 (fun j hj => hk _ (wN_lt w.1 hj) ?_), oL_kept w.2.2.1 (hk _ (oL_lt w.2.2.1) ?_)⟩
  · rintro (⟨i, hi, e⟩ | h2)
    · exact K.2.2.1.2.2.2.1 j i hj hi e.symm
    · exact Nat.lt_irrefl _ (Nat.lt_of_lt_of_le (wN_lt w.1 hj) h2)
  · rintro (⟨i, hi, e⟩ | h2)
    · exact K.2.2.1.2.2.2.2 i hi e.symm
    · exact Nat.lt_irrefl _ (Nat.lt_of_lt_of_le (oL_lt w.2.2.1) h2)
theorem lcallR (K : cM E a2 qo cJ p l m c s b) (w : lS E a2 qo cJ s M n k g N z t f H locs) (hM : MI2 l y w1 fr lo (e2 E a2) (.ref (a2 0) :: As) N z t f r N' z' t' f') (cw : CallW room_1 s #[Value.ref b] RL RX2 idx y bytes maxL ret (w1 :: wR) (rmA fr lo) 0 0 nA) (hn : As.length = nA) (hsz : ls.size = 7) (hst : st = As.reverse ++ .ref (a2 0) :: rest) (hW : (rest.map fun v => v.category).sum ≤ 8) (hd : decode code pc = .ok (.invokevirtual idx, 3)) (hf : cells ≤ room_1.cells ∧ slots ≤ room_1.slots)
    (kk : ∀ (H : Heap) (locs : List Loc), lS E a2 qo cJ s M n k g N' z' t' f' H locs → W p l e room_1 s m #[Value.ref b] below meth c H locs cells slots Q (F0 m (pc + 3) ls (.int r :: rest))) : W p l e room_1 s m #[Value.ref b] below meth c H locs cells slots Q (F0 m pc ls st) := by
  have hsub := sub2 K (sz := H.size) w.2.2.2.1
  have hK : va_K E.1 vcl (tyN (e2 E a2)) s := K.2.1.sub [0, 1] rfl
  refine va_calli (A0 := aS s) (A1 := aM (e2 E a2) H.size) (va_runV (As := As) (rest := rest) K.1 (hM H.size) cw ⟨pM_blind, recvR K w, fun U hU hW => ⟨rfl, by rw [hU], by rw [hU]; exact w.2.1, va_K.moved hW.alike hK⟩⟩ rfl hn hsz hst (lv_room hW) hd hf) w.2.2.2 (fun q _ h => hsub q h) hsub (fun r' u u9 H1 locs1 ht hvm hp hB hz hk hS => ?_)
  subst hp
  obtain ⟨k1, k2⟩ := keepR K w hk
  exact kk H1 locs1 ⟨k1, by rw [← ht]; exact hB, k2, hS⟩
theorem lcallRv (K : cM E a2 qo cJ p l m c s b) (w : lS E a2 qo cJ s M n k g N z t f H locs) (hM : MV2 l y w1 fr lo (e2 E a2) (.ref (a2 0) :: As) N z t f N' z' t' f') (cw : CallW room_1 s #[Value.ref b] RL RX2 idx y bytes maxL ret (w1 :: wR) (rmA fr lo) 0 0 nA) (hn : As.length = nA) (hsz : ls.size = 7) (hst : st = As.reverse ++ .ref (a2 0) :: rest) (hW : (rest.map fun v => v.category).sum ≤ 8) (hd : decode code pc = .ok (.invokevirtual idx, 3)) (hf : cells ≤ room_1.cells ∧ slots ≤ room_1.slots)
    (kk : ∀ (H : Heap) (locs : List Loc), lS E a2 qo cJ s M n k g N' z' t' f' H locs → W p l e room_1 s m #[Value.ref b] below meth c H locs cells slots Q (F0 m (pc + 3) ls rest)) : W p l e room_1 s m #[Value.ref b] below meth c H locs cells slots Q (F0 m pc ls st) := by
  have hsub := sub2 K (sz := H.size) w.2.2.2.1
  have hK : va_K E.1 vcl (tyN (e2 E a2)) s := K.2.1.sub [0, 1] rfl
  refine va_callv (A0 := aS s) (A1 := aM (e2 E a2) H.size) (va_runV (As := As) (rest := rest) K.1 (hM H.size) cw ⟨pM_blind, recvR K w, fun U hU hW => ⟨rfl, by rw [hU], by rw [hU]; exact w.2.1, va_K.moved hW.alike hK⟩⟩ rfl hn hsz hst (lv_room hW) hd hf) w.2.2.2 (fun q _ h => hsub q h) hsub (fun u u9 H1 locs1 ht hvm hp hB hz hk hS => ?_)
  obtain ⟨k1, k2⟩ := keepR K w hk
  exact kk H1 locs1 ⟨k1, by rw [← ht]; exact hB, k2, hS⟩
theorem lcallC (K : cM E a2 qo cJ p l m c s b) (w : lS E a2 qo cJ s M n k g N z t f H locs) (hM : MI l y w1 fr lo E (.ref (ad E 0) :: As) M n k r M' n' k') (cw : CallW room_1 s #[Value.ref b] RL RX1 idx y bytes maxL ret (w1 :: wC) (rmA fr lo) 0 0 nA) (hn : As.length = nA) (hsz : ls.size = 7) (hst : st = As.reverse ++ .ref (ad E 0) :: rest) (hW : (rest.map fun v => v.category).sum ≤ 8) (hd : decode code pc = .ok (.invokevirtual idx, 3)) (hf : cells ≤ room_1.cells ∧ slots ≤ room_1.slots)
    (kk : ∀ (H : Heap) (locs : List Loc), lS E a2 qo cJ s M' n' k' g N z t f H locs → W p l e room_1 s m #[Value.ref b] below meth c H locs cells slots Q (F0 m (pc + 3) ls (.int r :: rest))) : W p l e room_1 s m #[Value.ref b] below meth c H locs cells slots Q (F0 m pc ls st) := by
  have hsub : ∀ q, aN E H.size q → aS s q := fun q h => sub1 K (sz := H.size) w.2.2.2.1 q (Or.inl h)
  have hK : va_K E.1 vcl (tyN E) s := K.2.1.sub [0, 1] rfl
  refine va_calli (A0 := aS s) (A1 := aN E H.size) (va_runV (As := As) (rest := rest) K.1 (hM H.size) cw ⟨pN_blind, recvC K w, fun U hU hW => ⟨rfl, by rw [hU], by rw [hU]; exact w.1, va_K.moved hW.alike hK⟩⟩ rfl hn hsz hst (lv_room hW) hd hf) w.2.2.2 (fun q _ h => hsub q h) hsub (fun r' u t H1 locs1 ht hvm hp hB hz hk hS => ?_)
  subst hp
  refine kk H1 locs1 ⟨by rw [← ht]; exact hB, vN_kept w.2.1 (fun j hj => hk _ (vN_lt w.2.1 hj) ?_), oL_kept w.2.2.1 (hk _ (oL_lt w.2.2.1) (K.2.2.1.2.1.out (oL_lt w.2.2.1))), hS⟩
  rintro (⟨i, hi, e⟩ | h2)
  · exact K.2.2.1.2.2.2.1 i j hi hj e
  · exact Nat.lt_irrefl _ (Nat.lt_of_lt_of_le (vN_lt w.2.1 hj) h2)
theorem ldO (K : cM E a2 qo cJ p l m c s b) (w : lS E a2 qo cJ s M n k g N z t f H locs) (hd : decode code pc = .ok (.laload, 1))
    (kk : W p l e room_1 s m #[Value.ref b] below meth c H locs cells slots Q (F0 m (pc + 1) ls (.long (g 0) :: rest))) : W p l e room_1 s m #[Value.ref b] below meth c H locs cells slots Q (F0 m pc ls (.int (nI 0) :: .ref qo :: rest)) := by
  refine va_lald K.1.1 K.1.2.1 K.2.1 w.2.2.1 0 2 rfl rfl (vp_in_nI (by decide) (by decide)) hd ?_
  exact kk
end LC

section LN
variable {p : Program} {l : Launch} {s : State} {m : MethodId} {c : Code} {E : En} {a2 : Nat → Nat} {qo b : Nat} {cJ : ClassId} {rm : Room}
set_option maxRecDepth 100000 in
theorem ll_L_add (K : cM E a2 qo cJ p l m c s b) : vx_CSW room_1 s #[Value.ref b] RL 51 yL_add cL_add 8 (some .int) [(0, 16, 19, 13), (0, 16, 23, 15)] ((.codeWith yL_add cL_add 8 (some .int) [(0, 16, 19, 13), (0, 16, 23, 15)]) :: wW) ({ frames := 10, cells := 1, slots := 6, locals := 400 }) 1 6 7 :=
  vx_cwSW 7 K.1.2.2.2.2 (gLT (fun w h => wW_T h) ⟨List.mem_of_getElem? (i := 167) rfl, Or.inl rfl⟩ (at_inT [165, 166, 40] rfl) rfl) rfl rfl rfl ⟨by decide, by decide, by decide +kernel⟩ ⟨Nat.le_of_ble_eq_true rfl, Nat.le_of_ble_eq_true rfl⟩
set_option maxRecDepth 100000 in
theorem ll_X2_add (K : cM E a2 qo cJ p l m c s b) (hR : rm.frames + 1 ≤ 12 ∧ 8 + (6 + 11) + rm.locals ≤ 440) : CallW room_1 s #[Value.ref b] RL RX2 56 yX2_add cX2_add 6 (some .int) ((.code yX2_add cX2_add 6 (some .int)) :: wR) rm rm.cells rm.slots 5 :=
  cwV 5 K.1.2.2.2.2 (gLT (fun w h => wR_T h) ⟨List.mem_of_getElem? (i := 479) rfl, Or.inl rfl⟩ (at_inT [476, 477, 478, 43] rfl) rfl) rfl rfl rfl ⟨rfl, by decide, by decide, by decide +kernel⟩ hR
set_option maxRecDepth 100000 in
theorem ll_X2_thrown (K : cM E a2 qo cJ p l m c s b) (hR : rm.frames + 1 ≤ 12 ∧ 8 + (1 + 11) + rm.locals ≤ 440) : CallW room_1 s #[Value.ref b] RL RX2 57 yX2_thrown cX2_thrown 1 (some .int) ((.code yX2_thrown cX2_thrown 1 (some .int)) :: wR) rm rm.cells rm.slots 0 :=
  cwV 0 K.1.2.2.2.2 (gLT (fun w h => wR_T h) ⟨List.mem_of_getElem? (i := 475) rfl, Or.inl rfl⟩ (at_inT [472, 473, 474, 43] rfl) rfl) rfl rfl rfl ⟨rfl, by decide, by decide, by decide +kernel⟩ hR
set_option maxRecDepth 100000 in
theorem ll_L_under (K : cM E a2 qo cJ p l m c s b) : vx_CSW room_1 s #[Value.ref b] RL 61 yL_under cL_under 5 (some .int) [(0, 10, 13, 13), (0, 10, 17, 15)] ((.codeWith yL_under cL_under 5 (some .int) [(0, 10, 13, 13), (0, 10, 17, 15)]) :: wW) ({ frames := 10, cells := 1, slots := 6, locals := 400 }) 1 6 4 :=
  vx_cwSW 4 K.1.2.2.2.2 (gLT (fun w h => wW_T h) ⟨List.mem_of_getElem? (i := 276) rfl, Or.inl rfl⟩ (at_inT [274, 275, 40] rfl) rfl) rfl rfl rfl ⟨by decide, by decide, by decide +kernel⟩ ⟨Nat.le_of_ble_eq_true rfl, Nat.le_of_ble_eq_true rfl⟩
set_option maxRecDepth 100000 in
theorem ll_X2_under (K : cM E a2 qo cJ p l m c s b) (hR : rm.frames + 1 ≤ 12 ∧ 8 + (3 + 11) + rm.locals ≤ 440) : CallW room_1 s #[Value.ref b] RL RX2 64 yX2_under cX2_under 3 (some .int) ((.code yX2_under cX2_under 3 (some .int)) :: wR) rm rm.cells rm.slots 2 :=
  cwV 2 K.1.2.2.2.2 (gLT (fun w h => wR_T h) ⟨List.mem_of_getElem? (i := 491) rfl, Or.inl rfl⟩ (at_inT [488, 489, 490, 43] rfl) rfl) rfl rfl rfl ⟨rfl, by decide, by decide, by decide +kernel⟩ hR
set_option maxRecDepth 100000 in
theorem ll_L_tip (K : cM E a2 qo cJ p l m c s b) : vx_CSW room_1 s #[Value.ref b] RL 65 yL_tip cL_tip 5 (some .int) [(0, 7, 10, 13)] ((.codeWith yL_tip cL_tip 5 (some .int) [(0, 7, 10, 13)]) :: wW) ({ frames := 10, cells := 1, slots := 6, locals := 400 }) 1 6 4 :=
  vx_cwSW 4 K.1.2.2.2.2 (gLT (fun w h => wW_T h) ⟨List.mem_of_getElem? (i := 285) rfl, Or.inl rfl⟩ (at_inT [283, 284, 40] rfl) rfl) rfl rfl rfl ⟨by decide, by decide, by decide +kernel⟩ ⟨Nat.le_of_ble_eq_true rfl, Nat.le_of_ble_eq_true rfl⟩
set_option maxRecDepth 100000 in
theorem ll_X2_tip (K : cM E a2 qo cJ p l m c s b) (hR : rm.frames + 1 ≤ 12 ∧ 8 + (4 + 11) + rm.locals ≤ 440) : CallW room_1 s #[Value.ref b] RL RX2 68 yX2_tip cX2_tip 4 none ((.code yX2_tip cX2_tip 4 none) :: wR) rm rm.cells rm.slots 3 :=
  cwV 3 K.1.2.2.2.2 (gLT (fun w h => wR_T h) ⟨List.mem_of_getElem? (i := 507) rfl, Or.inl rfl⟩ (at_inT [504, 505, 506, 43] rfl) rfl) rfl rfl rfl ⟨rfl, by decide, by decide, by decide +kernel⟩ hR
set_option maxRecDepth 100000 in
theorem ll_L_reaches (K : cM E a2 qo cJ p l m c s b) : vx_CSW room_1 s #[Value.ref b] RL 69 yL_reaches cL_reaches 5 (some .int) [(0, 17, 20, 13)] ((.codeWith yL_reaches cL_reaches 5 (some .int) [(0, 17, 20, 13)]) :: wW) ({ frames := 10, cells := 1, slots := 6, locals := 400 }) 1 6 4 :=
  vx_cwSW 4 K.1.2.2.2.2 (gLT (fun w h => wW_T h) ⟨List.mem_of_getElem? (i := 296) rfl, Or.inl rfl⟩ (at_inT [294, 295, 40] rfl) rfl) rfl rfl rfl ⟨by decide, by decide, by decide +kernel⟩ ⟨Nat.le_of_ble_eq_true rfl, Nat.le_of_ble_eq_true rfl⟩
set_option maxRecDepth 100000 in
theorem ll_X2_reaches (K : cM E a2 qo cJ p l m c s b) (hR : rm.frames + 1 ≤ 12 ∧ 8 + (3 + 11) + rm.locals ≤ 440) : CallW room_1 s #[Value.ref b] RL RX2 71 yX2_reaches cX2_reaches 3 (some .boolean) ((.code yX2_reaches cX2_reaches 3 (some .boolean)) :: wR) rm rm.cells rm.slots 2 :=
  cwV 2 K.1.2.2.2.2 (gLT (fun w h => wR_T h) ⟨List.mem_of_getElem? (i := 511) rfl, Or.inl rfl⟩ (at_inT [508, 509, 510, 43] rfl) rfl) rfl rfl rfl ⟨rfl, by decide, by decide, by decide +kernel⟩ hR
set_option maxRecDepth 100000 in
theorem ll_L_base (K : cM E a2 qo cJ p l m c s b) : vx_CSW room_1 s #[Value.ref b] RL 72 yL_base cL_base 6 (some .int) [(0, 12, 15, 13), (0, 12, 19, 33)] ((.codeWith yL_base cL_base 6 (some .int) [(0, 12, 15, 13), (0, 12, 19, 33)]) :: wW) ({ frames := 10, cells := 1, slots := 6, locals := 400 }) 1 6 5 :=
  vx_cwSW 5 K.1.2.2.2.2 (gLT (fun w h => wW_T h) ⟨List.mem_of_getElem? (i := 311) rfl, Or.inl rfl⟩ (at_inT [309, 310, 40] rfl) rfl) rfl rfl rfl ⟨by decide, by decide, by decide +kernel⟩ ⟨Nat.le_of_ble_eq_true rfl, Nat.le_of_ble_eq_true rfl⟩
set_option maxRecDepth 100000 in
theorem ll_X2_base (K : cM E a2 qo cJ p l m c s b) (hR : rm.frames + 1 ≤ 12 ∧ 8 + (6 + 11) + rm.locals ≤ 440) : CallW room_1 s #[Value.ref b] RL RX2 75 yX2_base cX2_base 6 (some .int) ((.code yX2_base cX2_base 6 (some .int)) :: wR) rm rm.cells rm.slots 3 :=
  cwV 3 K.1.2.2.2.2 (gLT (fun w h => wR_T h) ⟨List.mem_of_getElem? (i := 523) rfl, Or.inl rfl⟩ (at_inT [520, 521, 522, 43] rfl) rfl) rfl rfl rfl ⟨rfl, by decide, by decide, by decide +kernel⟩ hR
set_option maxRecDepth 100000 in
theorem ll_L_log (K : cM E a2 qo cJ p l m c s b) : vx_CSW room_1 s #[Value.ref b] RL 76 yL_log cL_log 5 (some .int) [(0, 10, 13, 13), (0, 10, 17, 33)] ((.codeWith yL_log cL_log 5 (some .int) [(0, 10, 13, 13), (0, 10, 17, 33)]) :: wW) ({ frames := 10, cells := 1, slots := 6, locals := 400 }) 1 6 4 :=
  vx_cwSW 4 K.1.2.2.2.2 (gLT (fun w h => wW_T h) ⟨List.mem_of_getElem? (i := 378) rfl, Or.inl rfl⟩ (at_inT [376, 377, 40] rfl) rfl) rfl rfl rfl ⟨by decide, by decide, by decide +kernel⟩ ⟨Nat.le_of_ble_eq_true rfl, Nat.le_of_ble_eq_true rfl⟩
set_option maxRecDepth 100000 in
theorem ll_X2_log (K : cM E a2 qo cJ p l m c s b) (hR : rm.frames + 1 ≤ 12 ∧ 8 + (5 + 11) + rm.locals ≤ 440) : CallW room_1 s #[Value.ref b] RL RX2 78 yX2_log cX2_log 5 (some .int) ((.code yX2_log cX2_log 5 (some .int)) :: wR) rm rm.cells rm.slots 2 :=
  cwV 2 K.1.2.2.2.2 (gLT (fun w h => wR_T h) ⟨List.mem_of_getElem? (i := 539) rfl, Or.inl rfl⟩ (at_inT [536, 537, 538, 43] rfl) rfl) rfl rfl rfl ⟨rfl, by decide, by decide, by decide +kernel⟩ hR
set_option maxRecDepth 100000 in
theorem ll_L_back (K : cM E a2 qo cJ p l m c s b) : vx_CSW room_1 s #[Value.ref b] RL 79 yL_back cL_back 5 (some .int) [(0, 10, 13, 13), (0, 10, 17, 33)] ((.codeWith yL_back cL_back 5 (some .int) [(0, 10, 13, 13), (0, 10, 17, 33)]) :: wW) ({ frames := 10, cells := 1, slots := 6, locals := 400 }) 1 6 4 :=
  vx_cwSW 4 K.1.2.2.2.2 (gLT (fun w h => wW_T h) ⟨List.mem_of_getElem? (i := 401) rfl, Or.inl rfl⟩ (at_inT [399, 400, 40] rfl) rfl) rfl rfl rfl ⟨by decide, by decide, by decide +kernel⟩ ⟨Nat.le_of_ble_eq_true rfl, Nat.le_of_ble_eq_true rfl⟩
set_option maxRecDepth 100000 in
theorem ll_X2_back (K : cM E a2 qo cJ p l m c s b) (hR : rm.frames + 1 ≤ 12 ∧ 8 + (5 + 11) + rm.locals ≤ 440) : CallW room_1 s #[Value.ref b] RL RX2 81 yX2_back cX2_back 5 (some .int) ((.code yX2_back cX2_back 5 (some .int)) :: wR) rm rm.cells rm.slots 2 :=
  cwV 2 K.1.2.2.2.2 (gLT (fun w h => wR_T h) ⟨List.mem_of_getElem? (i := 547) rfl, Or.inl rfl⟩ (at_inT [544, 545, 546, 43] rfl) rfl) rfl rfl rfl ⟨rfl, by decide, by decide, by decide +kernel⟩ hR
set_option maxRecDepth 100000 in
theorem ll_L_sent (K : cM E a2 qo cJ p l m c s b) : vx_CSW room_1 s #[Value.ref b] RL 82 yL_sent cL_sent 5 (some .int) [(0, 10, 13, 13), (0, 10, 17, 33)] ((.codeWith yL_sent cL_sent 5 (some .int) [(0, 10, 13, 13), (0, 10, 17, 33)]) :: wW) ({ frames := 10, cells := 1, slots := 6, locals := 400 }) 1 6 4 :=
  vx_cwSW 4 K.1.2.2.2.2 (gLT (fun w h => wW_T h) ⟨List.mem_of_getElem? (i := 410) rfl, Or.inl rfl⟩ (at_inT [408, 409, 40] rfl) rfl) rfl rfl rfl ⟨by decide, by decide, by decide +kernel⟩ ⟨Nat.le_of_ble_eq_true rfl, Nat.le_of_ble_eq_true rfl⟩
set_option maxRecDepth 100000 in
theorem ll_X2_sent (K : cM E a2 qo cJ p l m c s b) (hR : rm.frames + 1 ≤ 12 ∧ 8 + (7 + 11) + rm.locals ≤ 440) : CallW room_1 s #[Value.ref b] RL RX2 84 yX2_sent cX2_sent 7 (some .int) ((.code yX2_sent cX2_sent 7 (some .int)) :: wR) rm rm.cells rm.slots 2 :=
  cwV 2 K.1.2.2.2.2 (gLT (fun w h => wR_T h) ⟨List.mem_of_getElem? (i := 551) rfl, Or.inl rfl⟩ (at_inT [548, 549, 550, 43] rfl) rfl) rfl rfl rfl ⟨rfl, by decide, by decide, by decide +kernel⟩ hR
set_option maxRecDepth 100000 in
theorem ll_L_told (K : cM E a2 qo cJ p l m c s b) : vx_CSW room_1 s #[Value.ref b] RL 85 yL_told cL_told 5 (some .int) [(0, 10, 13, 13)] ((.codeWith yL_told cL_told 5 (some .int) [(0, 10, 13, 13)]) :: wW) ({ frames := 10, cells := 1, slots := 6, locals := 400 }) 1 6 4 :=
  vx_cwSW 4 K.1.2.2.2.2 (gLT (fun w h => wW_T h) ⟨List.mem_of_getElem? (i := 417) rfl, Or.inl rfl⟩ (at_inT [415, 416, 40] rfl) rfl) rfl rfl rfl ⟨by decide, by decide, by decide +kernel⟩ ⟨Nat.le_of_ble_eq_true rfl, Nat.le_of_ble_eq_true rfl⟩
set_option maxRecDepth 100000 in
theorem ll_X2_told (K : cM E a2 qo cJ p l m c s b) (hR : rm.frames + 1 ≤ 12 ∧ 8 + (3 + 11) + rm.locals ≤ 440) : CallW room_1 s #[Value.ref b] RL RX2 87 yX2_told cX2_told 3 (some .int) ((.code yX2_told cX2_told 3 (some .int)) :: wR) rm rm.cells rm.slots 2 :=
  cwV 2 K.1.2.2.2.2 (gLT (fun w h => wR_T h) ⟨List.mem_of_getElem? (i := 563) rfl, Or.inl rfl⟩ (at_inT [560, 561, 562, 43] rfl) rfl) rfl rfl rfl ⟨rfl, by decide, by decide, by decide +kernel⟩ hR
set_option maxRecDepth 100000 in
theorem ll_X1_count (K : cM E a2 qo cJ p l m c s b) (hR : rm.frames + 1 ≤ 12 ∧ 8 + (2 + 11) + rm.locals ≤ 440) : CallW room_1 s #[Value.ref b] RL RX1 88 yX1_count cX1_count 2 (some .int) ((.code yX1_count cX1_count 2 (some .int)) :: wC) rm rm.cells rm.slots 1 :=
  cwV 1 K.1.2.2.2.2 (gLT (fun w h => wC_T h) ⟨List.mem_of_getElem? (i := 118) rfl, Or.inl rfl⟩ (at_inT [115, 116, 117, 41] rfl) rfl) rfl rfl rfl ⟨rfl, by decide, by decide, by decide +kernel⟩ hR
set_option maxRecDepth 100000 in
theorem ll_X2_count (K : cM E a2 qo cJ p l m c s b) (hR : rm.frames + 1 ≤ 12 ∧ 8 + (7 + 11) + rm.locals ≤ 440) : CallW room_1 s #[Value.ref b] RL RX2 92 yX2_count cX2_count 7 (some .int) ((.code yX2_count cX2_count 7 (some .int)) :: wR) rm rm.cells rm.slots 1 :=
  cwV 1 K.1.2.2.2.2 (gLT (fun w h => wR_T h) ⟨List.mem_of_getElem? (i := 567) rfl, Or.inl rfl⟩ (at_inT [564, 565, 566, 43] rfl) rfl) rfl rfl rfl ⟨rfl, by decide, by decide, by decide +kernel⟩ hR
end LN
