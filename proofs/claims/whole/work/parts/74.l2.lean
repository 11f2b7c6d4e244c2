section LL
variable {p : Program} {l : Launch} {e : Env} {R : Room} {s : State} {m : MethodId} {args : Array Value} {c : Code} {nL : Nat} {cc : ByteArray} {w0 : Cond} {E : En} {qo : Nat} {cJ : ClassId} {rm : Room}
theorem lk_L_add (K : cW E qo cJ p m c cc nL s args w0) (hR : rm.frames + 1 ≤ R.frames ∧ 8 + (7 + 11) + rm.locals ≤ R.locals) : CallW R s args RL RX1 7 yX1_add cX1_add 7 (some .int) ((.code yX1_add cX1_add 7 (some .int)) :: wC) rm rm.cells rm.slots 5 :=
  cwV 5 K.1.2.2.2.2 (gLW (List.mem_of_getElem? (i := 138) rfl) (at_inW [9, 192, 193, 83] rfl)) rfl rfl rfl ⟨rfl, by decide, by decide, by decide +kernel⟩ hR
theorem lk_L_under (K : cW E qo cJ p m c cc nL s args w0) (hR : rm.frames + 1 ≤ R.frames ∧ 8 + (3 + 11) + rm.locals ≤ R.locals) : CallW R s args RL RX1 17 yX1_under cX1_under 3 (some .int) ((.code yX1_under cX1_under 3 (some .int)) :: wC) rm rm.cells rm.slots 2 :=
  cwV 2 K.1.2.2.2.2 (gLW (List.mem_of_getElem? (i := 222) rfl) (at_inW [13, 276, 277, 83] rfl)) rfl rfl rfl ⟨rfl, by decide, by decide, by decide +kernel⟩ hR
theorem lk_L_tip (K : cW E qo cJ p m c cc nL s args w0) (hR : rm.frames + 1 ≤ R.frames ∧ 8 + (4 + 11) + rm.locals ≤ R.locals) : CallW R s args RL RX1 21 yX1_tip cX1_tip 4 none ((.code yX1_tip cX1_tip 4 none) :: wC) rm rm.cells rm.slots 3 :=
  cwV 3 K.1.2.2.2.2 (gLW (List.mem_of_getElem? (i := 225) rfl) (at_inW [17, 279, 280, 83] rfl)) rfl rfl rfl ⟨rfl, by decide, by decide, by decide +kernel⟩ hR
theorem lk_L_reaches (K : cW E qo cJ p m c cc nL s args w0) (hR : rm.frames + 1 ≤ R.frames ∧ 8 + (3 + 11) + rm.locals ≤ R.locals) : CallW R s args RL RX1 25 yX1_reaches cX1_reaches 3 (some .boolean) ((.code yX1_reaches cX1_reaches 3 (some .boolean)) :: wC) rm rm.cells rm.slots 2 :=
  cwV 2 K.1.2.2.2.2 (gLW (List.mem_of_getElem? (i := 231) rfl) (at_inW [21, 285, 286, 83] rfl)) rfl rfl rfl ⟨rfl, by decide, by decide, by decide +kernel⟩ hR
theorem lk_L_base (K : cW E qo cJ p m c cc nL s args w0) (hR : rm.frames + 1 ≤ R.frames ∧ 8 + (5 + 11) + rm.locals ≤ R.locals) : CallW R s args RL RX1 29 yX1_base cX1_base 5 (some .int) ((.code yX1_base cX1_base 5 (some .int)) :: wC) rm rm.cells rm.slots 3 :=
  cwV 3 K.1.2.2.2.2 (gLW (List.mem_of_getElem? (i := 240) rfl) (at_inW [26, 294, 295, 83] rfl)) rfl rfl rfl ⟨rfl, by decide, by decide, by decide +kernel⟩ hR
theorem lk_L_log (K : cW E qo cJ p m c cc nL s args w0) (hR : rm.frames + 1 ≤ R.frames ∧ 8 + (4 + 11) + rm.locals ≤ R.locals) : CallW R s args RL RX1 35 yX1_log cX1_log 4 (some .int) ((.code yX1_log cX1_log 4 (some .int)) :: wC) rm rm.cells rm.slots 2 :=
  cwV 2 K.1.2.2.2.2 (gLW (List.mem_of_getElem? (i := 294) rfl) (at_inW [30, 348, 349, 83] rfl)) rfl rfl rfl ⟨rfl, by decide, by decide, by decide +kernel⟩ hR
theorem lk_L_back (K : cW E qo cJ p m c cc nL s args w0) (hR : rm.frames + 1 ≤ R.frames ∧ 8 + (5 + 11) + rm.locals ≤ R.locals) : CallW R s args RL RX1 38 yX1_back cX1_back 5 (some .int) ((.code yX1_back cX1_back 5 (some .int)) :: wC) rm rm.cells rm.slots 2 :=
  cwV 2 K.1.2.2.2.2 (gLW (List.mem_of_getElem? (i := 309) rfl) (at_inW [34, 363, 364, 83] rfl)) rfl rfl rfl ⟨rfl, by decide, by decide, by decide +kernel⟩ hR
theorem lk_L_sent (K : cW E qo cJ p m c cc nL s args w0) (hR : rm.frames + 1 ≤ R.frames ∧ 8 + (4 + 11) + rm.locals ≤ R.locals) : CallW R s args RL RX1 41 yX1_sent cX1_sent 4 (some .int) ((.code yX1_sent cX1_sent 4 (some .int)) :: wC) rm rm.cells rm.slots 2 :=
  cwV 2 K.1.2.2.2.2 (gLW (List.mem_of_getElem? (i := 312) rfl) (at_inW [38, 366, 367, 83] rfl)) rfl rfl rfl ⟨rfl, by decide, by decide, by decide +kernel⟩ hR
theorem lk_L_told (K : cW E qo cJ p m c cc nL s args w0) (hR : rm.frames + 1 ≤ R.frames ∧ 8 + (3 + 11) + rm.locals ≤ R.locals) : CallW R s args RL RX1 44 yX1_told cX1_told 3 (some .int) ((.code yX1_told cX1_told 3 (some .int)) :: wC) rm rm.cells rm.slots 2 :=
  cwV 2 K.1.2.2.2.2 (gLW (List.mem_of_getElem? (i := 315) rfl) (at_inW [42, 369, 370, 83] rfl)) rfl rfl rfl ⟨rfl, by decide, by decide, by decide +kernel⟩ hR
end LL
set_option maxHeartbeats 4000000 in
set_option maxRecDepth 100000 in
theorem w_L_add_good {l : Launch} {E : En} {qo : Nat} {cJ : ClassId} {M M' : Mt} {n k n' k' fr lo : Nat} {g : Nat → Int64} {p0 p1 p2 p3 p4 r : Int32} (dn : dN E) (ap : apo E qo) (hfr : fr + 1 ≤ 10) (hlo : 8 + (7 + 11) + lo ≤ 400) (hM : MI l yX1_add (.code yX1_add cX1_add 7 (some .int)) fr lo E [.ref (ad E 0), .int p0, .int p1, .int p2, .int p3, .int p4] M n k r M' n' k') : MW l yL_add (.codeWith yL_add cL_add 8 (some .int) [(0, 16, 19, 13), (0, 16, 23, 15)]) E qo cJ [.ref (ad E 0), .int p0, .int p1, .int p2, .int p3, .int p4, .ref qo] M n k g (nI 0) M' n' k' (vp_updL g 0 (r.toInt64)) := by
  refine MW.of dn ap (by decide) rfl (Nat.le_of_ble_eq_true rfl) (fun p e s m args below meth c ls Q K tab z w hl ret => ?_)
  have hx := K.1.1
  have hb := K.1.2.1
  have hl : lv_has ls 8 [(0, .ref (ad E 0)), (1, .int p0), (2, .int p1), (3, .int p2), (4, .int p3), (5, .int p4), (6, .ref qo)] := hl
  refine lv_aload hx hb dL_add_0 (lv_at hl 6 rfl) ?_
  refine lv_iconst (v := nI 0) hx hb dL_add_2 (by decide) ?_
  refine lv_aload_n hx hb dL_add_3 rfl (lv_at hl 0 rfl) ?_
  refine lv_iload_n hx hb dL_add_4 rfl (lv_at hl 1 rfl) ?_
  refine lv_iload_n hx hb dL_add_5 rfl (lv_at hl 2 rfl) ?_
  refine lv_iload_n hx hb dL_add_6 rfl (lv_at hl 3 rfl) ?_
  refine lv_iload hx hb dL_add_7 (lv_at hl 4 rfl) ?_
  refine lv_iload hx hb dL_add_9 (lv_at hl 5 rfl) ?_
  refine wcalli K w hM (lk_L_add K ⟨hfr, hlo⟩) rfl hl.1 rfl (Nat.le_of_ble_eq_true rfl) dL_add_11 ⟨Nat.zero_le _, Nat.zero_le _⟩ (fun H locs w => ?_)
  refine lv_i2l hx hb dL_add_14 rfl ?_
  refine stO K w dL_add_15 (fun H locs w => ?_)
  refine lv_goto (tgt := 27) hx hb dL_add_16 rfl ?_
  refine lv_iconst (v := nI 0) hx hb dL_add_27 (by decide) ?_
  exact ret w rfl (Nat.zero_le _) (Nat.zero_le _) dL_add_28

set_option maxHeartbeats 4000000 in
set_option maxRecDepth 100000 in
theorem w_L_add_IAE {l : Launch} {E : En} {qo : Nat} {cJ : ClassId} {M M' : Mt} {n k n' k' fr lo : Nat} {g : Nat → Int64} {p0 p1 p2 p3 p4 : Int32} (dn : dN E) (ap : apo E qo) (hfr : fr + 1 ≤ 10) (hlo : 8 + (7 + 11) + lo ≤ 400) (hM : MT l yX1_add (.code yX1_add cX1_add 7 (some .int)) fr lo E [.ref (ad E 0), .int p0, .int p1, .int p2, .int p3, .int p4] M n k "java/lang/IllegalArgumentException" M' n' k') : MW l yL_add (.codeWith yL_add cL_add 8 (some .int) [(0, 16, 19, 13), (0, 16, 23, 15)]) E qo cJ [.ref (ad E 0), .int p0, .int p1, .int p2, .int p3, .int p4, .ref qo] M n k g (nI 1) M' n' k' g := by
  refine MW.of dn ap (by decide) rfl (Nat.le_of_ble_eq_true rfl) (fun p e s m args below meth c ls Q K tab z w hl ret => ?_)
  have hx := K.1.1
  have hb := K.1.2.1
  have hl : lv_has ls 8 [(0, .ref (ad E 0)), (1, .int p0), (2, .int p1), (3, .int p2), (4, .int p3), (5, .int p4), (6, .ref qo)] := hl
  refine lv_aload hx hb dL_add_0 (lv_at hl 6 rfl) ?_
  refine lv_iconst (v := nI 0) hx hb dL_add_2 (by decide) ?_
  refine lv_aload_n hx hb dL_add_3 rfl (lv_at hl 0 rfl) ?_
  refine lv_iload_n hx hb dL_add_4 rfl (lv_at hl 1 rfl) ?_
  refine lv_iload_n hx hb dL_add_5 rfl (lv_at hl 2 rfl) ?_
  refine lv_iload_n hx hb dL_add_6 rfl (lv_at hl 3 rfl) ?_
  refine lv_iload hx hb dL_add_7 (lv_at hl 4 rfl) ?_
  refine lv_iload hx hb dL_add_9 (lv_at hl 5 rfl) ?_
  refine wcallt K z w hM (lk_L_add K ⟨hfr, hlo⟩) rfl hl.1 rfl (Nat.le_of_ble_eq_true rfl) dL_add_11 ⟨Nat.le_refl _, Nat.le_refl _⟩ (fun q ce H locs w h1 h2 h3 => ?_)
  refine vx_catch (name := "java/lang/IllegalArgumentException") K.1.2.2.2.1 [] ⟨0, 16, 19, 13⟩ [⟨0, 16, 23, 15⟩] tab (fun z hz => absurd hz List.not_mem_nil) rfl (by decide) (K.1.2.2.2.2 _ (List.mem_cons_of_mem _ (List.mem_of_getElem? (i := 7) rfl))) (va_Nw.use rfl (z.1.2.2.2.1 _ (by decide))) h1 h2 h3 ?_
  refine lv_astore (lv' := [(7, .ref _), (0, .ref _), (1, .int _), (2, .int _), (3, .int _), (4, .int _), (5, .int _), (6, .ref _)]) hx hb dL_add_19 hl (by decide) rfl (fun ls hl => ?_)
  refine lv_iconst (v := nI 1) hx hb dL_add_21 (by decide) ?_
  exact ret w rfl (Nat.le_refl _) (Nat.le_refl _) dL_add_22

set_option maxHeartbeats 4000000 in
set_option maxRecDepth 100000 in
theorem w_L_add_ISE {l : Launch} {E : En} {qo : Nat} {cJ : ClassId} {M M' : Mt} {n k n' k' fr lo : Nat} {g : Nat → Int64} {p0 p1 p2 p3 p4 : Int32} (dn : dN E) (ap : apo E qo) (hfr : fr + 1 ≤ 10) (hlo : 8 + (7 + 11) + lo ≤ 400) (hM : MT l yX1_add (.code yX1_add cX1_add 7 (some .int)) fr lo E [.ref (ad E 0), .int p0, .int p1, .int p2, .int p3, .int p4] M n k "java/lang/IllegalStateException" M' n' k') : MW l yL_add (.codeWith yL_add cL_add 8 (some .int) [(0, 16, 19, 13), (0, 16, 23, 15)]) E qo cJ [.ref (ad E 0), .int p0, .int p1, .int p2, .int p3, .int p4, .ref qo] M n k g (nI 2) M' n' k' g := by
  refine MW.of dn ap (by decide) rfl (Nat.le_of_ble_eq_true rfl) (fun p e s m args below meth c ls Q K tab z w hl ret => ?_)
  have hx := K.1.1
  have hb := K.1.2.1
  have hl : lv_has ls 8 [(0, .ref (ad E 0)), (1, .int p0), (2, .int p1), (3, .int p2), (4, .int p3), (5, .int p4), (6, .ref qo)] := hl
  refine lv_aload hx hb dL_add_0 (lv_at hl 6 rfl) ?_
  refine lv_iconst (v := nI 0) hx hb dL_add_2 (by decide) ?_
  refine lv_aload_n hx hb dL_add_3 rfl (lv_at hl 0 rfl) ?_
  refine lv_iload_n hx hb dL_add_4 rfl (lv_at hl 1 rfl) ?_
  refine lv_iload_n hx hb dL_add_5 rfl (lv_at hl 2 rfl) ?_
  refine lv_iload_n hx hb dL_add_6 rfl (lv_at hl 3 rfl) ?_
  refine lv_iload hx hb dL_add_7 (lv_at hl 4 rfl) ?_
  refine lv_iload hx hb dL_add_9 (lv_at hl 5 rfl) ?_
  refine wcallt K z w hM (lk_L_add K ⟨hfr, hlo⟩) rfl hl.1 rfl (Nat.le_of_ble_eq_true rfl) dL_add_11 ⟨Nat.le_refl _, Nat.le_refl _⟩ (fun q ce H locs w h1 h2 h3 => ?_)
  have z0 := z
  refine vx_catch (name := "java/lang/IllegalStateException") K.1.2.2.2.1 [⟨0, 16, 19, 13⟩] ⟨0, 16, 23, 15⟩ [] tab (fun z hz => by
    rw [List.mem_singleton] at hz
    subst hz
    exact Or.inr ⟨by decide, "java/lang/IllegalArgumentException", (K.1.2.2.2.2 _ (List.mem_cons_of_mem _ (List.mem_of_getElem? (i := 7) rfl))), z0.2.1⟩) rfl (by decide) (K.1.2.2.2.2 _ (List.mem_cons_of_mem _ (List.mem_of_getElem? (i := 8) rfl))) (va_Nw.use rfl (z.1.2.2.2.1 _ (by decide))) h1 h2 h3 ?_
  refine lv_astore (lv' := [(7, .ref _), (0, .ref _), (1, .int _), (2, .int _), (3, .int _), (4, .int _), (5, .int _), (6, .ref _)]) hx hb dL_add_23 hl (by decide) rfl (fun ls hl => ?_)
  refine lv_iconst (v := nI 2) hx hb dL_add_25 (by decide) ?_
  exact ret w rfl (Nat.le_refl _) (Nat.le_refl _) dL_add_26

set_option maxHeartbeats 4000000 in
set_option maxRecDepth 100000 in
theorem w_L_under_good {l : Launch} {E : En} {qo : Nat} {cJ : ClassId} {M M' : Mt} {n k n' k' fr lo : Nat} {g : Nat → Int64} {p0 p1 r : Int32} (dn : dN E) (ap : apo E qo) (hfr : fr + 1 ≤ 10) (hlo : 8 + (3 + 11) + lo ≤ 400) (hM : MI l yX1_under (.code yX1_under cX1_under 3 (some .int)) fr lo E [.ref (ad E 0), .int p0, .int p1] M n k r M' n' k') : MW l yL_under (.codeWith yL_under cL_under 5 (some .int) [(0, 10, 13, 13), (0, 10, 17, 15)]) E qo cJ [.ref (ad E 0), .int p0, .int p1, .ref qo] M n k g (nI 0) M' n' k' (vp_updL g 0 (r.toInt64)) := by
  refine MW.of dn ap (by decide) rfl (Nat.le_of_ble_eq_true rfl) (fun p e s m args below meth c ls Q K tab z w hl ret => ?_)
  have hx := K.1.1
  have hb := K.1.2.1
  have hl : lv_has ls 5 [(0, .ref (ad E 0)), (1, .int p0), (2, .int p1), (3, .ref qo)] := hl
  refine lv_aload_n hx hb dL_under_0 rfl (lv_at hl 3 rfl) ?_
  refine lv_iconst (v := nI 0) hx hb dL_under_1 (by decide) ?_
  refine lv_aload_n hx hb dL_under_2 rfl (lv_at hl 0 rfl) ?_
  refine lv_iload_n hx hb dL_under_3 rfl (lv_at hl 1 rfl) ?_
  refine lv_iload_n hx hb dL_under_4 rfl (lv_at hl 2 rfl) ?_
  refine wcalli K w hM (lk_L_under K ⟨hfr, hlo⟩) rfl hl.1 rfl (Nat.le_of_ble_eq_true rfl) dL_under_5 ⟨Nat.zero_le _, Nat.zero_le _⟩ (fun H locs w => ?_)
  refine lv_i2l hx hb dL_under_8 rfl ?_
  refine stO K w dL_under_9 (fun H locs w => ?_)
  refine lv_goto (tgt := 21) hx hb dL_under_10 rfl ?_
  refine lv_iconst (v := nI 0) hx hb dL_under_21 (by decide) ?_
  exact ret w rfl (Nat.zero_le _) (Nat.zero_le _) dL_under_22

set_option maxHeartbeats 4000000 in
set_option maxRecDepth 100000 in
theorem w_L_under_IAE {l : Launch} {E : En} {qo : Nat} {cJ : ClassId} {M M' : Mt} {n k n' k' fr lo : Nat} {g : Nat → Int64} {p0 p1 : Int32} (dn : dN E) (ap : apo E qo) (hfr : fr + 1 ≤ 10) (hlo : 8 + (3 + 11) + lo ≤ 400) (hM : MT l yX1_under (.code yX1_under cX1_under 3 (some .int)) fr lo E [.ref (ad E 0), .int p0, .int p1] M n k "java/lang/IllegalArgumentException" M' n' k') : MW l yL_under (.codeWith yL_under cL_under 5 (some .int) [(0, 10, 13, 13), (0, 10, 17, 15)]) E qo cJ [.ref (ad E 0), .int p0, .int p1, .ref qo] M n k g (nI 1) M' n' k' g := by
  refine MW.of dn ap (by decide) rfl (Nat.le_of_ble_eq_true rfl) (fun p e s m args below meth c ls Q K tab z w hl ret => ?_)
  have hx := K.1.1
  have hb := K.1.2.1
  have hl : lv_has ls 5 [(0, .ref (ad E 0)), (1, .int p0), (2, .int p1), (3, .ref qo)] := hl
  refine lv_aload_n hx hb dL_under_0 rfl (lv_at hl 3 rfl) ?_
  refine lv_iconst (v := nI 0) hx hb dL_under_1 (by decide) ?_
  refine lv_aload_n hx hb dL_under_2 rfl (lv_at hl 0 rfl) ?_
  refine lv_iload_n hx hb dL_under_3 rfl (lv_at hl 1 rfl) ?_
  refine lv_iload_n hx hb dL_under_4 rfl (lv_at hl 2 rfl) ?_
  refine wcallt K z w hM (lk_L_under K ⟨hfr, hlo⟩) rfl hl.1 rfl (Nat.le_of_ble_eq_true rfl) dL_under_5 ⟨Nat.le_refl _, Nat.le_refl _⟩ (fun q ce H locs w h1 h2 h3 => ?_)
  refine vx_catch (name := "java/lang/IllegalArgumentException") K.1.2.2.2.1 [] ⟨0, 10, 13, 13⟩ [⟨0, 10, 17, 15⟩] tab (fun z hz => absurd hz List.not_mem_nil) rfl (by decide) (K.1.2.2.2.2 _ (List.mem_cons_of_mem _ (List.mem_of_getElem? (i := 7) rfl))) (va_Nw.use rfl (z.1.2.2.2.1 _ (by decide))) h1 h2 h3 ?_
  refine lv_astore (lv' := [(4, .ref _), (0, .ref _), (1, .int _), (2, .int _), (3, .ref _)]) hx hb dL_under_13 hl (by decide) rfl (fun ls hl => ?_)
  refine lv_iconst (v := nI 1) hx hb dL_under_15 (by decide) ?_
  exact ret w rfl (Nat.le_refl _) (Nat.le_refl _) dL_under_16

set_option maxHeartbeats 4000000 in
set_option maxRecDepth 100000 in
theorem w_L_under_ISE {l : Launch} {E : En} {qo : Nat} {cJ : ClassId} {M M' : Mt} {n k n' k' fr lo : Nat} {g : Nat → Int64} {p0 p1 : Int32} (dn : dN E) (ap : apo E qo) (hfr : fr + 1 ≤ 10) (hlo : 8 + (3 + 11) + lo ≤ 400) (hM : MT l yX1_under (.code yX1_under cX1_under 3 (some .int)) fr lo E [.ref (ad E 0), .int p0, .int p1] M n k "java/lang/IllegalStateException" M' n' k') : MW l yL_under (.codeWith yL_under cL_under 5 (some .int) [(0, 10, 13, 13), (0, 10, 17, 15)]) E qo cJ [.ref (ad E 0), .int p0, .int p1, .ref qo] M n k g (nI 2) M' n' k' g := by
  refine MW.of dn ap (by decide) rfl (Nat.le_of_ble_eq_true rfl) (fun p e s m args below meth c ls Q K tab z w hl ret => ?_)
  have hx := K.1.1
  have hb := K.1.2.1
  have hl : lv_has ls 5 [(0, .ref (ad E 0)), (1, .int p0), (2, .int p1), (3, .ref qo)] := hl
  refine lv_aload_n hx hb dL_under_0 rfl (lv_at hl 3 rfl) ?_
  refine lv_iconst (v := nI 0) hx hb dL_under_1 (by decide) ?_
  refine lv_aload_n hx hb dL_under_2 rfl (lv_at hl 0 rfl) ?_
  refine lv_iload_n hx hb dL_under_3 rfl (lv_at hl 1 rfl) ?_
  refine lv_iload_n hx hb dL_under_4 rfl (lv_at hl 2 rfl) ?_
  refine wcallt K z w hM (lk_L_under K ⟨hfr, hlo⟩) rfl hl.1 rfl (Nat.le_of_ble_eq_true rfl) dL_under_5 ⟨Nat.le_refl _, Nat.le_refl _⟩ (fun q ce H locs w h1 h2 h3 => ?_)
  have z0 := z
  refine vx_catch (name := "java/lang/IllegalStateException") K.1.2.2.2.1 [⟨0, 10, 13, 13⟩] ⟨0, 10, 17, 15⟩ [] tab (fun z hz => by
    rw [List.mem_singleton] at hz
    subst hz
    exact Or.inr ⟨by decide, "java/lang/IllegalArgumentException", (K.1.2.2.2.2 _ (List.mem_cons_of_mem _ (List.mem_of_getElem? (i := 7) rfl))), z0.2.1⟩) rfl (by decide) (K.1.2.2.2.2 _ (List.mem_cons_of_mem _ (List.mem_of_getElem? (i := 8) rfl))) (va_Nw.use rfl (z.1.2.2.2.1 _ (by decide))) h1 h2 h3 ?_
  refine lv_astore (lv' := [(4, .ref _), (0, .ref _), (1, .int _), (2, .int _), (3, .ref _)]) hx hb dL_under_17 hl (by decide) rfl (fun ls hl => ?_)
  refine lv_iconst (v := nI 2) hx hb dL_under_19 (by decide) ?_
  exact ret w rfl (Nat.le_refl _) (Nat.le_refl _) dL_under_20

set_option maxHeartbeats 4000000 in
set_option maxRecDepth 100000 in
theorem w_L_tip_good {l : Launch} {E : En} {qo : Nat} {cJ : ClassId} {M M' : Mt} {n k n' k' fr lo : Nat} {g : Nat → Int64} {p0 p1 p2 : Int32} (dn : dN E) (ap : apo E qo) (hfr : fr + 1 ≤ 10) (hlo : 8 + (4 + 11) + lo ≤ 400) (hM : MV l yX1_tip (.code yX1_tip cX1_tip 4 none) fr lo E [.ref (ad E 0), .int p0, .int p1, .int p2] M n k M' n' k') : MW l yL_tip (.codeWith yL_tip cL_tip 5 (some .int) [(0, 7, 10, 13)]) E qo cJ [.ref (ad E 0), .int p0, .int p1, .int p2] M n k g (nI 0) M' n' k' (g) := by
  refine MW.of dn ap (by decide) rfl (Nat.le_of_ble_eq_true rfl) (fun p e s m args below meth c ls Q K tab z w hl ret => ?_)
  have hx := K.1.1
  have hb := K.1.2.1
  have hl : lv_has ls 5 [(0, .ref (ad E 0)), (1, .int p0), (2, .int p1), (3, .int p2)] := hl
  refine lv_aload_n hx hb dL_tip_0 rfl (lv_at hl 0 rfl) ?_
  refine lv_iload_n hx hb dL_tip_1 rfl (lv_at hl 1 rfl) ?_
  refine lv_iload_n hx hb dL_tip_2 rfl (lv_at hl 2 rfl) ?_
  refine lv_iload_n hx hb dL_tip_3 rfl (lv_at hl 3 rfl) ?_
  refine wcallv K w hM (lk_L_tip K ⟨hfr, hlo⟩) rfl hl.1 rfl (Nat.le_of_ble_eq_true rfl) dL_tip_4 ⟨Nat.zero_le _, Nat.zero_le _⟩ (fun H locs w => ?_)
  refine lv_goto (tgt := 14) hx hb dL_tip_7 rfl ?_
  refine lv_iconst (v := nI 0) hx hb dL_tip_14 (by decide) ?_
  exact ret w rfl (Nat.zero_le _) (Nat.zero_le _) dL_tip_15

set_option maxHeartbeats 4000000 in
set_option maxRecDepth 100000 in
theorem w_L_tip_IAE {l : Launch} {E : En} {qo : Nat} {cJ : ClassId} {M M' : Mt} {n k n' k' fr lo : Nat} {g : Nat → Int64} {p0 p1 p2 : Int32} (dn : dN E) (ap : apo E qo) (hfr : fr + 1 ≤ 10) (hlo : 8 + (4 + 11) + lo ≤ 400) (hM : MT l yX1_tip (.code yX1_tip cX1_tip 4 none) fr lo E [.ref (ad E 0), .int p0, .int p1, .int p2] M n k "java/lang/IllegalArgumentException" M' n' k') : MW l yL_tip (.codeWith yL_tip cL_tip 5 (some .int) [(0, 7, 10, 13)]) E qo cJ [.ref (ad E 0), .int p0, .int p1, .int p2] M n k g (nI 1) M' n' k' g := by
  refine MW.of dn ap (by decide) rfl (Nat.le_of_ble_eq_true rfl) (fun p e s m args below meth c ls Q K tab z w hl ret => ?_)
  have hx := K.1.1
  have hb := K.1.2.1
  have hl : lv_has ls 5 [(0, .ref (ad E 0)), (1, .int p0), (2, .int p1), (3, .int p2)] := hl
  refine lv_aload_n hx hb dL_tip_0 rfl (lv_at hl 0 rfl) ?_
  refine lv_iload_n hx hb dL_tip_1 rfl (lv_at hl 1 rfl) ?_
  refine lv_iload_n hx hb dL_tip_2 rfl (lv_at hl 2 rfl) ?_
  refine lv_iload_n hx hb dL_tip_3 rfl (lv_at hl 3 rfl) ?_
  refine wcallt K z w hM (lk_L_tip K ⟨hfr, hlo⟩) rfl hl.1 rfl (Nat.le_of_ble_eq_true rfl) dL_tip_4 ⟨Nat.le_refl _, Nat.le_refl _⟩ (fun q ce H locs w h1 h2 h3 => ?_)
  refine vx_catch (name := "java/lang/IllegalArgumentException") K.1.2.2.2.1 [] ⟨0, 7, 10, 13⟩ [] tab (fun z hz => absurd hz List.not_mem_nil) rfl (by decide) (K.1.2.2.2.2 _ (List.mem_cons_of_mem _ (List.mem_of_getElem? (i := 7) rfl))) (va_Nw.use rfl (z.1.2.2.2.1 _ (by decide))) h1 h2 h3 ?_
  refine lv_astore (lv' := [(4, .ref _), (0, .ref _), (1, .int _), (2, .int _), (3, .int _)]) hx hb dL_tip_10 hl (by decide) rfl (fun ls hl => ?_)
  refine lv_iconst (v := nI 1) hx hb dL_tip_12 (by decide) ?_
  exact ret w rfl (Nat.le_refl _) (Nat.le_refl _) dL_tip_13

set_option maxHeartbeats 4000000 in
set_option maxRecDepth 100000 in
theorem w_L_reaches_good1 {l : Launch} {E : En} {qo : Nat} {cJ : ClassId} {M M' : Mt} {n k n' k' fr lo : Nat} {g : Nat → Int64} {p0 p1 r : Int32} (dn : dN E) (ap : apo E qo) (hfr : fr + 1 ≤ 10) (hlo : 8 + (3 + 11) + lo ≤ 400) (hr1 : r = nI 1) (hM : MI l yX1_reaches (.code yX1_reaches cX1_reaches 3 (some .boolean)) fr lo E [.ref (ad E 0), .int p0, .int p1] M n k r M' n' k') : MW l yL_reaches (.codeWith yL_reaches cL_reaches 5 (some .int) [(0, 17, 20, 13)]) E qo cJ [.ref (ad E 0), .int p0, .int p1, .ref qo] M n k g (nI 0) M' n' k' (vp_updL g 0 (lN 1)) := by
  refine MW.of dn ap (by decide) rfl (Nat.le_of_ble_eq_true rfl) (fun p e s m args below meth c ls Q K tab z w hl ret => ?_)
  have hx := K.1.1
  have hb := K.1.2.1
  have hl : lv_has ls 5 [(0, .ref (ad E 0)), (1, .int p0), (2, .int p1), (3, .ref qo)] := hl
  refine lv_aload_n hx hb dL_reaches_0 rfl (lv_at hl 3 rfl) ?_
  refine lv_iconst (v := nI 0) hx hb dL_reaches_1 (by decide) ?_
  refine lv_aload_n hx hb dL_reaches_2 rfl (lv_at hl 0 rfl) ?_
  refine lv_iload_n hx hb dL_reaches_3 rfl (lv_at hl 1 rfl) ?_
  refine lv_iload_n hx hb dL_reaches_4 rfl (lv_at hl 2 rfl) ?_
  refine wcalli K w hM (lk_L_reaches K ⟨hfr, hlo⟩) rfl hl.1 rfl (Nat.le_of_ble_eq_true rfl) dL_reaches_5 ⟨Nat.zero_le _, Nat.zero_le _⟩ (fun H locs w => ?_)
  refine lv_if_eq (tgt := 15) hx hb dL_reaches_8 rfl (fun h9 => absurd h9 (by rw [hr1]; decide)) (fun _ => ?_)
  refine lv_lconst (v := lN 1) hx hb dL_reaches_11 rfl ?_
  refine lv_goto (tgt := 16) hx hb dL_reaches_12 rfl ?_
  refine stO K w dL_reaches_16 (fun H locs w => ?_)
  refine lv_goto (tgt := 24) hx hb dL_reaches_17 rfl ?_
  refine lv_iconst (v := nI 0) hx hb dL_reaches_24 (by decide) ?_
  exact ret w rfl (Nat.zero_le _) (Nat.zero_le _) dL_reaches_25

set_option maxHeartbeats 4000000 in
set_option maxRecDepth 100000 in
theorem w_L_reaches_good0 {l : Launch} {E : En} {qo : Nat} {cJ : ClassId} {M M' : Mt} {n k n' k' fr lo : Nat} {g : Nat → Int64} {p0 p1 r : Int32} (dn : dN E) (ap : apo E qo) (hfr : fr + 1 ≤ 10) (hlo : 8 + (3 + 11) + lo ≤ 400) (hr0 : r = nI 0) (hM : MI l yX1_reaches (.code yX1_reaches cX1_reaches 3 (some .boolean)) fr lo E [.ref (ad E 0), .int p0, .int p1] M n k r M' n' k') : MW l yL_reaches (.codeWith yL_reaches cL_reaches 5 (some .int) [(0, 17, 20, 13)]) E qo cJ [.ref (ad E 0), .int p0, .int p1, .ref qo] M n k g (nI 0) M' n' k' (vp_updL g 0 (lN 0)) := by
  refine MW.of dn ap (by decide) rfl (Nat.le_of_ble_eq_true rfl) (fun p e s m args below meth c ls Q K tab z w hl ret => ?_)
  have hx := K.1.1
  have hb := K.1.2.1
  have hl : lv_has ls 5 [(0, .ref (ad E 0)), (1, .int p0), (2, .int p1), (3, .ref qo)] := hl
  refine lv_aload_n hx hb dL_reaches_0 rfl (lv_at hl 3 rfl) ?_
  refine lv_iconst (v := nI 0) hx hb dL_reaches_1 (by decide) ?_
  refine lv_aload_n hx hb dL_reaches_2 rfl (lv_at hl 0 rfl) ?_
  refine lv_iload_n hx hb dL_reaches_3 rfl (lv_at hl 1 rfl) ?_
  refine lv_iload_n hx hb dL_reaches_4 rfl (lv_at hl 2 rfl) ?_
  refine wcalli K w hM (lk_L_reaches K ⟨hfr, hlo⟩) rfl hl.1 rfl (Nat.le_of_ble_eq_true rfl) dL_reaches_5 ⟨Nat.zero_le _, Nat.zero_le _⟩ (fun H locs w => ?_)
  refine lv_if_eq (tgt := 15) hx hb dL_reaches_8 rfl (fun _ => ?_) (fun h9 => absurd (by rw [hr0]; rfl) h9)
  refine lv_lconst (v := lN 0) hx hb dL_reaches_15 rfl ?_
  refine stO K w dL_reaches_16 (fun H locs w => ?_)
  refine lv_goto (tgt := 24) hx hb dL_reaches_17 rfl ?_
  refine lv_iconst (v := nI 0) hx hb dL_reaches_24 (by decide) ?_
  exact ret w rfl (Nat.zero_le _) (Nat.zero_le _) dL_reaches_25

set_option maxHeartbeats 4000000 in
set_option maxRecDepth 100000 in
theorem w_L_reaches_IAE {l : Launch} {E : En} {qo : Nat} {cJ : ClassId} {M M' : Mt} {n k n' k' fr lo : Nat} {g : Nat → Int64} {p0 p1 : Int32} (dn : dN E) (ap : apo E qo) (hfr : fr + 1 ≤ 10) (hlo : 8 + (3 + 11) + lo ≤ 400) (hM : MT l yX1_reaches (.code yX1_reaches cX1_reaches 3 (some .boolean)) fr lo E [.ref (ad E 0), .int p0, .int p1] M n k "java/lang/IllegalArgumentException" M' n' k') : MW l yL_reaches (.codeWith yL_reaches cL_reaches 5 (some .int) [(0, 17, 20, 13)]) E qo cJ [.ref (ad E 0), .int p0, .int p1, .ref qo] M n k g (nI 1) M' n' k' g := by
  refine MW.of dn ap (by decide) rfl (Nat.le_of_ble_eq_true rfl) (fun p e s m args below meth c ls Q K tab z w hl ret => ?_)
  have hx := K.1.1
  have hb := K.1.2.1
  have hl : lv_has ls 5 [(0, .ref (ad E 0)), (1, .int p0), (2, .int p1), (3, .ref qo)] := hl
  refine lv_aload_n hx hb dL_reaches_0 rfl (lv_at hl 3 rfl) ?_
  refine lv_iconst (v := nI 0) hx hb dL_reaches_1 (by decide) ?_
  refine lv_aload_n hx hb dL_reaches_2 rfl (lv_at hl 0 rfl) ?_
  refine lv_iload_n hx hb dL_reaches_3 rfl (lv_at hl 1 rfl) ?_
  refine lv_iload_n hx hb dL_reaches_4 rfl (lv_at hl 2 rfl) ?_
  refine wcallt K z w hM (lk_L_reaches K ⟨hfr, hlo⟩) rfl hl.1 rfl (Nat.le_of_ble_eq_true rfl) dL_reaches_5 ⟨Nat.le_refl _, Nat.le_refl _⟩ (fun q ce H locs w h1 h2 h3 => ?_)
  refine vx_catch (name := "java/lang/IllegalArgumentException") K.1.2.2.2.1 [] ⟨0, 17, 20, 13⟩ [] tab (fun z hz => absurd hz List.not_mem_nil) rfl (by decide) (K.1.2.2.2.2 _ (List.mem_cons_of_mem _ (List.mem_of_getElem? (i := 7) rfl))) (va_Nw.use rfl (z.1.2.2.2.1 _ (by decide))) h1 h2 h3 ?_
  refine lv_astore (lv' := [(4, .ref _), (0, .ref _), (1, .int _), (2, .int _), (3, .ref _)]) hx hb dL_reaches_20 hl (by decide) rfl (fun ls hl => ?_)
  refine lv_iconst (v := nI 1) hx hb dL_reaches_22 (by decide) ?_
  exact ret w rfl (Nat.le_refl _) (Nat.le_refl _) dL_reaches_23

set_option maxHeartbeats 4000000 in
set_option maxRecDepth 100000 in
theorem w_L_base_good {l : Launch} {E : En} {qo : Nat} {cJ : ClassId} {M M' : Mt} {n k n' k' fr lo : Nat} {g : Nat → Int64} {p0 p1 p2 r : Int32} (dn : dN E) (ap : apo E qo) (hfr : fr + 1 ≤ 10) (hlo : 8 + (5 + 11) + lo ≤ 400) (hM : MI l yX1_base (.code yX1_base cX1_base 5 (some .int)) fr lo E [.ref (ad E 0), .int p0, .int p1, .int p2] M n k r M' n' k') : MW l yL_base (.codeWith yL_base cL_base 6 (some .int) [(0, 12, 15, 13), (0, 12, 19, 33)]) E qo cJ [.ref (ad E 0), .int p0, .int p1, .int p2, .ref qo] M n k g (nI 0) M' n' k' (vp_updL g 0 (r.toInt64)) := by
  refine MW.of dn ap (by decide) rfl (Nat.le_of_ble_eq_true rfl) (fun p e s m args below meth c ls Q K tab z w hl ret => ?_)
  have hx := K.1.1
  have hb := K.1.2.1
  have hl : lv_has ls 6 [(0, .ref (ad E 0)), (1, .int p0), (2, .int p1), (3, .int p2), (4, .ref qo)] := hl
  refine lv_aload hx hb dL_base_0 (lv_at hl 4 rfl) ?_
  refine lv_iconst (v := nI 0) hx hb dL_base_2 (by decide) ?_
  refine lv_aload_n hx hb dL_base_3 rfl (lv_at hl 0 rfl) ?_
  refine lv_iload_n hx hb dL_base_4 rfl (lv_at hl 1 rfl) ?_
  refine lv_iload_n hx hb dL_base_5 rfl (lv_at hl 2 rfl) ?_
  refine lv_iload_n hx hb dL_base_6 rfl (lv_at hl 3 rfl) ?_
  refine wcalli K w hM (lk_L_base K ⟨hfr, hlo⟩) rfl hl.1 rfl (Nat.le_of_ble_eq_true rfl) dL_base_7 ⟨Nat.zero_le _, Nat.zero_le _⟩ (fun H locs w => ?_)
  refine lv_i2l hx hb dL_base_10 rfl ?_
  refine stO K w dL_base_11 (fun H locs w => ?_)
  refine lv_goto (tgt := 23) hx hb dL_base_12 rfl ?_
  refine lv_iconst (v := nI 0) hx hb dL_base_23 (by decide) ?_
  exact ret w rfl (Nat.zero_le _) (Nat.zero_le _) dL_base_24

set_option maxHeartbeats 4000000 in
set_option maxRecDepth 100000 in
theorem w_L_base_IAE {l : Launch} {E : En} {qo : Nat} {cJ : ClassId} {M M' : Mt} {n k n' k' fr lo : Nat} {g : Nat → Int64} {p0 p1 p2 : Int32} (dn : dN E) (ap : apo E qo) (hfr : fr + 1 ≤ 10) (hlo : 8 + (5 + 11) + lo ≤ 400) (hM : MT l yX1_base (.code yX1_base cX1_base 5 (some .int)) fr lo E [.ref (ad E 0), .int p0, .int p1, .int p2] M n k "java/lang/IllegalArgumentException" M' n' k') : MW l yL_base (.codeWith yL_base cL_base 6 (some .int) [(0, 12, 15, 13), (0, 12, 19, 33)]) E qo cJ [.ref (ad E 0), .int p0, .int p1, .int p2, .ref qo] M n k g (nI 1) M' n' k' g := by
  refine MW.of dn ap (by decide) rfl (Nat.le_of_ble_eq_true rfl) (fun p e s m args below meth c ls Q K tab z w hl ret => ?_)
  have hx := K.1.1
  have hb := K.1.2.1
  have hl : lv_has ls 6 [(0, .ref (ad E 0)), (1, .int p0), (2, .int p1), (3, .int p2), (4, .ref qo)] := hl
  refine lv_aload hx hb dL_base_0 (lv_at hl 4 rfl) ?_
  refine lv_iconst (v := nI 0) hx hb dL_base_2 (by decide) ?_
  refine lv_aload_n hx hb dL_base_3 rfl (lv_at hl 0 rfl) ?_
  refine lv_iload_n hx hb dL_base_4 rfl (lv_at hl 1 rfl) ?_
  refine lv_iload_n hx hb dL_base_5 rfl (lv_at hl 2 rfl) ?_
  refine lv_iload_n hx hb dL_base_6 rfl (lv_at hl 3 rfl) ?_
  refine wcallt K z w hM (lk_L_base K ⟨hfr, hlo⟩) rfl hl.1 rfl (Nat.le_of_ble_eq_true rfl) dL_base_7 ⟨Nat.le_refl _, Nat.le_refl _⟩ (fun q ce H locs w h1 h2 h3 => ?_)
  refine vx_catch (name := "java/lang/IllegalArgumentException") K.1.2.2.2.1 [] ⟨0, 12, 15, 13⟩ [⟨0, 12, 19, 33⟩] tab (fun z hz => absurd hz List.not_mem_nil) rfl (by decide) (K.1.2.2.2.2 _ (List.mem_cons_of_mem _ (List.mem_of_getElem? (i := 7) rfl))) (va_Nw.use rfl (z.1.2.2.2.1 _ (by decide))) h1 h2 h3 ?_
  refine lv_astore (lv' := [(5, .ref _), (0, .ref _), (1, .int _), (2, .int _), (3, .int _), (4, .ref _)]) hx hb dL_base_15 hl (by decide) rfl (fun ls hl => ?_)
  refine lv_iconst (v := nI 1) hx hb dL_base_17 (by decide) ?_
  exact ret w rfl (Nat.le_refl _) (Nat.le_refl _) dL_base_18

set_option maxHeartbeats 4000000 in
set_option maxRecDepth 100000 in
theorem w_L_base_NSE {l : Launch} {E : En} {qo : Nat} {cJ : ClassId} {M M' : Mt} {n k n' k' fr lo : Nat} {g : Nat → Int64} {p0 p1 p2 : Int32} (dn : dN E) (ap : apo E qo) (hfr : fr + 1 ≤ 10) (hlo : 8 + (5 + 11) + lo ≤ 400) (hM : MT l yX1_base (.code yX1_base cX1_base 5 (some .int)) fr lo E [.ref (ad E 0), .int p0, .int p1, .int p2] M n k "java/util/NoSuchElementException" M' n' k') : MW l yL_base (.codeWith yL_base cL_base 6 (some .int) [(0, 12, 15, 13), (0, 12, 19, 33)]) E qo cJ [.ref (ad E 0), .int p0, .int p1, .int p2, .ref qo] M n k g (nI 2) M' n' k' g := by
  refine MW.of dn ap (by decide) rfl (Nat.le_of_ble_eq_true rfl) (fun p e s m args below meth c ls Q K tab z w hl ret => ?_)
  have hx := K.1.1
  have hb := K.1.2.1
  have hl : lv_has ls 6 [(0, .ref (ad E 0)), (1, .int p0), (2, .int p1), (3, .int p2), (4, .ref qo)] := hl
  refine lv_aload hx hb dL_base_0 (lv_at hl 4 rfl) ?_
  refine lv_iconst (v := nI 0) hx hb dL_base_2 (by decide) ?_
  refine lv_aload_n hx hb dL_base_3 rfl (lv_at hl 0 rfl) ?_
  refine lv_iload_n hx hb dL_base_4 rfl (lv_at hl 1 rfl) ?_
  refine lv_iload_n hx hb dL_base_5 rfl (lv_at hl 2 rfl) ?_
  refine lv_iload_n hx hb dL_base_6 rfl (lv_at hl 3 rfl) ?_
  refine wcallt K z w hM (lk_L_base K ⟨hfr, hlo⟩) rfl hl.1 rfl (Nat.le_of_ble_eq_true rfl) dL_base_7 ⟨Nat.le_refl _, Nat.le_refl _⟩ (fun q ce H locs w h1 h2 h3 => ?_)
  have z0 := z
  refine vx_catch (name := "java/util/NoSuchElementException") K.1.2.2.2.1 [⟨0, 12, 15, 13⟩] ⟨0, 12, 19, 33⟩ [] tab (fun z hz => by
    rw [List.mem_singleton] at hz
    subst hz
    exact Or.inr ⟨by decide, "java/lang/IllegalArgumentException", (K.1.2.2.2.2 _ (List.mem_cons_of_mem _ (List.mem_of_getElem? (i := 7) rfl))), z0.2.2⟩) rfl (by decide) (K.1.2.2.2.2 _ (List.mem_cons_of_mem _ (List.mem_of_getElem? (i := 25) rfl))) (va_Nw.use rfl (z.1.2.2.2.1 _ (by decide))) h1 h2 h3 ?_
  refine lv_astore (lv' := [(5, .ref _), (0, .ref _), (1, .int _), (2, .int _), (3, .int _), (4, .ref _)]) hx hb dL_base_19 hl (by decide) rfl (fun ls hl => ?_)
  refine lv_iconst (v := nI 2) hx hb dL_base_21 (by decide) ?_
  exact ret w rfl (Nat.le_refl _) (Nat.le_refl _) dL_base_22

set_option maxHeartbeats 4000000 in
set_option maxRecDepth 100000 in
theorem w_L_log_good {l : Launch} {E : En} {qo : Nat} {cJ : ClassId} {M M' : Mt} {n k n' k' fr lo : Nat} {g : Nat → Int64} {p0 p1 r : Int32} (dn : dN E) (ap : apo E qo) (hfr : fr + 1 ≤ 10) (hlo : 8 + (4 + 11) + lo ≤ 400) (hM : MI l yX1_log (.code yX1_log cX1_log 4 (some .int)) fr lo E [.ref (ad E 0), .int p0, .int p1] M n k r M' n' k') : MW l yL_log (.codeWith yL_log cL_log 5 (some .int) [(0, 10, 13, 13), (0, 10, 17, 33)]) E qo cJ [.ref (ad E 0), .int p0, .int p1, .ref qo] M n k g (nI 0) M' n' k' (vp_updL g 0 (r.toInt64)) := by
  refine MW.of dn ap (by decide) rfl (Nat.le_of_ble_eq_true rfl) (fun p e s m args below meth c ls Q K tab z w hl ret => ?_)
  have hx := K.1.1
  have hb := K.1.2.1
  have hl : lv_has ls 5 [(0, .ref (ad E 0)), (1, .int p0), (2, .int p1), (3, .ref qo)] := hl
  refine lv_aload_n hx hb dL_log_0 rfl (lv_at hl 3 rfl) ?_
  refine lv_iconst (v := nI 0) hx hb dL_log_1 (by decide) ?_
  refine lv_aload_n hx hb dL_log_2 rfl (lv_at hl 0 rfl) ?_
  refine lv_iload_n hx hb dL_log_3 rfl (lv_at hl 1 rfl) ?_
  refine lv_iload_n hx hb dL_log_4 rfl (lv_at hl 2 rfl) ?_
  refine wcalli K w hM (lk_L_log K ⟨hfr, hlo⟩) rfl hl.1 rfl (Nat.le_of_ble_eq_true rfl) dL_log_5 ⟨Nat.zero_le _, Nat.zero_le _⟩ (fun H locs w => ?_)
  refine lv_i2l hx hb dL_log_8 rfl ?_
  refine stO K w dL_log_9 (fun H locs w => ?_)
  refine lv_goto (tgt := 21) hx hb dL_log_10 rfl ?_
  refine lv_iconst (v := nI 0) hx hb dL_log_21 (by decide) ?_
  exact ret w rfl (Nat.zero_le _) (Nat.zero_le _) dL_log_22

set_option maxHeartbeats 4000000 in
set_option maxRecDepth 100000 in
theorem w_L_log_IAE {l : Launch} {E : En} {qo : Nat} {cJ : ClassId} {M M' : Mt} {n k n' k' fr lo : Nat} {g : Nat → Int64} {p0 p1 : Int32} (dn : dN E) (ap : apo E qo) (hfr : fr + 1 ≤ 10) (hlo : 8 + (4 + 11) + lo ≤ 400) (hM : MT l yX1_log (.code yX1_log cX1_log 4 (some .int)) fr lo E [.ref (ad E 0), .int p0, .int p1] M n k "java/lang/IllegalArgumentException" M' n' k') : MW l yL_log (.codeWith yL_log cL_log 5 (some .int) [(0, 10, 13, 13), (0, 10, 17, 33)]) E qo cJ [.ref (ad E 0), .int p0, .int p1, .ref qo] M n k g (nI 1) M' n' k' g := by
  refine MW.of dn ap (by decide) rfl (Nat.le_of_ble_eq_true rfl) (fun p e s m args below meth c ls Q K tab z w hl ret => ?_)
  have hx := K.1.1
  have hb := K.1.2.1
  have hl : lv_has ls 5 [(0, .ref (ad E 0)), (1, .int p0), (2, .int p1), (3, .ref qo)] := hl
  refine lv_aload_n hx hb dL_log_0 rfl (lv_at hl 3 rfl) ?_
  refine lv_iconst (v := nI 0) hx hb dL_log_1 (by decide) ?_
  refine lv_aload_n hx hb dL_log_2 rfl (lv_at hl 0 rfl) ?_
  refine lv_iload_n hx hb dL_log_3 rfl (lv_at hl 1 rfl) ?_
  refine lv_iload_n hx hb dL_log_4 rfl (lv_at hl 2 rfl) ?_
  refine wcallt K z w hM (lk_L_log K ⟨hfr, hlo⟩) rfl hl.1 rfl (Nat.le_of_ble_eq_true rfl) dL_log_5 ⟨Nat.le_refl _, Nat.le_refl _⟩ (fun q ce H locs w h1 h2 h3 => ?_)
  refine vx_catch (name := "java/lang/IllegalArgumentException") K.1.2.2.2.1 [] ⟨0, 10, 13, 13⟩ [⟨0, 10, 17, 33⟩] tab (fun z hz => absurd hz List.not_mem_nil) rfl (by decide) (K.1.2.2.2.2 _ (List.mem_cons_of_mem _ (List.mem_of_getElem? (i := 7) rfl))) (va_Nw.use rfl (z.1.2.2.2.1 _ (by decide))) h1 h2 h3 ?_
  refine lv_astore (lv' := [(4, .ref _), (0, .ref _), (1, .int _), (2, .int _), (3, .ref _)]) hx hb dL_log_13 hl (by decide) rfl (fun ls hl => ?_)
  refine lv_iconst (v := nI 1) hx hb dL_log_15 (by decide) ?_
  exact ret w rfl (Nat.le_refl _) (Nat.le_refl _) dL_log_16

set_option maxHeartbeats 4000000 in
set_option maxRecDepth 100000 in
theorem w_L_log_NSE {l : Launch} {E : En} {qo : Nat} {cJ : ClassId} {M M' : Mt} {n k n' k' fr lo : Nat} {g : Nat → Int64} {p0 p1 : Int32} (dn : dN E) (ap : apo E qo) (hfr : fr + 1 ≤ 10) (hlo : 8 + (4 + 11) + lo ≤ 400) (hM : MT l yX1_log (.code yX1_log cX1_log 4 (some .int)) fr lo E [.ref (ad E 0), .int p0, .int p1] M n k "java/util/NoSuchElementException" M' n' k') : MW l yL_log (.codeWith yL_log cL_log 5 (some .int) [(0, 10, 13, 13), (0, 10, 17, 33)]) E qo cJ [.ref (ad E 0), .int p0, .int p1, .ref qo] M n k g (nI 2) M' n' k' g := by
  refine MW.of dn ap (by decide) rfl (Nat.le_of_ble_eq_true rfl) (fun p e s m args below meth c ls Q K tab z w hl ret => ?_)
  have hx := K.1.1
  have hb := K.1.2.1
  have hl : lv_has ls 5 [(0, .ref (ad E 0)), (1, .int p0), (2, .int p1), (3, .ref qo)] := hl
  refine lv_aload_n hx hb dL_log_0 rfl (lv_at hl 3 rfl) ?_
  refine lv_iconst (v := nI 0) hx hb dL_log_1 (by decide) ?_
  refine lv_aload_n hx hb dL_log_2 rfl (lv_at hl 0 rfl) ?_
  refine lv_iload_n hx hb dL_log_3 rfl (lv_at hl 1 rfl) ?_
  refine lv_iload_n hx hb dL_log_4 rfl (lv_at hl 2 rfl) ?_
  refine wcallt K z w hM (lk_L_log K ⟨hfr, hlo⟩) rfl hl.1 rfl (Nat.le_of_ble_eq_true rfl) dL_log_5 ⟨Nat.le_refl _, Nat.le_refl _⟩ (fun q ce H locs w h1 h2 h3 => ?_)
  have z0 := z
  refine vx_catch (name := "java/util/NoSuchElementException") K.1.2.2.2.1 [⟨0, 10, 13, 13⟩] ⟨0, 10, 17, 33⟩ [] tab (fun z hz => by
    rw [List.mem_singleton] at hz
    subst hz
    exact Or.inr ⟨by decide, "java/lang/IllegalArgumentException", (K.1.2.2.2.2 _ (List.mem_cons_of_mem _ (List.mem_of_getElem? (i := 7) rfl))), z0.2.2⟩) rfl (by decide) (K.1.2.2.2.2 _ (List.mem_cons_of_mem _ (List.mem_of_getElem? (i := 25) rfl))) (va_Nw.use rfl (z.1.2.2.2.1 _ (by decide))) h1 h2 h3 ?_
  refine lv_astore (lv' := [(4, .ref _), (0, .ref _), (1, .int _), (2, .int _), (3, .ref _)]) hx hb dL_log_17 hl (by decide) rfl (fun ls hl => ?_)
  refine lv_iconst (v := nI 2) hx hb dL_log_19 (by decide) ?_
  exact ret w rfl (Nat.le_refl _) (Nat.le_refl _) dL_log_20

set_option maxHeartbeats 4000000 in
set_option maxRecDepth 100000 in
theorem w_L_back_good {l : Launch} {E : En} {qo : Nat} {cJ : ClassId} {M M' : Mt} {n k n' k' fr lo : Nat} {g : Nat → Int64} {p0 p1 r : Int32} (dn : dN E) (ap : apo E qo) (hfr : fr + 1 ≤ 10) (hlo : 8 + (5 + 11) + lo ≤ 400) (hM : MI l yX1_back (.code yX1_back cX1_back 5 (some .int)) fr lo E [.ref (ad E 0), .int p0, .int p1] M n k r M' n' k') : MW l yL_back (.codeWith yL_back cL_back 5 (some .int) [(0, 10, 13, 13), (0, 10, 17, 33)]) E qo cJ [.ref (ad E 0), .int p0, .int p1, .ref qo] M n k g (nI 0) M' n' k' (vp_updL g 0 (r.toInt64)) := by
  refine MW.of dn ap (by decide) rfl (Nat.le_of_ble_eq_true rfl) (fun p e s m args below meth c ls Q K tab z w hl ret => ?_)
  have hx := K.1.1
  have hb := K.1.2.1
  have hl : lv_has ls 5 [(0, .ref (ad E 0)), (1, .int p0), (2, .int p1), (3, .ref qo)] := hl
  refine lv_aload_n hx hb dL_back_0 rfl (lv_at hl 3 rfl) ?_
  refine lv_iconst (v := nI 0) hx hb dL_back_1 (by decide) ?_
  refine lv_aload_n hx hb dL_back_2 rfl (lv_at hl 0 rfl) ?_
  refine lv_iload_n hx hb dL_back_3 rfl (lv_at hl 1 rfl) ?_
  refine lv_iload_n hx hb dL_back_4 rfl (lv_at hl 2 rfl) ?_
  refine wcalli K w hM (lk_L_back K ⟨hfr, hlo⟩) rfl hl.1 rfl (Nat.le_of_ble_eq_true rfl) dL_back_5 ⟨Nat.zero_le _, Nat.zero_le _⟩ (fun H locs w => ?_)
  refine lv_i2l hx hb dL_back_8 rfl ?_
  refine stO K w dL_back_9 (fun H locs w => ?_)
  refine lv_goto (tgt := 21) hx hb dL_back_10 rfl ?_
  refine lv_iconst (v := nI 0) hx hb dL_back_21 (by decide) ?_
  exact ret w rfl (Nat.zero_le _) (Nat.zero_le _) dL_back_22

set_option maxHeartbeats 4000000 in
set_option maxRecDepth 100000 in
theorem w_L_back_IAE {l : Launch} {E : En} {qo : Nat} {cJ : ClassId} {M M' : Mt} {n k n' k' fr lo : Nat} {g : Nat → Int64} {p0 p1 : Int32} (dn : dN E) (ap : apo E qo) (hfr : fr + 1 ≤ 10) (hlo : 8 + (5 + 11) + lo ≤ 400) (hM : MT l yX1_back (.code yX1_back cX1_back 5 (some .int)) fr lo E [.ref (ad E 0), .int p0, .int p1] M n k "java/lang/IllegalArgumentException" M' n' k') : MW l yL_back (.codeWith yL_back cL_back 5 (some .int) [(0, 10, 13, 13), (0, 10, 17, 33)]) E qo cJ [.ref (ad E 0), .int p0, .int p1, .ref qo] M n k g (nI 1) M' n' k' g := by
  refine MW.of dn ap (by decide) rfl (Nat.le_of_ble_eq_true rfl) (fun p e s m args below meth c ls Q K tab z w hl ret => ?_)
  have hx := K.1.1
  have hb := K.1.2.1
  have hl : lv_has ls 5 [(0, .ref (ad E 0)), (1, .int p0), (2, .int p1), (3, .ref qo)] := hl
  refine lv_aload_n hx hb dL_back_0 rfl (lv_at hl 3 rfl) ?_
  refine lv_iconst (v := nI 0) hx hb dL_back_1 (by decide) ?_
  refine lv_aload_n hx hb dL_back_2 rfl (lv_at hl 0 rfl) ?_
  refine lv_iload_n hx hb dL_back_3 rfl (lv_at hl 1 rfl) ?_
  refine lv_iload_n hx hb dL_back_4 rfl (lv_at hl 2 rfl) ?_
  refine wcallt K z w hM (lk_L_back K ⟨hfr, hlo⟩) rfl hl.1 rfl (Nat.le_of_ble_eq_true rfl) dL_back_5 ⟨Nat.le_refl _, Nat.le_refl _⟩ (fun q ce H locs w h1 h2 h3 => ?_)
  refine vx_catch (name := "java/lang/IllegalArgumentException") K.1.2.2.2.1 [] ⟨0, 10, 13, 13⟩ [⟨0, 10, 17, 33⟩] tab (fun z hz => absurd hz List.not_mem_nil) rfl (by decide) (K.1.2.2.2.2 _ (List.mem_cons_of_mem _ (List.mem_of_getElem? (i := 7) rfl))) (va_Nw.use rfl (z.1.2.2.2.1 _ (by decide))) h1 h2 h3 ?_
  refine lv_astore (lv' := [(4, .ref _), (0, .ref _), (1, .int _), (2, .int _), (3, .ref _)]) hx hb dL_back_13 hl (by decide) rfl (fun ls hl => ?_)
  refine lv_iconst (v := nI 1) hx hb dL_back_15 (by decide) ?_
  exact ret w rfl (Nat.le_refl _) (Nat.le_refl _) dL_back_16

set_option maxHeartbeats 4000000 in
set_option maxRecDepth 100000 in
theorem w_L_back_NSE {l : Launch} {E : En} {qo : Nat} {cJ : ClassId} {M M' : Mt} {n k n' k' fr lo : Nat} {g : Nat → Int64} {p0 p1 : Int32} (dn : dN E) (ap : apo E qo) (hfr : fr + 1 ≤ 10) (hlo : 8 + (5 + 11) + lo ≤ 400) (hM : MT l yX1_back (.code yX1_back cX1_back 5 (some .int)) fr lo E [.ref (ad E 0), .int p0, .int p1] M n k "java/util/NoSuchElementException" M' n' k') : MW l yL_back (.codeWith yL_back cL_back 5 (some .int) [(0, 10, 13, 13), (0, 10, 17, 33)]) E qo cJ [.ref (ad E 0), .int p0, .int p1, .ref qo] M n k g (nI 2) M' n' k' g := by
  refine MW.of dn ap (by decide) rfl (Nat.le_of_ble_eq_true rfl) (fun p e s m args below meth c ls Q K tab z w hl ret => ?_)
  have hx := K.1.1
  have hb := K.1.2.1
  have hl : lv_has ls 5 [(0, .ref (ad E 0)), (1, .int p0), (2, .int p1), (3, .ref qo)] := hl
  refine lv_aload_n hx hb dL_back_0 rfl (lv_at hl 3 rfl) ?_
  refine lv_iconst (v := nI 0) hx hb dL_back_1 (by decide) ?_
  refine lv_aload_n hx hb dL_back_2 rfl (lv_at hl 0 rfl) ?_
  refine lv_iload_n hx hb dL_back_3 rfl (lv_at hl 1 rfl) ?_
  refine lv_iload_n hx hb dL_back_4 rfl (lv_at hl 2 rfl) ?_
  refine wcallt K z w hM (lk_L_back K ⟨hfr, hlo⟩) rfl hl.1 rfl (Nat.le_of_ble_eq_true rfl) dL_back_5 ⟨Nat.le_refl _, Nat.le_refl _⟩ (fun q ce H locs w h1 h2 h3 => ?_)
  have z0 := z
  refine vx_catch (name := "java/util/NoSuchElementException") K.1.2.2.2.1 [⟨0, 10, 13, 13⟩] ⟨0, 10, 17, 33⟩ [] tab (fun z hz => by
    rw [List.mem_singleton] at hz
    subst hz
    exact Or.inr ⟨by decide, "java/lang/IllegalArgumentException", (K.1.2.2.2.2 _ (List.mem_cons_of_mem _ (List.mem_of_getElem? (i := 7) rfl))), z0.2.2⟩) rfl (by decide) (K.1.2.2.2.2 _ (List.mem_cons_of_mem _ (List.mem_of_getElem? (i := 25) rfl))) (va_Nw.use rfl (z.1.2.2.2.1 _ (by decide))) h1 h2 h3 ?_
  refine lv_astore (lv' := [(4, .ref _), (0, .ref _), (1, .int _), (2, .int _), (3, .ref _)]) hx hb dL_back_17 hl (by decide) rfl (fun ls hl => ?_)
  refine lv_iconst (v := nI 2) hx hb dL_back_19 (by decide) ?_
  exact ret w rfl (Nat.le_refl _) (Nat.le_refl _) dL_back_20

set_option maxHeartbeats 4000000 in
set_option maxRecDepth 100000 in
theorem w_L_sent_good {l : Launch} {E : En} {qo : Nat} {cJ : ClassId} {M M' : Mt} {n k n' k' fr lo : Nat} {g : Nat → Int64} {p0 p1 r : Int32} (dn : dN E) (ap : apo E qo) (hfr : fr + 1 ≤ 10) (hlo : 8 + (4 + 11) + lo ≤ 400) (hM : MI l yX1_sent (.code yX1_sent cX1_sent 4 (some .int)) fr lo E [.ref (ad E 0), .int p0, .int p1] M n k r M' n' k') : MW l yL_sent (.codeWith yL_sent cL_sent 5 (some .int) [(0, 10, 13, 13), (0, 10, 17, 33)]) E qo cJ [.ref (ad E 0), .int p0, .int p1, .ref qo] M n k g (nI 0) M' n' k' (vp_updL g 0 (r.toInt64)) := by
  refine MW.of dn ap (by decide) rfl (Nat.le_of_ble_eq_true rfl) (fun p e s m args below meth c ls Q K tab z w hl ret => ?_)
  have hx := K.1.1
  have hb := K.1.2.1
  have hl : lv_has ls 5 [(0, .ref (ad E 0)), (1, .int p0), (2, .int p1), (3, .ref qo)] := hl
  refine lv_aload_n hx hb dL_sent_0 rfl (lv_at hl 3 rfl) ?_
  refine lv_iconst (v := nI 0) hx hb dL_sent_1 (by decide) ?_
  refine lv_aload_n hx hb dL_sent_2 rfl (lv_at hl 0 rfl) ?_
  refine lv_iload_n hx hb dL_sent_3 rfl (lv_at hl 1 rfl) ?_
  refine lv_iload_n hx hb dL_sent_4 rfl (lv_at hl 2 rfl) ?_
  refine wcalli K w hM (lk_L_sent K ⟨hfr, hlo⟩) rfl hl.1 rfl (Nat.le_of_ble_eq_true rfl) dL_sent_5 ⟨Nat.zero_le _, Nat.zero_le _⟩ (fun H locs w => ?_)
  refine lv_i2l hx hb dL_sent_8 rfl ?_
  refine stO K w dL_sent_9 (fun H locs w => ?_)
  refine lv_goto (tgt := 21) hx hb dL_sent_10 rfl ?_
  refine lv_iconst (v := nI 0) hx hb dL_sent_21 (by decide) ?_
  exact ret w rfl (Nat.zero_le _) (Nat.zero_le _) dL_sent_22

set_option maxHeartbeats 4000000 in
set_option maxRecDepth 100000 in
theorem w_L_sent_IAE {l : Launch} {E : En} {qo : Nat} {cJ : ClassId} {M M' : Mt} {n k n' k' fr lo : Nat} {g : Nat → Int64} {p0 p1 : Int32} (dn : dN E) (ap : apo E qo) (hfr : fr + 1 ≤ 10) (hlo : 8 + (4 + 11) + lo ≤ 400) (hM : MT l yX1_sent (.code yX1_sent cX1_sent 4 (some .int)) fr lo E [.ref (ad E 0), .int p0, .int p1] M n k "java/lang/IllegalArgumentException" M' n' k') : MW l yL_sent (.codeWith yL_sent cL_sent 5 (some .int) [(0, 10, 13, 13), (0, 10, 17, 33)]) E qo cJ [.ref (ad E 0), .int p0, .int p1, .ref qo] M n k g (nI 1) M' n' k' g := by
  refine MW.of dn ap (by decide) rfl (Nat.le_of_ble_eq_true rfl) (fun p e s m args below meth c ls Q K tab z w hl ret => ?_)
  have hx := K.1.1
  have hb := K.1.2.1
  have hl : lv_has ls 5 [(0, .ref (ad E 0)), (1, .int p0), (2, .int p1), (3, .ref qo)] := hl
  refine lv_aload_n hx hb dL_sent_0 rfl (lv_at hl 3 rfl) ?_
  refine lv_iconst (v := nI 0) hx hb dL_sent_1 (by decide) ?_
  refine lv_aload_n hx hb dL_sent_2 rfl (lv_at hl 0 rfl) ?_
  refine lv_iload_n hx hb dL_sent_3 rfl (lv_at hl 1 rfl) ?_
  refine lv_iload_n hx hb dL_sent_4 rfl (lv_at hl 2 rfl) ?_
  refine wcallt K z w hM (lk_L_sent K ⟨hfr, hlo⟩) rfl hl.1 rfl (Nat.le_of_ble_eq_true rfl) dL_sent_5 ⟨Nat.le_refl _, Nat.le_refl _⟩ (fun q ce H locs w h1 h2 h3 => ?_)
  refine vx_catch (name := "java/lang/IllegalArgumentException") K.1.2.2.2.1 [] ⟨0, 10, 13, 13⟩ [⟨0, 10, 17, 33⟩] tab (fun z hz => absurd hz List.not_mem_nil) rfl (by decide) (K.1.2.2.2.2 _ (List.mem_cons_of_mem _ (List.mem_of_getElem? (i := 7) rfl))) (va_Nw.use rfl (z.1.2.2.2.1 _ (by decide))) h1 h2 h3 ?_
  refine lv_astore (lv' := [(4, .ref _), (0, .ref _), (1, .int _), (2, .int _), (3, .ref _)]) hx hb dL_sent_13 hl (by decide) rfl (fun ls hl => ?_)
  refine lv_iconst (v := nI 1) hx hb dL_sent_15 (by decide) ?_
  exact ret w rfl (Nat.le_refl _) (Nat.le_refl _) dL_sent_16

set_option maxHeartbeats 4000000 in
set_option maxRecDepth 100000 in
theorem w_L_sent_NSE {l : Launch} {E : En} {qo : Nat} {cJ : ClassId} {M M' : Mt} {n k n' k' fr lo : Nat} {g : Nat → Int64} {p0 p1 : Int32} (dn : dN E) (ap : apo E qo) (hfr : fr + 1 ≤ 10) (hlo : 8 + (4 + 11) + lo ≤ 400) (hM : MT l yX1_sent (.code yX1_sent cX1_sent 4 (some .int)) fr lo E [.ref (ad E 0), .int p0, .int p1] M n k "java/util/NoSuchElementException" M' n' k') : MW l yL_sent (.codeWith yL_sent cL_sent 5 (some .int) [(0, 10, 13, 13), (0, 10, 17, 33)]) E qo cJ [.ref (ad E 0), .int p0, .int p1, .ref qo] M n k g (nI 2) M' n' k' g := by
  refine MW.of dn ap (by decide) rfl (Nat.le_of_ble_eq_true rfl) (fun p e s m args below meth c ls Q K tab z w hl ret => ?_)
  have hx := K.1.1
  have hb := K.1.2.1
  have hl : lv_has ls 5 [(0, .ref (ad E 0)), (1, .int p0), (2, .int p1), (3, .ref qo)] := hl
  refine lv_aload_n hx hb dL_sent_0 rfl (lv_at hl 3 rfl) ?_
  refine lv_iconst (v := nI 0) hx hb dL_sent_1 (by decide) ?_
  refine lv_aload_n hx hb dL_sent_2 rfl (lv_at hl 0 rfl) ?_
  refine lv_iload_n hx hb dL_sent_3 rfl (lv_at hl 1 rfl) ?_
  refine lv_iload_n hx hb dL_sent_4 rfl (lv_at hl 2 rfl) ?_
  refine wcallt K z w hM (lk_L_sent K ⟨hfr, hlo⟩) rfl hl.1 rfl (Nat.le_of_ble_eq_true rfl) dL_sent_5 ⟨Nat.le_refl _, Nat.le_refl _⟩ (fun q ce H locs w h1 h2 h3 => ?_)
  have z0 := z
  refine vx_catch (name := "java/util/NoSuchElementException") K.1.2.2.2.1 [⟨0, 10, 13, 13⟩] ⟨0, 10, 17, 33⟩ [] tab (fun z hz => by
    rw [List.mem_singleton] at hz
    subst hz
    exact Or.inr ⟨by decide, "java/lang/IllegalArgumentException", (K.1.2.2.2.2 _ (List.mem_cons_of_mem _ (List.mem_of_getElem? (i := 7) rfl))), z0.2.2⟩) rfl (by decide) (K.1.2.2.2.2 _ (List.mem_cons_of_mem _ (List.mem_of_getElem? (i := 25) rfl))) (va_Nw.use rfl (z.1.2.2.2.1 _ (by decide))) h1 h2 h3 ?_
  refine lv_astore (lv' := [(4, .ref _), (0, .ref _), (1, .int _), (2, .int _), (3, .ref _)]) hx hb dL_sent_17 hl (by decide) rfl (fun ls hl => ?_)
  refine lv_iconst (v := nI 2) hx hb dL_sent_19 (by decide) ?_
  exact ret w rfl (Nat.le_refl _) (Nat.le_refl _) dL_sent_20

set_option maxHeartbeats 4000000 in
set_option maxRecDepth 100000 in
theorem w_L_told_good {l : Launch} {E : En} {qo : Nat} {cJ : ClassId} {M M' : Mt} {n k n' k' fr lo : Nat} {g : Nat → Int64} {p0 p1 r : Int32} (dn : dN E) (ap : apo E qo) (hfr : fr + 1 ≤ 10) (hlo : 8 + (3 + 11) + lo ≤ 400) (hM : MI l yX1_told (.code yX1_told cX1_told 3 (some .int)) fr lo E [.ref (ad E 0), .int p0, .int p1] M n k r M' n' k') : MW l yL_told (.codeWith yL_told cL_told 5 (some .int) [(0, 10, 13, 13)]) E qo cJ [.ref (ad E 0), .int p0, .int p1, .ref qo] M n k g (nI 0) M' n' k' (vp_updL g 0 (r.toInt64)) := by
  refine MW.of dn ap (by decide) rfl (Nat.le_of_ble_eq_true rfl) (fun p e s m args below meth c ls Q K tab z w hl ret => ?_)
  have hx := K.1.1
  have hb := K.1.2.1
  have hl : lv_has ls 5 [(0, .ref (ad E 0)), (1, .int p0), (2, .int p1), (3, .ref qo)] := hl
  refine lv_aload_n hx hb dL_told_0 rfl (lv_at hl 3 rfl) ?_
  refine lv_iconst (v := nI 0) hx hb dL_told_1 (by decide) ?_
  refine lv_aload_n hx hb dL_told_2 rfl (lv_at hl 0 rfl) ?_
  refine lv_iload_n hx hb dL_told_3 rfl (lv_at hl 1 rfl) ?_
  refine lv_iload_n hx hb dL_told_4 rfl (lv_at hl 2 rfl) ?_
  refine wcalli K w hM (lk_L_told K ⟨hfr, hlo⟩) rfl hl.1 rfl (Nat.le_of_ble_eq_true rfl) dL_told_5 ⟨Nat.zero_le _, Nat.zero_le _⟩ (fun H locs w => ?_)
  refine lv_i2l hx hb dL_told_8 rfl ?_
  refine stO K w dL_told_9 (fun H locs w => ?_)
  refine lv_goto (tgt := 17) hx hb dL_told_10 rfl ?_
  refine lv_iconst (v := nI 0) hx hb dL_told_17 (by decide) ?_
  exact ret w rfl (Nat.zero_le _) (Nat.zero_le _) dL_told_18

set_option maxHeartbeats 4000000 in
set_option maxRecDepth 100000 in
theorem w_L_told_IAE {l : Launch} {E : En} {qo : Nat} {cJ : ClassId} {M M' : Mt} {n k n' k' fr lo : Nat} {g : Nat → Int64} {p0 p1 : Int32} (dn : dN E) (ap : apo E qo) (hfr : fr + 1 ≤ 10) (hlo : 8 + (3 + 11) + lo ≤ 400) (hM : MT l yX1_told (.code yX1_told cX1_told 3 (some .int)) fr lo E [.ref (ad E 0), .int p0, .int p1] M n k "java/lang/IllegalArgumentException" M' n' k') : MW l yL_told (.codeWith yL_told cL_told 5 (some .int) [(0, 10, 13, 13)]) E qo cJ [.ref (ad E 0), .int p0, .int p1, .ref qo] M n k g (nI 1) M' n' k' g := by
  refine MW.of dn ap (by decide) rfl (Nat.le_of_ble_eq_true rfl) (fun p e s m args below meth c ls Q K tab z w hl ret => ?_)
  have hx := K.1.1
  have hb := K.1.2.1
  have hl : lv_has ls 5 [(0, .ref (ad E 0)), (1, .int p0), (2, .int p1), (3, .ref qo)] := hl
  refine lv_aload_n hx hb dL_told_0 rfl (lv_at hl 3 rfl) ?_
  refine lv_iconst (v := nI 0) hx hb dL_told_1 (by decide) ?_
  refine lv_aload_n hx hb dL_told_2 rfl (lv_at hl 0 rfl) ?_
  refine lv_iload_n hx hb dL_told_3 rfl (lv_at hl 1 rfl) ?_
  refine lv_iload_n hx hb dL_told_4 rfl (lv_at hl 2 rfl) ?_
  refine wcallt K z w hM (lk_L_told K ⟨hfr, hlo⟩) rfl hl.1 rfl (Nat.le_of_ble_eq_true rfl) dL_told_5 ⟨Nat.le_refl _, Nat.le_refl _⟩ (fun q ce H locs w h1 h2 h3 => ?_)
  refine vx_catch (name := "java/lang/IllegalArgumentException") K.1.2.2.2.1 [] ⟨0, 10, 13, 13⟩ [] tab (fun z hz => absurd hz List.not_mem_nil) rfl (by decide) (K.1.2.2.2.2 _ (List.mem_cons_of_mem _ (List.mem_of_getElem? (i := 7) rfl))) (va_Nw.use rfl (z.1.2.2.2.1 _ (by decide))) h1 h2 h3 ?_
  refine lv_astore (lv' := [(4, .ref _), (0, .ref _), (1, .int _), (2, .int _), (3, .ref _)]) hx hb dL_told_13 hl (by decide) rfl (fun ls hl => ?_)
  refine lv_iconst (v := nI 1) hx hb dL_told_15 (by decide) ?_
  exact ret w rfl (Nat.le_refl _) (Nat.le_refl _) dL_told_16
