theorem arr_of {args : Array Value} {s : State} {ty : FieldType} (h : (Cond.arrayClass ty).before args s = true) : ∃ cA : ClassId, ArrOfT s cA ty ∧ s.vm.findClass ("[" ++ ty.toString) = some cA := by
  obtain ⟨cA, kA, comp, h1, h2, h3⟩ := Cond.arrayClass_spec h
  exact ⟨cA, fun n z => ⟨fun k h => (by cases h), kA, h2, comp, h3⟩, h1⟩
def big (E : En) (a2 : Nat → Nat) (qo : Nat) (cJ : ClassId) (g : Nat → Int64) : va_W := wN E M0 0 0 ++ (vN (e2 E a2) M0 0 0 0 ++ oL qo cJ g)
theorem big1 {E : En} {a2 : Nat → Nat} {qo : Nat} {cJ : ClassId} {g : Nat → Int64} {i : Nat} (hi : i < 14) : ∃ x, (big E a2 qo cJ g)[i]? = some x ∧ x.1 = ad E i := by
  have hlen : (wN E M0 0 0).length = 14 := rfl
  obtain ⟨a, ha⟩ : ∃ a, (wN E M0 0 0)[i]? = some a := ⟨_, List.getElem?_eq_getElem (by rw [hlen]; exact hi)⟩
  exact ⟨a, by rw [big, List.getElem?_append_left (by rw [hlen]; exact hi)]; exact ha, (wN_addr ha).2⟩
theorem big2 {E : En} {a2 : Nat → Nat} {qo : Nat} {cJ : ClassId} {g : Nat → Int64} {j : Nat} (hj : j < 10) : ∃ x, (big E a2 qo cJ g)[14 + j]? = some x ∧ x.1 = a2 j := by
  have hlen : (wN E M0 0 0).length = 14 := rfl
  have hlen2 : (vN (e2 E a2) M0 0 0 0).length = 10 := rfl
  obtain ⟨a, ha⟩ : ∃ a, (vN (e2 E a2) M0 0 0 0)[j]? = some a := ⟨_, List.getElem?_eq_getElem (by rw [hlen2]; exact hj)⟩
  exact ⟨a, by rw [big, List.getElem?_append_right (by rw [hlen]; omega), hlen, Nat.add_sub_cancel_left, List.getElem?_append_left (by rw [hlen2]; exact hj)]; exact ha, (vN_addr ha).2⟩
theorem big3 {E : En} {a2 : Nat → Nat} {qo : Nat} {cJ : ClassId} {g : Nat → Int64} : (big E a2 qo cJ g)[24]? = some (qo, .inl (cJ, 1, .inr (.inl g))) := rfl
theorem big_apart {E : En} {a2 : Nat → Nat} {qo : Nat} {cJ : ClassId} {g : Nat → Int64} {A : Nat → Prop} (hD : va_D A (big E a2 qo cJ g)) : (dN E ∧ apo E qo ∧ dM (e2 E a2) ∧ (∀ i j, i < 14 → j < 10 → a2 j ≠ ad E i) ∧ ∀ j, j < 10 → a2 j ≠ qo) ∧ (∀ i, i < 14 → A (ad E i)) ∧ (∀ j, j < 10 → A (a2 j)) ∧ A qo := by
  refine ⟨⟨?_, ?_, ?_, ?_, ?_⟩, ?_, ?_, hD.2 24 _ big3⟩
  · intro i j hi hj e
    obtain ⟨x, h1, h2⟩ := big1 (E := E) (a2 := a2) (qo := qo) (cJ := cJ) (g := g) hi
    obtain ⟨y, h3, h4⟩ := big1 (E := E) (a2 := a2) (qo := qo) (cJ := cJ) (g := g) hj
    exact hD.1 i j x y h1 h3 (by rw [h2, h4]; exact e)
  · intro i hi e
    obtain ⟨x, h1, h2⟩ := big1 (E := E) (a2 := a2) (qo := qo) (cJ := cJ) (g := g) hi
    have := hD.1 24 i _ x big3 h1 (by rw [h2]; exact e)
    omega
  · intro i j hi hj e
    obtain ⟨x, h1, h2⟩ := big2 (E := E) (a2 := a2) (qo := qo) (cJ := cJ) (g := g) hi
    obtain ⟨y, h3, h4⟩ := big2 (E := E) (a2 := a2) (qo := qo) (cJ := cJ) (g := g) hj
    have := hD.1 _ _ x y h1 h3 (by rw [h2, h4]; exact e)
    omega
  · intro i j hi hj e
    obtain ⟨x, h1, h2⟩ := big1 (E := E) (a2 := a2) (qo := qo) (cJ := cJ) (g := g) hi
    obtain ⟨y, h3, h4⟩ := big2 (E := E) (a2 := a2) (qo := qo) (cJ := cJ) (g := g) hj
    have := hD.1 _ _ y x h3 h1 (by rw [h2, h4]; exact e)
    omega
  · intro j hj e
    obtain ⟨y, h3, h4⟩ := big2 (E := E) (a2 := a2) (qo := qo) (cJ := cJ) (g := g) hj
    have := hD.1 _ 24 y _ h3 big3 (by rw [h4]; exact e)
    omega
  · intro i hi
    obtain ⟨x, h1, h2⟩ := big1 (E := E) (a2 := a2) (qo := qo) (cJ := cJ) (g := g) hi
    rw [← h2]
    exact hD.2 _ x h1
  · intro j hj
    obtain ⟨y, h3, h4⟩ := big2 (E := E) (a2 := a2) (qo := qo) (cJ := cJ) (g := g) hj
    rw [← h4]
    exact hD.2 _ y h3

set_option maxHeartbeats 4000000 in
set_option maxRecDepth 100000 in
theorem whole_open {Inv : Mt → Nat → Nat → Mt → Nat → Prop} (hI0 : Inv M0 0 0 M0 0) (l : Launch) (hst : ∀ (E : En) (a2 : Nat → Nat) (qo : Nat) (cJ : ClassId), dN E → dM (e2 E a2) → apo E qo → SOK l E a2 qo cJ Inv) {p : Program} {e : Env} {s : State} {m : MethodId} {below : List Frame} {meth : Method} {c : Code} {b L : Nat} {xs : Nat → Int32} (hL : L ≤ 3072) (C0 : lw_At p s m meth c b L xs) : W p l e room_1 s m #[Value.ref b] below meth c s.heap [] 0 0 (lw_Z below #[Value.ref b] s) (entryFrame m ([Value.ref b] : List Value).toArray 7) := by
  obtain ⟨hx, hb, hr, hml, hown0, hts, hX, hbl, hlocks, hgv⟩ := C0
  have hown : s.vm.findClass RL = some m.cls := hown0
  have hs := flat_of_before _ hgv
  have i0 : ∀ w ∈ u_ws RX0 TX0 4, w ∈ lw_tbl := fun w h => wC_in w (in_X0 w h)
  have i1 : ∀ w ∈ u_ws RX1 TX1 11, w ∈ lw_tbl := fun w h => wC_in w (in_X1 w h)
  have i2 : ∀ w ∈ u_ws RX2 TY2 12, w ∈ lw_tbl := fun w h => wR_in w (in_X2 w h)
  obtain ⟨c0, s0, k0⟩ := u_known hts i0 (hts _ (List.mem_of_getElem? (i := 61) rfl))
  obtain ⟨c1, s1, k1⟩ := u_known hts i1 (hts _ (List.mem_of_getElem? (i := 53) rfl))
  obtain ⟨c2, s2, k2⟩ := u_known hts i2 (hts _ (List.mem_of_getElem? (i := 430) rfl))
  obtain ⟨cI, aI, nI'⟩ := arr_of (hts _ (List.mem_of_getElem? (i := 79) rfl))
  obtain ⟨cZ, aZ, nZ'⟩ := arr_of (hts _ (List.mem_of_getElem? (i := 80) rfl))
  obtain ⟨cJ, aJ, nJ'⟩ := arr_of (hts _ (List.mem_of_getElem? (i := 568) rfl))
  obtain ⟨D, hDe⟩ : ∃ D : va_G, D = (fun c => match c with
    | 0 => c0
    | 1 => c1
    | _ => c2, fun c => match c with
    | 0 => s0
    | 1 => s1
    | _ => s2) := ⟨_, rfl⟩
  have hK : va_K D vcl [(cI, .int), (cZ, .boolean), (cJ, .long)] s := by
    refine ⟨fun c q hq => ?_, fun k q hk => ?_⟩
    · rw [hDe]
      rcases c with _ | _ | _ | c
      · cases hq; exact k0
      · cases hq; exact k1
      · cases hq; exact k2
      · cases hq
    · rcases k with _ | _ | _ | k
      · cases hk; exact ⟨aI, nI'⟩
      · cases hk; exact ⟨aZ, nZ'⟩
      · cases hk; exact ⟨aJ, nJ'⟩
      · cases hk
  have hK2 : va_K D vcl [(cI, .int), (cZ, .boolean)] s := hK.sub [0, 1] rfl
  have hNest : va_Nw (.methodLinkNest RX1 40 yX0_init RX1) s := va_Nw.of rfl (hts _ (List.mem_of_getElem? (i := 62) rfl))
  have hA : ∀ q : Nat, s.heap.size ≤ q → aS s q := fun q h => h
  have hS : va_S (aS s) s.heap s.heap [] := va_S.rf
  have hP : va_P D vcl [] s.heap := fun k q h => by cases h
  have hD : va_D (aS s) [] := ⟨fun i j p q h => (by cases h), fun k q h => (by cases h)⟩
  have hl := lv_entry ([.ref b]) (n := 7) (Nat.le_of_ble_eq_true rfl)
  rw [lg_entry_eq]
  generalize (lg_sl ([.ref b]) ++ List.replicate (7 - (lg_sl ([.ref b])).length) Slot.unset).toArray = ls at hl ⊢
  have hl : lv_has ls 7 [(0, .ref b)] := hl
  refine va_new (ci := 1) (fs := [.int 0, .null, .null, .null, .null, .null, .null, .null, .null, .null, .null]) (C := RX1) (T := TX1) (N := 11) hx hb hts i1 tyX1 tyX1_ok hown (hts _ (List.mem_of_getElem? (i := 52) rfl)) (hts _ (List.mem_of_getElem? (i := 53) rfl)) (hts _ (List.mem_of_getElem? (i := 41) rfl)) hK hP hD hS hA rfl (fun j hj => by rcases (show j = 0 ∨ j = 1 ∨ j = 2 ∨ j = 3 ∨ j = 4 ∨ j = 5 ∨ j = 6 ∨ j = 7 ∨ j = 8 ∨ j = 9 ∨ j = 10 by omega) with rfl | rfl | rfl | rfl | rfl | rfl | rfl | rfl | rfl | rfl | rfl <;> rfl) (Nat.le_of_ble_eq_true rfl) (Nat.le_of_ble_eq_true rfl) dL_law_0 (fun h1 H hP hD hS => ?_)
  have hP : va_P D vcl [(h1, .inr (1, [.int 0, .null, .null, .null, .null, .null, .null, .null, .null, .null, .null]))] H := hP
  have hD : va_D (aS s) [(h1, .inr (1, [.int 0, .null, .null, .null, .null, .null, .null, .null, .null, .null, .null]))] := hD
  refine W.widen (k := 1) (n := 11) (Nat.le_of_ble_eq_true rfl) (Nat.le_of_ble_eq_true rfl) ?_
  refine lv_dup hx hb dL_law_3 rfl ?_
  have hFc := va_free (wc := [(h1, .inr (1, [.int 0, .null, .null, .null, .null, .null, .null, .null, .null, .null, .null]))]) hD hS hA [0] rfl
  refine va_callv (va_runI (As := []) (rest := [.ref h1]) ⟨hx, hb, hml, hown, hts⟩ (c_X1_init l D cI cZ h1 H.size) (cwI 0 hts (fun w h => (List.mem_cons.mp h).elim (fun e => by rw [e]; exact ⟨List.mem_of_getElem? (i := 56) rfl, Or.inl rfl⟩) wC_T) rfl rfl rfl (hts _ (List.mem_of_getElem? (i := 41) rfl)) (hts _ (List.mem_of_getElem? (i := 54) rfl)) (hts _ (List.mem_of_getElem? (i := 55) rfl)) rfl ⟨by decide, by decide, by decide +kernel⟩ ⟨Nat.le_of_ble_eq_true rfl, Nat.le_of_ble_eq_true rfl⟩) ⟨fun a U g mk q => by obtain ⟨q0, q1, qP, qK, qD, qN⟩ := q; exact ⟨q0, q1, qP, va_K.moved (u := U) (U := U.calling g mk a) (Vm.Alike.refl U.vm) qK, qD, va_Nw.same (u := U) (U := U.calling g mk a) rfl rfl qN⟩, fun U hU hW => ⟨rfl, by rw [hU], by rw [hU]; exact hP, va_K.moved hW.alike hK2, hD.weaken (fun _ _ _ _ => trivial), hNest.warmM hW⟩⟩ rfl rfl hl.1 rfl (lv_room (Nat.le_of_ble_eq_true rfl)) dL_law_4 ⟨Nat.le_of_ble_eq_true rfl, Nat.le_of_ble_eq_true rfl⟩) hS (fun q _ h => hFc q h) hFc (fun u1 t H1 locs ht hvm h5 hB hz1 hk1 hS => ?_)
  obtain ⟨hP1, hD1⟩ := hB
  rw [ht] at hP1
  obtain ⟨hP, hD⟩ := va_join (wr := []) (w1 := wN (D, cI, cZ, adC h1 u1) M0 0 0) hP hD [0] [] rfl rfl (by decide) (by decide) hk1 hFc hP1 hD1
  generalize H1 = H at hP hS ⊢
  obtain ⟨E, hE⟩ : ∃ E : En, E = (D, cI, cZ, adC h1 u1) := ⟨_, rfl⟩
  have e0 : ad E 0 = h1 := by rw [hE]; rfl
  have hP : va_P D vcl (wN E M0 0 0) H := by rw [hE]; exact hP
  have hD : va_D (aS s) (wN E M0 0 0) := by rw [hE]; exact hD
  rw [← e0]
  refine W.widen (k := 14) (n := 30015) (Nat.le_of_ble_eq_true rfl) (Nat.le_of_ble_eq_true rfl) ?_
  refine lv_astore_n (lv' := [(1, .ref _), (0, .ref _)]) hx hb dL_law_7 rfl hl (by decide) rfl (fun ls hl => ?_)
  refine va_new (ci := 2) (fs := [.null, .null, .null, .null, .null, .null, .null, .null, .null, .int 0, .int 0, .int 0]) (C := RX2) (T := TY2) (N := 12) hx hb hts i2 tyY2 tyY2_ok hown (hts _ (List.mem_of_getElem? (i := 429) rfl)) (hts _ (List.mem_of_getElem? (i := 430) rfl)) (hts _ (List.mem_of_getElem? (i := 43) rfl)) hK hP hD hS hA rfl (fun j hj => by rcases (show j = 0 ∨ j = 1 ∨ j = 2 ∨ j = 3 ∨ j = 4 ∨ j = 5 ∨ j = 6 ∨ j = 7 ∨ j = 8 ∨ j = 9 ∨ j = 10 ∨ j = 11 by omega) with rfl | rfl | rfl | rfl | rfl | rfl | rfl | rfl | rfl | rfl | rfl | rfl <;> rfl) (Nat.le_of_ble_eq_true rfl) (Nat.le_of_ble_eq_true rfl) dL_law_8 (fun h2 H hP hD hS => ?_)
  refine W.widen (k := 15) (n := 30027) (Nat.le_of_ble_eq_true rfl) (Nat.le_of_ble_eq_true rfl) ?_
  refine lv_dup hx hb dL_law_11 rfl ?_
  have hPc := hP.sub (ws' := [(h2, .inr (2, [.null, .null, .null, .null, .null, .null, .null, .null, .null, .int 0, .int 0, .int 0]))]) [14] rfl
  have hDc := hD.sub (ws' := [(h2, .inr (2, [.null, .null, .null, .null, .null, .null, .null, .null, .null, .int 0, .int 0, .int 0]))]) [14] (by decide) rfl
  have hFc := va_free (wc := [(h2, .inr (2, [.null, .null, .null, .null, .null, .null, .null, .null, .null, .int 0, .int 0, .int 0]))]) hD hS hA [14] rfl
  refine va_callv (va_runI (As := []) (rest := [.ref h2]) ⟨hx, hb, hml, hown, hts⟩ (c_X2_init l D cI cZ h2 H.size) (cwI 0 hts (fun w h => (List.mem_cons.mp h).elim (fun e => by rw [e]; exact ⟨List.mem_of_getElem? (i := 433) rfl, Or.inl rfl⟩) wR_T) rfl rfl rfl (hts _ (List.mem_of_getElem? (i := 43) rfl)) (hts _ (List.mem_of_getElem? (i := 431) rfl)) (hts _ (List.mem_of_getElem? (i := 432) rfl)) rfl ⟨by decide, by decide, by decide +kernel⟩ ⟨Nat.le_of_ble_eq_true rfl, Nat.le_of_ble_eq_true rfl⟩) ⟨fun a U g mk q => by obtain ⟨q0, q1, qP, qK, qD⟩ := q; exact ⟨q0, q1, qP, va_K.moved (u := U) (U := U.calling g mk a) (Vm.Alike.refl U.vm) qK, qD⟩, fun U hU hW => ⟨rfl, by rw [hU], by rw [hU]; exact hPc, va_K.moved hW.alike hK2, hDc.weaken (fun _ _ _ _ => trivial)⟩⟩ rfl rfl hl.1 rfl (lv_room (Nat.le_of_ble_eq_true rfl)) dL_law_12 ⟨Nat.le_of_ble_eq_true rfl, Nat.le_of_ble_eq_true rfl⟩) hS (fun q _ h => hFc q h) hFc (fun u2 t H1 locs ht hvm h5 hB hz1 hk1 hS => ?_)
  obtain ⟨hP1, hD1⟩ := hB
  rw [ht] at hP1
  obtain ⟨hP, hD⟩ := va_join (wr := wN E M0 0 0) (w1 := vN (D, cI, cZ, adC h2 u2) M0 0 0 0) hP hD [14] [0, 1, 2, 3, 4, 5, 6, 7, 8, 9, 10, 11, 12, 13] rfl rfl (by decide) (by decide) hk1 hFc hP1 hD1
  generalize H1 = H at hP hS ⊢
  obtain ⟨a2, ha2⟩ : ∃ a2 : Nat → Nat, a2 = adC h2 u2 := ⟨_, rfl⟩
  have e20 : a2 0 = h2 := by rw [ha2]; rfl
  have eE : (D, cI, cZ, adC h2 u2) = e2 E a2 := by rw [hE, ha2]
  rw [eE] at hP hD
  rw [← e20]
  refine W.widen (k := 24) (n := 56027) (Nat.le_of_ble_eq_true rfl) (Nat.le_of_ble_eq_true rfl) ?_
  refine lv_astore_n (lv' := [(2, .ref _), (1, .ref _), (0, .ref _)]) hx hb dL_law_15 rfl hl (by decide) rfl (fun ls hl => ?_)
  refine lv_iconst (v := nI 1) hx hb dL_law_16 (by decide) ?_
  refine newA (a0 := (1, .inr (.inl (fun _ => lN 0)))) hx hb (hts _ (List.mem_of_getElem? (i := 568) rfl)) rfl hK 2 rfl (fun _ => rfl) hP hD hS hA (fun _ => rfl) (nI_pos (by decide)) (nI_clamp (by decide)) (by decide) (Nat.le_of_ble_eq_true rfl) (Nat.le_of_ble_eq_true rfl) dL_law_17 (fun qo H hP hD hS => ?_)
  have hP : va_P D vcl (big E a2 qo cJ (fun _ => lN 0)) H := by rw [big, ← List.append_assoc]; exact hP
  have hD : va_D (aS s) (big E a2 qo cJ (fun _ => lN 0)) := by rw [big, ← List.append_assoc]; exact hD
  refine lv_astore_n (lv' := [(3, .ref _), (2, .ref _), (1, .ref _), (0, .ref _)]) hx hb dL_law_19 rfl hl (by decide) rfl (fun ls hl => ?_)
  refine lv_iconst (v := nI 0) hx hb dL_law_20 (by decide) ?_
  refine lv_istore (lv' := [(4, .int (nI (6 * 0))), (3, .ref _), (2, .ref _), (1, .ref _), (0, .ref _)]) hx hb dL_law_21 hl (by decide) rfl (fun ls hl => ?_)
  have hap := big_apart hD
  have eD : E.1 = D := by rw [hE]
  have eK : [(cI, FieldType.int), (cZ, FieldType.boolean), (cJ, FieldType.long)] = tyL E cJ := by rw [hE]
  have st1 : ∀ {k : Nat}, (Cond.exactly (.string "AncestryNet" k) "java/lang/String").before #[Value.ref b] s = true → ∃ a : Nat, (Term.string "AncestryNet" k).eval #[Value.ref b] s none [] s = some (.ref a) := by
    intro k h
    obtain ⟨a, c, cA, kA, q1, -⟩ := Cond.exactly_spec (args := #[Value.ref b]) (first := s) (o := none) (s := s) (idx := []) h
    exact ⟨a, q1⟩
  have K : cM E a2 qo cJ p l m c s b := by
    refine ⟨⟨hx, hb, hml, hown, hts⟩, by rw [eD, ← eK]; exact hK, hap.1, hap.2, fun A hA0 => ?_, ⟨?_, ?_, ?_⟩, va_Nc.of (args := #[Value.ref b]) (hs _ (by decide +kernel)), va_Nc.of (args := #[Value.ref b]) (hs _ (by decide +kernel))⟩
    · have hno : ∀ a : Nat, a < s.heap.size → ¬ A a := fun a h1 h2 => Nat.lt_irrefl _ (Nat.lt_of_lt_of_le h1 (hA0 a h2))
      exact ⟨vx_Zqof (args := #[Value.ref b]) (hts _ (List.mem_of_getElem? (i := 209) rfl)) (hts _ (List.mem_of_getElem? (i := 44) rfl)) (hs _ (by decide +kernel)) hno, vx_Zqof (args := #[Value.ref b]) (hts _ (List.mem_of_getElem? (i := 211) rfl)) (hts _ (List.mem_of_getElem? (i := 44) rfl)) (hs _ (by decide +kernel)) hno⟩
    · intro x hx
      simp only [strL, List.mem_cons, List.not_mem_nil, or_false] at hx
      rcases hx with rfl | rfl | rfl | rfl | rfl | rfl | rfl | rfl | rfl
      · exact (fun h => by obtain ⟨a, h⟩ := h; exact ⟨a, vk_R.of (A := #[Value.ref b]) (hts _ (List.mem_of_getElem? (i := 259) rfl)) h⟩) (st1 (k := 55) (hs _ (by decide +kernel)))
      · exact (fun h => by obtain ⟨a, h⟩ := h; exact ⟨a, vk_R.of (A := #[Value.ref b]) (hts _ (List.mem_of_getElem? (i := 281) rfl)) h⟩) (st1 (k := 69) (hs _ (by decide +kernel)))
      · exact (fun h => by obtain ⟨a, h⟩ := h; exact ⟨a, vk_R.of (A := #[Value.ref b]) (hts _ (List.mem_of_getElem? (i := 282) rfl)) h⟩) (st1 (k := 72) (hs _ (by decide +kernel)))
      · exact (fun h => by obtain ⟨a, h⟩ := h; exact ⟨a, vk_R.of (A := #[Value.ref b]) (hts _ (List.mem_of_getElem? (i := 406) rfl)) h⟩) (st1 (k := 113) (hs _ (by decide +kernel)))
      · exact (fun h => by obtain ⟨a, h⟩ := h; exact ⟨a, vk_R.of (A := #[Value.ref b]) (hts _ (List.mem_of_getElem? (i := 407) rfl)) h⟩) (st1 (k := 117) (hs _ (by decide +kernel)))
      · exact (fun h => by obtain ⟨a, h⟩ := h; exact ⟨a, vk_R.of (A := #[Value.ref b]) (hts _ (List.mem_of_getElem? (i := 428) rfl)) h⟩) (st1 (k := 135) (hs _ (by decide +kernel)))
      · exact (fun h => by obtain ⟨a, h⟩ := h; exact ⟨a, vk_R.of (A := #[Value.ref b]) (hts _ (List.mem_of_getElem? (i := 223) rfl)) h⟩) (st1 (k := 152) (hs _ (by decide +kernel)))
      · exact (fun h => by obtain ⟨a, h⟩ := h; exact ⟨a, vk_R.of (A := #[Value.ref b]) (hts _ (List.mem_of_getElem? (i := 293) rfl)) h⟩) (st1 (k := 154) (hs _ (by decide +kernel)))
      · exact (fun h => by obtain ⟨a, h⟩ := h; exact ⟨a, vk_R.of (A := #[Value.ref b]) (hts _ (List.mem_of_getElem? (i := 361) rfl)) h⟩) (st1 (k := 156) (hs _ (by decide +kernel)))
    · intro X hX
      simp only [xL, List.mem_cons, List.not_mem_nil, or_false] at hX
      rcases hX with rfl | rfl | rfl
      · exact va_Nw.of rfl (hts _ (List.mem_of_getElem? (i := 184) rfl))
      · exact va_Nw.of rfl (hts _ (List.mem_of_getElem? (i := 252) rfl))
      · exact va_Nw.of rfl (hts _ (List.mem_of_getElem? (i := 354) rfl))
    · intro x hX
      simp only [dL, List.mem_cons, List.not_mem_nil, or_false] at hX
      rcases hX with rfl | rfl | rfl
      · exact va_Nw.of rfl (hts _ (List.mem_of_getElem? (i := 186) rfl))
      · exact va_Nw.of rfl (hts _ (List.mem_of_getElem? (i := 188) rfl))
      · exact va_Nw.of rfl (hts _ (List.mem_of_getElem? (i := 190) rfl))
  have w : lS E a2 qo cJ s M0 0 0 (fun _ => lN 0) M0 0 0 0 H locs := by
    rw [← eD] at hP
    exact ⟨hP.sub (ws' := wN E M0 0 0) [0, 1, 2, 3, 4, 5, 6, 7, 8, 9, 10, 11, 12, 13] rfl, hP.sub (ws' := vN (e2 E a2) M0 0 0 0) [14, 15, 16, 17, 18, 19, 20, 21, 22, 23] rfl, hP.sub (ws' := oL qo cJ (fun _ => lN 0)) [24] rfl, hS⟩
  refine W.widen (k := 25 + 0) (n := 56028 + 6 * 0) (Nat.le_of_ble_eq_true rfl) (Nat.le_of_ble_eq_true rfl) ?_
  exact law_loop K hr hlocks hX hbl hL (hst E a2 qo cJ hap.1.1 hap.1.2.2.1 hap.1.2.1) 513 0 M0 0 0 _ M0 0 0 _ _ _ (by omega) (by omega) (Nat.le_refl _) hI0 w hl
