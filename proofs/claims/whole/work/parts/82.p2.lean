theorem giF_ok {x n : Nat} {G : Nat → Nat} : ∀ {d k v : Nat} {N : Mt}, okN N n → x < n → k + d = pcn N x → N 3 x = nI v → v ≤ 3000 → (∀ s, s < pcn N x → N 3 (par N x s) = nI (G (par N x s)) ∧ G (par N x s) ≤ 2000) →
    (∀ c, c ≠ x → giF x d k N 3 c = N 3 c) ∧ ∃ v', v' ≤ 3000 ∧ giF x d k N 3 x = nI v' ∧ v ≤ v' ∧ (∀ s, k ≤ s → s < k + d → G (par N x s) + 1 ≤ v') ∧ (v' = v ∨ ∃ s, k ≤ s ∧ s < k + d ∧ v' = G (par N x s) + 1) := by
  intro d
  induction d with
  | zero =>
    intro k v N ok hx hk hv hv3 hs
    exact ⟨fun c _ => rfl, v, hv3, hv, Nat.le_refl _, fun s h1 h2 => by omega, Or.inl rfl⟩
  | succ d ih =>
    intro k v N ok hx hk hv hv3 hs
    rw [giF]
    obtain ⟨hp, hg⟩ := hs k (by omega)
    have hpx := ok.lt hx (t := k) (by omega)
    by_cases hlt : N 3 (par N x k) < N 3 x
    · rw [if_pos hlt]
      rw [hp, hv] at hlt
      have hlt2 : G (par N x k) < v := (nI_ltI (by omega) (by omega)).mp hlt
      obtain ⟨a, v', b0, b, c, d', e⟩ := ih (k := k + 1) ok hx (by omega) hv hv3 hs
      refine ⟨a, v', b0, b, c, fun s h1 h2 => ?_, ?_⟩
      · by_cases hsk : s = k
        · subst hsk; omega
        · exact d' s (by omega) (by omega)
      · rcases e with e | ⟨s, h1, h2, h3⟩
        · exact Or.inl e
        · exact Or.inr ⟨s, by omega, by omega, h3⟩
    · rw [if_neg hlt]
      rw [hp, hv] at hlt
      have hge : v ≤ G (par N x k) := Nat.le_of_not_lt (fun h => hlt (nI_lt h (by omega)))
      have e1 : va_up N 3 (upd (N 3) x (N 3 (par N x k) + nI 1)) 3 x = nI (G (par N x k) + 1) := by
        rw [va_up_self, pk_us, hp, nI_add]
      obtain ⟨a, v', b0, b, c, d', e⟩ := ih (k := k + 1) (N := va_up N 3 (upd (N 3) x (N 3 (par N x k) + nI 1))) ok hx (by show k + 1 + d = pcn N x; omega) e1 (by omega) (fun s hs1 => by
        show va_up N 3 _ 3 (par N x s) = _ ∧ _
        have := ok.lt hx (t := s) hs1
        rw [va_up_self, pk_un (by omega)]
        exact hs s hs1)
      refine ⟨fun c hc => ?_, v', b0, b, by omega, fun s h1 h2 => ?_, ?_⟩
      · rw [a c hc, va_up_self, pk_un hc]
      · by_cases hsk : s = k
        · subst hsk; exact c
        · exact d' s (by omega) (by omega)
      · rcases e with e | ⟨s, h1, h2, h3⟩
        · exact Or.inr ⟨k, Nat.le_refl _, by omega, e⟩
        · exact Or.inr ⟨s, by omega, by omega, h3⟩
theorem gnF_ok {M : Mt} {n : Nat} {G : Nat → Nat} (hG : genN M n G) (hn : n ≤ 2000) : ∀ {d i : Nat} {N : Mt}, okN N n → (∀ c, c < n → pcn N c = pcn M c ∧ ∀ s, s < pcn M c → par N c s = par M c s) → i + d ≤ n → (∀ c, c < i → N 3 c = nI (G c)) → ∀ c, c < i + d → gnF d i N 3 c = nI (G c) := by
  intro d
  induction d with
  | zero => intro i N ok hN hi h c hc; exact h c (by omega)
  | succ d ih =>
    intro i N ok hN hi h c hc
    rw [gnF]
    have hin : i < n := by omega
    obtain ⟨hp, hpa⟩ := hN i hin
    have e1 : va_up N 3 (upd (N 3) i (nI 1)) 3 i = nI 1 := by rw [va_up_self, pk_us]
    obtain ⟨a, v', b0, b, c1, d', e⟩ := giF_ok (G := G) (d := pcn N i) (k := 0) (N := va_up N 3 (upd (N 3) i (nI 1))) (n := n) ok hin (by show 0 + pcn N i = pcn N i; omega) e1 (by omega) (fun s hs => by
      have hs2 : s < pcn N i := hs
      show va_up N 3 _ 3 (par N i s) = nI (G (par N i s)) ∧ G (par N i s) ≤ 2000
      have := ok.lt hin hs2
      rw [va_up_self, pk_un (by omega)]
      exact ⟨h _ this, by have := (hG (par N i s) (by omega)).2.2.1; omega⟩)
    have hv : v' = G i := by
      obtain ⟨g1, g2, g3, g4, g5⟩ := hG i hin
      have up : v' ≤ G i := by
        rcases e with e | ⟨s, h1, h2, h3⟩
        · omega
        · have h2' : s < pcn N i := by simpa using h2
          have h3' : v' = G (par N i s) + 1 := h3
          rw [hpa s (by omega)] at h3'
          have := g4 s (by omega)
          omega
      have lo : G i ≤ v' := by
        rcases g5 with g5 | ⟨s, h1, h2⟩
        · omega
        · have h4 : G (par N i s) + 1 ≤ v' := d' s (Nat.zero_le _) (by show s < 0 + pcn N i; omega)
          rw [hpa s h1] at h4
          omega
      omega
    refine ih (i := i + 1) (N := giF i (pcn N i) 0 (va_up N 3 (upd (N 3) i (nI 1)))) (okN.rows (M := N) ok (giF_row (by decide)) (giF_row (by decide))) (fun c hc => ?_) (by omega) (fun c hc => ?_) c (by omega)
    · have h4 : pcn (giF i (pcn N i) 0 (va_up N 3 (upd (N 3) i (nI 1)))) c = pcn N c := by show ix _ = ix _; rw [giF_row (by decide)]; rfl
      have h5 : ∀ s, par (giF i (pcn N i) 0 (va_up N 3 (upd (N 3) i (nI 1)))) c s = par N c s := fun s => by show ix _ = ix _; rw [giF_row (by decide)]; rfl
      rw [h4]
      exact ⟨(hN c hc).1, fun s hs => by rw [h5]; exact (hN c hc).2 s hs⟩
    · by_cases hci : c = i
      · subst hci
        rw [b, hv]
      · rw [a c hci, va_up_self, pk_un hci]
        exact h c (by omega)
theorem Inv.gn {M N : Mt} {n k f q : Nat} (hI : Inv M n k N f) (hq : q < n) : gnF (q + 1) 0 N 3 q = M 3 q := by
  obtain ⟨G, hG⟩ := hI.2.2.2.2.1
  rw [(hG q hq).1]
  exact gnF_ok hG hI.1.1 hI.ok2 (fun c hc => ⟨hI.pc hc, fun s hs => hI.pa hc hs⟩) (by omega) (fun c hc => absurd hc (Nat.not_lt_zero c)) q (by omega)

set_option maxHeartbeats 4000000 in
set_option maxRecDepth 100000 in
theorem st_told {l : Launch} (hs0 : l.stackTraces = false) {E : En} {a2 : Nat → Nat} {qo : Nat} {cJ : ClassId} (dn : dN E) (dm : dM (e2 E a2)) (ap : apo E qo) {M : Mt} {n k : Nat} {g : Nat → Int64} {N : Mt} {t f : Nat} (hI : Inv M n k N f) (hn : n ≤ 600) (p1 p2 : Int32) : AgI l E a2 qo cJ Inv yL_told (.codeWith yL_told cL_told 5 (some .int) [(0, 10, 13, 13)]) [.ref (ad E 0), .int p1, .int p2, .ref qo] yX2_told (.code yX2_told cX2_told 3 (some .int)) [.int p1, .int p2] PI M n k g N t f := by
  have hn2 : n ≤ 2000 := by omega
  rcases argC p1 hn2 with ⟨q, hq, rfl⟩ | h1
  · rcases pk_ix p2 (n := 5) (by decide) with h2 | h2 | ⟨j, hj, rfl⟩
    · exact ⟨1, nI 0, _, _, _, _, _, _, _, _, by decide, w_L_told_IAE dn ap (by decide) (by decide) (t_X1_told_b hs0 dn hq hn2 (Or.inl (Int32.lt_iff_toInt_lt.mp h2))), r_X2_told_b dm hq hn2 (Or.inl h2), fun h => absurd h (by decide), hI, Nat.le_succ _, by decide, by decide⟩
    · exact ⟨1, nI 0, _, _, _, _, _, _, _, _, by decide, w_L_told_IAE dn ap (by decide) (by decide) (t_X1_told_b hs0 dn hq hn2 (Or.inr (by have h3 := Int32.le_iff_toInt_le.mp h2; rw [nI_toInt (by decide)] at h3; omega))), r_X2_told_b dm hq hn2 (Or.inr (fun h => nlt_le h (i32_lt_of (by decide) h2))), fun h => absurd h (by decide), hI, Nat.le_succ _, by decide, by decide⟩
    · obtain ⟨b1, b2, b4, b5⟩ := hI.2.1 q hq
      rcases (show j = 0 ∨ j = 1 ∨ j = 2 ∨ j = 3 ∨ j = 4 by omega) with rfl | rfl | rfl | rfl | rfl
      · exact ⟨0, _, _, _, _, _, _, _, _, _, by decide, w_L_told_good dn ap (by decide) (by decide) (c_X1_told_0 dn hq hn2), c_X2_told_0 dm hq hn2, fun _ => by rw [pk_uLs, b1], hI, Nat.le_succ _, by decide, by decide⟩
      · exact ⟨0, _, _, _, _, _, _, _, _, _, by decide, w_L_told_good dn ap (by decide) (by decide) (c_X1_told_1 dn hq hn2), c_X2_told_1 dm hq hn2, fun _ => by rw [pk_uLs, b2], hI, Nat.le_succ _, by decide, by decide⟩
      · exact ⟨0, _, _, _, _, _, _, _, _, _, by decide, w_L_told_good dn ap (by decide) (by decide) (c_X1_told_2 dn hq hn2), c_X2_told_2 dm hq hn2, fun _ => by rw [pk_uLs, b4], hI, Nat.le_succ _, by decide, by decide⟩
      · exact ⟨0, _, _, _, _, _, _, _, _, _, by decide, w_L_told_good dn ap (by decide) (by decide) (c_X1_told_3 dn hq hn2), c_X2_told_3 dm hq hI.ok2, fun _ => by rw [pk_uLs, hI.gn hq], (hI.same rfl rfl rfl rfl rfl rfl rfl (gnF_row (by decide)) (gnF_row (by decide)) (gnF_row (by decide)) (gnF_row (by decide)) (gnF_row (by decide))), Nat.le_succ _, by decide, by decide⟩
      · have h7 := hI.2.2.2.2.2.1 q (by omega)
        by_cases ha : N 6 q = 0
        · by_cases hb : N 6 (2000 + q) = 0
          · rw [tipV, if_pos ha, if_pos hb] at h7
            exact ⟨0, _, _, _, _, _, _, _, _, _, by decide, w_L_told_good dn ap (by decide) (by decide) (c_X1_told_4_0 dn hq hn2 h7), c_X2_told_4 dm hq hn2, fun _ => by rw [pk_uLs, if_pos ha, if_pos hb]; rfl, hI, Nat.le_succ _, by decide, by decide⟩
          · rw [tipV, if_pos ha, if_neg hb] at h7
            exact ⟨0, _, _, _, _, _, _, _, _, _, by decide, w_L_told_good dn ap (by decide) (by decide) (c_X1_told_4_2 dn hq hn2 h7), c_X2_told_4 dm hq hn2, fun _ => by rw [pk_uLs, if_pos ha, if_neg hb]; rfl, hI, Nat.le_succ _, by decide, by decide⟩
        · by_cases hb : N 6 (2000 + q) = 0
          · rw [tipV, if_neg ha, if_pos hb] at h7
            exact ⟨0, _, _, _, _, _, _, _, _, _, by decide, w_L_told_good dn ap (by decide) (by decide) (c_X1_told_4_1 dn hq hn2 h7), c_X2_told_4 dm hq hn2, fun _ => by rw [pk_uLs, if_neg ha, if_pos hb]; rfl, hI, Nat.le_succ _, by decide, by decide⟩
          · rw [tipV, if_neg ha, if_neg hb] at h7
            exact ⟨0, _, _, _, _, _, _, _, _, _, by decide, w_L_told_good dn ap (by decide) (by decide) (c_X1_told_4_3 dn hq hn2 h7), c_X2_told_4 dm hq hn2, fun _ => by rw [pk_uLs, if_neg ha, if_neg hb]; rfl, hI, Nat.le_succ _, by decide, by decide⟩
  · exact ⟨1, nI 0, _, _, _, _, _, _, _, _, by decide, w_L_told_IAE dn ap (by decide) (by decide) (t_X1_told_a hs0 dn h1), r_X2_told_a dm h1, fun h => absurd h (by decide), hI, Nat.le_succ _, by decide, by decide⟩
