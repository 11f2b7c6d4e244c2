set_option maxHeartbeats 4000000 in
set_option maxRecDepth 100000 in
theorem st_add {l : Launch} (hs0 : l.stackTraces = false) {E : En} {a2 : Nat → Nat} {qo : Nat} {cJ : ClassId} (dn : dN E) (dm : dM (e2 E a2)) (ap : apo E qo) {M : Mt} {n k : Nat} {g : Nat → Int64} {N : Mt} {t f : Nat} (hI : Inv M n k N f) (hn : n ≤ 600) (p1 p2 p3 p4 p5 : Int32) : AgI l E a2 qo cJ Inv yL_add (.codeWith yL_add cL_add 8 (some .int) [(0, 16, 19, 13), (0, 16, 23, 15)]) [.ref (ad E 0), .int p1, .int p2, .int p3, .int p4, .int p5, .ref qo] yX2_add (.code yX2_add cX2_add 6 (some .int)) [.int p1, .int p2, .int p3, .int p4, .int p5] PI M n k g N t f := by
  have hn2 : n ≤ 2000 := by omega
  rcases argO p3 hn2 with ⟨a, ha, rfl⟩ | ⟨x1, x2⟩
  · rcases argO p4 hn2 with ⟨b, hb, rfl⟩ | ⟨x1, x2⟩
    · rcases argO p5 hn2 with ⟨d, hd, rfl⟩ | ⟨x1, x2⟩
      · exact ⟨0, _, _, _, _, _, _, _, _, _, by decide, w_L_add_good dn ap (by decide) (by decide) (c_X1_add dn ha hb hd (by omega) (hI.2.2.1 n (Nat.le_refl _) (by omega)).1), c_X2_add dm ha hb hd (by omega), fun _ => by rw [pk_uLs], hI.ad (by omega) ha hb hd, Nat.le_refl _, by decide, by decide⟩
      · exact ⟨1, nI 0, _, _, _, _, _, _, _, _, by decide, w_L_add_IAE dn ap (by decide) (by decide) (t_X1_add_c hs0 dn ha hb hn2 x1 x2), r_X2_add_c dm ha hb hn2 x1 x2, fun h => absurd h (by decide), hI, Nat.le_succ _, by decide, by decide⟩
    · exact ⟨1, nI 0, _, _, _, _, _, _, _, _, by decide, w_L_add_IAE dn ap (by decide) (by decide) (t_X1_add_b hs0 dn ha hn2 x1 x2), r_X2_add_b dm ha hn2 x1 x2, fun h => absurd h (by decide), hI, Nat.le_succ _, by decide, by decide⟩
  · exact ⟨1, nI 0, _, _, _, _, _, _, _, _, by decide, w_L_add_IAE dn ap (by decide) (by decide) (t_X1_add_a hs0 dn x1 x2), r_X2_add_a dm x1 x2, fun h => absurd h (by decide), hI, Nat.le_succ _, by decide, by decide⟩

set_option maxHeartbeats 4000000 in
set_option maxRecDepth 100000 in
theorem st_under {l : Launch} (hs0 : l.stackTraces = false) {E : En} {a2 : Nat → Nat} {qo : Nat} {cJ : ClassId} (dn : dN E) (dm : dM (e2 E a2)) (ap : apo E qo) {M : Mt} {n k : Nat} {g : Nat → Int64} {N : Mt} {t f : Nat} (hI : Inv M n k N f) (hn : n ≤ 600) (p1 p2 : Int32) : AgI l E a2 qo cJ Inv yL_under (.codeWith yL_under cL_under 5 (some .int) [(0, 10, 13, 13), (0, 10, 17, 15)]) [.ref (ad E 0), .int p1, .int p2, .ref qo] yX2_under (.code yX2_under cX2_under 3 (some .int)) [.int p1, .int p2] PI M n k g N t f := by
  have hn2 : n ≤ 2000 := by omega
  rcases argC p1 hn2 with ⟨q, hq, rfl⟩ | h1
  · rcases argC p2 (n := q) (by omega) with ⟨u, hu, rfl⟩ | h2
    · have hl4 := hI.ok.le hq
      by_cases h6 : M 6 q = 0
      · have hia : iaF N q n 0 = false := by
          rcases hh : iaF N q n 0 with _ | _
          · rfl
          · exact absurd h6 ((hI.ia hq rfl rfl).mp hh)
        by_cases h4 : pcn M q < 4
        · exact ⟨0, _, _, _, _, _, _, _, _, _, by decide, w_L_under_good dn ap (by decide) (by decide) (c_X1_under dn hq hu hn2 h6 (hI.ok.pc hq) h4), c_X2_under dm hq hu hI.ok2 hia (by rw [hI.pc hq]; exact h4), fun _ => by rw [pk_uLs]; exact congrArg Int32.toInt64 ((jn4s (p := u)).trans (congrArg (· + nI 1) (hI.2.1 q hq).2.2.1.symm) |>.trans jn4s.symm), hI.lk hq hu h4 h6, Nat.le_succ _, by decide, by decide⟩
        · exact ⟨2, nI 0, _, _, _, _, _, _, _, _, by decide, w_L_under_ISE dn ap (by decide) (by decide) (t_X1_under_c hs0 dn hq hn2 hu (Or.inr (by rw [hI.ok.pc hq]; exact nI_le (by omega) (by omega)))), r_X2_under_c dm hq hu hI.ok2 (Or.inr (by rw [hI.pc hq]; omega)), fun h => absurd h (by decide), hI, Nat.le_succ _, by decide, by decide⟩
      · exact ⟨2, nI 0, _, _, _, _, _, _, _, _, by decide, w_L_under_ISE dn ap (by decide) (by decide) (t_X1_under_c hs0 dn hq hn2 hu (Or.inl h6)), r_X2_under_c dm hq hu hI.ok2 (Or.inl ((hI.ia hq rfl rfl).mpr h6)), fun h => absurd h (by decide), hI, Nat.le_succ _, by decide, by decide⟩
    · exact ⟨1, nI 0, _, _, _, _, _, _, _, _, by decide, w_L_under_IAE dn ap (by decide) (by decide) (t_X1_under_b hs0 dn hq hn2 h2), r_X2_under_b dm hq hn2 h2, fun h => absurd h (by decide), hI, Nat.le_succ _, by decide, by decide⟩
  · exact ⟨1, nI 0, _, _, _, _, _, _, _, _, by decide, w_L_under_IAE dn ap (by decide) (by decide) (t_X1_under_a hs0 dn h1), r_X2_under_a dm h1, fun h => absurd h (by decide), hI, Nat.le_succ _, by decide, by decide⟩

theorem tip1_0 {x y : Bool} : (nI ((if x then 0 else 1) + (if y then 0 else 2)) ||| nI 1) = nI (1 + (if y then 0 else 2)) := by cases x <;> cases y <;> decide
theorem tip1_1 {x y : Bool} : (nI ((if x then 0 else 1) + (if y then 0 else 2)) ||| nI 2) = nI ((if x then 0 else 1) + 2) := by cases x <;> cases y <;> decide
theorem tip0_0 {x y : Bool} : (nI ((if x then 0 else 1) + (if y then 0 else 2)) &&& (nI 1 ^^^ (-1))) = nI (0 + (if y then 0 else 2)) := by cases x <;> cases y <;> decide
theorem tip0_1 {x y : Bool} : (nI ((if x then 0 else 1) + (if y then 0 else 2)) &&& (nI 2 ^^^ (-1))) = nI ((if x then 0 else 1) + 0) := by cases x <;> cases y <;> decide
theorem tipV_b {N : Mt} {c : Nat} : tipV N c = (if decide (N 6 c = 0) = true then 0 else 1) + (if decide (N 6 (2000 + c) = 0) = true then 0 else 2) := by
  rw [tipV]
  by_cases a : N 6 c = 0 <;> by_cases b : N 6 (2000 + c) = 0 <;> simp [a, b]
theorem Inv.tip {M N : Mt} {n k f h q : Nat} {v : Int32} {g : Int32} (hI : Inv M n k N f) (hh : h < 2) (hq : q < n) (hv : v = nI 0 ∨ v = nI 1) (hg : g = nI (tipV (va_up N 6 (upd (N 6) (h * 2000 + q) v)) q)) : Inv (va_up M 7 (upd (M 7) q g)) n k (va_up N 6 (upd (N 6) (h * 2000 + q) v)) f := by
  obtain ⟨ok, hb, hz, h6a, hG, h7, hb6, hz6⟩ := hI
  have hn := ok.1
  refine ⟨ok, hb, hz, h6a, hG, fun c hc => ?_, fun j => ?_, fun c h1 h2 => ?_⟩
  · rw [va_up_self]
    by_cases e : c = q
    · subst e; rw [pk_us, hg]
    · rw [pk_un e, h7 c hc, tipV, tipV, va_up_self, pk_un (by omega), pk_un (by omega)]
  · rw [va_up_self]
    by_cases e : j = h * 2000 + q
    · subst e; rw [pk_us]; exact hv
    · rw [pk_un e]; exact hb6 j
  · rw [va_up_self, pk_un (by omega), pk_un (by omega)]
    exact hz6 c h1 h2

set_option maxHeartbeats 4000000 in
set_option maxRecDepth 100000 in
theorem st_tip1 {l : Launch} (hs0 : l.stackTraces = false) {E : En} {a2 : Nat → Nat} {qo : Nat} {cJ : ClassId} (dn : dN E) (dm : dM (e2 E a2)) (ap : apo E qo) {M : Mt} {n k : Nat} {g : Nat → Int64} {N : Mt} {t f : Nat} (hI : Inv M n k N f) (hn : n ≤ 600) (p1 p2 : Int32) : AgV l E a2 qo cJ Inv yL_tip (.codeWith yL_tip cL_tip 5 (some .int) [(0, 7, 10, 13)]) [.ref (ad E 0), .int p1, .int p2, .int (nI 1)] yX2_tip (.code yX2_tip cX2_tip 4 none) [.int p1, .int p2, .int (nI 1)] M n k g N t f := by
  have hn2 : n ≤ 2000 := by omega
  rcases argC p1 (n := 2) (by omega) with ⟨h, hh, rfl⟩ | h1
  · rcases argC p2 hn2 with ⟨q, hq, rfl⟩ | h2
    · rcases (show h = 0 ∨ h = 1 by omega) with rfl | rfl
      · exact ⟨0, _, _, _, _, _, _, _, _, by decide, w_L_tip_good dn ap (by decide) (by decide) (c_X1_tip_1 dn (h := 0) (by decide) hq hn2), c_X2_tip_1 dm (h := 0) (by decide) hq hn2, hI.tip (by decide) hq (Or.inr rfl) (by rw [hI.2.2.2.2.2.1 q (by omega), tipV_b, tipV_b]; exact tip1_0.trans (by rw [va_up_self]; first | (rw [show (0 * 2000 + q : Nat) = q by omega, pk_us, pk_un (by omega)]; rfl) | (rw [show (0 * 2000 + q : Nat) = q by omega, pk_un (by omega), pk_us]; rfl))), Nat.le_succ _, by decide, by decide⟩
      · exact ⟨0, _, _, _, _, _, _, _, _, by decide, w_L_tip_good dn ap (by decide) (by decide) (c_X1_tip_1 dn (h := 1) (by decide) hq hn2), c_X2_tip_1 dm (h := 1) (by decide) hq hn2, hI.tip (by decide) hq (Or.inr rfl) (by rw [hI.2.2.2.2.2.1 q (by omega), tipV_b, tipV_b]; exact tip1_1.trans (by rw [va_up_self]; first | (rw [show (1 * 2000 + q : Nat) = 2000 + q by omega, pk_us, pk_un (by omega)]; rfl) | (rw [show (1 * 2000 + q : Nat) = 2000 + q by omega, pk_un (by omega), pk_us]; rfl))), Nat.le_succ _, by decide, by decide⟩
    · exact ⟨1, _, _, _, _, _, _, _, _, by decide, w_L_tip_IAE dn ap (by decide) (by decide) (t_X1_tip_b hs0 dn hh h2), r_X2_tip dm (Or.inr h2), hI, Nat.le_succ _, by decide, by decide⟩
  · exact ⟨1, _, _, _, _, _, _, _, _, by decide, w_L_tip_IAE dn ap (by decide) (by decide) (t_X1_tip_a hs0 dn h1), r_X2_tip dm (Or.inl h1), hI, Nat.le_succ _, by decide, by decide⟩

set_option maxHeartbeats 4000000 in
set_option maxRecDepth 100000 in
theorem st_tip0 {l : Launch} (hs0 : l.stackTraces = false) {E : En} {a2 : Nat → Nat} {qo : Nat} {cJ : ClassId} (dn : dN E) (dm : dM (e2 E a2)) (ap : apo E qo) {M : Mt} {n k : Nat} {g : Nat → Int64} {N : Mt} {t f : Nat} (hI : Inv M n k N f) (hn : n ≤ 600) (p1 p2 : Int32) : AgV l E a2 qo cJ Inv yL_tip (.codeWith yL_tip cL_tip 5 (some .int) [(0, 7, 10, 13)]) [.ref (ad E 0), .int p1, .int p2, .int (nI 0)] yX2_tip (.code yX2_tip cX2_tip 4 none) [.int p1, .int p2, .int (nI 0)] M n k g N t f := by
  have hn2 : n ≤ 2000 := by omega
  rcases argC p1 (n := 2) (by omega) with ⟨h, hh, rfl⟩ | h1
  · rcases argC p2 hn2 with ⟨q, hq, rfl⟩ | h2
    · rcases (show h = 0 ∨ h = 1 by omega) with rfl | rfl
      · exact ⟨0, _, _, _, _, _, _, _, _, by decide, w_L_tip_good dn ap (by decide) (by decide) (c_X1_tip_0 dn (h := 0) (by decide) hq hn2), c_X2_tip_0 dm (h := 0) (by decide) hq hn2, hI.tip (by decide) hq (Or.inl rfl) (by rw [hI.2.2.2.2.2.1 q (by omega), tipV_b, tipV_b]; exact tip0_0.trans (by rw [va_up_self]; first | (rw [show (0 * 2000 + q : Nat) = q by omega, pk_us, pk_un (by omega)]; rfl) | (rw [show (0 * 2000 + q : Nat) = q by omega, pk_un (by omega), pk_us]; rfl))), Nat.le_succ _, by decide, by decide⟩
      · exact ⟨0, _, _, _, _, _, _, _, _, by decide, w_L_tip_good dn ap (by decide) (by decide) (c_X1_tip_0 dn (h := 1) (by decide) hq hn2), c_X2_tip_0 dm (h := 1) (by decide) hq hn2, hI.tip (by decide) hq (Or.inl rfl) (by rw [hI.2.2.2.2.2.1 q (by omega), tipV_b, tipV_b]; exact tip0_1.trans (by rw [va_up_self]; first | (rw [show (1 * 2000 + q : Nat) = 2000 + q by omega, pk_us, pk_un (by omega)]; rfl) | (rw [show (1 * 2000 + q : Nat) = 2000 + q by omega, pk_un (by omega), pk_us]; rfl))), Nat.le_succ _, by decide, by decide⟩
    · exact ⟨1, _, _, _, _, _, _, _, _, by decide, w_L_tip_IAE dn ap (by decide) (by decide) (t_X1_tip_b hs0 dn hh h2), r_X2_tip dm (Or.inr h2), hI, Nat.le_succ _, by decide, by decide⟩
  · exact ⟨1, _, _, _, _, _, _, _, _, by decide, w_L_tip_IAE dn ap (by decide) (by decide) (t_X1_tip_a hs0 dn h1), r_X2_tip dm (Or.inl h1), hI, Nat.le_succ _, by decide, by decide⟩
