/-! What must be sent. -/
theorem tip_8 {N : Mt} {c : Nat} : nI (tipV N c) &&& (-8) = 0 := by
  rw [tipV]
  by_cases a : N 6 c = 0 <;> by_cases b : N 6 (2000 + c) = 0 <;> simp only [a, b, if_true, if_false] <;> decide
theorem tip_4 {N : Mt} {c : Nat} : nI (tipV N c) &&& nI 4 = 0 := by
  rw [tipV]
  by_cases a : N 6 c = 0 <;> by_cases b : N 6 (2000 + c) = 0 <;> simp only [a, b, if_true, if_false] <;> decide
theorem Inv.mk8 {M N : Mt} {n k f c : Nat} (hI : Inv M n k N f) (hc : c < n) : hlF M n 8 c &&& (-8) = 0 := by
  have hn := hI.ok.1
  refine Decidable.byContradiction (fun h => ?_)
  obtain ⟨x, h1, h2, -⟩ := (hlF_iff (by decide) hI.ok hc).mp h
  rw [hI.2.2.2.2.2.1 x (by omega)] at h2
  exact h2 tip_8
theorem Inv.mk4 {M N : Mt} {n k f c : Nat} (hI : Inv M n k N f) (hc : c < n) : ¬ hlF M n 8 c &&& nI 4 = 0 → hlF M n 8 c &&& nI 3 = nI 3 := by
  intro h
  have hn := hI.ok.1
  have e4 : mhF n 0 M 4 = M 4 := mhF_row (by decide)
  have e5 : mhF n 0 M 5 = M 5 := mhF_row (by decide)
  have ep : ∀ y, pcn (mhF n 0 M) y = pcn M y := fun y => by rw [pcn, pcn, e4]
  have ea : ∀ y s, par (mhF n 0 M) y s = par M y s := fun y s => by rw [par, par, e5]
  obtain ⟨y, y1, y2, s, y3, y4⟩ := (sp_four (hI.ok.rows e4 e5) (fun x hx => by rw [mhF_at (Nat.zero_le _) (by omega), hI.2.2.2.2.2.1 x (by omega)]; exact tip_4) hc).mp h
  rw [RC_rows e4 e5] at y4
  rw [ep] at y3
  rw [ea] at y4
  obtain ⟨b1, b2⟩ := cm_iff.mp y2
  obtain ⟨x1, p1, p2, p3⟩ := (hlF_iff (m := nI 1) (by decide) hI.ok y1).mp b1
  obtain ⟨x2, q1, q2, q3⟩ := (hlF_iff (m := nI 2) (by decide) hI.ok y1).mp b2
  exact cm_iff.mpr ⟨(hlF_iff (by decide) hI.ok hc).mpr ⟨x1, p1, p2, (p3.trans (RC.one y3)).trans y4⟩, (hlF_iff (by decide) hI.ok hc).mpr ⟨x2, q1, q2, (q3.trans (RC.one y3)).trans y4⟩⟩
theorem Inv.snB {M N : Mt} {n k f h c : Nat} (hI : Inv M n k N f) (hh : h < 2) (hc : c < n) : hlF M n 8 c = sdF h ↔ sB (hdR (hdR N n 7 h) n 8 (1 - h)) c = true := by
  rw [sB, decide_eq_true_iff, hdR_row (by decide), hI.hl (N' := N) (r := 7) (by decide) (by decide) (by decide) hh hc rfl rfl rfl]
  have e8 := hI.hl (N' := hdR N n 7 h) (r := 8) (h := 1 - h) (by decide) (by decide) (by decide) (by omega) hc (hdR_row (by decide)) (hdR_row (by decide)) (hdR_row (by decide))
  have e8' : hdR (hdR N n 7 h) n 8 (1 - h) 8 c = 0 ↔ hlF M n 8 c &&& sdF (1 - h) = 0 := by
    rw [← Decidable.not_iff_not]; exact e8
  rw [e8']
  rcases (show h = 0 ∨ h = 1 by omega) with rfl | rfl
  · exact mk_1 (hI.mk8 hc) (hI.mk4 hc)
  · exact mk_2 (hI.mk8 hc) (hI.mk4 hc)
theorem Inv.snR {M N : Mt} {n k f h : Nat} (hI : Inv M n k N f) (hh : h < 2) : qS (M 3) (M 2) (fun x => rN n (gnF (n - 1 + 1) 0 (se0 N n h)) x = true) (snU M n h).1 (snU M n h).2 ∧ (snU M n h).2 = seN N n h ∧ ∀ a, noQ a → a ≠ 8 → (snU M n h).1 a = M a := by
  have hn := hI.ok.1
  obtain ⟨a1, a2, a3⟩ := seF_ok (h := h) (rk := M 3) (ky := M 2) (mk := hlF M n 8) (d := n) (i := 0) (u := (hlF M n, 0)) (by omega) (hlF_row (by decide)) (hlF_row (by decide)) rfl (qS.empty (fun x hx => absurd hx.1 (Nat.not_lt_zero x))) (Nat.le_refl 0)
  refine ⟨a1.set (fun x => ?_), ?_, fun a ha h8 => (a3 a ha).trans (hlF_row h8)⟩
  · rw [rN_iff, gnF_row (by decide), se0, Nat.zero_add]
    constructor
    · rintro ⟨x1, x2⟩
      refine ⟨x1, ?_⟩
      rw [s1F_at (Nat.zero_le _) (by omega), (hI.snB hh x1).mp x2]
      decide
    · rintro ⟨x1, x2⟩
      refine ⟨x1, (hI.snB hh x1).mpr ?_⟩
      rw [s1F_at (Nat.zero_le _) (by omega)] at x2
      exact bI_n x2
  · rw [snU, a2, Nat.zero_add, seN]
    exact cn_congr (fun j hj => by rw [decide_eq_true_iff]; exact hI.snB hh hj)
theorem Inv.gnN {M N : Mt} {n k f d q : Nat} (hI : Inv M n k N f) (hd : d ≤ n) (hq : q < d) : gnF d 0 N 3 q = M 3 q := by
  obtain ⟨G, hG⟩ := hI.2.2.2.2.1
  rw [(hG q (by omega)).1]
  exact gnF_ok hG hI.1.1 hI.ok2 (fun c hc => ⟨hI.pc hc, fun s hs => hI.pa hc hs⟩) (by omega) (fun c hc => absurd hc (Nat.not_lt_zero c)) q (by omega)
theorem Inv.se {M N : Mt} {n k f h : Nat} (hI : Inv M n k N f) : Inv M n k (se0 N n h) f := hI.same rfl rfl rfl rfl rfl rfl rfl (se0_row (by decide) (by decide) (by decide)) (se0_row (by decide) (by decide) (by decide)) (se0_row (by decide) (by decide) (by decide)) (se0_row (by decide) (by decide) (by decide)) (se0_row (by decide) (by decide) (by decide))
theorem Inv.sn {M N : Mt} {n k f h j : Nat} (hI : Inv M n k N f) (hh : h < 2) (hj : j < seN N n h) : ∃ c, tkR (qaF j (snU M n h)).1 (qaF j (snU M n h)).2 = nI c ∧ (seU N n h j).2 = some c ∧ ∀ a, a ≠ 9 → a ≠ 3 → (seU N n h j).1 a = se0 N n h a := by
  obtain ⟨q1, q2, -⟩ := hI.snR (h := h) hh
  obtain ⟨c, c1, c2⟩ := qa_nth q1 (by rw [q2]; exact hj)
  have hn0 : 0 < n := by have := seN_le (M := N) (z := n) (h := h); omega
  have hcl : cL (gnF (n - 1 + 1) 0 (se0 N n h)) n = seN N n h := by rw [cL_row (M := se0 N n h) (gnF_row (by decide)), se0, cL_s1, seN]
  obtain ⟨⟨d, d1, d2, d3⟩, d4⟩ := s2_nth (z := n) (j := j) (M := gnF (n - 1 + 1) 0 (se0 N n h)) (o := none) (by rw [hcl]; exact hj)
  have d5 := nth.congr Fa_r (rk' := M 3) (ky' := M 2) (fun x hx => by
    have hx1 := (rN_iff.mp hx).1
    refine ⟨hI.se.gnN (by omega) (by omega), ?_⟩
    rw [gnF_row (by decide)]
    exact (hI.se.2.1 x hx1).2.1) d3
  obtain rfl := nth.uniq c1 d5
  exact ⟨c, c2, d2, fun a h9 h3 => by rw [seU, d4 a h9, gnF_row h3]⟩
theorem noq {a : Nat} (h : a ≤ 9) : noQ a := ⟨by omega, by omega, by omega⟩

set_option maxHeartbeats 4000000 in
set_option maxRecDepth 100000 in
theorem st_sent {l : Launch} (hs0 : l.stackTraces = false) {E : En} {a2 : Nat → Nat} {qo : Nat} {cJ : ClassId} (dn : dN E) (dm : dM (e2 E a2)) (ap : apo E qo) {M : Mt} {n k : Nat} {g : Nat → Int64} {N : Mt} {t f : Nat} (hI : Inv M n k N f) (hn : n ≤ 600) (p1 p2 : Int32) : AgI l E a2 qo cJ Inv yL_sent (.codeWith yL_sent cL_sent 5 (some .int) [(0, 10, 13, 13), (0, 10, 17, 33)]) [.ref (ad E 0), .int p1, .int p2, .ref qo] yX2_sent (.code yX2_sent cX2_sent 7 (some .int)) [.int p1, .int p2] PI M n k g N t f := by
  have hn2 : n ≤ 2000 := by omega
  rcases argC p1 (n := 2) (by omega) with ⟨h, hh, rfl⟩ | h1
  · have hk := seN_le (M := N) (z := n) (h := h)
    have hq := (hI.snR hh).2.1
    rcases argP p2 (n := seN N n h) (by omega) with rfl | ⟨j, hj, rfl⟩ | ⟨h2, h3⟩
    · exact ⟨0, _, _, _, _, _, _, _, _, _, by decide, w_L_sent_good dn ap (by decide) (by decide) (c_X1_sent_a dn hh hI.ok), c_X2_sent_a dm hh hI.z6 hI.ok2, fun _ => by rw [pk_uLs, hq], hI.same ((hI.snR hh).2.2 1 (noq (by decide)) (by decide)) ((hI.snR hh).2.2 2 (noq (by decide)) (by decide)) ((hI.snR hh).2.2 3 (noq (by decide)) (by decide)) ((hI.snR hh).2.2 4 (noq (by decide)) (by decide)) ((hI.snR hh).2.2 5 (noq (by decide)) (by decide)) ((hI.snR hh).2.2 6 (noq (by decide)) (by decide)) ((hI.snR hh).2.2 7 (noq (by decide)) (by decide)) (se0_row (by decide) (by decide) (by decide)) (se0_row (by decide) (by decide) (by decide)) (se0_row (by decide) (by decide) (by decide)) (se0_row (by decide) (by decide) (by decide)) (se0_row (by decide) (by decide) (by decide)), Nat.le_succ _, by decide, by decide⟩
    · obtain ⟨c, c1, c2, c4⟩ := hI.sn hh hj
      exact ⟨0, _, _, _, _, _, _, _, _, _, by decide, w_L_sent_good dn ap (by decide) (by decide) (c_X1_sent_b dn hh hI.ok (by rw [hq]; exact hj)), c_X2_sent_b dm hh hI.z6 hI.ok2 hj c2, fun _ => by rw [pk_uLs, c1], hI.same ((tkF_row (by decide) (by decide) (by decide)).trans ((qaF_row (noq (by decide))).trans ((hI.snR hh).2.2 1 (noq (by decide)) (by decide)))) ((tkF_row (by decide) (by decide) (by decide)).trans ((qaF_row (noq (by decide))).trans ((hI.snR hh).2.2 2 (noq (by decide)) (by decide)))) ((tkF_row (by decide) (by decide) (by decide)).trans ((qaF_row (noq (by decide))).trans ((hI.snR hh).2.2 3 (noq (by decide)) (by decide)))) ((tkF_row (by decide) (by decide) (by decide)).trans ((qaF_row (noq (by decide))).trans ((hI.snR hh).2.2 4 (noq (by decide)) (by decide)))) ((tkF_row (by decide) (by decide) (by decide)).trans ((qaF_row (noq (by decide))).trans ((hI.snR hh).2.2 5 (noq (by decide)) (by decide)))) ((tkF_row (by decide) (by decide) (by decide)).trans ((qaF_row (noq (by decide))).trans ((hI.snR hh).2.2 6 (noq (by decide)) (by decide)))) ((tkF_row (by decide) (by decide) (by decide)).trans ((qaF_row (noq (by decide))).trans ((hI.snR hh).2.2 7 (noq (by decide)) (by decide)))) ((c4 1 (by decide) (by decide)).trans (se0_row (by decide) (by decide) (by decide))) ((c4 2 (by decide) (by decide)).trans (se0_row (by decide) (by decide) (by decide))) ((c4 4 (by decide) (by decide)).trans (se0_row (by decide) (by decide) (by decide))) ((c4 5 (by decide) (by decide)).trans (se0_row (by decide) (by decide) (by decide))) ((c4 6 (by decide) (by decide)).trans (se0_row (by decide) (by decide) (by decide))), Nat.le_succ _, by decide, by decide⟩
    · exact ⟨2, nI 0, _, _, _, _, _, _, _, _, by decide, w_L_sent_NSE dn ap (by decide) (by decide) (t_X1_sent_b hs0 dn hh hI.ok h2 (by rw [hq]; exact h3)), c_X2_sent_c dm hh hI.z6 hI.ok2 h2 h3, fun h => absurd h (by decide), hI.same ((hI.snR hh).2.2 1 (noq (by decide)) (by decide)) ((hI.snR hh).2.2 2 (noq (by decide)) (by decide)) ((hI.snR hh).2.2 3 (noq (by decide)) (by decide)) ((hI.snR hh).2.2 4 (noq (by decide)) (by decide)) ((hI.snR hh).2.2 5 (noq (by decide)) (by decide)) ((hI.snR hh).2.2 6 (noq (by decide)) (by decide)) ((hI.snR hh).2.2 7 (noq (by decide)) (by decide)) (se0_row (by decide) (by decide) (by decide)) (se0_row (by decide) (by decide) (by decide)) (se0_row (by decide) (by decide) (by decide)) (se0_row (by decide) (by decide) (by decide)) (se0_row (by decide) (by decide) (by decide)), Nat.le_succ _, by decide, by decide⟩
  · exact ⟨1, nI 0, _, _, _, _, _, _, _, _, by decide, w_L_sent_IAE dn ap (by decide) (by decide) (t_X1_sent_a hs0 dn h1), r_X2_sent dm h1, fun h => absurd h (by decide), hI, Nat.le_succ _, by decide, by decide⟩
