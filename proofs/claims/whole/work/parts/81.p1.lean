theorem bkF_eq {M N : Mt} {n k f : Nat} (hI : Inv M n k N f) : ∀ {d q : Nat}, q < n → bkF N d q = bkF M d q := by
  intro d
  induction d with
  | zero => intro q _; rfl
  | succ d ih =>
    intro q hq
    rw [bkF, bkF, hI.pc hq]
    by_cases h0 : pcn M q = 0
    · rw [if_pos h0, if_pos h0]
    · rw [if_neg h0, if_neg h0, hI.pa hq (by omega)]
      exact ih (Nat.lt_trans (hI.ok.lt hq (by omega)) hq)

set_option maxHeartbeats 4000000 in
set_option maxRecDepth 100000 in
theorem st_back {l : Launch} (hs0 : l.stackTraces = false) {E : En} {a2 : Nat → Nat} {qo : Nat} {cJ : ClassId} (dn : dN E) (dm : dM (e2 E a2)) (ap : apo E qo) {M : Mt} {n k : Nat} {g : Nat → Int64} {N : Mt} {t f : Nat} (hI : Inv M n k N f) (hn : n ≤ 600) (p1 p2 : Int32) : AgI l E a2 qo cJ Inv yL_back (.codeWith yL_back cL_back 5 (some .int) [(0, 10, 13, 13), (0, 10, 17, 33)]) [.ref (ad E 0), .int p1, .int p2, .ref qo] yX2_back (.code yX2_back cX2_back 5 (some .int)) [.int p1, .int p2] PI M n k g N t f := by
  have hn2 : n ≤ 2000 := by omega
  rcases argC p1 hn2 with ⟨q, hq, rfl⟩ | h1
  · by_cases h2 : p2 < 0
    · exact ⟨1, nI 0, _, _, _, _, _, _, _, _, by decide, w_L_back_IAE dn ap (by decide) (by decide) (t_X1_back_b hs0 dn hq hn2 h2), r_X2_back_b dm hq hn2 h2, fun h => absurd h (by decide), hI, Nat.le_succ _, by decide, by decide⟩
    · obtain ⟨j, hj, rfl⟩ := nI_of h2
      rcases hb : bkF M j q with _ | r
      · exact ⟨2, nI 0, _, _, _, _, _, _, _, _, by decide, w_L_back_NSE dn ap (by decide) (by decide) (t_X1_back_c hs0 dn hq hj hI.ok hb), r_X2_back_c dm hq hj hI.ok2 (by rw [bkF_eq hI hq]; exact hb), fun h => absurd h (by decide), hI, Nat.le_succ _, by decide, by decide⟩
      · exact ⟨0, nI r, _, _, _, _, _, _, _, _, by decide, w_L_back_good dn ap (by decide) (by decide) (c_X1_back dn hq hj hI.ok hb), c_X2_back dm hq hj hI.ok2 (by rw [bkF_eq hI hq]; exact hb), fun _ => by rw [pk_uLs], hI, Nat.le_succ _, by decide, by decide⟩
  · exact ⟨1, nI 0, _, _, _, _, _, _, _, _, by decide, w_L_back_IAE dn ap (by decide) (by decide) (t_X1_back_a hs0 dn h1), r_X2_back_a dm h1, fun h => absurd h (by decide), hI, Nat.le_succ _, by decide, by decide⟩
