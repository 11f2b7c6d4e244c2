/-! The bits of a mark. -/
theorem and3 (x : Int32) : x &&& nI 3 = nI 0 ∨ x &&& nI 3 = nI 1 ∨ x &&& nI 3 = nI 2 ∨ x &&& nI 3 = nI 3 := by
  obtain ⟨j, hj, e⟩ := pk_andE x (m := nI 3) 2 (by decide)
  rw [e]
  rcases (show j = 0 ∨ j = 1 ∨ j = 2 ∨ j = 3 by omega) with rfl | rfl | rfl | rfl
  · exact Or.inl rfl
  · exact Or.inr (Or.inl rfl)
  · exact Or.inr (Or.inr (Or.inl rfl))
  · exact Or.inr (Or.inr (Or.inr rfl))
theorem and_sub {x m m' : Int32} (h : m' &&& m = m) : x &&& m = (x &&& m') &&& m := by rw [Int32.and_assoc, h]
theorem cm_iff {x : Int32} : x &&& nI 3 = nI 3 ↔ ¬ x &&& nI 1 = 0 ∧ ¬ x &&& nI 2 = 0 := by
  rw [and_sub (x := x) (m := nI 1) (m' := nI 3) (by decide), and_sub (x := x) (m := nI 2) (m' := nI 3) (by decide)]
  rcases and3 x with e | e | e | e <;> rw [e] <;> decide
theorem tip_b0 {N : Mt} {c : Nat} : ¬ nI (tipV N c) &&& nI 1 = 0 ↔ ¬ N 6 c = 0 := by
  rw [tipV]
  by_cases a : N 6 c = 0 <;> by_cases b : N 6 (2000 + c) = 0 <;> simp only [a, b, if_true, if_false] <;> decide
theorem tip_b1 {N : Mt} {c : Nat} : ¬ nI (tipV N c) &&& nI 2 = 0 ↔ ¬ N 6 (2000 + c) = 0 := by
  rw [tipV]
  by_cases a : N 6 c = 0 <;> by_cases b : N 6 (2000 + c) = 0 <;> simp only [a, b, if_true, if_false] <;> decide
theorem Inv.tb {M N : Mt} {n k f h c : Nat} (hI : Inv M n k N f) (hh : h < 2) (hc : c < 2000) : ¬ M 7 c &&& sdF h = 0 ↔ ¬ N 6 (h * 2000 + c) = 0 := by
  rw [hI.2.2.2.2.2.1 c hc]
  rcases (show h = 0 ∨ h = 1 by omega) with rfl | rfl
  · rw [show 0 * 2000 + c = c by omega]; exact tip_b0
  · rw [show 1 * 2000 + c = 2000 + c by omega]; exact tip_b1
theorem Inv.hl {M N N' : Mt} {n k f r h c : Nat} (hI : Inv M n k N f) (h4 : 4 ≠ r) (h5 : 5 ≠ r) (h6 : 6 ≠ r) (hh : h < 2) (hc : c < n) (e4 : N' 4 = N 4) (e5 : N' 5 = N 5) (e6 : N' 6 = N 6) : ¬ hdR N' n r h r c = 0 ↔ ¬ hlF M n 8 c &&& sdF h = 0 := by
  have hn := hI.ok.1
  have hm : nI 4 &&& sdF h = 0 := by
    rcases (show h = 0 ∨ h = 1 by omega) with rfl | rfl <;> decide
  rw [hdR_iff h4 h5 h6 (hI.ok2.rows e4 e5) hc, hlF_iff hm hI.ok hc]
  constructor
  · rintro ⟨x, h1, h2, h3⟩
    exact ⟨x, h1, (hI.tb hh (by omega)).mpr (by rw [← e6]; exact h2), (hI.rc h1).mp ((RC_rows e4 e5).mp h3)⟩
  · rintro ⟨x, h1, h2, h3⟩
    exact ⟨x, h1, by rw [e6]; exact (hI.tb hh (by omega)).mp h2, (RC_rows e4 e5).mpr ((hI.rc h1).mpr h3)⟩
theorem cgF_ok {M : Mt} {n k f : Nat} : ∀ {d i : Nat} {u : Mt × Int32}, Inv M n k u.1 f → i + d ≤ n → (cgF d i u).2 = ggF (M 3) d i u.2 ∧ Inv M n k (cgF d i u).1 f := by
  intro d
  induction d with
  | zero => intro i u h _; exact ⟨rfl, h⟩
  | succ d ih =>
    intro i u hI hi
    have g1 := hI.gn (q := i) (by omega)
    have I1 : Inv M n k (gnF (i + 1) 0 u.1) f := hI.same rfl rfl rfl rfl rfl rfl rfl (gnF_row (by decide)) (gnF_row (by decide)) (gnF_row (by decide)) (gnF_row (by decide)) (gnF_row (by decide))
    have g2 := I1.gn (q := i) (by omega)
    have I2 : Inv M n k (gnF (i + 1) 0 (gnF (i + 1) 0 u.1)) f := I1.same rfl rfl rfl rfl rfl rfl rfl (gnF_row (by decide)) (gnF_row (by decide)) (gnF_row (by decide)) (gnF_row (by decide)) (gnF_row (by decide))
    rw [cgF, ggF, g1, g2]
    by_cases h : M 3 i ≤ u.2
    · rw [if_pos h, if_neg (nlt_le h)]
      exact ih (u := (gnF (i + 1) 0 u.1, u.2)) I1 (by omega)
    · rw [if_neg h, if_pos (lt_nle h)]
      exact ih (u := (gnF (i + 1) 0 (gnF (i + 1) 0 u.1), M 3 i)) I2 (by omega)
theorem cn_congr {P Q : Nat → Bool} {n : Nat} (h : ∀ j, j < n → (P j = true ↔ Q j = true)) : cnF P n 0 0 = cnF Q n 0 0 := cnF_congr (fun j _ hj => bool_ext (h j (by omega)))
theorem Inv.ct {M N : Mt} {n k f : Nat} (hI : Inv M n k N f) : Inv M n k (ctH N n) f := hI.same rfl rfl rfl rfl rfl rfl rfl (ctH_row (by decide) (by decide)) (ctH_row (by decide) (by decide)) (ctH_row (by decide) (by decide)) (ctH_row (by decide) (by decide)) (ctH_row (by decide) (by decide))

set_option maxHeartbeats 4000000 in
set_option maxRecDepth 100000 in
theorem st_reaches {l : Launch} (hs0 : l.stackTraces = false) {E : En} {a2 : Nat → Nat} {qo : Nat} {cJ : ClassId} (dn : dN E) (dm : dM (e2 E a2)) (ap : apo E qo) {M : Mt} {n k : Nat} {g : Nat → Int64} {N : Mt} {t f : Nat} (hI : Inv M n k N f) (hn : n ≤ 600) (p1 p2 : Int32) : AgI l E a2 qo cJ Inv yL_reaches (.codeWith yL_reaches cL_reaches 5 (some .int) [(0, 17, 20, 13)]) [.ref (ad E 0), .int p1, .int p2, .ref qo] yX2_reaches (.code yX2_reaches cX2_reaches 3 (some .boolean)) [.int p1, .int p2] PZ M n k g N t f := by
  have hn2 : n ≤ 2000 := by omega
  rcases argC p1 hn2 with ⟨b, hb, rfl⟩ | h1
  · rcases argC p2 hn2 with ⟨a, ha, rfl⟩ | h2
    · by_cases hr : RC M b a
      · have hc : ¬ mrF M n b 8 a = 0 := (mrF_iff hI.ok hb ha).mpr hr
        have hf : ¬ frF N n 7 b 7 a = nI 0 := (frF_iff (by decide) (by decide) hI.ok2 hb ha).mpr ((hI.rc hb).mpr hr)
        exact ⟨0, _, _, _, _, _, _, _, _, _, by decide, w_L_reaches_good1 dn ap (by decide) (by decide) (by rw [decide_eq_true]; rfl; exact hc) (c_X1_reaches dn hb ha hI.ok), c_X2_reaches dm hb ha hI.ok2 (frF_val (by omega)), fun _ => Or.inr ⟨(frF_val (by omega)).resolve_left (fun e => hf e), pk_uLs⟩, (hI.same (mrF_row (by decide)) (mrF_row (by decide)) (mrF_row (by decide)) (mrF_row (by decide)) (mrF_row (by decide)) (mrF_row (by decide)) (mrF_row (by decide)) (frF_row (by decide)) (frF_row (by decide)) (frF_row (by decide)) (frF_row (by decide)) (frF_row (by decide))), Nat.le_succ _, by decide, by decide⟩
      · have hf : frF N n 7 b 7 a = nI 0 := by
          rcases frF_val (N := N) (n := n) (r := 7) (q := b) (c := a) (by omega) with e | e
          · exact e
          · exact absurd ((hI.rc hb).mp ((frF_iff (r := 7) (by decide) (by decide) hI.ok2 hb ha).mp (by rw [e]; decide))) hr
        exact ⟨0, _, _, _, _, _, _, _, _, _, by decide, w_L_reaches_good0 dn ap (by decide) (by decide) (by rw [decide_eq_false]; rfl; exact fun h => hr ((mrF_iff hI.ok hb ha).mp h)) (c_X1_reaches dn hb ha hI.ok), c_X2_reaches dm hb ha hI.ok2 (frF_val (by omega)), fun _ => Or.inl ⟨hf, pk_uLs⟩, (hI.same (mrF_row (by decide)) (mrF_row (by decide)) (mrF_row (by decide)) (mrF_row (by decide)) (mrF_row (by decide)) (mrF_row (by decide)) (mrF_row (by decide)) (frF_row (by decide)) (frF_row (by decide)) (frF_row (by decide)) (frF_row (by decide)) (frF_row (by decide))), Nat.le_succ _, by decide, by decide⟩
    · exact ⟨1, nI 0, _, _, _, _, _, _, _, _, by decide, w_L_reaches_IAE dn ap (by decide) (by decide) (t_X1_reaches_b hs0 dn hb hn2 h2), r_X2_reaches dm (Or.inr h2), fun h => absurd h (by decide), hI, Nat.le_succ _, by decide, by decide⟩
  · exact ⟨1, nI 0, _, _, _, _, _, _, _, _, by decide, w_L_reaches_IAE dn ap (by decide) (by decide) (t_X1_reaches_a hs0 dn h1), r_X2_reaches dm (Or.inl h1), fun h => absurd h (by decide), hI, Nat.le_succ _, by decide, by decide⟩

set_option maxHeartbeats 4000000 in
set_option maxRecDepth 100000 in
theorem st_count {l : Launch} {E : En} {a2 : Nat → Nat} (dn : dN E) (dm : dM (e2 E a2)) {M : Mt} {n k : Nat} {N : Mt} {t f : Nat} (hI : Inv M n k N f) (hn : n ≤ 600) (x : Int32) : AgC l E a2 Inv x M n k N t f := by
  have hn2 : n ≤ 2000 := by omega
  rcases pk_ix x (n := 7) (by decide) with h0 | h0 | ⟨j, hj, rfl⟩
  · have h2 := c_X2_count_o (l := l) (E := e2 E a2) (t := t) (f := f) dm (fun e => by rw [e] at h0; exact absurd h0 (by decide)) (fun e => by rw [e] at h0; exact absurd h0 (by decide)) (fun e => by rw [e] at h0; exact absurd h0 (by decide)) (fun e => by rw [e] at h0; exact absurd h0 (by decide)) (fun e => by rw [e] at h0; exact absurd h0 (by decide)) (fun e => by rw [e] at h0; exact absurd h0 (by decide)) (fun e => by rw [e] at h0; exact absurd h0 (by decide)) (Or.inl (Int32.le_iff_toInt_le.mpr (Int.le_of_lt (Int32.lt_iff_toInt_lt.mp h0)))) hI.z6 hI.ok2
    exact ⟨_, _, _, _, _, _, _, _, _, _, _, c_X1_count_o dn (Or.inl (Int32.lt_iff_toInt_lt.mp h0)), h2, hI.ct, Nat.le_succ _, by decide, by decide, by decide, by decide⟩
  · have h2 := c_X2_count_o (l := l) (E := e2 E a2) (t := t) (f := f) dm (fun e => by rw [e] at h0; exact absurd h0 (by decide)) (fun e => by rw [e] at h0; exact absurd h0 (by decide)) (fun e => by rw [e] at h0; exact absurd h0 (by decide)) (fun e => by rw [e] at h0; exact absurd h0 (by decide)) (fun e => by rw [e] at h0; exact absurd h0 (by decide)) (fun e => by rw [e] at h0; exact absurd h0 (by decide)) (fun e => by rw [e] at h0; exact absurd h0 (by decide)) (Or.inr h0) hI.z6 hI.ok2
    exact ⟨_, _, _, _, _, _, _, _, _, _, _, c_X1_count_o dn (Or.inr (by have h3 := Int32.le_iff_toInt_le.mp h0; rw [nI_toInt (by decide)] at h3; omega)), h2, hI.ct, Nat.le_succ _, by decide, by decide, by decide, by decide⟩
  · rcases (show j = 0 ∨ j = 1 ∨ j = 2 ∨ j = 3 ∨ j = 4 ∨ j = 5 ∨ j = 6 by omega) with rfl | rfl | rfl | rfl | rfl | rfl | rfl
    · have h2 := c_X2_count_0 (l := l) (E := e2 E a2) (t := t) (f := f) dm hI.z6 hI.ok2
      exact ⟨_, _, _, _, _, _, _, _, _, _, _, c_X1_count_0 dn hI.ok, h2, hI.ct, Nat.le_succ _, by decide, by decide, by decide, by decide⟩
    · have h2 := c_X2_count_1 (l := l) (E := e2 E a2) (t := t) (f := f) dm hI.z6 hI.ok2
      rw [show cnF (fun j => decide (¬ ctH N n 6 j = 0)) n 0 0 = cnF (fun j => decide (¬ M 7 j &&& sdF 0 = 0)) n 0 0 from cn_congr (fun j hj => by rw [decide_eq_true_iff, decide_eq_true_iff, ctH_row (by decide) (by decide), hI.tb (h := 0) (by decide) (by omega), show 0 * 2000 + j = j by omega])] at h2
      exact ⟨_, _, _, _, _, _, _, _, _, _, _, c_X1_count_1 dn hI.ok, h2, hI.ct, Nat.le_succ _, by decide, by decide, by decide, by decide⟩
    · have h2 := c_X2_count_2 (l := l) (E := e2 E a2) (t := t) (f := f) dm hI.z6 hI.ok2
      rw [show cnF (fun j => decide (¬ ctH N n 6 (2000 + j) = 0)) n 0 0 = cnF (fun j => decide (¬ M 7 j &&& sdF 1 = 0)) n 0 0 from cn_congr (fun j hj => by rw [decide_eq_true_iff, decide_eq_true_iff, ctH_row (by decide) (by decide), hI.tb (h := 1) (by decide) (by omega), show 1 * 2000 + j = 2000 + j by omega])] at h2
      exact ⟨_, _, _, _, _, _, _, _, _, _, _, c_X1_count_2 dn hI.ok, h2, hI.ct, Nat.le_succ _, by decide, by decide, by decide, by decide⟩
    · have h2 := c_X2_count_3 (l := l) (E := e2 E a2) (t := t) (f := f) dm hI.z6 hI.ok2
      rw [(cgF_ok (u := (ctH N n, nI 0)) hI.ct (by omega)).1] at h2
      exact ⟨_, _, _, _, _, _, _, _, _, _, _, c_X1_count_3 dn hI.ok, h2, (cgF_ok (u := (ctH N n, nI 0)) hI.ct (by omega)).2, Nat.le_succ _, by decide, by decide, by decide, by decide⟩
    · have h2 := c_X2_count_4 (l := l) (E := e2 E a2) (t := t) (f := f) dm hI.z6 hI.ok2
      rw [show cnF (fun j => !(iaF (ctH N n) j n 0)) n 0 0 = cnF (fun j => decide (M 6 j = 0)) n 0 0 from cn_congr (fun j hj => by rw [decide_eq_true_iff, Bool.not_eq_true', ← Bool.not_eq_true, hI.ia hj (ctH_row (by decide) (by decide)) (ctH_row (by decide) (by decide)), Decidable.not_not])] at h2
      exact ⟨_, _, _, _, _, _, _, _, _, _, _, c_X1_count_4 dn hI.ok, h2, hI.ct, Nat.le_succ _, by decide, by decide, by decide, by decide⟩
    · have h2 := c_X2_count_5 (l := l) (E := e2 E a2) (t := t) (f := f) dm hI.z6 hI.ok2
      rw [show cnF (fun j => decide (¬ ctH N n 7 j = 0 ∧ ¬ ctH N n 8 j = 0)) n 0 0 = cnF (fun j => cmF (hlF M n) j) n 0 0 from cn_congr (fun j hj => by rw [decide_eq_true_iff, cmF, decide_eq_true_iff, cm_iff, ctH, hdR_row (by decide), hI.hl (N' := N) (r := 7) (h := 0) (by decide) (by decide) (by decide) (by decide) hj rfl rfl rfl, hI.hl (N' := hdR N n 7 0) (r := 8) (h := 1) (by decide) (by decide) (by decide) (by decide) hj (hdR_row (by decide)) (hdR_row (by decide)) (hdR_row (by decide))]; rfl)] at h2
      exact ⟨_, _, _, _, _, _, _, _, _, _, _, c_X1_count_5 dn hI.ok, h2, (hI.same (hlF_row (by decide)) (hlF_row (by decide)) (hlF_row (by decide)) (hlF_row (by decide)) (hlF_row (by decide)) (hlF_row (by decide)) (hlF_row (by decide)) (ctH_row (by decide) (by decide)) (ctH_row (by decide) (by decide)) (ctH_row (by decide) (by decide)) (ctH_row (by decide) (by decide)) (ctH_row (by decide) (by decide))), Nat.le_succ _, by decide, by decide, by decide, by decide⟩
    · have h2 := c_X2_count_6 (l := l) (E := e2 E a2) (t := t) (f := f) dm hI.z6 hI.ok2
      exact ⟨_, _, _, _, _, _, _, _, _, _, _, c_X1_count_6 dn hI.ok, h2, hI.ct, Nat.le_succ _, by decide, by decide, by decide, by decide⟩
