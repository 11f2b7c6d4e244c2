/-! The heap: put adds, take removes the least. Positions compare by cbF. -/
def sg (x y i : Nat) : Nat := if i = y then x else if i = x then y else i
theorem sw1_sg (f : Nat → Int32) (x y i : Nat) : sw1 f x y i = f (sg x y i) := by
  rw [sg]
  by_cases hy : i = y
  · rw [if_pos hy, sw1, hy, pk_us]
  · rw [if_neg hy]
    by_cases hx : i = x
    · rw [if_pos hx, sw1, pk_un hy, hx, pk_us]
    · rw [if_neg hx, sw1, pk_un hy, pk_un hx]
theorem swF_11 {M : Mt} {x y : Nat} : swF M x y 11 = sw1 (M 11) x y := rfl
theorem swF_12 {M : Mt} {x y : Nat} : swF M x y 12 = sw1 (M 12) x y := rfl
theorem cb_sw {M : Mt} {x y i j : Nat} : cbF (swF M x y) i j = cbF M (sg x y i) (sg x y j) := by
  rw [cbF, cbF, swF_11, swF_12, swF_13]
  simp only [sw1_sg]
theorem i32_lt_trans {a b d : Int32} (h : a < b) (h2 : b < d) : a < d := by
  simp only [Int32.lt_iff_toInt_lt] at h h2 ⊢
  omega
theorem i32_lt_irr {a : Int32} : ¬ a < a := by
  simp only [Int32.lt_iff_toInt_lt]
  omega
theorem i32_tri {a b : Int32} (h : ¬ a = b) (h2 : ¬ a < b) : b < a := by
  have h3 : ¬ a.toInt = b.toInt := fun e => h (Int32.toInt_inj.mp e)
  simp only [Int32.lt_iff_toInt_lt] at h2 ⊢
  omega
/-- x comes before y -/
def cB (M : Mt) (x y : Nat) : Prop := M 11 x < M 11 y ∨ (M 11 x = M 11 y ∧ (M 12 x < M 12 y ∨ (M 12 x = M 12 y ∧ M 13 x < M 13 y)))
theorem cb_iff {M : Mt} {x y : Nat} : cbF M x y = true ↔ cB M x y := by
  rw [cbF, cB]
  by_cases h1 : M 11 x = M 11 y
  · rw [if_pos h1]
    by_cases h2 : M 12 x = M 12 y
    · rw [if_pos h2, decide_eq_true_iff]
      constructor
      · exact fun h => Or.inr ⟨h1, Or.inr ⟨h2, h⟩⟩
      · rintro (h | ⟨-, h | ⟨-, h⟩⟩)
        · exact absurd (h1 ▸ h) i32_lt_irr
        · exact absurd (h2 ▸ h) i32_lt_irr
        · exact h
    · rw [if_neg h2, decide_eq_true_iff]
      constructor
      · exact fun h => Or.inr ⟨h1, Or.inl h⟩
      · rintro (h | ⟨-, h | ⟨h, -⟩⟩)
        · exact absurd (h1 ▸ h) i32_lt_irr
        · exact h
        · exact absurd h h2
  · rw [if_neg h1, decide_eq_true_iff]
    constructor
    · exact Or.inl
    · rintro (h | ⟨h, -⟩)
      · exact h
      · exact absurd h h1
theorem cB.trans {M : Mt} {x y z : Nat} (h : cB M x y) (h2 : cB M y z) : cB M x z := by
  rcases h with h | ⟨e, h⟩
  · rcases h2 with g | ⟨e2, g⟩
    · exact Or.inl (i32_lt_trans h g)
    · exact Or.inl (e2 ▸ h)
  · rcases h2 with g | ⟨e2, g⟩
    · exact Or.inl (e ▸ g)
    · refine Or.inr ⟨e.trans e2, ?_⟩
      rcases h with h | ⟨e3, h⟩
      · rcases g with g | ⟨e4, g⟩
        · exact Or.inl (i32_lt_trans h g)
        · exact Or.inl (e4 ▸ h)
      · rcases g with g | ⟨e4, g⟩
        · exact Or.inl (e3 ▸ g)
        · exact Or.inr ⟨e3.trans e4, i32_lt_trans h g⟩
theorem cB.irr {M : Mt} {x : Nat} : ¬ cB M x x := by
  rintro (h | ⟨-, h | ⟨-, h⟩⟩) <;> exact i32_lt_irr h
theorem cB.tot {M : Mt} {x y : Nat} (hne : ¬ M 13 x = M 13 y) (h : ¬ cB M x y) : cB M y x := by
  by_cases h1 : M 11 x = M 11 y
  · refine Or.inr ⟨h1.symm, ?_⟩
    by_cases h2 : M 12 x = M 12 y
    · exact Or.inr ⟨h2.symm, i32_tri hne (fun h3 => h (Or.inr ⟨h1, Or.inr ⟨h2, h3⟩⟩))⟩
    · exact Or.inl (i32_tri h2 (fun h3 => h (Or.inr ⟨h1, Or.inl h3⟩)))
  · exact Or.inl (i32_tri h1 (fun h3 => h (Or.inl h3)))
theorem cB_sw {M : Mt} {x y i j : Nat} : cB (swF M x y) i j ↔ cB M (sg x y i) (sg x y j) := by rw [← cb_iff, ← cb_iff, cb_sw]
/-- no two of the first k bear one number -/
def inj13 (M : Mt) (k : Nat) : Prop := ∀ i j, i < k → j < k → M 13 i = M 13 j → i = j
theorem sg_lt {x y i k : Nat} (hx : x < k) (hy : y < k) (hi : i < k) : sg x y i < k := by
  rw [sg]; split
  · exact hx
  · split
    · exact hy
    · exact hi
theorem sg_sg {x y i : Nat} : sg x y (sg x y i) = i := by
  simp only [sg]
  by_cases h1 : i = y
  · subst h1
    by_cases h2 : x = i <;> simp [h2]
  · by_cases h2 : i = x
    · subst h2; simp [h1]
    · simp [h1, h2]
theorem sg_inj {x y i j : Nat} (h : sg x y i = sg x y j) : i = j := by rw [← sg_sg (x := x) (y := y) (i := i), h, sg_sg]
theorem inj13.sw {M : Mt} {k x y : Nat} (h : inj13 M k) (hx : x < k) (hy : y < k) : inj13 (swF M x y) k := by
  intro i j hi hj e
  rw [swF_13, sw1_sg, sw1_sg] at e
  exact sg_inj (h _ _ (sg_lt hx hy hi) (sg_lt hx hy hj) e)
/-- the places above -/
abbrev up2 (i : Nat) : Nat := (i - 1) / 2
/-- a heap of k -/
def hpN (M : Mt) (k : Nat) : Prop := ∀ i, 0 < i → i < k → ¬ cB M i (up2 i)
/-- a heap but for place p, which may be too small for what is above -/
def hpU (M : Mt) (k p : Nat) : Prop := (∀ i, 0 < i → i < k → i ≠ p → ¬ cB M i (up2 i)) ∧ ∀ i, 0 < i → i < k → up2 i = p → 0 < p → ¬ cB M i (up2 p)
/-- a heap but for place p, which may be too great for what is below -/
def hpD (M : Mt) (k p : Nat) : Prop := (∀ i, 0 < i → i < k → up2 i ≠ p → ¬ cB M i (up2 i)) ∧ ∀ i, 0 < i → i < k → up2 i = p → 0 < p → ¬ cB M i (up2 p)
theorem sg_a {x y : Nat} : sg x y y = x := if_pos rfl
theorem sg_b {x y : Nat} (h : x ≠ y) : sg x y x = y := by rw [sg, if_neg h, if_pos rfl]
theorem sg_c {x y i : Nat} (h1 : i ≠ y) (h2 : i ≠ x) : sg x y i = i := by rw [sg, if_neg h1, if_neg h2]
theorem cB.asym {M : Mt} {x y : Nat} (h : cB M x y) : ¬ cB M y x := fun h2 => cB.irr (h.trans h2)
theorem inj13.tot {M : Mt} {k x y : Nat} (hi : inj13 M k) (hx : x < k) (hy : y < k) (hne : x ≠ y) (h : ¬ cB M x y) : cB M y x := cB.tot (fun e => hne (hi x y hx hy e)) h
theorem hpU.step {M : Mt} {k p : Nat} (hi : inj13 M k) (hp : p < k) (h0 : 0 < p) (h : hpU M k p) (hc : cB M p (up2 p)) : hpU (swF M (up2 p) p) k (up2 p) := by
  have hap : up2 p < p := by show (p - 1) / 2 < p; omega
  have hne : up2 p ≠ p := Nat.ne_of_lt hap
  refine ⟨fun i h1 h2 h3 h4 => ?_, fun i h1 h2 h3 h5 h4 => ?_⟩
  · rw [cB_sw] at h4
    by_cases e1 : i = p
    · subst e1
      rw [sg_a, sg_b hne] at h4
      exact hc.asym h4
    · rw [sg_c e1 h3] at h4
      by_cases e2 : up2 i = p
      · rw [e2, sg_a] at h4
        exact h.2 i h1 h2 e2 h0 h4
      · by_cases e3 : up2 i = up2 p
        · rw [e3, sg_b hne] at h4
          exact h.1 i h1 h2 e1 (by rw [e3]; exact h4.trans hc)
        · rw [sg_c e2 e3] at h4
          exact h.1 i h1 h2 e1 h4
  · rw [cB_sw] at h4
    have hua : up2 (up2 p) < up2 p := by show (up2 p - 1) / 2 < up2 p; omega
    have hia : up2 i < i := by show (i - 1) / 2 < i; omega
    rw [sg_c (i := up2 (up2 p)) (by omega) (by omega)] at h4
    by_cases e1 : i = p
    · subst e1
      rw [sg_a] at h4
      exact h.1 (up2 i) h5 (by omega) hne h4
    · rw [sg_c e1 (by omega)] at h4
      have h6 : ¬ cB M i (up2 i) := h.1 i h1 h2 e1
      have h7 : cB M (up2 i) i := hi.tot h2 (by omega) (by omega) h6
      rw [h3] at h7
      exact h.1 (up2 p) h5 (by omega) hne (h7.trans h4)
/-- the first k are the same, in another order -/
def pmN (M M' : Mt) (k : Nat) : Prop := ∃ s t : Nat → Nat, (∀ i, i < k → s i < k ∧ t i < k ∧ t (s i) = i ∧ s (t i) = i) ∧ ∀ i, i < k → M' 11 i = M 11 (s i) ∧ M' 12 i = M 12 (s i) ∧ M' 13 i = M 13 (s i)
theorem pmN.rf {M : Mt} {k : Nat} : pmN M M k := ⟨id, id, fun _ h => ⟨h, h, rfl, rfl⟩, fun _ _ => ⟨rfl, rfl, rfl⟩⟩
theorem pmN.sw {M M' : Mt} {k x y : Nat} (h : pmN (swF M x y) M' k) (hx : x < k) (hy : y < k) : pmN M M' k := by
  obtain ⟨s, t, h1, h2⟩ := h
  refine ⟨fun i => sg x y (s i), fun i => t (sg x y i), fun i hi => ?_, fun i hi => ?_⟩
  · obtain ⟨a, b, d, e⟩ := h1 i hi
    obtain ⟨a', b', d', e'⟩ := h1 (sg x y i) (sg_lt hx hy hi)
    exact ⟨sg_lt hx hy a, b', by show t (sg x y (sg x y (s i))) = i; rw [sg_sg]; exact d, by show sg x y (s (t (sg x y i))) = i; rw [e', sg_sg]⟩
  · obtain ⟨a, b, d⟩ := h2 i hi
    exact ⟨by rw [a, swF_11, sw1_sg], by rw [b, swF_12, sw1_sg], by rw [d, swF_13, sw1_sg]⟩
theorem rise_ok {k : Nat} : ∀ {f p : Nat} {M : Mt}, p ≤ f → p < k → inj13 M k → hpU M k p → hpN (riF f M p) k ∧ pmN M (riF f M p) k := by
  intro f
  induction f with
  | zero =>
    intro p M hp hk hi h
    obtain rfl : p = 0 := by omega
    exact ⟨fun i h1 h2 => h.1 i h1 h2 (by omega), pmN.rf⟩
  | succ f ih =>
    intro p M hp hk hi h
    by_cases h0 : p = 0
    · subst h0
      rw [riF_0]
      exact ⟨fun i h1 h2 => h.1 i h1 h2 (by omega), pmN.rf⟩
    · rw [riF_s (by omega)]
      by_cases hc : cbF M ((p - 1) / 2) p = true
      · rw [if_pos hc]
        refine ⟨fun i h1 h2 h3 => ?_, pmN.rf⟩
        by_cases e : i = p
        · subst e
          exact (cb_iff.mp hc).asym h3
        · exact h.1 i h1 h2 e h3
      · rw [if_neg hc]
        have hap : up2 p < p := by show (p - 1) / 2 < p; omega
        have hal : up2 p < k := Nat.lt_trans hap hk
        have h2 : cB M p (up2 p) := hi.tot hal hk (Nat.ne_of_lt hap) (fun h => hc (cb_iff.mpr h))
        obtain ⟨a, b⟩ := ih (p := up2 p) (by omega) hal (hi.sw hal hk) (hpU.step hi hk (by omega) h h2)
        exact ⟨a, b.sw hal hk⟩
theorem ch_spec {M : Mt} {k p : Nat} (h : 2 * p + 1 < k) : chF M k p < k ∧ up2 (chF M k p) = p ∧ p < chF M k p ∧ ∀ i, 0 < i → i < k → up2 i = p → i ≠ chF M k p → ¬ cB M i (chF M k p) := by
  rw [chF]
  by_cases h2 : 2 * p + 1 + 1 < k ∧ cbF M (2 * p + 1 + 1) (2 * p + 1) = true
  · rw [if_pos h2]
    refine ⟨h2.1, by show (2 * p + 1 + 1 - 1) / 2 = p; omega, by omega, fun i h3 h4 h5 h6 h7 => ?_⟩
    obtain rfl : i = 2 * p + 1 := by
      have : (i - 1) / 2 = p := h5
      omega
    exact (cb_iff.mp h2.2).asym h7
  · rw [if_neg h2]
    refine ⟨h, by show (2 * p + 1 - 1) / 2 = p; omega, by omega, fun i h3 h4 h5 h6 h7 => ?_⟩
    obtain rfl : i = 2 * p + 1 + 1 := by
      have : (i - 1) / 2 = p := h5
      omega
    exact h2 ⟨h4, cb_iff.mpr h7⟩
theorem hpD.step {M : Mt} {k p : Nat} (hk : 2 * p + 1 < k) (h : hpD M k p) (hc : cB M (chF M k p) p) : hpD (swF M p (chF M k p)) k (chF M k p) := by
  obtain ⟨c1, c2, c3, c4⟩ := ch_spec (M := M) hk
  generalize chF M k p = ch at *
  have hne : p ≠ ch := Nat.ne_of_lt c3
  refine ⟨fun i h1 h2 h3 h4 => ?_, fun i h1 h2 h3 h5 h4 => ?_⟩
  · rw [cB_sw] at h4
    by_cases e1 : i = ch
    · subst e1
      rw [sg_a, c2, sg_b hne] at h4
      exact hc.asym h4
    · by_cases e2 : i = p
      · subst e2
        have : up2 i < i := by show (i - 1) / 2 < i; omega
        rw [sg_b hne, sg_c (i := up2 i) (by omega) (by omega)] at h4
        exact h.2 ch (by omega) c1 c2 h1 h4
      · rw [sg_c e1 e2] at h4
        by_cases e3 : up2 i = p
        · rw [e3, sg_b hne] at h4
          exact c4 i h1 h2 e3 e1 h4
        · rw [sg_c h3 e3] at h4
          exact h.1 i h1 h2 e3 h4
  · rw [cB_sw, c2, sg_b hne] at h4
    have : up2 i < i := by show (i - 1) / 2 < i; omega
    rw [sg_c (i := i) (by omega) (by omega)] at h4
    exact h.1 i h1 h2 (by omega) (by rw [h3]; exact h4)
theorem sink_ok {k : Nat} : ∀ {f p : Nat} {M : Mt}, k ≤ p + f → inj13 M k → hpD M k p → hpN (siF f M k p) k ∧ pmN M (siF f M k p) k := by
  intro f
  induction f with
  | zero =>
    intro p M hp hi h
    exact ⟨fun i h1 h2 => h.1 i h1 h2 (by show (i - 1) / 2 ≠ p; omega), pmN.rf⟩
  | succ f ih =>
    intro p M hp hi h
    by_cases hk : 2 * p + 1 < k
    · rw [siF_s hk]
      obtain ⟨c1, c2, c3, c4⟩ := ch_spec (M := M) hk
      by_cases hc : cbF M p (chF M k p) = true
      · rw [if_pos hc]
        refine ⟨fun i h1 h2 h3 => ?_, pmN.rf⟩
        by_cases e : up2 i = p
        · by_cases e2 : i = chF M k p
          · rw [e, e2] at h3
            exact (cb_iff.mp hc).asym h3
          · rw [e] at h3
            exact c4 i h1 h2 e e2 (h3.trans (cb_iff.mp hc))
        · exact h.1 i h1 h2 e h3
      · rw [if_neg hc]
        have h2 : cB M (chF M k p) p := hi.tot (by omega) c1 (by omega) (fun h => hc (cb_iff.mpr h))
        obtain ⟨a, b⟩ := ih (p := chF M k p) (by omega) (hi.sw (by omega) c1) (hpD.step hk h h2)
        exact ⟨a, b.sw (by omega) c1⟩
    · rw [siF_e hk]
      exact ⟨fun i h1 h2 => h.1 i h1 h2 (by show (i - 1) / 2 ≠ p; omega), pmN.rf⟩
theorem hpN.root {M : Mt} {k : Nat} (hi : inj13 M k) (h : hpN M k) : ∀ i, i < k → ¬ cB M i 0 := by
  intro i
  induction i using Nat.strongRecOn with
  | ind i ih =>
    intro hk h3
    by_cases h0 : i = 0
    · subst h0
      exact cB.irr h3
    · have hu : up2 i < i := by show (i - 1) / 2 < i; omega
      have h4 := hi.tot hk (by omega) (by omega) (h i (by omega) hk)
      exact ih (up2 i) hu (by omega) (h4.trans h3)
