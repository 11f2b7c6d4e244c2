/-! The queue as a set of commits S, with a rank and a key for each. -/
/-- c comes before d -/
def lC (rk ky : Nat → Int32) (c d : Nat) : Prop := rk c < rk d ∨ (rk c = rk d ∧ (ky c < ky d ∨ (ky c = ky d ∧ c < d)))
def qS (rk ky : Nat → Int32) (S : Nat → Prop) (M : Mt) (k : Nat) : Prop := (∀ i, i < k → ∃ c, c < 2000 ∧ S c ∧ M 13 i = nI c ∧ M 11 i = rk c ∧ M 12 i = ky c) ∧ (∀ c, S c → c < 2000 ∧ ∃ i, i < k ∧ M 13 i = nI c) ∧ inj13 M k ∧ hpN M k
theorem nI_inj {a b : Nat} (ha : a < 2000) (hb : b < 2000) (h : nI a = nI b) : a = b := (nI_eq (by omega) (by omega)).mp h
theorem pmN.inj {M M' : Mt} {k : Nat} (h : pmN M M' k) (hi : inj13 M k) : inj13 M' k := by
  obtain ⟨s, t, h1, h2⟩ := h
  intro i j hik hjk e
  rw [(h2 i hik).2.2, (h2 j hjk).2.2] at e
  have e2 := hi _ _ (h1 i hik).1 (h1 j hjk).1 e
  rw [← (h1 i hik).2.2.1, e2, (h1 j hjk).2.2.1]
theorem qS.pm {rk ky : Nat → Int32} {S : Nat → Prop} {M M' : Mt} {k : Nat} (h1 : ∀ i, i < k → ∃ c, c < 2000 ∧ S c ∧ M 13 i = nI c ∧ M 11 i = rk c ∧ M 12 i = ky c) (h2 : ∀ c, S c → c < 2000 ∧ ∃ i, i < k ∧ M 13 i = nI c) (h3 : inj13 M k) (hp : pmN M M' k) (h4 : hpN M' k) : qS rk ky S M' k := by
  refine ⟨fun i hi => ?_, fun c hc => ?_, hp.inj h3, h4⟩
  · obtain ⟨s, t, g1, g2⟩ := hp
    obtain ⟨c, a1, a2, a3, a4, a5⟩ := h1 (s i) (g1 i hi).1
    exact ⟨c, a1, a2, by rw [(g2 i hi).2.2]; exact a3, by rw [(g2 i hi).1]; exact a4, by rw [(g2 i hi).2.1]; exact a5⟩
  · obtain ⟨s, t, g1, g2⟩ := hp
    obtain ⟨hc2, i, hi, e⟩ := h2 c hc
    exact ⟨hc2, t i, (g1 i hi).2.1, by rw [(g2 (t i) (g1 i hi).2.1).2.2, (g1 i hi).2.2.2]; exact e⟩
theorem qS.put {rk ky : Nat → Int32} {S : Nat → Prop} {M : Mt} {k c : Nat} (h : qS rk ky S M k) (hk : k < 2000) (hc : c < 2000) (hn : ¬ S c) : qS rk ky (fun x => S x ∨ x = c) (puF M k (rk c) (ky c) (nI c)) (puK k) := by
  obtain ⟨h1, h2, h3, h4⟩ := h
  rw [puF, puK, if_neg (by omega), if_neg (by omega)]
  have e11 : ∀ i, i ≠ k → ptF M k (rk c) (ky c) (nI c) 11 i = M 11 i := fun i hi => by show upd (M 11) k (rk c) i = _; rw [pk_un hi]
  have e12 : ∀ i, i ≠ k → ptF M k (rk c) (ky c) (nI c) 12 i = M 12 i := fun i hi => by show upd (M 12) k (ky c) i = _; rw [pk_un hi]
  have e13 : ∀ i, i ≠ k → ptF M k (rk c) (ky c) (nI c) 13 i = M 13 i := fun i hi => by show upd (M 13) k (nI c) i = _; rw [pk_un hi]
  have k11 : ptF M k (rk c) (ky c) (nI c) 11 k = rk c := by show upd (M 11) k (rk c) k = _; rw [pk_us]
  have k12 : ptF M k (rk c) (ky c) (nI c) 12 k = ky c := by show upd (M 12) k (ky c) k = _; rw [pk_us]
  have k13 : ptF M k (rk c) (ky c) (nI c) 13 k = nI c := by show upd (M 13) k (nI c) k = _; rw [pk_us]
  generalize ptF M k (rk c) (ky c) (nI c) = P at *
  have hB : ∀ i j, i ≠ k → j ≠ k → cB P i j → cB M i j := by
    intro i j hi hj hh
    rw [cB, e11 i hi, e11 j hj, e12 i hi, e12 j hj, e13 i hi, e13 j hj] at hh
    exact hh
  have hinj : inj13 P (k + 1) := by
    intro i j hi hj e
    by_cases ei : i = k
    · by_cases ej : j = k
      · omega
      · rw [ei, k13, e13 j ej] at e
        obtain ⟨d, d1, d2, d3, -, -⟩ := h1 j (by omega)
        rw [d3] at e
        exact absurd (nI_inj hc d1 e ▸ d2) hn
    · by_cases ej : j = k
      · rw [ej, k13, e13 i ei] at e
        obtain ⟨d, d1, d2, d3, -, -⟩ := h1 i (by omega)
        rw [d3] at e
        exact absurd (nI_inj d1 hc e ▸ d2) hn
      · rw [e13 i ei, e13 j ej] at e
        exact h3 i j (by omega) (by omega) e
  have hU : hpU P (k + 1) k := by
    refine ⟨fun i a1 a2 a3 a4 => ?_, fun i a1 a2 a3 a4 a5 => ?_⟩
    · have : up2 i < i := by show (i - 1) / 2 < i; omega
      exact h4 i a1 (by omega) (hB i (up2 i) a3 (by omega) a4)
    · have : (i - 1) / 2 = k := a3
      omega
  obtain ⟨r1, r2⟩ := rise_ok (f := k) (p := k) (Nat.le_refl _) (by omega) hinj hU
  refine qS.pm (fun i hi => ?_) (fun x hx => ?_) hinj r2 r1
  · by_cases ei : i = k
    · exact ⟨c, hc, Or.inr rfl, by rw [ei]; exact k13, by rw [ei]; exact k11, by rw [ei]; exact k12⟩
    · obtain ⟨d, d1, d2, d3, d4, d5⟩ := h1 i (by omega)
      exact ⟨d, d1, Or.inl d2, by rw [e13 i ei]; exact d3, by rw [e11 i ei]; exact d4, by rw [e12 i ei]; exact d5⟩
  · rcases hx with hx | hx
    · obtain ⟨hx2, i, hi, e⟩ := h2 x hx
      exact ⟨hx2, i, by omega, by rw [e13 i (by omega)]; exact e⟩
    · exact ⟨by omega, k, by omega, by rw [hx]; exact k13⟩
theorem qS.take {rk ky : Nat → Int32} {S : Nat → Prop} {M : Mt} {k : Nat} (h : qS rk ky S M k) (hk : 0 < k) : ∃ c, c < 2000 ∧ S c ∧ tkR M k = nI c ∧ (∀ d, S d → ¬ lC rk ky d c) ∧ qS rk ky (fun x => S x ∧ x ≠ c) (tkF M k) (k - 1) := by
  obtain ⟨h1, h2, h3, h4⟩ := h
  obtain ⟨c, c1, c2, c3, c4, c5⟩ := h1 0 hk
  refine ⟨c, c1, c2, by rw [tkR, if_neg (by omega)]; exact c3, fun d hd hl => ?_, ?_⟩
  · obtain ⟨hd2, i, hi, e⟩ := h2 d hd
    obtain ⟨d', d1, d2, d3, d4, d5⟩ := h1 i hi
    obtain rfl : d = d' := nI_inj hd2 d1 (e.symm.trans d3)
    refine h4.root h3 i hi ?_
    rw [cB, d3, d4, d5, c3, c4, c5]
    rcases hl with g | ⟨g, g2 | ⟨g2, g3⟩⟩
    · exact Or.inl g
    · exact Or.inr ⟨g, Or.inl g2⟩
    · exact Or.inr ⟨g, Or.inr ⟨g2, nI_lt g3 (by omega)⟩⟩
  · rw [tkF, if_neg (by omega)]
    have hP : ∀ i, swF M 0 (k - 1) 11 i = M 11 (sg 0 (k - 1) i) ∧ swF M 0 (k - 1) 12 i = M 12 (sg 0 (k - 1) i) ∧ swF M 0 (k - 1) 13 i = M 13 (sg 0 (k - 1) i) := fun i => ⟨by rw [swF_11, sw1_sg], by rw [swF_12, sw1_sg], by rw [swF_13, sw1_sg]⟩
    have hinj : inj13 (swF M 0 (k - 1)) (k - 1) := fun i j hi hj e => h3.sw (x := 0) (y := k - 1) hk (by omega) i j (by omega) (by omega) e
    have hsg : ∀ i, i < k - 1 → sg 0 (k - 1) i < k ∧ sg 0 (k - 1) i ≠ 0 := by
      intro i hi
      by_cases h0 : i = 0
      · subst h0
        rw [sg_b (by omega)]
        omega
      · rw [sg_c (by omega) h0]
        omega
    have hD : hpD (swF M 0 (k - 1)) (k - 1) 0 := by
      refine ⟨fun i a1 a2 a3 a4 => ?_, fun i a1 a2 a3 a4 => absurd a4 (Nat.lt_irrefl 0)⟩
      have : up2 i < i := by show (i - 1) / 2 < i; omega
      rw [cB_sw, sg_c (i := i) (by omega) (by omega), sg_c (i := up2 i) (by omega) a3] at a4
      exact h4 i a1 (by omega) a4
    obtain ⟨r1, r2⟩ := sink_ok (f := k - 1) (p := 0) (by omega) hinj hD
    refine qS.pm (fun i hi => ?_) (fun x hx => ?_) hinj r2 r1
    · obtain ⟨g1, g2⟩ := hsg i hi
      obtain ⟨d, d1, d2, d3, d4, d5⟩ := h1 _ g1
      refine ⟨d, d1, ⟨d2, fun e => ?_⟩, by rw [(hP i).2.2]; exact d3, by rw [(hP i).1]; exact d4, by rw [(hP i).2.1]; exact d5⟩
      exact g2 (h3 _ _ g1 hk (by rw [d3, c3, e]))
    · obtain ⟨hx1, hx2⟩ := hx
      obtain ⟨x2, i, hi, e⟩ := h2 x hx1
      have hi0 : i ≠ 0 := fun h0 => hx2 (nI_inj x2 c1 (by rw [← e, h0]; exact c3))
      refine ⟨x2, sg 0 (k - 1) i, ?_, by rw [(hP _).2.2, sg_sg]; exact e⟩
      by_cases hl : i = k - 1
      · rw [hl, sg_a]
        omega
      · rw [sg_c hl hi0]
        omega
