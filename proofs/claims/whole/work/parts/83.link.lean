/-! One more link: what stays and what comes. -/
section LK
variable {M : Mt} {n c p : Nat}
theorem jn4s : jnF M c (some p) 4 c = M 4 c + nI 1 := by show upd (M 4) c (M 4 c + nI 1) c = _; rw [pk_us]
theorem jn4n {d : Nat} (h : d ≠ c) : jnF M c (some p) 4 d = M 4 d := by show upd (M 4) c (M 4 c + nI 1) d = _; rw [pk_un h]
theorem jn5s : jnF M c (some p) 5 (c * 4 + pcn M c) = nI p := by show upd (M 5) (c * 4 + pcn M c) (nI p) _ = _; rw [pk_us]
theorem jn5n {d : Nat} (h : d ≠ c * 4 + pcn M c) : jnF M c (some p) 5 d = M 5 d := by show upd (M 5) (c * 4 + pcn M c) (nI p) d = _; rw [pk_un h]
theorem jnps (ok : okN M n) (hc : c < n) (h4 : pcn M c < 4) : pcn (jnF M c (some p)) c = pcn M c + 1 := by
  rw [pcn, jn4s, ok.pc hc, nI_add]
  exact nI_clamp (by omega)
theorem jnpn {d : Nat} (h : d ≠ c) : pcn (jnF M c (some p)) d = pcn M d := by rw [pcn, jn4n h, pcn]
theorem jnas (hp : p < 2000) : par (jnF M c (some p)) c (pcn M c) = p := by
  rw [par, jn5s]
  exact nI_clamp (by omega)
theorem jnan {d s : Nat} (h : d * 4 + s ≠ c * 4 + pcn M c) : par (jnF M c (some p)) d s = par M d s := by rw [par, jn5n h, par]
theorem jn_ok (ok : okN M n) (hc : c < n) (hp : p < c) (h4 : pcn M c < 4) : okN (jnF M c (some p)) n := by
  have hn := ok.1
  refine ⟨ok.1, fun d hd => ?_⟩
  by_cases e : d = c
  · subst e
    rw [jnps ok hc h4]
    refine ⟨by omega, by rw [jn4s, ok.pc hc, nI_add], fun s hs => ?_⟩
    by_cases es : s = pcn M d
    · subst es
      rw [jnas (by omega), jn5s]
      exact ⟨hp, rfl⟩
    · rw [jnan (by omega), jn5n (by omega)]
      exact ⟨ok.lt hd (by omega), ok.pr hd (by omega)⟩
  · rw [jnpn e]
    refine ⟨ok.le hd, by rw [jn4n e, ok.pc hd], fun s hs => ?_⟩
    have := ok.le hd
    rw [jnan (by omega), jn5n (by omega)]
    exact ⟨ok.lt hd hs, ok.pr hd hs⟩
end LK
theorem Inv.lk {M N : Mt} {n k f c p : Nat} (hI : Inv M n k N f) (hc : c < n) (hp : p < c) (h4 : pcn M c < 4) (h6 : M 6 c = 0) : Inv (lkF M c p) n k (jnF N c (some p)) f := by
  obtain ⟨ok, hb, hz, h6a, ⟨G, hG⟩, h7, hb6, hz6⟩ := hI
  have hn := ok.1
  have eN : pcn N c = pcn M c := by rw [pcn, pcn, (hb c hc).2.2.1]
  have qp : ∀ d, pcn (lkF M c p) d = pcn (jnF M c (some p)) d := fun d => rfl
  have qa : ∀ d s, par (lkF M c p) d s = par (jnF M c (some p)) d s := fun d s => rfl
  have nop : ∀ d s, d < n → s < pcn M d → par M d s ≠ c := fun d s hd hs e => absurd h6 ((h6a c hc).2.mpr ⟨d, s, hd, hs, e⟩)
  have l4 : lkF M c p 4 = jnF M c (some p) 4 := rfl
  have l5 : lkF M c p 5 = jnF M c (some p) 5 := rfl
  have l6 : lkF M c p 6 = upd (M 6) p (nI 1) := rfl
  have l3 : lkF M c p 3 = upd (M 3) c (if M 3 c < M 3 p + nI 1 then M 3 p + nI 1 else M 3 c) := rfl
  refine ⟨(jn_ok ok hc hp h4).rows l4 l5, fun d hd => ?_, fun d h1 h2 => ?_, fun d hd => ?_, ⟨fun x => if x = c then (if G c < G p + 1 then G p + 1 else G c) else G x, fun d hd => ?_⟩, h7, hb6, hz6⟩
  · obtain ⟨b1, b2, b4, b5⟩ := hb d hd
    refine ⟨b1, b2, ?_, fun s hs => ?_⟩
    · rw [l4]
      by_cases e : d = c
      · subst e; rw [jn4s, jn4s, b4]
      · rw [jn4n e, jn4n e, b4]
    · rw [l5]
      rw [qp] at hs
      by_cases e : d = c
      · subst e
        rw [jnps ok hc h4] at hs
        by_cases es : s = pcn M d
        · subst es
          rw [jn5s]
          have := jn5s (M := N) (c := d) (p := p)
          rw [eN] at this
          exact this
        · rw [jn5n (by omega), jn5n (by omega), b5 s (by omega)]
      · rw [jnpn e] at hs
        have := ok.le hd
        rw [jn5n (by omega), jn5n (by omega), b5 s hs]
  · rw [l4, l6, jn4n (by omega), pk_un (by omega)]
    exact hz d h1 h2
  · rw [l6]
    obtain ⟨a1, a2⟩ := h6a d hd
    by_cases e : d = p
    · subst e
      rw [pk_us]
      refine ⟨Or.inr rfl, fun _ => ⟨c, pcn M c, hc, ?_, ?_⟩, fun _ => by decide⟩
      · rw [qp, jnps ok hc h4]; omega
      · rw [qa, jnas (by omega)]
    · rw [pk_un e]
      refine ⟨a1, fun h => ?_, fun h => a2.mpr ?_⟩
      · obtain ⟨x, s, hx, hs, hxs⟩ := a2.mp h
        refine ⟨x, s, hx, ?_, ?_⟩
        · rw [qp]
          by_cases ex : x = c
          · subst ex; rw [jnps ok hc h4]; omega
          · rw [jnpn ex]; exact hs
        · have := ok.le hx
          rw [qa, jnan (fun ee => ?_)]
          · exact hxs
          · have ex : x = c := by omega
            subst ex
            omega
      · obtain ⟨x, s, hx, hs, hxs⟩ := h
        rw [qp] at hs
        rw [qa] at hxs
        by_cases ex : x = c
        · subst ex
          rw [jnps ok hc h4] at hs
          by_cases es : s = pcn M x
          · subst es
            rw [jnas (by omega)] at hxs
            omega
          · rw [jnan (by omega)] at hxs
            exact ⟨x, s, hx, by omega, hxs⟩
        · rw [jnpn ex] at hs
          have := ok.le hx
          rw [jnan (by omega)] at hxs
          exact ⟨x, s, hx, hs, hxs⟩
  · obtain ⟨g1, g2, g3, g4, g5⟩ := hG d hd
    obtain ⟨q1, q2, q3, -, -⟩ := hG p (by omega)
    have epc : (if p = c then (if G c < G p + 1 then G p + 1 else G c) else G p) = G p := if_neg (by omega)
    rw [l3]
    simp only [qp, qa]
    by_cases e : d = c
    · subst e
      rw [pk_us, if_pos rfl, g1, q1, nI_add, jnps ok hc h4]
      have old : ∀ s, s < pcn M d → (if par (jnF M d (some p)) d s = d then (if G d < G p + 1 then G p + 1 else G d) else G (par (jnF M d (some p)) d s)) = G (par M d s) := fun s hs => by
        have := ok.lt hd hs
        rw [jnan (by omega), if_neg (by omega)]
      have new : (if par (jnF M d (some p)) d (pcn M d) = d then (if G d < G p + 1 then G p + 1 else G d) else G (par (jnF M d (some p)) d (pcn M d))) = G p := by
        rw [jnas (by omega), epc]
      by_cases hlt : G d < G p + 1
      · rw [if_pos (nI_lt hlt (by omega)), if_pos hlt]
        refine ⟨rfl, by omega, by omega, fun s hs => ?_, Or.inr ⟨pcn M d, by omega, ?_⟩⟩
        · rw [if_pos hlt] at old new
          by_cases es : s = pcn M d
          · subst es; rw [new]; omega
          · rw [old s (by omega)]; have := g4 s (by omega); omega
        · rw [if_pos hlt] at new
          rw [new]
      · rw [if_neg (nI_nlt (by omega) (by omega)), if_neg hlt]
        rw [if_neg hlt] at old new
        refine ⟨rfl, g2, g3, fun s hs => ?_, ?_⟩
        · by_cases es : s = pcn M d
          · subst es; rw [new]; omega
          · rw [old s (by omega)]; exact g4 s (by omega)
        · rcases g5 with g5 | ⟨s, s1, s2⟩
          · exact Or.inl g5
          · exact Or.inr ⟨s, by omega, by rw [old s s1]; exact s2⟩
    · rw [pk_un e, if_neg e, jnpn e]
      have old : ∀ s, s < pcn M d → (if par (jnF M c (some p)) d s = c then (if G c < G p + 1 then G p + 1 else G c) else G (par (jnF M c (some p)) d s)) = G (par M d s) := fun s hs => by
        have := ok.le hd
        rw [jnan (by omega), if_neg (nop d s hd hs)]
      refine ⟨g1, g2, g3, fun s hs => by rw [old s hs]; exact g4 s hs, ?_⟩
      rcases g5 with g5 | ⟨s, s1, s2⟩
      · exact Or.inl g5
      · exact Or.inr ⟨s, s1, by rw [old s s1]; exact s2⟩
theorem Inv.new {M N : Mt} {n k f : Nat} {ti ky : Int32} (hI : Inv M n k N f) (hn : n < 2000) : Inv (ad0 M n ti ky) (n + 1) k (ra0 N n ti ky) f := by
  obtain ⟨ok, hb, hz, h6a, ⟨G, hG⟩, h7, hb6, hz6⟩ := hI
  have z4 := (hz n (Nat.le_refl _) hn).1
  have z6 := (hz n (Nat.le_refl _) hn).2
  have p0 : pcn M n = 0 := by rw [pcn, z4]; rfl
  have l1 : ad0 M n ti ky 1 = upd (M 1) n ti := rfl
  have l2 : ad0 M n ti ky 2 = upd (M 2) n ky := rfl
  have l3 : ad0 M n ti ky 3 = upd (M 3) n (nI 1) := rfl
  have r1 : ra0 N n ti ky 1 = upd (N 1) n ti := rfl
  have r2 : ra0 N n ti ky 2 = upd (N 2) n ky := rfl
  have r4 : ra0 N n ti ky 4 = upd (N 4) n (nI 0) := rfl
  have qp : ∀ d, pcn (ad0 M n ti ky) d = pcn M d := fun d => rfl
  have qa : ∀ d s, par (ad0 M n ti ky) d s = par M d s := fun d s => rfl
  refine ⟨⟨hn, fun d hd => ?_⟩, fun d hd => ?_, fun d h1 h2 => hz d (by omega) h2, fun d hd => ?_, ⟨fun x => if x = n then 1 else G x, fun d hd => ?_⟩, h7, hb6, fun d h1 h2 => hz6 d (by omega) h2⟩
  · by_cases e : d = n
    · subst e
      rw [qp, p0]
      exact ⟨by omega, z4, fun s hs => absurd hs (Nat.not_lt_zero s)⟩
    · exact ok.2 d (by omega)
  · rw [r1, r2, r4, l1, l2]
    by_cases e : d = n
    · subst e
      rw [pk_us, pk_us, pk_us, pk_us, pk_us]
      exact ⟨rfl, rfl, z4.symm, fun s hs => by rw [qp, p0] at hs; exact absurd hs (Nat.not_lt_zero s)⟩
    · rw [pk_un e, pk_un e, pk_un e, pk_un e, pk_un e]
      exact hb d (by omega)
  · simp only [qp, qa]
    by_cases e : d = n
    · subst e
      refine ⟨Or.inl z6, fun h => absurd z6 h, fun ⟨x, s, hx, hs, e⟩ => ?_⟩
      by_cases ex : x = d
      · subst ex; rw [p0] at hs; exact absurd hs (Nat.not_lt_zero s)
      · have := ok.lt (c := x) (by omega) hs; omega
    · obtain ⟨a1, a2⟩ := h6a d (by omega)
      refine ⟨a1, fun h => ?_, fun ⟨x, s, hx, hs, ee⟩ => a2.mpr ⟨x, s, ?_, hs, ee⟩⟩
      · obtain ⟨x, s, hx, hs, ee⟩ := a2.mp h
        exact ⟨x, s, by omega, hs, ee⟩
      · by_cases ex : x = n
        · subst ex; rw [p0] at hs; exact absurd hs (Nat.not_lt_zero s)
        · omega
  · rw [l3]
    simp only [qp, qa]
    by_cases e : d = n
    · subst e
      rw [pk_us, if_pos rfl, p0]
      exact ⟨rfl, by omega, by omega, fun s hs => absurd hs (Nat.not_lt_zero s), Or.inl rfl⟩
    · rw [pk_un e, if_neg e]
      obtain ⟨g1, g2, g3, g4, g5⟩ := hG d (by omega)
      have old : ∀ s, s < pcn M d → (if par M d s = n then 1 else G (par M d s)) = G (par M d s) := fun s hs => by
        have := ok.lt (c := d) (by omega) hs
        rw [if_neg (by omega)]
      refine ⟨g1, g2, g3, fun s hs => by rw [old s hs]; exact g4 s hs, ?_⟩
      rcases g5 with g5 | ⟨s, s1, s2⟩
      · exact Or.inl g5
      · exact Or.inr ⟨s, s1, by rw [old s s1]; exact s2⟩
theorem Inv.lko {M N : Mt} {n k f j : Nat} {o : Option Nat} (hI : Inv M (n + 1) k N f) (ho : oB o n) (h4 : pcn M n ≤ j) (hj : j < 4) (h6 : M 6 n = 0) : Inv (lkO M n o) (n + 1) k (jnF N n o) f ∧ pcn (lkO M n o) n ≤ j + 1 ∧ lkO M n o 6 n = 0 := by
  cases o with
  | none => exact ⟨hI, by show pcn M n ≤ j + 1; omega, h6⟩
  | some p =>
    have hp := ho p rfl
    refine ⟨hI.lk (by omega) hp (by omega) h6, ?_, ?_⟩
    · have e : pcn (lkO M n (some p)) n = pcn M n + 1 := jnps (p := p) hI.ok (by omega) (by omega)
      omega
    · show upd (M 6) p (nI 1) n = 0
      rw [pk_un (by omega)]
      exact h6
theorem Inv.ad {M N : Mt} {n k f : Nat} {ti ky : Int32} {a b d : Option Nat} (hI : Inv M n k N f) (hn : n < 2000) (ha : oB a n) (hb : oB b n) (hd : oB d n) : Inv (adF M n ti ky a b d) (n + 1) k (raF N n ti ky a b d) f := by
  have z := hI.2.2.1 n (Nat.le_refl _) hn
  have p0 : pcn (ad0 M n ti ky) n = 0 := by show ix (M 4 n) = 0; rw [z.1]; rfl
  obtain ⟨i1, q1, s1⟩ := (hI.new (ti := ti) (ky := ky) hn).lko ha (by rw [p0]; exact Nat.le_refl 0) (by omega) z.2
  obtain ⟨i2, q2, s2⟩ := i1.lko hb q1 (by omega) s1
  obtain ⟨i3, q3, s3⟩ := i2.lko hd q2 (by omega) s2
  exact i3
/-! Among the parents of any. -/
theorem ipF_iff {M : Mt} {q c : Nat} : ∀ {d t : Nat}, ipF M q c d t = true ↔ ∃ s, t ≤ s ∧ s < t + d ∧ par M c s = q := by
  intro d
  induction d with
  | zero => intro t; exact ⟨fun h => absurd h (by rw [ipF]; decide), fun ⟨s, h1, h2, _⟩ => by omega⟩
  | succ d ih =>
    intro t
    rw [ipF]
    by_cases h : par M c t = q
    · rw [if_pos h]
      exact ⟨fun _ => ⟨t, Nat.le_refl _, by omega, h⟩, fun _ => rfl⟩
    · rw [if_neg h, ih]
      constructor
      · rintro ⟨s, h1, h2, h3⟩
        exact ⟨s, by omega, by omega, h3⟩
      · rintro ⟨s, h1, h2, h3⟩
        by_cases hs : s = t
        · subst hs; exact absurd h3 h
        · exact ⟨s, by omega, by omega, h3⟩
theorem ipF_par {M : Mt} {q c : Nat} : ipF M q c (pcn M c) 0 = true ↔ ∃ s, s < pcn M c ∧ par M c s = q := by
  rw [ipF_iff]
  exact ⟨fun ⟨s, _, h2, h3⟩ => ⟨s, by omega, h3⟩, fun ⟨s, h2, h3⟩ => ⟨s, by omega, by omega, h3⟩⟩
theorem iaF_iff {M : Mt} {q : Nat} : ∀ {d c : Nat}, iaF M q d c = true ↔ ∃ x, c ≤ x ∧ x < c + d ∧ ∃ s, s < pcn M x ∧ par M x s = q := by
  intro d
  induction d with
  | zero => intro t; exact ⟨fun h => absurd h (by rw [iaF]; decide), fun ⟨s, h1, h2, _⟩ => by omega⟩
  | succ d ih =>
    intro c
    rw [iaF]
    by_cases h : ipF M q c (pcn M c) 0 = true
    · rw [if_pos h]
      exact ⟨fun _ => ⟨c, Nat.le_refl _, by omega, ipF_par.mp h⟩, fun _ => rfl⟩
    · rw [if_neg h, ih]
      constructor
      · rintro ⟨x, h1, h2, h3⟩
        exact ⟨x, by omega, by omega, h3⟩
      · rintro ⟨x, h1, h2, h3⟩
        by_cases hs : x = c
        · subst hs; exact absurd (ipF_par.mpr h3) h
        · exact ⟨x, by omega, by omega, h3⟩
theorem Inv.ia {M N N' : Mt} {n k f q : Nat} (hI : Inv M n k N f) (hq : q < n) (e4 : N' 4 = N 4) (e5 : N' 5 = N 5) : iaF N' q n 0 = true ↔ ¬ M 6 q = 0 := by
  have hp : ∀ c, c < n → pcn N' c = pcn M c := fun c hc => by rw [pcn, e4]; exact hI.pc hc
  have ha : ∀ c s, c < n → s < pcn M c → par N' c s = par M c s := fun c s hc hs => by rw [par, e5]; exact hI.pa hc hs
  rw [iaF_iff, (hI.2.2.2.1 q hq).2]
  constructor
  · rintro ⟨x, -, h2, s, h3, h4⟩
    rw [hp x (by omega)] at h3
    rw [ha x s (by omega) h3] at h4
    exact ⟨x, s, by omega, h3, h4⟩
  · rintro ⟨x, s, h2, h3, h4⟩
    exact ⟨x, Nat.zero_le _, by omega, s, by rw [hp x h2]; exact h3, by rw [ha x s h2 h3]; exact h4⟩
