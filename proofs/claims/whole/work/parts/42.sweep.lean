/-! The sweep: what is reachable. -/
/-- a way of t links from x down to c -/
def pth (M : Mt) : Nat → Nat → Nat → Prop
  | 0, x, c => x = c
  | t + 1, x, c => ∃ s, s < pcn M x ∧ pth M t (par M x s) c
def RC (M : Mt) (x c : Nat) : Prop := ∃ t, pth M t x c
theorem pth_snoc {M : Mt} {c s : Nat} (hs : s < pcn M c) : ∀ {t x : Nat}, pth M t x c → pth M (t + 1) x (par M c s) := by
  intro t
  induction t with
  | zero =>
    intro x h
    obtain rfl : x = c := h
    exact ⟨s, hs, rfl⟩
  | succ t ih =>
    intro x h
    obtain ⟨a, ha, h2⟩ := h
    exact ⟨a, ha, ih h2⟩
theorem pth_le {M : Mt} {n : Nat} (ok : okN M n) : ∀ {t x c : Nat}, x < n → pth M t x c → c + t ≤ x := by
  intro t
  induction t with
  | zero =>
    intro x c _ h
    obtain rfl : x = c := h
    omega
  | succ t ih =>
    intro x c hx h
    obtain ⟨a, ha, h2⟩ := h
    have := ok.lt hx ha
    have := ih (by omega) h2
    omega
theorem inF_keep {q : Nat} {h : Int32} {c : Nat} : ∀ {d t : Nat} {M : Mt}, (∀ s, s < t + d → par M q s ≠ c) → inF q h d t M 8 c = M 8 c := by
  intro d
  induction d with
  | zero => intro t M _; rfl
  | succ d ih =>
    intro t M hs
    rw [inF, ih (M := va_up M 8 (upd (M 8) (par M q t) (M 8 (par M q t) ||| h))) (t := t + 1) (fun s h1 => hs s (by omega)), va_up_self, pk_un (fun e => hs t (by omega) e.symm)]
section SW
variable {B : Int32 → Prop}
theorem inF_bit (hor : ∀ x y : Int32, B (x ||| y) ↔ B x ∨ B y) {q : Nat} {h : Int32} : ∀ {d t : Nat} {M : Mt} (c : Nat), B (inF q h d t M 8 c) ↔ B (M 8 c) ∨ (B h ∧ ∃ s, t ≤ s ∧ s < t + d ∧ par M q s = c) := by
  intro d
  induction d with
  | zero =>
    intro t M c
    constructor
    · exact Or.inl
    · rintro (h1 | ⟨-, s, h1, h2, -⟩)
      · exact h1
      · omega
  | succ d ih =>
    intro t M c
    rw [inF, ih]
    have e : B (va_up M 8 (upd (M 8) (par M q t) (M 8 (par M q t) ||| h)) 8 c) ↔ B (M 8 c) ∨ (B h ∧ par M q t = c) := by
      rw [va_up_self]
      by_cases hc : c = par M q t
      · subst hc
        rw [pk_us, hor]
        constructor
        · rintro (a | a)
          · exact Or.inl a
          · exact Or.inr ⟨a, rfl⟩
        · rintro (a | ⟨a, -⟩)
          · exact Or.inl a
          · exact Or.inr a
      · rw [pk_un hc]
        constructor
        · exact Or.inl
        · rintro (a | ⟨-, a⟩)
          · exact a
          · exact absurd a.symm hc
    rw [e]
    constructor
    · rintro ((a | ⟨a, b⟩) | ⟨a, s, h1, h2, h3⟩)
      · exact Or.inl a
      · exact Or.inr ⟨a, t, Nat.le_refl _, by omega, b⟩
      · exact Or.inr ⟨a, s, by omega, by omega, h3⟩
    · rintro (a | ⟨a, s, h1, h2, h3⟩)
      · exact Or.inl (Or.inl a)
      · by_cases hs : s = t
        · subst hs
          exact Or.inl (Or.inr ⟨a, h3⟩)
        · exact Or.inr ⟨a, s, by omega, by omega, h3⟩
/-- one sweep: B of a commit is its own, or handed down by G of a child -/
theorem spF_bit (hor : ∀ x y : Int32, B (x ||| y) ↔ B x ∨ B y) {G : Int32 → Prop} (hhd : ∀ (M : Mt) (c : Nat), B (hdF M c) ↔ G (M 8 c)) {n : Nat} : ∀ {q : Nat} {M : Mt}, q ≤ n → okN M n → (∀ c, q ≤ c → spF q M 8 c = M 8 c) ∧ ∀ c, B (spF q M 8 c) ↔ B (M 8 c) ∨ ∃ y, y < q ∧ G (spF q M 8 y) ∧ ∃ s, s < pcn M y ∧ par M y s = c := by
  intro q
  induction q with
  | zero =>
    intro M _ ok
    refine ⟨fun c _ => rfl, fun c => ⟨Or.inl, ?_⟩⟩
    rintro (a | ⟨y, h, -⟩)
    · exact a
    · exact absurd h (Nat.not_lt_zero y)
  | succ q ih =>
    intro M hq ok
    have ok1 : okN (inF q (hdF M q) (pcn M q) 0 M) n := ok.rows (inF_row (by decide)) (inF_row (by decide))
    have e4 : ∀ y, pcn (inF q (hdF M q) (pcn M q) 0 M) y = pcn M y := fun y => by show ix (inF q (hdF M q) (pcn M q) 0 M 4 y) = ix (M 4 y); rw [inF_row (by decide)]
    have e5 : ∀ y s, par (inF q (hdF M q) (pcn M q) 0 M) y s = par M y s := fun y s => by show ix (inF q (hdF M q) (pcn M q) 0 M 5 (y * 4 + s)) = ix (M 5 (y * 4 + s)); rw [inF_row (by decide)]
    obtain ⟨i1, i2⟩ := ih (M := inF q (hdF M q) (pcn M q) 0 M) (by omega) ok1
    have hself : ∀ c, q ≤ c → inF q (hdF M q) (pcn M q) 0 M 8 c = M 8 c := by
      intro c hc
      exact inF_keep (fun s hs => by have := ok.lt (c := q) (by omega) (t := s) (by omega); omega)
    refine ⟨fun c hc => ?_, fun c => ?_⟩
    · rw [spF, i1 c (by omega), hself c (by omega)]
    · rw [spF]
      have eq : spF q (inF q (hdF M q) (pcn M q) 0 M) 8 q = M 8 q := by rw [i1 q (Nat.le_refl _), hself q (Nat.le_refl _)]
      rw [i2 c, inF_bit hor, hhd]
      constructor
      · rintro ((a | ⟨a, s, h1, h2, h3⟩) | ⟨y, h1, h2, s, h3, h4⟩)
        · exact Or.inl a
        · exact Or.inr ⟨q, by omega, by rw [eq]; exact a, s, by omega, h3⟩
        · exact Or.inr ⟨y, by omega, h2, s, by rw [e4] at h3; exact h3, by rw [e5] at h4; exact h4⟩
      · rintro (a | ⟨y, h1, h2, s, h3, h4⟩)
        · exact Or.inl (Or.inl a)
        · by_cases hy : y = q
          · subst hy
            rw [eq] at h2
            exact Or.inl (Or.inr ⟨h2, s, Nat.zero_le _, by omega, h4⟩)
          · exact Or.inr ⟨y, by omega, h2, s, by rw [e4]; exact h3, by rw [e5]; exact h4⟩
theorem spF_reach (hor : ∀ x y : Int32, B (x ||| y) ↔ B x ∨ B y) (hhd : ∀ (M : Mt) (c : Nat), B (hdF M c) ↔ B (M 8 c)) {n : Nat} {M : Mt} (ok : okN M n) {c : Nat} (hc : c < n) : B (spF n M 8 c) ↔ ∃ x, x < n ∧ B (M 8 x) ∧ RC M x c := by
  have hs := (spF_bit hor hhd (Nat.le_refl n) ok).2
  constructor
  · have key : ∀ d c, c < n → n - c ≤ d → B (spF n M 8 c) → ∃ x, x < n ∧ B (M 8 x) ∧ RC M x c := by
      intro d
      induction d with
      | zero => intro c h1 h2; omega
      | succ d ih =>
        intro c h1 h2 h3
        rcases (hs c).mp h3 with h4 | ⟨y, h4, h5, s, h6, h7⟩
        · exact ⟨c, h1, h4, 0, rfl⟩
        · have := ok.lt h4 h6
          obtain ⟨x, x1, x2, t, x3⟩ := ih y h4 (by omega) h5
          exact ⟨x, x1, x2, t + 1, by rw [← h7]; exact pth_snoc h6 x3⟩
    exact key n c hc (by omega)
  · rintro ⟨x, h1, h2, t, h3⟩
    have key : ∀ t x, x < n → B (spF n M 8 x) → pth M t x c → B (spF n M 8 c) := by
      intro t
      induction t with
      | zero =>
        intro x _ h h'
        obtain rfl : x = c := h'
        exact h
      | succ t ih =>
        intro x hx h h'
        obtain ⟨s, h4, h5⟩ := h'
        have := ok.lt hx h4
        exact ih (par M x s) (by omega) ((hs _).mpr (Or.inr ⟨x, hx, h, s, h4, rfl⟩)) h5
    exact key t x h1 ((hs x).mpr (Or.inl h2)) h3
end SW
