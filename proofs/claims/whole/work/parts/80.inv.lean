/-! What holds between the two after every call. -/
/-- the generation of every commit -/
def genN (M : Mt) (n : Nat) (G : Nat → Nat) : Prop := ∀ c, c < n → M 3 c = nI (G c) ∧ 1 ≤ G c ∧ G c ≤ c + 1 ∧ (∀ s, s < pcn M c → G (par M c s) < G c) ∧ (G c = 1 ∨ ∃ s, s < pcn M c ∧ G c = G (par M c s) + 1)
/-- the tips of a commit as one number -/
def tipV (N : Mt) (c : Nat) : Nat := (if N 6 c = 0 then 0 else 1) + (if N 6 (2000 + c) = 0 then 0 else 2)
def Inv (M : Mt) (n _k : Nat) (N : Mt) (_f : Nat) : Prop := okN M n ∧
  (∀ c, c < n → N 1 c = M 1 c ∧ N 2 c = M 2 c ∧ N 4 c = M 4 c ∧ ∀ s, s < pcn M c → N 5 (c * 4 + s) = M 5 (c * 4 + s)) ∧
  (∀ c, n ≤ c → c < 2000 → M 4 c = nI 0 ∧ M 6 c = nI 0) ∧
  (∀ c, c < n → (M 6 c = nI 0 ∨ M 6 c = nI 1) ∧ (¬ M 6 c = 0 ↔ ∃ d s, d < n ∧ s < pcn M d ∧ par M d s = c)) ∧
  (∃ G, genN M n G) ∧ (∀ c, c < 2000 → M 7 c = nI (tipV N c)) ∧ b01 N 6 ∧ (∀ c, n ≤ c → c < 2000 → N 6 c = nI 0 ∧ N 6 (2000 + c) = nI 0)
theorem Inv.same {M M' N N' : Mt} {n k k' f f' : Nat} (h : Inv M n k N f) (h1 : M' 1 = M 1) (h2 : M' 2 = M 2) (h3 : M' 3 = M 3) (h4 : M' 4 = M 4) (h5 : M' 5 = M 5) (h6 : M' 6 = M 6) (h7 : M' 7 = M 7) (g1 : N' 1 = N 1) (g2 : N' 2 = N 2) (g4 : N' 4 = N 4) (g5 : N' 5 = N 5) (g6 : N' 6 = N 6) : Inv M' n k' N' f' := by
  obtain ⟨a, b, c, d, ⟨G, e⟩, i, j, l⟩ := h
  have ep : ∀ c, pcn M' c = pcn M c := fun c => by rw [pcn, pcn, h4]
  have ea : ∀ c s, par M' c s = par M c s := fun c s => by rw [par, par, h5]
  refine ⟨a.rows h4 h5, fun x hx => ?_, fun x y z => ?_, fun x hx => ?_, ⟨G, fun x hx => ?_⟩, fun x hx => ?_, ?_, ?_⟩
  · rw [g1, g2, g4, g5, h1, h2, h4, h5, ep]
    exact b x hx
  · rw [h4, h6]; exact c x y z
  · rw [h6]
    simp only [ep, ea]
    exact d x hx
  · rw [h3, ep]
    simp only [ea]
    exact e x hx
  · rw [h7, tipV, g6]; exact i x hx
  · intro x; rw [g6]; exact j x
  · rw [g6]; exact l
theorem Inv.ok {M N : Mt} {n k f : Nat} (h : Inv M n k N f) : okN M n := h.1
theorem Inv.pc {M N : Mt} {n k f c : Nat} (h : Inv M n k N f) (hc : c < n) : pcn N c = pcn M c := by rw [pcn, pcn, (h.2.1 c hc).2.2.1]
theorem Inv.pa {M N : Mt} {n k f c s : Nat} (h : Inv M n k N f) (hc : c < n) (hs : s < pcn M c) : par N c s = par M c s := by rw [par, par, (h.2.1 c hc).2.2.2 s hs]
theorem Inv.ok2 {M N : Mt} {n k f : Nat} (h : Inv M n k N f) : okN N n := by
  refine ⟨h.1.1, fun c hc => ?_⟩
  rw [h.pc hc, (h.2.1 c hc).2.2.1]
  refine ⟨h.1.le hc, h.1.pc hc, fun s hs => ?_⟩
  rw [h.pa hc hs, (h.2.1 c hc).2.2.2 s hs]
  exact ⟨h.1.lt hc hs, h.1.pr hc hs⟩
theorem Inv.z6 {M N : Mt} {n k f : Nat} (h : Inv M n k N f) : b01 N 6 := h.2.2.2.2.2.2.1
/-- an argument: none, a commit, or bad -/
theorem argO (x : Int32) {n : Nat} (hn : n ≤ 2000) : (∃ o, oB o n ∧ x = oI o) ∨ (¬ x = -1 ∧ (x < 0 ∨ nI n ≤ x)) := by
  by_cases h : x = -1
  · exact Or.inl ⟨none, oB_none, h⟩
  · rcases pk_ix x (n := n) (by omega) with h1 | h1 | ⟨j, hj, e⟩
    · exact Or.inr ⟨h, Or.inl h1⟩
    · exact Or.inr ⟨h, Or.inr h1⟩
    · exact Or.inl ⟨some j, fun u hu => by cases hu; exact hj, e⟩
theorem argC (x : Int32) {n : Nat} (hn : n ≤ 2000) : (∃ q, q < n ∧ x = nI q) ∨ (x < 0 ∨ nI n ≤ x) := by
  rcases pk_ix x (n := n) (by omega) with h1 | h1 | ⟨j, hj, e⟩
  · exact Or.inr (Or.inl h1)
  · exact Or.inr (Or.inr h1)
  · exact Or.inl ⟨j, hj, e⟩
/-- a place: how many, one that is there, or bad -/
theorem argP (x : Int32) {n : Nat} (hn : n ≤ 2000) : x = -1 ∨ (∃ q, q < n ∧ x = nI q) ∨ (¬ x = -1 ∧ (x < 0 ∨ nI n ≤ x)) := by
  by_cases h : x = -1
  · exact Or.inl h
  · rcases argC x hn with h1 | h1
    · exact Or.inr (Or.inl h1)
    · exact Or.inr (Or.inr ⟨h, h1⟩)
theorem Inv.start : Inv M0 0 0 M0 0 := by
  refine ⟨⟨by decide, fun c hc => absurd hc (Nat.not_lt_zero c)⟩, fun c hc => absurd hc (Nat.not_lt_zero c), fun c _ _ => ⟨rfl, rfl⟩, fun c hc => absurd hc (Nat.not_lt_zero c), ⟨fun _ => 0, fun c hc => absurd hc (Nat.not_lt_zero c)⟩, fun c _ => ?_, fun j => Or.inl rfl, fun c _ _ => ⟨rfl, rfl⟩⟩
  show nI 0 = nI (tipV M0 c)
  rfl
