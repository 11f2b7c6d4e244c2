/-! The least by an order, and the one after, and so on. -/
theorem lC.irr {rk ky : Nat → Int32} {c : Nat} : ¬ lC rk ky c c := by
  rintro (h | ⟨-, h | ⟨-, h⟩⟩)
  · exact i32_lt_irr h
  · exact i32_lt_irr h
  · omega
theorem lC.trans {rk ky : Nat → Int32} {a b c : Nat} (h1 : lC rk ky a b) (h2 : lC rk ky b c) : lC rk ky a c := by
  rcases h1 with h1 | ⟨e1, h1⟩
  · rcases h2 with h2 | ⟨e2, -⟩
    · exact Or.inl (i32_lt_trans h1 h2)
    · exact Or.inl (e2 ▸ h1)
  · rcases h2 with h2 | ⟨e2, h2⟩
    · exact Or.inl (e1 ▸ h2)
    · refine Or.inr ⟨e1.trans e2, ?_⟩
      rcases h1 with h1 | ⟨f1, h1⟩
      · rcases h2 with h2 | ⟨f2, -⟩
        · exact Or.inl (i32_lt_trans h1 h2)
        · exact Or.inl (f2 ▸ h1)
      · rcases h2 with h2 | ⟨f2, h2⟩
        · exact Or.inl (f1 ▸ h2)
        · exact Or.inr ⟨f1.trans f2, by omega⟩
theorem lC.tot {rk ky : Nat → Int32} {a b : Nat} (h : ¬ lC rk ky a b) (h2 : ¬ lC rk ky b a) : a = b := by
  by_cases e : rk a = rk b
  · by_cases f : ky a = ky b
    · rcases Nat.lt_trichotomy a b with g | g | g
      · exact absurd (Or.inr ⟨e, Or.inr ⟨f, g⟩⟩) h
      · exact g
      · exact absurd (Or.inr ⟨e.symm, Or.inr ⟨f.symm, g⟩⟩) h2
    · by_cases f2 : ky a < ky b
      · exact absurd (Or.inr ⟨e, Or.inl f2⟩) h
      · exact absurd (Or.inr ⟨e.symm, Or.inl (i32_tri f f2)⟩) h2
  · by_cases e2 : rk a < rk b
    · exact absurd (Or.inl e2) h
    · exact absurd (Or.inl (i32_tri e e2)) h2
/-- the best so far of a scan up to i -/
def isL (rk ky : Nat → Int32) (S : Nat → Prop) (i : Nat) (o : Option Nat) : Prop := (o = none → ∀ x, x < i → ¬ S x) ∧ ∀ y, o = some y → y < i ∧ S y ∧ ∀ x, x < i → S x → ¬ lC rk ky x y
theorem isL.zero {rk ky : Nat → Int32} {S : Nat → Prop} : isL rk ky S 0 none := ⟨fun _ x h => absurd h (Nat.not_lt_zero x), fun y h => by cases h⟩
theorem isL.step {rk ky : Nat → Int32} {S : Nat → Prop} {i : Nat} {o o' : Option Nat} (h : isL rk ky S i o) (h0 : ¬ S i → o' = o) (h1 : S i → o = none → o' = some i) (h2 : ∀ y, y < i → S i → o = some y → (lC rk ky i y ∧ o' = some i) ∨ (¬ lC rk ky i y ∧ o' = some y)) : isL rk ky S (i + 1) o' := by
  obtain ⟨a, b⟩ := h
  by_cases hS : S i
  · cases o with
    | none =>
      rw [h1 hS rfl]
      refine ⟨(fun e => by cases e), fun y e => ?_⟩
      obtain rfl := Option.some.inj e
      refine ⟨by omega, hS, fun x hx hx2 hl => ?_⟩
      by_cases ex : x = i
      · subst ex; exact lC.irr hl
      · exact a rfl x (by omega) hx2
    | some y =>
      obtain ⟨b1, b2, b3⟩ := b y rfl
      rcases h2 y b1 hS rfl with ⟨g, e⟩ | ⟨g, e⟩
      · rw [e]
        refine ⟨(fun e => by cases e), fun y' e => ?_⟩
        obtain rfl := Option.some.inj e
        refine ⟨by omega, hS, fun x hx hx2 hl => ?_⟩
        by_cases ex : x = i
        · subst ex; exact lC.irr hl
        · exact b3 x (by omega) hx2 (hl.trans g)
      · rw [e]
        refine ⟨(fun e => by cases e), fun y' e => ?_⟩
        obtain rfl := Option.some.inj e
        refine ⟨by omega, b2, fun x hx hx2 hl => ?_⟩
        by_cases ex : x = i
        · subst ex; exact g hl
        · exact b3 x (by omega) hx2 hl
  · rw [h0 hS]
    refine ⟨fun e x hx hx2 => ?_, fun y e => ?_⟩
    · by_cases ex : x = i
      · subst ex; exact hS hx2
      · exact a e x (by omega) hx2
    · obtain ⟨b1, b2, b3⟩ := b y e
      refine ⟨by omega, b2, fun x hx hx2 hl => ?_⟩
      by_cases ex : x = i
      · subst ex; exact hS hx2
      · exact b3 x (by omega) hx2 hl
/-- the least of S -/
def lst (rk ky : Nat → Int32) (S : Nat → Prop) (c : Nat) : Prop := S c ∧ ∀ d, S d → ¬ lC rk ky d c
theorem lst.uniq {rk ky : Nat → Int32} {S : Nat → Prop} {a b : Nat} (h1 : lst rk ky S a) (h2 : lst rk ky S b) : a = b := lC.tot (h2.2 a h1.1) (h1.2 b h2.1)
def rm (r : Nat → Bool) (c : Nat) : Nat → Bool := fun x => r x && decide (x ≠ c)
theorem rm_iff {r : Nat → Bool} {c x : Nat} : rm r c x = true ↔ r x = true ∧ x ≠ c := by rw [rm, Bool.and_eq_true, decide_eq_true_iff]
/-- who is told at place j, where F says who may be told when r are left -/
def nth (F : (Nat → Bool) → Nat → Prop) (rk ky : Nat → Int32) : Nat → (Nat → Bool) → Nat → Prop
  | 0, r, c => lst rk ky (F r) c
  | j + 1, r, c => ∃ m, lst rk ky (F r) m ∧ nth F rk ky j (rm r m) c
theorem nth.uniq {F : (Nat → Bool) → Nat → Prop} {rk ky : Nat → Int32} : ∀ {j : Nat} {r : Nat → Bool} {a b : Nat}, nth F rk ky j r a → nth F rk ky j r b → a = b := by
  intro j
  induction j with
  | zero => intro r a b h1 h2; exact lst.uniq h1 h2
  | succ j ih =>
    intro r a b h1 h2
    obtain ⟨m, m1, m2⟩ := h1
    obtain ⟨m', n1, n2⟩ := h2
    obtain rfl := lst.uniq m1 n1
    exact ih m2 n2
/-- all that are left may be told -/
def Fa (r : Nat → Bool) (x : Nat) : Prop := r x = true
/-- those that are left and under none that is left -/
def Ff (M : Mt) (r : Nat → Bool) (x : Nat) : Prop := r x = true ∧ ∀ y, r y = true → ∀ s, s < pcn M y → par M y s ≠ x
/-! The complement turns the order round. -/
theorem cpl_i (x : Int32) : (x ^^^ (-1)).toInt = -1 - x.toInt := by
  have e : x ^^^ (-1) = ~~~x := by
    apply Int32.toBitVec_inj.mp
    simp only [Int32.toBitVec_xor, Int32.toBitVec_not]
    have : (-1 : Int32).toBitVec = BitVec.allOnes 32 := by decide
    rw [this, BitVec.xor_allOnes]
  rw [e]
  have h1 := x.le_toInt
  have h2 := x.toInt_lt
  rw [Int32.not_eq_neg_sub, Int32.toInt_sub, Int32.toInt_neg]
  have : (1 : Int32).toInt = 1 := by decide
  rw [this]
  simp only [Int.bmod]
  omega
theorem cpl_lt {x y : Int32} : x ^^^ (-1) < y ^^^ (-1) ↔ y < x := by
  rw [Int32.lt_iff_toInt_lt, Int32.lt_iff_toInt_lt, cpl_i, cpl_i]
  omega
theorem cpl_eq {x y : Int32} : x ^^^ (-1) = y ^^^ (-1) ↔ x = y := by
  rw [← Int32.toInt_inj, ← Int32.toInt_inj, cpl_i, cpl_i]
  omega
def rkT (M : Mt) (c : Nat) : Int32 := M 1 c ^^^ (-1)
theorem bf_iff {M : Mt} {x y : Nat} : bfF M x y = true ↔ lC (rkT M) (M 2) x y := by
  rw [bfF, lC, rkT, rkT, cpl_lt, cpl_eq]
  by_cases h : M 1 x = M 1 y
  · rw [if_pos h]
    by_cases h2 : M 2 x = M 2 y
    · rw [if_pos h2, decide_eq_true_iff]
      exact ⟨fun g => Or.inr ⟨h, Or.inr ⟨h2, g⟩⟩, fun g => g.elim (fun a => absurd (h ▸ a) i32_lt_irr) (fun ⟨_, b⟩ => b.elim (fun a => absurd (h2 ▸ a) i32_lt_irr) (fun a => a.2))⟩
    · rw [if_neg h2, decide_eq_true_iff]
      exact ⟨fun g => Or.inr ⟨h, Or.inl g⟩, fun g => g.elim (fun a => absurd (h ▸ a) i32_lt_irr) (fun ⟨_, b⟩ => b.elim id (fun a => absurd a.1 h2))⟩
  · rw [if_neg h, decide_eq_true_iff]
    exact ⟨Or.inl, fun g => g.elim id (fun ⟨a, _⟩ => absurd a h)⟩
/-! The scans of the one side. -/
theorem mnF_L {M : Mt} : ∀ {d i : Nat} {o : Option Nat}, isL (rkT M) (M 2) (fun x => ¬ M 9 x = 0) i o → isL (rkT M) (M 2) (fun x => ¬ M 9 x = 0) (i + d) (mnF M d i o) := by
  intro d
  induction d with
  | zero => intro i o h; exact h
  | succ d ih =>
    intro i o h
    rw [mnF, show i + (d + 1) = (i + 1) + d by omega]
    refine ih (h.step (fun h0 => ?_) (fun h1 e => ?_) (fun y hy h1 e => ?_))
    · rw [scF.eq_def, if_pos (Decidable.not_not.mp h0)]
    · rw [scF.eq_def, if_neg h1, e]
    · rw [scF.eq_def, if_neg h1, e]
      by_cases hb : bfF M i y = true
      · exact Or.inl ⟨bf_iff.mp hb, if_pos hb⟩
      · exact Or.inr ⟨fun g => hb (bf_iff.mpr g), if_neg hb⟩
theorem lmF_L {M : Mt} {z : Nat} : ∀ {d i : Nat} {o : Option Nat}, isL (rkT M) (M 2) (fun x => ¬ M 9 x = 0 ∧ fxF M x z 0 = true) i o → isL (rkT M) (M 2) (fun x => ¬ M 9 x = 0 ∧ fxF M x z 0 = true) (i + d) (lmF M z d i o) := by
  intro d
  induction d with
  | zero => intro i o h; exact h
  | succ d ih =>
    intro i o h
    rw [lmF, show i + (d + 1) = (i + 1) + d by omega]
    refine ih (h.step (fun h0 => ?_) (fun h1 e => ?_) (fun y hy h1 e => ?_))
    · rw [lsF.eq_def]
      by_cases h9 : M 9 i = 0
      · rw [if_pos h9]
      · have hf : ¬ fxF M i z 0 = true := fun g => h0 ⟨h9, g⟩
        rw [if_neg h9]
        cases o with
        | none => exact if_neg hf
        | some y =>
          show (if bfF M i y = true then (if fxF M i z 0 = true then some i else some y) else some y) = some y
          rw [if_neg hf]
          exact ite_self _
    · rw [lsF.eq_def, if_neg h1.1, e]
      exact if_pos h1.2
    · rw [lsF.eq_def, if_neg h1.1, e]
      by_cases hb : bfF M i y = true
      · refine Or.inl ⟨bf_iff.mp hb, ?_⟩
        show (if bfF M i y = true then (if fxF M i z 0 = true then some i else some y) else some y) = some i
        rw [if_pos hb, if_pos h1.2]
      · exact Or.inr ⟨fun g => hb (bf_iff.mpr g), if_neg hb⟩
theorem smF_L {M : Mt} : ∀ {d i : Nat} {o : Option Nat}, isL (M 3) (M 2) (fun x => ¬ M 9 x = 0) i o → isL (M 3) (M 2) (fun x => ¬ M 9 x = 0) (i + d) (smF M d i o) := by
  intro d
  induction d with
  | zero => intro i o h; exact h
  | succ d ih =>
    intro i o h
    rw [smF, show i + (d + 1) = (i + 1) + d by omega]
    refine ih (h.step (fun h0 => ?_) (fun h1 e => ?_) (fun y hy h1 e => ?_))
    · rw [ssF.eq_def, if_pos (Decidable.not_not.mp h0)]
    · rw [ssF.eq_def, if_neg h1, e]
    · rw [ssF.eq_def, if_neg h1, e]
      by_cases hb : M 3 i < M 3 y ∨ (M 3 i = M 3 y ∧ M 2 i < M 2 y)
      · refine Or.inl ⟨?_, if_pos hb⟩
        exact hb.elim Or.inl (fun ⟨a, b⟩ => Or.inr ⟨a, Or.inl b⟩)
      · refine Or.inr ⟨fun g => hb ?_, if_neg hb⟩
        rcases g with g | ⟨g, g2 | ⟨g2, g3⟩⟩
        · exact Or.inl g
        · exact Or.inr ⟨g, g2⟩
        · omega
/-- who is left on that side -/
def rN (z : Nat) (M : Mt) : Nat → Bool := fun x => decide (x < z ∧ ¬ M 9 x = 0)
theorem rN_iff {z : Nat} {M : Mt} {x : Nat} : rN z M x = true ↔ x < z ∧ ¬ M 9 x = 0 := decide_eq_true_iff
theorem bool_ext {a b : Bool} (h : a = true ↔ b = true) : a = b := by cases a <;> cases b <;> simp_all
theorem rN_del {z y : Nat} {M : Mt} : rN z (va_up M 9 (upd (M 9) y (nI 0))) = rm (rN z M) y := by
  funext x
  refine bool_ext ?_
  rw [rN_iff, rm_iff, rN_iff, va_up_self]
  by_cases e : x = y
  · subst e; rw [pk_us]; exact ⟨fun h => absurd rfl h.2, fun h => absurd rfl h.2⟩
  · rw [pk_un e]; exact ⟨fun h => ⟨h, e⟩, fun h => h.1⟩
theorem mn_lst {M : Mt} {z y : Nat} (h : mnF M z 0 none = some y) : lst (rkT M) (M 2) (Fa (rN z M)) y := by
  have hL := mnF_L (M := M) (d := z) (i := 0) isL.zero
  rw [h, Nat.zero_add] at hL
  obtain ⟨a, b, c⟩ := hL.2 y rfl
  exact ⟨rN_iff.mpr ⟨a, b⟩, fun d hd => c d (rN_iff.mp hd).1 (rN_iff.mp hd).2⟩
theorem mn_none {M : Mt} {z : Nat} (h : mnF M z 0 none = none) : ∀ x, ¬ rN z M x = true := by
  have hL := mnF_L (M := M) (d := z) (i := 0) isL.zero
  rw [h, Nat.zero_add] at hL
  exact fun x hx => hL.1 rfl x (rN_iff.mp hx).1 (rN_iff.mp hx).2
theorem sm_lst {M : Mt} {z y : Nat} (h : smF M z 0 none = some y) : lst (M 3) (M 2) (Fa (rN z M)) y := by
  have hL := smF_L (M := M) (d := z) (i := 0) isL.zero
  rw [h, Nat.zero_add] at hL
  obtain ⟨a, b, c⟩ := hL.2 y rfl
  exact ⟨rN_iff.mpr ⟨a, b⟩, fun d hd => c d (rN_iff.mp hd).1 (rN_iff.mp hd).2⟩
theorem fxF_iff {M : Mt} {x : Nat} : ∀ {d c : Nat}, fxF M x d c = true ↔ ∀ y, c ≤ y → y < c + d → ¬ M 9 y = 0 → y ≠ x → ¬ ipF M x y (pcn M y) 0 = true := by
  intro d
  induction d with
  | zero => intro c; exact ⟨fun _ y h1 h2 => by omega, fun _ => rfl⟩
  | succ d ih =>
    intro c
    rw [fxF]
    by_cases h : ¬ M 9 c = 0 ∧ c ≠ x ∧ ipF M x c (pcn M c) 0 = true
    · rw [if_pos h]
      exact ⟨fun e => absurd e (by decide), fun g => absurd h.2.2 (g c (Nat.le_refl _) (by omega) h.1 h.2.1)⟩
    · rw [if_neg h, ih]
      constructor
      · intro g y h1 h2 h3 h4 h5
        by_cases e : y = c
        · subst e; exact h ⟨h3, h4, h5⟩
        · exact g y (by omega) (by omega) h3 h4 h5
      · intro g y h1 h2
        exact g y (by omega) (by omega)
theorem fx_Ff {M : Mt} {z x : Nat} (ok : okN M z) : (x < z ∧ ¬ M 9 x = 0 ∧ fxF M x z 0 = true) ↔ Ff M (rN z M) x := by
  rw [fxF_iff, Ff, rN_iff]
  constructor
  · rintro ⟨h1, h2, h3⟩
    refine ⟨⟨h1, h2⟩, fun y hy s hs e => ?_⟩
    obtain ⟨y1, y2⟩ := rN_iff.mp hy
    have := ok.lt y1 hs
    exact h3 y (Nat.zero_le _) (by omega) y2 (by omega) (ipF_par.mpr ⟨s, hs, e⟩)
  · rintro ⟨⟨h1, h2⟩, h3⟩
    refine ⟨h1, h2, fun y _ hy h9 _ hp => ?_⟩
    obtain ⟨s, hs, e⟩ := ipF_par.mp hp
    exact h3 y (rN_iff.mpr ⟨by omega, h9⟩) s hs e
theorem lm_lst {M : Mt} {z y : Nat} (ok : okN M z) (h : lmF M z z 0 none = some y) : lst (rkT M) (M 2) (Ff M (rN z M)) y := by
  have hL := lmF_L (M := M) (z := z) (d := z) (i := 0) isL.zero
  rw [h, Nat.zero_add] at hL
  obtain ⟨a, b, c⟩ := hL.2 y rfl
  exact ⟨(fx_Ff ok).mp ⟨a, b⟩, fun d hd => c d ((fx_Ff ok).mpr hd).1 ((fx_Ff ok).mpr hd).2⟩
theorem max_of (r : Nat → Bool) : ∀ z, (∃ x, x < z ∧ r x = true) → ∃ x, x < z ∧ r x = true ∧ ∀ y, y < z → r y = true → y ≤ x := by
  intro z
  induction z with
  | zero => rintro ⟨x, h, -⟩; exact absurd h (Nat.not_lt_zero x)
  | succ z ih =>
    rintro ⟨x, h1, h2⟩
    by_cases hz : r z = true
    · exact ⟨z, by omega, hz, fun y hy _ => by omega⟩
    · have : x ≠ z := fun e => hz (e ▸ h2)
      obtain ⟨w, w1, w2, w3⟩ := ih ⟨x, by omega, h2⟩
      refine ⟨w, by omega, w2, fun y hy hy2 => ?_⟩
      have : y ≠ z := fun e => hz (e ▸ hy2)
      exact w3 y (by omega) hy2
/-- the greatest that is left is under none -/
theorem Ff_some {M : Mt} {n : Nat} {r : Nat → Bool} (ok : okN M n) (hr : ∀ x, r x = true → x < n) (h : ∃ x, r x = true) : ∃ x, Ff M r x := by
  obtain ⟨x, hx⟩ := h
  obtain ⟨w, w1, w2, w3⟩ := max_of r n ⟨x, hr x hx, hx⟩
  refine ⟨w, w2, fun y hy s hs e => ?_⟩
  have := ok.lt (hr y hy) hs
  have := w3 y (hr y hy) hy
  omega
theorem lm_none {M : Mt} {z : Nat} (ok : okN M z) (h : lmF M z z 0 none = none) : ∀ x, ¬ rN z M x = true := by
  have hL := lmF_L (M := M) (z := z) (d := z) (i := 0) isL.zero
  rw [h, Nat.zero_add] at hL
  intro x hx
  obtain ⟨w, hw⟩ := Ff_some ok (fun x hx => (rN_iff.mp hx).1) ⟨x, hx⟩
  have := (fx_Ff ok).mpr hw
  exact hL.1 rfl w this.1 this.2
