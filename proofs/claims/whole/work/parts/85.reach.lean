/-! What is reachable, on both sides. -/
/-- a mark that is handed down from some: what can be reached from them -/
theorem reach_of {M : Mt} {n : Nat} (ok : okN M n) {A0 A : Nat → Prop} (hs : ∀ c, c < n → (A c ↔ A0 c ∨ ∃ y, y < n ∧ A y ∧ ∃ s, s < pcn M y ∧ par M y s = c)) {c : Nat} (hc : c < n) : A c ↔ ∃ x, x < n ∧ A0 x ∧ RC M x c := by
  constructor
  · have key : ∀ d c, c < n → n - c ≤ d → A c → ∃ x, x < n ∧ A0 x ∧ RC M x c := by
      intro d
      induction d with
      | zero => intro c h1 h2; omega
      | succ d ih =>
        intro c h1 h2 h3
        rcases (hs c h1).mp h3 with h4 | ⟨y, h4, h5, s, h6, h7⟩
        · exact ⟨c, h1, h4, 0, rfl⟩
        · have := ok.lt h4 h6
          obtain ⟨x, x1, x2, t, x3⟩ := ih y h4 (by omega) h5
          exact ⟨x, x1, x2, t + 1, by rw [← h7]; exact pth_snoc h6 x3⟩
    exact key n c hc (by omega)
  · rintro ⟨x, h1, h2, t, h3⟩
    have key : ∀ t x, x < n → A x → pth M t x c → A c := by
      intro t
      induction t with
      | zero =>
        intro x _ h h'
        obtain rfl : x = c := h'
        exact h
      | succ t ih =>
        intro x hx h h'
        obtain ⟨s, h4, h5⟩ := h'
        have := ok.lt hx h4
        exact ih (par M x s) (by omega) ((hs _ (by omega)).mpr (Or.inr ⟨x, hx, h, s, h4, rfl⟩)) h5
    exact key t x h1 ((hs x h1).mpr (Or.inl h2)) h3
section RF
variable {r : Nat}
theorem stF_val {q j : Nat} : ∀ {d t : Nat} {M : Mt}, (M r j = nI 0 ∨ M r j = nI 1) → stF r q d t M r j = nI 0 ∨ stF r q d t M r j = nI 1 := by
  intro d
  induction d with
  | zero => intro t M h; exact h
  | succ d ih =>
    intro t M h
    rw [stF]
    refine ih ?_
    rw [va_up_self]
    by_cases e : j = par M q t
    · subst e; rw [pk_us]; exact Or.inr rfl
    · rw [pk_un e]; exact h
theorem stF_bit (h5 : 5 ≠ r) {q : Nat} : ∀ {d t : Nat} {M : Mt} (c : Nat), ¬ stF r q d t M r c = 0 ↔ ¬ M r c = 0 ∨ ∃ s, t ≤ s ∧ s < t + d ∧ par M q s = c := by
  intro d
  induction d with
  | zero =>
    intro t M c
    constructor
    · exact Or.inl
    · rintro (h1 | ⟨s, h1, h2, -⟩)
      · exact h1
      · omega
  | succ d ih =>
    intro t M c
    rw [stF, ih]
    have e : ¬ va_up M r (upd (M r) (par M q t) (nI 1)) r c = 0 ↔ ¬ M r c = 0 ∨ par M q t = c := by
      rw [va_up_self]
      by_cases hc : c = par M q t
      · subst hc
        rw [pk_us]
        exact ⟨fun _ => Or.inr rfl, fun _ => by decide⟩
      · rw [pk_un hc]
        exact ⟨Or.inl, fun h => h.elim id (fun e => absurd e.symm hc)⟩
    have ep : ∀ s, par (va_up M r (upd (M r) (par M q t) (nI 1))) q s = par M q s := fun s => par_up h5
    rw [e]
    simp only [ep]
    constructor
    · rintro ((a | b) | ⟨s, h1, h2, h3⟩)
      · exact Or.inl a
      · exact Or.inr ⟨t, Nat.le_refl _, by omega, b⟩
      · exact Or.inr ⟨s, by omega, by omega, h3⟩
    · rintro (a | ⟨s, h1, h2, h3⟩)
      · exact Or.inl (Or.inl a)
      · by_cases hs : s = t
        · subst hs
          exact Or.inl (Or.inr h3)
        · exact Or.inr ⟨s, by omega, by omega, h3⟩
theorem crF_val {j : Nat} : ∀ {q : Nat} {M : Mt}, (M r j = nI 0 ∨ M r j = nI 1) → crF r q M r j = nI 0 ∨ crF r q M r j = nI 1 := by
  intro q
  induction q with
  | zero => intro M h; exact h
  | succ q ih =>
    intro M h
    rw [crF]
    refine ih ?_
    by_cases e : M r q = 0
    · rw [if_pos e]; exact h
    · rw [if_neg e]; exact stF_val h
theorem crF_bit (h4 : 4 ≠ r) (h5 : 5 ≠ r) {n : Nat} : ∀ {q : Nat} {M : Mt}, q ≤ n → okN M n → (∀ c, q ≤ c → crF r q M r c = M r c) ∧ ∀ c, ¬ crF r q M r c = 0 ↔ ¬ M r c = 0 ∨ ∃ y, y < q ∧ ¬ crF r q M r y = 0 ∧ ∃ s, s < pcn M y ∧ par M y s = c := by
  intro q
  induction q with
  | zero =>
    intro M _ ok
    refine ⟨fun c _ => rfl, fun c => ⟨Or.inl, ?_⟩⟩
    rintro (a | ⟨y, h, -⟩)
    · exact a
    · exact absurd h (Nat.not_lt_zero y)
  | succ q ih =>
    intro M hq ok
    by_cases e : M r q = 0
    · have ec : crF r (q + 1) M = crF r q M := by rw [crF, if_pos e]
      obtain ⟨i1, i2⟩ := ih (M := M) (by omega) ok
      rw [ec]
      refine ⟨fun c hc => i1 c (by omega), fun c => ?_⟩
      rw [i2 c]
      constructor
      · rintro (a | ⟨y, h1, h2, h3⟩)
        · exact Or.inl a
        · exact Or.inr ⟨y, by omega, h2, h3⟩
      · rintro (a | ⟨y, h1, h2, h3⟩)
        · exact Or.inl a
        · by_cases hy : y = q
          · subst hy
            rw [i1 y (Nat.le_refl _)] at h2
            exact absurd e h2
          · exact Or.inr ⟨y, by omega, h2, h3⟩
    · have ec : crF r (q + 1) M = crF r q (stF r q (pcn M q) 0 M) := by rw [crF, if_neg e]
      have ok1 : okN (stF r q (pcn M q) 0 M) n := ok.rows (stF_row h4) (stF_row h5)
      have e4 : ∀ y, pcn (stF r q (pcn M q) 0 M) y = pcn M y := fun y => by show ix (stF r q (pcn M q) 0 M 4 y) = ix (M 4 y); rw [stF_row h4]
      have e5 : ∀ y s, par (stF r q (pcn M q) 0 M) y s = par M y s := fun y s => by show ix (stF r q (pcn M q) 0 M 5 (y * 4 + s)) = ix (M 5 (y * 4 + s)); rw [stF_row h5]
      obtain ⟨i1, i2⟩ := ih (M := stF r q (pcn M q) 0 M) (by omega) ok1
      have hself : ∀ c, q ≤ c → stF r q (pcn M q) 0 M r c = M r c := by
        intro c hc
        have key : ∀ d t (M : Mt), (∀ s, t ≤ s → s < t + d → par M q s ≠ c) → stF r q d t M r c = M r c := by
          intro d
          induction d with
          | zero => intro t M _; rfl
          | succ d ih =>
            intro t M hs
            rw [stF, ih (t + 1) _ (fun s h1 h2 => by rw [par_up h5]; exact hs s (by omega) (by omega)), va_up_self, pk_un (fun e => hs t (Nat.le_refl _) (by omega) e.symm)]
        exact key _ _ _ (fun s _ hs => by have := ok.lt (c := q) (by omega) (t := s) (by omega); omega)
      rw [ec]
      refine ⟨fun c hc => by rw [i1 c (by omega), hself c (by omega)], fun c => ?_⟩
      have eq : crF r q (stF r q (pcn M q) 0 M) r q = M r q := by rw [i1 q (Nat.le_refl _), hself q (Nat.le_refl _)]
      rw [i2 c, stF_bit h5]
      simp only [e4, e5]
      constructor
      · rintro ((a | ⟨s, h1, h2, h3⟩) | ⟨y, h1, h2, h3⟩)
        · exact Or.inl a
        · exact Or.inr ⟨q, by omega, by rw [eq]; exact e, s, by omega, h3⟩
        · exact Or.inr ⟨y, by omega, h2, h3⟩
      · rintro (a | ⟨y, h1, h2, h3⟩)
        · exact Or.inl (Or.inl a)
        · by_cases hy : y = q
          · subst hy
            obtain ⟨s, s1, s2⟩ := h3
            exact Or.inl (Or.inr ⟨s, Nat.zero_le _, by omega, s2⟩)
          · exact Or.inr ⟨y, by omega, h2, h3⟩
theorem crF_reach (h4 : 4 ≠ r) (h5 : 5 ≠ r) {n : Nat} {M : Mt} (ok : okN M n) {c : Nat} (hc : c < n) : ¬ crF r n M r c = 0 ↔ ∃ x, x < n ∧ ¬ M r x = 0 ∧ RC M x c := reach_of ok (A0 := fun x => ¬ M r x = 0) (A := fun c => ¬ crF r n M r c = 0) (fun c _ => (crF_bit h4 h5 (Nat.le_refl n) ok).2 c) hc
theorem fmF_keep {q j : Nat} : ∀ {d i : Nat} {M : Mt}, j < i → fmF r q d i M r j = M r j := by
  intro d
  induction d with
  | zero => intro i M _; rfl
  | succ d ih => intro i M h; rw [fmF, ih (by omega), va_up_self, pk_un (by omega)]
theorem fmF_at {q j : Nat} : ∀ {d i : Nat} {M : Mt}, i ≤ j → j < i + d → fmF r q d i M r j = if j = q then nI 1 else nI 0 := by
  intro d
  induction d with
  | zero => intro i M h1 h2; omega
  | succ d ih =>
    intro i M h1 h2
    rw [fmF]
    by_cases e : j = i
    · subst e; rw [fmF_keep (by omega), va_up_self, pk_us]
    · exact ih (by omega) (by omega)
theorem heF_keep {q j : Nat} : ∀ {d i : Nat} {M : Mt}, j < i → heF r q d i M r j = M r j := by
  intro d
  induction d with
  | zero => intro i M _; rfl
  | succ d ih => intro i M h; rw [heF, ih (by omega), va_up_self, pk_un (by omega)]
theorem heF_at (h6 : 6 ≠ r) {q j : Nat} : ∀ {d i : Nat} {M : Mt}, i ≤ j → j < i + d → heF r q d i M r j = M 6 (q * 2000 + j) := by
  intro d
  induction d with
  | zero => intro i M h1 h2; omega
  | succ d ih =>
    intro i M h1 h2
    rw [heF]
    by_cases e : j = i
    · subst e; rw [heF_keep (by omega), va_up_self, pk_us]
    · rw [ih (by omega) (by omega), va_up_ne _ _ h6]
theorem RC_rows {M M' : Mt} (e4 : M' 4 = M 4) (e5 : M' 5 = M 5) {x c : Nat} : RC M' x c ↔ RC M x c := by
  have key : ∀ t x, pth M' t x c ↔ pth M t x c := by
    intro t
    induction t with
    | zero => intro x; exact Iff.rfl
    | succ t ih =>
      intro x
      show (∃ s, s < pcn M' x ∧ pth M' t (par M' x s) c) ↔ ∃ s, s < pcn M x ∧ pth M t (par M x s) c
      have a : pcn M' x = pcn M x := by rw [pcn, pcn, e4]
      have b : ∀ s, par M' x s = par M x s := fun s => by rw [par, par, e5]
      simp only [a, b, ih]
  exact ⟨fun ⟨t, h⟩ => ⟨t, (key t x).mp h⟩, fun ⟨t, h⟩ => ⟨t, (key t x).mpr h⟩⟩
theorem frF_iff (h4 : 4 ≠ r) (h5 : 5 ≠ r) {N : Mt} {n q c : Nat} (ok : okN N n) (hq : q < n) (hc : c < n) : ¬ frF N n r q r c = 0 ↔ RC N q c := by
  have hn := ok.1
  rw [frF, crF_reach h4 h5 (ok.rows (fmF_row h4) (fmF_row h5)) hc]
  constructor
  · rintro ⟨x, h1, h2, h3⟩
    rw [fmF_at (Nat.zero_le _) (by omega)] at h2
    by_cases e : x = q
    · subst e; exact (RC_rows (fmF_row h4) (fmF_row h5)).mp h3
    · rw [if_neg e] at h2; exact absurd rfl h2
  · intro h
    exact ⟨q, hq, by rw [fmF_at (Nat.zero_le _) (by omega), if_pos rfl]; decide, (RC_rows (fmF_row h4) (fmF_row h5)).mpr h⟩
theorem frF_val {N : Mt} {n q c : Nat} (hc : c < 2000) : frF N n r q r c = nI 0 ∨ frF N n r q r c = nI 1 := by
  rw [frF]
  refine crF_val ?_
  rw [fmF_at (Nat.zero_le _) (by omega)]
  by_cases e : c = q
  · rw [if_pos e]; exact Or.inr rfl
  · rw [if_neg e]; exact Or.inl rfl
theorem hdR_iff (h4 : 4 ≠ r) (h5 : 5 ≠ r) (h6 : 6 ≠ r) {N : Mt} {n h c : Nat} (ok : okN N n) (hc : c < n) : ¬ hdR N n r h r c = 0 ↔ ∃ x, x < n ∧ ¬ N 6 (h * 2000 + x) = 0 ∧ RC N x c := by
  have hn := ok.1
  rw [hdR, crF_reach h4 h5 (ok.rows (heF_row h4) (heF_row h5)) hc]
  constructor
  · rintro ⟨x, h1, h2, h3⟩
    rw [heF_at h6 (Nat.zero_le _) (by omega)] at h2
    exact ⟨x, h1, h2, (RC_rows (heF_row h4) (heF_row h5)).mp h3⟩
  · rintro ⟨x, h1, h2, h3⟩
    exact ⟨x, h1, by rw [heF_at h6 (Nat.zero_le _) (by omega)]; exact h2, (RC_rows (heF_row h4) (heF_row h5)).mpr h3⟩
end RF
/-! The marks of the other side. -/
theorem or_ne (x y : Int32) : ¬ (x ||| y) = 0 ↔ ¬ x = 0 ∨ ¬ y = 0 := by
  rw [← Decidable.not_and_iff_not_or_not]
  refine not_congr ⟨fun h => ?_, fun ⟨a, b⟩ => by subst a; subst b; rfl⟩
  have h2 : x.toBitVec ||| y.toBitVec = 0#32 := congrArg Int32.toBitVec h
  have h3 := BitVec.or_eq_zero_iff.mp h2
  exact ⟨Int32.toBitVec_inj.mp h3.1, Int32.toBitVec_inj.mp h3.2⟩
theorem and_or (x y m : Int32) : (x ||| y) &&& m = (x &&& m) ||| (y &&& m) := by
  apply Int32.toBitVec_inj.mp
  simp only [Int32.toBitVec_and, Int32.toBitVec_or]
  ext i hi
  simp only [BitVec.getElem_and, BitVec.getElem_or]
  cases x.toBitVec[i] <;> cases y.toBitVec[i] <;> cases m.toBitVec[i] <;> rfl
theorem orm_ne (m x y : Int32) : ¬ (x ||| y) &&& m = 0 ↔ ¬ x &&& m = 0 ∨ ¬ y &&& m = 0 := by rw [and_or, or_ne]
theorem hd_ne (M : Mt) (c : Nat) : ¬ hdF M c = 0 ↔ ¬ M 8 c = 0 := by
  rw [hdF]
  by_cases h : cmF M c = true
  · rw [if_pos h, or_ne]
    have h2 : M 8 c &&& nI 3 = nI 3 := of_decide_eq_true h
    exact ⟨fun _ e => absurd h2 (by rw [e]; decide), fun _ => Or.inr (by decide)⟩
  · rw [if_neg h]
theorem hd_m {m : Int32} (hm : nI 4 &&& m = 0) (M : Mt) (c : Nat) : ¬ hdF M c &&& m = 0 ↔ ¬ M 8 c &&& m = 0 := by
  rw [hdF]
  by_cases h : cmF M c = true
  · rw [if_pos h, orm_ne]
    exact ⟨fun a => a.elim id (fun b => absurd hm b), Or.inl⟩
  · rw [if_neg h]
theorem clF_keep {j : Nat} : ∀ {d i : Nat} {M : Mt}, j < i → clF d i M 8 j = M 8 j := by
  intro d
  induction d with
  | zero => intro i M _; rfl
  | succ d ih => intro i M h; rw [clF, ih (by omega), va_up_self, pk_un (by omega)]
theorem clF_at {j : Nat} : ∀ {d i : Nat} {M : Mt}, i ≤ j → j < i + d → clF d i M 8 j = nI 0 := by
  intro d
  induction d with
  | zero => intro i M h1 h2; omega
  | succ d ih =>
    intro i M h1 h2
    rw [clF]
    by_cases e : j = i
    · subst e; rw [clF_keep (by omega), va_up_self, pk_us]
    · exact ih (by omega) (by omega)
theorem mhF_keep {j : Nat} : ∀ {d i : Nat} {M : Mt}, j < i → mhF d i M 8 j = M 8 j := by
  intro d
  induction d with
  | zero => intro i M _; rfl
  | succ d ih => intro i M h; rw [mhF, ih (by omega), va_up_self, pk_un (by omega)]
theorem mhF_at {j : Nat} : ∀ {d i : Nat} {M : Mt}, i ≤ j → j < i + d → mhF d i M 8 j = M 7 j := by
  intro d
  induction d with
  | zero => intro i M h1 h2; omega
  | succ d ih =>
    intro i M h1 h2
    rw [mhF]
    by_cases e : j = i
    · subst e; rw [mhF_keep (by omega), va_up_self, pk_us]
    · rw [ih (by omega) (by omega)]; rfl



theorem mrF_row {M : Mt} {n c a : Nat} (h : a ≠ 8) : mrF M n c a = M a := by rw [mrF, spF_row h, va_up_ne _ _ h, clF_row h]
theorem hlF_row {M : Mt} {n a : Nat} (h : a ≠ 8) : hlF M n a = M a := by rw [hlF, spF_row h, mhF_row h]
theorem mrF_iff {M : Mt} {n q c : Nat} (ok : okN M n) (hq : q < n) (hc : c < n) : ¬ mrF M n q 8 c = 0 ↔ RC M q c := by
  have e4 : va_up (clF n 0 M) 8 (upd (clF n 0 M 8) q (nI 1)) 4 = M 4 := by rw [va_up_ne _ _ (by decide), clF_row (by decide)]
  have e5 : va_up (clF n 0 M) 8 (upd (clF n 0 M 8) q (nI 1)) 5 = M 5 := by rw [va_up_ne _ _ (by decide), clF_row (by decide)]
  rw [mrF, spF_reach (B := fun x => ¬ x = 0) or_ne hd_ne (ok.rows e4 e5) hc]
  constructor
  · rintro ⟨x, h1, h2, h3⟩
    rw [va_up_self] at h2
    by_cases e : x = q
    · subst e; exact (RC_rows e4 e5).mp h3
    · rw [pk_un e, clF_at (Nat.zero_le _) (by omega)] at h2; exact absurd rfl h2
  · intro h
    exact ⟨q, hq, by rw [va_up_self, pk_us]; decide, (RC_rows e4 e5).mpr h⟩
theorem hlF_iff {m : Int32} (hm : nI 4 &&& m = 0) {M : Mt} {n c : Nat} (ok : okN M n) (hc : c < n) : ¬ hlF M n 8 c &&& m = 0 ↔ ∃ x, x < n ∧ ¬ M 7 x &&& m = 0 ∧ RC M x c := by
  rw [hlF, spF_reach (B := fun x => ¬ x &&& m = 0) (orm_ne m) (hd_m hm) (ok.rows (mhF_row (by decide)) (mhF_row (by decide))) hc]
  constructor
  · rintro ⟨x, h1, h2, h3⟩
    rw [mhF_at (Nat.zero_le _) (by omega)] at h2
    exact ⟨x, h1, h2, (RC_rows (mhF_row (by decide)) (mhF_row (by decide))).mp h3⟩
  · rintro ⟨x, h1, h2, h3⟩
    exact ⟨x, h1, by rw [mhF_at (Nat.zero_le _) (by omega)]; exact h2, (RC_rows (mhF_row (by decide)) (mhF_row (by decide))).mpr h3⟩
theorem Inv.rc {M N : Mt} {n k f x c : Nat} (hI : Inv M n k N f) (hx : x < n) : RC N x c ↔ RC M x c := by
  have key : ∀ t x, x < n → (pth N t x c ↔ pth M t x c) := by
    intro t
    induction t with
    | zero => intro x _; exact Iff.rfl
    | succ t ih =>
      intro x hx
      show (∃ s, s < pcn N x ∧ pth N t (par N x s) c) ↔ ∃ s, s < pcn M x ∧ pth M t (par M x s) c
      rw [hI.pc hx]
      constructor
      · rintro ⟨s, h1, h2⟩
        have := hI.ok.lt hx h1
        rw [hI.pa hx h1] at h2
        exact ⟨s, h1, (ih _ (by omega)).mp h2⟩
      · rintro ⟨s, h1, h2⟩
        have := hI.ok.lt hx h1
        exact ⟨s, h1, by rw [hI.pa hx h1]; exact (ih _ (by omega)).mpr h2⟩
  exact ⟨fun ⟨t, h⟩ => ⟨t, (key t x hx).mp h⟩, fun ⟨t, h⟩ => ⟨t, (key t x hx).mpr h⟩⟩
