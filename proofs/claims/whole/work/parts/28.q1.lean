theorem swF_row {M : Mt} {x y r : Nat} (h1 : r ≠ 11) (h2 : r ≠ 12) (h3 : r ≠ 13) : swF M x y r = M r := by
  rw [swF, va_up_ne _ _ h3, va_up_ne _ _ h2, va_up_ne _ _ h1]
theorem riF_row {r : Nat} (h1 : r ≠ 11) (h2 : r ≠ 12) (h3 : r ≠ 13) : ∀ {f p : Nat} {M : Mt}, riF f M p r = M r := by
  intro f
  induction f with
  | zero => intro p M; rfl
  | succ f ih =>
    intro p M
    rw [riF]
    split
    · rfl
    · split
      · rfl
      · rw [ih, swF_row h1 h2 h3]
theorem siF_row {r : Nat} (h1 : r ≠ 11) (h2 : r ≠ 12) (h3 : r ≠ 13) : ∀ {f k p : Nat} {M : Mt}, siF f M k p r = M r := by
  intro f
  induction f with
  | zero => intro k p M; rfl
  | succ f ih =>
    intro k p M
    rw [siF]
    split
    · split
      · rfl
      · rw [ih, swF_row h1 h2 h3]
    · rfl
theorem ptF_row {M : Mt} {k r : Nat} {a b d : Int32} (h1 : r ≠ 11) (h2 : r ≠ 12) (h3 : r ≠ 13) : ptF M k a b d r = M r := by
  rw [ptF, va_up_ne _ _ h3, va_up_ne _ _ h2, va_up_ne _ _ h1]
theorem puF_row {M : Mt} {k r : Nat} {a b d : Int32} (h1 : r ≠ 11) (h2 : r ≠ 12) (h3 : r ≠ 13) : puF M k a b d r = M r := by
  rw [puF]
  split
  · rfl
  · rw [riF_row h1 h2 h3, ptF_row h1 h2 h3]
theorem tkF_row {M : Mt} {k r : Nat} (h1 : r ≠ 11) (h2 : r ≠ 12) (h3 : r ≠ 13) : tkF M k r = M r := by
  rw [tkF]
  split
  · rfl
  · rw [siF_row h1 h2 h3, swF_row h1 h2 h3]
theorem qoF_row {M : Mt} {k c r : Nat} (h1 : r ≠ 11) (h2 : r ≠ 12) (h3 : r ≠ 13) : qoF M k c r = M r := puF_row h1 h2 h3
theorem puK_le {k : Nat} (h : k ≤ 2000) : puK k ≤ 2000 := by
  rw [puK]
  split <;> omega
/-- what the queue holds are commits -/
def qN (M : Mt) (n k : Nat) : Prop := ∀ i, i < k → ∃ c, c < n ∧ M 13 i = nI c
theorem sw1_at {f : Nat → Int32} {x y i : Nat} : ∃ j, (j = i ∨ j = x ∨ j = y) ∧ sw1 f x y i = f j := by
  by_cases hy : i = y
  · exact ⟨x, Or.inr (Or.inl rfl), by rw [sw1, hy, pk_us]⟩
  · by_cases hx : i = x
    · exact ⟨y, Or.inr (Or.inr rfl), by rw [sw1, pk_un hy, hx, pk_us]⟩
    · exact ⟨i, Or.inl rfl, by rw [sw1, pk_un hy, pk_un hx]⟩
theorem swF_13 {M : Mt} {x y : Nat} : swF M x y 13 = sw1 (M 13) x y := rfl
theorem qN.sw {M : Mt} {n k x y : Nat} (h : qN M n k) (hx : x < k) (hy : y < k) : qN (swF M x y) n k := by
  intro i hi
  obtain ⟨j, hj, e⟩ := sw1_at (f := M 13) (x := x) (y := y) (i := i)
  rw [swF_13, e]
  exact h j (by rcases hj with h | h | h <;> omega)
theorem qN.ri {n k : Nat} : ∀ {f p : Nat} {M : Mt}, qN M n k → p < k → qN (riF f M p) n k := by
  intro f
  induction f with
  | zero => intro p M h _; exact h
  | succ f ih =>
    intro p M h hp
    rw [riF]
    split
    · exact h
    · split
      · exact h
      · exact ih (h.sw (by omega) hp) (by omega)
theorem chF_lt {M : Mt} {k p : Nat} (h : 2 * p + 1 < k) : chF M k p < k := by
  rw [chF]
  split <;> omega
theorem qN.si {n k : Nat} : ∀ {f p : Nat} {M : Mt}, qN M n k → qN (siF f M k p) n k := by
  intro f
  induction f with
  | zero => intro p M h; exact h
  | succ f ih =>
    intro p M h
    rw [siF]
    split
    · rename_i h1
      split
      · exact h
      · exact ih (h.sw (by omega) (chF_lt h1))
    · exact h
theorem qN.pt {M : Mt} {n k c : Nat} {a b : Int32} (h : qN M n k) (hc : c < n) : qN (ptF M k a b (nI c)) n (k + 1) := by
  intro i hi
  have e : ptF M k a b (nI c) 13 = upd (M 13) k (nI c) := rfl
  rw [e]
  by_cases hk : i = k
  · exact ⟨c, hc, by rw [hk, pk_us]⟩
  · rw [pk_un hk]
    exact h i (by omega)
theorem qN.pu {M : Mt} {n k c : Nat} {a b : Int32} (h : qN M n k) (hc : c < n) : qN (puF M k a b (nI c)) n (puK k) := by
  rw [puF, puK]
  split
  · exact h
  · exact (h.pt hc).ri (by omega)
theorem qN.tk {M : Mt} {n k : Nat} (h : qN M n k) : qN (tkF M k) n (k - 1) := by
  rw [tkF]
  split
  · exact fun i hi => h i (by omega)
  · exact qN.si (fun i hi => h.sw (x := 0) (y := k - 1) (by omega) (by omega) i (by omega))
theorem qN.up9 {M : Mt} {n k : Nat} {g : Nat → Int32} (h : qN M n k) : qN (va_up M 9 g) n k := h
theorem tlF_inv {n c : Nat} (hc : c < n) : ∀ {d t : Nat} {u : Mt × Nat}, okN u.1 n → t + d = pcn u.1 c → u.2 ≤ 2000 → qN u.1 n u.2 → okN (tlF c d t u).1 n ∧ (tlF c d t u).2 ≤ 2000 ∧ qN (tlF c d t u).1 n (tlF c d t u).2 := by
  intro d
  induction d with
  | zero => intro t u ok _ hk hq; exact ⟨ok, hk, hq⟩
  | succ d ih =>
    intro t u ok ht hk hq
    have hp : par u.1 c t < n := Nat.lt_trans (ok.lt hc (by omega)) hc
    rw [tlF]
    dsimp only
    split
    · exact ih (okN.rows (M := u.1) ok (qoF_row (by decide) (by decide) (by decide)) (qoF_row (by decide) (by decide) (by decide))) (by show t + 1 + d = ix (qoF _ u.2 (par u.1 c t) 4 c); rw [qoF_row (by decide) (by decide) (by decide)]; show t + 1 + d = pcn u.1 c; omega) (puK_le hk) (hq.up9.pu hp)
    · exact ih ok (by show t + 1 + d = pcn u.1 c; omega) hk hq
theorem tk0 {M : Mt} {n k : Nat} (hn : n ≤ 2000) (hq : qN M n k) (hk : 0 < k) : tkR M k = nI (ix (tkR M k)) ∧ ix (tkR M k) < n := by
  obtain ⟨c, hc, e⟩ := hq 0 hk
  rw [tkR, if_neg (by omega), e]
  rw [show ix (nI c) = c from nI_clamp (by omega)]
  exact ⟨rfl, hc⟩
theorem tnF_inv {n : Nat} {u : Mt × Nat} (ok : okN u.1 n) (h0 : 0 < u.2) (hk : u.2 ≤ 2000) (hq : qN u.1 n u.2) : okN (tnF u).1 n ∧ (tnF u).2 ≤ 2000 ∧ qN (tnF u).1 n (tnF u).2 :=
  tlF_inv (tk0 ok.1 hq h0).2 (ok.rows (tkF_row (by decide) (by decide) (by decide)) (tkF_row (by decide) (by decide) (by decide))) (Nat.zero_add _) (Nat.le_trans (Nat.sub_le _ _) hk) hq.tk
theorem taF_inv {n : Nat} : ∀ {i : Nat} {u : Mt × Nat}, okN u.1 n → u.2 ≤ 2000 → qN u.1 n u.2 → okN (taF i u).1 n ∧ (taF i u).2 ≤ 2000 ∧ qN (taF i u).1 n (taF i u).2 := by
  intro i
  induction i with
  | zero => intro u ok hk hq; exact ⟨ok, hk, hq⟩
  | succ i ih =>
    intro u ok hk hq
    rw [taF]
    split
    · rename_i h0
      obtain ⟨a, b, d⟩ := tnF_inv ok h0 hk hq
      exact ih a b d
    · exact ⟨ok, hk, hq⟩
theorem u1F_row {r : Nat} (hr : r ≠ 9) : ∀ {d i : Nat} {M : Mt}, u1F d i M r = M r := by
  intro d
  induction d with
  | zero => intro i M; rfl
  | succ d ih => intro i M; rw [u1F, ih, va_up_ne _ _ hr]
theorem u2F_row {c r : Nat} (hr : r ≠ 9) : ∀ {d t : Nat} {M : Mt}, u2F c d t M r = M r := by
  intro d
  induction d with
  | zero => intro t M; rfl
  | succ d ih => intro t M; rw [u2F, ih, va_up_ne _ _ hr]
theorem u3F_row {r : Nat} (hr : r ≠ 9) : ∀ {d i : Nat} {M : Mt}, u3F d i M r = M r := by
  intro d
  induction d with
  | zero => intro i M; rfl
  | succ d ih => intro i M; rw [u3F, ih, u2F_row hr]
theorem cuF_row {M : Mt} {n r : Nat} (hr : r ≠ 9) : cuF M n r = M r := by rw [cuF, u3F_row hr, u1F_row hr]
