/-! In which order a history is told. -/
/-- the links from y to x; those of all y from i on that are left -/
def lk1 (M : Mt) (x y : Nat) : Nat := cnF (fun s => decide (par M y s = x)) (pcn M y) 0 0
def lkN (M : Mt) (r : Nat → Bool) (x : Nat) : Nat → Nat → Nat
  | 0, _ => 0
  | d + 1, i => (if r i = true then lk1 M x i else 0) + lkN M r x d (i + 1)
theorem cnF_none {b : Nat → Bool} : ∀ {d i : Nat}, (∀ j, i ≤ j → j < i + d → ¬ b j = true) → cnF b d i 0 = 0 := by
  intro d
  induction d with
  | zero => intro i _; rfl
  | succ d ih => intro i h; rw [cnF_s, if_neg (h i (Nat.le_refl _) (by omega)), ih (fun j h1 h2 => h j (by omega) (by omega))]
theorem lkN_le {M : Mt} {n : Nat} {r : Nat → Bool} {x : Nat} (ok : okN M n) : ∀ {d i : Nat}, i + d ≤ n → lkN M r x d i ≤ 4 * d := by
  intro d
  induction d with
  | zero => intro i _; exact Nat.le_refl _
  | succ d ih =>
    intro i h
    have h1 := ih (i := i + 1) (by omega)
    have h2 : lk1 M x i ≤ pcn M i := cnF_le
    have h3 := ok.le (c := i) (by omega)
    rw [lkN]
    by_cases e : r i = true
    · rw [if_pos e]; omega
    · rw [if_neg e]; omega
theorem lk1_zero {M : Mt} {x y : Nat} : lk1 M x y = 0 ↔ ∀ s, s < pcn M y → par M y s ≠ x := by
  constructor
  · intro h s hs e
    have := cnF_zero h s (Nat.zero_le _) (by omega)
    exact absurd e (of_decide_eq_false this)
  · intro h
    exact cnF_none (fun s _ hs => by rw [decide_eq_true_iff]; exact h s (by omega))
theorem lkN_zero {M : Mt} {r : Nat → Bool} {x : Nat} : ∀ {d i : Nat}, lkN M r x d i = 0 ↔ ∀ y, i ≤ y → y < i + d → r y = true → ∀ s, s < pcn M y → par M y s ≠ x := by
  intro d
  induction d with
  | zero => intro i; exact ⟨fun _ y h1 h2 => by omega, fun _ => rfl⟩
  | succ d ih =>
    intro i
    rw [lkN]
    constructor
    · intro h y h1 h2 h3
      by_cases e : y = i
      · subst e
        rw [if_pos h3] at h
        exact lk1_zero.mp (by omega)
      · exact (ih (i := i + 1)).mp (by omega) y (by omega) (by omega) h3
    · intro h
      have h2 : lkN M r x d (i + 1) = 0 := ih.mpr (fun y h1 h2 => h y (by omega) (by omega))
      by_cases e : r i = true
      · rw [if_pos e, lk1_zero.mpr (h i (Nat.le_refl _) (by omega) e), h2]
      · rw [if_neg e, h2]
theorem lkN_out {M : Mt} {r : Nat → Bool} {x c : Nat} : ∀ {d i : Nat}, c < i → lkN M (rm r c) x d i = lkN M r x d i := by
  intro d
  induction d with
  | zero => intro i _; rfl
  | succ d ih =>
    intro i h
    rw [lkN, lkN, ih (by omega)]
    have e : rm r c i = r i := bool_ext (by rw [rm_iff]; exact ⟨fun g => g.1, fun g => ⟨g, by omega⟩⟩)
    rw [e]
theorem lkN_rm {M : Mt} {r : Nat → Bool} {x c : Nat} (hc : r c = true) : ∀ {d i : Nat}, i ≤ c → c < i + d → lkN M r x d i = lkN M (rm r c) x d i + lk1 M x c := by
  intro d
  induction d with
  | zero => intro i h1 h2; omega
  | succ d ih =>
    intro i h1 h2
    rw [lkN, lkN]
    by_cases e : i = c
    · subst e
      rw [lkN_out (by omega), if_pos hc, if_neg (fun g => (rm_iff.mp g).2 rfl)]
      omega
    · have e2 : rm r c i = r i := bool_ext (by rw [rm_iff]; exact ⟨fun g => g.1, fun g => ⟨g, e⟩⟩)
      rw [e2, ih (by omega) (by omega)]
      omega
/-! The counts as they are set up. -/
theorem u1F_keep {j : Nat} : ∀ {d i : Nat} {M : Mt}, j < i → u1F d i M 9 j = M 9 j := by
  intro d
  induction d with
  | zero => intro i M _; rfl
  | succ d ih => intro i M h; rw [u1F, ih (by omega), va_up_self, pk_un (by omega)]
theorem u1F_at {j : Nat} : ∀ {d i : Nat} {M : Mt}, i ≤ j → j < i + d → u1F d i M 9 j = nI 0 := by
  intro d
  induction d with
  | zero => intro i M h1 h2; omega
  | succ d ih =>
    intro i M h1 h2
    rw [u1F]
    by_cases e : j = i
    · subst e; rw [u1F_keep (by omega), va_up_self, pk_us]
    · exact ih (by omega) (by omega)
theorem u2F_at {c x : Nat} : ∀ {d t : Nat} {M : Mt}, u2F c d t M 9 x = M 9 x + nI (cnF (fun s => decide (par M c s = x)) d t 0) := by
  intro d
  induction d with
  | zero => intro t M; show M 9 x = M 9 x + nI 0; rw [nI_0, Int32.add_zero]
  | succ d ih =>
    intro t M
    rw [u2F, ih, cnF_s]
    have ep : ∀ s, par (va_up M 9 (upd (M 9) (par M c t) (M 9 (par M c t) + nI 1))) c s = par M c s := fun s => par_up (by decide)
    simp only [ep]
    rw [va_up_self]
    by_cases e : par M c t = x
    · subst e
      rw [pk_us, if_pos (decide_eq_true rfl), ← nI_add, Int32.add_assoc]
    · rw [pk_un (fun g => e g.symm), if_neg (fun g => e (of_decide_eq_true g)), Nat.zero_add]
theorem u3F_at {r : Nat → Bool} {x : Nat} : ∀ {d i : Nat} {M : Mt}, (∀ y, i ≤ y → y < i + d → (r y = true ↔ ¬ M 8 y = 0)) → u3F d i M 9 x = M 9 x + nI (lkN M r x d i) := by
  intro d
  induction d with
  | zero => intro i M _; show M 9 x = M 9 x + nI 0; rw [nI_0, Int32.add_zero]
  | succ d ih =>
    intro i M h
    have e4 : ∀ (k : Nat), u2F i k 0 M 4 = M 4 := fun k => u2F_row (by decide)
    have e5 : ∀ (k : Nat), u2F i k 0 M 5 = M 5 := fun k => u2F_row (by decide)
    have eL : ∀ (k : Nat) d j, lkN (u2F i k 0 M) r x d j = lkN M r x d j := by
      intro k d
      induction d with
      | zero => intro j; rfl
      | succ d ih =>
        intro j
        rw [lkN, lkN, ih]
        have a : pcn (u2F i k 0 M) j = pcn M j := by rw [pcn, e4, pcn]
        have b : ∀ s, par (u2F i k 0 M) j s = par M j s := fun s => by rw [par, e5, par]
        rw [lk1, lk1, a]
        simp only [b]
    rw [u3F, ih (fun y h1 h2 => by rw [u2F_row (by decide)]; exact h y (by omega) (by omega)), eL, u2F_at, lkN]
    have hi := h i (Nat.le_refl _) (by omega)
    by_cases e : M 8 i = 0
    · rw [if_pos e, if_neg (fun g => hi.mp g e), Nat.zero_add]
      show M 9 x + nI 0 + _ = _
      rw [nI_0, Int32.add_zero]
    · rw [if_neg e, if_pos (hi.mpr e), Int32.add_assoc, nI_add]
      rfl
theorem cuF_at {M : Mt} {n x : Nat} {r : Nat → Bool} (h : ∀ y, y < n → (r y = true ↔ ¬ M 8 y = 0)) (hx : x < n) : cuF M n 9 x = nI (lkN M r x n 0) := by
  have e4 : u1F n 0 M 4 = M 4 := u1F_row (by decide)
  have e5 : u1F n 0 M 5 = M 5 := u1F_row (by decide)
  have eL : ∀ d j, lkN (u1F n 0 M) r x d j = lkN M r x d j := by
    intro d
    induction d with
    | zero => intro j; rfl
    | succ d ih =>
      intro j
      rw [lkN, lkN, ih]
      have a : pcn (u1F n 0 M) j = pcn M j := by rw [pcn, e4, pcn]
      have b : ∀ s, par (u1F n 0 M) j s = par M j s := fun s => by rw [par, e5, par]
      rw [lk1, lk1, a]
      simp only [b]
  rw [cuF, u3F_at (r := r) (fun y _ h2 => by rw [u1F_row (by decide)]; exact h y (by omega)), eL, u1F_at (Nat.zero_le _) (by omega), nI_0, Int32.zero_add]
/-! One is told. -/
/-- who is in the queue -/
def inQ (r : Nat → Bool) (M : Mt) : Nat → Bool := fun x => r x && decide (M 9 x = 0)
theorem inQ_iff {r : Nat → Bool} {M : Mt} {x : Nat} : inQ r M x = true ↔ r x = true ∧ M 9 x = 0 := by rw [inQ, Bool.and_eq_true, decide_eq_true_iff]
theorem qS.up9 {rk ky : Nat → Int32} {S : Nat → Prop} {M : Mt} {k : Nat} {g : Nat → Int32} (h : qS rk ky S M k) : qS rk ky S (va_up M 9 g) k := h
theorem b_false {b : Bool} (h : ¬ b = true) : b = false := by cases b <;> simp_all
theorem tl_ok {Mb : Mt} {n c : Nat} {r : Nat → Bool} {V : Nat → Nat} (ok : okN Mb n) (hc : c < n) (hr : ∀ x, r x = true → x < n) (hp : ∀ s, s < pcn Mb c → r (par Mb c s) = true) (hV : ∀ x, V x ≤ 8000) : ∀ {d t : Nat} {u : Mt × Nat}, t + d = pcn Mb c → u.1 1 = Mb 1 → u.1 2 = Mb 2 → u.1 5 = Mb 5 → (∀ x, x < n → u.1 9 x = nI (V x + cnF (fun s => decide (par Mb c s = x)) d t 0)) → qS (rkT Mb) (Mb 2) (fun x => inQ r u.1 x = true) u.1 u.2 → u.2 = cnF (inQ r u.1) n 0 0 →
    (∀ x, x < n → (tlF c d t u).1 9 x = nI (V x)) ∧ qS (rkT Mb) (Mb 2) (fun x => inQ r (tlF c d t u).1 x = true) (tlF c d t u).1 (tlF c d t u).2 ∧ (tlF c d t u).2 = cnF (inQ r (tlF c d t u).1) n 0 0 ∧ ∀ a, noQ a → a ≠ 9 → (tlF c d t u).1 a = u.1 a := by
  have hn := ok.1
  have h4 := ok.le hc
  intro d
  induction d with
  | zero =>
    intro t u _ _ _ _ h9 hq hk
    exact ⟨fun x hx => h9 x hx, hq, hk, fun a _ _ => rfl⟩
  | succ d ih =>
    intro t u ht h1 h2 h5 h9 hq hk
    have ep : par u.1 c t = par Mb c t := by rw [par, h5, par]
    have hpt := hp t (by omega)
    have hpn := hr _ hpt
    have hrest : cnF (fun s => decide (par Mb c s = par Mb c t)) d (t + 1) 0 ≤ d := cnF_le
    have v0 : u.1 9 (par Mb c t) = nI (V (par Mb c t) + cnF (fun s => decide (par Mb c s = par Mb c t)) d (t + 1) 0 + 1) := by
      rw [h9 _ hpn, cnF_s, if_pos (decide_eq_true rfl)]
      congr 1
      omega
    have hVp := hV (par Mb c t)
    have v1 : u.1 9 (par Mb c t) - nI 1 = nI (V (par Mb c t) + cnF (fun s => decide (par Mb c s = par Mb c t)) d (t + 1) 0) := by
      rw [v0, pk_sub (by omega)]
      congr 1
    have nz : ¬ u.1 9 (par Mb c t) = 0 := by rw [v0]; exact nI_ne0 (by omega) (by omega)
    have nq : ¬ inQ r u.1 (par Mb c t) = true := fun g => nz (inQ_iff.mp g).2
    rw [tlF]
    show _ ∧ _
    simp only [ep]
    have h9' : ∀ x, x < n → va_up u.1 9 (upd (u.1 9) (par Mb c t) (u.1 9 (par Mb c t) - nI 1)) 9 x = nI (V x + cnF (fun s => decide (par Mb c s = x)) d (t + 1) 0) := by
      intro x hx
      rw [va_up_self]
      by_cases e : x = par Mb c t
      · subst e; rw [pk_us, v1]
      · rw [pk_un e, h9 x hx, cnF_s, if_neg (fun g => e (of_decide_eq_true g).symm), Nat.zero_add]
    have same : ∀ x, x ≠ par Mb c t → inQ r (va_up u.1 9 (upd (u.1 9) (par Mb c t) (u.1 9 (par Mb c t) - nI 1))) x = inQ r u.1 x := fun x e => by
      rw [inQ, inQ, va_up_self, pk_un e]
    by_cases z : va_up u.1 9 (upd (u.1 9) (par Mb c t) (u.1 9 (par Mb c t) - nI 1)) 9 (par Mb c t) = 0
    · rw [if_pos z]
      have inq : inQ r (va_up u.1 9 (upd (u.1 9) (par Mb c t) (u.1 9 (par Mb c t) - nI 1))) (par Mb c t) = true := inQ_iff.mpr ⟨hpt, z⟩
      have hcn := cnF_del (b := inQ r (va_up u.1 9 (upd (u.1 9) (par Mb c t) (u.1 9 (par Mb c t) - nI 1)))) (b' := inQ r u.1) inq (b_false nq) (fun j hj => (same j hj).symm) (d := n) (i := 0) (Nat.zero_le _) (by omega)
      have hle : cnF (inQ r (va_up u.1 9 (upd (u.1 9) (par Mb c t) (u.1 9 (par Mb c t) - nI 1)))) n 0 0 ≤ n := cnF_le
      have q1 := (hq.up9 (g := upd (u.1 9) (par Mb c t) (u.1 9 (par Mb c t) - nI 1))).put (c := par Mb c t) (by omega) (by omega) nq
      have eqo : qoF (va_up u.1 9 (upd (u.1 9) (par Mb c t) (u.1 9 (par Mb c t) - nI 1))) u.2 (par Mb c t) = puF (va_up u.1 9 (upd (u.1 9) (par Mb c t) (u.1 9 (par Mb c t) - nI 1))) u.2 (rkT Mb (par Mb c t)) (Mb 2 (par Mb c t)) (nI (par Mb c t)) := by
        rw [rkT, ← h1, ← h2]; rfl
      rw [← eqo] at q1
      have e9 : ∀ k, inQ r (qoF (va_up u.1 9 (upd (u.1 9) (par Mb c t) (u.1 9 (par Mb c t) - nI 1))) k (par Mb c t)) = inQ r (va_up u.1 9 (upd (u.1 9) (par Mb c t) (u.1 9 (par Mb c t) - nI 1))) := fun k => by
        funext x; rw [inQ, inQ, qoF_row (by decide) (by decide) (by decide)]
      have pk : puK u.2 = u.2 + 1 := by rw [puK, if_neg (by omega)]
      obtain ⟨a1, a2, a3, a4⟩ := ih (t := t + 1) (u := (qoF (va_up u.1 9 (upd (u.1 9) (par Mb c t) (u.1 9 (par Mb c t) - nI 1))) u.2 (par Mb c t), puK u.2)) (by omega) ((qoF_row (by decide) (by decide) (by decide)).trans h1) ((qoF_row (by decide) (by decide) (by decide)).trans h2) ((qoF_row (by decide) (by decide) (by decide)).trans h5)
        (fun x hx => by
          show qoF _ _ _ 9 x = _
          rw [qoF_row (by decide) (by decide) (by decide)]; exact h9' x hx)
        (q1.set (fun x => by
          show _ ↔ inQ r (qoF _ u.2 _) x = true
          rw [e9]
          by_cases e : x = par Mb c t
          · subst e; exact ⟨fun _ => inq, fun _ => Or.inr rfl⟩
          · rw [same x e]; exact ⟨fun g => g.elim id (fun g => absurd g e), Or.inl⟩))
        (by show puK u.2 = cnF (inQ r (qoF _ u.2 _)) n 0 0
            rw [e9, pk]; omega)
      exact ⟨a1, a2, a3, fun a ha h => by
        rw [a4 a ha h]
        show qoF _ _ _ a = _
        rw [qoF_row ha.1 ha.2.1 ha.2.2, va_up_ne _ _ h]⟩
    · rw [if_neg z]
      have eqn : inQ r (va_up u.1 9 (upd (u.1 9) (par Mb c t) (u.1 9 (par Mb c t) - nI 1))) = inQ r u.1 := by
        funext x
        by_cases e : x = par Mb c t
        · subst e; rw [b_false nq]; exact b_false (fun g => z (inQ_iff.mp g).2)
        · exact same x e
      obtain ⟨a1, a2, a3, a4⟩ := ih (t := t + 1) (u := (va_up u.1 9 (upd (u.1 9) (par Mb c t) (u.1 9 (par Mb c t) - nI 1)), u.2)) (by omega) h1 h2 h5 h9' ((hq.up9).set (fun x => by
          show _ ↔ inQ r (va_up u.1 9 _) x = true
          rw [eqn])) (by
          show u.2 = cnF (inQ r (va_up u.1 9 _)) n 0 0
          rw [eqn]; exact hk)
      exact ⟨a1, a2, a3, fun a ha h => by rw [a4 a ha h]; exact va_up_ne _ _ h⟩
/-- the state of the telling: r are left -/
def LI (Mb : Mt) (n : Nat) (r : Nat → Bool) (u : Mt × Nat) : Prop := (∀ a, noQ a → a ≠ 9 → a ≠ 8 → u.1 a = Mb a) ∧ (∀ x, x < n → u.1 9 x = nI (lkN Mb r x n 0)) ∧ qS (rkT Mb) (Mb 2) (fun x => inQ r u.1 x = true) u.1 u.2 ∧ u.2 = cnF (inQ r u.1) n 0 0 ∧ (∀ x, r x = true → x < n) ∧ ∀ y, r y = true → ∀ s, s < pcn Mb y → r (par Mb y s) = true
theorem LI.ff {Mb : Mt} {n x : Nat} {r : Nat → Bool} {u : Mt × Nat} (ok : okN Mb n) (h : LI Mb n r u) : inQ r u.1 x = true ↔ Ff Mb r x := by
  obtain ⟨-, h9, -, -, hr, -⟩ := h
  have hn := ok.1
  rw [inQ_iff, Ff]
  refine and_congr_right (fun hx => ?_)
  have hl : lkN Mb r x n 0 ≤ 4 * n := lkN_le ok (by omega)
  rw [h9 x (hr x hx), show (0 : Int32) = nI 0 from rfl, nI_eq (by omega) (by omega), lkN_zero]
  exact ⟨fun g y hy => g y (Nat.zero_le _) (by have := hr y hy; omega) hy, fun g y _ _ hy => g y hy⟩
theorem LI.pos {Mb : Mt} {n : Nat} {r : Nat → Bool} {u : Mt × Nat} (ok : okN Mb n) (h : LI Mb n r u) (hp : 0 < cnF r n 0 0) : 0 < u.2 := by
  have hx : ∃ x, r x = true := Classical.byContradiction (fun g => by
    have := cnF_none (b := r) (d := n) (i := 0) (fun j _ _ e => g ⟨j, e⟩)
    omega)
  obtain ⟨w, hw⟩ := Ff_some ok h.2.2.2.2.1 hx
  obtain ⟨-, i, hi, -⟩ := h.2.2.1.2.1 w ((h.ff ok).mpr hw)
  omega
theorem LI.take {Mb : Mt} {n : Nat} {r : Nat → Bool} {u : Mt × Nat} (ok : okN Mb n) (h : LI Mb n r u) (hp : 0 < u.2) : ∃ c, lst (rkT Mb) (Mb 2) (Ff Mb r) c ∧ tkR u.1 u.2 = nI c ∧ LI Mb n (rm r c) (tnF u) ∧ cnF (rm r c) n 0 0 + 1 = cnF r n 0 0 := by
  obtain ⟨c, c1, c2, c3, c4, c5⟩ := h.2.2.1.take hp
  have hl : lst (rkT Mb) (Mb 2) (Ff Mb r) c := ⟨(h.ff ok).mp c2, fun d hd => c4 d ((h.ff ok).mpr hd)⟩
  have hff := h.ff (x := c) ok
  obtain ⟨hrow, h9, hq, hk, hr, hcl⟩ := h
  have hn := ok.1
  have hrc := (inQ_iff.mp c2).1
  have hcn := hr c hrc
  have ei : ix (tkR u.1 u.2) = c := by rw [c3]; exact nI_clamp (by omega)
  have t4 : tkF u.1 u.2 4 = Mb 4 := (tkF_row (by decide) (by decide) (by decide)).trans (hrow 4 (noq (by decide)) (by decide) (by decide))
  have t9 : tkF u.1 u.2 9 = u.1 9 := tkF_row (by decide) (by decide) (by decide)
  have epc : pcn (tkF u.1 u.2) c = pcn Mb c := by rw [pcn, t4, pcn]
  have einq : inQ (rm r c) (tkF u.1 u.2) = rm (inQ r u.1) c := by
    funext x
    refine bool_ext ?_
    rw [inQ_iff, rm_iff, rm_iff, inQ_iff, t9]
    exact ⟨fun ⟨⟨a, b⟩, d⟩ => ⟨⟨a, d⟩, b⟩, fun ⟨⟨a, d⟩, b⟩ => ⟨⟨a, b⟩, d⟩⟩
  have dcn : cnF (rm (inQ r u.1) c) n 0 0 + 1 = cnF (inQ r u.1) n 0 0 := cnF_del c2 (b_false (fun g => (rm_iff.mp g).2 rfl)) (fun j hj => bool_ext (by rw [rm_iff]; exact ⟨fun g => g.1, fun g => ⟨g, hj⟩⟩)) (Nat.zero_le _) (by omega)
  obtain ⟨a1, a2, a3, a4⟩ := tl_ok (Mb := Mb) (n := n) (c := c) (r := rm r c) (V := fun x => lkN Mb (rm r c) x n 0) ok hcn (fun x hx => hr x (rm_iff.mp hx).1) (fun s hs => rm_iff.mpr ⟨hcl c hrc s hs, by have := ok.lt hcn hs; omega⟩) (fun x => by have : lkN Mb (rm r c) x n 0 ≤ 4 * n := lkN_le ok (by omega); show lkN Mb (rm r c) x n 0 ≤ 8000; omega)
    (d := pcn Mb c) (t := 0) (u := (tkF u.1 u.2, u.2 - 1)) (by omega) ((tkF_row (by decide) (by decide) (by decide)).trans (hrow 1 (noq (by decide)) (by decide) (by decide))) ((tkF_row (by decide) (by decide) (by decide)).trans (hrow 2 (noq (by decide)) (by decide) (by decide))) ((tkF_row (by decide) (by decide) (by decide)).trans (hrow 5 (noq (by decide)) (by decide) (by decide)))
    (fun x hx => by
      show tkF u.1 u.2 9 x = _
      rw [t9, h9 x hx, lkN_rm hrc (Nat.zero_le _) (by omega)]; rfl)
    (c5.set (fun x => by
      show _ ↔ inQ (rm r c) (tkF u.1 u.2) x = true
      rw [einq, rm_iff]))
    (by show u.2 - 1 = cnF (inQ (rm r c) (tkF u.1 u.2)) n 0 0
        rw [einq]; omega)
  have et : tnF u = tlF c (pcn Mb c) 0 (tkF u.1 u.2, u.2 - 1) := by rw [tnF, ei, epc]
  refine ⟨c, hl, c3, ?_, cnF_del hrc (b_false (fun g => (rm_iff.mp g).2 rfl)) (fun j hj => bool_ext (by rw [rm_iff]; exact ⟨fun g => g.1, fun g => ⟨g, hj⟩⟩)) (Nat.zero_le _) (by omega)⟩
  rw [et]
  refine ⟨fun a h1 h2 h3 => (a4 a h1 h2).trans ((tkF_row h1.1 h1.2.1 h1.2.2).trans (hrow a h1 h2 h3)), a1, a2, a3, fun x hx => hr x (rm_iff.mp hx).1, fun y hy s hs => ?_⟩
  obtain ⟨y1, y2⟩ := rm_iff.mp hy
  exact rm_iff.mpr ⟨hcl y y1 s hs, (hff.mp c2).2 y y1 s hs⟩
theorem ta_nth {Mb : Mt} {n : Nat} (ok : okN Mb n) : ∀ {j : Nat} {r : Nat → Bool} {u : Mt × Nat}, LI Mb n r u → j < cnF r n 0 0 → (∃ c, nth (Ff Mb) (rkT Mb) (Mb 2) j r c ∧ tkR (taF j u).1 (taF j u).2 = nI c) ∧ ∀ a, noQ a → a ≠ 9 → a ≠ 8 → (taF j u).1 a = Mb a := by
  intro j
  induction j with
  | zero =>
    intro r u h hj
    obtain ⟨c, c1, c2, -, -⟩ := h.take ok (h.pos ok hj)
    exact ⟨⟨c, c1, c2⟩, h.1⟩
  | succ j ih =>
    intro r u h hj
    have hp := h.pos ok (by omega)
    obtain ⟨c, c1, c2, c3, c4⟩ := h.take ok hp
    rw [taF, if_pos hp]
    obtain ⟨⟨d, d1, d2⟩, d3⟩ := ih c3 (by omega)
    exact ⟨⟨d, ⟨c, c1, d1⟩, d2⟩, d3⟩
/-! The start, and the two sides. -/
theorem pth_last {M : Mt} {c : Nat} : ∀ {t x : Nat}, pth M (t + 1) x c → ∃ y, pth M t x y ∧ ∃ s, s < pcn M y ∧ par M y s = c := by
  intro t
  induction t with
  | zero =>
    intro x h
    obtain ⟨s, s1, s2⟩ := h
    exact ⟨x, rfl, s, s1, s2⟩
  | succ t ih =>
    intro x h
    obtain ⟨s, s1, s2⟩ := h
    obtain ⟨y, y1, y2⟩ := ih s2
    exact ⟨y, ⟨s, s1, y1⟩, y2⟩
theorem RC.le {M : Mt} {n x c : Nat} (ok : okN M n) (hx : x < n) (h : RC M x c) : c ≤ x := by
  obtain ⟨t, h⟩ := h
  have := pth_le ok hx h
  omega
theorem tl0_LI {M : Mt} {n q : Nat} (ok : okN M n) (hq : q < n) : LI M n (fun x => decide (x < n ∧ ¬ mrF M n q 8 x = 0)) (tl0 (mrF M n q) n q) := by
  have hn := ok.1
  have rI : ∀ x, (decide (x < n ∧ ¬ mrF M n q 8 x = 0) = true ↔ x < n ∧ RC M q x) := fun x => by
    rw [decide_eq_true_iff]
    exact and_congr_right (fun hx => mrF_iff ok hq hx)
  have row : ∀ a, noQ a → a ≠ 9 → a ≠ 8 → (tl0 (mrF M n q) n q).1 a = M a := fun a h1 h2 h3 => by
    show qoF (cuF (mrF M n q) n) 0 q a = _
    rw [qoF_row h1.1 h1.2.1 h1.2.2, cuF_row h2, mrF_row h3]
  have e9 : (tl0 (mrF M n q) n q).1 9 = cuF (mrF M n q) n 9 := by
    show qoF (cuF (mrF M n q) n) 0 q 9 = _
    exact qoF_row (by decide) (by decide) (by decide)
  have eL : ∀ x d j, lkN (mrF M n q) (fun x => decide (x < n ∧ ¬ mrF M n q 8 x = 0)) x d j = lkN M (fun x => decide (x < n ∧ ¬ mrF M n q 8 x = 0)) x d j := by
    intro x d
    induction d with
    | zero => intro j; rfl
    | succ d ih =>
      intro j
      rw [lkN, lkN, ih]
      have a : pcn (mrF M n q) j = pcn M j := by rw [pcn, mrF_row (by decide), pcn]
      have b : ∀ s, par (mrF M n q) j s = par M j s := fun s => by rw [par, mrF_row (by decide), par]
      rw [lk1, lk1, a]
      simp only [b]
  have h9 : ∀ x, x < n → (tl0 (mrF M n q) n q).1 9 x = nI (lkN M (fun x => decide (x < n ∧ ¬ mrF M n q 8 x = 0)) x n 0) := fun x hx => by
    rw [e9, cuF_at (r := fun x => decide (x < n ∧ ¬ mrF M n q 8 x = 0)) (fun y hy => by rw [decide_eq_true_iff]; exact ⟨fun g => g.2, fun g => ⟨hy, g⟩⟩) hx, eL]
  have hin : ∀ x, inQ (fun x => decide (x < n ∧ ¬ mrF M n q 8 x = 0)) (tl0 (mrF M n q) n q).1 x = true ↔ x = q := by
    intro x
    rw [inQ_iff, rI]
    constructor
    · rintro ⟨⟨x1, t, x2⟩, x3⟩
      have hl : lkN M (fun x => decide (x < n ∧ ¬ mrF M n q 8 x = 0)) x n 0 ≤ 4 * n := lkN_le ok (by omega)
      have x4 : lkN M (fun x => decide (x < n ∧ ¬ mrF M n q 8 x = 0)) x n 0 = 0 := (nI_eq (by omega) (by omega)).mp ((h9 x x1).symm.trans x3)
      rw [lkN_zero] at x4
      cases t with
      | zero => exact (show q = x from x2).symm
      | succ t =>
        obtain ⟨y, y1, s, y2, y3⟩ := pth_last x2
        have := RC.le ok hq ⟨t, y1⟩
        exact absurd y3 (x4 y (Nat.zero_le _) (by omega) ((rI y).mpr ⟨by omega, t, y1⟩) s y2)
    · rintro rfl
      refine ⟨⟨hq, 0, rfl⟩, ?_⟩
      rw [h9 x hq, lkN_zero.mpr (fun y _ _ hy s hs e => ?_)]
      · rfl
      · obtain ⟨y1, y2⟩ := (rI y).mp hy
        have := RC.le ok hq y2
        have := ok.lt y1 hs
        omega
  refine ⟨row, h9, ?_, ?_, fun x hx => ((rI x).mp hx).1, fun y hy s hs => ?_⟩
  · have q0 : qS (rkT M) (M 2) (fun _ => False) (cuF (mrF M n q) n) 0 := qS.empty (fun _ h => h)
    have q1 := q0.put (c := q) (by omega) (by omega) (fun h => h)
    have eqo : qoF (cuF (mrF M n q) n) 0 q = puF (cuF (mrF M n q) n) 0 (rkT M q) (M 2 q) (nI q) := by
      rw [qoF, rkT, cuF_row (by decide), cuF_row (by decide), mrF_row (by decide), mrF_row (by decide)]
    rw [← eqo] at q1
    exact q1.set (fun x => by rw [hin x]; exact ⟨fun g => g.elim False.elim id, Or.inr⟩)
  · show puK 0 = _
    have := cnF_del (b := inQ (fun x => decide (x < n ∧ ¬ mrF M n q 8 x = 0)) (tl0 (mrF M n q) n q).1) (b' := fun _ => false) ((hin q).mpr rfl) rfl (fun j hj => (b_false (fun g => hj ((hin j).mp g))).symm) (d := n) (i := 0) (Nat.zero_le _) (by omega)
    rw [cnF_none (fun j _ _ g => by cases g)] at this
    rw [← this]
    rfl
  · obtain ⟨y1, y2⟩ := (rI y).mp hy
    have := ok.lt y1 hs
    exact (rI _).mpr ⟨by omega, y2.trans (RC.one hs)⟩
theorem nth.swap {F F' : (Nat → Bool) → Nat → Prop} {n : Nat} {rk ky : Nat → Int32} (h : ∀ r, (∀ x, r x = true → x < n) → ∀ x, F r x ↔ F' r x) : ∀ {j : Nat} {r : Nat → Bool} {c : Nat}, (∀ x, r x = true → x < n) → nth F rk ky j r c → nth F' rk ky j r c := by
  intro j
  induction j with
  | zero => intro r c hr g; exact ⟨(h r hr c).mp g.1, fun d hd => g.2 d ((h r hr d).mpr hd)⟩
  | succ j ih =>
    intro r c hr g
    obtain ⟨m, m1, m2⟩ := g
    exact ⟨m, ⟨(h r hr m).mp m1.1, fun d hd => m1.2 d ((h r hr d).mpr hd)⟩, ih (fun x hx => hr x (rm_iff.mp hx).1) m2⟩
theorem Inv.lgr {M N : Mt} {n k f q : Nat} (hI : Inv M n k N f) (hq : q < n) {x : Nat} (hx : x < n) : ¬ frF N n 9 q 9 x = 0 ↔ ¬ mrF M n q 8 x = 0 := by
  rw [frF_iff (by decide) (by decide) hI.ok2 hq hx, mrF_iff hI.ok hq hx, hI.rc hq]
theorem Inv.lgN {M N : Mt} {n k f q : Nat} (hI : Inv M n k N f) (hq : q < n) : cL (frF N n 9 q) n = cnF (fun i => decide (¬ mrF M n q 8 i = 0)) n 0 0 := by
  rw [cL]
  exact cn_congr (fun j hj => by rw [decide_eq_true_iff, decide_eq_true_iff]; exact hI.lgr hq hj)
theorem lgU_nth {N : Mt} {n q : Nat} (ok : okN N n) : (lgU N n q).2 = cL (frF N n 9 q) n ∧ (∀ r, r ≠ 3 → r ≠ 9 → (lgU N n q).1 r = N r) ∧ ∀ j, j < cL (frF N n 9 q) n → ∃ c, c < n ∧ (lgU N n q).1 3 j = nI c ∧ nth (Ff (frF N n 9 q)) (rkT (frF N n 9 q)) (frF N n 9 q 2) j (rN n (frF N n 9 q)) c := by
  obtain ⟨a1, a2, -, a4⟩ := lgF_nth (z := n) (d := n) (M := frF N n 9 q) (f := 0) (ok.rows (frF_row (by decide)) (frF_row (by decide))) cL_le
  refine ⟨a1.trans (Nat.zero_add _), fun r h3 h9 => (a2 r h3 h9).trans (frF_row h9), fun j hj => ?_⟩
  obtain ⟨c, c1, c2, c3⟩ := a4 j hj
  rw [Nat.zero_add] at c2
  exact ⟨c, c1, c2, c3⟩
theorem Inv.lg {M N : Mt} {n k f q j : Nat} (hI : Inv M n k N f) (hq : q < n) (hj : j < cL (frF N n 9 q) n) : tkR (taF j (tl0 (mrF M n q) n q)).1 (taF j (tl0 (mrF M n q) n q)).2 = (lgU N n q).1 3 j ∧ ∀ a, noQ a → a ≠ 9 → a ≠ 8 → (taF j (tl0 (mrF M n q) n q)).1 a = M a := by
  have er : rN n (frF N n 9 q) = fun x => decide (x < n ∧ ¬ mrF M n q 8 x = 0) := by
    funext x
    refine bool_ext ?_
    rw [rN_iff, decide_eq_true_iff]
    exact and_congr_right (fun hx => hI.lgr hq hx)
  obtain ⟨⟨c, c1, c2⟩, c3⟩ := ta_nth hI.ok (tl0_LI hI.ok hq) (j := j) (by
    rw [hI.lgN hq] at hj
    rw [show cnF (fun x => decide (x < n ∧ ¬ mrF M n q 8 x = 0)) n 0 0 = cnF (fun i => decide (¬ mrF M n q 8 i = 0)) n 0 0 from cn_congr (fun i hi => by rw [decide_eq_true_iff, decide_eq_true_iff]; exact ⟨fun g => g.2, fun g => ⟨hi, g⟩⟩)]
    exact hj)
  obtain ⟨d, d1, d2, d3⟩ := (lgU_nth hI.ok2).2.2 j hj
  have hr : ∀ x, rN n (frF N n 9 q) x = true → x < n := fun x hx => (rN_iff.mp hx).1
  have e4 : frF N n 9 q 4 = N 4 := frF_row (by decide)
  have e5 : frF N n 9 q 5 = N 5 := frF_row (by decide)
  have ep : ∀ y, y < n → pcn (frF N n 9 q) y = pcn M y := fun y hy => by rw [pcn, e4]; exact hI.pc hy
  have ea : ∀ y s, y < n → s < pcn M y → par (frF N n 9 q) y s = par M y s := fun y s hy hs => by rw [par, e5]; exact hI.pa hy hs
  have d4 := nth.swap (n := n) (F' := Ff M) (fun r hr x => by
    rw [Ff, Ff]
    refine and_congr_right (fun _ => ⟨fun g y hy s hs => ?_, fun g y hy s hs => ?_⟩)
    · have h1 := hr y hy
      rw [← ea y s h1 hs]
      exact g y hy s (by rw [ep y h1]; exact hs)
    · have h1 := hr y hy
      rw [ep y h1] at hs
      rw [ea y s h1 hs]
      exact g y hy s hs) hr d3
  have d5 := nth.congr (Ff_r M) (rk' := rkT M) (ky' := M 2) (fun x hx => by
    obtain ⟨b1, b2, -, -⟩ := hI.2.1 x (hr x hx)
    refine ⟨?_, ?_⟩
    · show frF N n 9 q 1 x ^^^ (-1) = M 1 x ^^^ (-1)
      rw [frF_row (by decide), b1]
    · rw [frF_row (by decide), b2]) d4
  rw [er] at d5
  obtain rfl := nth.uniq c1 d5
  exact ⟨by rw [c2, d2], c3⟩

set_option maxHeartbeats 4000000 in
set_option maxRecDepth 100000 in
theorem st_log {l : Launch} (hs0 : l.stackTraces = false) {E : En} {a2 : Nat → Nat} {qo : Nat} {cJ : ClassId} (dn : dN E) (dm : dM (e2 E a2)) (ap : apo E qo) {M : Mt} {n k : Nat} {g : Nat → Int64} {N : Mt} {t f : Nat} (hI : Inv M n k N f) (hn : n ≤ 600) (p1 p2 : Int32) : AgI l E a2 qo cJ Inv yL_log (.codeWith yL_log cL_log 5 (some .int) [(0, 10, 13, 13), (0, 10, 17, 33)]) [.ref (ad E 0), .int p1, .int p2, .ref qo] yX2_log (.code yX2_log cX2_log 5 (some .int)) [.int p1, .int p2] PI M n k g N t f := by
  have hn2 : n ≤ 2000 := by omega
  rcases argC p1 hn2 with ⟨q, hq, rfl⟩ | h1
  · have hk := cL_le (M := frF N n 9 q) (z := n)
    have hc := hI.lgN hq
    have ho := (lgU_nth (q := q) hI.ok2).1
    rcases argP p2 (n := cL (frF N n 9 q) n) (by omega) with rfl | ⟨j, hj, rfl⟩ | ⟨h2, h3⟩
    · exact ⟨0, _, _, _, _, _, _, _, _, _, by decide, w_L_log_good dn ap (by decide) (by decide) (c_X1_log_a dn hq hI.ok), c_X2_log_a dm hq hI.ok2, fun _ => by rw [pk_uLs, ho, hc], hI.same (mrF_row (a := 1) (by decide)) (mrF_row (a := 2) (by decide)) (mrF_row (a := 3) (by decide)) (mrF_row (a := 4) (by decide)) (mrF_row (a := 5) (by decide)) (mrF_row (a := 6) (by decide)) (mrF_row (a := 7) (by decide)) ((lgU_nth hI.ok2).2.1 1 (by decide) (by decide)) ((lgU_nth hI.ok2).2.1 2 (by decide) (by decide)) ((lgU_nth hI.ok2).2.1 4 (by decide) (by decide)) ((lgU_nth hI.ok2).2.1 5 (by decide) (by decide)) ((lgU_nth hI.ok2).2.1 6 (by decide) (by decide)), Nat.le_succ _, by decide, by decide⟩
    · obtain ⟨c2, c3⟩ := hI.lg hq hj
      exact ⟨0, _, _, _, _, _, _, _, _, _, by decide, w_L_log_good dn ap (by decide) (by decide) (c_X1_log_b dn hq hI.ok (by rw [← hc]; exact hj) (by rw [← hc]; omega)), c_X2_log_b dm hq hI.ok2 (by rw [ho]; exact hj), fun _ => by rw [pk_uLs, c2], hI.same ((tkF_row (by decide) (by decide) (by decide)).trans (c3 1 (noq (by decide)) (by decide) (by decide))) ((tkF_row (by decide) (by decide) (by decide)).trans (c3 2 (noq (by decide)) (by decide) (by decide))) ((tkF_row (by decide) (by decide) (by decide)).trans (c3 3 (noq (by decide)) (by decide) (by decide))) ((tkF_row (by decide) (by decide) (by decide)).trans (c3 4 (noq (by decide)) (by decide) (by decide))) ((tkF_row (by decide) (by decide) (by decide)).trans (c3 5 (noq (by decide)) (by decide) (by decide))) ((tkF_row (by decide) (by decide) (by decide)).trans (c3 6 (noq (by decide)) (by decide) (by decide))) ((tkF_row (by decide) (by decide) (by decide)).trans (c3 7 (noq (by decide)) (by decide) (by decide))) ((lgU_nth hI.ok2).2.1 1 (by decide) (by decide)) ((lgU_nth hI.ok2).2.1 2 (by decide) (by decide)) ((lgU_nth hI.ok2).2.1 4 (by decide) (by decide)) ((lgU_nth hI.ok2).2.1 5 (by decide) (by decide)) ((lgU_nth hI.ok2).2.1 6 (by decide) (by decide)), Nat.le_succ _, by decide, by decide⟩
    · exact ⟨2, nI 0, _, _, _, _, _, _, _, _, by decide, w_L_log_NSE dn ap (by decide) (by decide) (t_X1_log_b hs0 dn hq hI.ok h2 (by rw [← hc]; exact h3)), c_X2_log_c dm hq hI.ok2 h2 (by rw [ho]; exact h3), fun h => absurd h (by decide), hI.same (mrF_row (a := 1) (by decide)) (mrF_row (a := 2) (by decide)) (mrF_row (a := 3) (by decide)) (mrF_row (a := 4) (by decide)) (mrF_row (a := 5) (by decide)) (mrF_row (a := 6) (by decide)) (mrF_row (a := 7) (by decide)) ((lgU_nth hI.ok2).2.1 1 (by decide) (by decide)) ((lgU_nth hI.ok2).2.1 2 (by decide) (by decide)) ((lgU_nth hI.ok2).2.1 4 (by decide) (by decide)) ((lgU_nth hI.ok2).2.1 5 (by decide) (by decide)) ((lgU_nth hI.ok2).2.1 6 (by decide) (by decide)), Nat.le_succ _, by decide, by decide⟩
  · exact ⟨1, nI 0, _, _, _, _, _, _, _, _, by decide, w_L_log_IAE dn ap (by decide) (by decide) (t_X1_log_a hs0 dn h1), r_X2_log dm h1, fun h => absurd h (by decide), hI, Nat.le_succ _, by decide, by decide⟩
