/-! Marks: bits and values. -/
theorem RC.trans {M : Mt} {x y c : Nat} (h : RC M x y) (h2 : RC M y c) : RC M x c := by
  obtain ⟨t, h⟩ := h
  obtain ⟨u, h2⟩ := h2
  refine ⟨t + u, ?_⟩
  have key : ∀ t x, pth M t x y → pth M (t + u) x c := by
    intro t
    induction t with
    | zero => intro x h; obtain rfl : x = y := h; rw [Nat.zero_add]; exact h2
    | succ t ih =>
      intro x h
      obtain ⟨s, s1, s2⟩ := h
      rw [show t + 1 + u = (t + u) + 1 by omega]
      exact ⟨s, s1, ih _ s2⟩
  exact key t x h
theorem RC.one {M : Mt} {x s : Nat} (h : s < pcn M x) : RC M x (par M x s) := ⟨1, s, h, rfl⟩
theorem and7 {x : Int32} (h : x &&& (-8) = 0) : x = nI 0 ∨ x = nI 1 ∨ x = nI 2 ∨ x = nI 3 ∨ x = nI 4 ∨ x = nI 5 ∨ x = nI 6 ∨ x = nI 7 := by
  have e : x &&& nI 7 = x := by
    have h1 := and_or (nI 7) (-8) x
    rw [show (nI 7 ||| (-8) : Int32) = -1 by decide, Int32.neg_one_and, Int32.and_comm (-8) x, h, Int32.or_zero, Int32.and_comm] at h1
    exact h1.symm
  obtain ⟨j, hj, e2⟩ := pk_andE x (m := nI 7) 3 (by decide)
  rw [← e, e2]
  rcases (show j = 0 ∨ j = 1 ∨ j = 2 ∨ j = 3 ∨ j = 4 ∨ j = 5 ∨ j = 6 ∨ j = 7 by omega) with rfl | rfl | rfl | rfl | rfl | rfl | rfl | rfl <;> simp
theorem mk_1 {x : Int32} (h : x &&& (-8) = 0) (h4 : ¬ x &&& nI 4 = 0 → x &&& nI 3 = nI 3) : x = nI 1 ↔ ¬ x &&& nI 1 = 0 ∧ x &&& nI 2 = 0 := by
  rcases and7 h with e | e | e | e | e | e | e | e <;> subst e <;> revert h4 <;> decide
theorem mk_2 {x : Int32} (h : x &&& (-8) = 0) (h4 : ¬ x &&& nI 4 = 0 → x &&& nI 3 = nI 3) : x = nI 2 ↔ ¬ x &&& nI 2 = 0 ∧ x &&& nI 1 = 0 := by
  rcases and7 h with e | e | e | e | e | e | e | e <;> subst e <;> revert h4 <;> decide
theorem mk_3 {x : Int32} (h : x &&& (-8) = 0) : x = nI 3 ↔ x &&& nI 3 = nI 3 ∧ x &&& nI 4 = 0 := by
  rcases and7 h with e | e | e | e | e | e | e | e <;> subst e <;> decide
theorem hd_4 (M : Mt) (c : Nat) : ¬ hdF M c &&& nI 4 = 0 ↔ ¬ M 8 c &&& nI 4 = 0 ∨ M 8 c &&& nI 3 = nI 3 := by
  rw [hdF]
  by_cases h : cmF M c = true
  · rw [if_pos h, orm_ne]
    exact ⟨fun _ => Or.inr (of_decide_eq_true h), fun _ => Or.inr (by decide)⟩
  · rw [if_neg h]
    exact ⟨Or.inl, fun g => g.elim id (fun a => absurd (decide_eq_true a) h)⟩
theorem sp_four {M : Mt} {n c : Nat} (ok : okN M n) (h0 : ∀ x, x < n → M 8 x &&& nI 4 = 0) (hc : c < n) : ¬ spF n M 8 c &&& nI 4 = 0 ↔ ∃ y, y < n ∧ spF n M 8 y &&& nI 3 = nI 3 ∧ ∃ s, s < pcn M y ∧ RC M (par M y s) c := by
  have hs := (spF_bit (B := fun x => ¬ x &&& nI 4 = 0) (G := fun x => ¬ x &&& nI 4 = 0 ∨ x &&& nI 3 = nI 3) (orm_ne (nI 4)) hd_4 (Nat.le_refl n) ok).2
  rw [reach_of ok (A0 := fun x => ∃ y, y < n ∧ spF n M 8 y &&& nI 3 = nI 3 ∧ ∃ s, s < pcn M y ∧ par M y s = x) (A := fun c => ¬ spF n M 8 c &&& nI 4 = 0) (fun c hc => by
    rw [hs c]
    constructor
    · rintro (a | ⟨y, y1, y2 | y2, y3⟩)
      · exact absurd (h0 c hc) a
      · exact Or.inr ⟨y, y1, y2, y3⟩
      · exact Or.inl ⟨y, y1, y2, y3⟩
    · rintro (⟨y, y1, y2, y3⟩ | ⟨y, y1, y2, y3⟩)
      · exact Or.inr ⟨y, y1, Or.inr y2, y3⟩
      · exact Or.inr ⟨y, y1, Or.inl y2, y3⟩) hc]
  constructor
  · rintro ⟨x, x1, ⟨y, y1, y2, s, y3, y4⟩, x3⟩
    exact ⟨y, y1, y2, s, y3, by rw [y4]; exact x3⟩
  · rintro ⟨y, y1, y2, s, y3, y4⟩
    have := ok.lt y1 y3
    exact ⟨par M y s, by omega, ⟨y, y1, y2, s, y3, rfl⟩, y4⟩
/-! One order for the two sides. -/
theorem lC_congr {rk rk' ky ky' : Nat → Int32} {c d : Nat} (hc : rk c = rk' c ∧ ky c = ky' c) (hd : rk d = rk' d ∧ ky d = ky' d) : lC rk ky c d ↔ lC rk' ky' c d := by rw [lC, lC, hc.1, hc.2, hd.1, hd.2]
theorem nth.congr {F : (Nat → Bool) → Nat → Prop} (hF : ∀ r x, F r x → r x = true) {rk rk' ky ky' : Nat → Int32} : ∀ {j : Nat} {r : Nat → Bool} {c : Nat}, (∀ x, r x = true → rk x = rk' x ∧ ky x = ky' x) → nth F rk ky j r c → nth F rk' ky' j r c := by
  have lc : ∀ {r : Nat → Bool} {c : Nat}, (∀ x, r x = true → rk x = rk' x ∧ ky x = ky' x) → lst rk ky (F r) c → lst rk' ky' (F r) c := by
    intro r c h ⟨a, b⟩
    exact ⟨a, fun d hd hl => b d hd ((lC_congr (h d (hF r d hd)) (h c (hF r c a))).mpr hl)⟩
  intro j
  induction j with
  | zero => intro r c h g; exact lc h g
  | succ j ih =>
    intro r c h g
    obtain ⟨m, m1, m2⟩ := g
    exact ⟨m, lc h m1, ih (fun x hx => h x (rm_iff.mp hx).1) m2⟩
theorem Fa_r : ∀ (r : Nat → Bool) (x : Nat), Fa r x → r x = true := fun _ _ h => h
theorem Ff_r (M : Mt) : ∀ (r : Nat → Bool) (x : Nat), Ff M r x → r x = true := fun _ _ h => h.1
/-! The queue, taken from again and again. -/
def noQ (a : Nat) : Prop := a ≠ 11 ∧ a ≠ 12 ∧ a ≠ 13
theorem qaF_row {a : Nat} (h : noQ a) : ∀ {j : Nat} {u : Mt × Nat}, (qaF j u).1 a = u.1 a := by
  intro j
  induction j with
  | zero => intro u; rfl
  | succ j ih => intro u; rw [qaF, ih]; exact tkF_row h.1 h.2.1 h.2.2
theorem qS.set {rk ky : Nat → Int32} {S S' : Nat → Prop} {M : Mt} {k : Nat} (h : qS rk ky S M k) (e : ∀ x, S x ↔ S' x) : qS rk ky S' M k := by
  have : S = S' := funext (fun x => propext (e x))
  exact this ▸ h
theorem qa_nth {rk ky : Nat → Int32} : ∀ {j : Nat} {r : Nat → Bool} {u : Mt × Nat}, qS rk ky (fun x => r x = true) u.1 u.2 → j < u.2 → ∃ c, nth Fa rk ky j r c ∧ tkR (qaF j u).1 (qaF j u).2 = nI c := by
  intro j
  induction j with
  | zero =>
    intro r u h hj
    obtain ⟨c, c1, c2, c3, c4, c5⟩ := h.take hj
    exact ⟨c, ⟨c2, c4⟩, c3⟩
  | succ j ih =>
    intro r u h hj
    obtain ⟨c, c1, c2, c3, c4, c5⟩ := h.take (by omega)
    obtain ⟨d, d1, d2⟩ := ih (r := rm r c) (u := (tkF u.1 u.2, u.2 - 1)) (c5.set (fun x => rm_iff.symm)) (by show j < u.2 - 1; omega)
    exact ⟨d, ⟨c, ⟨c2, c4⟩, d1⟩, d2⟩
theorem qS.empty {rk ky : Nat → Int32} {S : Nat → Prop} {M : Mt} (h : ∀ x, ¬ S x) : qS rk ky S M 0 := ⟨fun i hi => absurd hi (Nat.not_lt_zero i), fun c hc => absurd hc (h c), fun i _ hi => absurd hi (Nat.not_lt_zero i), fun i _ hi => absurd hi (Nat.not_lt_zero i)⟩
theorem seF_ok {h : Nat} {rk ky mk : Nat → Int32} : ∀ {d i : Nat} {u : Mt × Nat}, i + d ≤ 2000 → u.1 3 = rk → u.1 2 = ky → u.1 8 = mk → qS rk ky (fun x => x < i ∧ mk x = sdF h) u.1 u.2 → u.2 ≤ i → qS rk ky (fun x => x < i + d ∧ mk x = sdF h) (seF h d i u).1 (seF h d i u).2 ∧ (seF h d i u).2 = u.2 + cnF (fun x => decide (mk x = sdF h)) d i 0 ∧ ∀ a, noQ a → (seF h d i u).1 a = u.1 a := by
  intro d
  induction d with
  | zero => intro i u _ _ _ _ hq _; exact ⟨hq, rfl, fun a _ => rfl⟩
  | succ d ih =>
    intro i u hi h3 h2 h8 hq hk
    rw [seF, cnF_s, show i + (d + 1) = (i + 1) + d by omega]
    by_cases e : u.1 8 i = sdF h
    · rw [if_pos e]
      have e' : mk i = sdF h := by rw [← h8]; exact e
      have q := hq.put (c := i) (by omega) (by omega) (fun h => by omega)
      have pk : puK u.2 = u.2 + 1 := by rw [puK, if_neg (by omega)]
      obtain ⟨a1, a2, a3⟩ := ih (i := i + 1) (u := (puF u.1 u.2 (rk i) (ky i) (nI i), puK u.2)) (by omega) ((puF_row (by decide) (by decide) (by decide)).trans h3) ((puF_row (by decide) (by decide) (by decide)).trans h2) ((puF_row (by decide) (by decide) (by decide)).trans h8) (q.set (fun x => ⟨fun g => g.elim (fun ⟨g1, g2⟩ => ⟨by omega, g2⟩) (fun g => by subst g; exact ⟨by omega, e'⟩), fun ⟨g1, g2⟩ => by
        by_cases ex : x = i
        · exact Or.inr ex
        · exact Or.inl ⟨by omega, g2⟩⟩)) (by show puK u.2 ≤ i + 1; omega)
      have eu : (puF u.1 u.2 (u.1 3 i) (u.1 2 i) (nI i), puK u.2) = (puF u.1 u.2 (rk i) (ky i) (nI i), puK u.2) := by rw [← h3, ← h2] <;> rfl
      rw [eu]
      refine ⟨a1, ?_, fun a ha => by rw [a3 a ha]; exact puF_row ha.1 ha.2.1 ha.2.2⟩
      rw [a2, if_pos (decide_eq_true e')]
      show puK u.2 + _ = _
      omega
    · rw [if_neg e]
      have e' : ¬ mk i = sdF h := by rw [← h8]; exact e
      obtain ⟨a1, a2, a3⟩ := ih (i := i + 1) (u := u) (by omega) h3 h2 h8 (hq.set (fun x => ⟨fun ⟨g1, g2⟩ => ⟨by omega, g2⟩, fun ⟨g1, g2⟩ => ⟨by
        by_cases ex : x = i
        · subst ex; exact absurd g2 e'
        · omega, g2⟩⟩)) (by omega)
      refine ⟨a1, ?_, a3⟩
      rw [a2, if_neg (fun h => e' (of_decide_eq_true h))]
      omega
theorem bsF_ok {rk ky mk : Nat → Int32} : ∀ {d i : Nat} {u : Mt × Nat}, i + d ≤ 2000 → rkT u.1 = rk → u.1 2 = ky → u.1 8 = mk → qS rk ky (fun x => x < i ∧ mk x = nI 3) u.1 u.2 → u.2 ≤ i → qS rk ky (fun x => x < i + d ∧ mk x = nI 3) (bsF d i u).1 (bsF d i u).2 ∧ (bsF d i u).2 = u.2 + cnF (fun x => decide (mk x = nI 3)) d i 0 ∧ ∀ a, noQ a → (bsF d i u).1 a = u.1 a := by
  intro d
  induction d with
  | zero => intro i u _ _ _ _ hq _; exact ⟨hq, rfl, fun a _ => rfl⟩
  | succ d ih =>
    intro i u hi h3 h2 h8 hq hk
    rw [bsF, cnF_s, show i + (d + 1) = (i + 1) + d by omega]
    by_cases e : u.1 8 i = nI 3
    · rw [if_pos e]
      have e' : mk i = nI 3 := by rw [← h8]; exact e
      have q := hq.put (c := i) (by omega) (by omega) (fun h => by omega)
      have pk : puK u.2 = u.2 + 1 := by rw [puK, if_neg (by omega)]
      obtain ⟨a1, a2, a3⟩ := ih (i := i + 1) (u := (puF u.1 u.2 (rk i) (ky i) (nI i), puK u.2)) (by omega) (by rw [← h3]; funext x; show puF _ _ _ _ _ 1 x ^^^ (-1) = u.1 1 x ^^^ (-1); rw [puF_row (by decide) (by decide) (by decide)]) ((puF_row (by decide) (by decide) (by decide)).trans h2) ((puF_row (by decide) (by decide) (by decide)).trans h8) (q.set (fun x => ⟨fun g => g.elim (fun ⟨g1, g2⟩ => ⟨by omega, g2⟩) (fun g => by subst g; exact ⟨by omega, e'⟩), fun ⟨g1, g2⟩ => by
        by_cases ex : x = i
        · exact Or.inr ex
        · exact Or.inl ⟨by omega, g2⟩⟩)) (by show puK u.2 ≤ i + 1; omega)
      have eu : (qoF u.1 u.2 i, puK u.2) = (puF u.1 u.2 (rk i) (ky i) (nI i), puK u.2) := by rw [← h3, ← h2] <;> rfl
      rw [eu]
      refine ⟨a1, ?_, fun a ha => by rw [a3 a ha]; exact puF_row ha.1 ha.2.1 ha.2.2⟩
      rw [a2, if_pos (decide_eq_true e')]
      show puK u.2 + _ = _
      omega
    · rw [if_neg e]
      have e' : ¬ mk i = nI 3 := by rw [← h8]; exact e
      obtain ⟨a1, a2, a3⟩ := ih (i := i + 1) (u := u) (by omega) h3 h2 h8 (hq.set (fun x => ⟨fun ⟨g1, g2⟩ => ⟨by omega, g2⟩, fun ⟨g1, g2⟩ => ⟨by
        by_cases ex : x = i
        · subst ex; exact absurd g2 e'
        · omega, g2⟩⟩)) (by omega)
      refine ⟨a1, ?_, a3⟩
      rw [a2, if_neg (fun h => e' (of_decide_eq_true h))]
      omega

/-! The one side's own telling. -/
theorem s2_nth {z : Nat} : ∀ {j : Nat} {M : Mt} {o : Option Nat}, j < cL M z → (∃ c, c < z ∧ (s2F z (j + 1) M o).2 = some c ∧ nth Fa (M 3) (M 2) j (rN z M) c) ∧ ∀ a, a ≠ 9 → (s2F z (j + 1) M o).1 a = M a := by
  intro j
  induction j with
  | zero =>
    intro M o hj
    rcases hm : smF M z 0 none with _ | y
    · exact absurd hm (cL_pos hj)
    · have e : s2F z (0 + 1) M o = (va_up M 9 (upd (M 9) y (nI 0)), some y) := by rw [s2F, hm]; rfl
      rw [e]
      have hy := sm_lst hm
      exact ⟨⟨y, (rN_iff.mp hy.1).1, rfl, hy⟩, fun a ha => va_up_ne _ _ ha⟩
  | succ j ih =>
    intro M o hj
    rcases hm : smF M z 0 none with _ | y
    · exact absurd hm (cL_pos (by omega))
    · have e : s2F z (j + 1 + 1) M o = s2F z (j + 1) (va_up M 9 (upd (M 9) y (nI 0))) (some y) := by rw [s2F, hm]
      rw [e]
      have hy := sm_lst hm
      obtain ⟨y1, y2⟩ := rN_iff.mp hy.1
      have hc := cL_del y1 y2
      obtain ⟨⟨c, c1, c2, c3⟩, c4⟩ := ih (M := va_up M 9 (upd (M 9) y (nI 0))) (o := some y) (by omega)
      rw [rN_del] at c3
      exact ⟨⟨c, c1, c2, y, hy, c3⟩, fun a ha => by rw [c4 a ha, va_up_ne _ _ ha]⟩
theorem cL_none {M : Mt} {z : Nat} (h : ∀ x, ¬ rN z M x = true) : cL M z = 0 := by
  have e : cL M z = cnF (fun _ => false) z 0 0 := cnF_congr (fun j _ hj => by
    refine bool_ext ⟨fun g => absurd (rN_iff.mpr ⟨by omega, of_decide_eq_true g⟩) (h j), fun g => absurd g (by decide)⟩)
  have z0 : ∀ d i, cnF (fun _ => false) d i 0 = 0 := by
    intro d
    induction d with
    | zero => intro i; rfl
    | succ d ih => intro i; rw [cnF]; exact ih _
  rw [e, z0]
theorem orF_nth {z : Nat} : ∀ {d : Nat} {M : Mt} {f : Nat}, cL M z ≤ d → (orF z d (M, f)).2 = f + cL M z ∧ (∀ a, a ≠ 3 → a ≠ 9 → (orF z d (M, f)).1 a = M a) ∧ (∀ i, i < f → (orF z d (M, f)).1 3 i = M 3 i) ∧ ∀ j, j < cL M z → ∃ c, c < z ∧ (orF z d (M, f)).1 3 (f + j) = nI c ∧ nth Fa (rkT M) (M 2) j (rN z M) c := by
  intro d
  induction d with
  | zero =>
    intro M f hd
    have h0 : cL M z = 0 := by omega
    rw [h0]
    exact ⟨rfl, fun a _ _ => rfl, fun i _ => rfl, fun j hj => absurd hj (Nat.not_lt_zero j)⟩
  | succ d ih =>
    intro M f hd
    rcases hm : mnF M z 0 none with _ | y
    · have e : orF z (d + 1) (M, f) = (M, f) := by rw [orF]; show (match mnF M z 0 none with | none => (M, f) | some y => orF z d (tkO (M, f) y)) = (M, f); rw [hm]
      have h0 : cL M z = 0 := cL_none (mn_none hm)
      rw [e, h0]
      exact ⟨rfl, fun a _ _ => rfl, fun i _ => rfl, fun j hj => absurd hj (Nat.not_lt_zero j)⟩
    · have e : orF z (d + 1) (M, f) = orF z d (tkO (M, f) y) := by rw [orF]; show (match mnF M z 0 none with | none => (M, f) | some y => orF z d (tkO (M, f) y)) = _; rw [hm]
      have hy := mn_lst hm
      obtain ⟨y1, y2⟩ := rN_iff.mp (Fa_r _ _ hy.1)
      have hc := cL_tk (fo := f) y1 y2
      obtain ⟨a1, a2, a3, a4⟩ := ih (M := (tkO (M, f) y).1) (f := f + 1) (by omega)
      have er : rN z (tkO (M, f) y).1 = rm (rN z M) y := rN_del
      rw [er] at a4
      rw [e, show tkO (M, f) y = ((tkO (M, f) y).1, f + 1) from rfl]
      have r3 : (tkO (M, f) y).1 3 = upd (M 3) f (nI y) := rfl
      refine ⟨by rw [a1]; omega, fun a h3 h9 => ?_, fun i hi => ?_, fun j hj => ?_⟩
      · rw [a2 a h3 h9]
        show va_up (va_up M 9 _) 3 _ a = M a
        rw [va_up_ne _ _ h3, va_up_ne _ _ h9]
      · rw [a3 i (by omega), r3, pk_un (by omega)]
      · cases j with
        | zero => exact ⟨y, y1, (a3 f (by omega)).trans (by rw [r3, pk_us]), hy⟩
        | succ j =>
          obtain ⟨c, c1, c2, c3⟩ := a4 j (by omega)
          exact ⟨c, c1, by rw [show f + (j + 1) = f + 1 + j by omega]; exact c2, y, hy, c3⟩
theorem lgF_nth {z : Nat} : ∀ {d : Nat} {M : Mt} {f : Nat}, okN M z → cL M z ≤ d → (lgF z d (M, f)).2 = f + cL M z ∧ (∀ a, a ≠ 3 → a ≠ 9 → (lgF z d (M, f)).1 a = M a) ∧ (∀ i, i < f → (lgF z d (M, f)).1 3 i = M 3 i) ∧ ∀ j, j < cL M z → ∃ c, c < z ∧ (lgF z d (M, f)).1 3 (f + j) = nI c ∧ nth (Ff M) (rkT M) (M 2) j (rN z M) c := by
  intro d
  induction d with
  | zero =>
    intro M f ok hd
    have h0 : cL M z = 0 := by omega
    rw [h0]
    exact ⟨rfl, fun a _ _ => rfl, fun i _ => rfl, fun j hj => absurd hj (Nat.not_lt_zero j)⟩
  | succ d ih =>
    intro M f ok hd
    rcases hm : lmF M z z 0 none with _ | y
    · have e : lgF z (d + 1) (M, f) = (M, f) := by rw [lgF]; show (match lmF M z z 0 none with | none => (M, f) | some y => lgF z d (tkO (M, f) y)) = (M, f); rw [hm]
      have h0 : cL M z = 0 := cL_none (lm_none ok hm)
      rw [e, h0]
      exact ⟨rfl, fun a _ _ => rfl, fun i _ => rfl, fun j hj => absurd hj (Nat.not_lt_zero j)⟩
    · have e : lgF z (d + 1) (M, f) = lgF z d (tkO (M, f) y) := by rw [lgF]; show (match lmF M z z 0 none with | none => (M, f) | some y => lgF z d (tkO (M, f) y)) = _; rw [hm]
      have hy := lm_lst ok hm
      obtain ⟨y1, y2⟩ := rN_iff.mp (Ff_r M _ _ hy.1)
      have hc := cL_tk (fo := f) y1 y2
      obtain ⟨a1, a2, a3, a4⟩ := ih (M := (tkO (M, f) y).1) (f := f + 1) ok.tk (by omega)
      have er : rN z (tkO (M, f) y).1 = rm (rN z M) y := rN_del
      rw [er] at a4
      rw [e, show tkO (M, f) y = ((tkO (M, f) y).1, f + 1) from rfl]
      have r3 : (tkO (M, f) y).1 3 = upd (M 3) f (nI y) := rfl
      refine ⟨by rw [a1]; omega, fun a h3 h9 => ?_, fun i hi => ?_, fun j hj => ?_⟩
      · rw [a2 a h3 h9]
        show va_up (va_up M 9 _) 3 _ a = M a
        rw [va_up_ne _ _ h3, va_up_ne _ _ h9]
      · rw [a3 i (by omega), r3, pk_un (by omega)]
      · cases j with
        | zero => exact ⟨y, y1, (a3 f (by omega)).trans (by rw [r3, pk_us]), hy⟩
        | succ j =>
          obtain ⟨c, c1, c2, c3⟩ := a4 j (by omega)
          exact ⟨c, c1, by rw [show f + (j + 1) = f + 1 + j by omega]; exact c2, y, hy, c3⟩
