/-! What two have in common. -/
/-- reachable from both, and not under one that is -/
def baS (M : Mt) (n a b c : Nat) : Prop := (RC M a c ∧ RC M b c) ∧ ¬ ∃ y, y < n ∧ (RC M a y ∧ RC M b y) ∧ ∃ s, s < pcn M y ∧ RC M (par M y s) c
def bm0 (M : Mt) (n a b : Nat) : Mt := va_up (va_up (clF n 0 M) 8 (upd (clF n 0 M 8) a (clF n 0 M 8 a ||| nI 1))) 8 (upd (va_up (clF n 0 M) 8 (upd (clF n 0 M 8) a (clF n 0 M 8 a ||| nI 1)) 8) b (va_up (clF n 0 M) 8 (upd (clF n 0 M 8) a (clF n 0 M 8 a ||| nI 1)) 8 b ||| nI 2))
theorem bm0_row {M : Mt} {n a b r : Nat} (h : r ≠ 8) : bm0 M n a b r = M r := by rw [bm0, va_up_ne _ _ h, va_up_ne _ _ h, clF_row h]
theorem bm0_at {M : Mt} {n a b x : Nat} (ha : a < n) (hb : b < n) (hx : x < n) : bm0 M n a b 8 x = (if x = a then nI 1 else nI 0) ||| (if x = b then nI 2 else nI 0) := by
  have z : ∀ y, y < n → clF n 0 M 8 y = nI 0 := fun y hy => clF_at (Nat.zero_le _) (by omega)
  rw [bm0, va_up_self, va_up_self, z a ha]
  by_cases e1 : x = b
  · subst e1
    rw [pk_us, if_pos rfl]
    by_cases e2 : x = a
    · subst e2; rw [pk_us, if_pos rfl]; decide
    · rw [pk_un e2, if_neg e2, z x hx]
  · rw [pk_un e1, if_neg e1]
    by_cases e2 : x = a
    · subst e2; rw [pk_us, if_pos rfl]; decide
    · rw [pk_un e2, if_neg e2, z x hx]; decide
section BM
variable {M : Mt} {n a b : Nat}
theorem bm0_1 {x : Nat} (ha : a < n) (hb : b < n) (hx : x < n) : ¬ bm0 M n a b 8 x &&& nI 1 = 0 ↔ x = a := by
  rw [bm0_at ha hb hx]
  by_cases e1 : x = a
  · rw [if_pos e1]
    by_cases e2 : x = b
    · rw [if_pos e2]; exact ⟨fun _ => e1, fun _ => by decide⟩
    · rw [if_neg e2]; exact ⟨fun _ => e1, fun _ => by decide⟩
  · rw [if_neg e1]
    by_cases e2 : x = b
    · rw [if_pos e2]; exact ⟨fun h => absurd (by decide) h, fun h => absurd h e1⟩
    · rw [if_neg e2]; exact ⟨fun h => absurd (by decide) h, fun h => absurd h e1⟩
theorem bm0_2 {x : Nat} (ha : a < n) (hb : b < n) (hx : x < n) : ¬ bm0 M n a b 8 x &&& nI 2 = 0 ↔ x = b := by
  rw [bm0_at ha hb hx]
  by_cases e2 : x = b
  · rw [if_pos e2]
    by_cases e1 : x = a
    · rw [if_pos e1]; exact ⟨fun _ => e2, fun _ => by decide⟩
    · rw [if_neg e1]; exact ⟨fun _ => e2, fun _ => by decide⟩
  · rw [if_neg e2]
    by_cases e1 : x = a
    · rw [if_pos e1]; exact ⟨fun h => absurd (by decide) h, fun h => absurd h e2⟩
    · rw [if_neg e1]; exact ⟨fun h => absurd (by decide) h, fun h => absurd h e2⟩
theorem bm0_m {m : Int32} (h0 : nI 0 ||| nI 0 &&& m = 0) {x : Nat} (hm : (nI 1 ||| nI 2) &&& m = 0 ∧ (nI 1 ||| nI 0) &&& m = 0 ∧ (nI 0 ||| nI 2) &&& m = 0 ∧ (nI 0 ||| nI 0) &&& m = 0) (ha : a < n) (hb : b < n) (hx : x < n) : bm0 M n a b 8 x &&& m = 0 := by
  rw [bm0_at ha hb hx]
  by_cases e1 : x = a
  · rw [if_pos e1]
    by_cases e2 : x = b
    · rw [if_pos e2]; exact hm.1
    · rw [if_neg e2]; exact hm.2.1
  · rw [if_neg e1]
    by_cases e2 : x = b
    · rw [if_pos e2]; exact hm.2.2.1
    · rw [if_neg e2]; exact hm.2.2.2
theorem bm_eq : bmF M n a b = spF n (bm0 M n a b) := rfl
theorem bm_row {r : Nat} (h : r ≠ 8) : bmF M n a b r = M r := by rw [bm_eq, spF_row h, bm0_row h]
theorem bm_reach {m : Int32} (hm : nI 4 &&& m = 0) {q : Nat} (h : ∀ x, x < n → (¬ bm0 M n a b 8 x &&& m = 0 ↔ x = q)) (ok : okN M n) (hq : q < n) {c : Nat} (hc : c < n) : ¬ bmF M n a b 8 c &&& m = 0 ↔ RC M q c := by
  rw [bm_eq, spF_reach (B := fun x => ¬ x &&& m = 0) (orm_ne m) (hd_m hm) (ok.rows (bm0_row (by decide)) (bm0_row (by decide))) hc]
  constructor
  · rintro ⟨x, h1, h2, h3⟩
    obtain rfl := (h x h1).mp h2
    exact (RC_rows (bm0_row (by decide)) (bm0_row (by decide))).mp h3
  · intro h3
    exact ⟨q, hq, (h q hq).mpr rfl, (RC_rows (bm0_row (by decide)) (bm0_row (by decide))).mpr h3⟩
theorem bm_cm (ok : okN M n) (ha : a < n) (hb : b < n) {c : Nat} (hc : c < n) : bmF M n a b 8 c &&& nI 3 = nI 3 ↔ RC M a c ∧ RC M b c := by
  rw [cm_iff, bm_reach (by decide) (fun x hx => bm0_1 ha hb hx) ok ha hc, bm_reach (by decide) (fun x hx => bm0_2 ha hb hx) ok hb hc]
theorem bm_3 (ok : okN M n) (ha : a < n) (hb : b < n) {c : Nat} (hc : c < n) : bmF M n a b 8 c = nI 3 ↔ baS M n a b c := by
  have h8 : bmF M n a b 8 c &&& (-8) = 0 := by
    refine Decidable.byContradiction (fun h => ?_)
    rw [bm_eq, spF_reach (B := fun x => ¬ x &&& (-8) = 0) (orm_ne (-8)) (hd_m (by decide)) (ok.rows (bm0_row (by decide)) (bm0_row (by decide))) hc] at h
    obtain ⟨x, h1, h2, -⟩ := h
    exact h2 (bm0_m (by decide) (by decide) ha hb h1)
  have h4 : ¬ bmF M n a b 8 c &&& nI 4 = 0 ↔ ∃ y, y < n ∧ (RC M a y ∧ RC M b y) ∧ ∃ s, s < pcn M y ∧ RC M (par M y s) c := by
    have e4 : bm0 M n a b 4 = M 4 := bm0_row (by decide)
    have e5 : bm0 M n a b 5 = M 5 := bm0_row (by decide)
    have ep : ∀ y, pcn (bm0 M n a b) y = pcn M y := fun y => by rw [pcn, pcn, e4]
    have ea : ∀ y s, par (bm0 M n a b) y s = par M y s := fun y s => by rw [par, par, e5]
    rw [bm_eq, sp_four (ok.rows e4 e5) (fun x hx => bm0_m (by decide) (by decide) ha hb hx) hc]
    simp only [ep, ea, RC_rows e4 e5]
    constructor
    · rintro ⟨y, y1, y2, y3⟩
      exact ⟨y, y1, (bm_cm ok ha hb y1).mp y2, y3⟩
    · rintro ⟨y, y1, y2, y3⟩
      exact ⟨y, y1, (bm_cm ok ha hb y1).mpr y2, y3⟩
  rw [mk_3 h8, bm_cm ok ha hb hc, baS, ← h4, Decidable.not_not]
end BM
/-! The same on the one side. -/
theorem b1F_keep {j : Nat} : ∀ {d i : Nat} {M : Mt}, j < i → b1F d i M 7 j = M 7 j ∧ b1F d i M 8 j = M 8 j ∧ b1F d i M 9 j = M 9 j := by
  intro d
  induction d with
  | zero => intro i M _; exact ⟨rfl, rfl, rfl⟩
  | succ d ih =>
    intro i M h
    rw [b1F]
    obtain ⟨a, b, c⟩ := ih (i := i + 1) (M := b1S M i (an2 M i)) (by omega)
    rw [a, b, c]
    refine ⟨?_, ?_, ?_⟩
    · show upd (M 7) i _ j = _; rw [pk_un (by omega)]
    · show upd (M 8) i _ j = _; rw [pk_un (by omega)]
    · show upd (M 9) i _ j = _; rw [pk_un (by omega)]
theorem b1F_at {j : Nat} : ∀ {d i : Nat} {M : Mt}, i ≤ j → j < i + d → b1F d i M 7 j = an2 M j ∧ b1F d i M 8 j = nI 0 ∧ b1F d i M 9 j = an2 M j := by
  intro d
  induction d with
  | zero => intro i M h1 h2; omega
  | succ d ih =>
    intro i M h1 h2
    rw [b1F]
    by_cases e : j = i
    · subst e
      obtain ⟨a, b, c⟩ := b1F_keep (d := d) (i := j + 1) (M := b1S M j (an2 M j)) (j := j) (by omega)
      rw [a, b, c]
      refine ⟨?_, ?_, ?_⟩
      · show upd (M 7) j _ j = _; rw [pk_us]
      · show upd (M 8) j _ j = _; rw [pk_us]
      · show upd (M 9) j _ j = _; rw [pk_us]
    · obtain ⟨a, b, c⟩ := ih (i := i + 1) (M := b1S M i (an2 M i)) (by omega) (by omega)
      have en : an2 (b1S M i (an2 M i)) j = an2 M j := by
        have e7 : b1S M i (an2 M i) 7 j = M 7 j := by show upd (M 7) i _ j = _; rw [pk_un e]
        have e8 : b1S M i (an2 M i) 8 j = M 8 j := by show upd (M 8) i _ j = _; rw [pk_un e]
        show (if b1S M i (an2 M i) 7 j = 0 then nI 0 else if b1S M i (an2 M i) 8 j = 0 then nI 0 else nI 1) = (if M 7 j = 0 then nI 0 else if M 8 j = 0 then nI 0 else nI 1)
        rw [e7, e8]
      rw [a, b, c, en]
      exact ⟨rfl, rfl, rfl⟩
theorem an2_iff {M : Mt} {i : Nat} : ¬ an2 M i = 0 ↔ ¬ M 7 i = 0 ∧ ¬ M 8 i = 0 := by
  rw [an2]
  by_cases h7 : M 7 i = 0
  · rw [if_pos h7]; exact ⟨fun h => absurd rfl h, fun h => absurd h7 h.1⟩
  · rw [if_neg h7]
    by_cases h8 : M 8 i = 0
    · rw [if_pos h8]; exact ⟨fun h => absurd rfl h, fun h => absurd h8 h.2⟩
    · rw [if_neg h8]; exact ⟨fun _ => ⟨h7, h8⟩, fun _ => by decide⟩
theorem b2_bit : ∀ {d i : Nat} {M : Mt} (c : Nat), ¬ b2F d i M 8 c = 0 ↔ ¬ M 8 c = 0 ∨ ∃ y, i ≤ y ∧ y < i + d ∧ ¬ M 7 y = 0 ∧ ∃ s, s < pcn M y ∧ par M y s = c := by
  intro d
  induction d with
  | zero =>
    intro i M c
    exact ⟨Or.inl, fun h => h.elim id (fun ⟨y, h1, h2, _⟩ => by omega)⟩
  | succ d ih =>
    intro i M c
    rw [b2F]
    by_cases e : M 7 i = 0
    · rw [if_pos e, ih]
      constructor
      · rintro (h | ⟨y, h1, h2, h3⟩)
        · exact Or.inl h
        · exact Or.inr ⟨y, by omega, by omega, h3⟩
      · rintro (h | ⟨y, h1, h2, h3⟩)
        · exact Or.inl h
        · by_cases ey : y = i
          · subst ey; exact absurd e h3.1
          · exact Or.inr ⟨y, by omega, by omega, h3⟩
    · rw [if_neg e, ih, stF_bit (by decide)]
      have e4 : ∀ y, pcn (stF 8 i (pcn M i) 0 M) y = pcn M y := fun y => by rw [pcn, stF_row (by decide), pcn]
      have e5 : ∀ y s, par (stF 8 i (pcn M i) 0 M) y s = par M y s := fun y s => by rw [par, stF_row (by decide), par]
      have e7 : stF 8 i (pcn M i) 0 M 7 = M 7 := stF_row (by decide)
      simp only [e4, e5, e7]
      constructor
      · rintro ((h | ⟨s, h1, h2, h3⟩) | ⟨y, h1, h2, h3⟩)
        · exact Or.inl h
        · exact Or.inr ⟨i, Nat.le_refl _, by omega, e, s, by omega, h3⟩
        · exact Or.inr ⟨y, by omega, by omega, h3⟩
      · rintro (h | ⟨y, h1, h2, h3, s, h4, h5⟩)
        · exact Or.inl (Or.inl h)
        · by_cases ey : y = i
          · subst ey; exact Or.inl (Or.inr ⟨s, Nat.zero_le _, by omega, h5⟩)
          · exact Or.inr ⟨y, by omega, by omega, h3, s, h4, h5⟩
theorem b3F_keep {j : Nat} : ∀ {d i : Nat} {M : Mt}, j < i → b3F d i M 9 j = M 9 j := by
  intro d
  induction d with
  | zero => intro i M _; rfl
  | succ d ih =>
    intro i M h
    rw [b3F, ih (by omega)]
    by_cases e : M 8 i = 0
    · rw [if_pos e]
    · rw [if_neg e, va_up_self, pk_un (by omega)]
theorem b3F_at {j : Nat} : ∀ {d i : Nat} {M : Mt}, i ≤ j → j < i + d → b3F d i M 9 j = if M 8 j = 0 then M 9 j else nI 0 := by
  intro d
  induction d with
  | zero => intro i M h1 h2; omega
  | succ d ih =>
    intro i M h1 h2
    rw [b3F]
    by_cases e : j = i
    · subst e
      rw [b3F_keep (by omega)]
      by_cases e8 : M 8 j = 0
      · rw [if_pos e8, if_pos e8]
      · rw [if_neg e8, if_neg e8, va_up_self, pk_us]
    · rw [ih (by omega) (by omega)]
      by_cases e8 : M 8 i = 0
      · rw [if_pos e8]
      · rw [if_neg e8, va_up_self, pk_un e, va_up_ne _ _ (by decide)]
theorem ba0_row {N : Mt} {n a b r : Nat} (h7 : r ≠ 7) (h8 : r ≠ 8) : ba0 N n a b r = N r := by rw [ba0, frF_row h8, frF_row h7]
theorem baR_row {N : Mt} {n a b r : Nat} (h7 : r ≠ 7) (h8 : r ≠ 8) (h9 : r ≠ 9) : baR N n a b r = N r := by rw [baR, b3F_row h9, crF_row h8, b2F_row h8, b1F_row h7 h8 h9, ba0_row h7 h8]
theorem baR_iff {N : Mt} {n a b c : Nat} (ok : okN N n) (ha : a < n) (hb : b < n) (hc : c < n) : ¬ baR N n a b 9 c = 0 ↔ baS N n a b c := by
  have cmm : ∀ y, y < n → (¬ an2 (ba0 N n a b) y = 0 ↔ RC N a y ∧ RC N b y) := by
    intro y hy
    rw [an2_iff, ba0, frF_row (a := 7) (by decide), frF_iff (r := 7) (by decide) (by decide) ok ha hy, frF_iff (r := 8) (by decide) (by decide) (ok.rows (frF_row (by decide)) (frF_row (by decide))) hb hy, RC_rows (frF_row (by decide)) (frF_row (by decide))]
  have f4 : b1F n 0 (ba0 N n a b) 4 = N 4 := by rw [b1F_row (by decide) (by decide) (by decide), ba0_row (by decide) (by decide)]
  have f5 : b1F n 0 (ba0 N n a b) 5 = N 5 := by rw [b1F_row (by decide) (by decide) (by decide), ba0_row (by decide) (by decide)]
  have g4 : b2F n 0 (b1F n 0 (ba0 N n a b)) 4 = N 4 := by rw [b2F_row (by decide), f4]
  have g5 : b2F n 0 (b1F n 0 (ba0 N n a b)) 5 = N 5 := by rw [b2F_row (by decide), f5]
  have ep : ∀ y, pcn (b1F n 0 (ba0 N n a b)) y = pcn N y := fun y => by rw [pcn, pcn, f4]
  have ea : ∀ y s, par (b1F n 0 (ba0 N n a b)) y s = par N y s := fun y s => by rw [par, par, f5]
  have low : ¬ crF 8 n (b2F n 0 (b1F n 0 (ba0 N n a b))) 8 c = 0 ↔ ∃ y, y < n ∧ (RC N a y ∧ RC N b y) ∧ ∃ s, s < pcn N y ∧ RC N (par N y s) c := by
    rw [crF_reach (by decide) (by decide) (ok.rows g4 g5) hc]
    simp only [RC_rows g4 g5]
    constructor
    · rintro ⟨x, x1, x2, x3⟩
      rcases (b2_bit x).mp x2 with h | ⟨y, -, y2, y3, s, y4, y5⟩
      · rw [(b1F_at (Nat.zero_le _) (by omega)).2.1] at h
        exact absurd rfl h
      · rw [Nat.zero_add] at y2
        rw [(b1F_at (Nat.zero_le _) (by omega)).1] at y3
        rw [ep] at y4
        rw [ea] at y5
        exact ⟨y, y2, (cmm y y2).mp y3, s, y4, by rw [y5]; exact x3⟩
    · rintro ⟨y, y1, y2, s, y3, y4⟩
      have := ok.lt y1 y3
      refine ⟨par N y s, by omega, (b2_bit _).mpr (Or.inr ⟨y, Nat.zero_le _, by omega, ?_, s, by rw [ep]; exact y3, ea y s⟩), y4⟩
      rw [(b1F_at (Nat.zero_le _) (by omega)).1]
      exact (cmm y y1).mpr y2
  rw [baR, b3F_at (Nat.zero_le _) (by omega), baS, ← low]
  by_cases e : crF 8 n (b2F n 0 (b1F n 0 (ba0 N n a b))) 8 c = 0
  · rw [if_pos e, crF_row (by decide), b2F_row (by decide), (b1F_at (Nat.zero_le _) (by omega)).2.2, cmm c hc]
    exact ⟨fun h => ⟨h, fun g => g e⟩, fun h => h.1⟩
  · rw [if_neg e]
    exact ⟨fun h => absurd rfl h, fun h => absurd e h.2⟩
theorem Inv.bS {M N : Mt} {n k f a b c : Nat} (hI : Inv M n k N f) (ha : a < n) (hb : b < n) : baS N n a b c ↔ baS M n a b c := by
  have key : (∃ y, y < n ∧ (RC N a y ∧ RC N b y) ∧ ∃ s, s < pcn N y ∧ RC N (par N y s) c) ↔ ∃ y, y < n ∧ (RC M a y ∧ RC M b y) ∧ ∃ s, s < pcn M y ∧ RC M (par M y s) c := by
    constructor
    · rintro ⟨y, y1, ⟨y2, y3⟩, s, y4, y5⟩
      rw [hI.pc y1] at y4
      have := hI.ok.lt y1 y4
      rw [hI.pa y1 y4] at y5
      exact ⟨y, y1, ⟨(hI.rc ha).mp y2, (hI.rc hb).mp y3⟩, s, y4, (hI.rc (by omega)).mp y5⟩
    · rintro ⟨y, y1, ⟨y2, y3⟩, s, y4, y5⟩
      have := hI.ok.lt y1 y4
      exact ⟨y, y1, ⟨(hI.rc ha).mpr y2, (hI.rc hb).mpr y3⟩, s, by rw [hI.pc y1]; exact y4, by rw [hI.pa y1 y4]; exact (hI.rc (by omega)).mpr y5⟩
  rw [baS, baS, key, hI.rc ha, hI.rc hb]
theorem Inv.bR {M N : Mt} {n k f a b : Nat} (hI : Inv M n k N f) (ha : a < n) (hb : b < n) : qS (rkT M) (M 2) (fun x => rN n (baR N n a b) x = true) (baU M n a b).1 (baU M n a b).2 ∧ (baU M n a b).2 = cL (baR N n a b) n ∧ ∀ r, noQ r → r ≠ 8 → (baU M n a b).1 r = M r := by
  have hn := hI.ok.1
  have eq : ∀ x, x < n → (bmF M n a b 8 x = nI 3 ↔ ¬ baR N n a b 9 x = 0) := fun x hx => by rw [bm_3 hI.ok ha hb hx, baR_iff hI.ok2 ha hb hx, hI.bS ha hb]
  obtain ⟨a1, a2, a3⟩ := bsF_ok (rk := rkT M) (ky := M 2) (mk := bmF M n a b 8) (d := n) (i := 0) (u := (bmF M n a b, 0)) (by omega) (by funext x; show bmF M n a b 1 x ^^^ (-1) = M 1 x ^^^ (-1); rw [bm_row (by decide)]) (bm_row (by decide)) rfl (qS.empty (fun x hx => absurd hx.1 (Nat.not_lt_zero x))) (Nat.le_refl 0)
  refine ⟨a1.set (fun x => ?_), ?_, fun r hr h8 => (a3 r hr).trans (bm_row h8)⟩
  · rw [rN_iff, Nat.zero_add]
    exact ⟨fun ⟨x1, x2⟩ => ⟨x1, (eq x x1).mp x2⟩, fun ⟨x1, x2⟩ => ⟨x1, (eq x x1).mpr x2⟩⟩
  · rw [baU, a2, Nat.zero_add, cL]
    exact cn_congr (fun j hj => by rw [decide_eq_true_iff, decide_eq_true_iff]; exact eq j hj)
theorem orU_nth {N : Mt} {n a b : Nat} : (orU N n a b).2 = cL (baR N n a b) n ∧ (∀ r, r ≠ 3 → r ≠ 9 → (orU N n a b).1 r = baR N n a b r) ∧ ∀ j, j < cL (baR N n a b) n → ∃ c, c < n ∧ (orU N n a b).1 3 j = nI c ∧ nth Fa (rkT (baR N n a b)) (baR N n a b 2) j (rN n (baR N n a b)) c := by
  obtain ⟨a1, a2, -, a4⟩ := orF_nth (z := n) (d := n) (M := baR N n a b) (f := 0) cL_le
  refine ⟨a1.trans (Nat.zero_add _), a2, fun j hj => ?_⟩
  obtain ⟨c, c1, c2, c3⟩ := a4 j hj
  rw [Nat.zero_add] at c2
  exact ⟨c, c1, c2, c3⟩
theorem Inv.ba {M N : Mt} {n k f a b j : Nat} (hI : Inv M n k N f) (ha : a < n) (hb : b < n) (hj : j < cL (baR N n a b) n) : tkR (qaF j (baU M n a b)).1 (qaF j (baU M n a b)).2 = (orU N n a b).1 3 j := by
  obtain ⟨q1, q2, -⟩ := hI.bR ha hb
  obtain ⟨c, c1, c2⟩ := qa_nth q1 (by rw [q2]; exact hj)
  obtain ⟨d, d1, d2, d3⟩ := orU_nth.2.2 j hj
  have d5 := nth.congr Fa_r (rk' := rkT M) (ky' := M 2) (fun x hx => by
    obtain ⟨b1, b2, -, -⟩ := hI.2.1 x (rN_iff.mp hx).1
    refine ⟨?_, ?_⟩
    · show baR N n a b 1 x ^^^ (-1) = M 1 x ^^^ (-1)
      rw [baR_row (by decide) (by decide) (by decide), b1]
    · rw [baR_row (by decide) (by decide) (by decide), b2]) d3
  obtain rfl := nth.uniq c1 d5
  rw [c2, d2]

set_option maxHeartbeats 4000000 in
set_option maxRecDepth 100000 in
theorem st_base {l : Launch} (hs0 : l.stackTraces = false) {E : En} {a2 : Nat → Nat} {qo : Nat} {cJ : ClassId} (dn : dN E) (dm : dM (e2 E a2)) (ap : apo E qo) {M : Mt} {n k : Nat} {g : Nat → Int64} {N : Mt} {t f : Nat} (hI : Inv M n k N f) (hn : n ≤ 600) (p1 p2 p3 : Int32) : AgI l E a2 qo cJ Inv yL_base (.codeWith yL_base cL_base 6 (some .int) [(0, 12, 15, 13), (0, 12, 19, 33)]) [.ref (ad E 0), .int p1, .int p2, .int p3, .ref qo] yX2_base (.code yX2_base cX2_base 6 (some .int)) [.int p1, .int p2, .int p3] PI M n k g N t f := by
  have hn2 : n ≤ 2000 := by omega
  rcases argC p1 hn2 with ⟨a, ha, rfl⟩ | h1
  · rcases argC p2 hn2 with ⟨b, hb, rfl⟩ | h1
    · have hk := cL_le (M := baR N n a b) (z := n)
      have hq := (hI.bR ha hb).2.1
      have ho := (orU_nth (N := N) (n := n) (a := a) (b := b)).1
      rcases argP p3 (n := cL (baR N n a b) n) (by omega) with rfl | ⟨j, hj, rfl⟩ | ⟨h2, h3⟩
      · exact ⟨0, _, _, _, _, _, _, _, _, _, by decide, w_L_base_good dn ap (by decide) (by decide) (c_X1_base_a dn ha hb hI.ok), c_X2_base_a dm ha hb hI.ok2, fun _ => by rw [pk_uLs, hq, ho], hI.same ((hI.bR ha hb).2.2 1 (noq (by decide)) (by decide)) ((hI.bR ha hb).2.2 2 (noq (by decide)) (by decide)) ((hI.bR ha hb).2.2 3 (noq (by decide)) (by decide)) ((hI.bR ha hb).2.2 4 (noq (by decide)) (by decide)) ((hI.bR ha hb).2.2 5 (noq (by decide)) (by decide)) ((hI.bR ha hb).2.2 6 (noq (by decide)) (by decide)) ((hI.bR ha hb).2.2 7 (noq (by decide)) (by decide)) ((orU_nth.2.1 1 (by decide) (by decide)).trans (baR_row (by decide) (by decide) (by decide))) ((orU_nth.2.1 2 (by decide) (by decide)).trans (baR_row (by decide) (by decide) (by decide))) ((orU_nth.2.1 4 (by decide) (by decide)).trans (baR_row (by decide) (by decide) (by decide))) ((orU_nth.2.1 5 (by decide) (by decide)).trans (baR_row (by decide) (by decide) (by decide))) ((orU_nth.2.1 6 (by decide) (by decide)).trans (baR_row (by decide) (by decide) (by decide))), Nat.le_succ _, by decide, by decide⟩
      · exact ⟨0, _, _, _, _, _, _, _, _, _, by decide, w_L_base_good dn ap (by decide) (by decide) (c_X1_base_b dn ha hb hI.ok (by rw [hq]; exact hj)), c_X2_base_b dm ha hb hI.ok2 (by rw [ho]; exact hj), fun _ => by rw [pk_uLs, hI.ba ha hb hj], hI.same ((tkF_row (by decide) (by decide) (by decide)).trans ((qaF_row (noq (by decide))).trans ((hI.bR ha hb).2.2 1 (noq (by decide)) (by decide)))) ((tkF_row (by decide) (by decide) (by decide)).trans ((qaF_row (noq (by decide))).trans ((hI.bR ha hb).2.2 2 (noq (by decide)) (by decide)))) ((tkF_row (by decide) (by decide) (by decide)).trans ((qaF_row (noq (by decide))).trans ((hI.bR ha hb).2.2 3 (noq (by decide)) (by decide)))) ((tkF_row (by decide) (by decide) (by decide)).trans ((qaF_row (noq (by decide))).trans ((hI.bR ha hb).2.2 4 (noq (by decide)) (by decide)))) ((tkF_row (by decide) (by decide) (by decide)).trans ((qaF_row (noq (by decide))).trans ((hI.bR ha hb).2.2 5 (noq (by decide)) (by decide)))) ((tkF_row (by decide) (by decide) (by decide)).trans ((qaF_row (noq (by decide))).trans ((hI.bR ha hb).2.2 6 (noq (by decide)) (by decide)))) ((tkF_row (by decide) (by decide) (by decide)).trans ((qaF_row (noq (by decide))).trans ((hI.bR ha hb).2.2 7 (noq (by decide)) (by decide)))) ((orU_nth.2.1 1 (by decide) (by decide)).trans (baR_row (by decide) (by decide) (by decide))) ((orU_nth.2.1 2 (by decide) (by decide)).trans (baR_row (by decide) (by decide) (by decide))) ((orU_nth.2.1 4 (by decide) (by decide)).trans (baR_row (by decide) (by decide) (by decide))) ((orU_nth.2.1 5 (by decide) (by decide)).trans (baR_row (by decide) (by decide) (by decide))) ((orU_nth.2.1 6 (by decide) (by decide)).trans (baR_row (by decide) (by decide) (by decide))), Nat.le_succ _, by decide, by decide⟩
      · exact ⟨2, nI 0, _, _, _, _, _, _, _, _, by decide, w_L_base_NSE dn ap (by decide) (by decide) (t_X1_base_c hs0 dn ha hb hI.ok h2 (by rw [hq]; exact h3)), c_X2_base_c dm ha hb hI.ok2 h2 (by rw [ho]; exact h3), fun h => absurd h (by decide), hI.same ((hI.bR ha hb).2.2 1 (noq (by decide)) (by decide)) ((hI.bR ha hb).2.2 2 (noq (by decide)) (by decide)) ((hI.bR ha hb).2.2 3 (noq (by decide)) (by decide)) ((hI.bR ha hb).2.2 4 (noq (by decide)) (by decide)) ((hI.bR ha hb).2.2 5 (noq (by decide)) (by decide)) ((hI.bR ha hb).2.2 6 (noq (by decide)) (by decide)) ((hI.bR ha hb).2.2 7 (noq (by decide)) (by decide)) ((orU_nth.2.1 1 (by decide) (by decide)).trans (baR_row (by decide) (by decide) (by decide))) ((orU_nth.2.1 2 (by decide) (by decide)).trans (baR_row (by decide) (by decide) (by decide))) ((orU_nth.2.1 4 (by decide) (by decide)).trans (baR_row (by decide) (by decide) (by decide))) ((orU_nth.2.1 5 (by decide) (by decide)).trans (baR_row (by decide) (by decide) (by decide))) ((orU_nth.2.1 6 (by decide) (by decide)).trans (baR_row (by decide) (by decide) (by decide))), Nat.le_succ _, by decide, by decide⟩
    · exact ⟨1, nI 0, _, _, _, _, _, _, _, _, by decide, w_L_base_IAE dn ap (by decide) (by decide) (t_X1_base_b hs0 dn ha hI.ok h1), r_X2_base dm (Or.inr h1), fun h => absurd h (by decide), hI, Nat.le_succ _, by decide, by decide⟩
  · exact ⟨1, nI 0, _, _, _, _, _, _, _, _, by decide, w_L_base_IAE dn ap (by decide) (by decide) (t_X1_base_a hs0 dn h1), r_X2_base dm (Or.inl h1), fun h => absurd h (by decide), hI, Nat.le_succ _, by decide, by decide⟩
