/-! The methods as functions of the rows. -/
abbrev ix (x : Int32) : Nat := x.toNatClampNeg
def bI (b : Bool) : Int32 := if b = true then nI 1 else nI 0
def cbF (M : Nat → Nat → Int32) (x y : Nat) : Bool := if M 11 x = M 11 y then (if M 12 x = M 12 y then decide (M 13 x < M 13 y) else decide (M 12 x < M 12 y)) else decide (M 11 x < M 11 y)
def sw1 (f : Nat → Int32) (x y : Nat) : Nat → Int32 := upd (upd f x (f y)) y (f x)
def swF (M : Nat → Nat → Int32) (x y : Nat) : Nat → Nat → Int32 := va_up (va_up (va_up M 11 (sw1 (M 11) x y)) 12 (sw1 (M 12) x y)) 13 (sw1 (M 13) x y)
def riF : Nat → (Nat → Nat → Int32) → Nat → (Nat → Nat → Int32)
  | 0, M, _ => M
  | f + 1, M, p => if p = 0 then M else if cbF M ((p - 1) / 2) p = true then M else riF f (swF M ((p - 1) / 2) p) ((p - 1) / 2)
def chF (M : Nat → Nat → Int32) (k p : Nat) : Nat := if 2 * p + 1 + 1 < k ∧ cbF M (2 * p + 1 + 1) (2 * p + 1) = true then 2 * p + 1 + 1 else 2 * p + 1
def siF : Nat → (Nat → Nat → Int32) → Nat → Nat → (Nat → Nat → Int32)
  | 0, M, _, _ => M
  | f + 1, M, k, p => if 2 * p + 1 < k then (if cbF M p (chF M k p) = true then M else siF f (swF M p (chF M k p)) k (chF M k p)) else M
def ptF (M : Nat → Nat → Int32) (k : Nat) (r ky nm : Int32) : Nat → Nat → Int32 := va_up (va_up (va_up M 11 (upd (M 11) k r)) 12 (upd (M 12) k ky)) 13 (upd (M 13) k nm)
def puF (M : Nat → Nat → Int32) (k : Nat) (r ky nm : Int32) : Nat → Nat → Int32 := if 2000 ≤ k then M else riF k (ptF M k r ky nm) k
def puK (k : Nat) : Nat := if 2000 ≤ k then k else k + 1
def tkR (M : Nat → Nat → Int32) (k : Nat) : Int32 := if k = 0 then -1 else M 13 0
def tkF (M : Nat → Nat → Int32) (k : Nat) : Nat → Nat → Int32 := if k = 0 then M else siF (k - 1) (swF M 0 (k - 1)) (k - 1) 0
theorem riF_0 (f : Nat) (M : Nat → Nat → Int32) : riF f M 0 = M := by cases f <;> simp [riF]
theorem riF_s {f p : Nat} {M : Nat → Nat → Int32} (h : 0 < p) : riF (f + 1) M p = if cbF M ((p - 1) / 2) p = true then M else riF f (swF M ((p - 1) / 2) p) ((p - 1) / 2) := by
  rw [riF, if_neg (by omega)]
theorem siF_e {f k p : Nat} {M : Nat → Nat → Int32} (h : ¬ 2 * p + 1 < k) : siF f M k p = M := by
  cases f with
  | zero => rfl
  | succ f => rw [siF, if_neg h]
theorem siF_s {f k p : Nat} {M : Nat → Nat → Int32} (h : 2 * p + 1 < k) : siF (f + 1) M k p = if cbF M p (chF M k p) = true then M else siF f (swF M p (chF M k p)) k (chF M k p) := by
  rw [siF, if_pos h]
def pcn (M : Nat → Nat → Int32) (c : Nat) : Nat := ix (M 4 c)
def par (M : Nat → Nat → Int32) (c s : Nat) : Nat := ix (M 5 (c * 4 + s))
/-- what keeps every index in range: counts of parents are at most four, parents lie below -/
def okN (M : Nat → Nat → Int32) (n : Nat) : Prop := n ≤ 2000 ∧ ∀ c, c < n → pcn M c ≤ 4 ∧ M 4 c = nI (pcn M c) ∧ ∀ s, s < pcn M c → par M c s < c ∧ M 5 (c * 4 + s) = nI (par M c s)
def sdF (h : Nat) : Int32 := if h = 0 then nI 1 else nI 2
/-- clear the marks of d commits from i on -/
def clF : Nat → Nat → (Nat → Nat → Int32) → (Nat → Nat → Int32)
  | 0, _, M => M
  | d + 1, i, M => clF d (i + 1) (va_up M 8 (upd (M 8) i (nI 0)))
def mhF : Nat → Nat → (Nat → Nat → Int32) → (Nat → Nat → Int32)
  | 0, _, M => M
  | d + 1, i, M => mhF d (i + 1) (va_up M 8 (upd (M 8) i (M 7 i)))
def cmF (M : Nat → Nat → Int32) (c : Nat) : Bool := decide (M 8 c &&& nI 3 = nI 3)
def hdF (M : Nat → Nat → Int32) (c : Nat) : Int32 := if cmF M c = true then M 8 c ||| nI 4 else M 8 c
/-- hand h down to the parents of c: d slots from t on -/
def inF (c : Nat) (h : Int32) : Nat → Nat → (Nat → Nat → Int32) → (Nat → Nat → Int32)
  | 0, _, M => M
  | d + 1, t, M => inF c h d (t + 1) (va_up M 8 (upd (M 8) (par M c t) (M 8 (par M c t) ||| h)))
def spF : Nat → (Nat → Nat → Int32) → (Nat → Nat → Int32)
  | 0, M => M
  | c + 1, M => spF c (inF c (hdF M c) (pcn M c) 0 M)
def mrF (M : Nat → Nat → Int32) (n c : Nat) : Nat → Nat → Int32 := spF n (va_up (clF n 0 M) 8 (upd (clF n 0 M 8) c (nI 1)))
def hlF (M : Nat → Nat → Int32) (n : Nat) : Nat → Nat → Int32 := spF n (mhF n 0 M)
/-- how many of d from i on have b, more than a -/
def cnF (b : Nat → Bool) : Nat → Nat → Nat → Nat
  | 0, _, a => a
  | d + 1, i, a => cnF b d (i + 1) (if b i = true then a + 1 else a)
def ggF (f : Nat → Int32) : Nat → Nat → Int32 → Int32
  | 0, _, a => a
  | d + 1, i, a => ggF f d (i + 1) (if a < f i then f i else a)
def hnF (M : Nat → Nat → Int32) (c : Nat) : Nat → Nat → Bool
  | 0, _ => false
  | d + 1, t => if c ≤ par M c t then true else hnF M c d (t + 1)
def lkF (M : Nat → Nat → Int32) (c p : Nat) : Nat → Nat → Int32 :=
  va_up (va_up (va_up (va_up M 5 (upd (M 5) (c * 4 + pcn M c) (nI p))) 4 (upd (M 4) c (M 4 c + nI 1))) 6 (upd (M 6) p (nI 1))) 3 (upd (M 3) c (if M 3 c < M 3 p + nI 1 then M 3 p + nI 1 else M 3 c))
def u1F : Nat → Nat → (Nat → Nat → Int32) → (Nat → Nat → Int32)
  | 0, _, M => M
  | d + 1, i, M => u1F d (i + 1) (va_up M 9 (upd (M 9) i (nI 0)))
def u2F (c : Nat) : Nat → Nat → (Nat → Nat → Int32) → (Nat → Nat → Int32)
  | 0, _, M => M
  | d + 1, t, M => u2F c d (t + 1) (va_up M 9 (upd (M 9) (par M c t) (M 9 (par M c t) + nI 1)))
def u3F : Nat → Nat → (Nat → Nat → Int32) → (Nat → Nat → Int32)
  | 0, _, M => M
  | d + 1, i, M => u3F d (i + 1) (u2F i (if M 8 i = 0 then 0 else pcn M i) 0 M)
def cuF (M : Nat → Nat → Int32) (n : Nat) : Nat → Nat → Int32 := u3F n 0 (u1F n 0 M)
/-- put c into the queue in THE ORDER -/
def qoF (M : Nat → Nat → Int32) (k c : Nat) : Nat → Nat → Int32 := puF M k (M 1 c ^^^ (-1)) (M 2 c) (nI c)
/-- the loop of tellNext -/
def tlF (c : Nat) : Nat → Nat → (Nat → Nat → Int32) × Nat → (Nat → Nat → Int32) × Nat
  | 0, _, u => u
  | d + 1, t, u => tlF c d (t + 1) (let M := va_up u.1 9 (upd (u.1 9) (par u.1 c t) (u.1 9 (par u.1 c t) - nI 1)); if M 9 (par u.1 c t) = 0 then (qoF M u.2 (par u.1 c t), puK u.2) else (M, u.2))
def tnF (u : (Nat → Nat → Int32) × Nat) : (Nat → Nat → Int32) × Nat := tlF (ix (tkR u.1 u.2)) (pcn (tkF u.1 u.2) (ix (tkR u.1 u.2))) 0 (tkF u.1 u.2, u.2 - 1)
/-- the loop of toldAt: at most i -/
def taF : Nat → (Nat → Nat → Int32) × Nat → (Nat → Nat → Int32) × Nat
  | 0, u => u
  | i + 1, u => if 0 < u.2 then taF i (tnF u) else u
/-- take i times -/
def qaF : Nat → (Nat → Nat → Int32) × Nat → (Nat → Nat → Int32) × Nat
  | 0, u => u
  | i + 1, u => qaF i (tkF u.1 u.2, u.2 - 1)
def bsF : Nat → Nat → (Nat → Nat → Int32) × Nat → (Nat → Nat → Int32) × Nat
  | 0, _, u => u
  | d + 1, i, u => bsF d (i + 1) (if u.1 8 i = nI 3 then (qoF u.1 u.2 i, puK u.2) else u)
def seF (h : Nat) : Nat → Nat → (Nat → Nat → Int32) × Nat → (Nat → Nat → Int32) × Nat
  | 0, _, u => u
  | d + 1, i, u => seF h d (i + 1) (if u.1 8 i = sdF h then (puF u.1 u.2 (u.1 3 i) (u.1 2 i) (nI i), puK u.2) else u)
