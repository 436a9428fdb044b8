/-! pure: what the methods of a text answer -/
def lo (P : Nat → Bool) (i : Nat) : Nat → Int
  | 0 => -1
  | d + 1 => if P i then (i : Int) else lo P (i + 1) d
def hi (P : Nat → Bool) : Nat → Int
  | 0 => -1
  | n + 1 => if P n then (n : Int) else hi P n
theorem lo_none {P : Nat → Bool} : ∀ (d i : Nat), (∀ k, i ≤ k → k < i + d → P k = false) → lo P i d = -1 := by
  intro d
  induction d with
  | zero => intro i h; rfl
  | succ d ih =>
    intro i h
    rw [lo, h i (Nat.le_refl _) (by omega)]
    exact ih (i + 1) (fun k h1 h2 => h k (by omega) (by omega))
theorem hi_skip {P : Nat → Bool} {a : Nat} : ∀ n, a ≤ n → (∀ k, a ≤ k → k < n → P k = false) → hi P n = hi P a := by
  intro n
  induction n with
  | zero => intro h1 h; rw [show a = 0 by omega]
  | succ n ih =>
    intro h1 h
    by_cases q : a = n + 1
    · rw [q]
    · rw [hi, h n (by omega) (by omega)]
      exact ih (by omega) (fun k h2 h3 => h k h2 (by omega))
theorem lo_range {P : Nat → Bool} : ∀ (d i : Nat), lo P i d = -1 ∨ ((i : Int) ≤ lo P i d ∧ lo P i d < i + d) := by
  intro d
  induction d with
  | zero => intro i; exact Or.inl rfl
  | succ d ih =>
    intro i
    rw [lo]
    split
    · exact Or.inr ⟨Int.le_refl _, by omega⟩
    · rcases ih (i + 1) with h | h
      · exact Or.inl h
      · exact Or.inr ⟨by omega, by omega⟩
theorem hi_range {P : Nat → Bool} : ∀ (n : Nat), -1 ≤ hi P n ∧ hi P n < n := by
  intro n
  induction n with
  | zero => simp [hi]
  | succ n ih =>
    rw [hi]
    split
    · exact ⟨by omega, by omega⟩
    · exact ⟨by omega, by omega⟩
def eqs (cs : Bool) (xs ys : List Int32) (i j : Nat) : Nat → Bool
  | 0 => true
  | d + 1 => decide (tl cs (gz xs i) = tl cs (gz ys j)) && eqs cs xs ys (i + 1) (j + 1) d
def agr (cs : Bool) (xs ys : List Int32) (p q n : Int) : Bool := decide (0 ≤ p ∧ 0 ≤ q ∧ p + n ≤ xs.length ∧ q + n ≤ ys.length) && eqs cs xs ys p.toNat q.toNat n.toNat
def bz (xs ys : List Int32) (z : Int) : Bool := agr true xs ys z 0 ys.length
def who (cs : Bool) (xs ys : List Int32) : Bool := decide (xs.length = ys.length) && agr cs xs ys 0 0 xs.length
def sgF (xs : List Int32) (c : Int32) (z : Int) : Int := lo (fun k => decide (gz xs k = c)) (mxI 0 z).toNat (xs.length - (mxI 0 z).toNat)
def sgB (xs : List Int32) (c : Int32) (z : Int) : Int := hi (fun k => decide (gz xs k = c)) (mnI z (xs.length - 1) + 1).toNat
def plF (xs ys : List Int32) (z : Int) : Int := lo (fun k => bz xs ys k) (mxI 0 (mnI z xs.length)).toNat (xs.length + 1 - (mxI 0 (mnI z xs.length)).toNat)
def plB (xs ys : List Int32) (z : Int) : Int := hi (fun k => bz xs ys k) (mnI z xs.length + 1).toNat
def ord (cs : Bool) (xs ys : List Int32) (i : Nat) : Nat → Int32
  | 0 => iI ((xs.length : Int) - ys.length)
  | d + 1 => if tl cs (gz xs i) = tl cs (gz ys i) then ord cs xs ys (i + 1) d else iI (tlz cs (gz xs i).toInt - tlz cs (gz ys i).toInt)
def orI (cs : Bool) (xs ys : List Int32) : Int32 := ord cs xs ys 0 (min xs.length ys.length)
def fdc (xs ys : List Int32) : Nat → Nat → Nat
  | 0, _ => 0
  | f + 1, p => if p < xs.length then (if bz xs ys p then fdc xs ys f (p + max 1 ys.length) + 1 else fdc xs ys f (p + 1)) else 0
def rpl (xs ys zs : List Int32) : Nat → Nat → List Int32
  | 0, _ => []
  | f + 1, p => if p < xs.length then (if bz xs ys p then zs ++ rpl xs ys zs f (p + max 1 ys.length) else gz xs p :: rpl xs ys zs f (p + 1)) else []
def sfr (xs ys : List Int32) (i : Nat) : Nat → Nat
  | 0 => i
  | d + 1 => if gz xs i = gz ys i then sfr xs ys (i + 1) d else i
def srr (xs ys : List Int32) (i : Nat) : Nat → Nat
  | 0 => i
  | d + 1 => if gz xs (xs.length - 1 - i) = gz ys (ys.length - 1 - i) then srr xs ys (i + 1) d else i
def eof (b : Bool) (xs : List Int32) (i : Nat) : Nat → Nat
  | 0 => i
  | d + 1 => if lsb b (gz xs i).toInt then eof b xs (i + 1) d else i
def sor (b : Bool) (xs : List Int32) (f : Nat) : Nat → Nat
  | 0 => f
  | d + 1 => if lsb b (gz xs (f + d)).toInt then sor b xs f d else f + d + 1
def fld (xs : List Int32) (acc : Int) (i : Nat) : Nat → Int
  | 0 => acc
  | d + 1 => fld xs (31 * acc + (gz xs i).toInt) (i + 1) d
def chg (a b : Int32) (ys : List Int32) (i : Nat) : Nat → List Int32
  | 0 => ys
  | d + 1 => chg a b (ys.set i (if gz ys i = a then b else gz ys i)) (i + 1) d
def rv (xs : List Int32) : Nat → List Int32
  | 0 => []
  | n + 1 => gz xs n :: rv xs n
def dig (r : Int64) : Int32 := iI (48 + ((if 0 < r - r / lI 10 * lI 10 then r - r / lI 10 * lI 10 else -(r - r / lI 10 * lI 10)).toInt32).toInt)
def dgs : Nat → Int64 → List Int32
  | 0, _ => []
  | d + 1, r => if d = 18 ∨ ¬ r = 0 then dig r :: dgs d (r / lI 10) else []
theorem i2l_raw (x : Int32) : x.toInt64 = lI x.toInt := by
  have := iI_i2l (okI_of x)
  rwa [iI_of] at this
theorem eqs_len (cs : Bool) (xs ys : List Int32) : ∀ (d i j : Nat), eqs cs xs ys i j d = true ↔ ∀ k, k < d → tl cs (gz xs (i + k)) = tl cs (gz ys (j + k)) := by
  intro d
  induction d with
  | zero => intro i j; exact ⟨fun _ k h => absurd h (Nat.not_lt_zero _), fun _ => rfl⟩
  | succ d ih =>
    intro i j
    rw [eqs, Bool.and_eq_true, decide_eq_true_eq, ih]
    refine ⟨fun h k hk => ?_, fun h => ⟨by simpa using h 0 (Nat.succ_pos _), fun k hk => by have := h (k + 1) (by omega); rwa [show i + (k + 1) = i + 1 + k by omega, show j + (k + 1) = j + 1 + k by omega] at this⟩⟩
    cases k with
    | zero => simpa using h.1
    | succ k =>
      have := h.2 k (by omega)
      rwa [show i + 1 + k = i + (k + 1) by omega, show j + 1 + k = j + (k + 1) by omega] at this
theorem bz_iff (xs ys : List Int32) (z : Int) : bz xs ys z = true ↔ 0 ≤ z ∧ z + ys.length ≤ xs.length ∧ ∀ k, k < ys.length → gz xs (z.toNat + k) = gz ys k := by
  unfold bz agr
  rw [Bool.and_eq_true, decide_eq_true_eq, eqs_len]
  simp only [tl_t, Int.toNat_natCast, Int.toNat_zero, Nat.zero_add]
  exact ⟨fun h => ⟨h.1.1, h.1.2.2.1, h.2⟩, fun h => ⟨⟨h.1, by omega, h.2.1, by omega⟩, h.2.2⟩⟩
theorem bz_out {xs ys : List Int32} {z : Int} (h : z < 0 ∨ xs.length < z + ys.length) : bz xs ys z = false := by
  cases q : bz xs ys z with
  | false => rfl
  | true => rw [bz_iff] at q; omega
