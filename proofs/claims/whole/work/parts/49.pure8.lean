/-! digits from the highest on -/
/-- a long over ten -/
def q10 (L : Int64) : Int64 := L / lI 10
/-- over ten, k times -/
def d10 (L : Int64) : Nat → Int64
  | 0 => L
  | k + 1 => d10 L k / lI 10
/-- the digits from place n - 1 down -/
def dgH (L : Int64) : Nat → List Int32
  | 0 => []
  | n + 1 => dig (d10 L n) :: dgH L n
theorem d10_s (L : Int64) : ∀ k, d10 (L / lI 10) k = d10 L (k + 1) := by
  intro k
  induction k with
  | zero => rfl
  | succ k ih => rw [d10, ih]; rfl
theorem dgH_snoc (L : Int64) : ∀ n, dgH L (n + 1) = dgH (L / lI 10) n ++ [dig L] := by
  intro n
  induction n with
  | zero => rfl
  | succ n ih => rw [dgH, ih, dgH, d10_s]; rfl
