/-! what the calls that change something answer, and leave -/
def layA (A : AS) (to : Int) (ms : List Int32) : Int × AS := ((ms.length : Int), aX A (sw to) ms)
def tyA (A : AS) (a x : Int) : Int × AS := if isg x = true then (if (A.1 (sw a)).length < 300 then ((((A.1 (sw a)).length + 1 : Nat) : Int), aX A (sw a) (A.1 (sw a) ++ [iI x])) else (-1000004, A)) else (-1000001, A)
def byS (L : Int64) (i : Int) : Nat → List Int32
  | 0 => []
  | d + 1 => by1 L i :: byS L (i + 1) d
def feA (A : AS) (a : Int) (L : Int64) (n : Int) : Int × AS := if 1 ≤ n ∧ n ≤ 8 ∧ arS L 0 n.toNat = true then (if (A.1 (sw a)).length + n.toNat ≤ 300 then ((((A.1 (sw a)).length + n.toNat : Nat) : Int), aX A (sw a) (A.1 (sw a) ++ byS L 0 n.toNat)) else (-1000004, A)) else (-1000001, A)
def coA (A : AS) (a b to : Int) : Int × AS := if (A.1 (sw a)).length + (A.1 (sw b)).length ≤ 300 then layA A to (A.1 (sw a) ++ A.1 (sw b)) else (-1000004, A)
def suA (A : AS) (a f u to : Int) : Int × AS := if 0 ≤ f ∧ u ≤ (A.1 (sw a)).length ∧ f ≤ u then layA A to (sl (A.1 (sw a)) f.toNat (u - f).toNat) else (-1000002, A)
def dgT (L : Int64) : List Int32 := dgs 19 L ++ (if L < 0 then [iI 45] else [])
def bgL (L : Int64) : List Int32 := rv (dgT L) (dgT L).length
def rsA (A : AS) (a x y to : Int) : Int × AS := if isg x = true ∧ isg y = true then layA A to (chg (iI x) (iI y) (A.1 (sw a)) 0 (A.1 (sw a)).length) else (-1000001, A)
def rplT (xs ys zs : List Int32) : List Int32 := rpl xs ys zs (xs.length + 1) 0
def rtA (A : AS) (a b c to : Int) : Int × AS := if (A.1 (sw b)).length = 0 then (-1000001, A) else if (rplT (A.1 (sw a)) (A.1 (sw b)) (A.1 (sw c))).length ≤ 300 then layA A to (rplT (A.1 (sw a)) (A.1 (sw b)) (A.1 (sw c))) else (-1000004, A)
def bare (b : Bool) (xs : List Int32) : List Int32 := sl xs (eof b xs 0 xs.length) (sor b xs (eof b xs 0 xs.length) (xs.length - eof b xs 0 xs.length) - eof b xs 0 xs.length)
def rept (xs : List Int32) : Nat → List Int32
  | 0 => []
  | n + 1 => xs ++ rept xs n
def reA (A : AS) (a n to : Int) : Int × AS := if n < 0 then (-1000003, A) else if (A.1 (sw a)).length * n ≤ 300 then layA A to (if (A.1 (sw a)).length = 0 then [] else rept (A.1 (sw a)) n.toNat) else (-1000004, A)
/-- a sign by which texts aren't parted: . $ | ( ) [ { ^ ? * + and the backslash -/
def spc (x : Int) : Bool := decide (x = 46 ∨ x = 36 ∨ x = 124 ∨ x = 40 ∨ x = 41 ∨ x = 91 ∨ x = 123 ∨ x = 94 ∨ x = 63 ∨ x = 42 ∨ x = 43 ∨ x = 92)
def prtQ (xs : List Int32) (x L : Int) : AP := (prtA xs (iI x) L, prtP xs (iI x) L)
def paA (A : AS) (a x L : Int) : Int × AS := if isg x = true ∧ spc x = false then (((prtQ (A.1 (sw a)) x L).2.length : Int), aP A (prtQ (A.1 (sw a)) x L)) else (-1000001, A)
def piA (A : AS) (k to : Int) : Int × AS := if 0 ≤ k ∧ k < A.2.1.2.length then layA A to (pce A.2.1.1 A.2.1.2 k.toNat) else (-1000002, A)
def jnQ (q : AP) (x : Int32) : List Int32 := jn q.1 q.2 x 0 q.2.length
def joA (A : AS) (x to : Int) : Int × AS := if isg x = true then (if (A.2.1.1.length : Int) + mxI 0 (A.2.1.2.length - 1) ≤ 300 then layA A to (jnQ A.2.1 (iI x)) else (-1000004, A)) else (-1000001, A)
def si (z : Int) : Nat := (fmo z 2).toNat
def dgX (f : Nat → List Int32) (h : Int) (i : Nat) : Nat → Int
  | 0 => h
  | d + 1 => dgX f (fld (f i) (31 * h + (f i).length) 0 (f i).length) (i + 1) d
def diA (A : AS) : Int := pfd A.2.1.1 A.2.1.2 (dgX A.1 17 0 8) 0 A.2.1.2.length
theorem byS_len (L : Int64) : ∀ d i, (byS L i d).length = d := by
  intro d
  induction d with
  | zero => intro i; rfl
  | succ d ih => intro i; simp [byS, ih]
theorem rv_len (xs : List Int32) : ∀ n, (rv xs n).length = n := by
  intro n
  induction n with
  | zero => rfl
  | succ n ih => simp [rv, ih]
theorem dgs_len : ∀ d r, (dgs d r).length ≤ d := by
  intro d
  induction d with
  | zero => intro r; exact Nat.le_refl _
  | succ d ih =>
    intro r
    rw [dgs]
    split
    · simp only [List.length_cons]; have := ih (r / lI 10); omega
    · exact Nat.zero_le _
theorem chg_len (a b : Int32) : ∀ d ys i, (chg a b ys i d).length = ys.length := by
  intro d
  induction d with
  | zero => intro ys i; rfl
  | succ d ih => intro ys i; rw [chg, ih, List.length_set]
theorem rept_len (xs : List Int32) : ∀ n, (rept xs n).length = n * xs.length := by
  intro n
  induction n with
  | zero => simp [rept]
  | succ n ih => rw [rept, List.length_append, ih, Nat.succ_mul]; omega
/-- how long a text is in which each find has been replaced (a find is a place where all of the piece stands) -/
theorem rplT_len (xs ys zs : List Int32) (hy : ys.length ≠ 0) : ((rplT xs ys zs).length : Int) = xs.length + fdc xs ys (xs.length + 1) 0 * ((zs.length : Int) - ys.length) := by
  suffices h : ∀ f p, p ≤ xs.length → xs.length - p < f → ((rpl xs ys zs f p).length : Int) = ((xs.length : Int) - p) + fdc xs ys f p * ((zs.length : Int) - ys.length) by
    have := h (xs.length + 1) 0 (Nat.zero_le _) (by omega)
    unfold rplT
    rw [this]
    omega
  intro f
  induction f with
  | zero => intro p h1 h2; omega
  | succ f ih =>
    intro p h1 h2
    rw [rpl, fdc]
    by_cases q : p < xs.length
    · rw [if_pos q, if_pos q]
      cases hb : bz xs ys p with
      | false =>
        simp only [Bool.false_eq_true, if_false, List.length_cons]
        have := ih (p + 1) (by omega) (by omega)
        push_cast
        rw [this]
        push_cast
        omega
      | true =>
        have hb2 := (bz_iff xs ys p).mp hb
        simp only [if_true, List.length_append]
        have hm : max 1 ys.length = ys.length := by omega
        rw [hm]
        have := ih (p + ys.length) (by omega) (by omega)
        push_cast
        rw [this, Int.add_mul, Int.one_mul]
        push_cast
        omega
    · rw [if_neg q, if_neg q]
      simp
      omega
