/-! pure: loops by a measure, booleans, division, bytes; signs; rows of signs -/
theorem lpA1 {A : Type} (μ : A → Nat) (P : A → Prop) (h : ∀ a, (∀ b, μ b < μ a → P b) → P a) (a : A) : P a := by
  suffices hh : ∀ (n : Nat) (a : A), μ a < n → P a from hh _ a (Nat.lt_succ_self _)
  intro n
  induction n with
  | zero => intro a ha; omega
  | succ n ih => intro a ha; exact h a (fun b hb => ih b (by omega))
theorem lpA2 {A B : Type} (μ : A → B → Nat) (P : A → B → Prop) (h : ∀ a b, (∀ a' b', μ a' b' < μ a b → P a' b') → P a b) (a : A) (b : B) : P a b :=
  lpA1 (fun q : A × B => μ q.1 q.2) (fun q => P q.1 q.2) (fun q ih => h q.1 q.2 (fun a' b' hh => ih (a', b') hh)) (a, b)
theorem lpA3 {A B C : Type} (μ : A → B → C → Nat) (P : A → B → C → Prop) (h : ∀ a b c, (∀ a' b' c', μ a' b' c' < μ a b c → P a' b' c') → P a b c) (a : A) (b : B) (c : C) : P a b c :=
  lpA1 (fun q : A × B × C => μ q.1 q.2.1 q.2.2) (fun q => P q.1 q.2.1 q.2.2) (fun q ih => h q.1 q.2.1 q.2.2 (fun a' b' c' hh => ih (a', b', c') hh)) (a, b, c)
theorem lpA4 {A B C D : Type} (μ : A → B → C → D → Nat) (P : A → B → C → D → Prop) (h : ∀ a b c d, (∀ a' b' c' d', μ a' b' c' d' < μ a b c d → P a' b' c' d') → P a b c d) (a : A) (b : B) (c : C) (d : D) : P a b c d :=
  lpA1 (fun q : A × B × C × D => μ q.1 q.2.1 q.2.2.1 q.2.2.2) (fun q => P q.1 q.2.1 q.2.2.1 q.2.2.2) (fun q ih => h q.1 q.2.1 q.2.2.1 q.2.2.2 (fun a' b' c' d' hh => ih (a', b', c', d') hh)) (a, b, c, d)
theorem bt {b : Bool} (h : b = true) : some (Value.int (iI (bI b))) = some (.int (iI 1)) := by rw [h]; rfl
theorem bf {b : Bool} (h : b = false) : some (Value.int (iI (bI b))) = some (.int (iI 0)) := by rw [h]; rfl
theorem nzb (b : Bool) : narrow .boolean (.int (iI (bI b))) = .int (iI (bI b)) := by cases b <;> rfl
theorem bI_t {b : Bool} (h : b = true) : bI b = 1 := by rw [h]; rfl
theorem bI_f {b : Bool} (h : b = false) : bI b = 0 := by rw [h]; rfl
theorem bI_0 {b : Bool} : bI b = 0 ↔ b = false := by cases b <;> decide
theorem bI_n0 {b : Bool} : ¬ bI b = 0 ↔ b = true := by cases b <;> decide
theorem iI_div {a b : Int} (ha : okI a) (hb : okI b) (hn : b ≠ -1) : iI a / iI b = iI (a.tdiv b) := by
  apply Int32.toInt_inj.mp
  have h1 : (iI b) ≠ -1 := fun q => hn ((iI_inj hb ⟨by decide, by decide⟩).mp (q.trans rfl))
  rw [Int32.toInt_div_of_ne_right _ _ h1, iI_toInt ha, iI_toInt hb]
  refine (iI_toInt ?_).symm
  have h2 := Int.natAbs_tdiv_le_natAbs a b
  obtain ⟨h3, h4⟩ := ha
  by_cases e : a = -2147483648
  · subst e
    by_cases b0 : 0 ≤ b
    · have h5 : Int.tdiv (-2147483648) b = -(Int.tdiv 2147483648 b) := Int.neg_tdiv 2147483648 b
      have h7 : 0 ≤ Int.tdiv 2147483648 b := Int.tdiv_nonneg (by decide) b0
      exact ⟨by omega, by omega⟩
    · have h5 : Int.tdiv (-2147483648) b = Int.tdiv 2147483648 (-b) := by rw [Int.tdiv_neg, Int.neg_tdiv]
      have h6 : Int.tdiv 2147483648 (-b) ≤ 2147483648 / 2 := by
        rw [Int.tdiv_eq_ediv_of_nonneg (by decide)]
        exact Int.ediv_le_of_le_mul (by omega) (by omega)
      have h7 : 0 ≤ Int.tdiv 2147483648 (-b) := Int.tdiv_nonneg (by decide) (by omega)
      rw [h5]
      exact ⟨by omega, by omega⟩
  · exact ⟨by omega, by omega⟩
theorem iI_rem8 {a : Int} (ha : okI a) : iI a - iI a / iI 8 * iI 8 = iI (a - a.tdiv 8 * 8) := by
  rw [iI_div ha ⟨by decide, by decide⟩ (by decide), iI_mul, iI_sub]
theorem iI_rem2 {a : Int} (ha : okI a) : iI a - iI a / iI 2 * iI 2 = iI (a - a.tdiv 2 * 2) := by
  rw [iI_div ha ⟨by decide, by decide⟩ (by decide), iI_mul, iI_sub]
theorem tdiv_cases (a b : Int) : (0 ≤ a ∧ a.tdiv b = a / b) ∨ (a < 0 ∧ a.tdiv b = -((-a) / b)) := by
  rcases Int.lt_or_le a 0 with h | h
  · refine Or.inr ⟨h, ?_⟩
    have : a.tdiv b = -((-a).tdiv b) := by rw [Int.neg_tdiv, Int.neg_neg]
    rw [this, Int.tdiv_eq_ediv_of_nonneg (by omega)]
  · exact Or.inl ⟨h, Int.tdiv_eq_ediv_of_nonneg h⟩
theorem xor_nonneg (x y : Int32) (hy : 0 ≤ y.toInt) : 0 ≤ (x ^^^ y).toInt ↔ 0 ≤ x.toInt := by
  have e : ∀ z : Int32, 0 ≤ z.toInt ↔ z.toBitVec.msb = false := fun z => by
    have h := BitVec.msb_eq_toInt (x := z.toBitVec)
    rw [h]
    show 0 ≤ z.toBitVec.toInt ↔ _
    simp [Int.not_lt]
  rw [e, e, Int32.toBitVec_xor, BitVec.msb_xor, (e y).mp hy, Bool.xor_false]
def fmo (a b : Int) : Int := a % b
/-! signs -/
def isg (z : Int) : Bool := decide (0 ≤ z ∧ z ≤ 127)
def ibl (z : Int) : Bool := decide ((9 ≤ z ∧ z ≤ 13) ∨ (28 ≤ z ∧ z ≤ 32))
def lsb (b : Bool) (z : Int) : Bool := if b then ibl z else decide (z ≤ 32)
def tlz (cs : Bool) (z : Int) : Int := if cs = false ∧ 65 ≤ z ∧ z ≤ 90 then z + 32 else z
def tl (cs : Bool) (x : Int32) : Int32 := iI (tlz cs x.toInt)
theorem tlz_t (z : Int) : tlz true z = z := by simp [tlz]
theorem tl_t (x : Int32) : tl true x = x := by rw [tl, tlz_t, iI_of]
theorem tlz_ok {cs : Bool} {z : Int} (h : okI z) : okI (tlz cs z) := by
  obtain ⟨h1, h2⟩ := h
  unfold tlz
  split
  · exact ⟨by omega, by omega⟩
  · exact ⟨h1, h2⟩
def by1 (L : Int64) (k : Int) : Int32 := (((L.toUInt64 >>> ((iI (8 * k)).toInt64.toUInt64 &&& Int64.toUInt64 63)).toInt64).toInt32) &&& iI 255
def arS (L : Int64) (i : Int) : Nat → Bool
  | 0 => true
  | d + 1 => isg (by1 L i).toInt && arS L (i + 1) d
def cmpI (a b : Int) : Int := if a < b then -1 else if a = b then 0 else 1
def mxI (a b : Int) : Int := if a < b then b else a
def mnI (a b : Int) : Int := if b < a then b else a
/-! rows of signs -/
abbrev gz (xs : List Int32) (k : Nat) : Int32 := xs.getD k 0
/-- n signs from place a on -/
def sl (xs : List Int32) (a : Nat) : Nat → List Int32
  | 0 => []
  | n + 1 => gz xs a :: sl xs (a + 1) n
theorem sl_len (xs : List Int32) (n : Nat) : ∀ a, (sl xs a n).length = n := by
  induction n with
  | zero => intro a; rfl
  | succ n ih => intro a; simp [sl, ih]
theorem sl_get (xs : List Int32) (n : Nat) : ∀ a k, k < n → gz (sl xs a n) k = gz xs (a + k) := by
  induction n with
  | zero => intro a k h; omega
  | succ n ih =>
    intro a k h
    cases k with
    | zero => simp [sl, gz]
    | succ k =>
      have := ih (a + 1) k (by omega)
      simp only [sl, gz, List.getD_cons_succ] at this ⊢
      rw [this]
      congr 1
      omega
theorem gz_ext {xs ys : List Int32} (h : xs.length = ys.length) (hg : ∀ k, k < xs.length → gz xs k = gz ys k) : xs = ys := by
  apply List.ext_getElem h
  intro k h1 h2
  have := hg k h1
  simpa [gz, List.getD, h1, h2] using this
theorem sl_all (xs : List Int32) : sl xs 0 xs.length = xs := by
  refine gz_ext (sl_len _ _ _) (fun k hk => ?_)
  rw [sl_len] at hk
  rw [sl_get _ _ _ _ hk, Nat.zero_add]
theorem sl_add (xs : List Int32) (n m : Nat) : ∀ a, sl xs a (n + m) = sl xs a n ++ sl xs (a + n) m := by
  induction n with
  | zero => intro a; simp [sl]
  | succ n ih =>
    intro a
    rw [Nat.succ_add]
    simp only [sl, List.cons_append, ih (a + 1)]
    rw [show a + 1 + n = a + (n + 1) by omega]
theorem gz_app_l {xs ys : List Int32} {k : Nat} (h : k < xs.length) : gz (xs ++ ys) k = gz xs k := by
  simp [gz, List.getD, List.getElem?_append_left h]
theorem gz_app_r {xs ys : List Int32} {k : Nat} (h : xs.length ≤ k) : gz (xs ++ ys) k = gz ys (k - xs.length) := by
  simp [gz, List.getD, List.getElem?_append_right h]
