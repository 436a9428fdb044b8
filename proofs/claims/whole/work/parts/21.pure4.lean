/-! shelves by number, images copied -/
def sw (z : Int) : Nat := (fmo z 8).toNat
theorem sw_lt (z : Int) : sw z < 8 := by unfold sw fmo; omega
def sh (S : SC) (z : Int) : Nat := S.2.1 (sw z)
def okS (S : SC) : Prop := (∀ j, j < 8 → S.2.1 j < 8) ∧ ∀ i j, i < 8 → j < 8 → S.2.1 i = S.2.1 j → i = j
theorem RC_okS {E : EV} {g0 : GH} {S : SC} {G : GH} (h : RC E g0 S G) : okS S := h.2.2.2.2.1
theorem sh_lt {S : SC} (h : okS S) (z : Int) : sh S z < 8 := h.1 _ (sw_lt z)
def exX (f : Nat → Nat) (a b : Nat) : Nat → Nat := va_up (va_up f a (f b)) b (f a)
theorem exX_ok {f : Nat → Nat} {a b : Nat} (ha : a < 8) (hb : b < 8) (h1 : ∀ j, j < 8 → f j < 8) (h2 : ∀ i j, i < 8 → j < 8 → f i = f j → i = j) : (∀ j, j < 8 → exX f a b j < 8) ∧ ∀ i j, i < 8 → j < 8 → exX f a b i = exX f a b j → i = j := by
  have e : ∀ j, exX f a b j = if j = b then f a else if j = a then f b else f j := fun j => by
    unfold exX va_up
    rfl
  refine ⟨fun j hj => ?_, fun i j hi hj => ?_⟩
  · rw [e]
    split
    · exact h1 a ha
    · split
      · exact h1 b hb
      · exact h1 j hj
  · rw [e, e]
    have n1 := h2 a b ha hb
    have n2 := h2 a i ha hi
    have n3 := h2 a j ha hj
    have n4 := h2 b i hb hi
    have n5 := h2 b j hb hj
    have n6 := h2 i j hi hj
    intro q
    split at q <;> split at q <;> (try split at q) <;> (try split at q) <;> omega
def bec (S : SC) (a b : Nat) : Nat → SC
  | 0 => S
  | n + 1 => setT (bec S a b n) (txi S a n) (S.1 (txi S b n))
def becP (S : SC) (a b : Nat) : SC := setE (setT (bec S a b 8) (26 + a) (S.1 (26 + b))) a (S.2.2 b)
def sst (S : SC) : Nat → Nat
  | 0 => 0
  | n + 1 => sst S n + (S.1 (S.2.1 n)).length
theorem txi_in {S : SC} (h : okS S) {a j : Nat} (ha : a < 3) (hj : j < 8) : 8 * a ≤ txi S a j ∧ txi S a j < 8 * a + 8 := by
  unfold txi
  split
  · rename_i e
    subst e
    exact ⟨by omega, by have := h.1 j hj; omega⟩
  · omega
theorem bec_2 (S : SC) (a b : Nat) : ∀ n, (bec S a b n).2 = S.2 := by
  intro n
  induction n with
  | zero => rfl
  | succ n ih => rw [bec, setT_2, ih]
theorem bec_1 {S : SC} (h : okS S) {a b : Nat} (ha : a < 3) {t : Nat} (ht : t < 8 * a ∨ 8 * a + 8 ≤ t) : ∀ n, n ≤ 8 → (bec S a b n).1 t = S.1 t := by
  intro n
  induction n with
  | zero => intro _; rfl
  | succ n ih =>
    intro hn
    have := txi_in h ha (j := n) (by omega)
    rw [bec, setT_1n _ _ (by omega), ih (by omega)]
theorem bec_at {S : SC} (h : okS S) {a b : Nat} (ha : a < 3) {j : Nat} (hj : j < 8) : ∀ n, n ≤ 8 → j < n → (bec S a b n).1 (txi S a j) = S.1 (txi S b j) := by
  intro n
  induction n with
  | zero => intro _ h2; omega
  | succ n ih =>
    intro hn h2
    rw [bec]
    by_cases q : j = n
    · subst q
      rw [setT_1s]
    · have hne : txi S a j ≠ txi S a n := by
        unfold txi
        split
        · exact fun w => q (h.2 j n hj (by omega) w)
        · omega
      rw [setT_1n _ _ hne]
      exact ih (by omega) (by omega)
theorem sst_le {E : EV} {g0 : GH} {S : SC} {G : GH} (h : RC E g0 S G) : ∀ n, n ≤ 8 → sst S n ≤ 600 * n := by
  intro n
  induction n with
  | zero => intro _; exact Nat.le_refl _
  | succ n ih =>
    intro hn
    have h1 := (RC_okS h).1 n (by omega)
    have h2 := RC_len h (t := S.2.1 n) (by omega)
    have h3 := cap_le (S.2.1 n)
    have := ih (by omega)
    rw [sst]
    omega
theorem cap_lo {t : Nat} (h : t < 24) : cap t = 300 := by unfold cap; rw [if_neg (by omega), if_neg (by omega)]
theorem cap_hi {t : Nat} (h : 26 ≤ t) : cap t = 300 := by unfold cap; rw [if_neg (by omega), if_neg (by omega)]
theorem RC_lens {E : EV} {g0 : GH} {S : SC} {G : GH} (h : RC E g0 S G) : ∀ t, t < 30 → (S.1 t).length ≤ cap t := fun t ht => RC_len h ht
