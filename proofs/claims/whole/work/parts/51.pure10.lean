/-! the digits of a long, from both ends -/
theorem d10_pow (L : Int64) : ∀ k, (d10 L k).toInt.natAbs * 10 ^ k ≤ L.toInt.natAbs := by
  intro k
  induction k with
  | zero => show L.toInt.natAbs * 1 ≤ _; omega
  | succ k ih =>
    rw [d10_abs]
    have h1 : (d10 L k).toInt.natAbs / 10 * 10 ≤ (d10 L k).toInt.natAbs := Nat.div_mul_le_self _ _
    have h2 : (d10 L k).toInt.natAbs / 10 * 10 ^ (k + 1) = (d10 L k).toInt.natAbs / 10 * 10 * 10 ^ k := by
      rw [Nat.pow_succ, Nat.mul_comm (10 ^ k) 10, Nat.mul_assoc]
    rw [h2]
    exact Nat.le_trans (Nat.mul_le_mul_right _ h1) ih
theorem d10_19 (L : Int64) : d10 L 19 = 0 := by
  have h1 := d10_pow L 19
  have h2 := okL_of L
  unfold okL at h2
  have h3 : (d10 L 19).toInt.natAbs * 10000000000000000000 ≤ L.toInt.natAbs := h1
  have h4 : (d10 L 19).toInt = 0 := by omega
  rw [← lI_of (d10 L 19), h4]
  rfl
theorem rem10 (L : Int64) : ∃ t : Int, -9 ≤ t ∧ t ≤ 9 ∧ L - L / lI 10 * lI 10 = lI t := by
  refine ⟨L.toInt - L.toInt.tdiv 10 * 10, ?_, ?_, ?_⟩
  · have h := td10 L.toInt
    by_cases e : 0 ≤ L.toInt
    · rw [h.1 e]; omega
    · rw [h.2 (by omega)]; omega
  · have h := td10 L.toInt
    by_cases e : 0 ≤ L.toInt
    · rw [h.1 e]; omega
    · rw [h.2 (by omega)]; omega
  · have h1 : L / lI 10 = lI (L.toInt.tdiv 10) := by rw [← q10_toInt, lI_of]
    rw [h1, lI_mul, Int64.sub_eq_add_neg, Int.sub_eq_add_neg, ← lI_add, lI_of]
    exact congrArg (L + ·) (Int64.ofInt_neg _).symm
theorem dig_t {L : Int64} {t : Int} (h1 : -9 ≤ t) (h2 : t ≤ 9) (h : L - L / lI 10 * lI 10 = lI t) : dig L = iI (48 + (if t < 0 then -t else t)) := by
  unfold dig
  rw [h]
  have hc : (0 : Int64) < lI t ↔ 0 < t := by
    rw [Int64.lt_iff_toInt_lt, lI_toInt (z := t) ⟨by omega, by omega⟩]; rfl
  have key : ∀ s : Int, -9 ≤ s → s ≤ 9 → ((lI s).toInt32).toInt = s := fun s a b => by
    have e : (lI s).toInt32 = iI s := Int64.toInt32_ofInt
    rw [e, iI_toInt ⟨by omega, by omega⟩]
  by_cases q : 0 < t
  · rw [if_pos (hc.mpr q), key t h1 h2, if_neg (by omega)]
  · have en : -lI t = lI (-t) := (Int64.ofInt_neg _).symm
    rw [if_neg (fun w => q (hc.mp w)), en, key (-t) (by omega) (by omega)]
    by_cases e : t < 0
    · rw [if_pos e]
    · rw [if_neg e, show t = 0 by omega]; rfl
theorem rv_cons (x : Int32) (xs : List Int32) : ∀ n, rv (x :: xs) (n + 1) = rv xs n ++ [x] := by
  intro n
  induction n with
  | zero => rfl
  | succ n ih => rw [rv, ih, rv]; rfl
theorem rv_app (xs ys : List Int32) : ∀ n, n ≤ xs.length → rv (xs ++ ys) n = rv xs n := by
  intro n
  induction n with
  | zero => intro _; rfl
  | succ n ih => intro h; rw [rv, ih (by omega), rv, gz_app_l (by omega)]
theorem dgs_H : ∀ (m d : Nat) (r : Int64), m ≤ d → d ≤ 18 → (∀ k, k < m → ¬ d10 r k = 0) → d10 r m = 0 → (dgs d r).length = m ∧ rv (dgs d r) m = dgH r m := by
  intro m
  induction m with
  | zero =>
    intro d r _ hd _ hz
    have hz2 : r = 0 := hz
    cases d with
    | zero => exact ⟨rfl, rfl⟩
    | succ d => rw [dgs, if_neg (fun w => w.elim (fun w => by omega) (fun w => w hz2))]; exact ⟨rfl, rfl⟩
  | succ m ih =>
    intro d r hm hd hk hz
    obtain ⟨d, rfl⟩ : ∃ d2, d = d2 + 1 := ⟨d - 1, by omega⟩
    have h0 : ¬ r = 0 := hk 0 (Nat.succ_pos _)
    rw [dgs, if_pos (Or.inr h0)]
    obtain ⟨e1, e2⟩ := ih d (r / lI 10) (by omega) (by omega) (fun k h => by rw [d10_s]; exact hk (k + 1) (by omega)) (by rw [d10_s]; exact hz)
    exact ⟨by rw [List.length_cons, e1], by rw [rv_cons, e2, ← dgH_snoc]⟩
/-- the digits of a number, the sign ahead -/
theorem bgL_H (L : Int64) (n : Nat) (h1 : 1 ≤ n) (h2 : n ≤ 19) (hk : ∀ k, 1 ≤ k → k < n → ¬ d10 L k = 0) (hz : d10 L n = 0) : bgL L = (if L < 0 then [iI 45] else []) ++ dgH L n := by
  obtain ⟨m, rfl⟩ : ∃ m, n = m + 1 := ⟨n - 1, by omega⟩
  obtain ⟨e1, e2⟩ := dgs_H m 18 (L / lI 10) (by omega) (Nat.le_refl _) (fun k h => by rw [d10_s]; exact hk (k + 1) (by omega) (by omega)) (by rw [d10_s]; exact hz)
  have e3 : dgs 19 L = dig L :: dgs 18 (L / lI 10) := by rw [dgs, if_pos (Or.inl rfl)]
  have e4 : (dgs 19 L).length = m + 1 := by rw [e3, List.length_cons, e1]
  have e5 : rv (dgs 19 L) (m + 1) = dgH L (m + 1) := by rw [e3, rv_cons, e2, ← dgH_snoc]
  unfold bgL dgT
  by_cases q : L < 0
  · rw [if_pos q, List.length_append, e4, show [iI 45].length = 1 from rfl, rv, gz_app_r (by omega), rv_app _ _ _ (by omega), e5, e4, Nat.sub_self]
    rfl
  · rw [if_neg q, List.append_nil, e4, e5, List.nil_append]
theorem dgH_len (L : Int64) : ∀ n, (dgH L n).length = n := by
  intro n
  induction n with
  | zero => rfl
  | succ n ih => rw [dgH, List.length_cons, ih]
