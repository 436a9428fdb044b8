/-! a long over ten -/
theorem q10_toInt (L : Int64) : (L / lI 10).toInt = L.toInt.tdiv 10 := by
  rw [Int64.toInt_div_of_ne_right _ _ (by decide), lI_toInt ⟨by decide, by decide⟩]
theorem td10 (x : Int) : (0 ≤ x → x.tdiv 10 = x / 10) ∧ (x < 0 → x.tdiv 10 = -((-x) / 10)) := by
  refine ⟨fun h => Int.tdiv_eq_ediv_of_nonneg h, fun h => ?_⟩
  have e : x = -(-x) := by omega
  rw [e, Int.neg_tdiv, Int.tdiv_eq_ediv_of_nonneg (by omega), Int.neg_neg]
theorem d10_abs (L : Int64) (k : Nat) : (d10 L (k + 1)).toInt.natAbs = (d10 L k).toInt.natAbs / 10 := by
  rw [d10, q10_toInt]
  have h := td10 (d10 L k).toInt
  by_cases e : 0 ≤ (d10 L k).toInt
  · rw [h.1 e]; omega
  · rw [h.2 (by omega)]; omega
