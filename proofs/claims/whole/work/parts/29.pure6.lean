/-! pure: what always holds -/
theorem lo_spec {P : Nat → Bool} : ∀ (d i : Nat), (lo P i d = -1 ∧ ∀ k, i ≤ k → k < i + d → P k = false) ∨ ∃ n : Nat, lo P i d = n ∧ i ≤ n ∧ n < i + d ∧ P n = true ∧ ∀ k, i ≤ k → k < n → P k = false := by
  intro d
  induction d with
  | zero => intro i; exact Or.inl ⟨rfl, fun k h1 h2 => by omega⟩
  | succ d ih =>
    intro i
    rw [lo]
    cases hp : P i with
    | true => exact Or.inr ⟨i, rfl, Nat.le_refl _, by omega, hp, fun k h1 h2 => by omega⟩
    | false =>
      simp only [Bool.false_eq_true, if_false]
      rcases ih (i + 1) with ⟨h1, h2⟩ | ⟨n, h1, h2, h3, h4, h5⟩
      · refine Or.inl ⟨h1, fun k hk hk2 => ?_⟩
        by_cases q : k = i
        · rw [q]; exact hp
        · exact h2 k (by omega) (by omega)
      · refine Or.inr ⟨n, h1, by omega, by omega, h4, fun k hk hk2 => ?_⟩
        by_cases q : k = i
        · rw [q]; exact hp
        · exact h5 k (by omega) hk2
theorem hi_spec {P : Nat → Bool} : ∀ (n : Nat), (hi P n = -1 ∧ ∀ k, k < n → P k = false) ∨ ∃ m : Nat, hi P n = m ∧ m < n ∧ P m = true ∧ ∀ k, m < k → k < n → P k = false := by
  intro n
  induction n with
  | zero => exact Or.inl ⟨rfl, fun k h => by omega⟩
  | succ n ih =>
    rw [hi]
    cases hp : P n with
    | true => exact Or.inr ⟨n, rfl, by omega, hp, fun k h1 h2 => by omega⟩
    | false =>
      simp only [Bool.false_eq_true, if_false]
      rcases ih with ⟨h1, h2⟩ | ⟨m, h1, h2, h3, h4⟩
      · refine Or.inl ⟨h1, fun k hk => ?_⟩
        by_cases q : k = n
        · rw [q]; exact hp
        · exact h2 k (by omega)
      · refine Or.inr ⟨m, h1, by omega, h3, fun k hk hk2 => ?_⟩
        by_cases q : k = n
        · rw [q]; exact hp
        · exact h4 k hk (by omega)
/-- the first place from a start on -/
theorem plF_spec (xs ys : List Int32) (f : Int) : (plF xs ys f = -1 ∧ ∀ z : Int, mxI 0 (mnI f xs.length) ≤ z → z ≤ xs.length → bz xs ys z = false) ∨ (mxI 0 (mnI f xs.length) ≤ plF xs ys f ∧ plF xs ys f ≤ xs.length ∧ bz xs ys (plF xs ys f) = true ∧ ∀ z : Int, mxI 0 (mnI f xs.length) ≤ z → z < plF xs ys f → bz xs ys z = false) := by
  have hm : 0 ≤ mxI 0 (mnI f xs.length) ∧ mxI 0 (mnI f xs.length) ≤ xs.length := by unfold mxI mnI; split <;> (try split) <;> omega
  unfold plF
  rcases lo_spec (P := fun k => bz xs ys k) (xs.length + 1 - (mxI 0 (mnI f xs.length)).toNat) (mxI 0 (mnI f xs.length)).toNat with ⟨h1, h2⟩ | ⟨n, h1, h2, h3, h4, h5⟩
  · refine Or.inl ⟨h1, fun z hz hz2 => ?_⟩
    have := h2 z.toNat (by omega) (by omega)
    rwa [show ((z.toNat : Nat) : Int) = z by omega] at this
  · refine Or.inr ⟨by omega, by omega, by rw [h1]; exact h4, fun z hz hz2 => ?_⟩
    have := h5 z.toNat (by omega) (by omega)
    rwa [show ((z.toNat : Nat) : Int) = z by omega] at this
theorem plB_spec (xs ys : List Int32) (f : Int) : (plB xs ys f = -1 ∧ ∀ z : Int, 0 ≤ z → z ≤ mnI f xs.length → bz xs ys z = false) ∨ (0 ≤ plB xs ys f ∧ plB xs ys f ≤ mnI f xs.length ∧ bz xs ys (plB xs ys f) = true ∧ ∀ z : Int, plB xs ys f < z → z ≤ mnI f xs.length → bz xs ys z = false) := by
  unfold plB
  rcases hi_spec (P := fun k => bz xs ys k) (mnI f xs.length + 1).toNat with ⟨h1, h2⟩ | ⟨n, h1, h2, h3, h4⟩
  · refine Or.inl ⟨h1, fun z hz hz2 => ?_⟩
    have := h2 z.toNat (by omega)
    rwa [show ((z.toNat : Nat) : Int) = z by omega] at this
  · refine Or.inr ⟨by omega, by omega, by rw [h1]; exact h3, fun z hz hz2 => ?_⟩
    have := h4 z.toNat (by omega) (by omega)
    rwa [show ((z.toNat : Nat) : Int) = z by omega] at this
/-- the order, by the first place where two texts differ -/
theorem ord_sfr (xs ys : List Int32) : ∀ d i, ord true xs ys i d = if sfr xs ys i d = i + d then iI ((xs.length : Int) - ys.length) else iI ((gz xs (sfr xs ys i d)).toInt - (gz ys (sfr xs ys i d)).toInt) := by
  intro d
  induction d with
  | zero => intro i; simp [ord, sfr]
  | succ d ih =>
    intro i
    rw [ord, sfr, tl_t, tl_t, tlz_t, tlz_t]
    by_cases q : gz xs i = gz ys i
    · rw [if_pos q, if_pos q, ih (i + 1), show i + 1 + d = i + (d + 1) by omega]
    · rw [if_neg q, if_neg q, if_neg (by omega)]
theorem sfr_sym (xs ys : List Int32) : ∀ d i, sfr ys xs i d = sfr xs ys i d := by
  intro d
  induction d with
  | zero => intro i; rfl
  | succ d ih =>
    intro i
    rw [sfr, sfr, ih (i + 1)]
    by_cases q : gz xs i = gz ys i
    · rw [if_pos q, if_pos q.symm]
    · rw [if_neg q, if_neg (fun w => q w.symm)]
theorem sfr_spec (xs ys : List Int32) : ∀ d i, (∀ k, i ≤ k → k < sfr xs ys i d → gz xs k = gz ys k) ∧ (sfr xs ys i d < i + d → ¬ gz xs (sfr xs ys i d) = gz ys (sfr xs ys i d)) := by
  intro d
  induction d with
  | zero => intro i; exact ⟨fun k h1 h2 => by rw [sfr] at h2; omega, fun h => by rw [sfr] at h; omega⟩
  | succ d ih =>
    intro i
    rw [sfr]
    by_cases q : gz xs i = gz ys i
    · rw [if_pos q]
      obtain ⟨h1, h2⟩ := ih (i + 1)
      refine ⟨fun k hk hk2 => ?_, fun h => h2 (by omega)⟩
      by_cases w : k = i
      · rw [w]; exact q
      · exact h1 k (by omega) hk2
    · rw [if_neg q]
      exact ⟨fun k h1 h2 => by omega, fun _ => q⟩
abbrev hd (xs ys : List Int32) : Nat := sfr xs ys 0 (min xs.length ys.length)
theorem orI_hd (xs ys : List Int32) : orI true xs ys = if hd xs ys = min xs.length ys.length then iI ((xs.length : Int) - ys.length) else iI ((gz xs (hd xs ys)).toInt - (gz ys (hd xs ys)).toInt) := by
  unfold orI
  rw [ord_sfr, Nat.zero_add]
theorem orI_neg (xs ys : List Int32) : iI (-(orI true ys xs).toInt) = orI true xs ys := by
  have e : hd ys xs = hd xs ys := by
    show sfr ys xs 0 (min ys.length xs.length) = _
    rw [Nat.min_comm, sfr_sym]
  rw [← iI_neg, iI_of, orI_hd xs ys, orI_hd ys xs, e, Nat.min_comm ys.length xs.length]
  split
  · rw [iI_neg]; congr 1; omega
  · rw [iI_neg]; congr 1; omega
theorem who_iff (xs ys : List Int32) : who true xs ys = true ↔ xs = ys := by
  unfold who agr
  rw [Bool.and_eq_true, Bool.and_eq_true, decide_eq_true_eq, decide_eq_true_eq, eqs_len]
  simp only [tl_t, Int.toNat_natCast, Int.toNat_zero, Nat.zero_add]
  refine ⟨fun h => gz_ext h.1 h.2.2, fun h => ?_⟩
  subst h
  exact ⟨rfl, ⟨Int.le_refl _, Int.le_refl _, by omega, by omega⟩, fun k _ => rfl⟩
theorem orI_0 (xs ys : List Int32) (hx : xs.length ≤ 600) (hy : ys.length ≤ 600) : orI true xs ys = 0 ↔ who true xs ys = true := by
  rw [who_iff, orI_hd]
  have hs := sfr_spec xs ys (min xs.length ys.length) 0
  have hl : hd xs ys ≤ min xs.length ys.length := by
    have := (sfr_le xs ys (min xs.length ys.length) 0).1
    rwa [Nat.zero_add] at this
  constructor
  · intro h
    by_cases q : hd xs ys = min xs.length ys.length
    · rw [if_pos q] at h
      have w : (xs.length : Int) - ys.length = 0 := (iI_inj (b := 0) ⟨by omega, by omega⟩ ⟨by decide, by decide⟩).mp h
      exact gz_ext (by omega) (fun k hk => hs.1 k (Nat.zero_le _) (by show k < hd xs ys; omega))
    · rw [if_neg q] at h
      refine absurd ?_ (hs.2 (by show hd xs ys < _; omega))
      rw [iI_sub0, iI_of, iI_of] at h
      exact h
  · intro h
    subst h
    have : hd xs xs = min xs.length xs.length := by
      apply Decidable.byContradiction
      intro q
      exact hs.2 (by show hd xs xs < _; omega) rfl
    rw [if_pos this]
    rw [Int.sub_self]; rfl
/-- a text in which each find has become itself -/
theorem sl_app_gz (xs : List Int32) (p n : Nat) (ys : List Int32) (h : ∀ k, k < ys.length → gz xs (p + k) = gz ys k) (hn : ys.length ≤ n) : sl xs p n = ys ++ sl xs (p + ys.length) (n - ys.length) := by
  have e : n = ys.length + (n - ys.length) := by omega
  rw [e, sl_add, Nat.add_sub_cancel_left]
  congr 1
  refine gz_ext (by rw [sl_len]) (fun k hk => ?_)
  rw [sl_len] at hk
  rw [sl_get _ _ _ _ hk]
  exact h k hk
theorem rpl_self (xs ys : List Int32) (hy : ys.length ≠ 0) : ∀ f p, p ≤ xs.length → xs.length - p < f → rpl xs ys ys f p = sl xs p (xs.length - p) := by
  intro f
  induction f with
  | zero => intro p h1 h2; omega
  | succ f ih =>
    intro p h1 h2
    rw [rpl]
    by_cases q : p < xs.length
    · rw [if_pos q]
      cases hb : bz xs ys p with
      | false =>
        simp only [Bool.false_eq_true, if_false]
        rw [ih (p + 1) (by omega) (by omega), show xs.length - p = xs.length - (p + 1) + 1 by omega, sl]
      | true =>
        have hb2 := (bz_iff xs ys p).mp hb
        simp only [if_true]
        rw [show max 1 ys.length = ys.length by omega, ih (p + ys.length) (by omega) (by omega), sl_app_gz xs p (xs.length - p) ys (fun k hk => by have := hb2.2.2 k hk; rwa [Int.toNat_natCast] at this) (by omega), show xs.length - p - ys.length = xs.length - (p + ys.length) by omega]
    · rw [if_neg q, show xs.length - p = 0 by omega]; rfl
theorem rplT_self (xs ys : List Int32) (hy : ys.length ≠ 0) : rplT xs ys ys = xs := by
  unfold rplT
  rw [rpl_self xs ys hy _ 0 (Nat.zero_le _) (by omega), Nat.sub_zero, sl_all]
theorem fdc_mul (xs ys : List Int32) (hy : ys.length ≠ 0) : ∀ f p, p ≤ xs.length → xs.length - p < f → fdc xs ys f p * ys.length ≤ xs.length - p := by
  intro f
  induction f with
  | zero => intro p h1 h2; omega
  | succ f ih =>
    intro p h1 h2
    rw [fdc]
    by_cases q : p < xs.length
    · rw [if_pos q]
      cases hb : bz xs ys p with
      | false =>
        simp only [Bool.false_eq_true, if_false]
        have := ih (p + 1) (by omega) (by omega)
        omega
      | true =>
        have hb2 := (bz_iff xs ys p).mp hb
        simp only [if_true]
        rw [show max 1 ys.length = ys.length by omega, Nat.add_mul, Nat.one_mul]
        have := ih (p + ys.length) (by omega) (by omega)
        omega
    · rw [if_neg q]; simp
/-- a text that is parted, and joined again -/
theorem jn_snoc (as : List Int32) (es : List Nat) (x : Int32) : ∀ d i, jn as es x i (d + 1) = jn as es x i d ++ ((if i + d = 0 then [] else [x]) ++ pce as es (i + d)) := by
  intro d
  induction d with
  | zero => intro i; simp [jn]
  | succ d ih =>
    intro i
    rw [jn, ih (i + 1), jn, show i + 1 + d = i + (d + 1) by omega]
    simp only [List.append_assoc]
theorem jn_cong2 (as bs : List Int32) (es fs : List Nat) (x : Int32) : ∀ d i, (∀ k, i ≤ k → k < i + d → pce as es k = pce bs fs k) → jn as es x i d = jn bs fs x i d := by
  intro d
  induction d with
  | zero => intro i h; rfl
  | succ d ih => intro i h; rw [jn, jn, ih (i + 1) (fun k h1 h2 => h k (by omega) (by omega)), h i (Nat.le_refl _) (by omega)]
theorem sl_cong (xs ys : List Int32) (a n : Nat) (h : ∀ k, a ≤ k → k < a + n → gz xs k = gz ys k) : sl xs a n = sl ys a n := by
  refine gz_ext (by rw [sl_len, sl_len]) (fun k hk => ?_)
  rw [sl_len] at hk
  rw [sl_get _ _ _ _ hk, sl_get _ _ _ _ hk]
  exact h _ (by omega) (by omega)
/-- what is joined of the pieces so far, the last one still open -/
def jo (q : AP) (x : Int32) : List Int32 := jn q.1 (q.2 ++ [q.1.length]) x 0 (q.2.length + 1)
theorem jo_sign (q : AP) (x : Int32) (h : eOK q.2 q.1.length) : jo (q.1, q.2 ++ [q.1.length]) x = jo q x ++ [x] := by
  unfold jo
  simp only [List.length_append, List.length_cons, List.length_nil]
  rw [jn_snoc, Nat.zero_add, if_neg (by omega)]
  have e1 : pce q.1 (q.2 ++ [q.1.length] ++ [q.1.length]) (q.2.length + 1) = [] := by
    unfold pce
    have h1 : eg (q.2 ++ [q.1.length] ++ [q.1.length]) (q.2.length + 1) = q.1.length := by
      have := eg_last (q.2 ++ [q.1.length]) q.1.length
      simpa using this
    have h2 : stN (q.2 ++ [q.1.length] ++ [q.1.length]) (q.2.length + 1) = q.1.length := by
      rw [stN_succ, eg_app_l (by simp), eg_last]
    rw [h1, h2, Nat.sub_self]; rfl
  rw [e1, List.append_nil]
  congr 1
  refine jn_cong2 _ _ _ _ _ _ _ (fun k _ hk => ?_)
  unfold pce
  rw [stN_app (by simp; omega), eg_app_l (by simp; omega)]
theorem jo_other (q : AP) (x c : Int32) (h : eOK q.2 q.1.length) : jo (q.1 ++ [c], q.2) x = jo q x ++ [c] := by
  unfold jo
  simp only [List.length_append, List.length_cons, List.length_nil]
  rw [jn_snoc, jn_snoc, Nat.zero_add]
  have hst : stN q.2 q.2.length ≤ q.1.length := by
    unfold stN
    split
    · exact Nat.zero_le _
    · exact (h _ (by omega)).2
  have e1 : pce (q.1 ++ [c]) (q.2 ++ [q.1.length + 1]) q.2.length = pce q.1 (q.2 ++ [q.1.length]) q.2.length ++ [c] := by
    unfold pce
    rw [stN_app (Nat.le_refl _), stN_app (Nat.le_refl _), eg_last, eg_last, show q.1.length + 1 - stN q.2 q.2.length = (q.1.length - stN q.2 q.2.length) + 1 by omega, sl_add]
    congr 1
    · exact sl_cong _ _ _ _ (fun k h1 h2 => gz_app_l (by omega))
    · rw [show stN q.2 q.2.length + (q.1.length - stN q.2 q.2.length) = q.1.length by omega]
      simp [sl, gz, List.getD]
  have e2 : jn (q.1 ++ [c]) (q.2 ++ [q.1.length + 1]) x 0 q.2.length = jn q.1 (q.2 ++ [q.1.length]) x 0 q.2.length := by
    refine jn_cong2 _ _ _ _ _ _ _ (fun k _ hk => ?_)
    unfold pce
    have hk2 : k < q.2.length := by omega
    have hb := h k hk2
    rw [stN_app (by omega), stN_app (by omega), eg_app_l hk2, eg_app_l hk2]
    exact sl_cong _ _ _ _ (fun j h1 h2 => gz_app_l (by omega))
  simp only [Nat.zero_add]
  rw [e1, e2]
  simp only [List.append_assoc]
theorem prt_jo (ys : List Int32) (x : Int32) : ∀ d i q, eOK q.2 q.1.length → i + d ≤ ys.length → jo (prt ys x (-1) i q d) x = jo q x ++ sl ys i d := by
  intro d
  induction d with
  | zero => intro i q h hi; simp [prt, sl]
  | succ d ih =>
    intro i q h hi
    rw [prt, sl]
    by_cases c : gz ys i = x
    · rw [if_pos ⟨c, Or.inl (by decide)⟩, ih (i + 1) _ (eOK_push h) (by omega), jo_sign q x h, c]
      simp
    · rw [if_neg (fun w => c w.1), ih (i + 1) (q.1 ++ [gz ys i], q.2) (eOK_mono h (by simp)) (by omega), jo_other q x _ h]
      simp
theorem join_part (ys : List Int32) (x : Int32) : jn (prtA ys x (-1)) (prtP ys x (-1)) x 0 (prtP ys x (-1)).length = ys := by
  have h := prt_jo ys x ys.length 0 ([], []) (fun k hk => absurd hk (Nat.not_lt_zero _)) (by omega)
  rw [sl_all] at h
  have e : prtP ys x (-1) = (prt ys x (-1) 0 ([], []) ys.length).2 ++ [(prt ys x (-1) 0 ([], []) ys.length).1.length] := by
    unfold prtP prtE
    rw [if_neg (fun w => by omega)]
  unfold prtA
  rw [e]
  have h0 : jo ([], []) x = [] := by simp [jo, jn, pce, stN, eg, sl]
  rw [h0, List.nil_append] at h
  unfold jo at h
  simp only [List.length_append, List.length_cons, List.length_nil]
  exact h
