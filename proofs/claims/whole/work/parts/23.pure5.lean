/-! what all is about: eight texts, the pieces (a row and its ends), two images of them; and the class's state as a picture of it -/
abbrev AP : Type := List Int32 × List Nat
abbrev AS : Type := (Nat → List Int32) × AP × (Nat → Nat → List Int32) × (Nat → AP)
def okP (q : AP) : Prop := eOK q.2 q.1.length ∧ q.1.length ≤ 300 ∧ q.2.length ≤ 301 ∧ stN q.2 q.2.length = q.1.length
def okA (A : AS) : Prop := okP A.2.1 ∧ ∀ i, i < 2 → okP (A.2.2.2 i)
def AbS (S : SC) (A : AS) : Prop := okS S ∧ (∀ j, j < 8 → S.1 (S.2.1 j) = A.1 j) ∧ (S.1 26 = A.2.1.1 ∧ S.2.2 0 = A.2.1.2) ∧ (∀ i j, i < 2 → j < 8 → S.1 (8 * (i + 1) + j) = A.2.2.1 i j) ∧ (∀ i, i < 2 → S.1 (27 + i) = (A.2.2.2 i).1 ∧ S.2.2 (1 + i) = (A.2.2.2 i).2) ∧ okA A
def RP (E : EV) (g0 : GH) (A : AS) (G : GH) : Prop := ∃ S, RC E g0 S G ∧ AbS S A
def aX (A : AS) (j : Nat) (xs : List Int32) : AS := (va_up A.1 j xs, A.2)
def aP (A : AS) (q : AP) : AS := (A.1, q, A.2.2)
theorem j_ex {E : EV} {g0 : GH} {X : TX} {pc : Nat} {lv : List (Nat × Value)} {st : List Value} {A : AS} (K : ∀ S, AbS S A → JL E (RC E g0) X pc lv st S) : JL E (RP E g0) X pc lv st A := by
  obtain ⟨p, e, R, s, m, args, below, meth, c, A0, nL, k, n, Q⟩ := X
  intro G H locs ls hR hP hS hl
  obtain ⟨S, hR, hA⟩ := hR
  exact K S hA G H locs ls hR hP hS hl
theorem fnA {E : EV} {g0 : GH} {X : TX} {v : Option Value} {A : AS} {S : SC} (h : Fn E (RP E g0) X v A) (hA : AbS S A) : Fn E (RC E g0) X v S := by
  obtain ⟨p, e, R, s, m, args, below, meth, c, A0, nL, k, n, Q⟩ := X
  obtain ⟨Qc, free, h1, h2, h3⟩ := h
  exact ⟨Qc, free, h1, h2, fun G t hR => h3 G t ⟨S, hR, hA⟩⟩
/-- a method that was met on the class's own state, and only asks -/
theorem ct_ab {E : EV} {g0 : GH} {y : MethodName} {ws : List Cond} {rm : Room} {av : List Value} {A A' : AS} {v : Option Value} (h : ∀ S, AbS S A → ∃ S', AbS S' A' ∧ Ct E (RC E g0) y ws rm av S v S') : Ct E (RP E g0) y ws rm av A v A' := by
  intro sz
  intro p e ha hc hk s m args below hf happ hP hK
  obtain ⟨h1, h2, ⟨G, ⟨S, hR, hA⟩, hP2⟩, h3⟩ := hP
  obtain ⟨S', hA', hM⟩ := h S hA
  obtain ⟨n, o, a1, a2, a3, ⟨⟨⟨a4, G', a5, a6⟩, a7⟩, a8⟩⟩ := hM sz p e ha hc hk s m args below hf happ ⟨h1, h2, ⟨G, hR, hP2⟩, h3⟩ hK
  exact ⟨n, o, a1, a2, a3, ⟨⟨⟨a4, G', ⟨S', a5, hA'⟩, a6⟩, a7⟩, a8⟩⟩
theorem ab_x {S : SC} {A : AS} (h : AbS S A) (z : Int) : S.1 (sh S z) = A.1 (sw z) := h.2.1 _ (sw_lt z)
/-- a scratch text, or the scratch pieces, change -/
theorem ab_T {S : SC} {A : AS} (h : AbS S A) {t : Nat} {xs : List Int32} (ht : t = 24 ∨ t = 25 ∨ t = 29) : AbS (setT S t xs) A := by
  obtain ⟨h1, h2, h3, h4, h5, h6⟩ := h
  refine ⟨h1, fun j hj => ?_, ⟨?_, h3.2⟩, fun i j hi hj => ?_, fun i hi => ⟨?_, (h5 i hi).2⟩, h6⟩
  · have := h1.1 j hj
    show (setT S t xs).1 (S.2.1 j) = _
    rw [setT_1n _ _ (by omega)]
    exact h2 j hj
  · rw [setT_1n _ _ (by omega)]
    exact h3.1
  · rw [setT_1n _ _ (by omega)]
    exact h4 i j hi hj
  · rw [setT_1n _ _ (by omega)]
    exact (h5 i hi).1
theorem ab_E3 {S : SC} {A : AS} (h : AbS S A) {es : List Nat} : AbS (setE S 3 es) A := by
  obtain ⟨h1, h2, h3, h4, h5, h6⟩ := h
  refine ⟨h1, h2, ⟨h3.1, ?_⟩, h4, fun i hi => ⟨(h5 i hi).1, ?_⟩, h6⟩
  · rw [setE_2n _ _ (by omega)]
    exact h3.2
  · rw [setE_2n _ _ (by omega)]
    exact (h5 i hi).2
/-- a shelf's text changes -/
theorem ab_X {S : SC} {A : AS} (h : AbS S A) (z : Int) (xs : List Int32) : AbS (setT S (sh S z) xs) (aX A (sw z) xs) := by
  obtain ⟨h1, h2, h3, h4, h5, h6⟩ := h
  have hs := sh_lt h1 z
  refine ⟨h1, fun j hj => ?_, ⟨?_, h3.2⟩, fun i j hi hj => ?_, fun i hi => ⟨?_, (h5 i hi).2⟩, h6⟩
  · show (setT S (sh S z) xs).1 (S.2.1 j) = va_up A.1 (sw z) xs j
    by_cases e : j = sw z
    · subst e
      rw [va_up_self]
      exact setT_1s _ _ _
    · rw [va_up_ne _ _ e, setT_1n _ _ (show S.2.1 j ≠ sh S z from fun w => e (h1.2 j (sw z) hj (sw_lt z) w))]
      exact h2 j hj
  · rw [setT_1n _ _ (by omega)]
    exact h3.1
  · rw [setT_1n _ _ (by omega)]
    exact h4 i j hi hj
  · rw [setT_1n _ _ (by omega)]
    exact (h5 i hi).1
/-- the pieces change -/
theorem ab_P {S : SC} {A : AS} (h : AbS S A) {as : List Int32} {es : List Nat} (hk : okP (as, es)) : AbS (setE (setT S (26 + 0) as) 0 es) (aP A (as, es)) := by
  obtain ⟨h1, h2, h3, h4, h5, h6⟩ := h
  refine ⟨h1, fun j hj => ?_, ⟨?_, ?_⟩, fun i j hi hj => ?_, fun i hi => ⟨?_, ?_⟩, hk, h6.2⟩
  · have := h1.1 j hj
    show (setE (setT S (26 + 0) as) 0 es).1 (S.2.1 j) = _
    rw [setE_1, setT_1n _ _ (by omega)]
    exact h2 j hj
  · rw [setE_1]
    exact setT_1s _ _ _
  · exact setE_2s _ _ _
  · rw [setE_1, setT_1n _ _ (by omega)]
    exact h4 i j hi hj
  · rw [setE_1, setT_1n _ _ (by omega)]
    exact (h5 i hi).1
  · rw [setE_2n _ _ (by omega)]
    exact (h5 i hi).2
/-- two shelves change places -/
theorem ab_ex {S : SC} {A : AS} (h : AbS S A) (a b : Int) : AbS (setX S (exX S.2.1 (sw a) (sw b))) (va_up (va_up A.1 (sw a) (A.1 (sw b))) (sw b) (A.1 (sw a)), A.2) := by
  obtain ⟨h1, h2, h3, h4, h5, h6⟩ := h
  refine ⟨exX_ok (sw_lt a) (sw_lt b) h1.1 h1.2, fun j hj => ?_, h3, h4, h5, h6⟩
  show S.1 (exX S.2.1 (sw a) (sw b) j) = _
  unfold exX va_up
  by_cases e1 : j = sw b
  · simp only [if_pos e1]
    exact h2 _ (sw_lt a)
  · simp only [if_neg e1]
    by_cases e2 : j = sw a
    · simp only [if_pos e2]
      exact h2 _ (sw_lt b)
    · simp only [if_neg e2]
      exact h2 j hj
def sumX (f : Nat → List Int32) : Nat → Nat
  | 0 => 0
  | n + 1 => sumX f n + (f n).length
theorem ab_sst {S : SC} {A : AS} (h : AbS S A) : ∀ n, n ≤ 8 → sst S n = sumX A.1 n := by
  intro n
  induction n with
  | zero => intro _; rfl
  | succ n ih =>
    intro hn
    rw [sst, sumX, ih (by omega), h.2.1 n (by omega)]
def aKeep (A : AS) (i : Nat) : AS := (A.1, A.2.1, va_up A.2.2.1 i A.1, va_up A.2.2.2 i A.2.1)
def aBack (A : AS) (i : Nat) : AS := (A.2.2.1 i, A.2.2.2 i, A.2.2)
theorem ab_keep {S : SC} {A : AS} (h : AbS S A) {i : Nat} (hi : i < 2) : AbS (becP S (1 + i) 0) (aKeep A i) := by
  obtain ⟨h1, h2, h3, h4, h5, h6⟩ := h
  have b2 : (becP S (1 + i) 0).2.1 = S.2.1 := by
    show (bec S (1 + i) 0 8).2.1 = _
    rw [bec_2]
  have b1 : ∀ t, t ≠ 26 + (1 + i) → (t < 8 * (1 + i) ∨ 8 * (1 + i) + 8 ≤ t) → (becP S (1 + i) 0).1 t = S.1 t := fun t e1 e2 => by
    unfold becP
    rw [setE_1, setT_1n _ _ e1, bec_1 h1 (by omega) e2 8 (Nat.le_refl _)]
  refine ⟨⟨by rw [b2]; exact h1.1, by rw [b2]; exact h1.2⟩, fun j hj => ?_, ⟨?_, ?_⟩, fun k j hk hj => ?_, fun k hk => ⟨?_, ?_⟩, h6.1, fun k hk => ?_⟩
  · have := h1.1 j hj
    rw [b2, b1 _ (by omega) (by omega)]
    exact h2 j hj
  · rw [b1 _ (by omega) (by omega)]
    exact h3.1
  · unfold becP
    rw [setE_2n _ _ (by omega)]
    show (bec S (1 + i) 0 8).2.2 0 = _
    rw [bec_2]
    exact h3.2
  · by_cases e : k = i
    · subst e
      show _ = va_up A.2.2.1 k A.1 k j
      rw [va_up_self, ← h2 j hj]
      unfold becP
      rw [setE_1, setT_1n _ _ (by omega)]
      have := bec_at h1 (a := 1 + k) (b := 0) (by omega) hj 8 (Nat.le_refl _) hj
      unfold txi at this
      rw [if_neg (by omega), if_pos rfl] at this
      rw [show 8 * (k + 1) + j = 8 * (1 + k) + j by omega]
      exact this
    · show _ = va_up A.2.2.1 i A.1 k j
      rw [va_up_ne _ _ e, b1 _ (by omega) (by omega)]
      exact h4 k j hk hj
  · by_cases e : k = i
    · subst e
      show _ = (va_up A.2.2.2 k A.2.1 k).1
      rw [va_up_self]
      unfold becP
      rw [setE_1, show 27 + k = 26 + (1 + k) by omega, setT_1s]
      exact h3.1
    · show _ = (va_up A.2.2.2 i A.2.1 k).1
      rw [va_up_ne _ _ e, b1 _ (by omega) (by omega)]
      exact (h5 k hk).1
  · by_cases e : k = i
    · subst e
      show _ = (va_up A.2.2.2 k A.2.1 k).2
      rw [va_up_self]
      unfold becP
      rw [setE_2s]
      exact h3.2
    · show _ = (va_up A.2.2.2 i A.2.1 k).2
      rw [va_up_ne _ _ e]
      unfold becP
      rw [setE_2n _ _ (by omega)]
      show (bec S (1 + i) 0 8).2.2 (1 + k) = _
      rw [bec_2]
      exact (h5 k hk).2
  · show okP (va_up A.2.2.2 i A.2.1 k)
    by_cases e : k = i
    · subst e
      rw [va_up_self]
      exact h6.1
    · rw [va_up_ne _ _ e]
      exact h6.2 k hk
theorem ab_back {S : SC} {A : AS} (h : AbS S A) {i : Nat} (hi : i < 2) : AbS (becP S 0 (1 + i)) (aBack A i) := by
  obtain ⟨h1, h2, h3, h4, h5, h6⟩ := h
  have b2 : (becP S 0 (1 + i)).2.1 = S.2.1 := by
    show (bec S 0 (1 + i) 8).2.1 = _
    rw [bec_2]
  have b1 : ∀ t, t ≠ 26 → 8 ≤ t → (becP S 0 (1 + i)).1 t = S.1 t := fun t e1 e2 => by
    unfold becP
    rw [setE_1, setT_1n _ _ (by omega), bec_1 h1 (by omega) (by omega) 8 (Nat.le_refl _)]
  refine ⟨⟨by rw [b2]; exact h1.1, by rw [b2]; exact h1.2⟩, fun j hj => ?_, ⟨?_, ?_⟩, fun k j hk hj => ?_, fun k hk => ⟨?_, ?_⟩, h6.2 i hi, h6.2⟩
  · have := h1.1 j hj
    rw [b2]
    unfold becP
    rw [setE_1, setT_1n _ _ (by omega)]
    have hh := bec_at h1 (a := 0) (b := 1 + i) (by omega) hj 8 (Nat.le_refl _) hj
    unfold txi at hh
    rw [if_pos rfl, if_neg (by omega)] at hh
    have q4 := h4 i j hi hj
    rw [show 8 * (i + 1) + j = 8 * (1 + i) + j by omega] at q4
    rw [hh]
    exact q4
  · unfold becP
    have q5 := (h5 i hi).1
    rw [show 27 + i = 26 + (1 + i) by omega] at q5
    rw [setE_1, setT_1s]
    exact q5
  · unfold becP
    rw [setE_2s]
    exact (h5 i hi).2
  · rw [b1 _ (by omega) (by omega)]
    exact h4 k j hk hj
  · rw [b1 _ (by omega) (by omega)]
    exact (h5 k hk).1
  · unfold becP
    rw [setE_2n _ _ (by omega)]
    show (bec S 0 (1 + i) 8).2.2 (1 + k) = _
    rw [bec_2]
    exact (h5 k hk).2
