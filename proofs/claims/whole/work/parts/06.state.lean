/-! the class's state: 30 texts by number (8 * i + j: text j of image i as made; 24 made, 25 twice, 26 + p: all of pieces p), which of them the shelves now are, and the ends of the pieces of 4 Pieces. Places: 0.. texts, 30.. their rows, 60 images, 63 rows of texts, 66 pieces, 70 rows of ends, 74 the object, 75 its row of kept images; 76.. the reference's -/
abbrev SC : Type := (Nat → List Int32) × (Nat → Nat) × (Nat → List Nat)
def cap (t : Nat) : Nat := if t = 24 then 600 else if t = 25 then 600 else 300
theorem cap_le (t : Nat) : cap t ≤ 600 := by unfold cap; split <;> (try split) <;> omega
theorem cap_ge (t : Nat) : 300 ≤ cap t := by unfold cap; split <;> (try split) <;> omega
def txi (S : SC) (i j : Nat) : Nat := if i = 0 then S.2.1 j else 8 * i + j
def setT (S : SC) (t : Nat) (xs : List Int32) : SC := (va_up S.1 t xs, S.2.1, S.2.2)
def setE (S : SC) (p : Nat) (es : List Nat) : SC := (S.1, S.2.1, va_up S.2.2 p es)
def setX (S : SC) (f : Nat → Nat) : SC := (S.1, f, S.2.2)
theorem setT_1s (S : SC) (t : Nat) (xs : List Int32) : (setT S t xs).1 t = xs := va_up_self _ _ _
theorem setT_1n (S : SC) {t u : Nat} (xs : List Int32) (h : u ≠ t) : (setT S t xs).1 u = S.1 u := va_up_ne _ _ h
theorem setT_2 (S : SC) (t : Nat) (xs : List Int32) : (setT S t xs).2 = S.2 := rfl
theorem setE_1 (S : SC) (p : Nat) (es : List Nat) : (setE S p es).1 = S.1 := rfl
theorem setE_x (S : SC) (p : Nat) (es : List Nat) : (setE S p es).2.1 = S.2.1 := rfl
theorem setE_2s (S : SC) (p : Nat) (es : List Nat) : (setE S p es).2.2 p = es := va_up_self _ _ _
theorem setE_2n (S : SC) {p q : Nat} (es : List Nat) (h : q ≠ p) : (setE S p es).2.2 q = S.2.2 q := va_up_ne _ _ h
theorem up_up {α : Type} (f : Nat → α) (k : Nat) (v w : α) : va_up (va_up f k v) k w = va_up f k w := by
  funext j; by_cases h : j = k <;> simp [va_up, h]
theorem up_id {α : Type} (f : Nat → α) (k : Nat) : va_up f k (f k) = f := by
  funext j; by_cases h : j = k <;> simp [va_up, h]
theorem up_com {α : Type} (f : Nat → α) {k l : Nat} (v w : α) (h : k ≠ l) : va_up (va_up f k v) l w = va_up (va_up f l w) k v := by
  funext j
  by_cases h1 : j = k
  · subst h1; simp [va_up, h]
  · by_cases h2 : j = l
    · subst h2; simp [va_up, h1]
    · simp [va_up, h1, h2]
theorem setT_T (S : SC) (t : Nat) (xs ys : List Int32) : setT (setT S t xs) t ys = setT S t ys := by simp [setT, up_up]
theorem setT_id (S : SC) (t : Nat) : setT S t (S.1 t) = S := by simp [setT, up_id]
theorem setE_E (S : SC) (p : Nat) (es fs : List Nat) : setE (setE S p es) p fs = setE S p fs := by simp [setE, up_up]
theorem setE_T (S : SC) (p t : Nat) (es : List Nat) (xs : List Int32) : setE (setT S t xs) p es = setT (setE S p es) t xs := rfl
/-- text t as the heap has it -/
def tOK (E : EV) (G : GH) (t : Nat) (xs : List Int32) : Prop := G t = .inr (2, [eA E (30 + t), .int (iI xs.length)]) ∧ xs.length ≤ cap t ∧ ∃ f : Nat → Int32, G (30 + t) = .inl (eI E, cap t, .inl f) ∧ ∀ j, j < xs.length → f j = xs.getD j 0
def pOK (E : EV) (G : GH) (p : Nat) (es : List Nat) : Prop := G (66 + p) = .inr (1, [eA E (26 + p), eA E (70 + p), .int (iI es.length)]) ∧ es.length ≤ 301 ∧ ∃ f : Nat → Int32, G (70 + p) = .inl (eI E, 301, .inl f) ∧ ∀ j, j < es.length → f j = iI (es.getD j 0 : Nat)
def RC (E : EV) (g0 : GH) (S : SC) (G : GH) : Prop :=
  (∀ t, t < 30 → tOK E G t (S.1 t)) ∧ (∀ p, p < 4 → pOK E G p (S.2.2 p)) ∧
  (∀ i, i < 3 → G (60 + i) = .inr (0, [eA E (63 + i), eA E (66 + i)])) ∧
  (∀ i, i < 3 → ∃ f : Nat → Option Nat, G (63 + i) = .inl (eT E, 8, .inr (.inr (.inr (.inr f)))) ∧ ∀ j, j < 8 → f j = some (E.2.2.1 (txi S i j))) ∧
  ((∀ j, j < 8 → S.2.1 j < 8) ∧ ∀ i j, i < 8 → j < 8 → S.2.1 i = S.2.1 j → i = j) ∧
  G 74 = .inr (3, [eA E 60, eA E 75, eA E 24, eA E 25, eA E 69]) ∧
  (∃ f : Nat → Option Nat, G 75 = .inl (eM E, 2, .inr (.inr (.inr (.inr f)))) ∧ ∀ j, j < 2 → f j = some (E.2.2.1 (61 + j))) ∧
  ∀ i, 76 ≤ i → G i = g0 i
theorem RC_len {E : EV} {g0 : GH} {S : SC} {G : GH} (h : RC E g0 S G) {t : Nat} (ht : t < 30) : (S.1 t).length ≤ cap t := (h.1 t ht).2.1
/-- a change of one text -/
theorem RC_setT {E : EV} {g0 : GH} {S : SC} {G G' : GH} {t : Nat} {xs : List Int32} (ht : t < 30) (h : RC E g0 S G) (hn : tOK E G' t xs) (hk : ∀ i, i ≠ t → i ≠ 30 + t → G' i = G i) : RC E g0 (setT S t xs) G' := by
  obtain ⟨h1, h2, h3, h4, h5, h6, h7, h8⟩ := h
  refine ⟨fun u hu => ?_, fun p hp => ?_, fun i hi => ?_, fun i hi => ?_, h5, ?_, ?_, fun i hi => ?_⟩
  · by_cases e : u = t
    · subst e
      rw [setT_1s]
      exact hn
    · rw [setT_1n S xs e]
      obtain ⟨a, b, f, c, d⟩ := h1 u hu
      exact ⟨by rw [hk u (by omega) (by omega)]; exact a, b, f, by rw [hk (30 + u) (by omega) (by omega)]; exact c, d⟩
  · obtain ⟨a, b, f, c, d⟩ := h2 p hp
    exact ⟨by rw [hk _ (by omega) (by omega)]; exact a, b, f, by rw [hk _ (by omega) (by omega)]; exact c, d⟩
  · rw [hk _ (by omega) (by omega)]
    exact h3 i hi
  · rw [hk _ (by omega) (by omega)]
    exact h4 i hi
  · rw [hk _ (by omega) (by omega)]
    exact h6
  · rw [hk _ (by omega) (by omega)]
    exact h7
  · rw [hk _ (by omega) (by omega)]
    exact h8 i hi
theorem RC_setE {E : EV} {g0 : GH} {S : SC} {G G' : GH} {p : Nat} {es : List Nat} (ht : p < 4) (h : RC E g0 S G) (hn : pOK E G' p es) (hk : ∀ i, i ≠ 66 + p → i ≠ 70 + p → G' i = G i) : RC E g0 (setE S p es) G' := by
  obtain ⟨h1, h2, h3, h4, h5, h6, h7, h8⟩ := h
  refine ⟨fun u hu => ?_, fun q hq => ?_, fun i hi => ?_, fun i hi => ?_, h5, ?_, ?_, fun i hi => ?_⟩
  · obtain ⟨a, b, f, c, d⟩ := h1 u hu
    exact ⟨by rw [hk u (by omega) (by omega)]; exact a, b, f, by rw [hk (30 + u) (by omega) (by omega)]; exact c, d⟩
  · by_cases e : q = p
    · subst e
      rw [setE_2s]
      exact hn
    · rw [setE_2n S es e]
      obtain ⟨a, b, f, c, d⟩ := h2 q hq
      exact ⟨by rw [hk _ (by omega) (by omega)]; exact a, b, f, by rw [hk _ (by omega) (by omega)]; exact c, d⟩
  · rw [hk _ (by omega) (by omega)]
    exact h3 i hi
  · rw [hk _ (by omega) (by omega)]
    exact h4 i hi
  · rw [hk _ (by omega) (by omega)]
    exact h6
  · rw [hk _ (by omega) (by omega)]
    exact h7
  · rw [hk _ (by omega) (by omega)]
    exact h8 i hi
/-! receivers -/
section RV
variable {E : EV} {g0 : GH} {S : SC}
theorem rcT {t : Nat} (ht : t < 30) : ∀ G, RC E g0 S G → ∃ fs, G t = .inr (2, fs) := fun G h => ⟨_, (h.1 t ht).1⟩
theorem rcP {p : Nat} (ht : p < 4) : ∀ G, RC E g0 S G → ∃ fs, G (66 + p) = .inr (1, fs) := fun G h => ⟨_, (h.2.1 p ht).1⟩
theorem rcI {i : Nat} (ht : i < 3) : ∀ G, RC E g0 S G → ∃ fs, G (60 + i) = .inr (0, fs) := fun G h => ⟨_, h.2.2.1 i ht⟩
theorem rcS : ∀ G, RC E g0 S G → ∃ fs, G 74 = .inr (3, fs) := fun G h => ⟨_, h.2.2.2.2.2.1⟩
end RV
theorem fn_eq {τ : Type} {E : EV} {Rp : τ → GH → Prop} {X : TX} {v : Option Value} {S : τ} {G : GH} (h : Fn E Rp X v S) (hG : Rp S G) : Fn E (fun (G1 : GH) G => G1 = G) X v G := by
  obtain ⟨p, e, R, s, m, args, below, meth, c, A, nL, k, n, Q⟩ := X
  obtain ⟨Qc, free, h1, h2, h3⟩ := h
  exact ⟨Qc, free, h1, h2, fun G1 t e h4 h5 => h3 G1 t (e ▸ hG) h4 h5⟩
theorem fn_S {τ : Type} {E : EV} {Rp : τ → GH → Prop} {X : TX} {v : Option Value} {S S2 : τ} (h : Fn E Rp X v S) (e : S2 = S) : Fn E Rp X v S2 := e ▸ h
/-! fields read -/
section RG
variable {E : EV} {X : TX} {cc : ByteArray} {own : String} {ret : Option FieldType} {rm : Room} {nL : Nat} {g0 : GH} {pc index : Nat} {lv : List (Nat × Value)} {rest : List Value} {S : SC}
theorem jg_Tsigns (h : CX E X cc own ret rm nL) {t : Nat} (hw : Cond.fieldLink own index "TextShelves$Text" "signs" "[I" ∈ AW) (ht : t < 30) (hd : decode cc pc = .ok (.getfield index, 3)) (K : JL E (RC E g0) X (pc + 3) lv (eA E (30 + t) :: rest) S) : JL E (RC E g0) X pc lv (eA E t :: rest) S :=
  j_get h (T := TX2) 0 inX2 (ci := 2) rfl (by decide) hw rfl (by omega) (fun G hG => (hG.1 t ht).1) rfl hd K
theorem jg_Tsize (h : CX E X cc own ret rm nL) {t : Nat} (hw : Cond.fieldLink own index "TextShelves$Text" "size" "I" ∈ AW) (ht : t < 30) (hd : decode cc pc = .ok (.getfield index, 3)) (K : JL E (RC E g0) X (pc + 3) lv (.int (iI (S.1 t).length) :: rest) S) : JL E (RC E g0) X pc lv (eA E t :: rest) S :=
  j_get h (T := TX2) 1 inX2 (ci := 2) rfl (by decide) hw rfl (by omega) (fun G hG => (hG.1 t ht).1) rfl hd K
theorem jg_Pall (h : CX E X cc own ret rm nL) {p : Nat} (hw : Cond.fieldLink own index "TextShelves$Pieces" "all" "LTextShelves$Text;" ∈ AW) (ht : p < 4) (hd : decode cc pc = .ok (.getfield index, 3)) (K : JL E (RC E g0) X (pc + 3) lv (eA E (26 + p) :: rest) S) : JL E (RC E g0) X pc lv (eA E (66 + p) :: rest) S :=
  j_get h (T := TX1) 0 inX1 (ci := 1) rfl (by decide) hw rfl (by omega) (fun G hG => (hG.2.1 p ht).1) rfl hd K
theorem jg_Pends (h : CX E X cc own ret rm nL) {p : Nat} (hw : Cond.fieldLink own index "TextShelves$Pieces" "ends" "[I" ∈ AW) (ht : p < 4) (hd : decode cc pc = .ok (.getfield index, 3)) (K : JL E (RC E g0) X (pc + 3) lv (eA E (70 + p) :: rest) S) : JL E (RC E g0) X pc lv (eA E (66 + p) :: rest) S :=
  j_get h (T := TX1) 1 inX1 (ci := 1) rfl (by decide) hw rfl (by omega) (fun G hG => (hG.2.1 p ht).1) rfl hd K
theorem jg_Psize (h : CX E X cc own ret rm nL) {p : Nat} (hw : Cond.fieldLink own index "TextShelves$Pieces" "size" "I" ∈ AW) (ht : p < 4) (hd : decode cc pc = .ok (.getfield index, 3)) (K : JL E (RC E g0) X (pc + 3) lv (.int (iI (S.2.2 p).length) :: rest) S) : JL E (RC E g0) X pc lv (eA E (66 + p) :: rest) S :=
  j_get h (T := TX1) 2 inX1 (ci := 1) rfl (by decide) hw rfl (by omega) (fun G hG => (hG.2.1 p ht).1) rfl hd K
theorem jg_Itexts (h : CX E X cc own ret rm nL) {i : Nat} (hw : Cond.fieldLink own index "TextShelves$Image" "texts" "[LTextShelves$Text;" ∈ AW) (ht : i < 3) (hd : decode cc pc = .ok (.getfield index, 3)) (K : JL E (RC E g0) X (pc + 3) lv (eA E (63 + i) :: rest) S) : JL E (RC E g0) X pc lv (eA E (60 + i) :: rest) S :=
  j_get h (T := TX0) 0 inX0 (ci := 0) rfl (by decide) hw rfl (by omega) (fun G hG => hG.2.2.1 i ht) rfl hd K
theorem jg_Iparts (h : CX E X cc own ret rm nL) {i : Nat} (hw : Cond.fieldLink own index "TextShelves$Image" "parts" "LTextShelves$Pieces;" ∈ AW) (ht : i < 3) (hd : decode cc pc = .ok (.getfield index, 3)) (K : JL E (RC E g0) X (pc + 3) lv (eA E (66 + i) :: rest) S) : JL E (RC E g0) X pc lv (eA E (60 + i) :: rest) S :=
  j_get h (T := TX0) 1 inX0 (ci := 0) rfl (by decide) hw rfl (by omega) (fun G hG => hG.2.2.1 i ht) rfl hd K
theorem jg_Snow (h : CX E X cc own ret rm nL) (hw : Cond.fieldLink own index "TextShelves" "now" "LTextShelves$Image;" ∈ AW) (hd : decode cc pc = .ok (.getfield index, 3)) (K : JL E (RC E g0) X (pc + 3) lv (eA E 60 :: rest) S) : JL E (RC E g0) X pc lv (eA E 74 :: rest) S :=
  j_get h (T := TX3) 0 inX3 (ci := 3) rfl (by decide) hw rfl (by omega) (fun G hG => hG.2.2.2.2.2.1) rfl hd K
theorem jg_Skept (h : CX E X cc own ret rm nL) (hw : Cond.fieldLink own index "TextShelves" "kept" "[LTextShelves$Image;" ∈ AW) (hd : decode cc pc = .ok (.getfield index, 3)) (K : JL E (RC E g0) X (pc + 3) lv (eA E 75 :: rest) S) : JL E (RC E g0) X pc lv (eA E 74 :: rest) S :=
  j_get h (T := TX3) 1 inX3 (ci := 3) rfl (by decide) hw rfl (by omega) (fun G hG => hG.2.2.2.2.2.1) rfl hd K
theorem jg_Smade (h : CX E X cc own ret rm nL) (hw : Cond.fieldLink own index "TextShelves" "made" "LTextShelves$Text;" ∈ AW) (hd : decode cc pc = .ok (.getfield index, 3)) (K : JL E (RC E g0) X (pc + 3) lv (eA E 24 :: rest) S) : JL E (RC E g0) X pc lv (eA E 74 :: rest) S :=
  j_get h (T := TX3) 2 inX3 (ci := 3) rfl (by decide) hw rfl (by omega) (fun G hG => hG.2.2.2.2.2.1) rfl hd K
theorem jg_Stwice (h : CX E X cc own ret rm nL) (hw : Cond.fieldLink own index "TextShelves" "twice" "LTextShelves$Text;" ∈ AW) (hd : decode cc pc = .ok (.getfield index, 3)) (K : JL E (RC E g0) X (pc + 3) lv (eA E 25 :: rest) S) : JL E (RC E g0) X pc lv (eA E 74 :: rest) S :=
  j_get h (T := TX3) 3 inX3 (ci := 3) rfl (by decide) hw rfl (by omega) (fun G hG => hG.2.2.2.2.2.1) rfl hd K
theorem jg_Strial (h : CX E X cc own ret rm nL) (hw : Cond.fieldLink own index "TextShelves" "trial" "LTextShelves$Pieces;" ∈ AW) (hd : decode cc pc = .ok (.getfield index, 3)) (K : JL E (RC E g0) X (pc + 3) lv (eA E 69 :: rest) S) : JL E (RC E g0) X pc lv (eA E 74 :: rest) S :=
  j_get h (T := TX3) 4 inX3 (ci := 3) rfl (by decide) hw rfl (by omega) (fun G hG => hG.2.2.2.2.2.1) rfl hd K
theorem jgN_Iparts (h : CX E X cc own ret rm nL) {i : Nat} (hw : Cond.fieldLinkNest own index "TextShelves$Image" "parts" "LTextShelves$Pieces;" "TextShelves" ∈ nwl) (ht : i < 3) (hd : decode cc pc = .ok (.getfield index, 3)) (K : JL E (RC E g0) X (pc + 3) lv (eA E (66 + i) :: rest) S) : JL E (RC E g0) X pc lv (eA E (60 + i) :: rest) S :=
  j_getN h (T := TX0) 1 inX0 (ci := 0) rfl (by decide) hw rfl (by omega) (fun G hG => hG.2.2.1 i ht) rfl hd K
end RG
