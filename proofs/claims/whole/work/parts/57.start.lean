/-! the world behind the constructors: where each place lies -/
def offL : List Nat := [3, 5, 7, 9, 11, 13, 15, 17, 26, 28, 30, 32, 34, 36, 38, 40, 48, 50, 52, 54, 56, 58, 60, 62, 68, 70, 20, 43, 65, 73, 4, 6, 8, 10, 12, 14, 16, 18, 27, 29, 31, 33, 35, 37, 39, 41, 49, 51, 53, 55, 57, 59, 61, 63, 69, 71, 21, 44, 66, 74, 1, 24, 46, 2, 25, 47, 19, 42, 64, 72, 22, 45, 67, 75, 0, 23, 76, 77, 78, 79, 80, 81, 82, 83, 84, 85, 86, 87, 88]
def off (i : Nat) : Nat := offL.getD i 0
def GFin (E : EV) (h0 : Nat) : GH := gM E h0 77 76 (va_up (gS E h0 1 0 (va_up (fun _ => .inr (0, [])) 0 (.inr (3, fsS)))) 76 (.inr (4, fsM)))
theorem off_inj : ∀ i j, i < 89 → j < 89 → off i = off j → i = j := by
  have h : ∀ i : Fin 89, ∀ j : Fin 89, off i.val = off j.val → i.val = j.val := by decide +kernel
  exact fun i j hi hj e => h ⟨i, hi⟩ ⟨j, hj⟩ e
theorem off_lt : ∀ i, i < 89 → off i < 89 := by
  have h : ∀ i : Fin 89, off i.val < 89 := by decide +kernel
  exact fun i hi => h ⟨i, hi⟩
set_option maxRecDepth 200000 in
theorem gf_t (E : EV) (h0 : Nat) : ∀ i, i < 30 → GFin E h0 (off i) = .inr (2, [.ref (h0 + off (30 + i)), .int 0]) := fun i hi => match i, hi with
  | 0, _ => rfl
  | 1, _ => rfl
  | 2, _ => rfl
  | 3, _ => rfl
  | 4, _ => rfl
  | 5, _ => rfl
  | 6, _ => rfl
  | 7, _ => rfl
  | 8, _ => rfl
  | 9, _ => rfl
  | 10, _ => rfl
  | 11, _ => rfl
  | 12, _ => rfl
  | 13, _ => rfl
  | 14, _ => rfl
  | 15, _ => rfl
  | 16, _ => rfl
  | 17, _ => rfl
  | 18, _ => rfl
  | 19, _ => rfl
  | 20, _ => rfl
  | 21, _ => rfl
  | 22, _ => rfl
  | 23, _ => rfl
  | 24, _ => rfl
  | 25, _ => rfl
  | 26, _ => rfl
  | 27, _ => rfl
  | 28, _ => rfl
  | 29, _ => rfl
  | k + 30, h => absurd h (by omega)
set_option maxRecDepth 200000 in
theorem gf_r (E : EV) (h0 : Nat) : ∀ i, i < 30 → GFin E h0 (off (30 + i)) = iA E (cap i) (fun _ => 0) := fun i hi => match i, hi with
  | 0, _ => rfl
  | 1, _ => rfl
  | 2, _ => rfl
  | 3, _ => rfl
  | 4, _ => rfl
  | 5, _ => rfl
  | 6, _ => rfl
  | 7, _ => rfl
  | 8, _ => rfl
  | 9, _ => rfl
  | 10, _ => rfl
  | 11, _ => rfl
  | 12, _ => rfl
  | 13, _ => rfl
  | 14, _ => rfl
  | 15, _ => rfl
  | 16, _ => rfl
  | 17, _ => rfl
  | 18, _ => rfl
  | 19, _ => rfl
  | 20, _ => rfl
  | 21, _ => rfl
  | 22, _ => rfl
  | 23, _ => rfl
  | 24, _ => rfl
  | 25, _ => rfl
  | 26, _ => rfl
  | 27, _ => rfl
  | 28, _ => rfl
  | 29, _ => rfl
  | k + 30, h => absurd h (by omega)
set_option maxRecDepth 200000 in
theorem gf_i (E : EV) (h0 : Nat) : ∀ i, i < 3 → GFin E h0 (off (60 + i)) = .inr (0, [.ref (h0 + off (63 + i)), .ref (h0 + off (66 + i))]) := fun i hi => match i, hi with
  | 0, _ => rfl
  | 1, _ => rfl
  | 2, _ => rfl
  | k + 3, h => absurd h (by omega)
set_option maxRecDepth 200000 in
theorem gf_p (E : EV) (h0 : Nat) : ∀ i, i < 4 → GFin E h0 (off (66 + i)) = .inr (1, [.ref (h0 + off (26 + i)), .ref (h0 + off (70 + i)), .int 0]) := fun i hi => match i, hi with
  | 0, _ => rfl
  | 1, _ => rfl
  | 2, _ => rfl
  | 3, _ => rfl
  | k + 4, h => absurd h (by omega)
set_option maxRecDepth 200000 in
theorem gf_e (E : EV) (h0 : Nat) : ∀ i, i < 4 → GFin E h0 (off (70 + i)) = iA E 301 (fun _ => 0) := fun i hi => match i, hi with
  | 0, _ => rfl
  | 1, _ => rfl
  | 2, _ => rfl
  | 3, _ => rfl
  | k + 4, h => absurd h (by omega)
set_option maxRecDepth 200000 in
theorem gf_x0 (h0 : Nat) : ∀ j, j < 8 → gXf h0 2 8 j = some (h0 + off (8 * 0 + j)) := fun j hj => match j, hj with
  | 0, _ => rfl
  | 1, _ => rfl
  | 2, _ => rfl
  | 3, _ => rfl
  | 4, _ => rfl
  | 5, _ => rfl
  | 6, _ => rfl
  | 7, _ => rfl
  | k + 8, h => absurd h (by omega)
set_option maxRecDepth 200000 in
theorem gf_x1 (h0 : Nat) : ∀ j, j < 8 → gXf h0 25 8 j = some (h0 + off (8 * 1 + j)) := fun j hj => match j, hj with
  | 0, _ => rfl
  | 1, _ => rfl
  | 2, _ => rfl
  | 3, _ => rfl
  | 4, _ => rfl
  | 5, _ => rfl
  | 6, _ => rfl
  | 7, _ => rfl
  | k + 8, h => absurd h (by omega)
set_option maxRecDepth 200000 in
theorem gf_x2 (h0 : Nat) : ∀ j, j < 8 → gXf h0 47 8 j = some (h0 + off (8 * 2 + j)) := fun j hj => match j, hj with
  | 0, _ => rfl
  | 1, _ => rfl
  | 2, _ => rfl
  | 3, _ => rfl
  | 4, _ => rfl
  | 5, _ => rfl
  | 6, _ => rfl
  | 7, _ => rfl
  | k + 8, h => absurd h (by omega)
set_option maxRecDepth 200000 in
theorem gf_x (E : EV) (h0 : Nat) : ∀ i, i < 3 → ∃ f : Nat → Option Nat, GFin E h0 (off (63 + i)) = .inl (eT E, 8, .inr (.inr (.inr (.inr f)))) ∧ ∀ j, j < 8 → f j = some (h0 + off (8 * i + j)) := fun i hi => match i, hi with
  | 0, _ => ⟨gXf h0 2 8, rfl, gf_x0 h0⟩
  | 1, _ => ⟨gXf h0 25 8, rfl, gf_x1 h0⟩
  | 2, _ => ⟨gXf h0 47 8, rfl, gf_x2 h0⟩
  | k + 3, h => absurd h (by omega)
set_option maxRecDepth 200000 in
theorem gf_74 (E : EV) (h0 : Nat) : GFin E h0 (off 74) = .inr (3, [.ref (h0 + off 60), .ref (h0 + off 75), .ref (h0 + off 24), .ref (h0 + off 25), .ref (h0 + off 69)]) := rfl
set_option maxRecDepth 200000 in
theorem gf_75 (E : EV) (h0 : Nat) : ∃ f : Nat → Option Nat, GFin E h0 (off 75) = .inl (eM E, 2, .inr (.inr (.inr (.inr f)))) ∧ ∀ j, j < 2 → f j = some (h0 + off (61 + j)) := ⟨va_up (va_up (fun _ => none) 0 (some (h0 + 24))) 1 (some (h0 + 46)), rfl, fun j hj => match j, hj with
  | 0, _ => rfl
  | 1, _ => rfl
  | k + 2, h => absurd h (by omega)⟩
set_option maxRecDepth 200000 in
theorem gf_76 (E : EV) (h0 : Nat) : GFin E h0 (off 76) = .inr (4, [.ref (h0 + off 77), .ref (h0 + off 78), .int 0, .ref (h0 + off 79), .ref (h0 + off 80), .ref (h0 + off 81), .ref (h0 + off 82), .ref (h0 + off 83), .ref (h0 + off 84), .ref (h0 + off 85), .ref (h0 + off 86), .ref (h0 + off 87), .ref (h0 + off 88), .int 0]) := rfl
set_option maxRecDepth 200000 in
theorem gf_77 (E : EV) (h0 : Nat) : GFin E h0 (off 77) = iA E 2400 (fun _ => 0) := rfl
set_option maxRecDepth 200000 in
theorem gf_78 (E : EV) (h0 : Nat) : GFin E h0 (off 78) = iA E 8 (fun _ => 0) := rfl
set_option maxRecDepth 200000 in
theorem gf_79 (E : EV) (h0 : Nat) : GFin E h0 (off 79) = iA E 300 (fun _ => 0) := rfl
set_option maxRecDepth 200000 in
theorem gf_80 (E : EV) (h0 : Nat) : GFin E h0 (off 80) = iA E 301 (fun _ => 0) := rfl
set_option maxRecDepth 200000 in
theorem gf_81 (E : EV) (h0 : Nat) : GFin E h0 (off 81) = iA E 301 (fun _ => 0) := rfl
set_option maxRecDepth 200000 in
theorem gf_82 (E : EV) (h0 : Nat) : GFin E h0 (off 82) = iA E 4800 (fun _ => 0) := rfl
set_option maxRecDepth 200000 in
theorem gf_83 (E : EV) (h0 : Nat) : GFin E h0 (off 83) = iA E 16 (fun _ => 0) := rfl
set_option maxRecDepth 200000 in
theorem gf_84 (E : EV) (h0 : Nat) : GFin E h0 (off 84) = iA E 2 (fun _ => 0) := rfl
set_option maxRecDepth 200000 in
theorem gf_85 (E : EV) (h0 : Nat) : GFin E h0 (off 85) = iA E 600 (fun _ => 0) := rfl
set_option maxRecDepth 200000 in
theorem gf_86 (E : EV) (h0 : Nat) : GFin E h0 (off 86) = iA E 602 (fun _ => 0) := rfl
set_option maxRecDepth 200000 in
theorem gf_87 (E : EV) (h0 : Nat) : GFin E h0 (off 87) = iA E 602 (fun _ => 0) := rfl
set_option maxRecDepth 200000 in
theorem gf_88 (E : EV) (h0 : Nat) : GFin E h0 (off 88) = iA E 300 (fun _ => 0) := rfl
def S00 : SC := (fun _ => [], fun j => j, fun _ => [])
def A00 : AS := (fun _ => [], ([], []), fun _ _ => [], fun _ => ([], []))
theorem okP_0 : okP ([], []) := ⟨fun k h => absurd h (Nat.not_lt_zero _), Nat.zero_le _, Nat.zero_le _, rfl⟩
theorem AbS_0 : AbS S00 A00 := ⟨⟨fun j hj => hj, fun i j _ _ h => h⟩, fun _ _ => rfl, ⟨rfl, rfl⟩, fun _ _ _ _ => rfl, fun _ _ => ⟨rfl, rfl⟩, okP_0, fun _ _ => okP_0⟩
theorem eA_off {E : EV} {h0 : Nat} (had : ∀ i, E.2.2.1 i = h0 + off i) (i : Nat) : (Value.ref (h0 + off i)) = eA E i := by show _ = Value.ref (E.2.2.1 i); rw [had]
theorem RC_0 {E : EV} {h0 : Nat} (had : ∀ i, E.2.2.1 i = h0 + off i) : RC E (fun i => GFin E h0 (off i)) S00 (fun i => GFin E h0 (off i)) := by
  refine ⟨fun t ht => ⟨?_, Nat.zero_le _, fun _ => 0, gf_r E h0 t ht, fun j hj => absurd hj (Nat.not_lt_zero _)⟩, fun p hp => ⟨?_, Nat.zero_le _, fun _ => 0, gf_e E h0 p hp, fun j hj => absurd hj (Nat.not_lt_zero _)⟩, fun i hi => ?_, fun i hi => ?_, ⟨fun j hj => hj, fun i j _ _ h => h⟩, ?_, ?_, fun i _ => rfl⟩
  · rw [← eA_off had]
    exact gf_t E h0 t ht
  · rw [← eA_off had, ← eA_off had]
    exact gf_p E h0 p hp
  · rw [← eA_off had, ← eA_off had]
    exact gf_i E h0 i hi
  · obtain ⟨f, h1, h2⟩ := gf_x E h0 i hi
    refine ⟨f, h1, fun j hj => ?_⟩
    rw [h2 j hj, had]
    unfold txi
    by_cases e : i = 0
    · subst e; rw [if_pos rfl]; show some (h0 + off (8 * 0 + j)) = some (h0 + off j); rw [show 8 * 0 + j = j by omega]
    · rw [if_neg e]
  · rw [← eA_off had, ← eA_off had, ← eA_off had, ← eA_off had, ← eA_off had]
    exact gf_74 E h0
  · obtain ⟨f, h1, h2⟩ := gf_75 E h0
    exact ⟨f, h1, fun j hj => by rw [h2 j hj, had]⟩
theorem xR_0 (n : Nat → Int32) (hn : ∀ j, n j = 0) (f : Nat → Int32) (a b : Nat) : xR f n a b (fun _ => []) := fun j _ => ⟨hn _, Nat.zero_le _, fun l h => absurd h (Nat.not_lt_zero _)⟩
theorem pR_0 (fp ff fs : Nat → Int32) (a b : Nat) : pR fp ff fs a b ([], []) := fun k h => absurd h (Nat.not_lt_zero _)
theorem RM_0 {E : EV} {h0 : Nat} (had : ∀ i, E.2.2.1 i = h0 + off i) : RM E (fun i => GFin E h0 (off i)) (A00, []) (fun i => GFin E h0 (off i)) := by
  refine ⟨?_, ⟨_, _, gf_77 E h0, gf_78 E h0, xR_0 _ (fun _ => rfl) _ _ _⟩, ⟨_, _, _, gf_79 E h0, gf_80 E h0, gf_81 E h0, pR_0 _ _ _ _ _⟩, ⟨_, _, _, _, _, _, gf_82 E h0, gf_83 E h0, gf_84 E h0, gf_85 E h0, gf_86 E h0, gf_87 E h0, fun i _ => ⟨xR_0 _ (fun _ => rfl) _ _ _, rfl, pR_0 _ _ _ _ _⟩⟩, ⟨_, gf_88 E h0, Nat.zero_le _, fun j h => absurd h (Nat.not_lt_zero _)⟩, ⟨okP_0, fun _ _ => okP_0⟩, fun i _ => rfl⟩
  show _ = mObj E (iI 0) (iI 0)
  unfold mObj
  simp only [← eA_off had]
  exact gf_76 E h0
