/-! the reference: its rows one by one -/
def LN : Nat → Nat
  | 0 => 2400 | 1 => 8 | 2 => 300 | 3 => 301 | 4 => 301 | 5 => 4800 | 6 => 16 | 7 => 2 | 8 => 600 | 9 => 602 | 10 => 602 | _ => 300
abbrev RS : Type := (Nat → Nat → Int32) × Int32 × Int32
def RX (E : EV) (g0 : GH) (s : RS) (G : GH) : Prop := G 76 = mObj E s.2.1 s.2.2 ∧ (∀ k, k < 12 → G (k + 77) = iA E (LN k) (s.1 k)) ∧ ∀ i, i < 76 → G i = g0 i
def MR (F : Nat → Nat → Int32) (Q : MS) : Prop := xR (F 0) (F 1) 0 0 Q.1.1 ∧ pR (F 2) (F 3) (F 4) 0 0 Q.1.2.1 ∧ (∀ i, i < 2 → xR (F 5) (F 6) (2400 * i) (8 * i) (Q.1.2.2.1 i) ∧ F 7 i = iI (Q.1.2.2.2 i).2.length ∧ pR (F 8) (F 9) (F 10) (300 * i) (301 * i) (Q.1.2.2.2 i)) ∧ (Q.2.length ≤ 100000 ∧ ∀ j, j < Q.2.length → j < 300 → F 11 j = gz Q.2 j) ∧ okA Q.1
theorem RX_of {E : EV} {g0 : GH} {Q : MS} {G : GH} (h : RM E g0 Q G) : ∃ F, RX E g0 (F, iI Q.1.2.1.2.length, iI Q.2.length) G ∧ MR F Q := by
  obtain ⟨h76, ⟨f0, f1, a0, a1, hx⟩, ⟨f2, f3, f4, a2, a3, a4, hp⟩, ⟨f5, f6, f7, f8, f9, f10, a5, a6, a7, a8, a9, a10, hk⟩, ⟨f11, a11, hm, hm2⟩, ho, hg⟩ := h
  refine ⟨fun k => match k with | 0 => f0 | 1 => f1 | 2 => f2 | 3 => f3 | 4 => f4 | 5 => f5 | 6 => f6 | 7 => f7 | 8 => f8 | 9 => f9 | 10 => f10 | _ => f11, ⟨h76, fun k hk2 => ?_, hg⟩, hx, hp, hk, ⟨hm, hm2⟩, ho⟩
  have hc : k = 0 ∨ k = 1 ∨ k = 2 ∨ k = 3 ∨ k = 4 ∨ k = 5 ∨ k = 6 ∨ k = 7 ∨ k = 8 ∨ k = 9 ∨ k = 10 ∨ k = 11 := by omega
  rcases hc with e | e | e | e | e | e | e | e | e | e | e | e <;> subst e
  · exact a0
  · exact a1
  · exact a2
  · exact a3
  · exact a4
  · exact a5
  · exact a6
  · exact a7
  · exact a8
  · exact a9
  · exact a10
  · exact a11
theorem RM_of {E : EV} {g0 : GH} {Q : MS} {G : GH} {F : Nat → Nat → Int32} (h : RX E g0 (F, iI Q.1.2.1.2.length, iI Q.2.length) G) (m : MR F Q) : RM E g0 Q G := by
  obtain ⟨h76, ha, hg⟩ := h
  obtain ⟨hx, hp, hk, ⟨hm, hm2⟩, ho⟩ := m
  exact ⟨h76, ⟨F 0, F 1, ha 0 (by omega), ha 1 (by omega), hx⟩, ⟨F 2, F 3, F 4, ha 2 (by omega), ha 3 (by omega), ha 4 (by omega), hp⟩, ⟨F 5, F 6, F 7, F 8, F 9, F 10, ha 5 (by omega), ha 6 (by omega), ha 7 (by omega), ha 8 (by omega), ha 9 (by omega), ha 10 (by omega), hk⟩, ⟨F 11, ha 11 (by omega), hm, hm2⟩, ho, hg⟩
theorem j_xM {E : EV} {g0 : GH} {X : TX} {pc : Nat} {lv : List (Nat × Value)} {st : List Value} {Q : MS} (K : ∀ F, MR F Q → JL E (RX E g0) X pc lv st (F, iI Q.1.2.1.2.length, iI Q.2.length)) : JL E (RM E g0) X pc lv st Q := by
  obtain ⟨p, e, R, s, m, args, below, meth, c, A0, nL, k, n, Q⟩ := X
  intro G H locs ls hR hP hS hl
  obtain ⟨F, hR, hm⟩ := RX_of hR
  exact K F hm G H locs ls hR hP hS hl
theorem j_xB {E : EV} {g0 : GH} {X : TX} {pc : Nat} {lv : List (Nat × Value)} {st : List Value} (Q : MS) {F : Nat → Nat → Int32} {pm mm : Int32} (h1 : pm = iI Q.1.2.1.2.length) (h2 : mm = iI Q.2.length) (m : MR F Q) (K : JL E (RM E g0) X pc lv st Q) : JL E (RX E g0) X pc lv st (F, pm, mm) :=
  j_re (fun G hG => by subst h1; subst h2; exact RM_of hG m) K
theorem fnX {E : EV} {g0 : GH} {X : TX} {v : Option Value} (Q : MS) {F : Nat → Nat → Int32} {pm mm : Int32} (h1 : pm = iI Q.1.2.1.2.length) (h2 : mm = iI Q.2.length) (m : MR F Q) (h : Fn E (RM E g0) X v Q) : Fn E (RX E g0) X v (F, pm, mm) := by
  obtain ⟨p, e, R, s, m2, args, below, meth, c, A0, nL, k, n, Q2⟩ := X
  obtain ⟨Qc, free, a1, a2, a3⟩ := h
  exact ⟨Qc, free, a1, a2, fun G t hR => a3 G t (by subst h1; subst h2; exact RM_of hR m)⟩
theorem rcX {E : EV} {g0 : GH} {s : RS} : ∀ G, RX E g0 s G → ∃ fs, G 76 = .inr (4, fs) := fun G h => ⟨_, h.1⟩
theorem RX_up {E : EV} {g0 : GH} {F : Nat → Nat → Int32} {pm mm : Int32} {G : GH} (h : RX E g0 (F, pm, mm) G) {k : Nat} (hk : k < 12) (f : Nat → Int32) : RX E g0 (va_up F k f, pm, mm) (va_up G (k + 77) (iA E (LN k) f)) := by
  obtain ⟨h1, h2, h3⟩ := h
  refine ⟨by rw [va_up_ne _ _ (by omega)]; exact h1, fun j hj => ?_, fun i hi => by rw [va_up_ne _ _ (by omega)]; exact h3 i hi⟩
  by_cases q : j = k
  · subst q; rw [va_up_self]; show _ = iA E (LN j) (va_up F j f j); rw [va_up_self]
  · rw [va_up_ne _ _ (by omega)]; show _ = iA E (LN j) (va_up F k f j); rw [va_up_ne _ _ q]; exact h2 j hj
theorem LN_le (k : Nat) : LN k ≤ 4800 := by unfold LN; split <;> omega
section RXM
variable {E : EV} {X : TX} {cc : ByteArray} {own : String} {ret : Option FieldType} {rm : Room} {nL : Nat} {g0 : GH} {pc index : Nat} {lv : List (Nat × Value)} {rest : List Value} {F : Nat → Nat → Int32} {pm mm : Int32}
theorem jy_ld (h : CX E X cc own ret rm nL) {k : Nat} {z : Int} (hk : k < 12) (h0 : 0 ≤ z) (h1 : z < LN k) (hd : decode cc pc = .ok (.iaload, 1)) (K : JL E (RX E g0) X (pc + 1) lv (.int (F k z.toNat) :: rest) (F, pm, mm)) : JL E (RX E g0) X pc lv (.int (iI z) :: eA E (k + 77) :: rest) (F, pm, mm) :=
  j_iald h (F k z.toNat) (by omega) ⟨h0, by have := LN_le k; omega⟩ (fun G hG => ⟨LN k, F k, hG.2.1 k hk, h1, rfl⟩) hd K
theorem jy_st (h : CX E X cc own ret rm nL) {k : Nat} {z : Int} {x : Int32} (hk : k < 12) (h0 : 0 ≤ z) (h1 : z < LN k) (hd : decode cc pc = .ok (.iastore, 1)) (K : JL E (RX E g0) X (pc + 1) lv rest (va_up F k (upd (F k) z.toNat x), pm, mm)) : JL E (RX E g0) X pc lv (.int x :: .int (iI z) :: eA E (k + 77) :: rest) (F, pm, mm) :=
  j_iast h (S' := (va_up F k (upd (F k) z.toNat x), pm, mm)) (by omega) ⟨h0, by have := LN_le k; omega⟩ (fun G hG => ⟨LN k, F k, hG.2.1 k hk, h1, RX_up hG hk _⟩) hd K
theorem jy_Msigns (h : CX E X cc own ret rm nL) {s : RS} (hw : Cond.fieldLink own index "TextShelvesModel" "signs" "[I" ∈ AW) (hd : decode cc pc = .ok (.getfield index, 3)) (K : JL E (RX E g0) X (pc + 3) lv (eA E (0 + 77) :: rest) s) : JL E (RX E g0) X pc lv (eA E 76 :: rest) s :=
  j_get h (T := TX4) 0 inX4 (ci := 4) rfl (by decide) hw rfl (by omega) (fun G hG => hG.1) rfl hd K
theorem jy_Msizes (h : CX E X cc own ret rm nL) {s : RS} (hw : Cond.fieldLink own index "TextShelvesModel" "sizes" "[I" ∈ AW) (hd : decode cc pc = .ok (.getfield index, 3)) (K : JL E (RX E g0) X (pc + 3) lv (eA E (1 + 77) :: rest) s) : JL E (RX E g0) X pc lv (eA E 76 :: rest) s :=
  j_get h (T := TX4) 1 inX4 (ci := 4) rfl (by decide) hw rfl (by omega) (fun G hG => hG.1) rfl hd K
theorem jy_Mparted (h : CX E X cc own ret rm nL) {s : RS} (hw : Cond.fieldLink own index "TextShelvesModel" "parted" "[I" ∈ AW) (hd : decode cc pc = .ok (.getfield index, 3)) (K : JL E (RX E g0) X (pc + 3) lv (eA E (2 + 77) :: rest) s) : JL E (RX E g0) X pc lv (eA E 76 :: rest) s :=
  j_get h (T := TX4) 3 inX4 (ci := 4) rfl (by decide) hw rfl (by omega) (fun G hG => hG.1) rfl hd K
theorem jy_MpieceFroms (h : CX E X cc own ret rm nL) {s : RS} (hw : Cond.fieldLink own index "TextShelvesModel" "pieceFroms" "[I" ∈ AW) (hd : decode cc pc = .ok (.getfield index, 3)) (K : JL E (RX E g0) X (pc + 3) lv (eA E (3 + 77) :: rest) s) : JL E (RX E g0) X pc lv (eA E 76 :: rest) s :=
  j_get h (T := TX4) 4 inX4 (ci := 4) rfl (by decide) hw rfl (by omega) (fun G hG => hG.1) rfl hd K
theorem jy_MpieceSizes (h : CX E X cc own ret rm nL) {s : RS} (hw : Cond.fieldLink own index "TextShelvesModel" "pieceSizes" "[I" ∈ AW) (hd : decode cc pc = .ok (.getfield index, 3)) (K : JL E (RX E g0) X (pc + 3) lv (eA E (4 + 77) :: rest) s) : JL E (RX E g0) X pc lv (eA E 76 :: rest) s :=
  j_get h (T := TX4) 5 inX4 (ci := 4) rfl (by decide) hw rfl (by omega) (fun G hG => hG.1) rfl hd K
theorem jy_MkeptSigns (h : CX E X cc own ret rm nL) {s : RS} (hw : Cond.fieldLink own index "TextShelvesModel" "keptSigns" "[I" ∈ AW) (hd : decode cc pc = .ok (.getfield index, 3)) (K : JL E (RX E g0) X (pc + 3) lv (eA E (5 + 77) :: rest) s) : JL E (RX E g0) X pc lv (eA E 76 :: rest) s :=
  j_get h (T := TX4) 6 inX4 (ci := 4) rfl (by decide) hw rfl (by omega) (fun G hG => hG.1) rfl hd K
theorem jy_MkeptSizes (h : CX E X cc own ret rm nL) {s : RS} (hw : Cond.fieldLink own index "TextShelvesModel" "keptSizes" "[I" ∈ AW) (hd : decode cc pc = .ok (.getfield index, 3)) (K : JL E (RX E g0) X (pc + 3) lv (eA E (6 + 77) :: rest) s) : JL E (RX E g0) X pc lv (eA E 76 :: rest) s :=
  j_get h (T := TX4) 7 inX4 (ci := 4) rfl (by decide) hw rfl (by omega) (fun G hG => hG.1) rfl hd K
theorem jy_MkeptMany (h : CX E X cc own ret rm nL) {s : RS} (hw : Cond.fieldLink own index "TextShelvesModel" "keptMany" "[I" ∈ AW) (hd : decode cc pc = .ok (.getfield index, 3)) (K : JL E (RX E g0) X (pc + 3) lv (eA E (7 + 77) :: rest) s) : JL E (RX E g0) X pc lv (eA E 76 :: rest) s :=
  j_get h (T := TX4) 8 inX4 (ci := 4) rfl (by decide) hw rfl (by omega) (fun G hG => hG.1) rfl hd K
theorem jy_MkeptParted (h : CX E X cc own ret rm nL) {s : RS} (hw : Cond.fieldLink own index "TextShelvesModel" "keptParted" "[I" ∈ AW) (hd : decode cc pc = .ok (.getfield index, 3)) (K : JL E (RX E g0) X (pc + 3) lv (eA E (8 + 77) :: rest) s) : JL E (RX E g0) X pc lv (eA E 76 :: rest) s :=
  j_get h (T := TX4) 9 inX4 (ci := 4) rfl (by decide) hw rfl (by omega) (fun G hG => hG.1) rfl hd K
theorem jy_MkeptFroms (h : CX E X cc own ret rm nL) {s : RS} (hw : Cond.fieldLink own index "TextShelvesModel" "keptFroms" "[I" ∈ AW) (hd : decode cc pc = .ok (.getfield index, 3)) (K : JL E (RX E g0) X (pc + 3) lv (eA E (9 + 77) :: rest) s) : JL E (RX E g0) X pc lv (eA E 76 :: rest) s :=
  j_get h (T := TX4) 10 inX4 (ci := 4) rfl (by decide) hw rfl (by omega) (fun G hG => hG.1) rfl hd K
theorem jy_MkeptPieceSizes (h : CX E X cc own ret rm nL) {s : RS} (hw : Cond.fieldLink own index "TextShelvesModel" "keptPieceSizes" "[I" ∈ AW) (hd : decode cc pc = .ok (.getfield index, 3)) (K : JL E (RX E g0) X (pc + 3) lv (eA E (10 + 77) :: rest) s) : JL E (RX E g0) X pc lv (eA E 76 :: rest) s :=
  j_get h (T := TX4) 11 inX4 (ci := 4) rfl (by decide) hw rfl (by omega) (fun G hG => hG.1) rfl hd K
theorem jy_Mmade (h : CX E X cc own ret rm nL) {s : RS} (hw : Cond.fieldLink own index "TextShelvesModel" "made" "[I" ∈ AW) (hd : decode cc pc = .ok (.getfield index, 3)) (K : JL E (RX E g0) X (pc + 3) lv (eA E (11 + 77) :: rest) s) : JL E (RX E g0) X pc lv (eA E 76 :: rest) s :=
  j_get h (T := TX4) 12 inX4 (ci := 4) rfl (by decide) hw rfl (by omega) (fun G hG => hG.1) rfl hd K
theorem jy_MpieceMany (h : CX E X cc own ret rm nL) (hw : Cond.fieldLink own index "TextShelvesModel" "pieceMany" "I" ∈ AW) (hd : decode cc pc = .ok (.getfield index, 3)) (K : JL E (RX E g0) X (pc + 3) lv (.int pm :: rest) (F, pm, mm)) : JL E (RX E g0) X pc lv (eA E 76 :: rest) (F, pm, mm) :=
  j_get h (T := TX4) 2 inX4 (ci := 4) rfl (by decide) hw rfl (by omega) (fun G (hG : RX E g0 (F, pm, mm) G) => hG.1) rfl hd K
theorem jy_put_pieceMany (h : CX E X cc own ret rm nL) {v : Int32} (hw : Cond.fieldLink own index "TextShelvesModel" "pieceMany" "I" ∈ AW) (hd : decode cc pc = .ok (.putfield index, 3)) (K : JL E (RX E g0) X (pc + 3) lv rest (F, v, mm)) : JL E (RX E g0) X pc lv (.int v :: eA E 76 :: rest) (F, pm, mm) :=
  j_put h (S' := (F, v, mm)) (T := TX4) 2 inX4 tyX4 tyX4_ok nmX4 (ci := 4) rfl (by decide) hw rfl rfl rfl rfl rfl (by omega) (fun G hG => ⟨hG.1, va_up_self _ _ _, fun j hj => (va_up_ne _ _ (by omega)).trans (hG.2.1 j hj), fun j hj => (va_up_ne _ _ (by omega)).trans (hG.2.2 j hj)⟩) (Nat.le_of_ble_eq_true rfl) hd K
theorem jy_MmadeMany (h : CX E X cc own ret rm nL) (hw : Cond.fieldLink own index "TextShelvesModel" "madeMany" "I" ∈ AW) (hd : decode cc pc = .ok (.getfield index, 3)) (K : JL E (RX E g0) X (pc + 3) lv (.int mm :: rest) (F, pm, mm)) : JL E (RX E g0) X pc lv (eA E 76 :: rest) (F, pm, mm) :=
  j_get h (T := TX4) 13 inX4 (ci := 4) rfl (by decide) hw rfl (by omega) (fun G (hG : RX E g0 (F, pm, mm) G) => hG.1) rfl hd K
theorem jy_put_madeMany (h : CX E X cc own ret rm nL) {v : Int32} (hw : Cond.fieldLink own index "TextShelvesModel" "madeMany" "I" ∈ AW) (hd : decode cc pc = .ok (.putfield index, 3)) (K : JL E (RX E g0) X (pc + 3) lv rest (F, pm, v)) : JL E (RX E g0) X pc lv (.int v :: eA E 76 :: rest) (F, pm, mm) :=
  j_put h (S' := (F, pm, v)) (T := TX4) 13 inX4 tyX4 tyX4_ok nmX4 (ci := 4) rfl (by decide) hw rfl rfl rfl rfl rfl (by omega) (fun G hG => ⟨hG.1, va_up_self _ _ _, fun j hj => (va_up_ne _ _ (by omega)).trans (hG.2.1 j hj), fun j hj => (va_up_ne _ _ (by omega)).trans (hG.2.2 j hj)⟩) (Nat.le_of_ble_eq_true rfl) hd K
end RXM
