/-! the reference's state: the abstract state, and the row that is put together; places 76 the object, 77.. its rows -/
abbrev MS : Type := AS × List Int32
abbrev mObj (E : EV) (pm mm : Int32) : va_E := .inr (4, [eA E 77, eA E 78, .int pm, eA E 79, eA E 80, eA E 81, eA E 82, eA E 83, eA E 84, eA E 85, eA E 86, eA E 87, eA E 88, .int mm])
abbrev iA (E : EV) (n : Nat) (f : Nat → Int32) : va_E := .inl (eI E, n, .inl f)
def xR (f n : Nat → Int32) (o1 o2 : Nat) (X : Nat → List Int32) : Prop := ∀ j, j < 8 → n (o2 + j) = iI (X j).length ∧ (X j).length ≤ 300 ∧ ∀ l, l < (X j).length → f (o1 + 300 * j + l) = gz (X j) l
def pR (fp ff fs : Nat → Int32) (o1 o2 : Nat) (q : AP) : Prop := ∀ k, k < q.2.length → ∃ r : Nat, ff (o2 + k) = iI r ∧ fs (o2 + k) = iI (eg q.2 k - stN q.2 k : Nat) ∧ r + (eg q.2 k - stN q.2 k) ≤ 300 ∧ ∀ j, j < eg q.2 k - stN q.2 k → fp (o1 + r + j) = gz q.1 (stN q.2 k + j)
def mX (E : EV) (G : GH) (X : Nat → List Int32) : Prop := ∃ f n : Nat → Int32, G 77 = iA E 2400 f ∧ G 78 = iA E 8 n ∧ xR f n 0 0 X
def mP (E : EV) (G : GH) (q : AP) : Prop := ∃ fp ff fs : Nat → Int32, G 79 = iA E 300 fp ∧ G 80 = iA E 301 ff ∧ G 81 = iA E 301 fs ∧ pR fp ff fs 0 0 q
def mK (E : EV) (G : GH) (K : (Nat → Nat → List Int32) × (Nat → AP)) : Prop := ∃ f n m fp ff fs : Nat → Int32, G 82 = iA E 4800 f ∧ G 83 = iA E 16 n ∧ G 84 = iA E 2 m ∧ G 85 = iA E 600 fp ∧ G 86 = iA E 602 ff ∧ G 87 = iA E 602 fs ∧ ∀ i, i < 2 → xR f n (2400 * i) (8 * i) (K.1 i) ∧ m i = iI (K.2 i).2.length ∧ pR fp ff fs (300 * i) (301 * i) (K.2 i)
def mM (E : EV) (G : GH) (mk : List Int32) : Prop := ∃ f : Nat → Int32, G 88 = iA E 300 f ∧ mk.length ≤ 100000 ∧ ∀ j, j < mk.length → j < 300 → f j = gz mk j
def RM (E : EV) (g0 : GH) (Q : MS) (G : GH) : Prop := G 76 = mObj E (iI Q.1.2.1.2.length) (iI Q.2.length) ∧ mX E G Q.1.1 ∧ mP E G Q.1.2.1 ∧ mK E G Q.1.2.2 ∧ mM E G Q.2 ∧ okA Q.1 ∧ ∀ i, i < 76 → G i = g0 i
def RMP (E : EV) (g0 : GH) (A : AS) (G : GH) : Prop := ∃ mk, RM E g0 (A, mk) G
theorem mX_c {E : EV} {G G' : GH} {X : Nat → List Int32} (h : mX E G X) (h1 : G' 77 = G 77) (h2 : G' 78 = G 78) : mX E G' X := by
  obtain ⟨f, n, a, b, c⟩ := h
  exact ⟨f, n, by rw [h1]; exact a, by rw [h2]; exact b, c⟩
theorem mP_c {E : EV} {G G' : GH} {q : AP} (h : mP E G q) (h1 : G' 79 = G 79) (h2 : G' 80 = G 80) (h3 : G' 81 = G 81) : mP E G' q := by
  obtain ⟨f, n, m, a, b, c, d⟩ := h
  exact ⟨f, n, m, by rw [h1]; exact a, by rw [h2]; exact b, by rw [h3]; exact c, d⟩
theorem mK_c {E : EV} {G G' : GH} {K : (Nat → Nat → List Int32) × (Nat → AP)} (h : mK E G K) (hk : ∀ i, 82 ≤ i → i < 88 → G' i = G i) : mK E G' K := by
  obtain ⟨f, n, m, fp, ff, fs, a, b, c, d, e, g, r⟩ := h
  exact ⟨f, n, m, fp, ff, fs, by rw [hk _ (by omega) (by omega)]; exact a, by rw [hk _ (by omega) (by omega)]; exact b, by rw [hk _ (by omega) (by omega)]; exact c, by rw [hk _ (by omega) (by omega)]; exact d, by rw [hk _ (by omega) (by omega)]; exact e, by rw [hk _ (by omega) (by omega)]; exact g, r⟩
theorem mM_c {E : EV} {G G' : GH} {mk : List Int32} (h : mM E G mk) (h1 : G' 88 = G 88) : mM E G' mk := by
  obtain ⟨f, a, b⟩ := h
  exact ⟨f, by rw [h1]; exact a, b⟩
/-- the row that is put together changes -/
theorem RM_mk {E : EV} {g0 : GH} {A : AS} {mk mk' : List Int32} {G G' : GH} (h : RM E g0 (A, mk) G) (h1 : G' 76 = mObj E (iI A.2.1.2.length) (iI mk'.length)) (h2 : mM E G' mk') (hk : ∀ i, i ≠ 76 → i ≠ 88 → G' i = G i) : RM E g0 (A, mk') G' :=
  ⟨h1, mX_c h.2.1 (hk _ (by omega) (by omega)) (hk _ (by omega) (by omega)), mP_c h.2.2.1 (hk _ (by omega) (by omega)) (hk _ (by omega) (by omega)) (hk _ (by omega) (by omega)), mK_c h.2.2.2.1 (fun i a b => hk i (by omega) (by omega)), h2, h.2.2.2.2.2.1, fun i hi => by rw [hk i (by omega) (by omega)]; exact h.2.2.2.2.2.2 i hi⟩
/-- the shelves' texts change -/
theorem RM_X {E : EV} {g0 : GH} {A : AS} {mk : List Int32} {X : Nat → List Int32} {G G' : GH} (h : RM E g0 (A, mk) G) (h2 : mX E G' X) (hk : ∀ i, i ≠ 77 → i ≠ 78 → G' i = G i) : RM E g0 ((X, A.2), mk) G' :=
  ⟨by rw [hk _ (by omega) (by omega)]; exact h.1, h2, mP_c h.2.2.1 (hk _ (by omega) (by omega)) (hk _ (by omega) (by omega)) (hk _ (by omega) (by omega)), mK_c h.2.2.2.1 (fun i a b => hk i (by omega) (by omega)), mM_c h.2.2.2.2.1 (hk _ (by omega) (by omega)), h.2.2.2.2.2.1, fun i hi => by rw [hk i (by omega) (by omega)]; exact h.2.2.2.2.2.2 i hi⟩
theorem RM_len {E : EV} {g0 : GH} {Q : MS} {G : GH} (h : RM E g0 Q G) : (∀ j, j < 8 → (Q.1.1 j).length ≤ 300) ∧ Q.2.length ≤ 100000 ∧ okA Q.1 := by
  obtain ⟨-, ⟨f, n, -, -, hx⟩, -, -, ⟨_, _, hm, _⟩, ho, -⟩ := h
  exact ⟨fun j hj => (hx j hj).2.1, hm, ho⟩
theorem rcM {E : EV} {g0 : GH} {Q : MS} : ∀ G, RM E g0 Q G → ∃ fs, G 76 = .inr (4, fs) := fun G h => ⟨_, h.1⟩
theorem j_exM {E : EV} {g0 : GH} {X : TX} {pc : Nat} {lv : List (Nat × Value)} {st : List Value} {A : AS} (K : ∀ mk, JL E (RM E g0) X pc lv st (A, mk)) : JL E (RMP E g0) X pc lv st A := by
  obtain ⟨p, e, R, s, m, args, below, meth, c, A0, nL, k, n, Q⟩ := X
  intro G H locs ls hR hP hS hl
  obtain ⟨mk, hR⟩ := hR
  exact K mk G H locs ls hR hP hS hl
theorem fnM {E : EV} {g0 : GH} {X : TX} {v : Option Value} {A : AS} (mk : List Int32) (h : Fn E (RMP E g0) X v A) : Fn E (RM E g0) X v (A, mk) := by
  obtain ⟨p, e, R, s, m, args, below, meth, c, A0, nL, k, n, Q⟩ := X
  obtain ⟨Qc, free, h1, h2, h3⟩ := h
  exact ⟨Qc, free, h1, h2, fun G t hR => h3 G t ⟨mk, hR⟩⟩
theorem ct_abM {E : EV} {g0 : GH} {y : MethodName} {ws : List Cond} {rm : Room} {av : List Value} {A A' : AS} {v : Option Value} (h : ∀ mk, ∃ mk', Ct E (RM E g0) y ws rm av (A, mk) v (A', mk')) : Ct E (RMP E g0) y ws rm av A v A' := by
  intro sz
  intro p e ha hc hk s m args below hf happ hP hK
  obtain ⟨h1, h2, ⟨G, ⟨mk, hR⟩, hP2⟩, h3⟩ := hP
  obtain ⟨mk', hM⟩ := h mk
  obtain ⟨n, o, a1, a2, a3, ⟨⟨⟨a4, G', a5, a6⟩, a7⟩, a8⟩⟩ := hM sz p e ha hc hk s m args below hf happ ⟨h1, h2, ⟨G, hR, hP2⟩, h3⟩ hK
  exact ⟨n, o, a1, a2, a3, ⟨⟨⟨a4, G', ⟨mk', a5⟩, a6⟩, a7⟩, a8⟩⟩
theorem and7 {z : Int} (hz : okI z) : iI z &&& iI 7 = iI (fmo z 8) := by
  rw [pk_and (iI z) (m := iI 7) 3 (by decide)]
  have h1 : (iI z).toBitVec.toNat = (z % 4294967296).toNat := by
    show (BitVec.ofInt 32 z).toNat = _
    rw [BitVec.toNat_ofInt]
    rfl
  rw [h1]
  show Int32.ofNat _ = _
  rw [iI_nat]
  congr 1
  unfold fmo
  omega
theorem and1 {z : Int} (hz : okI z) : iI z &&& iI 1 = iI (fmo z 2) := by
  rw [pk_and (iI z) (m := iI 1) 1 (by decide)]
  have h1 : (iI z).toBitVec.toNat = (z % 4294967296).toNat := by
    show (BitVec.ofInt 32 z).toNat = _
    rw [BitVec.toNat_ofInt]
    rfl
  rw [h1]
  show Int32.ofNat _ = _
  rw [iI_nat]
  congr 1
  unfold fmo
  omega
section RGM
variable {E : EV} {X : TX} {cc : ByteArray} {own : String} {ret : Option FieldType} {rm : Room} {nL : Nat} {g0 : GH} {pc index : Nat} {lv : List (Nat × Value)} {rest : List Value} {Q : MS}
theorem jg_Msigns (h : CX E X cc own ret rm nL) (hw : Cond.fieldLink own index "TextShelvesModel" "signs" "[I" ∈ AW) (hd : decode cc pc = .ok (.getfield index, 3)) (K : JL E (RM E g0) X (pc + 3) lv (eA E 77 :: rest) Q) : JL E (RM E g0) X pc lv (eA E 76 :: rest) Q :=
  j_get h (T := TX4) 0 inX4 (ci := 4) rfl (by decide) hw rfl (by omega) (fun G hG => hG.1) rfl hd K
theorem je_Msigns (h : CX E X cc own ret rm nL) {G0 : GH} {pm mm : Int32} (h0 : G0 76 = mObj E pm mm) (hw : Cond.fieldLink own index "TextShelvesModel" "signs" "[I" ∈ AW) (hd : decode cc pc = .ok (.getfield index, 3)) (K : JL E (fun (G1 : GH) G => G1 = G) X (pc + 3) lv (eA E 77 :: rest) G0) : JL E (fun (G1 : GH) G => G1 = G) X pc lv (eA E 76 :: rest) G0 :=
  j_get h (T := TX4) 0 inX4 (ci := 4) rfl (by decide) hw rfl (by omega) (fun G hG => hG ▸ h0) rfl hd K
theorem jg_Msizes (h : CX E X cc own ret rm nL) (hw : Cond.fieldLink own index "TextShelvesModel" "sizes" "[I" ∈ AW) (hd : decode cc pc = .ok (.getfield index, 3)) (K : JL E (RM E g0) X (pc + 3) lv (eA E 78 :: rest) Q) : JL E (RM E g0) X pc lv (eA E 76 :: rest) Q :=
  j_get h (T := TX4) 1 inX4 (ci := 4) rfl (by decide) hw rfl (by omega) (fun G hG => hG.1) rfl hd K
theorem je_Msizes (h : CX E X cc own ret rm nL) {G0 : GH} {pm mm : Int32} (h0 : G0 76 = mObj E pm mm) (hw : Cond.fieldLink own index "TextShelvesModel" "sizes" "[I" ∈ AW) (hd : decode cc pc = .ok (.getfield index, 3)) (K : JL E (fun (G1 : GH) G => G1 = G) X (pc + 3) lv (eA E 78 :: rest) G0) : JL E (fun (G1 : GH) G => G1 = G) X pc lv (eA E 76 :: rest) G0 :=
  j_get h (T := TX4) 1 inX4 (ci := 4) rfl (by decide) hw rfl (by omega) (fun G hG => hG ▸ h0) rfl hd K
theorem jg_MpieceMany (h : CX E X cc own ret rm nL) {A : AS} {mk : List Int32} (hw : Cond.fieldLink own index "TextShelvesModel" "pieceMany" "I" ∈ AW) (hd : decode cc pc = .ok (.getfield index, 3)) (K : JL E (RM E g0) X (pc + 3) lv (.int (iI A.2.1.2.length) :: rest) (A, mk)) : JL E (RM E g0) X pc lv (eA E 76 :: rest) (A, mk) :=
  j_get h (T := TX4) 2 inX4 (ci := 4) rfl (by decide) hw rfl (by omega) (fun G (hG : RM E g0 (A, mk) G) => hG.1) rfl hd K
theorem je_MpieceMany (h : CX E X cc own ret rm nL) {G0 : GH} {pm mm : Int32} (h0 : G0 76 = mObj E pm mm) (hw : Cond.fieldLink own index "TextShelvesModel" "pieceMany" "I" ∈ AW) (hd : decode cc pc = .ok (.getfield index, 3)) (K : JL E (fun (G1 : GH) G => G1 = G) X (pc + 3) lv (.int pm :: rest) G0) : JL E (fun (G1 : GH) G => G1 = G) X pc lv (eA E 76 :: rest) G0 :=
  j_get h (T := TX4) 2 inX4 (ci := 4) rfl (by decide) hw rfl (by omega) (fun G hG => hG ▸ h0) rfl hd K
theorem je_Mput_pieceMany (h : CX E X cc own ret rm nL) {G0 : GH} {pm mm v : Int32} (h0 : G0 76 = mObj E pm mm) (hw : Cond.fieldLink own index "TextShelvesModel" "pieceMany" "I" ∈ AW) (hd : decode cc pc = .ok (.putfield index, 3)) (K : JL E (fun (G1 : GH) G => G1 = G) X (pc + 3) lv rest (va_up G0 76 (mObj E v mm))) : JL E (fun (G1 : GH) G => G1 = G) X pc lv (.int v :: eA E 76 :: rest) G0 :=
  j_put h (T := TX4) 2 inX4 tyX4 tyX4_ok nmX4 (ci := 4) rfl (by decide) hw rfl rfl rfl rfl rfl (by omega) (fun G hG => ⟨hG ▸ h0, hG ▸ rfl⟩) (Nat.le_of_ble_eq_true rfl) hd K
theorem jg_Mparted (h : CX E X cc own ret rm nL) (hw : Cond.fieldLink own index "TextShelvesModel" "parted" "[I" ∈ AW) (hd : decode cc pc = .ok (.getfield index, 3)) (K : JL E (RM E g0) X (pc + 3) lv (eA E 79 :: rest) Q) : JL E (RM E g0) X pc lv (eA E 76 :: rest) Q :=
  j_get h (T := TX4) 3 inX4 (ci := 4) rfl (by decide) hw rfl (by omega) (fun G hG => hG.1) rfl hd K
theorem je_Mparted (h : CX E X cc own ret rm nL) {G0 : GH} {pm mm : Int32} (h0 : G0 76 = mObj E pm mm) (hw : Cond.fieldLink own index "TextShelvesModel" "parted" "[I" ∈ AW) (hd : decode cc pc = .ok (.getfield index, 3)) (K : JL E (fun (G1 : GH) G => G1 = G) X (pc + 3) lv (eA E 79 :: rest) G0) : JL E (fun (G1 : GH) G => G1 = G) X pc lv (eA E 76 :: rest) G0 :=
  j_get h (T := TX4) 3 inX4 (ci := 4) rfl (by decide) hw rfl (by omega) (fun G hG => hG ▸ h0) rfl hd K
theorem jg_MpieceFroms (h : CX E X cc own ret rm nL) (hw : Cond.fieldLink own index "TextShelvesModel" "pieceFroms" "[I" ∈ AW) (hd : decode cc pc = .ok (.getfield index, 3)) (K : JL E (RM E g0) X (pc + 3) lv (eA E 80 :: rest) Q) : JL E (RM E g0) X pc lv (eA E 76 :: rest) Q :=
  j_get h (T := TX4) 4 inX4 (ci := 4) rfl (by decide) hw rfl (by omega) (fun G hG => hG.1) rfl hd K
theorem je_MpieceFroms (h : CX E X cc own ret rm nL) {G0 : GH} {pm mm : Int32} (h0 : G0 76 = mObj E pm mm) (hw : Cond.fieldLink own index "TextShelvesModel" "pieceFroms" "[I" ∈ AW) (hd : decode cc pc = .ok (.getfield index, 3)) (K : JL E (fun (G1 : GH) G => G1 = G) X (pc + 3) lv (eA E 80 :: rest) G0) : JL E (fun (G1 : GH) G => G1 = G) X pc lv (eA E 76 :: rest) G0 :=
  j_get h (T := TX4) 4 inX4 (ci := 4) rfl (by decide) hw rfl (by omega) (fun G hG => hG ▸ h0) rfl hd K
theorem jg_MpieceSizes (h : CX E X cc own ret rm nL) (hw : Cond.fieldLink own index "TextShelvesModel" "pieceSizes" "[I" ∈ AW) (hd : decode cc pc = .ok (.getfield index, 3)) (K : JL E (RM E g0) X (pc + 3) lv (eA E 81 :: rest) Q) : JL E (RM E g0) X pc lv (eA E 76 :: rest) Q :=
  j_get h (T := TX4) 5 inX4 (ci := 4) rfl (by decide) hw rfl (by omega) (fun G hG => hG.1) rfl hd K
theorem je_MpieceSizes (h : CX E X cc own ret rm nL) {G0 : GH} {pm mm : Int32} (h0 : G0 76 = mObj E pm mm) (hw : Cond.fieldLink own index "TextShelvesModel" "pieceSizes" "[I" ∈ AW) (hd : decode cc pc = .ok (.getfield index, 3)) (K : JL E (fun (G1 : GH) G => G1 = G) X (pc + 3) lv (eA E 81 :: rest) G0) : JL E (fun (G1 : GH) G => G1 = G) X pc lv (eA E 76 :: rest) G0 :=
  j_get h (T := TX4) 5 inX4 (ci := 4) rfl (by decide) hw rfl (by omega) (fun G hG => hG ▸ h0) rfl hd K
theorem jg_MkeptSigns (h : CX E X cc own ret rm nL) (hw : Cond.fieldLink own index "TextShelvesModel" "keptSigns" "[I" ∈ AW) (hd : decode cc pc = .ok (.getfield index, 3)) (K : JL E (RM E g0) X (pc + 3) lv (eA E 82 :: rest) Q) : JL E (RM E g0) X pc lv (eA E 76 :: rest) Q :=
  j_get h (T := TX4) 6 inX4 (ci := 4) rfl (by decide) hw rfl (by omega) (fun G hG => hG.1) rfl hd K
theorem je_MkeptSigns (h : CX E X cc own ret rm nL) {G0 : GH} {pm mm : Int32} (h0 : G0 76 = mObj E pm mm) (hw : Cond.fieldLink own index "TextShelvesModel" "keptSigns" "[I" ∈ AW) (hd : decode cc pc = .ok (.getfield index, 3)) (K : JL E (fun (G1 : GH) G => G1 = G) X (pc + 3) lv (eA E 82 :: rest) G0) : JL E (fun (G1 : GH) G => G1 = G) X pc lv (eA E 76 :: rest) G0 :=
  j_get h (T := TX4) 6 inX4 (ci := 4) rfl (by decide) hw rfl (by omega) (fun G hG => hG ▸ h0) rfl hd K
theorem jg_MkeptSizes (h : CX E X cc own ret rm nL) (hw : Cond.fieldLink own index "TextShelvesModel" "keptSizes" "[I" ∈ AW) (hd : decode cc pc = .ok (.getfield index, 3)) (K : JL E (RM E g0) X (pc + 3) lv (eA E 83 :: rest) Q) : JL E (RM E g0) X pc lv (eA E 76 :: rest) Q :=
  j_get h (T := TX4) 7 inX4 (ci := 4) rfl (by decide) hw rfl (by omega) (fun G hG => hG.1) rfl hd K
theorem je_MkeptSizes (h : CX E X cc own ret rm nL) {G0 : GH} {pm mm : Int32} (h0 : G0 76 = mObj E pm mm) (hw : Cond.fieldLink own index "TextShelvesModel" "keptSizes" "[I" ∈ AW) (hd : decode cc pc = .ok (.getfield index, 3)) (K : JL E (fun (G1 : GH) G => G1 = G) X (pc + 3) lv (eA E 83 :: rest) G0) : JL E (fun (G1 : GH) G => G1 = G) X pc lv (eA E 76 :: rest) G0 :=
  j_get h (T := TX4) 7 inX4 (ci := 4) rfl (by decide) hw rfl (by omega) (fun G hG => hG ▸ h0) rfl hd K
theorem jg_MkeptMany (h : CX E X cc own ret rm nL) (hw : Cond.fieldLink own index "TextShelvesModel" "keptMany" "[I" ∈ AW) (hd : decode cc pc = .ok (.getfield index, 3)) (K : JL E (RM E g0) X (pc + 3) lv (eA E 84 :: rest) Q) : JL E (RM E g0) X pc lv (eA E 76 :: rest) Q :=
  j_get h (T := TX4) 8 inX4 (ci := 4) rfl (by decide) hw rfl (by omega) (fun G hG => hG.1) rfl hd K
theorem je_MkeptMany (h : CX E X cc own ret rm nL) {G0 : GH} {pm mm : Int32} (h0 : G0 76 = mObj E pm mm) (hw : Cond.fieldLink own index "TextShelvesModel" "keptMany" "[I" ∈ AW) (hd : decode cc pc = .ok (.getfield index, 3)) (K : JL E (fun (G1 : GH) G => G1 = G) X (pc + 3) lv (eA E 84 :: rest) G0) : JL E (fun (G1 : GH) G => G1 = G) X pc lv (eA E 76 :: rest) G0 :=
  j_get h (T := TX4) 8 inX4 (ci := 4) rfl (by decide) hw rfl (by omega) (fun G hG => hG ▸ h0) rfl hd K
theorem jg_MkeptParted (h : CX E X cc own ret rm nL) (hw : Cond.fieldLink own index "TextShelvesModel" "keptParted" "[I" ∈ AW) (hd : decode cc pc = .ok (.getfield index, 3)) (K : JL E (RM E g0) X (pc + 3) lv (eA E 85 :: rest) Q) : JL E (RM E g0) X pc lv (eA E 76 :: rest) Q :=
  j_get h (T := TX4) 9 inX4 (ci := 4) rfl (by decide) hw rfl (by omega) (fun G hG => hG.1) rfl hd K
theorem je_MkeptParted (h : CX E X cc own ret rm nL) {G0 : GH} {pm mm : Int32} (h0 : G0 76 = mObj E pm mm) (hw : Cond.fieldLink own index "TextShelvesModel" "keptParted" "[I" ∈ AW) (hd : decode cc pc = .ok (.getfield index, 3)) (K : JL E (fun (G1 : GH) G => G1 = G) X (pc + 3) lv (eA E 85 :: rest) G0) : JL E (fun (G1 : GH) G => G1 = G) X pc lv (eA E 76 :: rest) G0 :=
  j_get h (T := TX4) 9 inX4 (ci := 4) rfl (by decide) hw rfl (by omega) (fun G hG => hG ▸ h0) rfl hd K
theorem jg_MkeptFroms (h : CX E X cc own ret rm nL) (hw : Cond.fieldLink own index "TextShelvesModel" "keptFroms" "[I" ∈ AW) (hd : decode cc pc = .ok (.getfield index, 3)) (K : JL E (RM E g0) X (pc + 3) lv (eA E 86 :: rest) Q) : JL E (RM E g0) X pc lv (eA E 76 :: rest) Q :=
  j_get h (T := TX4) 10 inX4 (ci := 4) rfl (by decide) hw rfl (by omega) (fun G hG => hG.1) rfl hd K
theorem je_MkeptFroms (h : CX E X cc own ret rm nL) {G0 : GH} {pm mm : Int32} (h0 : G0 76 = mObj E pm mm) (hw : Cond.fieldLink own index "TextShelvesModel" "keptFroms" "[I" ∈ AW) (hd : decode cc pc = .ok (.getfield index, 3)) (K : JL E (fun (G1 : GH) G => G1 = G) X (pc + 3) lv (eA E 86 :: rest) G0) : JL E (fun (G1 : GH) G => G1 = G) X pc lv (eA E 76 :: rest) G0 :=
  j_get h (T := TX4) 10 inX4 (ci := 4) rfl (by decide) hw rfl (by omega) (fun G hG => hG ▸ h0) rfl hd K
theorem jg_MkeptPieceSizes (h : CX E X cc own ret rm nL) (hw : Cond.fieldLink own index "TextShelvesModel" "keptPieceSizes" "[I" ∈ AW) (hd : decode cc pc = .ok (.getfield index, 3)) (K : JL E (RM E g0) X (pc + 3) lv (eA E 87 :: rest) Q) : JL E (RM E g0) X pc lv (eA E 76 :: rest) Q :=
  j_get h (T := TX4) 11 inX4 (ci := 4) rfl (by decide) hw rfl (by omega) (fun G hG => hG.1) rfl hd K
theorem je_MkeptPieceSizes (h : CX E X cc own ret rm nL) {G0 : GH} {pm mm : Int32} (h0 : G0 76 = mObj E pm mm) (hw : Cond.fieldLink own index "TextShelvesModel" "keptPieceSizes" "[I" ∈ AW) (hd : decode cc pc = .ok (.getfield index, 3)) (K : JL E (fun (G1 : GH) G => G1 = G) X (pc + 3) lv (eA E 87 :: rest) G0) : JL E (fun (G1 : GH) G => G1 = G) X pc lv (eA E 76 :: rest) G0 :=
  j_get h (T := TX4) 11 inX4 (ci := 4) rfl (by decide) hw rfl (by omega) (fun G hG => hG ▸ h0) rfl hd K
theorem jg_Mmade (h : CX E X cc own ret rm nL) (hw : Cond.fieldLink own index "TextShelvesModel" "made" "[I" ∈ AW) (hd : decode cc pc = .ok (.getfield index, 3)) (K : JL E (RM E g0) X (pc + 3) lv (eA E 88 :: rest) Q) : JL E (RM E g0) X pc lv (eA E 76 :: rest) Q :=
  j_get h (T := TX4) 12 inX4 (ci := 4) rfl (by decide) hw rfl (by omega) (fun G hG => hG.1) rfl hd K
theorem je_Mmade (h : CX E X cc own ret rm nL) {G0 : GH} {pm mm : Int32} (h0 : G0 76 = mObj E pm mm) (hw : Cond.fieldLink own index "TextShelvesModel" "made" "[I" ∈ AW) (hd : decode cc pc = .ok (.getfield index, 3)) (K : JL E (fun (G1 : GH) G => G1 = G) X (pc + 3) lv (eA E 88 :: rest) G0) : JL E (fun (G1 : GH) G => G1 = G) X pc lv (eA E 76 :: rest) G0 :=
  j_get h (T := TX4) 12 inX4 (ci := 4) rfl (by decide) hw rfl (by omega) (fun G hG => hG ▸ h0) rfl hd K
theorem jg_MmadeMany (h : CX E X cc own ret rm nL) {A : AS} {mk : List Int32} (hw : Cond.fieldLink own index "TextShelvesModel" "madeMany" "I" ∈ AW) (hd : decode cc pc = .ok (.getfield index, 3)) (K : JL E (RM E g0) X (pc + 3) lv (.int (iI mk.length) :: rest) (A, mk)) : JL E (RM E g0) X pc lv (eA E 76 :: rest) (A, mk) :=
  j_get h (T := TX4) 13 inX4 (ci := 4) rfl (by decide) hw rfl (by omega) (fun G (hG : RM E g0 (A, mk) G) => hG.1) rfl hd K
theorem je_MmadeMany (h : CX E X cc own ret rm nL) {G0 : GH} {pm mm : Int32} (h0 : G0 76 = mObj E pm mm) (hw : Cond.fieldLink own index "TextShelvesModel" "madeMany" "I" ∈ AW) (hd : decode cc pc = .ok (.getfield index, 3)) (K : JL E (fun (G1 : GH) G => G1 = G) X (pc + 3) lv (.int mm :: rest) G0) : JL E (fun (G1 : GH) G => G1 = G) X pc lv (eA E 76 :: rest) G0 :=
  j_get h (T := TX4) 13 inX4 (ci := 4) rfl (by decide) hw rfl (by omega) (fun G hG => hG ▸ h0) rfl hd K
theorem je_Mput_madeMany (h : CX E X cc own ret rm nL) {G0 : GH} {pm mm v : Int32} (h0 : G0 76 = mObj E pm mm) (hw : Cond.fieldLink own index "TextShelvesModel" "madeMany" "I" ∈ AW) (hd : decode cc pc = .ok (.putfield index, 3)) (K : JL E (fun (G1 : GH) G => G1 = G) X (pc + 3) lv rest (va_up G0 76 (mObj E pm v))) : JL E (fun (G1 : GH) G => G1 = G) X pc lv (.int v :: eA E 76 :: rest) G0 :=
  j_put h (T := TX4) 13 inX4 tyX4 tyX4_ok nmX4 (ci := 4) rfl (by decide) hw rfl rfl rfl rfl rfl (by omega) (fun G hG => ⟨hG ▸ h0, hG ▸ rfl⟩) (Nat.le_of_ble_eq_true rfl) hd K
end RGM
