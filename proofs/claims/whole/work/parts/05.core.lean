/-! numbers: an int and a long told by a whole number -/
def iI (z : Int) : Int32 := Int32.ofInt z
def lI (z : Int) : Int64 := Int64.ofInt z
def okI (z : Int) : Prop := -2147483648 ≤ z ∧ z < 2147483648
def okL (z : Int) : Prop := -9223372036854775808 ≤ z ∧ z < 9223372036854775808
theorem iI_toInt {z : Int} (h : okI z) : (iI z).toInt = z := Int32.toInt_ofInt_of_le h.1 h.2
theorem iI_of (x : Int32) : iI x.toInt = x := Int32.ofInt_toInt x
theorem okI_of (x : Int32) : okI x.toInt := ⟨x.le_toInt, x.toInt_lt⟩
theorem iI_add (a b : Int) : iI a + iI b = iI (a + b) := (Int32.ofInt_add a b).symm
theorem iI_sub (a b : Int) : iI a - iI b = iI (a - b) := (Int32.ofInt_sub a b).symm
theorem iI_mul (a b : Int) : iI a * iI b = iI (a * b) := (Int32.ofInt_mul a b).symm
theorem iI_neg (a : Int) : -iI a = iI (-a) := (Int32.ofInt_neg a).symm
theorem iI_inj {a b : Int} (ha : okI a) (hb : okI b) : iI a = iI b ↔ a = b := ⟨fun h => by rw [← iI_toInt ha, ← iI_toInt hb, h], fun h => by rw [h]⟩
theorem iI_le {a b : Int} (ha : okI a) (hb : okI b) : iI a ≤ iI b ↔ a ≤ b := by rw [Int32.le_iff_toInt_le, iI_toInt ha, iI_toInt hb]
theorem iI_lt {a b : Int} (ha : okI a) (hb : okI b) : iI a < iI b ↔ a < b := by rw [Int32.lt_iff_toInt_lt, iI_toInt ha, iI_toInt hb]
def bI (b : Bool) : Int := if b then 1 else 0
theorem okI_b (b : Bool) : okI (bI b) := by cases b <;> exact ⟨by decide, by decide⟩
theorem iI_clamp {z : Int} (h0 : 0 ≤ z) (h : z < 2147483648) : (iI z).toNatClampNeg = z.toNat := by
  show (iI z).toInt.toNat = z.toNat
  rw [iI_toInt ⟨by omega, h⟩]
theorem iI_in {z : Int} {n : Nat} (h0 : 0 ≤ z) (h : z < n) (hn : z < 2147483648) : vp_in (iI z) n := by
  rw [vp_in_iff, iI_toInt ⟨by omega, hn⟩]
  exact ⟨h0, h⟩
theorem iI_nat (n : Nat) : Int32.ofNat n = iI n := by
  show Int32.ofNat n = Int32.ofInt n
  rw [Int32.ofInt_eq_ofNat]
theorem lI_toInt {z : Int} (h : okL z) : (lI z).toInt = z := Int64.toInt_ofInt_of_le h.1 h.2
theorem lI_of (x : Int64) : lI x.toInt = x := Int64.ofInt_toInt x
theorem okL_of (x : Int64) : okL x.toInt := ⟨x.le_toInt, x.toInt_lt⟩
theorem lI_add (a b : Int) : lI a + lI b = lI (a + b) := (Int64.ofInt_add a b).symm
theorem lI_mul (a b : Int) : lI a * lI b = lI (a * b) := (Int64.ofInt_mul a b).symm
theorem iI_i2l {z : Int} (h : okI z) : (iI z).toInt64 = lI z := by
  apply Int64.toInt_inj.mp
  rw [Int32.toInt_toInt64, iI_toInt h, lI_toInt ⟨by have := h.1; omega, by have := h.2; omega⟩]
/-! the environment: launch, classes, where the 89 places lie, the classes of int[], Text[], Image[] -/
abbrev EV : Type := Launch × va_G × (Nat → Nat) × (ClassId × ClassId × ClassId) × ((Nat → Prop) → State → Heap → Prop)
abbrev eI (E : EV) : ClassId := E.2.2.2.1.1
abbrev eT (E : EV) : ClassId := E.2.2.2.1.2.1
abbrev eM (E : EV) : ClassId := E.2.2.2.1.2.2
abbrev eX (E : EV) : (Nat → Prop) → State → Heap → Prop := E.2.2.2.2
abbrev eA (E : EV) (i : Nat) : Value := .ref (E.2.2.1 i)
def tysE (E : EV) : List (ClassId × FieldType) := [(eI E, .int), (eT E, .object RX2), (eM E, .object RX0)]
/-- links of private members of a nest mate -/
def nwl : List Cond := [.fieldLinkNest "TextShelves" 191 "TextShelves$Image" "parts" "LTextShelves$Pieces;" "TextShelves", .methodLinkNest "TextShelves$Text" 61 yX3_asTold "TextShelves", .methodLinkNest "TextShelves$Text" 65 yX3_isLoose "TextShelves"]
/-- the places lie apart; what is carried beside the world stays as the machine goes on -/
def EOK (E : EV) : Prop := (∀ i j, i < 89 → j < 89 → E.2.2.1 i = E.2.2.1 j → i = j) ∧ (∀ (A : Nat → Prop) (s U : State) (H : Heap), eX E A s H → s.WarmedH U.vm → eX E A U H) ∧ (∀ (A : Nat → Prop) (u U : State) (H : Heap), eX E A u H → u.vm = U.vm → eX E A U H) ∧ (∀ (A : Nat → Prop) (s : State) (H H1 : Heap), eX E A s H → (∀ q : Nat, q < H.size → ¬ A q → H1[q]? = H[q]?) → eX E A s H1) ∧ (∀ (A B : Nat → Prop) (s : State) (H : Heap), eX E A s H → (∀ q, B q → A q) → eX E B s H) ∧ ∀ (A : Nat → Prop) (s : State) (H : Heap), eX E A s H → ∀ w ∈ nwl, va_Nw w s
abbrev GH : Type := Nat → va_E
def wl (ad : Nat → Nat) (G : GH) : va_W := (List.range 89).map (fun i => (ad i, G i))
theorem wl_get {ad : Nat → Nat} {G : GH} {i : Nat} (h : i < 89) : (wl ad G)[i]? = some (ad i, G i) := by simp [wl, h]
theorem wl_get' {ad : Nat → Nat} {G : GH} {i : Nat} {e : va_E} (h : i < 89) (he : G i = e) : (wl ad G)[i]? = some (ad i, e) := by rw [wl_get h, he]
theorem wl_set {ad : Nat → Nat} {G : GH} {i : Nat} {e : va_E} : (wl ad G).set i (ad i, e) = wl ad (va_up G i e) := by
  apply List.ext_getElem?
  intro j
  rw [List.getElem?_set]
  by_cases hj : i = j
  · subst hj
    by_cases hi : i < 89
    · simp [wl, hi, va_up]
    · simp [wl, hi]
  · rw [if_neg hj]
    by_cases hi : j < 89
    · rw [wl_get hi, wl_get hi, va_up_ne _ _ (fun h => hj h.symm)]
    · simp [wl, hi]
theorem wl_D {ad : Nat → Nat} {G : GH} {A : Nat → Prop} (hi : ∀ i j, i < 89 → j < 89 → ad i = ad j → i = j) (hA : ∀ i, i < 89 → A (ad i)) : va_D A (wl ad G) := by
  have key : ∀ (k : Nat) (q : Nat × va_E), (wl ad G)[k]? = some q → k < 89 ∧ q.1 = ad k := by
    intro k q hk
    by_cases h : k < 89
    · rw [wl_get h] at hk
      cases hk
      exact ⟨h, rfl⟩
    · simp [wl, h] at hk
  refine ⟨fun i j p q hp hq h => ?_, fun k q hk => ?_⟩
  · obtain ⟨h1, h2⟩ := key i p hp
    obtain ⟨h3, h4⟩ := key j q hq
    exact hi i j h1 h3 (by rw [← h2, ← h4, h])
  · obtain ⟨h1, h2⟩ := key k q hk
    rw [h2]
    exact hA k h1
/-! a method's fixed things; what holds of them; the judgement -/
abbrev TX : Type := Program × Env × Room × State × MethodId × Array Value × List Frame × Method × Code × (Nat → Prop) × Nat × Nat × Nat × (State → Prop)
def CX (E : EV) (X : TX) (cc : ByteArray) (own : String) (ret : Option FieldType) (rm : Room) (nL : Nat) : Prop := match X with
  | (p, e, R, s, m, args, below, meth, c, A, nL', k, n, Q) => p.tables.exec = Jvm.exec ∧ c.code = cc ∧ c.maxLocals = nL ∧ nL' = nL ∧ s.vm.findClass own = some m.cls ∧ (∀ w ∈ AW, w.before args s = true) ∧ va_K E.2.1 vwCl (tysE E) s ∧ meth.locks = false ∧ meth.sig.returnType = ret ∧ R = rm ∧ (∀ q, s.heap.size ≤ q → A q) ∧ (∀ i, i < 89 → A (E.2.2.1 i)) ∧ EOK E ∧ k ≤ R.cells ∧ n ≤ R.slots ∧ eX E A s s.heap
def JL {τ : Type} (E : EV) (Rp : τ → GH → Prop) (X : TX) (pc : Nat) (lv : List (Nat × Value)) (st : List Value) (S : τ) : Prop := match X with
  | (p, e, R, s, m, args, below, meth, c, A, nL, k, n, Q) => ∀ (G : GH) (H : Heap) (locs : List Loc) (ls : Array Slot), Rp S G → va_P E.2.1 vwCl (wl E.2.2.1 G) H → va_S A s.heap H locs → lv_has ls nL lv → W p E.1 e R s m args below meth c H locs k n Q (F0 m pc ls st)
def Fn {τ : Type} (E : EV) (Rp : τ → GH → Prop) (X : TX) (v : Option Value) (S : τ) : Prop := match X with
  | (p, e, R, s, m, args, below, meth, c, A, nL, k, n, Q) => ∃ (Qc : Array Value → State → Outcome → State → Prop) (free : Addr → Prop), Q = MQ below Qc args s k n free ∧ (∀ q, A q → free q) ∧ ∀ (G : GH) (t : State), Rp S G → va_P E.2.1 vwCl (wl E.2.2.1 G) t.heap → va_F A s t → Qc args s (.returned v) t
def AE (E : EV) (sz : Nat) : Nat → Prop := fun q => (∃ i, i < 89 ∧ E.2.2.1 i = q) ∨ sz ≤ q
/-- a method's contract: at these arguments, in a world of state S, it returns v and leaves state S' -/
def Ct {τ : Type} (E : EV) (Rp : τ → GH → Prop) (y : MethodName) (ws : List Cond) (rm : Room) (av : List Value) (S : τ) (v : Option Value) (S' : τ) : Prop :=
  ∀ sz : Nat, Met E.1 y ws rm (va_Pc av (fun U => U.heap.size = sz ∧ (∃ G, Rp S G ∧ va_P E.2.1 vwCl (wl E.2.2.1 G) U.heap) ∧ va_K E.2.1 vwCl (tysE E) U ∧ eX E (AE E sz) U U.heap)) (fun _ st o t => (o = .returned v ∧ ∃ G, Rp S' G ∧ va_P E.2.1 vwCl (wl E.2.2.1 G) t.heap) ∧ va_F (AE E sz) st t) 0 0 (AE E sz)
theorem ct_of {τ : Type} {E : EV} {Rp : τ → GH → Prop} {y : MethodName} {ws : List Cond} {rm : Room} {cc : ByteArray} {maxL : Nat} {ret : Option FieldType} {av : List Value} {S : τ} {v : Option Value} {S' : τ} (lv0 : List (Nat × Value)) (hE : EOK E) (hy : plainName y.cls = true) (hw : ws = Cond.code y cc maxL ret :: AW) (hn : (lg_sl av).length ≤ maxL) (hlv : lv_args 0 av = lv0)
    (body : ∀ X, CX E X cc y.cls ret rm maxL → Fn E Rp X v S' → JL E Rp X 0 lv0 [] S) : Ct E Rp y ws rm av S v S' := by
  intro sz
  refine Met.ofW (cc := cc) (maxL := maxL) (ret := ret) hy hw ?_
  intro p e s m args below meth c s₁ B hml hv
  obtain ⟨rfl, hsz, ⟨G, hR, hP⟩, hK, hX⟩ := hv
  have hl := lv_entry av (n := maxL) hn
  rw [lg_entry_eq]
  rw [hlv] at hl
  refine body (p, e, rm, s, m, av.toArray, below, meth, c, AE E sz, maxL, 0, 0, MQ below (fun _ st o t => (o = .returned v ∧ ∃ G, Rp S' G ∧ va_P E.2.1 vwCl (wl E.2.2.1 G) t.heap) ∧ va_F (AE E sz) st t) av.toArray s 0 0 (AE E sz)) ?_ ?_ G s.heap [] _ hR hP va_S.rf hl
  · exact ⟨B.exec, B.bytes, hml, rfl, findClass_of_methodNamed B.named, fun w hw2 => atoms_spec (ws := ws) B.pre w (by rw [hw]; exact List.mem_cons_of_mem _ hw2), hK, B.notSynchronized, B.returns, rfl, fun q h => Or.inr (hsz ▸ h), fun i h => Or.inl ⟨i, h, rfl⟩, hE, Nat.zero_le _, Nat.zero_le _, hX⟩
  · exact ⟨_, _, rfl, fun q h => h, fun G t h1 h2 h3 => ⟨⟨rfl, G, h1, h2⟩, h3⟩⟩
section JR
variable {τ : Type} {E : EV} {Rp : τ → GH → Prop} {X : TX} {cc : ByteArray} {own : String} {ret : Option FieldType} {rm : Room} {nL : Nat}
variable {pc : Nat} {lv lv' : List (Nat × Value)} {st rest : List Value} {S : τ}
/-- fewer listed locals -/
theorem j_sub {lv2 : List (Nat × Value)} (ks : List Nat) (hs : lv_pick lv ks = lv2) (K : JL E Rp X pc lv2 st S) : JL E Rp X pc lv st S := by
  obtain ⟨p, e, R, s, m, args, below, meth, c, A, nL, k, n, Q⟩ := X
  intro G H locs ls hR hP hS hl
  exact K G H locs ls hR hP hS (lv_sub hl ks hs)
theorem j_st {st2 : List Value} (hs : st2 = st) (K : JL E Rp X pc lv st2 S) : JL E Rp X pc lv st S := hs ▸ K
theorem j_S {S2 : τ} (hs : S2 = S) (K : JL E Rp X pc lv st S2) : JL E Rp X pc lv st S := hs ▸ K
/-- what the world says of the state -/
theorem j_of {P : Prop} (hp : ∀ G, Rp S G → P) (K : P → JL E Rp X pc lv st S) : JL E Rp X pc lv st S := by
  obtain ⟨p, e, R, s, m, args, below, meth, c, A, nL, k, n, Q⟩ := X
  intro G H locs ls hR hP hS hl
  exact K (hp G hR) G H locs ls hR hP hS hl
/-- another picture of the same world -/
theorem j_re {τ2 : Type} {Rp2 : τ2 → GH → Prop} {S2 : τ2} (hp : ∀ G, Rp S G → Rp2 S2 G) (K : JL E Rp2 X pc lv st S2) : JL E Rp X pc lv st S := by
  obtain ⟨p, e, R, s, m, args, below, meth, c, A, nL, k, n, Q⟩ := X
  intro G H locs ls hR hP hS hl
  exact K G H locs ls (hp G hR) hP hS hl
/-- the world itself is the picture -/
theorem j_eq (K : ∀ G0, Rp S G0 → JL E (fun (G1 : GH) G => G1 = G) X pc lv st G0) : JL E Rp X pc lv st S := by
  obtain ⟨p, e, R, s, m, args, below, meth, c, A, nL, k, n, Q⟩ := X
  intro G H locs ls hR hP hS hl
  exact K G hR G H locs ls rfl hP hS hl

theorem j_iconst (h : CX E X cc own ret rm nL) {z : Int} (hd : decode cc pc = .ok (.iconst z, 1)) (K : JL E Rp X (pc + 1) lv (.int (iI z) :: rest) S) : JL E Rp X pc lv rest S := by
  obtain ⟨p, e, R, s, m, args, below, meth, c, A, nL', kk0, nn0, Q⟩ := X
  obtain ⟨hx, hb, hml, rfl, hown, hts, hK, hlk, hr, hrm, hA, hAi, hE, hk0, hn0, hXX⟩ := h
  intro G H locs ls hR hP hS hl
  exact lv_iconst hx hb hd rfl (K G H locs ls hR hP hS hl)
theorem j_bipush (h : CX E X cc own ret rm nL) {z : Int} (hd : decode cc pc = .ok (.bipush z, 2)) (hv : (Int8.ofInt z).toInt32 = iI z) (K : JL E Rp X (pc + 2) lv (.int (iI z) :: rest) S) : JL E Rp X pc lv rest S := by
  obtain ⟨p, e, R, s, m, args, below, meth, c, A, nL', kk0, nn0, Q⟩ := X
  obtain ⟨hx, hb, hml, rfl, hown, hts, hK, hlk, hr, hrm, hA, hAi, hE, hk0, hn0, hXX⟩ := h
  intro G H locs ls hR hP hS hl
  exact lv_bipush hx hb hd hv (K G H locs ls hR hP hS hl)
theorem j_sipush (h : CX E X cc own ret rm nL) {z : Int} (hd : decode cc pc = .ok (.sipush z, 3)) (hv : (Int16.ofInt z).toInt32 = iI z) (K : JL E Rp X (pc + 3) lv (.int (iI z) :: rest) S) : JL E Rp X pc lv rest S := by
  obtain ⟨p, e, R, s, m, args, below, meth, c, A, nL', kk0, nn0, Q⟩ := X
  obtain ⟨hx, hb, hml, rfl, hown, hts, hK, hlk, hr, hrm, hA, hAi, hE, hk0, hn0, hXX⟩ := h
  intro G H locs ls hR hP hS hl
  exact lv_sipush hx hb hd hv (K G H locs ls hR hP hS hl)
theorem j_ldc (h : CX E X cc own ret rm nL) (z : Int) {index : Nat} {v : Int32} (hw : Cond.constant own index v ∈ AW) (hv : v = iI z) (hd : decode cc pc = .ok (.ldc index, 2)) (K : JL E Rp X (pc + 2) lv (.int (iI z) :: rest) S) : JL E Rp X pc lv rest S := by
  obtain ⟨p, e, R, s, m, args, below, meth, c, A, nL', kk0, nn0, Q⟩ := X
  obtain ⟨hx, hb, hml, rfl, hown, hts, hK, hlk, hr, hrm, hA, hAi, hE, hk0, hn0, hXX⟩ := h
  intro G H locs ls hR hP hS hl
  exact W.ldc hx hb hown (hts _ (hv ▸ hw)) (g := F0 m pc ls rest) rfl hd (K G H locs ls hR hP hS hl)
theorem j_ldc2 (h : CX E X cc own ret rm nL) (z : Int) {index : Nat} {v : Int64} (hw : Cond.constantLong own index v ∈ AW) (hv : v = lI z) (hd : decode cc pc = .ok (.ldc2_w index, 3)) (K : JL E Rp X (pc + 3) lv (.long (lI z) :: rest) S) : JL E Rp X pc lv rest S := by
  obtain ⟨p, e, R, s, m, args, below, meth, c, A, nL', kk0, nn0, Q⟩ := X
  obtain ⟨hx, hb, hml, rfl, hown, hts, hK, hlk, hr, hrm, hA, hAi, hE, hk0, hn0, hXX⟩ := h
  intro G H locs ls hR hP hS hl
  exact W.ldc2 hx hb hown (hts _ (hv ▸ hw)) (g := F0 m pc ls rest) rfl hd (K G H locs ls hR hP hS hl)
theorem j_lconst (h : CX E X cc own ret rm nL) {q : Fin 2} (z : Int) (hd : decode cc pc = .ok (.lconst q, 1)) (hv : Int64.ofNat (q : Nat) = lI z) (K : JL E Rp X (pc + 1) lv (.long (lI z) :: rest) S) : JL E Rp X pc lv rest S := by
  obtain ⟨p, e, R, s, m, args, below, meth, c, A, nL', kk0, nn0, Q⟩ := X
  obtain ⟨hx, hb, hml, rfl, hown, hts, hK, hlk, hr, hrm, hA, hAi, hE, hk0, hn0, hXX⟩ := h
  intro G H locs ls hR hP hS hl
  exact lv_lconst hx hb hd hv (K G H locs ls hR hP hS hl)
theorem j_iload_n (h : CX E X cc own ret rm nL) {q : Fin 4} {i : Nat} {x : Int32} (j : Nat) (hd : decode cc pc = .ok (.iload_n q, 1)) (hi : (q : Nat) = i) (hk : lv[j]? = some (i, .int x)) (K : JL E Rp X (pc + 1) lv (.int x :: rest) S) : JL E Rp X pc lv rest S := by
  obtain ⟨p, e, R, s, m, args, below, meth, c, A, nL', kk0, nn0, Q⟩ := X
  obtain ⟨hx, hb, hml, rfl, hown, hts, hK, hlk, hr, hrm, hA, hAi, hE, hk0, hn0, hXX⟩ := h
  intro G H locs ls hR hP hS hl
  exact lv_iload_n hx hb hd hi (lv_at hl j hk) (K G H locs ls hR hP hS hl)
theorem j_iload (h : CX E X cc own ret rm nL) {i : Nat} {x : Int32} (j : Nat) (hd : decode cc pc = .ok (.iload i, 2)) (hk : lv[j]? = some (i, .int x)) (K : JL E Rp X (pc + 2) lv (.int x :: rest) S) : JL E Rp X pc lv rest S := by
  obtain ⟨p, e, R, s, m, args, below, meth, c, A, nL', kk0, nn0, Q⟩ := X
  obtain ⟨hx, hb, hml, rfl, hown, hts, hK, hlk, hr, hrm, hA, hAi, hE, hk0, hn0, hXX⟩ := h
  intro G H locs ls hR hP hS hl
  exact lv_iload hx hb hd (lv_at hl j hk) (K G H locs ls hR hP hS hl)
theorem j_lload_n (h : CX E X cc own ret rm nL) {q : Fin 4} {i : Nat} {x : Int64} (j : Nat) (hd : decode cc pc = .ok (.lload_n q, 1)) (hi : (q : Nat) = i) (hk : lv[j]? = some (i, .long x)) (K : JL E Rp X (pc + 1) lv (.long x :: rest) S) : JL E Rp X pc lv rest S := by
  obtain ⟨p, e, R, s, m, args, below, meth, c, A, nL', kk0, nn0, Q⟩ := X
  obtain ⟨hx, hb, hml, rfl, hown, hts, hK, hlk, hr, hrm, hA, hAi, hE, hk0, hn0, hXX⟩ := h
  intro G H locs ls hR hP hS hl
  exact lv_lload_n hx hb hd hi (lv_at hl j hk) (K G H locs ls hR hP hS hl)
theorem j_lload (h : CX E X cc own ret rm nL) {i : Nat} {x : Int64} (j : Nat) (hd : decode cc pc = .ok (.lload i, 2)) (hk : lv[j]? = some (i, .long x)) (K : JL E Rp X (pc + 2) lv (.long x :: rest) S) : JL E Rp X pc lv rest S := by
  obtain ⟨p, e, R, s, m, args, below, meth, c, A, nL', kk0, nn0, Q⟩ := X
  obtain ⟨hx, hb, hml, rfl, hown, hts, hK, hlk, hr, hrm, hA, hAi, hE, hk0, hn0, hXX⟩ := h
  intro G H locs ls hR hP hS hl
  exact lv_lload hx hb hd (lv_at hl j hk) (K G H locs ls hR hP hS hl)
theorem j_aload_n (h : CX E X cc own ret rm nL) {q : Fin 4} {i : Nat} {x : Nat} (j : Nat) (hd : decode cc pc = .ok (.aload_n q, 1)) (hi : (q : Nat) = i) (hk : lv[j]? = some (i, .ref x)) (K : JL E Rp X (pc + 1) lv (.ref x :: rest) S) : JL E Rp X pc lv rest S := by
  obtain ⟨p, e, R, s, m, args, below, meth, c, A, nL', kk0, nn0, Q⟩ := X
  obtain ⟨hx, hb, hml, rfl, hown, hts, hK, hlk, hr, hrm, hA, hAi, hE, hk0, hn0, hXX⟩ := h
  intro G H locs ls hR hP hS hl
  exact lv_aload_n hx hb hd hi (lv_at hl j hk) (K G H locs ls hR hP hS hl)
theorem j_aload (h : CX E X cc own ret rm nL) {i : Nat} {x : Nat} (j : Nat) (hd : decode cc pc = .ok (.aload i, 2)) (hk : lv[j]? = some (i, .ref x)) (K : JL E Rp X (pc + 2) lv (.ref x :: rest) S) : JL E Rp X pc lv rest S := by
  obtain ⟨p, e, R, s, m, args, below, meth, c, A, nL', kk0, nn0, Q⟩ := X
  obtain ⟨hx, hb, hml, rfl, hown, hts, hK, hlk, hr, hrm, hA, hAi, hE, hk0, hn0, hXX⟩ := h
  intro G H locs ls hR hP hS hl
  exact lv_aload hx hb hd (lv_at hl j hk) (K G H locs ls hR hP hS hl)
theorem j_istore_n (h : CX E X cc own ret rm nL) {q : Fin 4} {i : Nat} {x : Int32} (lv2 : List (Nat × Value)) (hd : decode cc pc = .ok (.istore_n q, 1)) (hi : (q : Nat) = i) (hn : i < nL) (hl2 : (i, Value.int x) :: lv.filter (fun q => !(q.1 == i) && !(q.1 + 1 == i && q.2.category == 2)) = lv2) (K : JL E Rp X (pc + 1) lv2 rest S) : JL E Rp X pc lv (.int x :: rest) S := by
  obtain ⟨p, e, R, s, m, args, below, meth, c, A, nL', kk0, nn0, Q⟩ := X
  obtain ⟨hx, hb, hml, rfl, hown, hts, hK, hlk, hr, hrm, hA, hAi, hE, hk0, hn0, hXX⟩ := h
  intro G H locs ls hR hP hS hl
  exact lv_istore_n hx hb hd hi hl hn hl2 (fun ls hl => K G H locs ls hR hP hS hl)
theorem j_istore (h : CX E X cc own ret rm nL) {i : Nat} {x : Int32} (lv2 : List (Nat × Value)) (hd : decode cc pc = .ok (.istore i, 2)) (hn : i < nL) (hl2 : (i, Value.int x) :: lv.filter (fun q => !(q.1 == i) && !(q.1 + 1 == i && q.2.category == 2)) = lv2) (K : JL E Rp X (pc + 2) lv2 rest S) : JL E Rp X pc lv (.int x :: rest) S := by
  obtain ⟨p, e, R, s, m, args, below, meth, c, A, nL', kk0, nn0, Q⟩ := X
  obtain ⟨hx, hb, hml, rfl, hown, hts, hK, hlk, hr, hrm, hA, hAi, hE, hk0, hn0, hXX⟩ := h
  intro G H locs ls hR hP hS hl
  exact lv_istore hx hb hd hl hn hl2 (fun ls hl => K G H locs ls hR hP hS hl)
theorem j_lstore_n (h : CX E X cc own ret rm nL) {q : Fin 4} {i : Nat} {x : Int64} (lv2 : List (Nat × Value)) (hd : decode cc pc = .ok (.lstore_n q, 1)) (hi : (q : Nat) = i) (hn : i + 1 < nL) (hl2 : (i, Value.long x) :: lv.filter (fun q => !(q.1 == i) && (!(q.1 == i + 1) && !(q.1 + 1 == i && q.2.category == 2))) = lv2) (K : JL E Rp X (pc + 1) lv2 rest S) : JL E Rp X pc lv (.long x :: rest) S := by
  obtain ⟨p, e, R, s, m, args, below, meth, c, A, nL', kk0, nn0, Q⟩ := X
  obtain ⟨hx, hb, hml, rfl, hown, hts, hK, hlk, hr, hrm, hA, hAi, hE, hk0, hn0, hXX⟩ := h
  intro G H locs ls hR hP hS hl
  exact lv_lstore_n hx hb hd hi hl hn hl2 (fun ls hl => K G H locs ls hR hP hS hl)
theorem j_lstore (h : CX E X cc own ret rm nL) {i : Nat} {x : Int64} (lv2 : List (Nat × Value)) (hd : decode cc pc = .ok (.lstore i, 2)) (hn : i + 1 < nL) (hl2 : (i, Value.long x) :: lv.filter (fun q => !(q.1 == i) && (!(q.1 == i + 1) && !(q.1 + 1 == i && q.2.category == 2))) = lv2) (K : JL E Rp X (pc + 2) lv2 rest S) : JL E Rp X pc lv (.long x :: rest) S := by
  obtain ⟨p, e, R, s, m, args, below, meth, c, A, nL', kk0, nn0, Q⟩ := X
  obtain ⟨hx, hb, hml, rfl, hown, hts, hK, hlk, hr, hrm, hA, hAi, hE, hk0, hn0, hXX⟩ := h
  intro G H locs ls hR hP hS hl
  exact lv_lstore hx hb hd hl hn hl2 (fun ls hl => K G H locs ls hR hP hS hl)
theorem j_astore_n (h : CX E X cc own ret rm nL) {q : Fin 4} {i : Nat} {x : Nat} (lv2 : List (Nat × Value)) (hd : decode cc pc = .ok (.astore_n q, 1)) (hi : (q : Nat) = i) (hn : i < nL) (hl2 : (i, Value.ref x) :: lv.filter (fun q => !(q.1 == i) && !(q.1 + 1 == i && q.2.category == 2)) = lv2) (K : JL E Rp X (pc + 1) lv2 rest S) : JL E Rp X pc lv (.ref x :: rest) S := by
  obtain ⟨p, e, R, s, m, args, below, meth, c, A, nL', kk0, nn0, Q⟩ := X
  obtain ⟨hx, hb, hml, rfl, hown, hts, hK, hlk, hr, hrm, hA, hAi, hE, hk0, hn0, hXX⟩ := h
  intro G H locs ls hR hP hS hl
  exact lv_astore_n hx hb hd hi hl hn hl2 (fun ls hl => K G H locs ls hR hP hS hl)
theorem j_astore (h : CX E X cc own ret rm nL) {i : Nat} {x : Nat} (lv2 : List (Nat × Value)) (hd : decode cc pc = .ok (.astore i, 2)) (hn : i < nL) (hl2 : (i, Value.ref x) :: lv.filter (fun q => !(q.1 == i) && !(q.1 + 1 == i && q.2.category == 2)) = lv2) (K : JL E Rp X (pc + 2) lv2 rest S) : JL E Rp X pc lv (.ref x :: rest) S := by
  obtain ⟨p, e, R, s, m, args, below, meth, c, A, nL', kk0, nn0, Q⟩ := X
  obtain ⟨hx, hb, hml, rfl, hown, hts, hK, hlk, hr, hrm, hA, hAi, hE, hk0, hn0, hXX⟩ := h
  intro G H locs ls hR hP hS hl
  exact lv_astore hx hb hd hl hn hl2 (fun ls hl => K G H locs ls hR hP hS hl)
theorem j_iinc (h : CX E X cc own ret rm nL) {i : Nat} {d a : Int} (j : Nat) (lv2 : List (Nat × Value)) (hd : decode cc pc = .ok (.iinc i d, 3)) (hk : lv[j]? = some (i, .int (iI a))) (hn : i < nL) (hl2 : (i, Value.int (iI (a + d))) :: lv.filter (fun q => !(q.1 == i) && !(q.1 + 1 == i && q.2.category == 2)) = lv2) (K : JL E Rp X (pc + 3) lv2 rest S) : JL E Rp X pc lv rest S := by
  obtain ⟨p, e, R, s, m, args, below, meth, c, A, nL', kk0, nn0, Q⟩ := X
  obtain ⟨hx, hb, hml, rfl, hown, hts, hK, hlk, hr, hrm, hA, hAi, hE, hk0, hn0, hXX⟩ := h
  intro G H locs ls hR hP hS hl
  exact lv_iinc (v := iI (a + d)) hx hb hd hl hk (iI_add a d) hn hl2 (fun ls hl => K G H locs ls hR hP hS hl)
theorem j_iadd (h : CX E X cc own ret rm nL) {a b : Int} (hd : decode cc pc = .ok (.iadd, 1)) (K : JL E Rp X (pc + 1) lv (.int (iI (a + b)) :: rest) S) : JL E Rp X pc lv (.int (iI b) :: .int (iI a) :: rest) S := by
  obtain ⟨p, e, R, s, m, args, below, meth, c, A, nL', kk0, nn0, Q⟩ := X
  obtain ⟨hx, hb, hml, rfl, hown, hts, hK, hlk, hr, hrm, hA, hAi, hE, hk0, hn0, hXX⟩ := h
  intro G H locs ls hR hP hS hl
  refine lv_iadd hx hb hd ?_
  rw [iI_add]
  exact K G H locs ls hR hP hS hl
theorem j_isub (h : CX E X cc own ret rm nL) {a b : Int} (hd : decode cc pc = .ok (.isub, 1)) (K : JL E Rp X (pc + 1) lv (.int (iI (a - b)) :: rest) S) : JL E Rp X pc lv (.int (iI b) :: .int (iI a) :: rest) S := by
  obtain ⟨p, e, R, s, m, args, below, meth, c, A, nL', kk0, nn0, Q⟩ := X
  obtain ⟨hx, hb, hml, rfl, hown, hts, hK, hlk, hr, hrm, hA, hAi, hE, hk0, hn0, hXX⟩ := h
  intro G H locs ls hR hP hS hl
  refine lv_isub hx hb hd ?_
  rw [iI_sub]
  exact K G H locs ls hR hP hS hl
theorem j_imul (h : CX E X cc own ret rm nL) {a b : Int} (hd : decode cc pc = .ok (.imul, 1)) (K : JL E Rp X (pc + 1) lv (.int (iI (a * b)) :: rest) S) : JL E Rp X pc lv (.int (iI b) :: .int (iI a) :: rest) S := by
  obtain ⟨p, e, R, s, m, args, below, meth, c, A, nL', kk0, nn0, Q⟩ := X
  obtain ⟨hx, hb, hml, rfl, hown, hts, hK, hlk, hr, hrm, hA, hAi, hE, hk0, hn0, hXX⟩ := h
  intro G H locs ls hR hP hS hl
  refine lv_imul hx hb hd ?_
  rw [iI_mul]
  exact K G H locs ls hR hP hS hl
theorem j_ladd (h : CX E X cc own ret rm nL) {a b : Int} (hd : decode cc pc = .ok (.ladd, 1)) (K : JL E Rp X (pc + 1) lv (.long (lI (a + b)) :: rest) S) : JL E Rp X pc lv (.long (lI b) :: .long (lI a) :: rest) S := by
  obtain ⟨p, e, R, s, m, args, below, meth, c, A, nL', kk0, nn0, Q⟩ := X
  obtain ⟨hx, hb, hml, rfl, hown, hts, hK, hlk, hr, hrm, hA, hAi, hE, hk0, hn0, hXX⟩ := h
  intro G H locs ls hR hP hS hl
  refine lv_ladd hx hb hd ?_
  rw [lI_add]
  exact K G H locs ls hR hP hS hl
theorem j_lmul (h : CX E X cc own ret rm nL) {a b : Int} (hd : decode cc pc = .ok (.lmul, 1)) (K : JL E Rp X (pc + 1) lv (.long (lI (a * b)) :: rest) S) : JL E Rp X pc lv (.long (lI b) :: .long (lI a) :: rest) S := by
  obtain ⟨p, e, R, s, m, args, below, meth, c, A, nL', kk0, nn0, Q⟩ := X
  obtain ⟨hx, hb, hml, rfl, hown, hts, hK, hlk, hr, hrm, hA, hAi, hE, hk0, hn0, hXX⟩ := h
  intro G H locs ls hR hP hS hl
  refine lv_lmul hx hb hd ?_
  rw [lI_mul]
  exact K G H locs ls hR hP hS hl
theorem j_ineg (h : CX E X cc own ret rm nL) {a : Int} (hd : decode cc pc = .ok (.ineg, 1)) (K : JL E Rp X (pc + 1) lv (.int (iI (-a)) :: rest) S) : JL E Rp X pc lv (.int (iI a) :: rest) S := by
  obtain ⟨p, e, R, s, m, args, below, meth, c, A, nL', kk0, nn0, Q⟩ := X
  obtain ⟨hx, hb, hml, rfl, hown, hts, hK, hlk, hr, hrm, hA, hAi, hE, hk0, hn0, hXX⟩ := h
  intro G H locs ls hR hP hS hl
  refine lv_ineg hx hb hd ?_
  rw [iI_neg]
  exact K G H locs ls hR hP hS hl
theorem j_iand (h : CX E X cc own ret rm nL) {x y : Int32} (v : Int32) (hd : decode cc pc = .ok (.iand, 1)) (hv : (x &&& y) = v) (K : JL E Rp X (pc + 1) lv (.int v :: rest) S) : JL E Rp X pc lv (.int y :: .int x :: rest) S := by
  obtain ⟨p, e, R, s, m, args, below, meth, c, A, nL', kk0, nn0, Q⟩ := X
  obtain ⟨hx, hb, hml, rfl, hown, hts, hK, hlk, hr, hrm, hA, hAi, hE, hk0, hn0, hXX⟩ := h
  intro G H locs ls hR hP hS hl
  subst hv
  exact lv_iand hx hb hd (K G H locs ls hR hP hS hl)
theorem j_ixor (h : CX E X cc own ret rm nL) {x y : Int32} (v : Int32) (hd : decode cc pc = .ok (.ixor, 1)) (hv : (x ^^^ y) = v) (K : JL E Rp X (pc + 1) lv (.int v :: rest) S) : JL E Rp X pc lv (.int y :: .int x :: rest) S := by
  obtain ⟨p, e, R, s, m, args, below, meth, c, A, nL', kk0, nn0, Q⟩ := X
  obtain ⟨hx, hb, hml, rfl, hown, hts, hK, hlk, hr, hrm, hA, hAi, hE, hk0, hn0, hXX⟩ := h
  intro G H locs ls hR hP hS hl
  subst hv
  exact lv_ixor hx hb hd (K G H locs ls hR hP hS hl)
theorem j_land (h : CX E X cc own ret rm nL) {x y : Int64} (v : Int64) (hd : decode cc pc = .ok (.land, 1)) (hv : (x &&& y) = v) (K : JL E Rp X (pc + 1) lv (.long v :: rest) S) : JL E Rp X pc lv (.long y :: .long x :: rest) S := by
  obtain ⟨p, e, R, s, m, args, below, meth, c, A, nL', kk0, nn0, Q⟩ := X
  obtain ⟨hx, hb, hml, rfl, hown, hts, hK, hlk, hr, hrm, hA, hAi, hE, hk0, hn0, hXX⟩ := h
  intro G H locs ls hR hP hS hl
  subst hv
  exact lv_land hx hb hd (K G H locs ls hR hP hS hl)
theorem j_lor (h : CX E X cc own ret rm nL) {x y : Int64} (v : Int64) (hd : decode cc pc = .ok (.lor, 1)) (hv : (x ||| y) = v) (K : JL E Rp X (pc + 1) lv (.long v :: rest) S) : JL E Rp X pc lv (.long y :: .long x :: rest) S := by
  obtain ⟨p, e, R, s, m, args, below, meth, c, A, nL', kk0, nn0, Q⟩ := X
  obtain ⟨hx, hb, hml, rfl, hown, hts, hK, hlk, hr, hrm, hA, hAi, hE, hk0, hn0, hXX⟩ := h
  intro G H locs ls hR hP hS hl
  subst hv
  exact lv_lor hx hb hd (K G H locs ls hR hP hS hl)
theorem j_irem (h : CX E X cc own ret rm nL) {x y : Int32} (v : Int32) (hd : decode cc pc = .ok (.irem, 1)) (hne : ¬ y = 0) (hv : (x - x / y * y) = v) (K : JL E Rp X (pc + 1) lv (.int v :: rest) S) : JL E Rp X pc lv (.int y :: .int x :: rest) S := by
  obtain ⟨p, e, R, s, m, args, below, meth, c, A, nL', kk0, nn0, Q⟩ := X
  obtain ⟨hx, hb, hml, rfl, hown, hts, hK, hlk, hr, hrm, hA, hAi, hE, hk0, hn0, hXX⟩ := h
  intro G H locs ls hR hP hS hl
  subst hv
  exact lv_irem hx hb hd hne (K G H locs ls hR hP hS hl)
theorem j_ldiv (h : CX E X cc own ret rm nL) {x y : Int64} (v : Int64) (hd : decode cc pc = .ok (.ldiv, 1)) (hne : ¬ y = 0) (hv : (x / y) = v) (K : JL E Rp X (pc + 1) lv (.long v :: rest) S) : JL E Rp X pc lv (.long y :: .long x :: rest) S := by
  obtain ⟨p, e, R, s, m, args, below, meth, c, A, nL', kk0, nn0, Q⟩ := X
  obtain ⟨hx, hb, hml, rfl, hown, hts, hK, hlk, hr, hrm, hA, hAi, hE, hk0, hn0, hXX⟩ := h
  intro G H locs ls hR hP hS hl
  subst hv
  exact lv_ldiv hx hb hd hne (K G H locs ls hR hP hS hl)
theorem j_lrem (h : CX E X cc own ret rm nL) {x y : Int64} (v : Int64) (hd : decode cc pc = .ok (.lrem, 1)) (hne : ¬ y = 0) (hv : (x - x / y * y) = v) (K : JL E Rp X (pc + 1) lv (.long v :: rest) S) : JL E Rp X pc lv (.long y :: .long x :: rest) S := by
  obtain ⟨p, e, R, s, m, args, below, meth, c, A, nL', kk0, nn0, Q⟩ := X
  obtain ⟨hx, hb, hml, rfl, hown, hts, hK, hlk, hr, hrm, hA, hAi, hE, hk0, hn0, hXX⟩ := h
  intro G H locs ls hR hP hS hl
  subst hv
  exact lv_lrem hx hb hd hne (K G H locs ls hR hP hS hl)
theorem j_lushr (h : CX E X cc own ret rm nL) {x : Int64} {y : Int32} (v : Int64) (hd : decode cc pc = .ok (.lushr, 1)) (hv : (x.toUInt64 >>> (y.toInt64.toUInt64 &&& Int64.toUInt64 63)).toInt64 = v) (K : JL E Rp X (pc + 1) lv (.long v :: rest) S) : JL E Rp X pc lv (.int y :: .long x :: rest) S := by
  obtain ⟨p, e, R, s, m, args, below, meth, c, A, nL', kk0, nn0, Q⟩ := X
  obtain ⟨hx, hb, hml, rfl, hown, hts, hK, hlk, hr, hrm, hA, hAi, hE, hk0, hn0, hXX⟩ := h
  intro G H locs ls hR hP hS hl
  exact lv_lushr hx hb hd hv (K G H locs ls hR hP hS hl)
theorem j_lshl (h : CX E X cc own ret rm nL) {x : Int64} {y : Int32} (v : Int64) (hd : decode cc pc = .ok (.lshl, 1)) (hv : x <<< (y.toInt64 &&& 63) = v) (K : JL E Rp X (pc + 1) lv (.long v :: rest) S) : JL E Rp X pc lv (.int y :: .long x :: rest) S := by
  obtain ⟨p, e, R, s, m, args, below, meth, c, A, nL', kk0, nn0, Q⟩ := X
  obtain ⟨hx, hb, hml, rfl, hown, hts, hK, hlk, hr, hrm, hA, hAi, hE, hk0, hn0, hXX⟩ := h
  intro G H locs ls hR hP hS hl
  exact lv_lshl hx hb hd hv (K G H locs ls hR hP hS hl)
theorem j_lshr (h : CX E X cc own ret rm nL) {x : Int64} {y : Int32} (v : Int64) (hd : decode cc pc = .ok (.lshr, 1)) (hv : x >>> (y.toInt64 &&& 63) = v) (K : JL E Rp X (pc + 1) lv (.long v :: rest) S) : JL E Rp X pc lv (.int y :: .long x :: rest) S := by
  obtain ⟨p, e, R, s, m, args, below, meth, c, A, nL', kk0, nn0, Q⟩ := X
  obtain ⟨hx, hb, hml, rfl, hown, hts, hK, hlk, hr, hrm, hA, hAi, hE, hk0, hn0, hXX⟩ := h
  intro G H locs ls hR hP hS hl
  exact lv_lshr hx hb hd hv (K G H locs ls hR hP hS hl)
theorem j_i2l (h : CX E X cc own ret rm nL) {x : Int32} (v : Int64) (hd : decode cc pc = .ok (.i2l, 1)) (hv : x.toInt64 = v) (K : JL E Rp X (pc + 1) lv (.long v :: rest) S) : JL E Rp X pc lv (.int x :: rest) S := by
  obtain ⟨p, e, R, s, m, args, below, meth, c, A, nL', kk0, nn0, Q⟩ := X
  obtain ⟨hx, hb, hml, rfl, hown, hts, hK, hlk, hr, hrm, hA, hAi, hE, hk0, hn0, hXX⟩ := h
  intro G H locs ls hR hP hS hl
  exact lv_i2l hx hb hd hv (K G H locs ls hR hP hS hl)
theorem j_l2i (h : CX E X cc own ret rm nL) {x : Int64} (v : Int32) (hd : decode cc pc = .ok (.l2i, 1)) (hv : x.toInt32 = v) (K : JL E Rp X (pc + 1) lv (.int v :: rest) S) : JL E Rp X pc lv (.long x :: rest) S := by
  obtain ⟨p, e, R, s, m, args, below, meth, c, A, nL', kk0, nn0, Q⟩ := X
  obtain ⟨hx, hb, hml, rfl, hown, hts, hK, hlk, hr, hrm, hA, hAi, hE, hk0, hn0, hXX⟩ := h
  intro G H locs ls hR hP hS hl
  exact lv_l2i hx hb hd hv (K G H locs ls hR hP hS hl)
theorem j_i2c (h : CX E X cc own ret rm nL) {x : Int32} (v : Int32) (hd : decode cc pc = .ok (.i2c, 1)) (hv : (x.toUInt32 % 65536).toInt32 = v) (K : JL E Rp X (pc + 1) lv (.int v :: rest) S) : JL E Rp X pc lv (.int x :: rest) S := by
  obtain ⟨p, e, R, s, m, args, below, meth, c, A, nL', kk0, nn0, Q⟩ := X
  obtain ⟨hx, hb, hml, rfl, hown, hts, hK, hlk, hr, hrm, hA, hAi, hE, hk0, hn0, hXX⟩ := h
  intro G H locs ls hR hP hS hl
  exact lv_i2c hx hb hd hv (K G H locs ls hR hP hS hl)
theorem j_lcmp (h : CX E X cc own ret rm nL) {x y : Int64} (v : Int32) (hd : decode cc pc = .ok (.lcmp, 1)) (hv : lg_cmp x y = v) (K : JL E Rp X (pc + 1) lv (.int v :: rest) S) : JL E Rp X pc lv (.long y :: .long x :: rest) S := by
  obtain ⟨p, e, R, s, m, args, below, meth, c, A, nL', kk0, nn0, Q⟩ := X
  obtain ⟨hx, hb, hml, rfl, hown, hts, hK, hlk, hr, hrm, hA, hAi, hE, hk0, hn0, hXX⟩ := h
  intro G H locs ls hR hP hS hl
  subst hv
  exact W.lcmp hx hb hd (K G H locs ls hR hP hS hl)
theorem j_dup (h : CX E X cc own ret rm nL) {v : Value} (hd : decode cc pc = .ok (.dup, 1)) (hc : v.category = 1) (K : JL E Rp X (pc + 1) lv (v :: v :: rest) S) : JL E Rp X pc lv (v :: rest) S := by
  obtain ⟨p, e, R, s, m, args, below, meth, c, A, nL', kk0, nn0, Q⟩ := X
  obtain ⟨hx, hb, hml, rfl, hown, hts, hK, hlk, hr, hrm, hA, hAi, hE, hk0, hn0, hXX⟩ := h
  intro G H locs ls hR hP hS hl
  exact lv_dup hx hb hd hc (K G H locs ls hR hP hS hl)
/-- the int on top by another name -/
theorem j_top {x y : Int32} (e : x = y) (K : JL E Rp X pc lv (.int y :: rest) S) : JL E Rp X pc lv (.int x :: rest) S := e ▸ K
theorem j_topL {x y : Int64} (e : x = y) (K : JL E Rp X pc lv (.long y :: rest) S) : JL E Rp X pc lv (.long x :: rest) S := e ▸ K
theorem j_icmp_eq (h : CX E X cc own ret rm nL) {a b : Int} {off : Int} (tgt : Nat) (hd : decode cc pc = .ok (.if_icmp .eq off, 3)) (ht : (pc : Int) + off = (tgt : Int)) (ha : okI a) (hb2 : okI b) (kt : a = b → JL E Rp X tgt lv rest S) (kf : ¬ a = b → JL E Rp X (pc + 3) lv rest S) : JL E Rp X pc lv (.int (iI b) :: .int (iI a) :: rest) S := by
  obtain ⟨p, e, R, s, m, args, below, meth, c, A, nL', kk0, nn0, Q⟩ := X
  obtain ⟨hx, hb, hml, rfl, hown, hts, hK, hlk, hr, hrm, hA, hAi, hE, hk0, hn0, hXX⟩ := h
  intro G H locs ls hR hP hS hl
  exact lv_icmp_eq hx hb hd ht (fun c => kt ((iI_inj ha hb2).mp c) G H locs ls hR hP hS hl) (fun c => kf (fun q => c ((iI_inj ha hb2).mpr q)) G H locs ls hR hP hS hl)
theorem j_if_eq (h : CX E X cc own ret rm nL) {a : Int} {off : Int} (tgt : Nat) (hd : decode cc pc = .ok (.ifCond .eq off, 3)) (ht : (pc : Int) + off = (tgt : Int)) (ha : okI a) (kt : a = 0 → JL E Rp X tgt lv rest S) (kf : ¬ a = 0 → JL E Rp X (pc + 3) lv rest S) : JL E Rp X pc lv (.int (iI a) :: rest) S := by
  obtain ⟨p, e, R, s, m, args, below, meth, c, A, nL', kk0, nn0, Q⟩ := X
  obtain ⟨hx, hb, hml, rfl, hown, hts, hK, hlk, hr, hrm, hA, hAi, hE, hk0, hn0, hXX⟩ := h
  intro G H locs ls hR hP hS hl
  have z0 : okI 0 := ⟨by decide, by decide⟩
  exact lv_if_eq hx hb hd ht (fun c => kt ((iI_inj ha z0).mp c) G H locs ls hR hP hS hl) (fun c => kf (fun q => c ((iI_inj ha z0).mpr q)) G H locs ls hR hP hS hl)
theorem j_icmp_ne (h : CX E X cc own ret rm nL) {a b : Int} {off : Int} (tgt : Nat) (hd : decode cc pc = .ok (.if_icmp .ne off, 3)) (ht : (pc : Int) + off = (tgt : Int)) (ha : okI a) (hb2 : okI b) (kt : ¬ a = b → JL E Rp X tgt lv rest S) (kf : a = b → JL E Rp X (pc + 3) lv rest S) : JL E Rp X pc lv (.int (iI b) :: .int (iI a) :: rest) S := by
  obtain ⟨p, e, R, s, m, args, below, meth, c, A, nL', kk0, nn0, Q⟩ := X
  obtain ⟨hx, hb, hml, rfl, hown, hts, hK, hlk, hr, hrm, hA, hAi, hE, hk0, hn0, hXX⟩ := h
  intro G H locs ls hR hP hS hl
  exact lv_icmp_ne hx hb hd ht (fun c => kt (fun q => c ((iI_inj ha hb2).mpr q)) G H locs ls hR hP hS hl) (fun c => kf ((iI_inj ha hb2).mp c) G H locs ls hR hP hS hl)
theorem j_if_ne (h : CX E X cc own ret rm nL) {a : Int} {off : Int} (tgt : Nat) (hd : decode cc pc = .ok (.ifCond .ne off, 3)) (ht : (pc : Int) + off = (tgt : Int)) (ha : okI a) (kt : ¬ a = 0 → JL E Rp X tgt lv rest S) (kf : a = 0 → JL E Rp X (pc + 3) lv rest S) : JL E Rp X pc lv (.int (iI a) :: rest) S := by
  obtain ⟨p, e, R, s, m, args, below, meth, c, A, nL', kk0, nn0, Q⟩ := X
  obtain ⟨hx, hb, hml, rfl, hown, hts, hK, hlk, hr, hrm, hA, hAi, hE, hk0, hn0, hXX⟩ := h
  intro G H locs ls hR hP hS hl
  have z0 : okI 0 := ⟨by decide, by decide⟩
  exact lv_if_ne hx hb hd ht (fun c => kt (fun q => c ((iI_inj ha z0).mpr q)) G H locs ls hR hP hS hl) (fun c => kf ((iI_inj ha z0).mp c) G H locs ls hR hP hS hl)
theorem j_icmp_lt (h : CX E X cc own ret rm nL) {a b : Int} {off : Int} (tgt : Nat) (hd : decode cc pc = .ok (.if_icmp .lt off, 3)) (ht : (pc : Int) + off = (tgt : Int)) (ha : okI a) (hb2 : okI b) (kt : a < b → JL E Rp X tgt lv rest S) (kf : b ≤ a → JL E Rp X (pc + 3) lv rest S) : JL E Rp X pc lv (.int (iI b) :: .int (iI a) :: rest) S := by
  obtain ⟨p, e, R, s, m, args, below, meth, c, A, nL', kk0, nn0, Q⟩ := X
  obtain ⟨hx, hb, hml, rfl, hown, hts, hK, hlk, hr, hrm, hA, hAi, hE, hk0, hn0, hXX⟩ := h
  intro G H locs ls hR hP hS hl
  exact lv_icmp_lt hx hb hd ht (fun c => kt ((iI_lt ha hb2).mp c) G H locs ls hR hP hS hl) (fun c => kf (Int.not_lt.mp fun q => c ((iI_lt ha hb2).mpr q)) G H locs ls hR hP hS hl)
theorem j_if_lt (h : CX E X cc own ret rm nL) {a : Int} {off : Int} (tgt : Nat) (hd : decode cc pc = .ok (.ifCond .lt off, 3)) (ht : (pc : Int) + off = (tgt : Int)) (ha : okI a) (kt : a < 0 → JL E Rp X tgt lv rest S) (kf : 0 ≤ a → JL E Rp X (pc + 3) lv rest S) : JL E Rp X pc lv (.int (iI a) :: rest) S := by
  obtain ⟨p, e, R, s, m, args, below, meth, c, A, nL', kk0, nn0, Q⟩ := X
  obtain ⟨hx, hb, hml, rfl, hown, hts, hK, hlk, hr, hrm, hA, hAi, hE, hk0, hn0, hXX⟩ := h
  intro G H locs ls hR hP hS hl
  have z0 : okI 0 := ⟨by decide, by decide⟩
  exact lv_if_lt hx hb hd ht (fun c => kt ((iI_lt ha z0).mp c) G H locs ls hR hP hS hl) (fun c => kf (Int.not_lt.mp fun q => c ((iI_lt ha z0).mpr q)) G H locs ls hR hP hS hl)
theorem j_icmp_ge (h : CX E X cc own ret rm nL) {a b : Int} {off : Int} (tgt : Nat) (hd : decode cc pc = .ok (.if_icmp .ge off, 3)) (ht : (pc : Int) + off = (tgt : Int)) (ha : okI a) (hb2 : okI b) (kt : b ≤ a → JL E Rp X tgt lv rest S) (kf : a < b → JL E Rp X (pc + 3) lv rest S) : JL E Rp X pc lv (.int (iI b) :: .int (iI a) :: rest) S := by
  obtain ⟨p, e, R, s, m, args, below, meth, c, A, nL', kk0, nn0, Q⟩ := X
  obtain ⟨hx, hb, hml, rfl, hown, hts, hK, hlk, hr, hrm, hA, hAi, hE, hk0, hn0, hXX⟩ := h
  intro G H locs ls hR hP hS hl
  exact lv_icmp_ge hx hb hd ht (fun c => kt ((iI_le hb2 ha).mp c) G H locs ls hR hP hS hl) (fun c => kf (Int.not_le.mp fun q => c ((iI_le hb2 ha).mpr q)) G H locs ls hR hP hS hl)
theorem j_if_ge (h : CX E X cc own ret rm nL) {a : Int} {off : Int} (tgt : Nat) (hd : decode cc pc = .ok (.ifCond .ge off, 3)) (ht : (pc : Int) + off = (tgt : Int)) (ha : okI a) (kt : 0 ≤ a → JL E Rp X tgt lv rest S) (kf : a < 0 → JL E Rp X (pc + 3) lv rest S) : JL E Rp X pc lv (.int (iI a) :: rest) S := by
  obtain ⟨p, e, R, s, m, args, below, meth, c, A, nL', kk0, nn0, Q⟩ := X
  obtain ⟨hx, hb, hml, rfl, hown, hts, hK, hlk, hr, hrm, hA, hAi, hE, hk0, hn0, hXX⟩ := h
  intro G H locs ls hR hP hS hl
  have z0 : okI 0 := ⟨by decide, by decide⟩
  exact lv_if_ge hx hb hd ht (fun c => kt ((iI_le z0 ha).mp c) G H locs ls hR hP hS hl) (fun c => kf (Int.not_le.mp fun q => c ((iI_le z0 ha).mpr q)) G H locs ls hR hP hS hl)
theorem j_icmp_gt (h : CX E X cc own ret rm nL) {a b : Int} {off : Int} (tgt : Nat) (hd : decode cc pc = .ok (.if_icmp .gt off, 3)) (ht : (pc : Int) + off = (tgt : Int)) (ha : okI a) (hb2 : okI b) (kt : b < a → JL E Rp X tgt lv rest S) (kf : a ≤ b → JL E Rp X (pc + 3) lv rest S) : JL E Rp X pc lv (.int (iI b) :: .int (iI a) :: rest) S := by
  obtain ⟨p, e, R, s, m, args, below, meth, c, A, nL', kk0, nn0, Q⟩ := X
  obtain ⟨hx, hb, hml, rfl, hown, hts, hK, hlk, hr, hrm, hA, hAi, hE, hk0, hn0, hXX⟩ := h
  intro G H locs ls hR hP hS hl
  exact lv_icmp_gt hx hb hd ht (fun c => kt ((iI_lt hb2 ha).mp c) G H locs ls hR hP hS hl) (fun c => kf (Int.not_lt.mp fun q => c ((iI_lt hb2 ha).mpr q)) G H locs ls hR hP hS hl)
theorem j_if_gt (h : CX E X cc own ret rm nL) {a : Int} {off : Int} (tgt : Nat) (hd : decode cc pc = .ok (.ifCond .gt off, 3)) (ht : (pc : Int) + off = (tgt : Int)) (ha : okI a) (kt : 0 < a → JL E Rp X tgt lv rest S) (kf : a ≤ 0 → JL E Rp X (pc + 3) lv rest S) : JL E Rp X pc lv (.int (iI a) :: rest) S := by
  obtain ⟨p, e, R, s, m, args, below, meth, c, A, nL', kk0, nn0, Q⟩ := X
  obtain ⟨hx, hb, hml, rfl, hown, hts, hK, hlk, hr, hrm, hA, hAi, hE, hk0, hn0, hXX⟩ := h
  intro G H locs ls hR hP hS hl
  have z0 : okI 0 := ⟨by decide, by decide⟩
  exact lv_if_gt hx hb hd ht (fun c => kt ((iI_lt z0 ha).mp c) G H locs ls hR hP hS hl) (fun c => kf (Int.not_lt.mp fun q => c ((iI_lt z0 ha).mpr q)) G H locs ls hR hP hS hl)
theorem j_icmp_le (h : CX E X cc own ret rm nL) {a b : Int} {off : Int} (tgt : Nat) (hd : decode cc pc = .ok (.if_icmp .le off, 3)) (ht : (pc : Int) + off = (tgt : Int)) (ha : okI a) (hb2 : okI b) (kt : a ≤ b → JL E Rp X tgt lv rest S) (kf : b < a → JL E Rp X (pc + 3) lv rest S) : JL E Rp X pc lv (.int (iI b) :: .int (iI a) :: rest) S := by
  obtain ⟨p, e, R, s, m, args, below, meth, c, A, nL', kk0, nn0, Q⟩ := X
  obtain ⟨hx, hb, hml, rfl, hown, hts, hK, hlk, hr, hrm, hA, hAi, hE, hk0, hn0, hXX⟩ := h
  intro G H locs ls hR hP hS hl
  exact lv_icmp_le hx hb hd ht (fun c => kt ((iI_le ha hb2).mp c) G H locs ls hR hP hS hl) (fun c => kf (Int.not_le.mp fun q => c ((iI_le ha hb2).mpr q)) G H locs ls hR hP hS hl)
theorem j_if_le (h : CX E X cc own ret rm nL) {a : Int} {off : Int} (tgt : Nat) (hd : decode cc pc = .ok (.ifCond .le off, 3)) (ht : (pc : Int) + off = (tgt : Int)) (ha : okI a) (kt : a ≤ 0 → JL E Rp X tgt lv rest S) (kf : 0 < a → JL E Rp X (pc + 3) lv rest S) : JL E Rp X pc lv (.int (iI a) :: rest) S := by
  obtain ⟨p, e, R, s, m, args, below, meth, c, A, nL', kk0, nn0, Q⟩ := X
  obtain ⟨hx, hb, hml, rfl, hown, hts, hK, hlk, hr, hrm, hA, hAi, hE, hk0, hn0, hXX⟩ := h
  intro G H locs ls hR hP hS hl
  have z0 : okI 0 := ⟨by decide, by decide⟩
  exact lv_if_le hx hb hd ht (fun c => kt ((iI_le ha z0).mp c) G H locs ls hR hP hS hl) (fun c => kf (Int.not_le.mp fun q => c ((iI_le ha z0).mpr q)) G H locs ls hR hP hS hl)
theorem j_rcmp_eq (h : CX E X cc own ret rm nL) {x y : Int32} {off : Int} (tgt : Nat) (hd : decode cc pc = .ok (.if_icmp .eq off, 3)) (ht : (pc : Int) + off = (tgt : Int)) (kt : x = y → JL E Rp X tgt lv rest S) (kf : ¬ x = y → JL E Rp X (pc + 3) lv rest S) : JL E Rp X pc lv (.int y :: .int x :: rest) S := by
  obtain ⟨p, e, R, s, m, args, below, meth, c, A, nL', kk0, nn0, Q⟩ := X
  obtain ⟨hx, hb, hml, rfl, hown, hts, hK, hlk, hr, hrm, hA, hAi, hE, hk0, hn0, hXX⟩ := h
  intro G H locs ls hR hP hS hl
  exact lv_icmp_eq hx hb hd ht (fun c => kt c G H locs ls hR hP hS hl) (fun c => kf c G H locs ls hR hP hS hl)
theorem j_rif_eq (h : CX E X cc own ret rm nL) {x : Int32} {off : Int} (tgt : Nat) (hd : decode cc pc = .ok (.ifCond .eq off, 3)) (ht : (pc : Int) + off = (tgt : Int)) (kt : x = 0 → JL E Rp X tgt lv rest S) (kf : ¬ x = 0 → JL E Rp X (pc + 3) lv rest S) : JL E Rp X pc lv (.int x :: rest) S := by
  obtain ⟨p, e, R, s, m, args, below, meth, c, A, nL', kk0, nn0, Q⟩ := X
  obtain ⟨hx, hb, hml, rfl, hown, hts, hK, hlk, hr, hrm, hA, hAi, hE, hk0, hn0, hXX⟩ := h
  intro G H locs ls hR hP hS hl
  exact lv_if_eq hx hb hd ht (fun c => kt c G H locs ls hR hP hS hl) (fun c => kf c G H locs ls hR hP hS hl)
theorem j_rcmp_ne (h : CX E X cc own ret rm nL) {x y : Int32} {off : Int} (tgt : Nat) (hd : decode cc pc = .ok (.if_icmp .ne off, 3)) (ht : (pc : Int) + off = (tgt : Int)) (kt : ¬ x = y → JL E Rp X tgt lv rest S) (kf : x = y → JL E Rp X (pc + 3) lv rest S) : JL E Rp X pc lv (.int y :: .int x :: rest) S := by
  obtain ⟨p, e, R, s, m, args, below, meth, c, A, nL', kk0, nn0, Q⟩ := X
  obtain ⟨hx, hb, hml, rfl, hown, hts, hK, hlk, hr, hrm, hA, hAi, hE, hk0, hn0, hXX⟩ := h
  intro G H locs ls hR hP hS hl
  exact lv_icmp_ne hx hb hd ht (fun c => kt c G H locs ls hR hP hS hl) (fun c => kf c G H locs ls hR hP hS hl)
theorem j_rif_ne (h : CX E X cc own ret rm nL) {x : Int32} {off : Int} (tgt : Nat) (hd : decode cc pc = .ok (.ifCond .ne off, 3)) (ht : (pc : Int) + off = (tgt : Int)) (kt : ¬ x = 0 → JL E Rp X tgt lv rest S) (kf : x = 0 → JL E Rp X (pc + 3) lv rest S) : JL E Rp X pc lv (.int x :: rest) S := by
  obtain ⟨p, e, R, s, m, args, below, meth, c, A, nL', kk0, nn0, Q⟩ := X
  obtain ⟨hx, hb, hml, rfl, hown, hts, hK, hlk, hr, hrm, hA, hAi, hE, hk0, hn0, hXX⟩ := h
  intro G H locs ls hR hP hS hl
  exact lv_if_ne hx hb hd ht (fun c => kt c G H locs ls hR hP hS hl) (fun c => kf c G H locs ls hR hP hS hl)
theorem j_goto (h : CX E X cc own ret rm nL) {off : Int} (tgt : Nat) (hd : decode cc pc = .ok (.goto off, 3)) (ht : (pc : Int) + off = (tgt : Int)) (K : JL E Rp X tgt lv rest S) : JL E Rp X pc lv rest S := by
  obtain ⟨p, e, R, s, m, args, below, meth, c, A, nL', kk0, nn0, Q⟩ := X
  obtain ⟨hx, hb, hml, rfl, hown, hts, hK, hlk, hr, hrm, hA, hAi, hE, hk0, hn0, hXX⟩ := h
  intro G H locs ls hR hP hS hl
  exact lv_goto hx hb hd ht (K G H locs ls hR hP hS hl)
theorem j_get (h : CX E X cc own ret rm nL) {ref C : String} {T : u_T} {N ci index i : Nat} {fs : List Value} {v : Value} (f : Nat) (hin : ∀ w ∈ u_ws C T N, w ∈ AW) (hc : vwCl[ci]? = some (C, T, N)) (hf : f < N) (hw : Cond.fieldLink own index ref (T f).2.1 (T f).2.2.1 ∈ AW) (href : (T f).1 = ref) (hi : i < 89) (hg : ∀ G, Rp S G → G i = .inr (ci, fs)) (hv : fs[f]? = some v) (hd : decode cc pc = .ok (.getfield index, 3)) (K : JL E Rp X (pc + 3) lv (v :: rest) S) : JL E Rp X pc lv (eA E i :: rest) S := by
  obtain ⟨p, e, R, s, m, args, below, meth, c, A, nL', kk0, nn0, Q⟩ := X
  obtain ⟨hx, hb, hml, rfl, hown, hts, hK, hlk, hr, hrm, hA, hAi, hE, hk0, hn0, hXX⟩ := h
  intro G H locs ls hR hP hS hl
  exact va_get hx hb hts hin hown hK hP i (wl_get' hi (hg G hR)) hc f hf (hts _ hw) (fun x q => by rw [← href]; exact q) hv hd (K G H locs ls hR hP hS hl)
theorem j_getN (h : CX E X cc own ret rm nL) {ref C host : String} {T : u_T} {N ci index i : Nat} {fs : List Value} {v : Value} (f : Nat) (hin : ∀ w ∈ u_ws C T N, w ∈ AW) (hc : vwCl[ci]? = some (C, T, N)) (hf : f < N) (hw : Cond.fieldLinkNest own index ref (T f).2.1 (T f).2.2.1 host ∈ nwl) (href : (T f).1 = ref) (hi : i < 89) (hg : ∀ G, Rp S G → G i = .inr (ci, fs)) (hv : fs[f]? = some v) (hd : decode cc pc = .ok (.getfield index, 3)) (K : JL E Rp X (pc + 3) lv (v :: rest) S) : JL E Rp X pc lv (eA E i :: rest) S := by
  obtain ⟨p, e, R, s, m, args, below, meth, c, A, nL', kk0, nn0, Q⟩ := X
  obtain ⟨hx, hb, hml, rfl, hown, hts, hK, hlk, hr, hrm, hA, hAi, hE, hk0, hn0, hXX⟩ := h
  intro G H locs ls hR hP hS hl
  exact va_getN hx hb hts hin hown hK hP i (wl_get' hi (hg G hR)) hc f hf (va_Nw.use rfl (hE.2.2.2.2.2 A s s.heap hXX _ hw)) (fun x q => by rw [← href]; exact q) hv hd (K G H locs ls hR hP hS hl)
theorem j_put (h : CX E X cc own ret rm nL) {ref C : String} {T : u_T} {N ci index i : Nat} {fs : List Value} {v : Value} {ty : FieldType} {S' : τ} (f : Nat) (hin : ∀ w ∈ u_ws C T N, w ∈ AW) (ty0 : Nat → FieldType) (hty : ∀ k, k < N → parseFieldDescriptor (T k).2.2.1 = some (ty0 k)) (hnm : ∀ a, a < N → ∀ b, b < N → a ≠ b → (T a).2.1 ≠ (T b).2.1) (hc : vwCl[ci]? = some (C, T, N)) (hf : f < N) (hw : Cond.fieldLink own index ref (T f).2.1 (T f).2.2.1 ∈ AW) (href : (T f).1 = ref) (hfin : (T f).2.2.2 = false) (hty1 : ty0 f = ty) (hn : narrow ty v = v) (hfit : fits ty v = true) (hi : i < 89) (hg : ∀ G, Rp S G → G i = .inr (ci, fs) ∧ Rp S' (va_up G i (.inr (ci, fs.set f v)))) (hfl : f < fs.length) (hd : decode cc pc = .ok (.putfield index, 3)) (K : JL E Rp X (pc + 3) lv rest S') : JL E Rp X pc lv (v :: eA E i :: rest) S := by
  obtain ⟨p, e, R, s, m, args, below, meth, c, A, nL', kk0, nn0, Q⟩ := X
  obtain ⟨hx, hb, hml, rfl, hown, hts, hK, hlk, hr, hrm, hA, hAi, hE, hk0, hn0, hXX⟩ := h
  intro G H locs ls hR hP hS hl
  have hD : va_D A (wl E.2.2.1 G) := wl_D hE.1 hAi
  refine va_put hx hb hts hin ty0 hty hnm hown hK hP hD hS i (wl_get' hi (hg G hR).1) hc f hf (hts _ hw) (fun x q => by rw [← href]; exact q) hfin (by rw [hty f hf, hty1]) hn hfit hfl hd (fun H1 locs1 hP1 hD1 hS1 => ?_)
  rw [wl_set] at hP1
  exact K _ H1 locs1 ls (hg G hR).2 hP1 hS1 hl
/-! arrays: of ints, of references -/
theorem j_iald (h : CX E X cc own ret rm nL) {i : Nat} {z : Int} (x : Int32) (hi : i < 89) (hz : 0 ≤ z ∧ z < 2147483648) (hg : ∀ G, Rp S G → ∃ (len : Nat) (f : Nat → Int32), G i = .inl (eI E, len, .inl f) ∧ z < len ∧ f z.toNat = x) (hd : decode cc pc = .ok (.iaload, 1)) (K : JL E Rp X (pc + 1) lv (.int x :: rest) S) : JL E Rp X pc lv (.int (iI z) :: eA E i :: rest) S := by
  obtain ⟨p, e, R, s, m, args, below, meth, c, A, nL', kk0, nn0, Q⟩ := X
  obtain ⟨hx, hb, hml, rfl, hown, hts, hK, hlk, hr, hrm, hA, hAi, hE, hk0, hn0, hXX⟩ := h
  intro G H locs ls hR hP hS hl
  obtain ⟨len, f, hGi, hlt, hf⟩ := hg G hR
  refine va_iald hx hb hK hP i 0 (wl_get' hi hGi) rfl (iI_in hz.1 hlt hz.2) hd ?_
  rw [iI_clamp hz.1 hz.2, hf]
  exact K G H locs ls hR hP hS hl
theorem j_iast (h : CX E X cc own ret rm nL) {i : Nat} {z : Int} {x : Int32} {S' : τ} (hi : i < 89) (hz : 0 ≤ z ∧ z < 2147483648) (hg : ∀ G, Rp S G → ∃ (len : Nat) (f : Nat → Int32), G i = .inl (eI E, len, .inl f) ∧ z < len ∧ Rp S' (va_up G i (.inl (eI E, len, .inl (upd f z.toNat x))))) (hd : decode cc pc = .ok (.iastore, 1)) (K : JL E Rp X (pc + 1) lv rest S') : JL E Rp X pc lv (.int x :: .int (iI z) :: eA E i :: rest) S := by
  obtain ⟨p, e, R, s, m, args, below, meth, c, A, nL', kk0, nn0, Q⟩ := X
  obtain ⟨hx, hb, hml, rfl, hown, hts, hK, hlk, hr, hrm, hA, hAi, hE, hk0, hn0, hXX⟩ := h
  intro G H locs ls hR hP hS hl
  obtain ⟨len, f, hGi, hlt, hR'⟩ := hg G hR
  have hD : va_D A (wl E.2.2.1 G) := wl_D hE.1 hAi
  refine va_iast hx hb hK hP hD hS i 0 (wl_get' hi hGi) rfl (iI_in hz.1 hlt hz.2) hd (fun H1 locs1 hP1 hD1 hS1 => ?_)
  rw [wl_set, iI_clamp hz.1 hz.2] at hP1
  exact K _ H1 locs1 ls hR' hP1 hS1 hl
theorem j_aald (h : CX E X cc own ret rm nL) {i : Nat} {z : Int} (j t0 : Nat) {cA : ClassId} {C : String} (hi : i < 89) (hz : 0 ≤ z ∧ z < 2147483648) (ht : (tysE E)[t0]? = some (cA, .object C)) (hg : ∀ G, Rp S G → ∃ (len : Nat) (f : Nat → Option Nat), G i = .inl (cA, len, .inr (.inr (.inr (.inr f)))) ∧ z < len ∧ f z.toNat = some (E.2.2.1 j)) (hd : decode cc pc = .ok (.aaload, 1)) (K : JL E Rp X (pc + 1) lv (eA E j :: rest) S) : JL E Rp X pc lv (.int (iI z) :: eA E i :: rest) S := by
  obtain ⟨p, e, R, s, m, args, below, meth, c, A, nL', kk0, nn0, Q⟩ := X
  obtain ⟨hx, hb, hml, rfl, hown, hts, hK, hlk, hr, hrm, hA, hAi, hE, hk0, hn0, hXX⟩ := h
  intro G H locs ls hR hP hS hl
  obtain ⟨len, f, hGi, hlt, hf⟩ := hg G hR
  refine va_aldq hx hb hK hP i t0 (wl_get' hi hGi) ht (iI_in hz.1 hlt hz.2) hd ?_
  rw [iI_clamp hz.1 hz.2, hf]
  exact K G H locs ls hR hP hS hl
theorem j_aast (h : CX E X cc own ret rm nL) {i j : Nat} {z : Int} {S' : τ} (t0 ci : Nat) {cA : ClassId} {q : vw_C} (hi : i < 89) (hj : j < 89) (hz : 0 ≤ z ∧ z < 2147483648) (ht : (tysE E)[t0]? = some (cA, .object q.1)) (hc : vwCl[ci]? = some q) (hg : ∀ G, Rp S G → ∃ (len : Nat) (f : Nat → Option Nat) (vs : List Value), G i = .inl (cA, len, .inr (.inr (.inr (.inr f)))) ∧ z < len ∧ G j = .inr (ci, vs) ∧ Rp S' (va_up G i (.inl (cA, len, .inr (.inr (.inr (.inr (va_up f z.toNat (some (E.2.2.1 j)))))))))) (hd : decode cc pc = .ok (.aastore, 1)) (K : JL E Rp X (pc + 1) lv rest S') : JL E Rp X pc lv (eA E j :: .int (iI z) :: eA E i :: rest) S := by
  obtain ⟨p, e, R, s, m, args, below, meth, c, A, nL', kk0, nn0, Q⟩ := X
  obtain ⟨hx, hb, hml, rfl, hown, hts, hK, hlk, hr, hrm, hA, hAi, hE, hk0, hn0, hXX⟩ := h
  intro G H locs ls hR hP hS hl
  obtain ⟨len, f, vs, hGi, hlt, hGj, hR'⟩ := hg G hR
  have hD : va_D A (wl E.2.2.1 G) := wl_D hE.1 hAi
  refine va_astq hx hb hK hP hD hS i t0 j ci (wl_get' hi hGi) ht (wl_get' hj hGj) hc (iI_in hz.1 hlt hz.2) hd (fun H1 locs1 hP1 hD1 hS1 => ?_)
  rw [wl_set, iI_clamp hz.1 hz.2] at hP1
  exact K _ H1 locs1 ls hR' hP1 hS1 hl
theorem j_alen (h : CX E X cc own ret rm nL) {i : Nat} (len : Nat) (hi : i < 89) (hg : ∀ G, Rp S G → ∃ f : Nat → Int32, G i = .inl (eI E, len, .inl f)) (hd : decode cc pc = .ok (.arraylength, 1)) (K : JL E Rp X (pc + 1) lv (.int (iI (len : Int)) :: rest) S) : JL E Rp X pc lv (eA E i :: rest) S := by
  obtain ⟨p, e, R, s, m, args, below, meth, c, A, nL', kk0, nn0, Q⟩ := X
  obtain ⟨hx, hb, hml, rfl, hown, hts, hK, hlk, hr, hrm, hA, hAi, hE, hk0, hn0, hXX⟩ := h
  intro G H locs ls hR hP hS hl
  obtain ⟨f, hGi⟩ := hg G hR
  exact va_alen (ty := .int) hx hb hK hP i 0 (wl_get' hi hGi) rfl (iI_nat len) hd (K G H locs ls hR hP hS hl)

theorem j_iret (h : CX E X cc own (some .int) rm nL) {v : Int32} {o : Option Value} (hq : Fn E Rp X o S) (ho : o = some (.int v)) (hd : decode cc pc = .ok (.ireturn, 1)) : JL E Rp X pc lv [.int v] S := by
  subst ho
  obtain ⟨p, e, R, s, m, args, below, meth, c, A, nL', kk0, nn0, Q⟩ := X
  obtain ⟨hx, hb, hml, rfl, hown, hts, hK, hlk, hr, hrm, hA, hAi, hE, hk0, hn0, hXX⟩ := h
  obtain ⟨Qc, free, rfl, hfr, hend⟩ := hq
  intro G H locs ls hR hP hS hl
  exact W.iret hx hb hr (fun t ht hW => hend G t hR (by rw [ht]; exact hP) (hS.F ht)) (fun q hq => hfr _ (hS.2.2 q hq)) hd hlk
theorem j_lret (h : CX E X cc own (some .long) rm nL) {v : Int64} {o : Option Value} (hq : Fn E Rp X o S) (ho : o = some (.long v)) (hd : decode cc pc = .ok (.lreturn, 1)) : JL E Rp X pc lv [.long v] S := by
  subst ho
  obtain ⟨p, e, R, s, m, args, below, meth, c, A, nL', kk0, nn0, Q⟩ := X
  obtain ⟨hx, hb, hml, rfl, hown, hts, hK, hlk, hr, hrm, hA, hAi, hE, hk0, hn0, hXX⟩ := h
  obtain ⟨Qc, free, rfl, hfr, hend⟩ := hq
  intro G H locs ls hR hP hS hl
  exact W.lret hx hb hr (fun t ht hW => hend G t hR (by rw [ht]; exact hP) (hS.F ht)) (fun q hq => hfr _ (hS.2.2 q hq)) hd hlk
theorem j_zret (h : CX E X cc own (some .boolean) rm nL) {v : Int32} {o : Option Value} (hq : Fn E Rp X o S) (ho : o = some (.int v)) (hn : narrow .boolean (.int v) = .int v) (hd : decode cc pc = .ok (.ireturn, 1)) : JL E Rp X pc lv [.int v] S := by
  subst ho
  obtain ⟨p, e, R, s, m, args, below, meth, c, A, nL', kk0, nn0, Q⟩ := X
  obtain ⟨hx, hb, hml, rfl, hown, hts, hK, hlk, hr, hrm, hA, hAi, hE, hk0, hn0, hXX⟩ := h
  obtain ⟨Qc, free, rfl, hfr, hend⟩ := hq
  intro G H locs ls hR hP hS hl
  exact W.zret hx hb hr hn (fun t ht hW => hend G t hR (by rw [ht]; exact hP) (hS.F ht)) (fun q hq => hfr _ (hS.2.2 q hq)) hd hlk
theorem j_vret (h : CX E X cc own none rm nL) {o : Option Value} (hq : Fn E Rp X o S) (ho : o = none) (hd : decode cc pc = .ok (.return_, 1)) : JL E Rp X pc lv [] S := by
  subst ho
  obtain ⟨p, e, R, s, m, args, below, meth, c, A, nL', kk0, nn0, Q⟩ := X
  obtain ⟨hx, hb, hml, rfl, hown, hts, hK, hlk, hr, hrm, hA, hAi, hE, hk0, hn0, hXX⟩ := h
  obtain ⟨Qc, free, rfl, hfr, hend⟩ := hq
  intro G H locs ls hR hP hS hl
  exact W.vret hx hb hr (fun t ht hW => hend G t hR (by rw [ht]; exact hP) (hS.F ht)) (fun q hq => hfr _ (hS.2.2 q hq)) hd hlk
theorem j_aret {C0 : String} (h : CX E X cc own (some (.object C0)) rm nL) {a : Nat} {o : Option Value} (hq : Fn E Rp X o S) (ho : o = some (.ref a)) (hd : decode cc pc = .ok (.areturn, 1)) : JL E Rp X pc lv [.ref a] S := by
  subst ho
  obtain ⟨p, e, R, s, m, args, below, meth, c, A, nL', kk0, nn0, Q⟩ := X
  obtain ⟨hx, hb, hml, rfl, hown, hts, hK, hlk, hr, hrm, hA, hAi, hE, hk0, hn0, hXX⟩ := h
  obtain ⟨Qc, free, rfl, hfr, hend⟩ := hq
  intro G H locs ls hR hP hS hl
  exact W.aret hx hb hr (Or.inl ⟨C0, rfl⟩) (Or.inr ⟨a, rfl⟩) (fun t ht hW => hend G t hR (by rw [ht]; exact hP) (hS.F ht)) (fun q hq => hfr _ (hS.2.2 q hq)) hd hlk
theorem ex_call {s U : State} {H : Heap} {A : Nat → Prop} {locs : List Loc} (hE : EOK E) (hA : ∀ q, s.heap.size ≤ q → A q) (hAi : ∀ i, i < 89 → A (E.2.2.1 i)) (hS : va_S A s.heap H locs) (hX : eX E A s s.heap) (hU : U.heap = H) (hW : s.WarmedH U.vm) : eX E (AE E H.size) U U.heap := by
  rw [hU]
  refine hE.2.2.2.2.1 A _ U H (hE.2.1 A s U H (hE.2.2.2.1 A s s.heap H hX hS.2.1) hW) (fun q hq => ?_)
  rcases hq with ⟨i, h1, rfl⟩ | h1
  · exact hAi i h1
  · exact hA q (Nat.le_trans hS.1 h1)
/-- behind a call that met its contract -/
theorem j_ran (h : CX E X cc own ret rm nL) {a : Array Value} {ls0 : Array Slot} {st0 : List Value} {v : Option Value} {S' : τ} {H0 : Heap} {locs0 : List Loc}
    (run : match X with | (p, e, R, s, m, args, below, meth, c, A, nL, k, n, Q) => va_S A s.heap H0 locs0 ∧ lv_has ls0 nL lv ∧ va_Run p E.1 e R s m args below meth c H0 locs0 k n 0 0 (F0 m pc ls0 st0) rest ((fun _ st o t => (o = .returned v ∧ ∃ G, Rp S' G ∧ va_P E.2.1 vwCl (wl E.2.2.1 G) t.heap) ∧ va_F (AE E H0.size) st t) a) (AE E H0.size))
    (K : JL E Rp X (pc + 3) lv (v.toList ++ rest) S') : match X with | (p, e, R, s, m, args, below, meth, c, A, nL, k, n, Q) => W p E.1 e R s m args below meth c H0 locs0 k n Q (F0 m pc ls0 st0) := by
  obtain ⟨p, e, R, s, m, args, below, meth, c, A, nL', kk0, nn0, Q⟩ := X
  obtain ⟨hx, hb, hml, rfl, hown, hts, hK, hlk, hr, hrm, hA, hAi, hE, hk0, hn0, hXX⟩ := h
  obtain ⟨hS, hl, run⟩ := run
  intro T hT Y
  obtain ⟨v', st₀, t, T', L, h0, Y', hL, e1, e2, ⟨⟨hv, G, hR, hP⟩, hz, hkeep⟩, stp⟩ := run T hT Y
  cases hv
  rw [h0] at hz hkeep
  have sub : ∀ q, AE E H0.size q → A q := fun q hq => by
    rcases hq with ⟨i, h1, rfl⟩ | h1
    · exact hAi i h1
    · exact hA q (Nat.le_trans hS.1 h1)
  have hS' : va_S A s.heap T'.heap (locs0 ++ L) := ⟨Nat.le_trans hS.1 (by rw [e1]; exact hz), fun q h1 h2 => by rw [e1, hkeep q (Nat.lt_of_lt_of_le h1 hS.1) (fun z => h2 (sub q z))]; exact hS.2.1 q h1 h2, fun q hq => by
    rcases List.mem_append.mp hq with h | h
    · exact hS.2.2 q h
    · exact sub _ (hL q h)⟩
  obtain ⟨t2, a1, b1⟩ := K G T'.heap (locs0 ++ L) ls0 hR (by rw [e1]; exact hP) hS' hl T' rfl Y'
  exact ⟨t2, stp t2 a1, b1⟩
theorem ct_blind (hE0 : EOK E) {av : List Value} {sz : Nat} : FrameBlind (va_Pc av (fun U => U.heap.size = sz ∧ (∃ G, Rp S G ∧ va_P E.2.1 vwCl (wl E.2.2.1 G) U.heap) ∧ va_K E.2.1 vwCl (tysE E) U ∧ eX E (AE E sz) U U.heap)) :=
  fun a U g mk q => ⟨q.1, q.2.1, q.2.2.1, va_K.moved (u := U) (U := U.calling g mk a) (Vm.Alike.refl U.vm) q.2.2.2.1, hE0.2.2.1 _ U (U.calling g mk a) _ q.2.2.2.2 rfl⟩
theorem gi_V {C : String} {index maxL nn : Nat} {y : MethodName} {bytes : ByteArray} {rt : Option FieldType} (mw : MWv y C bytes maxL rt nn) (hli : Cond.methodLink own index y ∈ AW) : GoodIn AW (wsV own index C y (Cond.code y bytes maxL rt :: AW)) := gi_aw fun w hw => by
  obtain ⟨h1, h2, h3, h4, -⟩ := mw
  unfold wsV at hw
  simp only [List.cons_append, List.nil_append, List.mem_cons] at hw
  rcases hw with rfl | rfl | rfl | rfl | rfl | hw <;> assumption
theorem gi_S {index maxL nn : Nat} {y : MethodName} {bytes : ByteArray} {rt : Option FieldType} (mw : MWs y bytes maxL rt nn) (hli : Cond.methodLink own index y ∈ AW) : GoodIn AW (va_wsS own index y (Cond.code y bytes maxL rt :: AW)) := gi_aw fun w hw => by
  obtain ⟨h1, h2, h3, -⟩ := mw
  unfold va_wsS at hw
  simp only [List.cons_append, List.nil_append, List.mem_cons] at hw
  rcases hw with rfl | rfl | rfl | rfl | hw <;> assumption
theorem j_callV0 (h : CX E X cc own ret rm nL) {C : String} {T : u_T} {N : Nat} {ci : Nat} {index i maxL nn : Nat} {y : MethodName} {bytes : ByteArray} {rt : Option FieldType} {rmc : Room} {As : List Value} {S' : τ} {v : Option Value} (hM : Ct E Rp y (Cond.code y bytes maxL rt :: AW) rmc (eA E i :: As) S v S') (mw : MWv y C bytes maxL rt nn) (hli : Cond.methodLink own index y ∈ AW) (hrc : rmc.cells = 0) (hrs : rmc.slots = 0) (hroom : rmc.frames + 1 ≤ rm.frames ∧ 8 + (maxL + 11) + rmc.locals ≤ rm.locals) (hc : vwCl[ci]? = some (C, T, N)) (hi : i < 89) (hg : ∀ G, Rp S G → ∃ fs, G i = .inr (ci, fs)) (hlen : As.length = nn) (hst : st = As.reverse ++ eA E i :: rest) (hcat : (rest.map fun v => v.category).sum ≤ 8) (hd : decode cc pc = .ok (.invokevirtual index, 3)) (K : JL E Rp X (pc + 3) lv (v.toList ++ rest) S') : JL E Rp X pc lv st S := by
  subst hst
  have h' := h
  obtain ⟨p, e, R, s, m, args, below, meth, c, A, nL', kk0, nn0, Q⟩ := X
  obtain ⟨hx, hb, hml, rfl, hown, hts, hK, hlk, hr, hrm, hA, hAi, hE, hk0, hn0, hXX⟩ := h
  intro G H locs ls hR hP hS hl
  obtain ⟨fs, hGi⟩ := hg G hR
  subst hrm
  exact j_ran h' (a := (eA E i :: As).toArray) ⟨hS, hl, va_runV (As := As) (rest := rest) ⟨hx, hb, hml, hown, hts⟩ (hM H.size) (cwV nn hts (gi_V mw hli) rfl hrc hrs mw.2.2.2.2 hroom) ⟨ct_blind hE, va_recv hK hP hc (wl_get' hi hGi), fun U hU hW => ⟨rfl, by rw [hU], ⟨G, hR, by rw [hU]; exact hP⟩, va_K.moved hW.alike hK, ex_call hE hA hAi hS hXX hU hW⟩⟩ rfl hlen hl.1 rfl (lv_room hcat) hd ⟨hk0, hn0⟩⟩ K
theorem j_callV (h : CX E X cc own ret rm nL) {C : String} {T : u_T} {N : Nat} {ci : Nat} {index i maxL nn : Nat} {y : MethodName} {bytes : ByteArray} {rt : Option FieldType} {rmc : Room} {As : List Value} {S' : τ} {v : Value} (hM : Ct E Rp y (Cond.code y bytes maxL rt :: AW) rmc (eA E i :: As) S (some v) S') (mw : MWv y C bytes maxL rt nn) (hli : Cond.methodLink own index y ∈ AW) (hrc : rmc.cells = 0) (hrs : rmc.slots = 0) (hroom : rmc.frames + 1 ≤ rm.frames ∧ 8 + (maxL + 11) + rmc.locals ≤ rm.locals) (hc : vwCl[ci]? = some (C, T, N)) (hi : i < 89) (hg : ∀ G, Rp S G → ∃ fs, G i = .inr (ci, fs)) (hlen : As.length = nn) (hst : st = As.reverse ++ eA E i :: rest) (hcat : (rest.map fun v => v.category).sum ≤ 8) (hd : decode cc pc = .ok (.invokevirtual index, 3)) (K : JL E Rp X (pc + 3) lv (v :: rest) S') : JL E Rp X pc lv st S := 
  j_callV0 h hM mw hli hrc hrs hroom hc hi hg hlen hst hcat hd K
theorem j_callVv (h : CX E X cc own ret rm nL) {C : String} {T : u_T} {N : Nat} {ci : Nat} {index i maxL nn : Nat} {y : MethodName} {bytes : ByteArray} {rt : Option FieldType} {rmc : Room} {As : List Value} {S' : τ} (hM : Ct E Rp y (Cond.code y bytes maxL rt :: AW) rmc (eA E i :: As) S none S') (mw : MWv y C bytes maxL rt nn) (hli : Cond.methodLink own index y ∈ AW) (hrc : rmc.cells = 0) (hrs : rmc.slots = 0) (hroom : rmc.frames + 1 ≤ rm.frames ∧ 8 + (maxL + 11) + rmc.locals ≤ rm.locals) (hc : vwCl[ci]? = some (C, T, N)) (hi : i < 89) (hg : ∀ G, Rp S G → ∃ fs, G i = .inr (ci, fs)) (hlen : As.length = nn) (hst : st = As.reverse ++ eA E i :: rest) (hcat : (rest.map fun v => v.category).sum ≤ 8) (hd : decode cc pc = .ok (.invokevirtual index, 3)) (K : JL E Rp X (pc + 3) lv rest S') : JL E Rp X pc lv st S := 
  j_callV0 h hM mw hli hrc hrs hroom hc hi hg hlen hst hcat hd K
theorem j_callS0 (h : CX E X cc own ret rm nL) {index maxL nn : Nat} {y : MethodName} {bytes : ByteArray} {rt : Option FieldType} {rmc : Room} {As : List Value} {S' : τ} {v : Option Value} (hM : Ct E Rp y (Cond.code y bytes maxL rt :: AW) rmc As S v S') (mw : MWs y bytes maxL rt nn) (hli : Cond.methodLink own index y ∈ AW) (hrc : rmc.cells = 0) (hrs : rmc.slots = 0) (hroom : rmc.frames + 1 ≤ rm.frames ∧ 8 + (maxL + 11) + rmc.locals ≤ rm.locals) (hlen : As.length = nn) (hst : st = As.reverse ++ rest) (hcat : (rest.map fun v => v.category).sum ≤ 8) (hd : decode cc pc = .ok (.invokestatic index, 3)) (K : JL E Rp X (pc + 3) lv (v.toList ++ rest) S') : JL E Rp X pc lv st S := by
  subst hst
  have h' := h
  obtain ⟨p, e, R, s, m, args, below, meth, c, A, nL', kk0, nn0, Q⟩ := X
  obtain ⟨hx, hb, hml, rfl, hown, hts, hK, hlk, hr, hrm, hA, hAi, hE, hk0, hn0, hXX⟩ := h
  intro G H locs ls hR hP hS hl
  subst hrm
  exact j_ran h' (a := As.toArray) ⟨hS, hl, va_runS (As := As) (rest := rest) ⟨hx, hb, hml, hown, hts⟩ (hM H.size) (va_cwS nn hts (gi_S mw hli) rfl hrc hrs mw.2.2.2 hroom) ⟨ct_blind hE, fun U hU hW => ⟨rfl, by rw [hU], ⟨G, hR, by rw [hU]; exact hP⟩, va_K.moved hW.alike hK, ex_call hE hA hAi hS hXX hU hW⟩⟩ rfl hlen hl.1 rfl (lv_room hcat) hd ⟨hk0, hn0⟩⟩ K
theorem j_callS (h : CX E X cc own ret rm nL) {index maxL nn : Nat} {y : MethodName} {bytes : ByteArray} {rt : Option FieldType} {rmc : Room} {As : List Value} {S' : τ} {v : Value} (hM : Ct E Rp y (Cond.code y bytes maxL rt :: AW) rmc As S (some v) S') (mw : MWs y bytes maxL rt nn) (hli : Cond.methodLink own index y ∈ AW) (hrc : rmc.cells = 0) (hrs : rmc.slots = 0) (hroom : rmc.frames + 1 ≤ rm.frames ∧ 8 + (maxL + 11) + rmc.locals ≤ rm.locals) (hlen : As.length = nn) (hst : st = As.reverse ++ rest) (hcat : (rest.map fun v => v.category).sum ≤ 8) (hd : decode cc pc = .ok (.invokestatic index, 3)) (K : JL E Rp X (pc + 3) lv (v :: rest) S') : JL E Rp X pc lv st S := 
  j_callS0 h hM mw hli hrc hrs hroom hlen hst hcat hd K
theorem j_callSv (h : CX E X cc own ret rm nL) {index maxL nn : Nat} {y : MethodName} {bytes : ByteArray} {rt : Option FieldType} {rmc : Room} {As : List Value} {S' : τ} (hM : Ct E Rp y (Cond.code y bytes maxL rt :: AW) rmc As S none S') (mw : MWs y bytes maxL rt nn) (hli : Cond.methodLink own index y ∈ AW) (hrc : rmc.cells = 0) (hrs : rmc.slots = 0) (hroom : rmc.frames + 1 ≤ rm.frames ∧ 8 + (maxL + 11) + rmc.locals ≤ rm.locals) (hlen : As.length = nn) (hst : st = As.reverse ++ rest) (hcat : (rest.map fun v => v.category).sum ≤ 8) (hd : decode cc pc = .ok (.invokestatic index, 3)) (K : JL E Rp X (pc + 3) lv rest S') : JL E Rp X pc lv st S := 
  j_callS0 h hM mw hli hrc hrs hroom hlen hst hcat hd K

theorem j_callN (h : CX E X cc own ret rm nL) {index maxL nn : Nat} {host : String} {y : MethodName} {bytes : ByteArray} {rt : Option FieldType} {rmc : Room} {As : List Value} {v : Value} {S' : τ} (hM : Ct E Rp y (Cond.code y bytes maxL rt :: AW) rmc As S (some v) S') (mw : MWs y bytes maxL rt nn) (hnw : Cond.methodLinkNest own index y host ∈ nwl) (hrc : rmc.cells = 0) (hrs : rmc.slots = 0) (hroom : rmc.frames + 1 ≤ rm.frames ∧ 8 + (maxL + 11) + rmc.locals ≤ rm.locals) (hlen : As.length = nn) (hst : st = As.reverse ++ rest) (hcat : (rest.map fun v => v.category).sum ≤ 8) (hd : decode cc pc = .ok (.invokestatic index, 3)) (K : JL E Rp X (pc + 3) lv (v :: rest) S') : JL E Rp X pc lv st S := by
  subst hst
  have h' := h
  obtain ⟨p, e, R, s, m, args, below, meth, c, A, nL', kk0, nn0, Q⟩ := X
  obtain ⟨hx, hb, hml, rfl, hown, hts, hK, hlk, hr, hrm, hA, hAi, hE, hk0, hn0, hXX⟩ := h
  intro G H locs ls hR hP hS hl
  subst hrm
  exact j_ran h' (a := As.toArray) ⟨hS, hl, va_runSN (As := As) (rest := rest) ⟨hx, hb, hml, hown, hts⟩ (hM H.size) ⟨va_cnB nn hts (gi_aw (aw_cons mw.2.2.1)) rfl hrc hrs (hE.2.2.2.2.2 A s s.heap hXX _ hnw) (hts _ mw.2.1) mw.2.2.2 hroom, hts _ mw.1, trivial⟩ ⟨ct_blind hE, fun U hU hW => ⟨rfl, by rw [hU], ⟨G, hR, by rw [hU]; exact hP⟩, va_K.moved hW.alike hK, ex_call hE hA hAi hS hXX hU hW⟩⟩ rfl hlen hl.1 rfl (lv_room hcat) hd ⟨hk0, hn0⟩⟩ K

end JR
