/-! constructors: the cells that are made lie one behind the other from h0 on, cell i at h0 + i -/
def wn (h0 n : Nat) (G : GH) : va_W := (List.range n).map (fun i => (h0 + i, G i))
theorem wn_get {h0 n i : Nat} {G : GH} (h : i < n) : (wn h0 n G)[i]? = some (h0 + i, G i) := by simp [wn, h]
theorem wn_get' {h0 n i : Nat} {G : GH} {e : va_E} (h : i < n) (he : G i = e) : (wn h0 n G)[i]? = some (h0 + i, e) := by rw [wn_get h, he]
theorem wn_len {h0 n : Nat} {G : GH} {k : Nat} {q : Nat × va_E} (h : (wn h0 n G)[k]? = some q) : k < n ∧ q = (h0 + k, G k) := by
  have hk : k < (wn h0 n G).length := (List.getElem?_eq_some_iff.mp h).1
  have hk2 : k < n := by simpa [wn] using hk
  exact ⟨hk2, Option.some.inj (h.symm.trans (wn_get hk2))⟩
theorem wn_set {h0 n i : Nat} {G : GH} {e : va_E} (hi : i < n) : (wn h0 n G).set i (h0 + i, e) = wn h0 n (va_up G i e) := by
  apply List.ext_getElem?
  intro j
  rw [List.getElem?_set]
  by_cases hj : i = j
  · subst hj
    simp [wn, hi, va_up]
  · rw [if_neg hj]
    by_cases hi2 : j < n
    · rw [wn_get hi2, wn_get hi2, va_up_ne _ _ (fun h => hj h.symm)]
    · simp [wn, hi2]
theorem wn_push {h0 n : Nat} {G : GH} {e : va_E} : wn h0 n G ++ [(h0 + n, e)] = wn h0 (n + 1) (va_up G n e) := by
  unfold wn
  rw [List.range_succ, List.map_append]
  congr 1
  · apply List.map_congr_left
    intro i hi
    have := List.mem_range.mp hi
    rw [va_up_ne _ _ (by omega)]
  · simp [va_up]
theorem wn_D {h0 n : Nat} {G : GH} : va_D (fun q => h0 ≤ q) (wn h0 n G) := by
  refine ⟨fun i j p q hp hq h => ?_, fun k q hk => ?_⟩
  · obtain ⟨-, rfl⟩ := wn_len hp
    obtain ⟨-, rfl⟩ := wn_len hq
    have h2 : h0 + i = h0 + j := h
    omega
  · obtain ⟨-, rfl⟩ := wn_len hk
    show h0 ≤ h0 + k
    omega
theorem wn_size {D : va_G} {cl : List vw_C} {h0 n : Nat} {G : GH} {H : Heap} (hP : va_P D cl (wn h0 n G) H) (h : h0 ≤ H.size) : h0 + n ≤ H.size := by
  cases n with
  | zero => exact h
  | succ n =>
    have := (hP n _ (wn_get (Nat.lt_succ_self n))).lt
    have h2 : h0 + n < H.size := this
    omega
theorem a_y_int : Cond.arrayClass .int ∈ AW := aw_t 44 (by decide +kernel) rfl
def CG (E : EV) (h0 N0 : Nat) (X : TX) (cc : ByteArray) (own : String) (rm : Room) (nL : Nat) : Prop := match X with
  | (p, e, R, s, m, args, below, meth, c, A, nL', k, n, Q) => p.tables.exec = Jvm.exec ∧ c.code = cc ∧ c.maxLocals = nL ∧ nL' = nL ∧ s.vm.findClass own = some m.cls ∧ (∀ w ∈ AW, w.before args s = true) ∧ va_K E.2.1 vwCl (tysE E) s ∧ meth.locks = false ∧ meth.sig.returnType = none ∧ R = rm ∧ A = (fun q => h0 ≤ q) ∧ s.heap.size = h0 + N0 ∧ meth.name = "<init>" ∧ va_AO RX2 s ∧ va_AO RX0 s
def GL (E : EV) (h0 N0 : Nat) (X : TX) (pc : Nat) (lv : List (Nat × Value)) (st : List Value) (kc sc : Nat) (G : GH) : Prop := match X with
  | (p, e, R, s, m, args, below, meth, c, A, nL, k, n, Q) => ∀ (H : Heap) (locs : List Loc) (ls : Array Slot), va_P E.2.1 vwCl (wn h0 (N0 + kc) G) H → va_S A s.heap H locs → lv_has ls nL lv → W p E.1 e R s m args below meth c H locs kc sc Q (F0 m pc ls st)
def FG (E : EV) (h0 N0 : Nat) (X : TX) (kc sc : Nat) (G : GH) : Prop := match X with
  | (p, e, R, s, m, args, below, meth, c, A, nL, k, n, Q) => ∃ (Qc : Array Value → State → Outcome → State → Prop) (free : Addr → Prop), Q = MQ below Qc args s kc sc free ∧ (∀ q, A q → free q) ∧ ∀ (t : State), t.heap.size = h0 + (N0 + kc) → va_P E.2.1 vwCl (wn h0 (N0 + kc) G) t.heap → va_F A s t → Qc args s (.returned none) t
/-- a constructor's contract: it finds N cells, makes kc more with sc slots, and leaves G' -/
def CtG (E : EV) (h0 : Nat) (y : MethodName) (ws : List Cond) (rm : Room) (av : List Value) (N : Nat) (G : GH) (kc sc : Nat) (G' : GH) : Prop :=
  Met E.1 y ws rm (va_Pc av (fun U => U.heap.size = h0 + N ∧ va_P E.2.1 vwCl (wn h0 N G) U.heap ∧ va_K E.2.1 vwCl (tysE E) U ∧ va_AO RX2 U ∧ va_AO RX0 U)) (fun _ st o t => (o = .returned none ∧ t.heap.size = h0 + (N + kc) ∧ va_P E.2.1 vwCl (wn h0 (N + kc) G') t.heap) ∧ va_F (fun q => h0 ≤ q) st t) kc sc (fun q => h0 ≤ q)
theorem ctg_of {E : EV} {h0 N0 : Nat} {y : MethodName} {ws : List Cond} {rm : Room} {cc : ByteArray} {maxL : Nat} {av : List Value} {G : GH} {kc sc : Nat} {G' : GH} (lv0 : List (Nat × Value)) (hy : plainName y.cls = true) (hyi : y.name = "<init>") (hw : ws = Cond.code y cc maxL none :: AW) (hn : (lg_sl av).length ≤ maxL) (hlv : lv_args 0 av = lv0)
    (body : ∀ X, CG E h0 N0 X cc y.cls rm maxL → FG E h0 N0 X kc sc G' → GL E h0 N0 X 0 lv0 [] 0 0 G) : CtG E h0 y ws rm av N0 G kc sc G' := by
  refine Met.ofW (cc := cc) (maxL := maxL) (ret := none) hy hw ?_
  intro p e s m args below meth c s₁ B hml hv
  obtain ⟨rfl, hsz, hP, hK, hAO⟩ := hv
  have hl := lv_entry av (n := maxL) hn
  rw [lg_entry_eq]
  rw [hlv] at hl
  refine body (p, e, rm, s, m, av.toArray, below, meth, c, (fun q => h0 ≤ q), maxL, 0, 0, MQ below (fun _ st o t => (o = .returned none ∧ t.heap.size = h0 + (N0 + kc) ∧ va_P E.2.1 vwCl (wn h0 (N0 + kc) G') t.heap) ∧ va_F (fun q => h0 ≤ q) st t) av.toArray s kc sc (fun q => h0 ≤ q)) ?_ ?_ s.heap [] _ hP va_S.rf hl
  · exact ⟨B.exec, B.bytes, hml, rfl, findClass_of_methodNamed B.named, fun w hw2 => atoms_spec (ws := ws) B.pre w (by rw [hw]; exact List.mem_cons_of_mem _ hw2), hK, B.notSynchronized, B.returns, rfl, rfl, hsz, (name_of_methodNamed B.named B.method).1.trans hyi, hAO⟩
  · exact ⟨_, _, rfl, fun q h => h, fun t h1 h2 h3 => ⟨⟨rfl, h1, h2⟩, h3⟩⟩
theorem gsz {p : Program} {l : Launch} {e : Env} {R : Room} {s : State} {m : MethodId} {args : Array Value} {below : List Frame} {meth : Method} {c : Code} {T : State} {locs : List Loc} {kc sc h0 N0 : Nat} {D : va_G} {cl : List vw_C} {G : GH} {A : Nat → Prop} {H : Heap} (Y : Stand p l e R s m args below meth c T locs kc sc) (hT : T.heap = H) (hs : s.heap.size = h0 + N0) (hS : va_S A s.heap H locs) (hP : va_P D cl (wn h0 (N0 + kc) G) H) : H.size = h0 + (N0 + kc) := by
  have h1 := Y.heapSize
  rw [hT] at h1
  have h2 := wn_size hP (by have := hS.1; omega)
  omega
section GR
variable {E : EV} {h0 N0 : Nat} {X : TX} {cc : ByteArray} {own : String} {rm : Room} {nL : Nat} {pc : Nat} {lv lv2 : List (Nat × Value)} {st rest : List Value} {kc sc : Nat} {G : GH}
theorem g_sub {lv2 : List (Nat × Value)} (ks : List Nat) (hs : lv_pick lv ks = lv2) (K : GL E h0 N0 X pc lv2 st kc sc G) : GL E h0 N0 X pc lv st kc sc G := by
  obtain ⟨p, e, R, s, m, args, below, meth, c, A, nL, k, n, Q⟩ := X
  intro H locs ls hP hS hl
  exact K H locs ls hP hS (lv_sub hl ks hs)
theorem g_top {x y : Int32} (e : x = y) (K : GL E h0 N0 X pc lv (.int y :: rest) kc sc G) : GL E h0 N0 X pc lv (.int x :: rest) kc sc G := e ▸ K
theorem g_iconst (h : CG E h0 N0 X cc own rm nL) {z : Int} (hd : decode cc pc = .ok (.iconst z, 1)) (K : GL E h0 N0 X (pc + 1) lv (.int (iI z) :: rest) kc sc G) : GL E h0 N0 X pc lv rest kc sc G := by
  obtain ⟨p, e, R, s, m, args, below, meth, c, A, nL', k0, n0, Q⟩ := X
  obtain ⟨hx, hb, hml, rfl, hown, hts, hK, hlk, hr, hrm, rfl, hs, hini, hAO⟩ := h
  intro H locs ls hP hS hl
  exact lv_iconst hx hb hd rfl (K H locs ls hP hS hl)
theorem g_bipush (h : CG E h0 N0 X cc own rm nL) {z : Int} (hd : decode cc pc = .ok (.bipush z, 2)) (hv : (Int8.ofInt z).toInt32 = iI z) (K : GL E h0 N0 X (pc + 2) lv (.int (iI z) :: rest) kc sc G) : GL E h0 N0 X pc lv rest kc sc G := by
  obtain ⟨p, e, R, s, m, args, below, meth, c, A, nL', k0, n0, Q⟩ := X
  obtain ⟨hx, hb, hml, rfl, hown, hts, hK, hlk, hr, hrm, rfl, hs, hini, hAO⟩ := h
  intro H locs ls hP hS hl
  exact lv_bipush hx hb hd hv (K H locs ls hP hS hl)
theorem g_sipush (h : CG E h0 N0 X cc own rm nL) {z : Int} (hd : decode cc pc = .ok (.sipush z, 3)) (hv : (Int16.ofInt z).toInt32 = iI z) (K : GL E h0 N0 X (pc + 3) lv (.int (iI z) :: rest) kc sc G) : GL E h0 N0 X pc lv rest kc sc G := by
  obtain ⟨p, e, R, s, m, args, below, meth, c, A, nL', k0, n0, Q⟩ := X
  obtain ⟨hx, hb, hml, rfl, hown, hts, hK, hlk, hr, hrm, rfl, hs, hini, hAO⟩ := h
  intro H locs ls hP hS hl
  exact lv_sipush hx hb hd hv (K H locs ls hP hS hl)
theorem g_iload_n (h : CG E h0 N0 X cc own rm nL) {q : Fin 4} {i : Nat} {x : Int32} (j : Nat) (hd : decode cc pc = .ok (.iload_n q, 1)) (hi : (q : Nat) = i) (hk : lv[j]? = some (i, .int x)) (K : GL E h0 N0 X (pc + 1) lv (.int x :: rest) kc sc G) : GL E h0 N0 X pc lv rest kc sc G := by
  obtain ⟨p, e, R, s, m, args, below, meth, c, A, nL', k0, n0, Q⟩ := X
  obtain ⟨hx, hb, hml, rfl, hown, hts, hK, hlk, hr, hrm, rfl, hs, hini, hAO⟩ := h
  intro H locs ls hP hS hl
  exact lv_iload_n hx hb hd hi (lv_at hl j hk) (K H locs ls hP hS hl)
theorem g_aload_n (h : CG E h0 N0 X cc own rm nL) {q : Fin 4} {i : Nat} {x : Nat} (j : Nat) (hd : decode cc pc = .ok (.aload_n q, 1)) (hi : (q : Nat) = i) (hk : lv[j]? = some (i, .ref x)) (K : GL E h0 N0 X (pc + 1) lv (.ref x :: rest) kc sc G) : GL E h0 N0 X pc lv rest kc sc G := by
  obtain ⟨p, e, R, s, m, args, below, meth, c, A, nL', k0, n0, Q⟩ := X
  obtain ⟨hx, hb, hml, rfl, hown, hts, hK, hlk, hr, hrm, rfl, hs, hini, hAO⟩ := h
  intro H locs ls hP hS hl
  exact lv_aload_n hx hb hd hi (lv_at hl j hk) (K H locs ls hP hS hl)
theorem g_istore_n (h : CG E h0 N0 X cc own rm nL) {q : Fin 4} {i : Nat} {x : Int32} (lv2 : List (Nat × Value)) (hd : decode cc pc = .ok (.istore_n q, 1)) (hi : (q : Nat) = i) (hn : i < nL) (hl2 : (i, Value.int x) :: lv.filter (fun q => !(q.1 == i) && !(q.1 + 1 == i && q.2.category == 2)) = lv2) (K : GL E h0 N0 X (pc + 1) lv2 rest kc sc G) : GL E h0 N0 X pc lv (.int x :: rest) kc sc G := by
  obtain ⟨p, e, R, s, m, args, below, meth, c, A, nL', k0, n0, Q⟩ := X
  obtain ⟨hx, hb, hml, rfl, hown, hts, hK, hlk, hr, hrm, rfl, hs, hini, hAO⟩ := h
  intro H locs ls hP hS hl
  exact lv_istore_n hx hb hd hi hl hn hl2 (fun ls hl => K H locs ls hP hS hl)
theorem g_iinc (h : CG E h0 N0 X cc own rm nL) {i : Nat} {d a : Int} (j : Nat) (lv2 : List (Nat × Value)) (hd : decode cc pc = .ok (.iinc i d, 3)) (hk : lv[j]? = some (i, .int (iI a))) (hn : i < nL) (hl2 : (i, Value.int (iI (a + d))) :: lv.filter (fun q => !(q.1 == i) && !(q.1 + 1 == i && q.2.category == 2)) = lv2) (K : GL E h0 N0 X (pc + 3) lv2 rest kc sc G) : GL E h0 N0 X pc lv rest kc sc G := by
  obtain ⟨p, e, R, s, m, args, below, meth, c, A, nL', k0, n0, Q⟩ := X
  obtain ⟨hx, hb, hml, rfl, hown, hts, hK, hlk, hr, hrm, rfl, hs, hini, hAO⟩ := h
  intro H locs ls hP hS hl
  exact lv_iinc (v := iI (a + d)) hx hb hd hl hk (iI_add a d) hn hl2 (fun ls hl => K H locs ls hP hS hl)
theorem g_dup (h : CG E h0 N0 X cc own rm nL) {v : Value} (hd : decode cc pc = .ok (.dup, 1)) (hc : v.category = 1) (K : GL E h0 N0 X (pc + 1) lv (v :: v :: rest) kc sc G) : GL E h0 N0 X pc lv (v :: rest) kc sc G := by
  obtain ⟨p, e, R, s, m, args, below, meth, c, A, nL', k0, n0, Q⟩ := X
  obtain ⟨hx, hb, hml, rfl, hown, hts, hK, hlk, hr, hrm, rfl, hs, hini, hAO⟩ := h
  intro H locs ls hP hS hl
  exact lv_dup hx hb hd hc (K H locs ls hP hS hl)
theorem g_goto (h : CG E h0 N0 X cc own rm nL) {off : Int} (tgt : Nat) (hd : decode cc pc = .ok (.goto off, 3)) (ht : (pc : Int) + off = (tgt : Int)) (K : GL E h0 N0 X tgt lv rest kc sc G) : GL E h0 N0 X pc lv rest kc sc G := by
  obtain ⟨p, e, R, s, m, args, below, meth, c, A, nL', k0, n0, Q⟩ := X
  obtain ⟨hx, hb, hml, rfl, hown, hts, hK, hlk, hr, hrm, rfl, hs, hini, hAO⟩ := h
  intro H locs ls hP hS hl
  exact lv_goto hx hb hd ht (K H locs ls hP hS hl)
theorem g_icmp_ge (h : CG E h0 N0 X cc own rm nL) {a b : Int} {off : Int} (tgt : Nat) (hd : decode cc pc = .ok (.if_icmp .ge off, 3)) (ht : (pc : Int) + off = (tgt : Int)) (ha : okI a) (hb2 : okI b) (kt : b ≤ a → GL E h0 N0 X tgt lv rest kc sc G) (kf : a < b → GL E h0 N0 X (pc + 3) lv rest kc sc G) : GL E h0 N0 X pc lv (.int (iI b) :: .int (iI a) :: rest) kc sc G := by
  obtain ⟨p, e, R, s, m, args, below, meth, c, A, nL', k0, n0, Q⟩ := X
  obtain ⟨hx, hb, hml, rfl, hown, hts, hK, hlk, hr, hrm, rfl, hs, hini, hAO⟩ := h
  intro H locs ls hP hS hl
  exact lv_icmp_ge hx hb hd ht (fun c => kt ((iI_le hb2 ha).mp c) H locs ls hP hS hl) (fun c => kf (Int.not_le.mp fun q => c ((iI_le hb2 ha).mpr q)) H locs ls hP hS hl)
theorem g_max (h : CG E h0 N0 X cc own rm nL) {a b : Int} (ha : okI a) (hb2 : okI b) {index : Nat} (hli : Cond.methodLink own index yJ9_max_7cf53 ∈ AW) (hroom : 1 ≤ rm.frames ∧ 21 ≤ rm.locals) (hcat : (rest.map fun v => v.category).sum ≤ 8) (hkc : kc ≤ rm.cells) (hsc : sc ≤ rm.slots) (hd : decode cc pc = .ok (.invokestatic index, 3)) (K : GL E h0 N0 X (pc + 3) lv (.int (iI (mxI a b)) :: rest) kc sc G) : GL E h0 N0 X pc lv (.int (iI b) :: .int (iI a) :: rest) kc sc G := by
  obtain ⟨p, e, R, s, m, args, below, meth, c, A, nL', k0, n0, Q⟩ := X
  obtain ⟨hx, hb, hml, rfl, hown, hts, hK, hlk, hr, hrm, rfl, hs, hini, hAO⟩ := h
  intro H locs ls hP hS hl
  subst hrm
  refine va_mmax hx hb (by rw [hml, hl.1]) hown (hts _ hli) (hts _ m_J9_max_7cf53.1) (hts _ m_J9_max_7cf53.2.1) (max_code ▸ hts _ m_J9_max_7cf53.2.2.1) hroom.1 (by have := hroom.2; omega) hkc hsc hd ?_
  have e2 : (if iI a < iI b then iI b else iI a) = iI (mxI a b) := by
    unfold mxI
    by_cases q : a < b
    · rw [if_pos q, if_pos ((iI_lt ha hb2).mpr q)]
    · rw [if_neg q, if_neg (fun z => q ((iI_lt ha hb2).mp z))]
  rw [e2]
  exact K H locs ls hP hS hl
theorem g_obj (h : CG E h0 N0 X cc own rm nL) {index a : Nat} (hli : Cond.methodLink own index objectInit ∈ AW) (hroom : 1 ≤ rm.frames ∧ 12 ≤ rm.locals) (hd : decode cc pc = .ok (.invokespecial index, 3)) (K : GL E h0 N0 X (pc + 3) lv [] kc sc G) : GL E h0 N0 X pc lv ([.ref a]) kc sc G := by
  obtain ⟨p, e, R, s, m, args, below, meth, c, A, nL', k0, n0, Q⟩ := X
  obtain ⟨hx, hb, hml, rfl, hown, hts, hK, hlk, hr, hrm, rfl, hs, hini, hAO⟩ := h
  intro H locs ls hP hS hl
  subst hrm
  exact W.objInit hx hb hown (hts _ hli) (hts _ a_i_object) (hts _ a_c_object) (g := F0 m pc ls [.ref a]) rfl (by rw [hml]; exact hl.1) rfl hd hroom.1 (by show 2 * 0 + (([] : List Value).map fun v => v.category).sum + 12 ≤ R.locals; have := hroom.2; simpa using this) (K H locs ls hP hS hl)
theorem g_new (h : CG E h0 N0 X cc own rm nL) {C : String} {Tf : u_T} {nf ci index : Nat} (ty : Nat → FieldType) (hty : ∀ k, k < nf → parseFieldDescriptor (Tf k).2.2.1 = some (ty k)) (hinw : ∀ w ∈ u_ws C Tf nf, w ∈ AW) (hcl : Cond.classLink own index C ∈ AW) (hmk : Cond.instantiable C nf ∈ AW) (hnw : Cond.initialized C ∈ AW) (hc : vwCl[ci]? = some (C, Tf, nf)) (fs : List Value) (hfs : ∀ j, j < nf → defaultValue (ty j) = vp_V fs j) (hkc : kc + 1 ≤ rm.cells) (hsc : sc + nf ≤ rm.slots) (hd : decode cc pc = .ok (.new index, 3)) (K : GL E h0 N0 X (pc + 3) lv (.ref (h0 + (N0 + kc)) :: rest) (kc + 1) (sc + nf) (va_up G (N0 + kc) (.inr (ci, fs)))) : GL E h0 N0 X pc lv rest kc sc G := by
  obtain ⟨p, e, R, s, m, args, below, meth, c, A, nL', k0, n0, Q⟩ := X
  obtain ⟨hx, hb, hml, rfl, hown, hts, hK, hlk, hr, hrm, rfl, hs, hini, hAO⟩ := h
  intro H locs ls hP hS hl
  subst hrm
  intro T hT Y
  have hz := gsz Y hT hs hS hP
  have hKn := hK.1 ci _ hc
  refine W.newcK hx hb hown (hts _ hcl) (hts _ hmk) (hts _ hnw) (g := F0 m pc ls rest) rfl hd hkc hsc hKn.2.1 hz (fun H1 kC hkC e1 z1 o1 => ?_) T hT Y
  refine K H1 locs ls ?_ ⟨by have := hS.1; omega, fun x h1 h2 => (o1 x (by have := hS.1; omega)).trans (hS.2.1 x h1 h2), hS.2.2⟩ hl
  rw [← Nat.add_assoc N0 kc 1, ← wn_push]
  refine (hP.kept (fun k x hx2 => o1 x.1 (by rw [← hz]; exact (hP k x hx2).lt))).app (fun k x hx2 => ?_)
  have hk1 : k < 1 := (List.getElem?_eq_some_iff.mp hx2).1
  rw [show k = 0 by omega] at hx2
  cases hx2
  exact ⟨_, hc, (u_born ty hts hinw hKn hkC e1 hty).to hfs⟩
theorem g_newI (h : CG E h0 N0 X cc own rm nL) {z : Int} (h0z : 0 ≤ z) (hzb : z < 100000) (hkc : kc + 1 ≤ rm.cells) (hsc : sc + z.toNat ≤ rm.slots) (hd : decode cc pc = .ok (.newarray .int, 2)) (K : GL E h0 N0 X (pc + 2) lv (.ref (h0 + (N0 + kc)) :: rest) (kc + 1) (sc + z.toNat) (va_up G (N0 + kc) (.inl (eI E, z.toNat, .inl (fun _ => 0))))) : GL E h0 N0 X pc lv (.int (iI z) :: rest) kc sc G := by
  obtain ⟨p, e, R, s, m, args, below, meth, c, A, nL', k0, n0, Q⟩ := X
  obtain ⟨hx, hb, hml, rfl, hown, hts, hK, hlk, hr, hrm, rfl, hs, hini, hAO⟩ := h
  intro H locs ls hP hS hl
  subst hrm
  intro T hT Y
  have hz := gsz Y hT hs hS hP
  refine va_newaK hx hb (atype := .int) (hts _ a_y_int) (g := F0 m pc ls (.int (iI z) :: rest)) rfl hd rfl (fun w => by have w2 := (iI_lt (a := z) (b := 0) ⟨by omega, by omega⟩ ⟨by decide, by decide⟩).mp w; omega) (iI_clamp h0z (by omega)) (by show z.toNat * 4 ≤ _; omega) hkc hsc hz (fun H1 cA e1 z1 o1 hAr hNm => ?_) T hT Y
  have hcA : cA = eI E := Option.some.inj (hNm.symm.trans (hK.2 0 _ rfl).2)
  subst hcA
  refine K H1 locs ls ?_ ⟨by have := hS.1; omega, fun x h1 h2 => (o1 x (by have := hS.1; omega)).trans (hS.2.1 x h1 h2), hS.2.2⟩ hl
  rw [← Nat.add_assoc N0 kc 1, ← wn_push]
  refine (hP.kept (fun k x hx2 => o1 x.1 (by rw [← hz]; exact (hP k x hx2).lt))).app (fun k x hx2 => ?_)
  have hk1 : k < 1 := (List.getElem?_eq_some_iff.mp hx2).1
  rw [show k = 0 by omega] at hx2
  cases hx2
  exact e1
theorem g_newA (h : CG E h0 N0 X cc own rm nL) {C : String} {index : Nat} (t0 : Nat) {cA0 : ClassId} (hsel : ∀ U, va_AO RX2 U ∧ va_AO RX0 U → va_AO C U) (ht : (tysE E)[t0]? = some (cA0, .object C)) (hcl : Cond.classLink own index C ∈ AW) {z : Int} (h0z : 0 ≤ z) (hzb : z < 100000) (hkc : kc + 1 ≤ rm.cells) (hsc : sc + z.toNat ≤ rm.slots) (hd : decode cc pc = .ok (.anewarray index, 3)) (K : GL E h0 N0 X (pc + 3) lv (.ref (h0 + (N0 + kc)) :: rest) (kc + 1) (sc + z.toNat) (va_up G (N0 + kc) (.inl (cA0, z.toNat, .inr (.inr (.inr (.inr (fun _ => none)))))))) : GL E h0 N0 X pc lv (.int (iI z) :: rest) kc sc G := by
  obtain ⟨p, e, R, s, m, args, below, meth, c, A, nL', k0, n0, Q⟩ := X
  obtain ⟨hx, hb, hml, rfl, hown, hts, hK, hlk, hr, hrm, rfl, hs, hini, hAO⟩ := h
  intro H locs ls hP hS hl
  subst hrm
  intro T hT Y
  have hz := gsz Y hT hs hS hP
  have hcl2 : (iI z).toNatClampNeg = z.toNat := iI_clamp h0z (by omega)
  refine W.anew hx hb hown (hts _ hcl) (va_AO.use (hsel s hAO)) (g := F0 m pc ls (.int (iI z) :: rest)) rfl hd rfl (fun w => by have w2 := (iI_lt (a := z) (b := 0) ⟨by omega, by omega⟩ ⟨by decide, by decide⟩).mp w; omega) (by rw [hcl2]; omega) hkc (by rw [hcl2]; exact hsc) (fun cA kA comp f1 f2 f3 f4 => ?_) T hT Y
  obtain ⟨-, -, -, -, -, hRA⟩ := (hK.2 t0 _ ht).2
  have hcA : cA = cA0 := Option.some.inj (f1.symm.trans hRA)
  subst hcA
  rw [hcl2, hz]
  generalize hH1 : H.push ({ cls := cA, slots := Array.replicate z.toNat .null, vm := .none } : Cell) = H1
  have z1 : H1.size = H.size + 1 := by rw [← hH1, Array.size_push]
  have o1 : ∀ q : Nat, q < H.size → H1[q]? = H[q]? := fun q hq => by rw [← hH1, Array.getElem?_push, if_neg (Nat.ne_of_lt hq)]
  have e1 : H1[h0 + (N0 + kc)]? = some (vp_cell cA (z.toNat, .inr (.inr (.inr (.inr (fun _ => none)))))) := by
    rw [vp_cell_q, ← hz, ← hH1, Array.getElem?_push_size]
    exact congrArg some (arrV_new _ _ _)
  refine K H1 locs ls ?_ ⟨by have := hS.1; omega, fun x h1 h2 => (o1 x (by have := hS.1; omega)).trans (hS.2.1 x h1 h2), hS.2.2⟩ hl
  rw [← Nat.add_assoc N0 kc 1, ← wn_push]
  refine (hP.kept (fun k x hx2 => o1 x.1 ((hP k x hx2).lt))).app (fun k x hx2 => ?_)
  have hk1 : k < 1 := (List.getElem?_eq_some_iff.mp hx2).1
  rw [show k = 0 by omega] at hx2
  cases hx2
  exact e1
theorem g_put (h : CG E h0 N0 X cc own rm nL) {C : String} {Tf : u_T} {nf ci index i : Nat} (fs : List Value) {v : Value} (f : Nat) (hinw : ∀ w ∈ u_ws C Tf nf, w ∈ AW) (ty0 : Nat → FieldType) (hty : ∀ k, k < nf → parseFieldDescriptor (Tf k).2.2.1 = some (ty0 k)) (hnm : ∀ a, a < nf → ∀ b, b < nf → a ≠ b → (Tf a).2.1 ≠ (Tf b).2.1) (hc : vwCl[ci]? = some (C, Tf, nf)) (hf : f < nf) (hw : Cond.fieldLink own index (Tf f).1 (Tf f).2.1 (Tf f).2.2.1 ∈ AW) (hdecl : (Tf f).1 = own) (hfin : (Tf f).2.2.2 = true) (hn : narrow (ty0 f) v = v) (hfit : fits (ty0 f) v = true) (hi : i < N0 + kc) (hg : G i = .inr (ci, fs)) (hfl : f < fs.length) (hd : decode cc pc = .ok (.putfield index, 3)) (K : GL E h0 N0 X (pc + 3) lv rest kc sc (va_up G i (.inr (ci, fs.set f v)))) : GL E h0 N0 X pc lv (v :: .ref (h0 + i) :: rest) kc sc G := by
  obtain ⟨p, e, R, s, m, args, below, meth, c, A, nL', k0, n0, Q⟩ := X
  obtain ⟨hx, hb, hml, rfl, hown, hts, hK, hlk, hr, hrm, rfl, hs, hini, hAO⟩ := h
  intro H locs ls hP hS hl
  refine va_putF hx hb hts hinw ty0 hty hnm hown hK hP wn_D hS i (wn_get' hi hg) hc f hf (hts _ hw) (fun x q => q) hfin hini hdecl (hty f hf) hn hfit hfl hd (fun H1 locs1 hP1 hD1 hS1 => ?_)
  rw [wn_set hi] at hP1
  exact K H1 locs1 ls hP1 hS1 hl
theorem g_get (h : CG E h0 N0 X cc own rm nL) {C : String} {Tf : u_T} {nf ci index i : Nat} {fs : List Value} {v : Value} (f : Nat) (hinw : ∀ w ∈ u_ws C Tf nf, w ∈ AW) (hc : vwCl[ci]? = some (C, Tf, nf)) (hf : f < nf) (hw : Cond.fieldLink own index (Tf f).1 (Tf f).2.1 (Tf f).2.2.1 ∈ AW) (hi : i < N0 + kc) (hg : G i = .inr (ci, fs)) (hv : fs[f]? = some v) (hd : decode cc pc = .ok (.getfield index, 3)) (K : GL E h0 N0 X (pc + 3) lv (v :: rest) kc sc G) : GL E h0 N0 X pc lv (.ref (h0 + i) :: rest) kc sc G := by
  obtain ⟨p, e, R, s, m, args, below, meth, c, A, nL', k0, n0, Q⟩ := X
  obtain ⟨hx, hb, hml, rfl, hown, hts, hK, hlk, hr, hrm, rfl, hs, hini, hAO⟩ := h
  intro H locs ls hP hS hl
  exact va_get hx hb hts hinw hown hK hP i (wn_get' hi hg) hc f hf (hts _ hw) (fun x q => q) hv hd (K H locs ls hP hS hl)
theorem g_ast (h : CG E h0 N0 X cc own rm nL) {i j : Nat} {z : Int} (t0 ci : Nat) {cA : ClassId} {q : vw_C} {len : Nat} {f : Nat → Option Nat} {vs : List Value} (hz : 0 ≤ z ∧ z < len) (hlen : len < 100000) (ht : (tysE E)[t0]? = some (cA, .object q.1)) (hc : vwCl[ci]? = some q) (hi : i < N0 + kc) (hg : G i = .inl (cA, len, .inr (.inr (.inr (.inr f))))) (hj : j < N0 + kc) (hgj : G j = .inr (ci, vs)) (hd : decode cc pc = .ok (.aastore, 1)) (K : GL E h0 N0 X (pc + 1) lv rest kc sc (va_up G i (.inl (cA, len, .inr (.inr (.inr (.inr (va_up f z.toNat (some (h0 + j)))))))))) : GL E h0 N0 X pc lv (.ref (h0 + j) :: .int (iI z) :: .ref (h0 + i) :: rest) kc sc G := by
  obtain ⟨p, e, R, s, m, args, below, meth, c, A, nL', k0, n0, Q⟩ := X
  obtain ⟨hx, hb, hml, rfl, hown, hts, hK, hlk, hr, hrm, rfl, hs, hini, hAO⟩ := h
  intro H locs ls hP hS hl
  refine va_astq hx hb hK hP wn_D hS i t0 j ci (wn_get' hi hg) ht (wn_get' hj hgj) hc (iI_in hz.1 hz.2 (by omega)) hd (fun H1 locs1 hP1 hD1 hS1 => ?_)
  rw [wn_set hi, iI_clamp hz.1 (by omega)] at hP1
  exact K H1 locs1 ls hP1 hS1 hl
theorem g_call (h : CG E h0 N0 X cc own rm nL) {index maxL nn i : Nat} {y : MethodName} {bytes : ByteArray} {rmc : Room} {As : List Value} {kc2 sc2 : Nat} {G2 : GH} (hM : CtG E h0 y (Cond.code y bytes maxL none :: AW) rmc (.ref (h0 + i) :: As) (N0 + kc) G kc2 sc2 G2) (mw : MWi y bytes maxL nn) (hli : Cond.methodLink own index y ∈ AW) (hrc : rmc.cells = kc2) (hrs : rmc.slots = sc2) (hroom : rmc.frames + 1 ≤ rm.frames ∧ 8 + (maxL + 11) + rmc.locals ≤ rm.locals) (hlen : As.length = nn) (hst : st = As.reverse ++ .ref (h0 + i) :: rest) (hcat : (rest.map fun v => v.category).sum ≤ 8) (hkc : kc + kc2 ≤ rm.cells) (hsc : sc + sc2 ≤ rm.slots) (hd : decode cc pc = .ok (.invokespecial index, 3)) (K : GL E h0 N0 X (pc + 3) lv rest (kc + kc2) (sc + sc2) G2) : GL E h0 N0 X pc lv st kc sc G := by
  obtain ⟨p, e, R, s, m, args, below, meth, c, A, nL', k0, n0, Q⟩ := X
  obtain ⟨hx, hb, hml, rfl, hown, hts, hK, hlk, hr, hrm, rfl, hs, hini, hAO⟩ := h
  intro H locs ls hP hS hl
  subst hst
  subst hrm
  intro T hT Y
  have hz := gsz Y hT hs hS hP
  have run := va_runI (p := p) (l := E.1) (e := e) (R := R) (s := s) (m := m) (args := args) (below := below) (meth := meth) (c := c) (H := H) (locs := locs) (cells := kc) (slots := sc) (As := As) (rest := rest) (b := h0 + i) (g := F0 m pc ls (As.reverse ++ .ref (h0 + i) :: rest)) ⟨hx, hb, hml, hown, hts⟩ hM (cwI nn hts (gi_aw (aw_cons mw.2.2.1)) rfl hrc hrs (hts _ mw.2.1) (hts _ hli) (hts _ mw.1) mw.2.2.2.1 mw.2.2.2.2 hroom)
    ⟨fun a U g mk q => ⟨q.1, q.2.1, q.2.2.1, va_K.moved (u := U) (U := U.calling g mk a) (Vm.Alike.refl U.vm) q.2.2.2.1, va_AO.moved (u := U) (U := U.calling g mk a) (Vm.Alike.refl U.vm) q.2.2.2.2.1, va_AO.moved (u := U) (U := U.calling g mk a) (Vm.Alike.refl U.vm) q.2.2.2.2.2⟩, fun U hU hW => ⟨rfl, by rw [hU]; exact hz, by rw [hU]; exact hP, va_K.moved hW.alike hK, va_AO.moved hW.alike hAO.1, va_AO.moved hW.alike hAO.2⟩⟩ rfl hlen hl.1 rfl (lv_room hcat) hd ⟨hkc, hsc⟩
  obtain ⟨v', st₀, t, T', L, e0, Y', hL, e1, e2, ⟨⟨hv, hz1, hP1⟩, hz2, hkeep⟩, stp⟩ := run T hT Y
  cases hv
  rw [e0] at hz2 hkeep
  rw [← e1] at hz2 hP1
  have hS' : va_S (fun q => h0 ≤ q) s.heap T'.heap (locs ++ L) := ⟨Nat.le_trans hS.1 hz2, fun q h1 h2 => by rw [e1, hkeep q (Nat.lt_of_lt_of_le h1 hS.1) h2]; exact hS.2.1 q h1 h2, fun q hq => by
    rcases List.mem_append.mp hq with h | h
    · exact hS.2.2 q h
    · exact hL q h⟩
  obtain ⟨t2, a1, b1⟩ := K T'.heap (locs ++ L) ls (by rw [← Nat.add_assoc]; exact hP1) hS' hl T' rfl Y'
  exact ⟨t2, stp t2 a1, b1⟩
theorem g_vret (h : CG E h0 N0 X cc own rm nL) (hq : FG E h0 N0 X kc sc G) (hd : decode cc pc = .ok (.return_, 1)) : GL E h0 N0 X pc lv [] kc sc G := by
  obtain ⟨p, e, R, s, m, args, below, meth, c, A, nL', k0, n0, Q⟩ := X
  obtain ⟨hx, hb, hml, rfl, hown, hts, hK, hlk, hr, hrm, rfl, hs, hini, hAO⟩ := h
  obtain ⟨Qc, free, rfl, hfr, hend⟩ := hq
  intro H locs ls hP hS hl T hT Y
  have hz := gsz Y hT hs hS hP
  exact W.vret hx hb hr (fun t ht hW => hend t (by rw [ht]; exact hz) (by rw [ht]; exact hP) (hS.F ht)) (fun q hq => hfr _ (hS.2.2 q hq)) hd hlk T hT Y
end GR
