/-! THE CLAIM OUT OF ONE WALK OF THE LAW'S BODY. Your part is whole_start (and what it stands on); all else here is the same for every law, but numbers. -/
def R_law : String := "TextShelvesLaw"
def lw_P (b : Addr) (xs : List Int32) (args : Array Value) (s : State) : Prop := args = #[.ref b] ∧ s.IntsAt b xs ∧ xs.length ≤ 3072 ∧ (Jvm.Cond.and given_1 narrow_1).before args s = true
def lw_Q (_ : Array Value) (s : State) (o : Outcome) (t : State) : Prop := o = .returned (some (.int 1)) ∧ Framed s o t [] 600000 7302250
def lw_Z (below : List Frame) (a : Array Value) (s : State) : State → Prop := fun t => ∃ o, t.status = .running ∧ Ended t below o ∧ lw_Q a s o t
/-- the law's own end, with 1 on the stack, nothing written that was there before, its room as the claim has it -/
theorem lw_ret {p : Program} {l : Launch} {e : Env} {s : State} {m : MethodId} {below : List Frame} {meth : Method} {c : Code} {b : Nat} (hx : p.tables.exec = Jvm.exec) (hb : c.code = code) (hr : meth.sig.returnType = ret) (hlocks : meth.locks = false) {pc : Nat} {H : Heap} {ls : Array Slot} (hdg : decode code pc = .ok (.ireturn, 1)) : W p l e room_1 s m #[Value.ref b] below meth c H [] 600000 7302250 (lw_Z below #[Value.ref b] s) (F0 m pc ls [.int 1]) := by
  intro T hT X
  obtain ⟨fs, hret, hrun, hended, hW, hframe⟩ := X.leave (v := some (.int 1)) (hlocks := hlocks) (fun h => by rw [hr] at h; cases h)
  have hmeth' : T.vm.method? m = some meth := X.method'
  refine ⟨T.setFrames fs, ?_, .returned (some (.int 1)), hrun, hended, rfl, ⟨_, rfl⟩, hW, hframe⟩
  jvm_step X.here [X.here.top, hx, hb, hdg, hmeth', hr, ret, narrow_b1]
  (try refine ⟨rfl, ?_⟩); (try refine ⟨rfl, ?_⟩)
  first | (intro acts; rw [hret _ acts rfl rfl rfl]) | rw [hret _ _ rfl rfl rfl]
  exact Steps.refl _
/-- what holds at the law's entry: the machine, the code, the tables' words (any of lw_tbl by 'hts w (by decide +kernel)'), the script of L ints xs at the cell b, what the Statement gives of the start (any of its parts by flat_of_before) -/
def lw_At (p : Program) (s : State) (m : MethodId) (meth : Method) (c : Code) (b L : Nat) (xs : Nat → Int32) : Prop :=
  p.tables.exec = Jvm.exec ∧ c.code = code ∧ meth.sig.returnType = ret ∧ c.maxLocals = 4 ∧ s.vm.findClass R_law = some m.cls ∧ (∀ w ∈ lw_tbl, w.before #[Value.ref b] s = true) ∧ va_X b L xs s s.heap ∧ b < s.heap.size ∧ meth.locks = false ∧ (Jvm.Cond.and given_1 narrow_1).before #[Value.ref b] s = true
/-! class and reference side by side -/
theorem RP_self {E : EV} {g0 G : GH} {A : AS} (h : RP E g0 A G) : RP E G A G := by
  obtain ⟨S, ⟨h1, h2, h3, h4, h5, h6, h7, -⟩, hA⟩ := h
  exact ⟨S, ⟨h1, h2, h3, h4, h5, h6, h7, fun i _ => rfl⟩, hA⟩
theorem RP_ge {E : EV} {g0 G : GH} {A : AS} (h : RP E g0 A G) : ∀ i, 76 ≤ i → G i = g0 i := by
  obtain ⟨S, ⟨-, -, -, -, -, -, -, h8⟩, -⟩ := h
  exact h8
theorem RP_move {E : EV} {g0 G G2 : GH} {A : AS} (h : RP E g0 A G) (hk : ∀ i, i < 76 → G2 i = G i) : RP E G2 A G2 := by
  obtain ⟨S, ⟨h1, h2, h3, h4, h5, h6, h7, -⟩, hA⟩ := h
  refine ⟨S, ⟨fun t ht => ?_, fun p hp => ?_, fun i hi => ?_, fun i hi => ?_, h5, ?_, ?_, fun i _ => rfl⟩, hA⟩
  · obtain ⟨a, b, f, c, d⟩ := h1 t ht
    exact ⟨by rw [hk _ (by omega)]; exact a, b, f, by rw [hk _ (by omega)]; exact c, d⟩
  · obtain ⟨a, b, f, c, d⟩ := h2 p hp
    exact ⟨by rw [hk _ (by omega)]; exact a, b, f, by rw [hk _ (by omega)]; exact c, d⟩
  · rw [hk _ (by omega)]
    exact h3 i hi
  · rw [hk _ (by omega)]
    exact h4 i hi
  · rw [hk _ (by omega)]
    exact h6
  · rw [hk _ (by omega)]
    exact h7
theorem RMP_self {E : EV} {g0 G : GH} {A : AS} (h : RMP E g0 A G) : RMP E G A G := by
  obtain ⟨mk, h1, h2, h3, h4, h5, h6, -⟩ := h
  exact ⟨mk, h1, h2, h3, h4, h5, h6, fun i _ => rfl⟩
theorem RMP_lt {E : EV} {g0 G : GH} {A : AS} (h : RMP E g0 A G) : ∀ i, i < 76 → G i = g0 i := by
  obtain ⟨mk, h1, h2, h3, h4, h5, h6, h7⟩ := h
  exact h7
theorem RMP_move {E : EV} {g0 G G2 : GH} {A : AS} (h : RMP E g0 A G) (hk : ∀ i, 76 ≤ i → G2 i = G i) : RMP E G2 A G2 := by
  obtain ⟨mk, h1, h2, h3, h4, h5, h6, -⟩ := h
  exact ⟨mk, by rw [hk _ (by omega)]; exact h1, mX_c h2 (hk _ (by omega)) (hk _ (by omega)), mP_c h3 (hk _ (by omega)) (hk _ (by omega)) (hk _ (by omega)), mK_c h4 (fun i a b => hk i (by omega)), mM_c h5 (hk _ (by omega)), h6, fun i _ => rfl⟩
def LQP (E : EV) (Q : AS × AS) (G : GH) : Prop := RP E G Q.1 G ∧ RMP E G Q.2 G
theorem rcL3 {E : EV} {Q : AS × AS} : ∀ G, LQP E Q G → ∃ fs, G 74 = .inr (3, fs) := fun G h => by
  obtain ⟨⟨S, hR, -⟩, -⟩ := h
  exact rcS G hR
theorem rcL4 {E : EV} {Q : AS × AS} : ∀ G, LQP E Q G → ∃ fs, G 76 = .inr (4, fs) := fun G h => by
  obtain ⟨-, mk, hR⟩ := h
  exact rcM G hR
/-- a call of the class, beside the reference -/
theorem ct_L {E : EV} {y : MethodName} {ws : List Cond} {rm : Room} {av : List Value} {A A' B : AS} {v : Option Value} (h : ∀ g0, Ct E (RP E g0) y ws rm av A v A') : Ct E (LQP E) y ws rm av (A, B) v (A', B) := by
  intro sz
  intro p e ha hc hk s m args below hf happ hP hK
  obtain ⟨h1, h2, ⟨G, hR, hP2⟩, h3⟩ := hP
  obtain ⟨n, o, a1, a2, a3, ⟨⟨⟨a4, G', a5, a6⟩, a7⟩, a8⟩⟩ := h G sz p e ha hc hk s m args below hf happ ⟨h1, h2, ⟨G, hR.1, hP2⟩, h3⟩ hK
  exact ⟨n, o, a1, a2, a3, ⟨⟨⟨a4, G', ⟨RP_self a5, RMP_move hR.2 (RP_ge a5)⟩, a6⟩, a7⟩, a8⟩⟩
/-- a call of the reference, beside the class -/
theorem ct_R {E : EV} {y : MethodName} {ws : List Cond} {rm : Room} {av : List Value} {A B B' : AS} {v : Option Value} (h : ∀ g0, Ct E (RMP E g0) y ws rm av B v B') : Ct E (LQP E) y ws rm av (A, B) v (A, B') := by
  intro sz
  intro p e ha hc hk s m args below hf happ hP hK
  obtain ⟨h1, h2, ⟨G, hR, hP2⟩, h3⟩ := hP
  obtain ⟨n, o, a1, a2, a3, ⟨⟨⟨a4, G', a5, a6⟩, a7⟩, a8⟩⟩ := h G sz p e ha hc hk s m args below hf happ ⟨h1, h2, ⟨G, hR.2, hP2⟩, h3⟩ hK
  exact ⟨n, o, a1, a2, a3, ⟨⟨⟨a4, G', ⟨RP_move hR.1 (RMP_lt a5), RMP_self a5⟩, a6⟩, a7⟩, a8⟩⟩
theorem LQP_0 {E : EV} {h0 : Nat} (had : ∀ i, E.2.2.1 i = h0 + off i) : LQP E (A00, A00) (fun i => GFin E h0 (off i)) := ⟨⟨S00, RC_0 had, AbS_0⟩, [], RM_0 had⟩
/-! the law's own rows -/
def LX (X : TX) (b L : Nat) (xs : Nat → Int32) : Prop := match X with
  | (p, e, R, s, m, args, below, meth, c, A, nL, k, n, Q) => va_X b L xs s s.heap ∧ b < s.heap.size ∧ ¬ A b ∧ R = room_1 ∧ args = #[Value.ref b] ∧ meth.sig.returnType = ret ∧ A = (fun q => s.heap.size ≤ q) ∧ k = 89 ∧ n = 21159 ∧ Q = lw_Z below #[Value.ref b] s
section LR
variable {τ : Type} {E : EV} {Rp : τ → GH → Prop} {X : TX} {cc : ByteArray} {own : String} {ret0 : Option FieldType} {rm : Room} {nL : Nat} {b L : Nat} {xs : Nat → Int32}
variable {pc : Nat} {lv lv' : List (Nat × Value)} {st rest : List Value} {S : τ}
theorem j_sld (h : CX E X cc own ret0 rm nL) (hX : LX X b L xs) (hL : L ≤ 3072) {z : Int} (h0 : 0 ≤ z) (h1 : z < L) (hd : decode cc pc = .ok (.iaload, 1)) (K : JL E Rp X (pc + 1) lv (.int (iI (xs z.toNat).toInt) :: rest) S) : JL E Rp X pc lv (.int (iI z) :: .ref b :: rest) S := by
  obtain ⟨p, e, R, s, m, args, below, meth, c, A, nL', kk0, nn0, Q⟩ := X
  obtain ⟨hx, hb, hml, rfl, hown, hts, hK, hlk, hr, hrm, hA, hAi, hE, hk0, hn0, hXX⟩ := h
  obtain ⟨x1, x2, x3, -⟩ := hX
  intro G H locs ls hR hP hS hl
  refine va_sld hx hb x1 x2 x3 hS (iI_in h0 h1 (by omega)) hd ?_
  have K2 := K G H locs ls hR hP hS hl
  rw [iI_of] at K2
  rw [iI_clamp h0 (by omega)]
  exact K2
theorem j_slen (h : CX E X cc own ret0 rm nL) (hX : LX X b L xs) (hd : decode cc pc = .ok (.arraylength, 1)) (K : JL E Rp X (pc + 1) lv (.int (iI L) :: rest) S) : JL E Rp X pc lv (.ref b :: rest) S := by
  obtain ⟨p, e, R, s, m, args, below, meth, c, A, nL', kk0, nn0, Q⟩ := X
  obtain ⟨hx, hb, hml, rfl, hown, hts, hK, hlk, hr, hrm, hA, hAi, hE, hk0, hn0, hXX⟩ := h
  obtain ⟨x1, x2, x3, -⟩ := hX
  intro G H locs ls hR hP hS hl
  refine va_slen hx hb x1 x2 x3 hS hd ?_
  rw [iI_nat]
  exact K G H locs ls hR hP hS hl
theorem j_swOut (h : CX E X cc own ret0 rm nL) {dflt lo hi : Int} {offs : Array Int} {len : Nat} {x : Int32} (tgt : Nat) (hd : decode cc pc = .ok (.tableswitch dflt lo hi offs, len)) (hc : x.toInt < lo ∨ hi < x.toInt) (ht : (pc : Int) + dflt = (tgt : Int)) (K : JL E Rp X tgt lv rest S) : JL E Rp X pc lv (.int x :: rest) S := by
  obtain ⟨p, e, R, s, m, args, below, meth, c, A, nL', kk0, nn0, Q⟩ := X
  obtain ⟨hx, hb, hml, rfl, hown, hts, hK, hlk, hr, hrm, hA, hAi, hE, hk0, hn0, hXX⟩ := h
  intro G H locs ls hR hP hS hl
  exact lv_tableOut hx hb hd hc ht (K G H locs ls hR hP hS hl)
theorem j_swIn (h : CX E X cc own ret0 rm nL) {dflt lo hi : Int} {offs : Array Int} {len : Nat} {x : Int32} {o : Int} (tgt : Nat) (hd : decode cc pc = .ok (.tableswitch dflt lo hi offs, len)) (h1 : ¬ x.toInt < lo) (h2 : ¬ hi < x.toInt) (ho : offs[(x.toInt - lo).toNat]? = some o) (ht : (pc : Int) + o = (tgt : Int)) (K : JL E Rp X tgt lv rest S) : JL E Rp X pc lv (.int x :: rest) S := by
  obtain ⟨p, e, R, s, m, args, below, meth, c, A, nL', kk0, nn0, Q⟩ := X
  obtain ⟨hx, hb, hml, rfl, hown, hts, hK, hlk, hr, hrm, hA, hAi, hE, hk0, hn0, hXX⟩ := h
  intro G H locs ls hR hP hS hl
  exact lv_tableIn hx hb hd h1 h2 ho ht (K G H locs ls hR hP hS hl)
/-- the law's end: true -/
theorem j_law1 (h : CX E X code own ret0 rm nL) (hX : LX X b L xs) (hd : decode code pc = .ok (.ireturn, 1)) : JL E Rp X pc lv [.int (iI 1)] S := by
  obtain ⟨p, e, R, s, m, args, below, meth, c, A, nL', kk0, nn0, Q⟩ := X
  obtain ⟨hx, hb, hml, rfl, hown, hts, hK, hlk, hr, hrm, hA, hAi, hE, hk0, hn0, hXX⟩ := h
  obtain ⟨-, -, -, rfl, rfl, hret, rfl, rfl, rfl, rfl⟩ := hX
  intro G H locs ls hR hP hS hl
  refine va_forget (fun q hq => hS.2.2 q hq) (W.widen (k := 600000) (n := 7302250) (by decide) (by decide) ?_)
  exact lw_ret hx hb hret hlk hd
end LR
