/-! the law, from its start to its loop -/
theorem dL_law_0 : decode cL_law 0 = .ok (.new 7, 3) := by decide +kernel
theorem dL_law_3 : decode cL_law 3 = .ok (.dup, 1) := by decide +kernel
theorem dL_law_4 : decode cL_law 4 = .ok (.invokespecial 9, 3) := by decide +kernel
theorem dL_law_7 : decode cL_law 7 = .ok (.astore_n 1, 1) := by decide +kernel
theorem dL_law_8 : decode cL_law 8 = .ok (.new 10, 3) := by decide +kernel
theorem dL_law_11 : decode cL_law 11 = .ok (.dup, 1) := by decide +kernel
theorem dL_law_12 : decode cL_law 12 = .ok (.invokespecial 12, 3) := by decide +kernel
theorem dL_law_15 : decode cL_law 15 = .ok (.astore_n 2, 1) := by decide +kernel
theorem dL_law_16 : decode cL_law 16 = .ok (.iconst 0, 1) := by decide +kernel
theorem dL_law_17 : decode cL_law 17 = .ok (.istore_n 3, 1) := by decide +kernel
theorem dL_law_18 : decode cL_law 18 = .ok (.iload_n 3, 1) := by decide +kernel
theorem dL_law_19 : decode cL_law 19 = .ok (.aload_n 0, 1) := by decide +kernel
theorem dL_law_20 : decode cL_law 20 = .ok (.arraylength, 1) := by decide +kernel
theorem dL_law_21 : decode cL_law 21 = .ok (.bipush 6, 2) := by decide +kernel
theorem dL_law_23 : decode cL_law 23 = .ok (.isub, 1) := by decide +kernel
theorem dL_law_24 : decode cL_law 24 = .ok (.if_icmp .gt 2061, 3) := by decide +kernel
theorem dL_law_27 : decode cL_law 27 = .ok (.aload_n 0, 1) := by decide +kernel
theorem dL_law_28 : decode cL_law 28 = .ok (.iload_n 3, 1) := by decide +kernel
theorem dL_law_29 : decode cL_law 29 = .ok (.iaload, 1) := by decide +kernel
theorem dL_law_30 : decode cL_law 30 = .ok (.bipush 63, 2) := by decide +kernel
theorem dL_law_32 : decode cL_law 32 = .ok (.iand, 1) := by decide +kernel
theorem dL_law_33 : decode cL_law 33 = .ok (.tableswitch 2046 0 49 #[215, 238, 271, 344, 377, 410, 453, 506, 549, 582, 645, 668, 691, 714, 747, 770, 803, 846, 879, 922, 955, 998, 1031, 1074, 1107, 1140, 1183, 1216, 1279, 1342, 1375, 1408, 1441, 1474, 1527, 1580, 1613, 1646, 1689, 1722, 1765, 1778, 1811, 1844, 1877, 1910, 1943, 1986, 2009, 2032], 215) := by decide +kernel
theorem dL_law_2079 : decode cL_law 2079 = .ok (.iinc 3 6, 3) := by decide +kernel
theorem dL_law_2082 : decode cL_law 2082 = .ok (.goto (-2064), 3) := by decide +kernel
theorem dL_law_2085 : decode cL_law 2085 = .ok (.iconst 1, 1) := by decide +kernel
theorem dL_law_2086 : decode cL_law 2086 = .ok (.ireturn, 1) := by decide +kernel
/-! what is carried beside the world, at the law's start -/
def eXs (q v : Nat) : (Nat → Prop) → State → Heap → Prop := fun A s H => (∀ w ∈ nwl, va_Nw w s) ∧ StrF q v A s H
theorem nwl_cases {P : Cond → Prop} (h1 : P (.fieldLinkNest "TextShelves" 191 "TextShelves$Image" "parts" "LTextShelves$Pieces;" "TextShelves")) (h2 : P (.methodLinkNest "TextShelves$Text" 61 yX3_asTold "TextShelves")) (h3 : P (.methodLinkNest "TextShelves$Text" 65 yX3_isLoose "TextShelves")) : ∀ w ∈ nwl, P w := by
  intro w hw
  unfold nwl at hw
  simp only [List.mem_cons, List.not_mem_nil, or_false] at hw
  rcases hw with rfl | rfl | rfl
  · exact h1
  · exact h2
  · exact h3
theorem EOK_s (l : Launch) (D : va_G) (h0 : Nat) (cs : ClassId × ClassId × ClassId) (q v : Nat) : EOK (l, D, fun i => h0 + off i, cs, eXs q v) := by
  refine ⟨fun i j hi hj h => off_inj i j hi hj (by have h2 : h0 + off i = h0 + off j := h; omega), ?_, ?_, ?_, ?_, fun A s H h => h.1⟩
  · intro A s U H h hW
    obtain ⟨h1, ⟨tx, h2⟩, h3, h4⟩ := h
    exact ⟨nwl_cases (va_Nw.warmF hW (h1 _ List.mem_cons_self)) (va_Nw.warmM hW (h1 _ (List.mem_cons_of_mem _ List.mem_cons_self))) (va_Nw.warmM hW (h1 _ (List.mem_cons_of_mem _ (List.mem_cons_of_mem _ List.mem_cons_self)))), ⟨tx, vk_R.warm hW h2⟩, vk_S.moved hW.alike h3, va_Z.moved hW.alike h4⟩
  · intro A u U H h hv
    obtain ⟨h1, ⟨tx, h2⟩, h3, h4⟩ := h
    have hal : u.vm.Alike U.vm := hv ▸ Vm.Alike.refl U.vm
    exact ⟨nwl_cases (va_Nw.same rfl hv (h1 _ List.mem_cons_self)) (va_Nw.same rfl hv (h1 _ (List.mem_cons_of_mem _ List.mem_cons_self))) (va_Nw.same rfl hv (h1 _ (List.mem_cons_of_mem _ (List.mem_cons_of_mem _ List.mem_cons_self)))), ⟨tx, vk_R.same hv.symm h2⟩, vk_S.moved hal h3, va_Z.moved hal h4⟩
  · intro A s H H1 h hk
    exact ⟨h.1, h.2.1, h.2.2.1.kept hk, h.2.2.2.kept hk⟩
  · intro A B s H h hAB
    exact ⟨h.1, h.2.1, h.2.2.1.narrow hAB, h.2.2.2.narrow hAB⟩
/-! the law makes both objects -/
def CB (E : EV) (h0 N0 : Nat) (X : TX) (cc : ByteArray) (own : String) (rm : Room) (nL : Nat) : Prop := match X with
  | (p, e, R, s, m, args, below, meth, c, A, nL', k, n, Q) => p.tables.exec = Jvm.exec ∧ c.code = cc ∧ c.maxLocals = nL ∧ nL' = nL ∧ s.vm.findClass own = some m.cls ∧ (∀ w ∈ AW, w.before args s = true) ∧ va_K E.2.1 vwCl (tysE E) s ∧ R = rm ∧ A = (fun q => h0 ≤ q) ∧ s.heap.size = h0 + N0 ∧ va_AO RX2 s ∧ va_AO RX0 s
section LG
variable {E : EV} {h0 N0 : Nat} {X : TX} {cc : ByteArray} {own : String} {rm : Room} {nL : Nat} {pc : Nat} {lv lv2 : List (Nat × Value)} {st rest : List Value} {kc sc : Nat} {G : GH}
theorem l_iconst (h : CB E h0 N0 X cc own rm nL) {z : Int} (hd : decode cc pc = .ok (.iconst z, 1)) (K : GL E h0 N0 X (pc + 1) lv (.int (iI z) :: rest) kc sc G) : GL E h0 N0 X pc lv rest kc sc G := by
  obtain ⟨p, e, R, s, m, args, below, meth, c, A, nL', k0, n0, Q⟩ := X
  obtain ⟨hx, hb, hml, rfl, hown, hts, hK, hrm, rfl, hs, hAO⟩ := h
  intro H locs ls hP hS hl
  exact lv_iconst hx hb hd rfl (K H locs ls hP hS hl)
theorem l_istore_n (h : CB E h0 N0 X cc own rm nL) {q : Fin 4} {i : Nat} {x : Int32} (lv2 : List (Nat × Value)) (hd : decode cc pc = .ok (.istore_n q, 1)) (hi : (q : Nat) = i) (hn : i < nL) (hl2 : (i, Value.int x) :: lv.filter (fun q => !(q.1 == i) && !(q.1 + 1 == i && q.2.category == 2)) = lv2) (K : GL E h0 N0 X (pc + 1) lv2 rest kc sc G) : GL E h0 N0 X pc lv (.int x :: rest) kc sc G := by
  obtain ⟨p, e, R, s, m, args, below, meth, c, A, nL', k0, n0, Q⟩ := X
  obtain ⟨hx, hb, hml, rfl, hown, hts, hK, hrm, rfl, hs, hAO⟩ := h
  intro H locs ls hP hS hl
  exact lv_istore_n hx hb hd hi hl hn hl2 (fun ls hl => K H locs ls hP hS hl)
theorem l_dup (h : CB E h0 N0 X cc own rm nL) {v : Value} (hd : decode cc pc = .ok (.dup, 1)) (hc : v.category = 1) (K : GL E h0 N0 X (pc + 1) lv (v :: v :: rest) kc sc G) : GL E h0 N0 X pc lv (v :: rest) kc sc G := by
  obtain ⟨p, e, R, s, m, args, below, meth, c, A, nL', k0, n0, Q⟩ := X
  obtain ⟨hx, hb, hml, rfl, hown, hts, hK, hrm, rfl, hs, hAO⟩ := h
  intro H locs ls hP hS hl
  exact lv_dup hx hb hd hc (K H locs ls hP hS hl)
theorem l_new (h : CB E h0 N0 X cc own rm nL) {C : String} {Tf : u_T} {nf ci index : Nat} (ty : Nat → FieldType) (hty : ∀ k, k < nf → parseFieldDescriptor (Tf k).2.2.1 = some (ty k)) (hinw : ∀ w ∈ u_ws C Tf nf, w ∈ AW) (hcl : Cond.classLink own index C ∈ AW) (hmk : Cond.instantiable C nf ∈ AW) (hnw : Cond.initialized C ∈ AW) (hc : vwCl[ci]? = some (C, Tf, nf)) (fs : List Value) (hfs : ∀ j, j < nf → defaultValue (ty j) = vp_V fs j) (hkc : kc + 1 ≤ rm.cells) (hsc : sc + nf ≤ rm.slots) (hd : decode cc pc = .ok (.new index, 3)) (K : GL E h0 N0 X (pc + 3) lv (.ref (h0 + (N0 + kc)) :: rest) (kc + 1) (sc + nf) (va_up G (N0 + kc) (.inr (ci, fs)))) : GL E h0 N0 X pc lv rest kc sc G := by
  obtain ⟨p, e, R, s, m, args, below, meth, c, A, nL', k0, n0, Q⟩ := X
  obtain ⟨hx, hb, hml, rfl, hown, hts, hK, hrm, rfl, hs, hAO⟩ := h
  intro H locs ls hP hS hl
  subst hrm
  intro T hT Y
  have hz := gsz Y hT hs hS hP
  have hKn := hK.1 ci _ hc
  refine W.newcK hx hb hown (hts _ hcl) (hts _ hmk) (hts _ hnw) (g := F0 m pc ls rest) rfl hd hkc hsc hKn.2.1 hz (fun H1 kC hkC e1 z1 o1 => ?_) T hT Y
  refine K H1 locs ls ?_ ⟨by have := hS.1; omega, fun x h1 h2 => (o1 x (by have := hS.1; omega)).trans (hS.2.1 x h1 h2), hS.2.2⟩ hl
  rw [← Nat.add_assoc N0 kc 1, ← wn_push]
  refine (hP.kept (fun k x hx2 => o1 x.1 (by rw [← hz]; exact (hP k x hx2).lt))).app (fun k x hx2 => ?_)
  have hk1 : k < 1 := (List.getElem?_eq_some_iff.mp hx2).1
  rw [show k = 0 by omega] at hx2
  cases hx2
  exact ⟨_, hc, (u_born ty hts hinw hKn hkC e1 hty).to hfs⟩
theorem l_call (h : CB E h0 N0 X cc own rm nL) {index maxL nn i : Nat} {y : MethodName} {bytes : ByteArray} {rmc : Room} {As : List Value} {kc2 sc2 : Nat} {G2 : GH} (hM : CtG E h0 y (Cond.code y bytes maxL none :: AW) rmc (.ref (h0 + i) :: As) (N0 + kc) G kc2 sc2 G2) (mw : MWi y bytes maxL nn) (hli : Cond.methodLink own index y ∈ AW) (hrc : rmc.cells = kc2) (hrs : rmc.slots = sc2) (hroom : rmc.frames + 1 ≤ rm.frames ∧ 8 + (maxL + 11) + rmc.locals ≤ rm.locals) (hlen : As.length = nn) (hst : st = As.reverse ++ .ref (h0 + i) :: rest) (hcat : (rest.map fun v => v.category).sum ≤ 8) (hkc : kc + kc2 ≤ rm.cells) (hsc : sc + sc2 ≤ rm.slots) (hd : decode cc pc = .ok (.invokespecial index, 3)) (K : GL E h0 N0 X (pc + 3) lv rest (kc + kc2) (sc + sc2) G2) : GL E h0 N0 X pc lv st kc sc G := by
  obtain ⟨p, e, R, s, m, args, below, meth, c, A, nL', k0, n0, Q⟩ := X
  obtain ⟨hx, hb, hml, rfl, hown, hts, hK, hrm, rfl, hs, hAO⟩ := h
  intro H locs ls hP hS hl
  subst hst
  subst hrm
  intro T hT Y
  have hz := gsz Y hT hs hS hP
  have run := va_runI (p := p) (l := E.1) (e := e) (R := R) (s := s) (m := m) (args := args) (below := below) (meth := meth) (c := c) (H := H) (locs := locs) (cells := kc) (slots := sc) (As := As) (rest := rest) (b := h0 + i) (g := F0 m pc ls (As.reverse ++ .ref (h0 + i) :: rest)) ⟨hx, hb, hml, hown, hts⟩ hM (cwI nn hts (gi_aw (aw_cons mw.2.2.1)) rfl hrc hrs (hts _ mw.2.1) (hts _ hli) (hts _ mw.1) mw.2.2.2.1 mw.2.2.2.2 hroom)
    ⟨fun a U g mk q => ⟨q.1, q.2.1, q.2.2.1, va_K.moved (u := U) (U := U.calling g mk a) (Vm.Alike.refl U.vm) q.2.2.2.1, va_AO.moved (u := U) (U := U.calling g mk a) (Vm.Alike.refl U.vm) q.2.2.2.2.1, va_AO.moved (u := U) (U := U.calling g mk a) (Vm.Alike.refl U.vm) q.2.2.2.2.2⟩, fun U hU hW => ⟨rfl, by rw [hU]; exact hz, by rw [hU]; exact hP, va_K.moved hW.alike hK, va_AO.moved hW.alike hAO.1, va_AO.moved hW.alike hAO.2⟩⟩ rfl hlen hl.1 rfl (lv_room hcat) hd ⟨hkc, hsc⟩
  obtain ⟨v', st₀, t, T', L, e0, Y', hL, e1, e2, ⟨⟨hv, hz1, hP1⟩, hz2, hkeep⟩, stp⟩ := run T hT Y
  cases hv
  rw [e0] at hz2 hkeep
  rw [← e1] at hz2 hP1
  have hS' : va_S (fun q => h0 ≤ q) s.heap T'.heap (locs ++ L) := ⟨Nat.le_trans hS.1 hz2, fun q h1 h2 => by rw [e1, hkeep q (Nat.lt_of_lt_of_le h1 hS.1) h2]; exact hS.2.1 q h1 h2, fun q hq => by
    rcases List.mem_append.mp hq with h | h
    · exact hS.2.2 q h
    · exact hL q h⟩
  obtain ⟨t2, a1, b1⟩ := K T'.heap (locs ++ L) ls (by rw [← Nat.add_assoc]; exact hP1) hS' hl T' rfl Y'
  exact ⟨t2, stp t2 a1, b1⟩
theorem l_astore_n (h : CB E h0 N0 X cc own rm nL) {q : Fin 4} {i : Nat} {x : Nat} (lv2 : List (Nat × Value)) (hd : decode cc pc = .ok (.astore_n q, 1)) (hi : (q : Nat) = i) (hn : i < nL) (hl2 : (i, Value.ref x) :: lv.filter (fun q => !(q.1 == i) && !(q.1 + 1 == i && q.2.category == 2)) = lv2) (K : GL E h0 N0 X (pc + 1) lv2 rest kc sc G) : GL E h0 N0 X pc lv (.ref x :: rest) kc sc G := by
  obtain ⟨p, e, R, s, m, args, below, meth, c, A, nL', k0, n0, Q⟩ := X
  obtain ⟨hx, hb, hml, rfl, hown, hts, hK, hrm, rfl, hs, hAO⟩ := h
  intro H locs ls hP hS hl
  exact lv_astore_n hx hb hd hi hl hn hl2 (fun ls hl => K H locs ls hP hS hl)
end LG
theorem g_toJ {E : EV} {h0 : Nat} {X : TX} {b L : Nat} {xs : Nat → Int32} {pc : Nat} {lv : List (Nat × Value)} {st : List Value} (hX : LX X b L xs) (had : ∀ i, E.2.2.1 i = h0 + off i) (K : JL E (LQP E) X pc lv st (A00, A00)) : GL E h0 0 X pc lv st 89 21159 (GFin E h0) := by
  obtain ⟨p, e, R, s, m, args, below, meth, c, A, nL, k, n, Q⟩ := X
  obtain ⟨-, -, -, -, -, -, -, rfl, rfl, -⟩ := hX
  intro H locs ls hP hS hl
  refine K (fun i => GFin E h0 (off i)) H locs ls (LQP_0 had) (fun i q hq => ?_) hS hl
  have hi : i < (wl E.2.2.1 (fun i => GFin E h0 (off i))).length := (List.getElem?_eq_some_iff.mp hq).1
  have hi2 : i < 89 := by simpa [wl] using hi
  have e1 := Option.some.inj (hq.symm.trans (wl_get hi2))
  rw [e1, had]
  exact hP (off i) _ (wn_get (by have := off_lt i hi2; omega))
