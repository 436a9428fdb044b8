/-! String.indexOf on the text by whose signs nothing is parted; the class parts a text -/
/-- the bytes of the text by whose signs nothing is parted -/
def pt12 : List Int32 := [46, 36, 124, 40, 41, 91, 123, 94, 63, 42, 43, 92]
/-- that text: its object q, its row of bytes v -/
def StrF (q v : Nat) (A : Nat → Prop) (s : State) (H : Heap) : Prop := (∃ tx, vk_R RX3 184 tx q s) ∧ vk_S 1 [12] [pt12] (fun _ => q) (fun _ => v) A s H ∧ va_Z RJ0 "COMPACT_STRINGS" "Z" (.int (iI 1)) A s H
def EXS (E : EV) (q v : Nat) : Prop := ∀ A s H, eX E A s H → StrF q v A s H
def ixF (x : Int32) (i : Nat) : Nat → Int
  | 0 => -1
  | d + 1 => if pt12.getD i 0 = x then i else ixF x (i + 1) d
def ixI (c : Int) : Int := ixF (iI c) 0 12
theorem ix_all : ∀ k : Fin 128, (iI (k.val : Int)).toInt8.toInt32 = iI (k.val : Int) ∧ ((iI (k.val : Int)).toUInt32 % 65536).toInt32 = iI (k.val : Int) ∧ -1 ≤ ixI (k.val : Int) ∧ ixI (k.val : Int) < 12 ∧ decide (0 ≤ ixI (k.val : Int)) = spc (k.val : Int) := by decide +kernel
theorem ix_of {c : Int} (h0 : 0 ≤ c) (h1 : c ≤ 127) : (iI c).toInt8.toInt32 = iI c ∧ ((iI c).toUInt32 % 65536).toInt32 = iI c ∧ -1 ≤ ixI c ∧ ixI c < 12 ∧ decide (0 ≤ ixI c) = spc c := by
  obtain ⟨k, rfl⟩ : ∃ k : Nat, c = k := ⟨c.toNat, by omega⟩
  exact ix_all ⟨k, by omega⟩
section JSTR
variable {τ : Type} {E : EV} {Rp : τ → GH → Prop} {X : TX} {cc : ByteArray} {own : String} {ret : Option FieldType} {rm : Room} {nL : Nat} {q v0 : Nat}
variable {pc : Nat} {lv lv' : List (Nat × Value)} {st rest : List Value} {S : τ}
theorem j_ishr (h : CX E X cc own ret rm nL) {x y : Int32} (v : Int32) (hd : decode cc pc = .ok (.ishr, 1)) (hv : x >>> (y &&& 31) = v) (K : JL E Rp X (pc + 1) lv (.int v :: rest) S) : JL E Rp X pc lv (.int y :: .int x :: rest) S := by
  subst hv
  obtain ⟨p, e, R, s, m, args, below, meth, c, A, nL', kk0, nn0, Q⟩ := X
  obtain ⟨hx, hb, hml, rfl, hown, hts, hK, hlk, hr, hrm, hA, hAi, hE, hk0, hn0, hXX⟩ := h
  intro G H locs ls hR hP hS hl
  exact lv_ishr hx hb hd (K G H locs ls hR hP hS hl)
theorem j_i2b (h : CX E X cc own ret rm nL) {x : Int32} (v : Int32) (hd : decode cc pc = .ok (.i2b, 1)) (hv : x.toInt8.toInt32 = v) (K : JL E Rp X (pc + 1) lv (.int v :: rest) S) : JL E Rp X pc lv (.int x :: rest) S := by
  obtain ⟨p, e, R, s, m, args, below, meth, c, A, nL', kk0, nn0, Q⟩ := X
  obtain ⟨hx, hb, hml, rfl, hown, hts, hK, hlk, hr, hrm, hA, hAi, hE, hk0, hn0, hXX⟩ := h
  intro G H locs ls hR hP hS hl
  exact lv_i2b hx hb hd hv (K G H locs ls hR hP hS hl)
theorem j_ldcS (h : CX E X cc RX3 ret rm nL) (hXS : EXS E q v0) (hd : decode cc pc = .ok (.ldc 184, 2)) (K : JL E Rp X (pc + 2) lv (.ref q :: rest) S) : JL E Rp X pc lv rest S := by
  obtain ⟨p, e, R, s, m, args, below, meth, c, A, nL', kk0, nn0, Q⟩ := X
  obtain ⟨hx, hb, hml, rfl, hown, hts, hK, hlk, hr, hrm, hA, hAi, hE, hk0, hn0, hXX⟩ := h
  intro G H locs ls hR hP hS hl
  obtain ⟨⟨tx, hZ⟩, -, -⟩ := hXS _ _ _ hXX
  exact va_ldcS hx hb hown hZ hd (K G H locs ls hR hP hS hl)
theorem j_compact (h : CX E X cc RJ0 ret rm nL) (hXS : EXS E q v0) (hd : decode cc pc = .ok (.getstatic 38, 3)) (K : JL E Rp X (pc + 3) lv (.int (iI 1) :: rest) S) : JL E Rp X pc lv rest S := by
  obtain ⟨p, e, R, s, m, args, below, meth, c, A, nL', kk0, nn0, Q⟩ := X
  obtain ⟨hx, hb, hml, rfl, hown, hts, hK, hlk, hr, hrm, hA, hAi, hE, hk0, hn0, hXX⟩ := h
  intro G H locs ls hR hP hS hl
  exact va_gets hx hb (hXS _ _ _ hXX).2.2 hS hown (hts _ a_f_J0_38) (fun _ h => h) hd (K G H locs ls hR hP hS hl)
theorem j_strCoder (h : CX E X cc RJ0 ret rm nL) (hXS : EXS E q v0) (hd : decode cc pc = .ok (.getfield 15, 3)) (K : JL E Rp X (pc + 3) lv (.int (iI 0) :: rest) S) : JL E Rp X pc lv (.ref q :: rest) S := by
  obtain ⟨p, e, R, s, m, args, below, meth, c, A, nL', kk0, nn0, Q⟩ := X
  obtain ⟨hx, hb, hml, rfl, hown, hts, hK, hlk, hr, hrm, hA, hAi, hE, hk0, hn0, hXX⟩ := h
  intro G H locs ls hR hP hS hl
  exact vk_getf hx hb ((hXS _ _ _ hXX).2.1.1 0 (by decide)).2.1 hS hown (hts _ a_f_J0_15) (fun _ h => h) hd (K G H locs ls hR hP hS hl)
theorem j_strValue (h : CX E X cc RJ0 ret rm nL) (hXS : EXS E q v0) (hd : decode cc pc = .ok (.getfield 9, 3)) (K : JL E Rp X (pc + 3) lv (.ref v0 :: rest) S) : JL E Rp X pc lv (.ref q :: rest) S := by
  obtain ⟨p, e, R, s, m, args, below, meth, c, A, nL', kk0, nn0, Q⟩ := X
  obtain ⟨hx, hb, hml, rfl, hown, hts, hK, hlk, hr, hrm, hA, hAi, hE, hk0, hn0, hXX⟩ := h
  intro G H locs ls hR hP hS hl
  exact vk_getf hx hb ((hXS _ _ _ hXX).2.1.1 0 (by decide)).2.2.1 hS hown (hts _ a_f_J0_9) (fun _ h => h) hd (K G H locs ls hR hP hS hl)
theorem j_strLen (h : CX E X cc own ret rm nL) (hXS : EXS E q v0) (hd : decode cc pc = .ok (.arraylength, 1)) (K : JL E Rp X (pc + 1) lv (.int (iI 12) :: rest) S) : JL E Rp X pc lv (.ref v0 :: rest) S := by
  obtain ⟨p, e, R, s, m, args, below, meth, c, A, nL', kk0, nn0, Q⟩ := X
  obtain ⟨hx, hb, hml, rfl, hown, hts, hK, hlk, hr, hrm, hA, hAi, hE, hk0, hn0, hXX⟩ := h
  intro G H locs ls hR hP hS hl
  exact va_tlen hx hb ((hXS _ _ _ hXX).2.1.1 0 (by decide)).2.2.2 hS (v := iI 12) (by decide) hd (K G H locs ls hR hP hS hl)
theorem j_strB (h : CX E X cc own ret rm nL) (hXS : EXS E q v0) {z : Int} (h0 : 0 ≤ z) (h1 : z < 12) (hd : decode cc pc = .ok (.baload, 1)) (K : JL E Rp X (pc + 1) lv (.int (pt12.getD z.toNat 0) :: rest) S) : JL E Rp X pc lv (.int (iI z) :: .ref v0 :: rest) S := by
  obtain ⟨p, e, R, s, m, args, below, meth, c, A, nL', kk0, nn0, Q⟩ := X
  obtain ⟨hx, hb, hml, rfl, hown, hts, hK, hlk, hr, hrm, hA, hAi, hE, hk0, hn0, hXX⟩ := h
  intro G H locs ls hR hP hS hl
  exact va_tb hx hb ((hXS _ _ _ hXX).2.1.1 0 (by decide)).2.2.2 hS (iI_in (n := 12) h0 (by omega) (by omega)) (v := .int (pt12.getD z.toNat 0)) (by rw [iI_clamp h0 (by omega)]; rfl) hd (K G H locs ls hR hP hS hl)
theorem j_bret (h : CX E X cc own (some .byte) rm nL) {v : Int32} {o : Option Value} (hq : Fn E Rp X o S) (ho : o = some (.int v)) (hn : narrow .byte (.int v) = .int v) (hd : decode cc pc = .ok (.ireturn, 1)) : JL E Rp X pc lv [.int v] S := by
  subst ho
  obtain ⟨p, e, R, s, m, args, below, meth, c, A, nL', kk0, nn0, Q⟩ := X
  obtain ⟨hx, hb, hml, rfl, hown, hts, hK, hlk, hr, hrm, hA, hAi, hE, hk0, hn0, hXX⟩ := h
  obtain ⟨Qc, free, rfl, hfr, hend⟩ := hq
  intro G H locs ls hR hP hS hl
  exact W.zret hx hb hr hn (fun t ht hW => hend G t hR (by rw [ht]; exact hP) (hS.F ht)) (fun q hq => hfr _ (hS.2.2 q hq)) hd hlk
theorem j_callVS (h : CX E X cc own ret rm nL) (hXS : EXS E q v0) {index maxL nn : Nat} {y : MethodName} {bytes : ByteArray} {rt : Option FieldType} {rmc : Room} {As : List Value} {S' : τ} {v : Value} (hM : Ct E Rp y (Cond.code y bytes maxL rt :: AW) rmc (.ref q :: As) S (some v) S') (mw : MWv y RJ0 bytes maxL rt nn) (hli : Cond.methodLink own index y ∈ AW) (hrc : rmc.cells = 0) (hrs : rmc.slots = 0) (hroom : rmc.frames + 1 ≤ rm.frames ∧ 8 + (maxL + 11) + rmc.locals ≤ rm.locals) (hlen : As.length = nn) (hst : st = As.reverse ++ .ref q :: rest) (hcat : (rest.map fun v => v.category).sum ≤ 8) (hd : decode cc pc = .ok (.invokevirtual index, 3)) (K : JL E Rp X (pc + 3) lv (v :: rest) S') : JL E Rp X pc lv st S := by
  subst hst
  have h' := h
  obtain ⟨p, e, R, s, m, args, below, meth, c, A, nL', kk0, nn0, Q⟩ := X
  obtain ⟨hx, hb, hml, rfl, hown, hts, hK, hlk, hr, hrm, hA, hAi, hE, hk0, hn0, hXX⟩ := h
  intro G H locs ls hR hP hS hl
  subst hrm
  exact j_ran h' (a := (.ref q :: As).toArray) ⟨hS, hl, va_runV (As := As) (rest := rest) ⟨hx, hb, hml, hown, hts⟩ (hM H.size) (cwV nn hts (gi_V mw hli) rfl hrc hrs mw.2.2.2.2 hroom) ⟨ct_blind hE, vk_recv (i := 0) (hXS _ _ _ hXX).2.1 (by decide) hS, fun U hU hW => ⟨rfl, by rw [hU], ⟨G, hR, by rw [hU]; exact hP⟩, va_K.moved hW.alike hK, ex_call hE hA hAi hS hXX hU hW⟩⟩ rfl hlen hl.1 rfl (lv_room hcat) hd ⟨hk0, hn0⟩⟩ K
end JSTR
set_option maxHeartbeats 400000 in
set_option maxRecDepth 20000 in
theorem c_J1_canEncode_9a6ad {E : EV} (hE : EOK E) {τ : Type} {Rp : τ → GH → Prop} {S : τ} {z : Int} (hz : okI z) : Ct E Rp yJ1_canEncode_9a6ad wsJ1_canEncode_9a6ad rJ1_canEncode_9a6ad [.int (iI z)] S (some (.int (iI (bI (decide (0 ≤ z ∧ z ≤ 255)))))) S := by
  refine ct_of [(0, _)] hE (by decide) rfl (Nat.le_of_ble_eq_true rfl) rfl (fun X h hq => ?_)
  refine j_iload_n h 0 dJ1_canEncode_9a6ad_0 rfl rfl ?_
  refine j_if_lt h 15 dJ1_canEncode_9a6ad_1 (by decide) (by first | exact okI_of _ | exact okI_b _ | exact okI_sgz _ _ | assumption | (unfold okI; omega)) (fun c1 => ?_) (fun c1 => ?_)
  · refine j_iconst h dJ1_canEncode_9a6ad_15 ?_
    exact j_zret h hq (by first | exact bt (decide_eq_true (by omega)) | exact bf (decide_eq_false (by omega))) (by first | exact nzb true | exact nzb false | exact nzb _) dJ1_canEncode_9a6ad_16
  · refine j_iload_n h 0 dJ1_canEncode_9a6ad_4 rfl rfl ?_
    refine j_sipush h dJ1_canEncode_9a6ad_5 (by decide) ?_
    refine j_icmp_gt h 15 dJ1_canEncode_9a6ad_8 (by decide) (by first | exact okI_of _ | exact okI_b _ | exact okI_sgz _ _ | assumption | (unfold okI; omega)) (by first | exact okI_of _ | exact okI_b _ | exact okI_sgz _ _ | assumption | (unfold okI; omega)) (fun c8 => ?_) (fun c8 => ?_)
    · refine j_iconst h dJ1_canEncode_9a6ad_15 ?_
      exact j_zret h hq (by first | exact bt (decide_eq_true (by omega)) | exact bf (decide_eq_false (by omega))) (by first | exact nzb true | exact nzb false | exact nzb _) dJ1_canEncode_9a6ad_16
    · refine j_iconst h dJ1_canEncode_9a6ad_11 ?_
      refine j_goto h 16 dJ1_canEncode_9a6ad_12 (by decide) ?_
      exact j_zret h hq (by first | exact bt (decide_eq_true (by omega)) | exact bf (decide_eq_false (by omega))) (by first | exact nzb true | exact nzb false | exact nzb _) dJ1_canEncode_9a6ad_16
set_option maxHeartbeats 400000 in
set_option maxRecDepth 20000 in
theorem c_J0_coder_7d493 {E : EV} (hE : EOK E) {τ : Type} {Rp : τ → GH → Prop} {S : τ} {q v0 : Nat} (hXS : EXS E q v0)  : Ct E Rp yJ0_coder_7d493 wsJ0_coder_7d493 rJ0_coder_7d493 [.ref q] S (some (.int (iI 0))) S := by
  refine ct_of [(0, _)] hE (by decide) rfl (Nat.le_of_ble_eq_true rfl) rfl (fun X h hq => ?_)
  refine j_compact h hXS dJ0_coder_7d493_0 ?_
  refine j_if_eq h 13 dJ0_coder_7d493_3 (by decide) ⟨by decide, by decide⟩ (fun c3 => ?_) (fun c3 => ?_)
  · exact absurd c3 (by decide)
  · refine j_aload_n h 0 dJ0_coder_7d493_6 rfl rfl ?_
    refine j_strCoder h hXS dJ0_coder_7d493_7 ?_
    refine j_goto h 14 dJ0_coder_7d493_10 (by decide) ?_
    exact j_bret h hq rfl (by decide) dJ0_coder_7d493_14
set_option maxHeartbeats 400000 in
set_option maxRecDepth 20000 in
theorem c_J0_isLatin1_aae02 {E : EV} (hE : EOK E) {τ : Type} {Rp : τ → GH → Prop} {S : τ} {q v0 : Nat} (hXS : EXS E q v0)  : Ct E Rp yJ0_isLatin1_aae02 wsJ0_isLatin1_aae02 rJ0_isLatin1_aae02 [.ref q] S (some (.int (iI (bI true)))) S := by
  refine ct_of [(0, _)] hE (by decide) rfl (Nat.le_of_ble_eq_true rfl) rfl (fun X h hq => ?_)
  refine j_compact h hXS dJ0_isLatin1_aae02_0 ?_
  refine j_if_eq h 17 dJ0_isLatin1_aae02_3 (by decide) ⟨by decide, by decide⟩ (fun c3 => ?_) (fun c3 => ?_)
  · exact absurd c3 (by decide)
  · refine j_aload_n h 0 dJ0_isLatin1_aae02_6 rfl rfl ?_
    refine j_strCoder h hXS dJ0_isLatin1_aae02_7 ?_
    refine j_if_ne h 17 dJ0_isLatin1_aae02_10 (by decide) ⟨by decide, by decide⟩ (fun c10 => ?_) (fun c10 => ?_)
    · exact absurd rfl c10
    · refine j_iconst h dJ0_isLatin1_aae02_13 ?_
      refine j_goto h 18 dJ0_isLatin1_aae02_14 (by decide) ?_
      exact j_zret h hq rfl (by first | exact nzb true | exact nzb false | exact nzb _) dJ0_isLatin1_aae02_18
set_option maxHeartbeats 400000 in
set_option maxRecDepth 20000 in
theorem c_J0_length_8abf5 {E : EV} (hE : EOK E) {τ : Type} {Rp : τ → GH → Prop} {S : τ} {q v0 : Nat} (hXS : EXS E q v0)  : Ct E Rp yJ0_length_8abf5 wsJ0_length_8abf5 rJ0_length_8abf5 [.ref q] S (some (.int (iI 12))) S := by
  refine ct_of [(0, _)] hE (by decide) rfl (Nat.le_of_ble_eq_true rfl) rfl (fun X h hq => ?_)
  refine j_aload_n h 0 dJ0_length_8abf5_0 rfl rfl ?_
  refine j_strValue h hXS dJ0_length_8abf5_1 ?_
  refine j_strLen h hXS dJ0_length_8abf5_4 ?_
  refine j_aload_n h 0 dJ0_length_8abf5_5 rfl rfl ?_
  refine j_callVS h hXS (c_J0_coder_7d493 hE hXS) m_J0_coder_7d493 a_l_J0_335 rfl rfl ⟨Nat.le_of_ble_eq_true rfl, Nat.le_of_ble_eq_true rfl⟩ rfl rfl (Nat.le_of_ble_eq_true rfl) dJ0_length_8abf5_6 ?_
  refine j_ishr h (iI 12) dJ0_length_8abf5_9 (by decide) ?_
  exact j_iret h hq rfl dJ0_length_8abf5_10
set_option maxHeartbeats 400000 in
set_option maxRecDepth 20000 in
theorem c_J1_indexOfChar_4cfef {E : EV} (hE : EOK E) {τ : Type} {Rp : τ → GH → Prop} {S : τ} {q v0 : Nat} (hXS : EXS E q v0) {c : Int} (hc0 : 0 ≤ c) (hc1 : c ≤ 127) : Ct E Rp yJ1_indexOfChar_4cfef wsJ1_indexOfChar_4cfef rJ1_indexOfChar_4cfef [.ref v0, .int (iI c), .int (iI 0), .int (iI 12)] S (some (.int (iI (ixI c)))) S := by
  refine ct_of [(0, _), (1, _), (2, _), (3, _)] hE (by decide) rfl (Nat.le_of_ble_eq_true rfl) rfl (fun X h hq => ?_)
  refine j_iload_n h 1 dJ1_indexOfChar_4cfef_0 rfl rfl ?_
  refine j_i2b h (iI c) dJ1_indexOfChar_4cfef_1 (ix_of hc0 hc1).1 ?_
  refine j_istore h [(4, _), (0, _), (1, _), (2, _), (3, _)] dJ1_indexOfChar_4cfef_2 (by decide) rfl ?_
  refine j_iload_n h 3 dJ1_indexOfChar_4cfef_4 rfl rfl ?_
  refine j_istore h [(5, _), (4, _), (0, _), (1, _), (2, _), (3, _)] dJ1_indexOfChar_4cfef_5 (by decide) rfl ?_
  refine j_sub [0, 1, 2, 5] rfl ?_
  refine lpA1 (fun (z : Int) => (12 - z).toNat) (fun (z : Int) => 0 ≤ z → z ≤ 12 → ixF (iI c) z.toNat (12 - z).toNat = ixF (iI c) 0 12 → JL E Rp X 7 [(5, .int (iI z)), (4, .int (iI c)), (0, .ref v0), (3, .int (iI 12))] [] S) (fun z ih h0 hzb hv => ?_) 0 (Int.le_refl 0) (by omega) rfl
  refine j_iload h 0 dJ1_indexOfChar_4cfef_7 rfl ?_
  refine j_iload_n h 3 dJ1_indexOfChar_4cfef_9 rfl rfl ?_
  refine j_icmp_ge h 31 dJ1_indexOfChar_4cfef_10 (by decide) (by first | exact okI_of _ | exact okI_b _ | exact okI_sgz _ _ | assumption | (unfold okI; omega)) (by first | exact okI_of _ | exact okI_b _ | exact okI_sgz _ _ | assumption | (unfold okI; omega)) (fun c10 => ?_) (fun c10 => ?_)
  · refine j_iconst h dJ1_indexOfChar_4cfef_31 ?_
    rw [show (12 - z).toNat = 0 by omega, ixF] at hv
    exact j_iret h hq (by unfold ixI; rw [← hv]) dJ1_indexOfChar_4cfef_32
  · refine j_aload_n h 2 dJ1_indexOfChar_4cfef_13 rfl rfl ?_
    refine j_iload h 0 dJ1_indexOfChar_4cfef_14 rfl ?_
    refine j_strB h hXS h0 (by omega) dJ1_indexOfChar_4cfef_16 ?_
    refine j_iload h 1 dJ1_indexOfChar_4cfef_17 rfl ?_
    refine j_rcmp_ne h 25 dJ1_indexOfChar_4cfef_19 (by decide) (fun c19 => ?_) (fun c19 => ?_)
    · refine j_iinc h 0 [(5, _), (4, _), (0, _), (3, _)] dJ1_indexOfChar_4cfef_25 rfl (by decide) rfl ?_
      refine j_goto h 7 dJ1_indexOfChar_4cfef_28 (by decide) ?_
      exact ih (z + 1) (by omega) (by omega) (by omega) (by rw [show (12 - z).toNat = (12 - (z + 1)).toNat + 1 by omega, ixF, if_neg c19, show z.toNat + 1 = (z + 1).toNat by omega] at hv; exact hv)
    · refine j_iload h 0 dJ1_indexOfChar_4cfef_22 rfl ?_
      rw [show (12 - z).toNat = (12 - (z + 1)).toNat + 1 by omega, ixF, if_pos c19, show ((z.toNat : Nat) : Int) = z by omega] at hv
      exact j_iret h hq (by unfold ixI; rw [← hv]) dJ1_indexOfChar_4cfef_24
set_option maxHeartbeats 400000 in
set_option maxRecDepth 20000 in
theorem c_J1_indexOf_4cfef {E : EV} (hE : EOK E) {τ : Type} {Rp : τ → GH → Prop} {S : τ} {q v0 : Nat} (hXS : EXS E q v0) {c : Int} (hc0 : 0 ≤ c) (hc1 : c ≤ 127) : Ct E Rp yJ1_indexOf_4cfef wsJ1_indexOf_4cfef rJ1_indexOf_4cfef [.ref v0, .int (iI c), .int (iI 0), .int (iI 12)] S (some (.int (iI (ixI c)))) S := by
  refine ct_of [(0, _), (1, _), (2, _), (3, _)] hE (by decide) rfl (Nat.le_of_ble_eq_true rfl) rfl (fun X h hq => ?_)
  refine j_iload_n h 1 dJ1_indexOf_4cfef_0 rfl rfl ?_
  refine j_callS h (c_J1_canEncode_9a6ad hE (z := c) (by unfold okI; omega)) m_J1_canEncode_9a6ad a_l_J1_88 rfl rfl ⟨Nat.le_of_ble_eq_true rfl, Nat.le_of_ble_eq_true rfl⟩ rfl rfl (Nat.le_of_ble_eq_true rfl) dJ1_indexOf_4cfef_1 ?_
  refine j_if_ne h 9 dJ1_indexOf_4cfef_4 (by decide) (by first | exact okI_of _ | exact okI_b _ | exact okI_sgz _ _ | assumption | (unfold okI; omega)) (fun c4 => ?_) (fun c4 => ?_)
  · skip
    refine j_iload_n h 2 dJ1_indexOf_4cfef_9 rfl rfl ?_
    refine j_iconst h dJ1_indexOf_4cfef_10 ?_
    refine j_max h (by first | exact okI_of _ | exact okI_b _ | exact okI_sgz _ _ | assumption | (unfold okI; omega)) (by first | exact okI_of _ | exact okI_b _ | exact okI_sgz _ _ | assumption | (unfold okI; omega)) a_l_J1_92 ⟨Nat.le_of_ble_eq_true rfl, Nat.le_of_ble_eq_true rfl⟩ (Nat.le_of_ble_eq_true rfl) dJ1_indexOf_4cfef_11 ?_
    refine j_top (y := iI 0) (by decide) ?_
    refine j_istore_n h [(2, _), (0, _), (1, _), (3, _)] dJ1_indexOf_4cfef_14 rfl (by decide) rfl ?_
    refine j_iload_n h 3 dJ1_indexOf_4cfef_15 rfl rfl ?_
    refine j_aload_n h 1 dJ1_indexOf_4cfef_16 rfl rfl ?_
    refine j_strLen h hXS dJ1_indexOf_4cfef_17 ?_
    refine j_min h (by first | exact okI_of _ | exact okI_b _ | exact okI_sgz _ _ | assumption | (unfold okI; omega)) (by first | exact okI_of _ | exact okI_b _ | exact okI_sgz _ _ | assumption | (unfold okI; omega)) a_l_J1_38 ⟨Nat.le_of_ble_eq_true rfl, Nat.le_of_ble_eq_true rfl⟩ (Nat.le_of_ble_eq_true rfl) dJ1_indexOf_4cfef_18 ?_
    refine j_top (y := iI 12) (by decide) ?_
    refine j_istore_n h [(3, _), (2, _), (0, _), (1, _)] dJ1_indexOf_4cfef_21 rfl (by decide) rfl ?_
    refine j_iload_n h 1 dJ1_indexOf_4cfef_22 rfl rfl ?_
    refine j_iload_n h 0 dJ1_indexOf_4cfef_23 rfl rfl ?_
    refine j_icmp_lt h 29 dJ1_indexOf_4cfef_24 (by decide) (by first | exact okI_of _ | exact okI_b _ | exact okI_sgz _ _ | assumption | (unfold okI; omega)) (by first | exact okI_of _ | exact okI_b _ | exact okI_sgz _ _ | assumption | (unfold okI; omega)) (fun c24 => ?_) (fun c24 => ?_)
    · skip
      refine j_aload_n h 2 dJ1_indexOf_4cfef_29 rfl rfl ?_
      refine j_iload_n h 3 dJ1_indexOf_4cfef_30 rfl rfl ?_
      refine j_iload_n h 1 dJ1_indexOf_4cfef_31 rfl rfl ?_
      refine j_iload_n h 0 dJ1_indexOf_4cfef_32 rfl rfl ?_
      refine j_callS h (c_J1_indexOfChar_4cfef hE hXS hc0 hc1) m_J1_indexOfChar_4cfef a_l_J1_95 rfl rfl ⟨Nat.le_of_ble_eq_true rfl, Nat.le_of_ble_eq_true rfl⟩ rfl rfl (Nat.le_of_ble_eq_true rfl) dJ1_indexOf_4cfef_33 ?_
      exact j_iret h hq rfl dJ1_indexOf_4cfef_36
    · exact absurd c24 (by decide)
  · exact absurd (show bI (decide (0 ≤ c ∧ c ≤ 255)) = 1 by rw [decide_eq_true (by omega)]; rfl) (by rw [c4]; decide)
set_option maxHeartbeats 400000 in
set_option maxRecDepth 20000 in
theorem c_J0_indexOf_7cf53 {E : EV} (hE : EOK E) {τ : Type} {Rp : τ → GH → Prop} {S : τ} {q v0 : Nat} (hXS : EXS E q v0) {c : Int} (hc0 : 0 ≤ c) (hc1 : c ≤ 127) : Ct E Rp yJ0_indexOf_7cf53 wsJ0_indexOf_7cf53 rJ0_indexOf_7cf53 [.ref q, .int (iI c), .int (iI 0)] S (some (.int (iI (ixI c)))) S := by
  refine ct_of [(0, _), (1, _), (2, _)] hE (by decide) rfl (Nat.le_of_ble_eq_true rfl) rfl (fun X h hq => ?_)
  refine j_aload_n h 0 dJ0_indexOf_7cf53_0 rfl rfl ?_
  refine j_callVS h hXS (c_J0_isLatin1_aae02 hE hXS) m_J0_isLatin1_aae02 a_l_J0_492 rfl rfl ⟨Nat.le_of_ble_eq_true rfl, Nat.le_of_ble_eq_true rfl⟩ rfl rfl (Nat.le_of_ble_eq_true rfl) dJ0_indexOf_7cf53_1 ?_
  refine j_if_eq h 23 dJ0_indexOf_7cf53_4 (by decide) (by first | exact okI_of _ | exact okI_b _ | exact okI_sgz _ _ | assumption | (unfold okI; omega)) (fun c4 => ?_) (fun c4 => ?_)
  · exact absurd c4 (by decide)
  · refine j_aload_n h 0 dJ0_indexOf_7cf53_7 rfl rfl ?_
    refine j_strValue h hXS dJ0_indexOf_7cf53_8 ?_
    refine j_iload_n h 1 dJ0_indexOf_7cf53_11 rfl rfl ?_
    refine j_iload_n h 2 dJ0_indexOf_7cf53_12 rfl rfl ?_
    refine j_aload_n h 0 dJ0_indexOf_7cf53_13 rfl rfl ?_
    refine j_callVS h hXS (c_J0_length_8abf5 hE hXS) m_J0_length_8abf5 a_l_J0_505 rfl rfl ⟨Nat.le_of_ble_eq_true rfl, Nat.le_of_ble_eq_true rfl⟩ rfl rfl (Nat.le_of_ble_eq_true rfl) dJ0_indexOf_7cf53_14 ?_
    refine j_callS h (c_J1_indexOf_4cfef hE hXS hc0 hc1) m_J1_indexOf_4cfef a_l_J0_637 rfl rfl ⟨Nat.le_of_ble_eq_true rfl, Nat.le_of_ble_eq_true rfl⟩ rfl rfl (Nat.le_of_ble_eq_true rfl) dJ0_indexOf_7cf53_17 ?_
    refine j_goto h 36 dJ0_indexOf_7cf53_20 (by decide) ?_
    exact j_iret h hq rfl dJ0_indexOf_7cf53_36
set_option maxHeartbeats 400000 in
set_option maxRecDepth 20000 in
theorem c_J0_indexOf_0f7a4 {E : EV} (hE : EOK E) {τ : Type} {Rp : τ → GH → Prop} {S : τ} {q v0 : Nat} (hXS : EXS E q v0) {c : Int} (hc0 : 0 ≤ c) (hc1 : c ≤ 127) : Ct E Rp yJ0_indexOf_0f7a4 wsJ0_indexOf_0f7a4 rJ0_indexOf_0f7a4 [.ref q, .int (iI c)] S (some (.int (iI (ixI c)))) S := by
  refine ct_of [(0, _), (1, _)] hE (by decide) rfl (Nat.le_of_ble_eq_true rfl) rfl (fun X h hq => ?_)
  refine j_aload_n h 0 dJ0_indexOf_0f7a4_0 rfl rfl ?_
  refine j_iload_n h 1 dJ0_indexOf_0f7a4_1 rfl rfl ?_
  refine j_iconst h dJ0_indexOf_0f7a4_2 ?_
  refine j_callVS h hXS (c_J0_indexOf_7cf53 hE hXS hc0 hc1) m_J0_indexOf_7cf53 a_l_J0_633 rfl rfl ⟨Nat.le_of_ble_eq_true rfl, Nat.le_of_ble_eq_true rfl⟩ rfl rfl (Nat.le_of_ble_eq_true rfl) dJ0_indexOf_0f7a4_3 ?_
  exact j_iret h hq rfl dJ0_indexOf_0f7a4_6
set_option maxHeartbeats 400000 in
set_option maxRecDepth 20000 in
theorem p_part {E : EV} (hE : EOK E) {A : AS} {g0 : GH} {q v0 : Nat} (hXS : EXS E q v0) {a : Int} (ha : okI a) {x : Int} (hx : okI x) {L : Int} (hL : okI L) : Ct E (RP E g0) yX3_part wsX3_part rX3_part [eA E 74, .int (iI a), .int (iI x), .int (iI L)] A (some (.int (iI (paA A a x L).1))) (paA A a x L).2 := by
  refine ct_of [(0, _), (1, _), (2, _), (3, _)] hE (by decide) rfl (Nat.le_of_ble_eq_true rfl) rfl (fun X h hq => ?_)
  refine j_ex (fun S hAb => ?_)
  refine j_of (fun G hG => RC_okS hG) (fun hS0 => ?_)
  refine j_of (fun G hG => RC_lens hG) (fun hLL => ?_)
  have hcap24 : cap 24 = 600 := rfl
  have hcap25 : cap 25 = 600 := rfl
  have hsa := sh_lt hS0 a
  have hxa := ab_x hAb a
  have hla := hLL (sh S a) (by omega)
  rw [hxa, cap_lo (by omega)] at hla
  have hca := cap_lo (t := sh S a) (by omega)
  refine j_iload_n h 2 dX3_part_0 rfl rfl ?_
  refine j_callS h (c_X3_isSign hE hx) m_X3_isSign a_l_X3_50 rfl rfl ⟨Nat.le_of_ble_eq_true rfl, Nat.le_of_ble_eq_true rfl⟩ rfl rfl (Nat.le_of_ble_eq_true rfl) dX3_part_1 ?_
  refine j_if_eq h 17 dX3_part_4 (by decide) (by first | exact okI_of _ | exact okI_b _ | exact okI_sgz _ _ | assumption | (unfold okI; omega)) (fun c4 => ?_) (fun c4 => ?_)
  · rw [bI_0] at c4
    refine j_ldc h (-1000001) a_k_X3_54 (by decide) dX3_part_17 ?_
    have e : paA A a x L = (-1000001, A) := by unfold paA; exact if_neg (fun w => by simp_all)
    rw [e] at hq
    have hq := fnA hq hAb
    exact j_iret h hq rfl dX3_part_19
  · rw [bI_n0] at c4
    have hsx : 0 ≤ x ∧ x ≤ 127 := of_decide_eq_true c4
    have hix := ix_of hsx.1 hsx.2
    refine j_ldcS h hXS dX3_part_7 ?_
    refine j_iload_n h 2 dX3_part_9 rfl rfl ?_
    refine j_i2c h (iI x) dX3_part_10 hix.2.1 ?_
    refine j_callVS h hXS (c_J0_indexOf_0f7a4 hE hXS hsx.1 hsx.2) m_J0_indexOf_0f7a4 a_l_X3_186 rfl rfl ⟨Nat.le_of_ble_eq_true rfl, Nat.le_of_ble_eq_true rfl⟩ rfl rfl (Nat.le_of_ble_eq_true rfl) dX3_part_11 ?_
    refine j_if_lt h 20 dX3_part_14 (by decide) (by have h1 := hix.2.2.1; have h2 := hix.2.2.2.1; unfold okI; omega) (fun c14 => ?_) (fun c14 => ?_)
    · have hsp : spc x = false := by rw [← hix.2.2.2.2]; exact decide_eq_false (by omega)
      refine j_aload_n h 0 dX3_part_20 rfl rfl ?_
      refine jg_Snow h a_f_X3_10 dX3_part_21 ?_
      refine jgN_Iparts h (by decide) (i := 0) (by omega) dX3_part_24 ?_
      refine j_aload_n h 0 dX3_part_27 rfl rfl ?_
      refine jg_Snow h a_f_X3_10 dX3_part_28 ?_
      refine j_iload_n h 1 dX3_part_31 rfl rfl ?_
      refine j_callV h (c_X0_text hE ha) m_X0_text a_l_X3_39 rfl rfl ⟨Nat.le_of_ble_eq_true rfl, Nat.le_of_ble_eq_true rfl⟩ (ci := 0) rfl (by omega) (rcI (i := 0) (by omega)) rfl rfl (Nat.le_of_ble_eq_true rfl) dX3_part_32 ?_
      refine j_iload_n h 2 dX3_part_35 rfl rfl ?_
      refine j_iload_n h 3 dX3_part_36 rfl rfl ?_
      refine j_callVv h (c_X1_partAnew hE (p := 0) (by omega) (u := sh S a) (by omega) hxa (by omega) (by omega) hL) m_X1_partAnew a_l_X3_194 rfl rfl ⟨Nat.le_of_ble_eq_true rfl, Nat.le_of_ble_eq_true rfl⟩ (ci := 1) rfl (by omega) (rcP (p := 0) (by omega)) rfl rfl (Nat.le_of_ble_eq_true rfl) dX3_part_37 ?_
      refine j_aload_n h 0 dX3_part_40 rfl rfl ?_
      refine jg_Snow h a_f_X3_10 dX3_part_41 ?_
      refine jgN_Iparts h (by decide) (i := 0) (by omega) dX3_part_44 ?_
      refine j_callV h (c_X1_size hE (p := 0) (by omega) (setE_2s _ _ _)) m_X1_size a_l_X3_197 rfl rfl ⟨Nat.le_of_ble_eq_true rfl, Nat.le_of_ble_eq_true rfl⟩ (ci := 1) rfl (by omega) (rcP (p := 0) (by omega)) rfl rfl (Nat.le_of_ble_eq_true rfl) dX3_part_47 ?_
      have e : paA A a x L = (((prtQ (A.1 (sw a)) x L).2.length : Int), aP A (prtQ (A.1 (sw a)) x L)) := by unfold paA; rw [if_pos ⟨c4, hsp⟩]
      rw [e] at hq
      have hq := fnA hq (ab_P hAb (okP_prtQ (A.1 (sw a)) x L (by omega)))
      exact j_iret h hq rfl dX3_part_50
    · have hsp : spc x = true := by rw [← hix.2.2.2.2]; exact decide_eq_true c14
      refine j_ldc h (-1000001) a_k_X3_54 (by decide) dX3_part_17 ?_
      have e : paA A a x L = (-1000001, A) := by unfold paA; exact if_neg (fun w => by simp_all)
      rw [e] at hq
      have hq := fnA hq hAb
      exact j_iret h hq rfl dX3_part_19
