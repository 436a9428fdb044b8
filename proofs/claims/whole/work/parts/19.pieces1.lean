/-! Pieces -/
theorem jx_Psize {E : EV} {X : TX} {cc : ByteArray} {own : String} {ret : Option FieldType} {rm : Room} {nL : Nat} {g0 : GH} {pc index : Nat} {lv : List (Nat × Value)} {rest : List Value} {S : SC} (h : CX E X cc own ret rm nL) {p : Nat} {es : List Nat} (hx : S.2.2 p = es) (hw : Cond.fieldLink own index "TextShelves$Pieces" "size" "I" ∈ AW) (ht : p < 4) (hd : decode cc pc = .ok (.getfield index, 3)) (K : JL E (RC E g0) X (pc + 3) lv (.int (iI es.length) :: rest) S) : JL E (RC E g0) X pc lv (eA E (66 + p) :: rest) S := by
  subst hx
  exact jg_Psize h hw ht hd K
theorem setE_id (S : SC) (p : Nat) : setE S p (S.2.2 p) = S := by simp [setE, up_id]
theorem pOK_size {E : EV} {G : GH} {p : Nat} {fs : List Nat} {f : Nat → Int32} (hf : G (70 + p) = .inl (eI E, 301, .inl f)) (hl : fs.length ≤ 301) (hv : ∀ j, j < fs.length → f j = iI (fs.getD j 0 : Nat)) (hp : p < 4) : pOK E (va_up G (66 + p) (.inr (1, [eA E (26 + p), eA E (70 + p), .int (iI fs.length)]))) p fs := by
  refine ⟨va_up_self _ _ _, hl, f, ?_, hv⟩
  rw [va_up_ne _ _ (by omega)]
  exact hf
/-- the size of Pieces set lower -/
theorem j_Pput {E : EV} {X : TX} {cc : ByteArray} {own : String} {ret : Option FieldType} {rm : Room} {nL : Nat} {g0 : GH} {pc index : Nat} {lv : List (Nat × Value)} {rest : List Value} {S : SC} (h : CX E X cc own ret rm nL) {p : Nat} {es : List Nat} (n : Nat) {z : Int} (hz : z = n) (hs : S.2.2 p = es) (hn : n ≤ es.length) (hw : Cond.fieldLink own index "TextShelves$Pieces" "size" "I" ∈ AW) (hp : p < 4) (hd : decode cc pc = .ok (.putfield index, 3)) (K : JL E (RC E g0) X (pc + 3) lv rest (setE S p (es.take n))) : JL E (RC E g0) X pc lv (.int (iI z) :: eA E (66 + p) :: rest) S := by
  subst hz
  refine j_put h (T := TX1) (S' := setE S p (es.take n)) (fs := [eA E (26 + p), eA E (70 + p), .int (iI es.length)]) 2 inX1 tyX1 tyX1_ok nmX1 (ci := 1) rfl (by decide) hw rfl rfl rfl rfl rfl (by omega) (fun G hG => ?_) (Nat.le_of_ble_eq_true rfl) hd K
  obtain ⟨a, b, f, e1, e2⟩ := hG.2.1 p hp
  rw [hs] at a b e2
  refine ⟨a, RC_setE hp hG ?_ (fun i h1 h2 => va_up_ne _ _ h1)⟩
  have hl : (es.take n).length = n := by rw [List.length_take]; omega
  have := pOK_size (fs := es.take n) e1 (by omega) (fun j hj => by rw [e2 j (by omega)]; have := eg_take (es := es) (n := n) (k := j) (by omega); unfold eg at this; rw [this]) hp
  rw [hl] at this
  exact this
set_option maxHeartbeats 400000 in
set_option maxRecDepth 20000 in
theorem c_X1_size {E : EV} (hE : EOK E) {S : SC} {g0 : GH} {p : Nat} (hp : p < 4) {es : List Nat} (hs : S.2.2 p = es) : Ct E (RC E g0) yX1_size wsX1_size rX1_size [eA E (66 + p)] S (some (.int (iI es.length))) S := by
  refine ct_of [(0, _)] hE (by decide) rfl (Nat.le_of_ble_eq_true rfl) rfl (fun X h hq => ?_)
  refine j_aload_n h 0 dX1_size_0 rfl rfl ?_
  refine jx_Psize h hs a_f_X1_24 (by omega) dX1_size_1 ?_
  exact j_iret h hq rfl dX1_size_4
set_option maxHeartbeats 400000 in
set_option maxRecDepth 20000 in
theorem c_X1_endOf {E : EV} (hE : EOK E) {S : SC} {g0 : GH} {p : Nat} (hp : p < 4) {es : List Nat} (hs : S.2.2 p = es) {z : Int} (hz : okI z) : Ct E (RC E g0) yX1_endOf wsX1_endOf rX1_endOf [eA E (66 + p), .int (iI z)] S (some (.int (iI (enI es z)))) S := by
  refine ct_of [(0, _), (1, _)] hE (by decide) rfl (Nat.le_of_ble_eq_true rfl) rfl (fun X h hq => ?_)
  refine j_of (fun G hG => (hG.2.1 p hp).2.1) (fun hle => ?_)
  rw [hs] at hle
  have hz2 := hz
  unfold okI at hz2
  refine j_iload_n h 1 dX1_endOf_0 rfl rfl ?_
  refine j_if_lt h 12 dX1_endOf_1 (by decide) (by first | exact okI_of _ | exact okI_b _ | exact okI_sgz _ _ | assumption | (unfold okI; omega)) (fun c1 => ?_) (fun c1 => ?_)
  · refine j_iconst h dX1_endOf_12 ?_
    exact j_iret h hq (by unfold enI; rw [if_neg (by omega)]) dX1_endOf_13
  · refine j_iload_n h 1 dX1_endOf_4 rfl rfl ?_
    refine j_aload_n h 0 dX1_endOf_5 rfl rfl ?_
    refine jx_Psize h hs a_f_X1_24 (by omega) dX1_endOf_6 ?_
    refine j_icmp_lt h 14 dX1_endOf_9 (by decide) (by first | exact okI_of _ | exact okI_b _ | exact okI_sgz _ _ | assumption | (unfold okI; omega)) (by first | exact okI_of _ | exact okI_b _ | exact okI_sgz _ _ | assumption | (unfold okI; omega)) (fun c9 => ?_) (fun c9 => ?_)
    · refine j_aload_n h 0 dX1_endOf_14 rfl rfl ?_
      refine jg_Pends h a_f_X1_20 (by omega) dX1_endOf_15 ?_
      refine j_iload_n h 1 dX1_endOf_18 rfl rfl ?_
      refine j_iald h (iI (eg es z.toNat : Nat)) (by omega) ⟨by omega, by omega⟩ (fun G hG => by obtain ⟨_, _, f, e1, e2⟩ := hG.2.1 p hp; rw [hs] at e2; exact ⟨301, f, e1, by omega, e2 _ (by omega)⟩) dX1_endOf_19 ?_
      exact j_iret h hq (by unfold enI; rw [if_pos (by omega)]) dX1_endOf_20
    · refine j_iconst h dX1_endOf_12 ?_
      exact j_iret h hq (by unfold enI; rw [if_neg (by omega)]) dX1_endOf_13
set_option maxHeartbeats 400000 in
set_option maxRecDepth 20000 in
theorem c_X1_startOf {E : EV} (hE : EOK E) {S : SC} {g0 : GH} {p : Nat} (hp : p < 4) {es : List Nat} (hs : S.2.2 p = es) {z : Int} (hz : 0 ≤ z) (hz2 : z < 2147483648) : Ct E (RC E g0) yX1_startOf wsX1_startOf rX1_startOf [eA E (66 + p), .int (iI z)] S (some (.int (iI (enI es (z - 1))))) S := by
  refine ct_of [(0, _), (1, _)] hE (by decide) rfl (Nat.le_of_ble_eq_true rfl) rfl (fun X h hq => ?_)
  refine j_aload_n h 0 dX1_startOf_0 rfl rfl ?_
  refine j_iload_n h 1 dX1_startOf_1 rfl rfl ?_
  refine j_iconst h dX1_startOf_2 ?_
  refine j_isub h dX1_startOf_3 ?_
  refine j_callV h (c_X1_endOf hE hp hs (by unfold okI; omega)) m_X1_endOf a_l_X1_50 rfl rfl ⟨Nat.le_of_ble_eq_true rfl, Nat.le_of_ble_eq_true rfl⟩ (ci := 1) rfl (by omega) (rcP (by omega)) rfl rfl (Nat.le_of_ble_eq_true rfl) dX1_startOf_4 ?_
  exact j_iret h hq rfl dX1_startOf_7
set_option maxHeartbeats 400000 in
set_option maxRecDepth 20000 in
theorem c_X1_addEnd {E : EV} (hE : EOK E) {S : SC} {g0 : GH} {p : Nat} (hp : p < 4) {es : List Nat} (hs : S.2.2 p = es) {e : Nat} (h1 : es.length < 301) : Ct E (RC E g0) yX1_addEnd wsX1_addEnd rX1_addEnd [eA E (66 + p), .int (iI (e : Nat))] S none (setE S p (es ++ [e])) := by
  refine ct_of [(0, _), (1, _)] hE (by decide) rfl (Nat.le_of_ble_eq_true rfl) rfl (fun X h hq => ?_)
  subst hs
  refine j_aload_n h 0 dX1_addEnd_0 rfl rfl ?_
  refine jg_Psize h a_f_X1_24 (by omega) dX1_addEnd_1 ?_
  refine j_aload_n h 0 dX1_addEnd_4 rfl rfl ?_
  refine jg_Pends h a_f_X1_20 (by omega) dX1_addEnd_5 ?_
  refine j_alen h 301 (by omega) (fun G hG => by obtain ⟨_, _, f, e1, _⟩ := hG.2.1 p hp; exact ⟨f, e1⟩) dX1_addEnd_8 ?_
  refine j_icmp_ge h 32 dX1_addEnd_9 (by decide) (by first | exact okI_of _ | exact okI_b _ | exact okI_sgz _ _ | assumption | (unfold okI; omega)) (by first | exact okI_of _ | exact okI_b _ | exact okI_sgz _ _ | assumption | (unfold okI; omega)) (fun c9 => ?_) (fun c9 => ?_)
  · exact absurd c9 (by omega)
  · refine j_aload_n h 0 dX1_addEnd_12 rfl rfl ?_
    refine jg_Pends h a_f_X1_20 (by omega) dX1_addEnd_13 ?_
    refine j_aload_n h 0 dX1_addEnd_16 rfl rfl ?_
    refine jg_Psize h a_f_X1_24 (by omega) dX1_addEnd_17 ?_
    refine j_iload_n h 1 dX1_addEnd_20 rfl rfl ?_
    refine j_eq (fun G0 hG0 => ?_)
    obtain ⟨a0, b0, f0, e0, v0⟩ := hG0.2.1 p hp
    refine j_iast h (S' := va_up G0 (70 + p) (.inl (eI E, 301, .inl (upd f0 (S.2.2 p).length (iI (e : Nat)))))) (by omega) ⟨by omega, by omega⟩ (fun G hG => by subst hG; exact ⟨301, f0, e0, by omega, by rw [Int.toNat_natCast]⟩) dX1_addEnd_21 ?_
    refine j_aload_n h 0 dX1_addEnd_22 rfl rfl ?_
    refine j_dup h dX1_addEnd_23 rfl ?_
    refine j_get h (T := TX1) 2 inX1 (ci := 1) rfl (by decide) a_f_X1_24 rfl (by omega) (fun G hG => by rw [← hG, va_up_ne _ _ (by omega)]; exact a0) rfl dX1_addEnd_24 ?_
    refine j_iconst h dX1_addEnd_27 ?_
    refine j_iadd h dX1_addEnd_28 ?_
    refine j_put h (T := TX1) (S' := va_up (va_up G0 (70 + p) (.inl (eI E, 301, .inl (upd f0 (S.2.2 p).length (iI (e : Nat)))))) (66 + p) (.inr (1, [eA E (26 + p), eA E (70 + p), .int (iI (((S.2.2 p).length : Int) + 1))]))) 2 inX1 tyX1 tyX1_ok nmX1 (ci := 1) rfl (by decide) a_f_X1_24 rfl rfl rfl rfl rfl (by omega) (fun G hG => by subst hG; exact ⟨by rw [va_up_ne _ _ (by omega)]; exact a0, rfl⟩) (Nat.le_of_ble_eq_true rfl) dX1_addEnd_29 ?_
    refine j_re (Rp2 := RC E g0) (S2 := setE S p (S.2.2 p ++ [e])) (fun G hG => ?_) ?_
    · subst hG
      have hz : (((S.2.2 p).length : Int) + 1) = ((S.2.2 p ++ [e]).length : Int) := by simp
      rw [hz]
      refine RC_setE hp hG0 (pOK_size (va_up_self _ _ _) (by simp; omega) (fun j hj => ?_) hp) (fun i h1 h2 => by rw [va_up_ne _ _ h1, va_up_ne _ _ h2])
      by_cases q : j = (S.2.2 p).length
      · subst q; simp [upd, List.getD]
      · have q2 : j < (S.2.2 p).length := by simp at hj; omega
        rw [show upd f0 (S.2.2 p).length (iI (e : Nat)) j = f0 j from if_neg q, v0 j q2]
        simp [List.getD, List.getElem?_append_left q2]
    exact j_vret h hq rfl dX1_addEnd_32
set_option maxHeartbeats 400000 in
set_option maxRecDepth 20000 in
theorem c_X1_endPiece {E : EV} (hE : EOK E) {S : SC} {g0 : GH} {p : Nat} (hp : p < 4) {es : List Nat} (hs : S.2.2 p = es) {as : List Int32} (ha : S.1 (26 + p) = as) (h1 : es.length < 301) : Ct E (RC E g0) yX1_endPiece wsX1_endPiece rX1_endPiece [eA E (66 + p)] S none (setE S p (es ++ [as.length])) := by
  refine ct_of [(0, _)] hE (by decide) rfl (Nat.le_of_ble_eq_true rfl) rfl (fun X h hq => ?_)
  refine j_aload_n h 0 dX1_endPiece_0 rfl rfl ?_
  refine j_aload_n h 0 dX1_endPiece_1 rfl rfl ?_
  refine jg_Pall h a_f_X1_14 (by omega) dX1_endPiece_2 ?_
  refine j_callV h (c_X2_size hE (show 26 + p < 30 by omega) ha) m_X2_size a_l_X1_31 rfl rfl ⟨Nat.le_of_ble_eq_true rfl, Nat.le_of_ble_eq_true rfl⟩ (ci := 2) rfl (by omega) (rcT (by omega)) rfl rfl (Nat.le_of_ble_eq_true rfl) dX1_endPiece_5 ?_
  refine j_callVv h (c_X1_addEnd hE hp hs h1) m_X1_addEnd a_l_X1_71 rfl rfl ⟨Nat.le_of_ble_eq_true rfl, Nat.le_of_ble_eq_true rfl⟩ (ci := 1) rfl (by omega) (rcP (by omega)) rfl rfl (Nat.le_of_ble_eq_true rfl) dX1_endPiece_8 ?_
  exact j_vret h hq rfl dX1_endPiece_11
set_option maxHeartbeats 400000 in
set_option maxRecDepth 20000 in
theorem c_X1_addPieceTo {E : EV} (hE : EOK E) {S : SC} {g0 : GH} {p : Nat} (hp : p < 4) {es : List Nat} (hs : S.2.2 p = es) {as : List Int32} (ha : S.1 (26 + p) = as) {t : Nat} (ht : t < 30) {xs : List Int32} (hx : S.1 t = xs) (hne : 26 + p ≠ t) {k : Nat} (hk : k < es.length) (hok : eOK es as.length) (hcp : xs.length + (eg es k - stN es k) ≤ cap t) : Ct E (RC E g0) yX1_addPieceTo wsX1_addPieceTo rX1_addPieceTo [eA E (66 + p), eA E t, .int (iI (k : Int))] S none (setT S t (xs ++ pce as es k)) := by
  refine ct_of [(0, _), (1, _), (2, _)] hE (by decide) rfl (Nat.le_of_ble_eq_true rfl) rfl (fun X h hq => ?_)
  refine j_of (fun G hG => (hG.2.1 p hp).2.1) (fun hle => ?_)
  rw [hs] at hle
  refine j_of (fun G hG => RC_len hG (show 26 + p < 30 by omega)) (fun hla => ?_)
  rw [ha] at hla
  have hca : cap (26 + p) = 300 := by unfold cap; rw [if_neg (by omega), if_neg (by omega)]
  have hokk := hok k hk
  refine j_aload_n h 1 dX1_addPieceTo_0 rfl rfl ?_
  refine j_aload_n h 0 dX1_addPieceTo_1 rfl rfl ?_
  refine jg_Pall h a_f_X1_14 (by omega) dX1_addPieceTo_2 ?_
  refine j_aload_n h 0 dX1_addPieceTo_5 rfl rfl ?_
  refine j_iload_n h 2 dX1_addPieceTo_6 rfl rfl ?_
  refine j_callV h (c_X1_startOf hE hp hs (by omega) (by omega)) m_X1_startOf a_l_X1_47 rfl rfl ⟨Nat.le_of_ble_eq_true rfl, Nat.le_of_ble_eq_true rfl⟩ (ci := 1) rfl (by omega) (rcP (by omega)) rfl rfl (Nat.le_of_ble_eq_true rfl) dX1_addPieceTo_7 ?_
  rw [enI_st (by omega)]
  refine j_aload_n h 0 dX1_addPieceTo_10 rfl rfl ?_
  refine j_iload_n h 2 dX1_addPieceTo_11 rfl rfl ?_
  refine j_callV h (c_X1_endOf hE hp hs (by unfold okI; omega)) m_X1_endOf a_l_X1_50 rfl rfl ⟨Nat.le_of_ble_eq_true rfl, Nat.le_of_ble_eq_true rfl⟩ (ci := 1) rfl (by omega) (rcP (by omega)) rfl rfl (Nat.le_of_ble_eq_true rfl) dX1_addPieceTo_12 ?_
  rw [enI_en hk]
  refine j_callVv h (c_X2_addSpan hE ht hx (show 26 + p < 30 by omega) ha hne (by omega) (by omega) (by omega) (by omega)) m_X2_addSpan a_l_X1_53 rfl rfl ⟨Nat.le_of_ble_eq_true rfl, Nat.le_of_ble_eq_true rfl⟩ (ci := 2) rfl (by omega) (rcT (by omega)) rfl rfl (Nat.le_of_ble_eq_true rfl) dX1_addPieceTo_15 ?_
  refine j_S (S2 := setT S t (xs ++ pce as es k)) (by unfold pce; rw [Int.toNat_natCast, show ((eg es k : Int) - stN es k).toNat = eg es k - stN es k by omega]) ?_
  exact j_vret h hq rfl dX1_addPieceTo_18
set_option maxHeartbeats 400000 in
set_option maxRecDepth 20000 in
theorem c_X1_addJoinedTo {E : EV} (hE : EOK E) {S : SC} {g0 : GH} {p : Nat} (hp : p < 4) {es : List Nat} (hs : S.2.2 p = es) {as : List Int32} (ha : S.1 (26 + p) = as) {t : Nat} (ht : t < 30) {xs : List Int32} (hx : S.1 t = xs) (hne : 26 + p ≠ t) {x : Int32} (hok : eOK es as.length) (hcp : xs.length + (jn as es x 0 es.length).length ≤ cap t) : Ct E (RC E g0) yX1_addJoinedTo wsX1_addJoinedTo rX1_addJoinedTo [eA E (66 + p), eA E t, .int x] S none (setT S t (xs ++ jn as es x 0 es.length)) := by
  refine ct_of [(0, _), (1, _), (2, _)] hE (by decide) rfl (Nat.le_of_ble_eq_true rfl) rfl (fun X h hq => ?_)
  refine j_of (fun G hG => (hG.2.1 p hp).2.1) (fun hle => ?_)
  rw [hs] at hle
  refine j_of (fun G hG => RC_len hG (show 26 + p < 30 by omega)) (fun hla => ?_)
  rw [ha] at hla
  have hca : cap (26 + p) = 300 := by unfold cap; rw [if_neg (by omega), if_neg (by omega)]
  refine j_iconst h dX1_addJoinedTo_0 ?_
  refine j_istore_n h [(3, _), (0, _), (1, _), (2, _)] dX1_addJoinedTo_1 rfl (by decide) rfl ?_
  refine j_sub [0, 1, 2, 3] rfl ?_
  refine j_S (S2 := setT S t xs) (by rw [← hx, setT_id]) ?_
  refine lpA2 (fun (z : Int) (us : List Int32) => (es.length - z).toNat) (fun (z : Int) (us : List Int32) => 0 ≤ z → z ≤ es.length → us ++ jn as es x z.toNat (es.length - z.toNat) = xs ++ jn as es x 0 es.length → JL E (RC E g0) X 2 [(3, .int (iI z)), (0, eA E (66 + p)), (1, eA E t), (2, .int x)] [] (setT S t us)) (fun z us ih h0 hb hv => ?_) 0 xs (Int.le_refl 0) (by omega) rfl
  refine j_iload_n h 0 dX1_addJoinedTo_2 rfl rfl ?_
  refine j_aload_n h 1 dX1_addJoinedTo_3 rfl rfl ?_
  refine jx_Psize h hs a_f_X1_24 (by omega) dX1_addJoinedTo_4 ?_
  refine j_icmp_ge h 31 dX1_addJoinedTo_7 (by decide) (by first | exact okI_of _ | exact okI_b _ | exact okI_sgz _ _ | assumption | (unfold okI; omega)) (by first | exact okI_of _ | exact okI_b _ | exact okI_sgz _ _ | assumption | (unfold okI; omega)) (fun c7 => ?_) (fun c7 => ?_)
  · rw [show es.length - z.toNat = 0 by omega, jn, List.append_nil] at hv
    rw [← hv] at hq
    exact j_vret h hq rfl dX1_addJoinedTo_31
  · have hv0 := hv
    have hlen := congrArg List.length hv
    obtain ⟨k, rfl⟩ : ∃ k : Nat, z = k := ⟨z.toNat, by omega⟩
    rw [show es.length - ((k : Int)).toNat = es.length - ((k : Int) + 1).toNat + 1 by omega, jn, Int.toNat_natCast, show k + 1 = ((k : Int) + 1).toNat by omega] at hv
    rw [show es.length - ((k : Int)).toNat = es.length - ((k : Int) + 1).toNat + 1 by omega, jn, Int.toNat_natCast] at hlen
    simp only [List.length_append, pce, sl_len] at hlen
    refine j_iload_n h 0 dX1_addJoinedTo_10 rfl rfl ?_
    refine j_if_le h 19 dX1_addJoinedTo_11 (by decide) (by first | exact okI_of _ | exact okI_b _ | exact okI_sgz _ _ | assumption | (unfold okI; omega)) (fun c11 => ?_) (fun c11 => ?_)
    · rw [if_pos (by omega), List.nil_append, ← List.append_assoc] at hv
      rw [if_pos (by omega)] at hlen
      simp only [List.length_nil] at hlen
      have eh : (setT S t us).1 t = us := setT_1s _ _ _
      refine j_aload_n h 1 dX1_addJoinedTo_19 rfl rfl ?_
      refine j_aload_n h 2 dX1_addJoinedTo_20 rfl rfl ?_
      refine j_iload_n h 0 dX1_addJoinedTo_21 rfl rfl ?_
      refine j_callVv h (c_X1_addPieceTo hE hp (S := setT S t _) hs (as := as) (by rw [setT_1n _ _ hne]; exact ha) ht eh hne (by omega) hok (by first | omega | (simp only [List.length_append, List.length_cons, List.length_nil]; omega))) m_X1_addPieceTo a_l_X1_57 rfl rfl ⟨Nat.le_of_ble_eq_true rfl, Nat.le_of_ble_eq_true rfl⟩ (ci := 1) rfl (by omega) (rcP (by omega)) rfl rfl (Nat.le_of_ble_eq_true rfl) dX1_addJoinedTo_22 ?_
      rw [setT_T]
      refine j_iinc h 0 [(3, _), (0, _), (1, _), (2, _)] dX1_addJoinedTo_25 rfl (by decide) rfl ?_
      refine j_goto h 2 dX1_addJoinedTo_28 (by decide) ?_
      exact ih ((k : Int) + 1) _ (by omega) (by omega) (by omega) hv
    · rw [if_neg (by omega), ← List.append_assoc, ← List.append_assoc] at hv
      rw [if_neg (by omega)] at hlen
      simp only [List.length_cons, List.length_nil] at hlen
      refine j_aload_n h 2 dX1_addJoinedTo_14 rfl rfl ?_
      refine j_iload_n h 3 dX1_addJoinedTo_15 rfl rfl ?_
      refine j_callVv h (c_X2_add hE ht (xs := us) (setT_1s _ _ _) (by omega)) m_X2_add a_l_X1_41 rfl rfl ⟨Nat.le_of_ble_eq_true rfl, Nat.le_of_ble_eq_true rfl⟩ (ci := 2) rfl (by omega) (rcT (by omega)) rfl rfl (Nat.le_of_ble_eq_true rfl) dX1_addJoinedTo_16 ?_
      refine j_S (S2 := setT S t (us ++ [x])) (by rw [setT_T]) ?_
      have eh : (setT S t (us ++ [x])).1 t = us ++ [x] := setT_1s _ _ _
      refine j_aload_n h 1 dX1_addJoinedTo_19 rfl rfl ?_
      refine j_aload_n h 2 dX1_addJoinedTo_20 rfl rfl ?_
      refine j_iload_n h 0 dX1_addJoinedTo_21 rfl rfl ?_
      refine j_callVv h (c_X1_addPieceTo hE hp (S := setT S t _) hs (as := as) (by rw [setT_1n _ _ hne]; exact ha) ht eh hne (by omega) hok (by first | omega | (simp only [List.length_append, List.length_cons, List.length_nil]; omega))) m_X1_addPieceTo a_l_X1_57 rfl rfl ⟨Nat.le_of_ble_eq_true rfl, Nat.le_of_ble_eq_true rfl⟩ (ci := 1) rfl (by omega) (rcP (by omega)) rfl rfl (Nat.le_of_ble_eq_true rfl) dX1_addJoinedTo_22 ?_
      rw [setT_T]
      refine j_iinc h 0 [(3, _), (0, _), (1, _), (2, _)] dX1_addJoinedTo_25 rfl (by decide) rfl ?_
      refine j_goto h 2 dX1_addJoinedTo_28 (by decide) ?_
      exact ih ((k : Int) + 1) _ (by omega) (by omega) (by omega) hv
set_option maxHeartbeats 400000 in
set_option maxRecDepth 20000 in
theorem c_X1_sizeJoined {E : EV} (hE : EOK E) {S : SC} {g0 : GH} {p : Nat} (hp : p < 4) {es : List Nat} (hs : S.2.2 p = es) {as : List Int32} (ha : S.1 (26 + p) = as) : Ct E (RC E g0) yX1_sizeJoined wsX1_sizeJoined rX1_sizeJoined [eA E (66 + p)] S (some (.int (iI (as.length + mxI 0 (es.length - 1))))) S := by
  refine ct_of [(0, _)] hE (by decide) rfl (Nat.le_of_ble_eq_true rfl) rfl (fun X h hq => ?_)
  refine j_of (fun G hG => (hG.2.1 p hp).2.1) (fun hle => ?_)
  rw [hs] at hle
  refine j_of (fun G hG => RC_len hG (show 26 + p < 30 by omega)) (fun hla => ?_)
  rw [ha] at hla
  have hca : cap (26 + p) = 300 := by unfold cap; rw [if_neg (by omega), if_neg (by omega)]
  refine j_aload_n h 0 dX1_sizeJoined_0 rfl rfl ?_
  refine jg_Pall h a_f_X1_14 (by omega) dX1_sizeJoined_1 ?_
  refine j_callV h (c_X2_size hE (show 26 + p < 30 by omega) ha) m_X2_size a_l_X1_31 rfl rfl ⟨Nat.le_of_ble_eq_true rfl, Nat.le_of_ble_eq_true rfl⟩ (ci := 2) rfl (by omega) (rcT (by omega)) rfl rfl (Nat.le_of_ble_eq_true rfl) dX1_sizeJoined_4 ?_
  refine j_iconst h dX1_sizeJoined_7 ?_
  refine j_aload_n h 0 dX1_sizeJoined_8 rfl rfl ?_
  refine jx_Psize h hs a_f_X1_24 (by omega) dX1_sizeJoined_9 ?_
  refine j_iconst h dX1_sizeJoined_12 ?_
  refine j_isub h dX1_sizeJoined_13 ?_
  refine j_max h (by first | exact okI_of _ | exact okI_b _ | exact okI_sgz _ _ | assumption | (unfold okI; omega)) (by first | exact okI_of _ | exact okI_b _ | exact okI_sgz _ _ | assumption | (unfold okI; omega)) a_l_X1_61 ⟨Nat.le_of_ble_eq_true rfl, Nat.le_of_ble_eq_true rfl⟩ (Nat.le_of_ble_eq_true rfl) dX1_sizeJoined_14 ?_
  refine j_iadd h dX1_sizeJoined_17 ?_
  exact j_iret h hq rfl dX1_sizeJoined_18
set_option maxHeartbeats 400000 in
set_option maxRecDepth 20000 in
theorem c_X1_foldAll {E : EV} (hE : EOK E) {S : SC} {g0 : GH} {p : Nat} (hp : p < 4) {es : List Nat} (hs : S.2.2 p = es) {as : List Int32} (ha : S.1 (26 + p) = as) {h0 : Int} (hok : eOK es as.length) : Ct E (RC E g0) yX1_foldAll wsX1_foldAll rX1_foldAll [eA E (66 + p), .long (lI h0)] S (some (.long (lI (pfd as es h0 0 es.length)))) S := by
  refine ct_of [(0, _), (1, _)] hE (by decide) rfl (Nat.le_of_ble_eq_true rfl) rfl (fun X h hq => ?_)
  refine j_of (fun G hG => (hG.2.1 p hp).2.1) (fun hle => ?_)
  rw [hs] at hle
  refine j_of (fun G hG => RC_len hG (show 26 + p < 30 by omega)) (fun hla => ?_)
  rw [ha] at hla
  have hca : cap (26 + p) = 300 := by unfold cap; rw [if_neg (by omega), if_neg (by omega)]
  refine j_lload_n h 1 dX1_foldAll_0 rfl rfl ?_
  refine j_lstore_n h [(3, _), (0, _), (1, _)] dX1_foldAll_1 rfl (by decide) rfl ?_
  refine j_iconst h dX1_foldAll_2 ?_
  refine j_istore h [(5, _), (3, _), (0, _), (1, _)] dX1_foldAll_3 (by decide) rfl ?_
  refine j_sub [0, 1, 2] rfl ?_
  refine lpA2 (fun (z a : Int) => (es.length - z).toNat) (fun (z a : Int) => 0 ≤ z → z ≤ es.length → pfd as es a z.toNat (es.length - z.toNat) = pfd as es h0 0 es.length → JL E (RC E g0) X 5 [(5, .int (iI z)), (3, .long (lI a)), (0, eA E (66 + p))] [] S) (fun z a ih hz hb hv => ?_) 0 h0 (Int.le_refl 0) (by omega) rfl
  refine j_iload h 0 dX1_foldAll_5 rfl ?_
  refine j_aload_n h 2 dX1_foldAll_7 rfl rfl ?_
  refine jx_Psize h hs a_f_X1_24 (by omega) dX1_foldAll_8 ?_
  refine j_icmp_ge h 41 dX1_foldAll_11 (by decide) (by first | exact okI_of _ | exact okI_b _ | exact okI_sgz _ _ | assumption | (unfold okI; omega)) (by first | exact okI_of _ | exact okI_b _ | exact okI_sgz _ _ | assumption | (unfold okI; omega)) (fun c11 => ?_) (fun c11 => ?_)
  · refine j_lload_n h 1 dX1_foldAll_41 rfl rfl ?_
    exact j_lret h hq (by rw [← hv, show es.length - z.toNat = 0 by omega, pfd]) dX1_foldAll_42
  · obtain ⟨k, rfl⟩ : ∃ k : Nat, z = k := ⟨z.toNat, by omega⟩
    have hokk := hok k (by omega)
    rw [show es.length - ((k : Int)).toNat = es.length - ((k : Int) + 1).toNat + 1 by omega, pfd, Int.toNat_natCast, show k + 1 = ((k : Int) + 1).toNat by omega] at hv
    refine j_aload_n h 2 dX1_foldAll_14 rfl rfl ?_
    refine jg_Pall h a_f_X1_14 (by omega) dX1_foldAll_15 ?_
    refine j_lload_n h 1 dX1_foldAll_18 rfl rfl ?_
    refine j_aload_n h 2 dX1_foldAll_19 rfl rfl ?_
    refine j_iload h 0 dX1_foldAll_20 rfl ?_
    refine j_callV h (c_X1_startOf hE hp hs (by omega) (by omega)) m_X1_startOf a_l_X1_47 rfl rfl ⟨Nat.le_of_ble_eq_true rfl, Nat.le_of_ble_eq_true rfl⟩ (ci := 1) rfl (by omega) (rcP (by omega)) rfl rfl (Nat.le_of_ble_eq_true rfl) dX1_foldAll_22 ?_
    rw [enI_st (by omega)]
    refine j_aload_n h 2 dX1_foldAll_25 rfl rfl ?_
    refine j_iload h 0 dX1_foldAll_26 rfl ?_
    refine j_callV h (c_X1_endOf hE hp hs (by unfold okI; omega)) m_X1_endOf a_l_X1_50 rfl rfl ⟨Nat.le_of_ble_eq_true rfl, Nat.le_of_ble_eq_true rfl⟩ (ci := 1) rfl (by omega) (rcP (by omega)) rfl rfl (Nat.le_of_ble_eq_true rfl) dX1_foldAll_28 ?_
    rw [enI_en (by omega)]
    refine j_callV h (c_X2_foldSpan hE (show 26 + p < 30 by omega) ha (by omega) (by omega) (by omega)) m_X2_foldSpan a_l_X1_74 rfl rfl ⟨Nat.le_of_ble_eq_true rfl, Nat.le_of_ble_eq_true rfl⟩ (ci := 2) rfl (by omega) (rcT (by omega)) rfl rfl (Nat.le_of_ble_eq_true rfl) dX1_foldAll_31 ?_
    rw [Int.toNat_natCast, show ((eg es k : Int) - stN es k).toNat = eg es k - stN es k by omega]
    refine j_lstore_n h [(3, _), (5, _), (0, _)] dX1_foldAll_34 rfl (by decide) rfl ?_
    refine j_iinc h 1 [(5, _), (3, _), (0, _)] dX1_foldAll_35 rfl (by decide) rfl ?_
    refine j_goto h 5 dX1_foldAll_38 (by decide) ?_
    exact ih ((k : Int) + 1) _ (by omega) (by omega) (by omega) hv
