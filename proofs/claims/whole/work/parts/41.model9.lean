/-! the reference: pieces -/
set_option maxHeartbeats 400000 in
set_option maxRecDepth 20000 in
theorem c_X4_putsPiece {E : EV} (hE : EOK E) {A : AS} {mk : List Int32} {g0 : GH} {m : Nat} (hm : m < A.2.1.2.length) (hb : mk.length < 99000) : Ct E (RM E g0) yX4_putsPiece wsX4_putsPiece rX4_putsPiece [eA E 76, .int (iI (m : Int))] (A, mk) none (A, mk ++ (pce A.2.1.1 A.2.1.2 m)) := by
  refine ct_of [(0, _), (1, _)] hE (by decide) rfl (Nat.le_of_ble_eq_true rfl) rfl (fun X h hq => ?_)
  refine j_of (fun G hG => RM_len hG) (fun hLM => ?_)
  have hok : okP A.2.1 := hLM.2.2.1
  have hokl := hok.2.2.1
  have hek := hok.1 m hm
  have hokm := hok.2.1
  have hL0 : LN 0 = 2400 := rfl
  have hL1 : LN 1 = 8 := rfl
  have hL2 : LN 2 = 300 := rfl
  have hL3 : LN 3 = 301 := rfl
  have hL4 : LN 4 = 301 := rfl
  have hL5 : LN 5 = 4800 := rfl
  have hL6 : LN 6 = 16 := rfl
  have hL7 : LN 7 = 2 := rfl
  have hL8 : LN 8 = 600 := rfl
  have hL9 : LN 9 = 602 := rfl
  have hL10 : LN 10 = 602 := rfl
  have hL11 : LN 11 = 300 := rfl
  refine j_iconst h dX4_putsPiece_0 ?_
  refine j_istore_n h [(2, _), (0, _), (1, _)] dX4_putsPiece_1 rfl (by decide) rfl ?_
  refine j_sub [0, 1, 2] rfl ?_
  refine lpA2 (fun (z : Int) (us : List Int32) => ((eg A.2.1.2 m - stN A.2.1.2 m) - z).toNat) (fun (z : Int) (us : List Int32) => 0 ≤ z → z ≤ ((eg A.2.1.2 m - stN A.2.1.2 m) : Nat) → us.length + ((eg A.2.1.2 m - stN A.2.1.2 m) - z.toNat) ≤ 99400 → us ++ sl A.2.1.1 (stN A.2.1.2 m + z.toNat) ((eg A.2.1.2 m - stN A.2.1.2 m) - z.toNat) = mk ++ (pce A.2.1.1 A.2.1.2 m) → JL E (RM E g0) X 2 [(2, .int (iI z)), (0, eA E 76), (1, .int (iI (m : Int)))] [] (A, us)) (fun z us ih h0 hzb hcp hv => ?_) 0 mk (Int.le_refl 0) (by omega) (by omega) rfl
  refine j_xM (fun F hF => ?_)
  have hp : pR (F 2) (F 3) (F 4) 0 0 A.2.1 := hF.2.1
  obtain ⟨r, hr1, hs1, hr2, hg1⟩ := hp m hm
  simp only [Nat.zero_add] at hr1 hs1 hg1
  refine j_iload_n h 0 dX4_putsPiece_2 rfl rfl ?_
  refine j_aload_n h 1 dX4_putsPiece_3 rfl rfl ?_
  refine jy_MpieceSizes h a_f_X4_22 dX4_putsPiece_4 ?_
  refine j_iload_n h 2 dX4_putsPiece_7 rfl rfl ?_
  refine jy_ld h (by omega) (by omega) (by omega) dX4_putsPiece_8 ?_
  refine j_top hs1 ?_
  refine j_icmp_ge h 35 dX4_putsPiece_9 (by decide) (by first | exact okI_of _ | exact okI_b _ | exact okI_sgz _ _ | assumption | (unfold okI; omega)) (by first | exact okI_of _ | exact okI_b _ | exact okI_sgz _ _ | assumption | (unfold okI; omega)) (fun c9 => ?_) (fun c9 => ?_)
  · have hq := fnX (A, us) rfl rfl hF (by rw [show ((eg A.2.1.2 m - stN A.2.1.2 m) - z.toNat) = 0 by omega, sl, List.append_nil] at hv; rw [hv]; exact hq)
    exact j_vret h hq rfl dX4_putsPiece_35
  · refine j_aload_n h 1 dX4_putsPiece_12 rfl rfl ?_
    refine j_aload_n h 1 dX4_putsPiece_13 rfl rfl ?_
    refine jy_Mparted h a_f_X4_16 dX4_putsPiece_14 ?_
    refine j_aload_n h 1 dX4_putsPiece_17 rfl rfl ?_
    refine jy_MpieceFroms h a_f_X4_19 dX4_putsPiece_18 ?_
    refine j_iload_n h 2 dX4_putsPiece_21 rfl rfl ?_
    refine jy_ld h (by omega) (by omega) (by omega) dX4_putsPiece_22 ?_
    refine j_top hr1 ?_
    refine j_iload_n h 0 dX4_putsPiece_23 rfl rfl ?_
    refine j_iadd h dX4_putsPiece_24 ?_
    refine jy_ld h (by omega) (by omega) (by omega) dX4_putsPiece_25 ?_
    refine j_top (y := gz A.2.1.1 (stN A.2.1.2 m + z.toNat)) (by have := hg1 z.toNat (by omega); rw [show ((r : Int) + z).toNat = r + z.toNat by omega]; exact this) ?_
    refine j_xB (A, us) rfl rfl hF ?_
    refine j_callVv h (c_X4_puts hE (by omega)) m_X4_puts a_l_X4_62 rfl rfl ⟨Nat.le_of_ble_eq_true rfl, Nat.le_of_ble_eq_true rfl⟩ (ci := 4) rfl (by omega) (rcM) rfl rfl (Nat.le_of_ble_eq_true rfl) dX4_putsPiece_26 ?_
    refine j_iinc h 0 [(2, _), (0, _), (1, _)] dX4_putsPiece_29 rfl (by decide) rfl ?_
    refine j_goto h 2 dX4_putsPiece_32 (by decide) ?_
    rw [show (eg A.2.1.2 m - stN A.2.1.2 m) - z.toNat = (eg A.2.1.2 m - stN A.2.1.2 m) - (z + 1).toNat + 1 by omega, sl, show stN A.2.1.2 m + z.toNat + 1 = stN A.2.1.2 m + (z + 1).toNat by omega, List.append_cons] at hv
    exact ih (z + 1) _ (by omega) (by omega) (by omega) (by simp only [List.length_append, List.length_cons, List.length_nil]; omega) hv
set_option maxHeartbeats 400000 in
set_option maxRecDepth 20000 in
theorem q_piece {E : EV} (hE : EOK E) {A : AS} {g0 : GH} {k : Int} (hk : okI k) {to : Int} (hto : okI to) : Ct E (RMP E g0) yX4_piece wsX4_piece rX4_piece [eA E 76, .int (iI k), .int (iI to)] A (some (.int (iI (piA A k to).1))) (piA A k to).2 := by
  refine ct_of [(0, _), (1, _), (2, _)] hE (by decide) rfl (Nat.le_of_ble_eq_true rfl) rfl (fun X h hq => ?_)
  refine j_exM (fun mk => ?_)
  refine j_of (fun G hG => RM_len hG) (fun hLM => ?_)
  dsimp only at *
  have hok : okP A.2.1 := hLM.2.2.1
  have hokl := hok.2.2.1
  have hokm := hok.2.1
  refine j_iload_n h 1 dX4_piece_0 rfl rfl ?_
  refine j_iconst h dX4_piece_1 ?_
  refine j_aload_n h 0 dX4_piece_2 rfl rfl ?_
  refine jg_MpieceMany h a_f_X4_138 dX4_piece_3 ?_
  refine j_iconst h dX4_piece_6 ?_
  refine j_isub h dX4_piece_7 ?_
  refine j_callS h (c_X4_isIn hE hk ⟨by decide, by decide⟩ (by unfold okI; omega)) m_X4_isIn a_l_X4_46 rfl rfl ⟨Nat.le_of_ble_eq_true rfl, Nat.le_of_ble_eq_true rfl⟩ rfl rfl (Nat.le_of_ble_eq_true rfl) dX4_piece_8 ?_
  refine j_if_ne h 17 dX4_piece_11 (by decide) (by first | exact okI_of _ | exact okI_b _ | exact okI_sgz _ _ | assumption | (unfold okI; omega)) (fun c11 => ?_) (fun c11 => ?_)
  · rw [bI_n0, decide_eq_true_eq] at c11
    obtain ⟨m, rfl⟩ : ∃ m : Nat, k = m := ⟨k.toNat, by omega⟩
    have hek := hok.1 m (by omega)
    have hpl : (pce A.2.1.1 A.2.1.2 m).length ≤ 300 := by unfold pce; rw [sl_len]; omega
    refine j_aload_n h 0 dX4_piece_17 rfl rfl ?_
    refine j_callVv h (c_X4_begins hE) m_X4_begins a_l_X4_75 rfl rfl ⟨Nat.le_of_ble_eq_true rfl, Nat.le_of_ble_eq_true rfl⟩ (ci := 4) rfl (by omega) (rcM) rfl rfl (Nat.le_of_ble_eq_true rfl) dX4_piece_18 ?_
    refine j_aload_n h 0 dX4_piece_21 rfl rfl ?_
    refine j_iload_n h 1 dX4_piece_22 rfl rfl ?_
    refine j_callVv h (c_X4_putsPiece hE (m := m) (by omega) (by simp)) m_X4_putsPiece a_l_X4_148 rfl rfl ⟨Nat.le_of_ble_eq_true rfl, Nat.le_of_ble_eq_true rfl⟩ (ci := 4) rfl (by omega) (rcM) rfl rfl (Nat.le_of_ble_eq_true rfl) dX4_piece_23 ?_
    rw [List.nil_append]
    refine j_aload_n h 0 dX4_piece_26 rfl rfl ?_
    refine j_iload_n h 2 dX4_piece_27 rfl rfl ?_
    refine j_callV h (c_lays hE hto) m_X4_lays a_l_X4_82 rfl rfl ⟨Nat.le_of_ble_eq_true rfl, Nat.le_of_ble_eq_true rfl⟩ (ci := 4) rfl (by omega) (rcM) rfl rfl (Nat.le_of_ble_eq_true rfl) dX4_piece_28 ?_
    have e : piA A m to = lyA A to ((pce A.2.1.1 A.2.1.2 m)) := by unfold piA lyA; rw [if_pos (by omega), Int.toNat_natCast, if_pos hpl]
    rw [e] at hq
    have hq := fnM ((pce A.2.1.1 A.2.1.2 m)) hq
    exact j_iret h hq rfl dX4_piece_31
  · rw [bI_0, decide_eq_false_iff_not] at c11
    refine j_ldc h (-1000002) a_k_X4_87 (by decide) dX4_piece_14 ?_
    have e : piA A k to = (-1000002, A) := by unfold piA; rw [if_neg (by omega)]
    rw [e] at hq
    have hq := fnM (mk) hq
    exact j_iret h hq rfl dX4_piece_16
set_option maxHeartbeats 400000 in
set_option maxRecDepth 20000 in
theorem q_join {E : EV} (hE : EOK E) {A : AS} {g0 : GH} {x : Int} (hx : okI x) {to : Int} (hto : okI to) : Ct E (RMP E g0) yX4_join wsX4_join rX4_join [eA E 76, .int (iI x), .int (iI to)] A (some (.int (iI (joA A x to).1))) (joA A x to).2 := by
  refine ct_of [(0, _), (1, _), (2, _)] hE (by decide) rfl (Nat.le_of_ble_eq_true rfl) rfl (fun X h hq => ?_)
  refine j_exM (fun mk => ?_)
  refine j_of (fun G hG => RM_len hG) (fun hLM => ?_)
  dsimp only at *
  have hok : okP A.2.1 := hLM.2.2.1
  have hokl := hok.2.2.1
  have hokm := hok.2.1
  have hjl := jnQ_len A.2.1 (iI x) hok
  have hmx : mxI 0 ((A.2.1.2.length : Int) - 1) ≤ 301 ∧ 0 ≤ mxI 0 ((A.2.1.2.length : Int) - 1) := by unfold mxI; split <;> omega
  refine j_iload_n h 1 dX4_join_0 rfl rfl ?_
  refine j_callS h (c_X4_isSign hE hx) m_X4_isSign a_l_X4_70 rfl rfl ⟨Nat.le_of_ble_eq_true rfl, Nat.le_of_ble_eq_true rfl⟩ rfl rfl (Nat.le_of_ble_eq_true rfl) dX4_join_1 ?_
  refine j_if_ne h 10 dX4_join_4 (by decide) (by first | exact okI_of _ | exact okI_b _ | exact okI_sgz _ _ | assumption | (unfold okI; omega)) (fun c4 => ?_) (fun c4 => ?_)
  · rw [bI_n0] at c4
    refine j_aload_n h 0 dX4_join_10 rfl rfl ?_
    refine j_callVv h (c_X4_begins hE) m_X4_begins a_l_X4_75 rfl rfl ⟨Nat.le_of_ble_eq_true rfl, Nat.le_of_ble_eq_true rfl⟩ (ci := 4) rfl (by omega) (rcM) rfl rfl (Nat.le_of_ble_eq_true rfl) dX4_join_11 ?_
    refine j_iconst h dX4_join_14 ?_
    refine j_istore_n h [(3, _), (0, _), (1, _), (2, _)] dX4_join_15 rfl (by decide) rfl ?_
    refine j_sub [0, 1, 2, 3] rfl ?_
    refine lpA2 (fun (z : Int) (us : List Int32) => ((A.2.1.2.length : Int) - z).toNat) (fun (z : Int) (us : List Int32) => 0 ≤ z → z ≤ A.2.1.2.length → us ++ jn A.2.1.1 A.2.1.2 (iI x) z.toNat ((A.2.1.2.length : Int) - z).toNat = jnQ A.2.1 (iI x) → JL E (RM E g0) X 16 [(3, .int (iI z)), (0, eA E 76), (1, .int (iI x)), (2, .int (iI to))] [] (A, us)) (fun z us ih h0 hzb hv => ?_) 0 [] (Int.le_refl 0) (by omega) (by rw [Int.sub_zero, Int.toNat_natCast]; rfl)
    have hul := congrArg List.length hv
    rw [List.length_append] at hul
    refine j_iload_n h 0 dX4_join_16 rfl rfl ?_
    refine j_aload_n h 1 dX4_join_17 rfl rfl ?_
    refine jg_MpieceMany h a_f_X4_138 dX4_join_18 ?_
    refine j_icmp_ge h 44 dX4_join_21 (by decide) (by first | exact okI_of _ | exact okI_b _ | exact okI_sgz _ _ | assumption | (unfold okI; omega)) (by first | exact okI_of _ | exact okI_b _ | exact okI_sgz _ _ | assumption | (unfold okI; omega)) (fun c21 => ?_) (fun c21 => ?_)
    · refine j_aload_n h 1 dX4_join_44 rfl rfl ?_
      refine j_iload_n h 3 dX4_join_45 rfl rfl ?_
      refine j_callV h (c_lays hE hto) m_X4_lays a_l_X4_82 rfl rfl ⟨Nat.le_of_ble_eq_true rfl, Nat.le_of_ble_eq_true rfl⟩ (ci := 4) rfl (by omega) (rcM) rfl rfl (Nat.le_of_ble_eq_true rfl) dX4_join_46 ?_
      rw [show ((A.2.1.2.length : Int) - z).toNat = 0 by omega, jn, List.append_nil] at hv
      have e : joA A x to = lyA A to (us) := by unfold joA lyA; rw [if_pos c4, hv, ← hjl]; by_cases q : (jnQ A.2.1 (iI x)).length ≤ 300; rw [if_pos (by omega), if_pos q]; rw [if_neg (by omega), if_neg q]
      rw [e] at hq
      have hq := fnM (us) hq
      exact j_iret h hq rfl dX4_join_49
    · obtain ⟨m, hzm⟩ : ∃ m : Nat, z = m := ⟨z.toNat, by omega⟩
      subst hzm
      have hek := hok.1 m (by omega)
      have hpl : (pce A.2.1.1 A.2.1.2 m).length ≤ 300 := by unfold pce; rw [sl_len]; omega
      refine j_iload_n h 0 dX4_join_24 rfl rfl ?_
      refine j_if_le h 33 dX4_join_25 (by decide) (by first | exact okI_of _ | exact okI_b _ | exact okI_sgz _ _ | assumption | (unfold okI; omega)) (fun c25 => ?_) (fun c25 => ?_)
      · refine j_aload_n h 1 dX4_join_33 rfl rfl ?_
        refine j_iload_n h 0 dX4_join_34 rfl rfl ?_
        refine j_callVv h (c_X4_putsPiece hE (m := m) (by omega) (by first | omega | (simp only [List.length_append, List.length_cons, List.length_nil]; omega))) m_X4_putsPiece a_l_X4_148 rfl rfl ⟨Nat.le_of_ble_eq_true rfl, Nat.le_of_ble_eq_true rfl⟩ (ci := 4) rfl (by omega) (rcM) rfl rfl (Nat.le_of_ble_eq_true rfl) dX4_join_35 ?_
        refine j_iinc h 0 [(3, _), (0, _), (1, _), (2, _)] dX4_join_38 rfl (by decide) rfl ?_
        refine j_goto h 16 dX4_join_41 (by decide) ?_
        rw [show ((A.2.1.2.length : Int) - (m : Int)).toNat = ((A.2.1.2.length : Int) - ((m : Int) + 1)).toNat + 1 by omega, jn, Int.toNat_natCast] at hv
        first | exact ih (m + 1) _ (by omega) (by omega) (by omega) (by rw [if_pos (by omega), List.nil_append, ← List.append_assoc] at hv; exact hv) | exact ih (m + 1) _ (by omega) (by omega) (by omega) (by rw [if_neg (by omega), ← List.append_assoc, ← List.append_assoc] at hv; exact hv)
      · refine j_aload_n h 1 dX4_join_28 rfl rfl ?_
        refine j_iload_n h 2 dX4_join_29 rfl rfl ?_
        refine j_callVv h (c_X4_puts hE (by omega)) m_X4_puts a_l_X4_62 rfl rfl ⟨Nat.le_of_ble_eq_true rfl, Nat.le_of_ble_eq_true rfl⟩ (ci := 4) rfl (by omega) (rcM) rfl rfl (Nat.le_of_ble_eq_true rfl) dX4_join_30 ?_
        refine j_aload_n h 1 dX4_join_33 rfl rfl ?_
        refine j_iload_n h 0 dX4_join_34 rfl rfl ?_
        refine j_callVv h (c_X4_putsPiece hE (m := m) (by omega) (by first | omega | (simp only [List.length_append, List.length_cons, List.length_nil]; omega))) m_X4_putsPiece a_l_X4_148 rfl rfl ⟨Nat.le_of_ble_eq_true rfl, Nat.le_of_ble_eq_true rfl⟩ (ci := 4) rfl (by omega) (rcM) rfl rfl (Nat.le_of_ble_eq_true rfl) dX4_join_35 ?_
        refine j_iinc h 0 [(3, _), (0, _), (1, _), (2, _)] dX4_join_38 rfl (by decide) rfl ?_
        refine j_goto h 16 dX4_join_41 (by decide) ?_
        rw [show ((A.2.1.2.length : Int) - (m : Int)).toNat = ((A.2.1.2.length : Int) - ((m : Int) + 1)).toNat + 1 by omega, jn, Int.toNat_natCast] at hv
        first | exact ih (m + 1) _ (by omega) (by omega) (by omega) (by rw [if_pos (by omega), List.nil_append, ← List.append_assoc] at hv; exact hv) | exact ih (m + 1) _ (by omega) (by omega) (by omega) (by rw [if_neg (by omega), ← List.append_assoc, ← List.append_assoc] at hv; exact hv)
  · rw [bI_0] at c4
    refine j_ldc h (-1000001) a_k_X4_74 (by decide) dX4_join_7 ?_
    have e : joA A x to = (-1000001, A) := by unfold joA; exact if_neg (fun w => by simp_all)
    rw [e] at hq
    have hq := fnM (mk) hq
    exact j_iret h hq rfl dX4_join_9
